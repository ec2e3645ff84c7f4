theorem dX0_init_0 : decode cX0_init 0 = .ok (.aload_n 0, 1) := by decide +kernel
theorem dX0_init_1 : decode cX0_init 1 = .ok (.invokespecial 3, 3) := by decide +kernel
theorem dX0_init_4 : decode cX0_init 4 = .ok (.aload_n 0, 1) := by decide +kernel
theorem dX0_init_5 : decode cX0_init 5 = .ok (.bipush 8, 2) := by decide +kernel
theorem dX0_init_7 : decode cX0_init 7 = .ok (.newarray .long, 2) := by decide +kernel
theorem dX0_init_9 : decode cX0_init 9 = .ok (.putfield 9, 3) := by decide +kernel
theorem dX0_init_12 : decode cX0_init 12 = .ok (.aload_n 0, 1) := by decide +kernel
theorem dX0_init_13 : decode cX0_init 13 = .ok (.bipush 8, 2) := by decide +kernel
theorem dX0_init_15 : decode cX0_init 15 = .ok (.newarray .long, 2) := by decide +kernel
theorem dX0_init_17 : decode cX0_init 17 = .ok (.putfield 15, 3) := by decide +kernel
theorem dX0_init_20 : decode cX0_init 20 = .ok (.aload_n 0, 1) := by decide +kernel
theorem dX0_init_21 : decode cX0_init 21 = .ok (.bipush 8, 2) := by decide +kernel
theorem dX0_init_23 : decode cX0_init 23 = .ok (.newarray .int, 2) := by decide +kernel
theorem dX0_init_25 : decode cX0_init 25 = .ok (.putfield 18, 3) := by decide +kernel
theorem dX0_init_28 : decode cX0_init 28 = .ok (.aload_n 0, 1) := by decide +kernel
theorem dX0_init_29 : decode cX0_init 29 = .ok (.aload_n 1, 1) := by decide +kernel
theorem dX0_init_30 : decode cX0_init 30 = .ok (.putfield 22, 3) := by decide +kernel
theorem dX0_init_33 : decode cX0_init 33 = .ok (.aload_n 0, 1) := by decide +kernel
theorem dX0_init_34 : decode cX0_init 34 = .ok (.iconst 0, 1) := by decide +kernel
theorem dX0_init_35 : decode cX0_init 35 = .ok (.putfield 26, 3) := by decide +kernel
theorem dX0_init_38 : decode cX0_init 38 = .ok (.return_, 1) := by decide +kernel
set_option maxRecDepth 20000 in
theorem ggX0_search_X11_contains : GoodIn wsX0_search wsX11_contains := goodIn_k tie_wsX0_search tie_wsX11_contains (by decide +kernel)
set_option maxRecDepth 20000 in
theorem gX0_search_X11_contains_n30 : GoodIn wsX0_search (wsX11_contains) := ggX0_search_X11_contains
set_option maxRecDepth 20000 in
theorem ggX0_search_X0_improve : GoodIn wsX0_search wsX0_improve := goodIn_k tie_wsX0_search tie_wsX0_improve (by decide +kernel)
set_option maxRecDepth 20000 in
theorem gX0_search_X0_improve : GoodIn wsX0_search (wsV RX0 34 RX0 yX0_improve wsX0_improve) := goodIn_app (goodIn_k (is := [1259, 1260, 1261, 31]) tie_wsX0_search rfl (by decide +kernel)) ggX0_search_X0_improve
theorem dX0_search_0 : decode cX0_search 0 = .ok (.aload_n 0, 1) := by decide +kernel
theorem dX0_search_1 : decode cX0_search 1 = .ok (.iload_n 1, 1) := by decide +kernel
theorem dX0_search_2 : decode cX0_search 2 = .ok (.iload_n 2, 1) := by decide +kernel
theorem dX0_search_3 : decode cX0_search 3 = .ok (.iconst (-1), 1) := by decide +kernel
theorem dX0_search_4 : decode cX0_search 4 = .ok (.ixor, 1) := by decide +kernel
theorem dX0_search_5 : decode cX0_search 5 = .ok (.iand, 1) := by decide +kernel
theorem dX0_search_6 : decode cX0_search 6 = .ok (.putfield 26, 3) := by decide +kernel
theorem dX0_search_9 : decode cX0_search 9 = .ok (.iconst 0, 1) := by decide +kernel
theorem dX0_search_10 : decode cX0_search 10 = .ok (.istore_n 3, 1) := by decide +kernel
theorem dX0_search_11 : decode cX0_search 11 = .ok (.iload_n 3, 1) := by decide +kernel
theorem dX0_search_12 : decode cX0_search 12 = .ok (.bipush 8, 2) := by decide +kernel
theorem dX0_search_14 : decode cX0_search 14 = .ok (.if_icmp .ge 42, 3) := by decide +kernel
theorem dX0_search_17 : decode cX0_search 17 = .ok (.aload_n 0, 1) := by decide +kernel
theorem dX0_search_18 : decode cX0_search 18 = .ok (.getfield 9, 3) := by decide +kernel
theorem dX0_search_21 : decode cX0_search 21 = .ok (.iload_n 3, 1) := by decide +kernel
theorem dX0_search_22 : decode cX0_search 22 = .ok (.lconst 1, 1) := by decide +kernel
theorem dX0_search_23 : decode cX0_search 23 = .ok (.lastore, 1) := by decide +kernel
theorem dX0_search_24 : decode cX0_search 24 = .ok (.aload_n 0, 1) := by decide +kernel
theorem dX0_search_25 : decode cX0_search 25 = .ok (.getfield 15, 3) := by decide +kernel
theorem dX0_search_28 : decode cX0_search 28 = .ok (.iload_n 3, 1) := by decide +kernel
theorem dX0_search_29 : decode cX0_search 29 = .ok (.lconst 1, 1) := by decide +kernel
theorem dX0_search_30 : decode cX0_search 30 = .ok (.lastore, 1) := by decide +kernel
theorem dX0_search_31 : decode cX0_search 31 = .ok (.aload_n 0, 1) := by decide +kernel
theorem dX0_search_32 : decode cX0_search 32 = .ok (.getfield 18, 3) := by decide +kernel
theorem dX0_search_35 : decode cX0_search 35 = .ok (.iload_n 3, 1) := by decide +kernel
theorem dX0_search_36 : decode cX0_search 36 = .ok (.iload_n 2, 1) := by decide +kernel
theorem dX0_search_37 : decode cX0_search 37 = .ok (.iload_n 3, 1) := by decide +kernel
theorem dX0_search_38 : decode cX0_search 38 = .ok (.invokestatic 30, 3) := by decide +kernel
theorem dX0_search_41 : decode cX0_search 41 = .ok (.ifCond .eq 7, 3) := by decide +kernel
theorem dX0_search_44 : decode cX0_search 44 = .ok (.iconst 1, 1) := by decide +kernel
theorem dX0_search_45 : decode cX0_search 45 = .ok (.goto 4, 3) := by decide +kernel
theorem dX0_search_48 : decode cX0_search 48 = .ok (.iconst 0, 1) := by decide +kernel
theorem dX0_search_49 : decode cX0_search 49 = .ok (.iastore, 1) := by decide +kernel
theorem dX0_search_50 : decode cX0_search 50 = .ok (.iinc 3 1, 3) := by decide +kernel
theorem dX0_search_53 : decode cX0_search 53 = .ok (.goto (-42), 3) := by decide +kernel
theorem dX0_search_56 : decode cX0_search 56 = .ok (.iconst 0, 1) := by decide +kernel
theorem dX0_search_57 : decode cX0_search 57 = .ok (.istore_n 3, 1) := by decide +kernel
theorem dX0_search_58 : decode cX0_search 58 = .ok (.iload_n 3, 1) := by decide +kernel
theorem dX0_search_59 : decode cX0_search 59 = .ok (.bipush 8, 2) := by decide +kernel
theorem dX0_search_61 : decode cX0_search 61 = .ok (.if_icmp .ge 31, 3) := by decide +kernel
theorem dX0_search_64 : decode cX0_search 64 = .ok (.iconst 0, 1) := by decide +kernel
theorem dX0_search_65 : decode cX0_search 65 = .ok (.istore 4, 2) := by decide +kernel
theorem dX0_search_67 : decode cX0_search 67 = .ok (.iload 4, 2) := by decide +kernel
theorem dX0_search_69 : decode cX0_search 69 = .ok (.bipush 8, 2) := by decide +kernel
theorem dX0_search_71 : decode cX0_search 71 = .ok (.if_icmp .ge 15, 3) := by decide +kernel
theorem dX0_search_74 : decode cX0_search 74 = .ok (.aload_n 0, 1) := by decide +kernel
theorem dX0_search_75 : decode cX0_search 75 = .ok (.iload 4, 2) := by decide +kernel
theorem dX0_search_77 : decode cX0_search 77 = .ok (.invokevirtual 34, 3) := by decide +kernel
theorem dX0_search_80 : decode cX0_search 80 = .ok (.iinc 4 1, 3) := by decide +kernel
theorem dX0_search_83 : decode cX0_search 83 = .ok (.goto (-16), 3) := by decide +kernel
theorem dX0_search_86 : decode cX0_search 86 = .ok (.iinc 3 1, 3) := by decide +kernel
theorem dX0_search_89 : decode cX0_search 89 = .ok (.goto (-31), 3) := by decide +kernel
theorem dX0_search_92 : decode cX0_search 92 = .ok (.return_, 1) := by decide +kernel
set_option maxRecDepth 20000 in
theorem ggX0_lengthFrom_X11_isIndex : GoodIn wsX0_lengthFrom wsX11_isIndex := goodIn_k tie_wsX0_lengthFrom tie_wsX11_isIndex (by decide +kernel)
set_option maxRecDepth 20000 in
theorem gX0_lengthFrom_X11_isIndex_n38 : GoodIn wsX0_lengthFrom (wsX11_isIndex) := ggX0_lengthFrom_X11_isIndex
theorem dX0_lengthFrom_0 : decode cX0_lengthFrom 0 = .ok (.iload_n 1, 1) := by decide +kernel
theorem dX0_lengthFrom_1 : decode cX0_lengthFrom 1 = .ok (.invokestatic 38, 3) := by decide +kernel
theorem dX0_lengthFrom_4 : decode cX0_lengthFrom 4 = .ok (.ifCond .eq 12, 3) := by decide +kernel
theorem dX0_lengthFrom_7 : decode cX0_lengthFrom 7 = .ok (.aload_n 0, 1) := by decide +kernel
theorem dX0_lengthFrom_8 : decode cX0_lengthFrom 8 = .ok (.getfield 18, 3) := by decide +kernel
theorem dX0_lengthFrom_11 : decode cX0_lengthFrom 11 = .ok (.iload_n 1, 1) := by decide +kernel
theorem dX0_lengthFrom_12 : decode cX0_lengthFrom 12 = .ok (.iaload, 1) := by decide +kernel
theorem dX0_lengthFrom_13 : decode cX0_lengthFrom 13 = .ok (.goto 4, 3) := by decide +kernel
theorem dX0_lengthFrom_16 : decode cX0_lengthFrom 16 = .ok (.iconst 0, 1) := by decide +kernel
theorem dX0_lengthFrom_17 : decode cX0_lengthFrom 17 = .ok (.ireturn, 1) := by decide +kernel
set_option maxRecDepth 20000 in
theorem ggX0_product_X11_isIndex : GoodIn wsX0_product wsX11_isIndex := goodIn_k tie_wsX0_product tie_wsX11_isIndex (by decide +kernel)
set_option maxRecDepth 20000 in
theorem gX0_product_X11_isIndex_n38 : GoodIn wsX0_product (wsX11_isIndex) := ggX0_product_X11_isIndex
set_option maxRecDepth 20000 in
theorem ggX0_product_X11_commonDivisor : GoodIn wsX0_product wsX11_commonDivisor := goodIn_k tie_wsX0_product tie_wsX11_commonDivisor (by decide +kernel)
set_option maxRecDepth 20000 in
theorem gX0_product_X11_commonDivisor_n42 : GoodIn wsX0_product (wsX11_commonDivisor) := ggX0_product_X11_commonDivisor
theorem dX0_product_0 : decode cX0_product 0 = .ok (.iload_n 1, 1) := by decide +kernel
theorem dX0_product_1 : decode cX0_product 1 = .ok (.invokestatic 38, 3) := by decide +kernel
theorem dX0_product_4 : decode cX0_product 4 = .ok (.ifCond .ne 5, 3) := by decide +kernel
theorem dX0_product_7 : decode cX0_product 7 = .ok (.lconst 0, 1) := by decide +kernel
theorem dX0_product_8 : decode cX0_product 8 = .ok (.lreturn, 1) := by decide +kernel
theorem dX0_product_9 : decode cX0_product 9 = .ok (.aload_n 0, 1) := by decide +kernel
theorem dX0_product_10 : decode cX0_product 10 = .ok (.getfield 9, 3) := by decide +kernel
theorem dX0_product_13 : decode cX0_product 13 = .ok (.iload_n 1, 1) := by decide +kernel
theorem dX0_product_14 : decode cX0_product 14 = .ok (.laload, 1) := by decide +kernel
theorem dX0_product_15 : decode cX0_product 15 = .ok (.aload_n 0, 1) := by decide +kernel
theorem dX0_product_16 : decode cX0_product 16 = .ok (.getfield 15, 3) := by decide +kernel
theorem dX0_product_19 : decode cX0_product 19 = .ok (.iload_n 1, 1) := by decide +kernel
theorem dX0_product_20 : decode cX0_product 20 = .ok (.laload, 1) := by decide +kernel
theorem dX0_product_21 : decode cX0_product 21 = .ok (.invokestatic 42, 3) := by decide +kernel
theorem dX0_product_24 : decode cX0_product 24 = .ok (.lstore_n 3, 1) := by decide +kernel
theorem dX0_product_25 : decode cX0_product 25 = .ok (.lload_n 3, 1) := by decide +kernel
theorem dX0_product_26 : decode cX0_product 26 = .ok (.lconst 0, 1) := by decide +kernel
theorem dX0_product_27 : decode cX0_product 27 = .ok (.lcmp, 1) := by decide +kernel
theorem dX0_product_28 : decode cX0_product 28 = .ok (.ifCond .ne 5, 3) := by decide +kernel
theorem dX0_product_31 : decode cX0_product 31 = .ok (.lconst 0, 1) := by decide +kernel
theorem dX0_product_32 : decode cX0_product 32 = .ok (.lreturn, 1) := by decide +kernel
theorem dX0_product_33 : decode cX0_product 33 = .ok (.iload_n 2, 1) := by decide +kernel
theorem dX0_product_34 : decode cX0_product 34 = .ok (.ifCond .ne 14, 3) := by decide +kernel
theorem dX0_product_37 : decode cX0_product 37 = .ok (.aload_n 0, 1) := by decide +kernel
theorem dX0_product_38 : decode cX0_product 38 = .ok (.getfield 9, 3) := by decide +kernel
theorem dX0_product_41 : decode cX0_product 41 = .ok (.iload_n 1, 1) := by decide +kernel
theorem dX0_product_42 : decode cX0_product 42 = .ok (.laload, 1) := by decide +kernel
theorem dX0_product_43 : decode cX0_product 43 = .ok (.lload_n 3, 1) := by decide +kernel
theorem dX0_product_44 : decode cX0_product 44 = .ok (.ldiv, 1) := by decide +kernel
theorem dX0_product_45 : decode cX0_product 45 = .ok (.goto 11, 3) := by decide +kernel
theorem dX0_product_48 : decode cX0_product 48 = .ok (.aload_n 0, 1) := by decide +kernel
theorem dX0_product_49 : decode cX0_product 49 = .ok (.getfield 15, 3) := by decide +kernel
theorem dX0_product_52 : decode cX0_product 52 = .ok (.iload_n 1, 1) := by decide +kernel
theorem dX0_product_53 : decode cX0_product 53 = .ok (.laload, 1) := by decide +kernel
theorem dX0_product_54 : decode cX0_product 54 = .ok (.lload_n 3, 1) := by decide +kernel
theorem dX0_product_55 : decode cX0_product 55 = .ok (.ldiv, 1) := by decide +kernel
theorem dX0_product_56 : decode cX0_product 56 = .ok (.lreturn, 1) := by decide +kernel
set_option maxRecDepth 20000 in
theorem ggX0_stateAt_X0_following : GoodIn wsX0_stateAt wsX0_following := goodIn_k tie_wsX0_stateAt tie_wsX0_following (by decide +kernel)
set_option maxRecDepth 20000 in
theorem gX0_stateAt_X0_following : GoodIn wsX0_stateAt (wsV RX0 46 RX0 yX0_following wsX0_following) := goodIn_app (goodIn_k (is := [1282, 1283, 1284, 31]) tie_wsX0_stateAt rfl (by decide +kernel)) ggX0_stateAt_X0_following
theorem dX0_stateAt_0 : decode cX0_stateAt 0 = .ok (.iload_n 1, 1) := by decide +kernel
theorem dX0_stateAt_1 : decode cX0_stateAt 1 = .ok (.istore_n 3, 1) := by decide +kernel
theorem dX0_stateAt_2 : decode cX0_stateAt 2 = .ok (.iconst 0, 1) := by decide +kernel
theorem dX0_stateAt_3 : decode cX0_stateAt 3 = .ok (.istore 4, 2) := by decide +kernel
theorem dX0_stateAt_5 : decode cX0_stateAt 5 = .ok (.iload 4, 2) := by decide +kernel
theorem dX0_stateAt_7 : decode cX0_stateAt 7 = .ok (.iload_n 2, 1) := by decide +kernel
theorem dX0_stateAt_8 : decode cX0_stateAt 8 = .ok (.if_icmp .ge 22, 3) := by decide +kernel
theorem dX0_stateAt_11 : decode cX0_stateAt 11 = .ok (.iload 4, 2) := by decide +kernel
theorem dX0_stateAt_13 : decode cX0_stateAt 13 = .ok (.bipush 8, 2) := by decide +kernel
theorem dX0_stateAt_15 : decode cX0_stateAt 15 = .ok (.if_icmp .ge 15, 3) := by decide +kernel
theorem dX0_stateAt_18 : decode cX0_stateAt 18 = .ok (.aload_n 0, 1) := by decide +kernel
theorem dX0_stateAt_19 : decode cX0_stateAt 19 = .ok (.iload_n 3, 1) := by decide +kernel
theorem dX0_stateAt_20 : decode cX0_stateAt 20 = .ok (.invokevirtual 46, 3) := by decide +kernel
theorem dX0_stateAt_23 : decode cX0_stateAt 23 = .ok (.istore_n 3, 1) := by decide +kernel
theorem dX0_stateAt_24 : decode cX0_stateAt 24 = .ok (.iinc 4 1, 3) := by decide +kernel
theorem dX0_stateAt_27 : decode cX0_stateAt 27 = .ok (.goto (-22), 3) := by decide +kernel
theorem dX0_stateAt_30 : decode cX0_stateAt 30 = .ok (.iload_n 3, 1) := by decide +kernel
theorem dX0_stateAt_31 : decode cX0_stateAt 31 = .ok (.ireturn, 1) := by decide +kernel
set_option maxRecDepth 20000 in
theorem ggX0_improve_X0_isStep : GoodIn wsX0_improve wsX0_isStep := goodIn_k tie_wsX0_improve tie_wsX0_isStep (by decide +kernel)
set_option maxRecDepth 20000 in
theorem gX0_improve_X0_isStep : GoodIn wsX0_improve (wsV RX0 50 RX0 yX0_isStep wsX0_isStep) := goodIn_app (goodIn_k (is := [1263, 1264, 1265, 31]) tie_wsX0_improve rfl (by decide +kernel)) ggX0_improve_X0_isStep
set_option maxRecDepth 20000 in
theorem ggX0_improve_X0_gainOf : GoodIn wsX0_improve wsX0_gainOf := goodIn_k tie_wsX0_improve tie_wsX0_gainOf (by decide +kernel)
set_option maxRecDepth 20000 in
theorem gX0_improve_X0_gainOf : GoodIn wsX0_improve (wsV RX0 53 RX0 yX0_gainOf wsX0_gainOf) := goodIn_app (goodIn_k (is := [1272, 1273, 1274, 31]) tie_wsX0_improve rfl (by decide +kernel)) ggX0_improve_X0_gainOf
set_option maxRecDepth 20000 in
theorem ggX0_improve_X2_stepWeight : GoodIn wsX0_improve wsX2_stepWeight := goodIn_k tie_wsX0_improve tie_wsX2_stepWeight (by decide +kernel)
set_option maxRecDepth 20000 in
theorem gX0_improve_X2_stepWeight : GoodIn wsX0_improve (wsV RX0 57 RX2 yX2_stepWeight wsX2_stepWeight) := goodIn_app (goodIn_k (is := [1267, 995, 996, 14]) tie_wsX0_improve rfl (by decide +kernel)) ggX0_improve_X2_stepWeight
set_option maxRecDepth 20000 in
theorem ggX0_improve_X2_divisorOf : GoodIn wsX0_improve wsX2_divisorOf := goodIn_k tie_wsX0_improve tie_wsX2_divisorOf (by decide +kernel)
set_option maxRecDepth 20000 in
theorem gX0_improve_X2_divisorOf : GoodIn wsX0_improve (wsV RX0 63 RX2 yX2_divisorOf wsX2_divisorOf) := goodIn_app (goodIn_k (is := [1276, 404, 405, 14]) tie_wsX0_improve rfl (by decide +kernel)) ggX0_improve_X2_divisorOf
theorem dX0_improve_0 : decode cX0_improve 0 = .ok (.iconst 0, 1) := by decide +kernel
theorem dX0_improve_1 : decode cX0_improve 1 = .ok (.istore_n 2, 1) := by decide +kernel
theorem dX0_improve_2 : decode cX0_improve 2 = .ok (.iload_n 2, 1) := by decide +kernel
theorem dX0_improve_3 : decode cX0_improve 3 = .ok (.bipush 8, 2) := by decide +kernel
theorem dX0_improve_5 : decode cX0_improve 5 = .ok (.if_icmp .ge 137, 3) := by decide +kernel
theorem dX0_improve_8 : decode cX0_improve 8 = .ok (.aload_n 0, 1) := by decide +kernel
theorem dX0_improve_9 : decode cX0_improve 9 = .ok (.iload_n 1, 1) := by decide +kernel
theorem dX0_improve_10 : decode cX0_improve 10 = .ok (.iload_n 2, 1) := by decide +kernel
theorem dX0_improve_11 : decode cX0_improve 11 = .ok (.invokevirtual 50, 3) := by decide +kernel
theorem dX0_improve_14 : decode cX0_improve 14 = .ok (.ifCond .ne 6, 3) := by decide +kernel
theorem dX0_improve_17 : decode cX0_improve 17 = .ok (.goto 119, 3) := by decide +kernel
theorem dX0_improve_20 : decode cX0_improve 20 = .ok (.aload_n 0, 1) := by decide +kernel
theorem dX0_improve_21 : decode cX0_improve 21 = .ok (.iload_n 1, 1) := by decide +kernel
theorem dX0_improve_22 : decode cX0_improve 22 = .ok (.iload_n 2, 1) := by decide +kernel
theorem dX0_improve_23 : decode cX0_improve 23 = .ok (.invokevirtual 53, 3) := by decide +kernel
theorem dX0_improve_26 : decode cX0_improve 26 = .ok (.lstore_n 3, 1) := by decide +kernel
theorem dX0_improve_27 : decode cX0_improve 27 = .ok (.aload_n 0, 1) := by decide +kernel
theorem dX0_improve_28 : decode cX0_improve 28 = .ok (.getfield 18, 3) := by decide +kernel
theorem dX0_improve_31 : decode cX0_improve 31 = .ok (.iload_n 1, 1) := by decide +kernel
theorem dX0_improve_32 : decode cX0_improve 32 = .ok (.iaload, 1) := by decide +kernel
theorem dX0_improve_33 : decode cX0_improve 33 = .ok (.ifCond .ne 7, 3) := by decide +kernel
theorem dX0_improve_36 : decode cX0_improve 36 = .ok (.iconst 1, 1) := by decide +kernel
theorem dX0_improve_37 : decode cX0_improve 37 = .ok (.goto 4, 3) := by decide +kernel
theorem dX0_improve_40 : decode cX0_improve 40 = .ok (.iconst 0, 1) := by decide +kernel
theorem dX0_improve_41 : decode cX0_improve 41 = .ok (.istore 5, 2) := by decide +kernel
theorem dX0_improve_43 : decode cX0_improve 43 = .ok (.iload 5, 2) := by decide +kernel
theorem dX0_improve_45 : decode cX0_improve 45 = .ok (.ifCond .ne 32, 3) := by decide +kernel
theorem dX0_improve_48 : decode cX0_improve 48 = .ok (.lload_n 3, 1) := by decide +kernel
theorem dX0_improve_49 : decode cX0_improve 49 = .ok (.lconst 0, 1) := by decide +kernel
theorem dX0_improve_50 : decode cX0_improve 50 = .ok (.lcmp, 1) := by decide +kernel
theorem dX0_improve_51 : decode cX0_improve 51 = .ok (.ifCond .gt 26, 3) := by decide +kernel
theorem dX0_improve_54 : decode cX0_improve 54 = .ok (.lload_n 3, 1) := by decide +kernel
theorem dX0_improve_55 : decode cX0_improve 55 = .ok (.lconst 0, 1) := by decide +kernel
theorem dX0_improve_56 : decode cX0_improve 56 = .ok (.lcmp, 1) := by decide +kernel
theorem dX0_improve_57 : decode cX0_improve 57 = .ok (.ifCond .ne 79, 3) := by decide +kernel
theorem dX0_improve_60 : decode cX0_improve 60 = .ok (.aload_n 0, 1) := by decide +kernel
theorem dX0_improve_61 : decode cX0_improve 61 = .ok (.getfield 18, 3) := by decide +kernel
theorem dX0_improve_64 : decode cX0_improve 64 = .ok (.iload_n 2, 1) := by decide +kernel
theorem dX0_improve_65 : decode cX0_improve 65 = .ok (.iaload, 1) := by decide +kernel
theorem dX0_improve_66 : decode cX0_improve 66 = .ok (.iconst 1, 1) := by decide +kernel
theorem dX0_improve_67 : decode cX0_improve 67 = .ok (.iadd, 1) := by decide +kernel
theorem dX0_improve_68 : decode cX0_improve 68 = .ok (.aload_n 0, 1) := by decide +kernel
theorem dX0_improve_69 : decode cX0_improve 69 = .ok (.getfield 18, 3) := by decide +kernel
theorem dX0_improve_72 : decode cX0_improve 72 = .ok (.iload_n 1, 1) := by decide +kernel
theorem dX0_improve_73 : decode cX0_improve 73 = .ok (.iaload, 1) := by decide +kernel
theorem dX0_improve_74 : decode cX0_improve 74 = .ok (.if_icmp .ge 62, 3) := by decide +kernel
theorem dX0_improve_77 : decode cX0_improve 77 = .ok (.aload_n 0, 1) := by decide +kernel
theorem dX0_improve_78 : decode cX0_improve 78 = .ok (.getfield 9, 3) := by decide +kernel
theorem dX0_improve_81 : decode cX0_improve 81 = .ok (.iload_n 1, 1) := by decide +kernel
theorem dX0_improve_82 : decode cX0_improve 82 = .ok (.aload_n 0, 1) := by decide +kernel
theorem dX0_improve_83 : decode cX0_improve 83 = .ok (.getfield 22, 3) := by decide +kernel
theorem dX0_improve_86 : decode cX0_improve 86 = .ok (.iload_n 1, 1) := by decide +kernel
theorem dX0_improve_87 : decode cX0_improve 87 = .ok (.iload_n 2, 1) := by decide +kernel
theorem dX0_improve_88 : decode cX0_improve 88 = .ok (.invokevirtual 57, 3) := by decide +kernel
theorem dX0_improve_91 : decode cX0_improve 91 = .ok (.i2l, 1) := by decide +kernel
theorem dX0_improve_92 : decode cX0_improve 92 = .ok (.aload_n 0, 1) := by decide +kernel
theorem dX0_improve_93 : decode cX0_improve 93 = .ok (.getfield 9, 3) := by decide +kernel
theorem dX0_improve_96 : decode cX0_improve 96 = .ok (.iload_n 2, 1) := by decide +kernel
theorem dX0_improve_97 : decode cX0_improve 97 = .ok (.laload, 1) := by decide +kernel
theorem dX0_improve_98 : decode cX0_improve 98 = .ok (.lmul, 1) := by decide +kernel
theorem dX0_improve_99 : decode cX0_improve 99 = .ok (.lastore, 1) := by decide +kernel
theorem dX0_improve_100 : decode cX0_improve 100 = .ok (.aload_n 0, 1) := by decide +kernel
theorem dX0_improve_101 : decode cX0_improve 101 = .ok (.getfield 15, 3) := by decide +kernel
theorem dX0_improve_104 : decode cX0_improve 104 = .ok (.iload_n 1, 1) := by decide +kernel
theorem dX0_improve_105 : decode cX0_improve 105 = .ok (.aload_n 0, 1) := by decide +kernel
theorem dX0_improve_106 : decode cX0_improve 106 = .ok (.getfield 22, 3) := by decide +kernel
theorem dX0_improve_109 : decode cX0_improve 109 = .ok (.iload_n 1, 1) := by decide +kernel
theorem dX0_improve_110 : decode cX0_improve 110 = .ok (.invokevirtual 63, 3) := by decide +kernel
theorem dX0_improve_113 : decode cX0_improve 113 = .ok (.i2l, 1) := by decide +kernel
theorem dX0_improve_114 : decode cX0_improve 114 = .ok (.aload_n 0, 1) := by decide +kernel
theorem dX0_improve_115 : decode cX0_improve 115 = .ok (.getfield 15, 3) := by decide +kernel
theorem dX0_improve_118 : decode cX0_improve 118 = .ok (.iload_n 2, 1) := by decide +kernel
theorem dX0_improve_119 : decode cX0_improve 119 = .ok (.laload, 1) := by decide +kernel
theorem dX0_improve_120 : decode cX0_improve 120 = .ok (.lmul, 1) := by decide +kernel
theorem dX0_improve_121 : decode cX0_improve 121 = .ok (.lastore, 1) := by decide +kernel
theorem dX0_improve_122 : decode cX0_improve 122 = .ok (.aload_n 0, 1) := by decide +kernel
theorem dX0_improve_123 : decode cX0_improve 123 = .ok (.getfield 18, 3) := by decide +kernel
theorem dX0_improve_126 : decode cX0_improve 126 = .ok (.iload_n 1, 1) := by decide +kernel
theorem dX0_improve_127 : decode cX0_improve 127 = .ok (.aload_n 0, 1) := by decide +kernel
theorem dX0_improve_128 : decode cX0_improve 128 = .ok (.getfield 18, 3) := by decide +kernel
theorem dX0_improve_131 : decode cX0_improve 131 = .ok (.iload_n 2, 1) := by decide +kernel
theorem dX0_improve_132 : decode cX0_improve 132 = .ok (.iaload, 1) := by decide +kernel
theorem dX0_improve_133 : decode cX0_improve 133 = .ok (.iconst 1, 1) := by decide +kernel
theorem dX0_improve_134 : decode cX0_improve 134 = .ok (.iadd, 1) := by decide +kernel
theorem dX0_improve_135 : decode cX0_improve 135 = .ok (.iastore, 1) := by decide +kernel
theorem dX0_improve_136 : decode cX0_improve 136 = .ok (.iinc 2 1, 3) := by decide +kernel
theorem dX0_improve_139 : decode cX0_improve 139 = .ok (.goto (-137), 3) := by decide +kernel
theorem dX0_improve_142 : decode cX0_improve 142 = .ok (.return_, 1) := by decide +kernel
set_option maxRecDepth 20000 in
theorem ggX0_following_X0_isStep : GoodIn wsX0_following wsX0_isStep := goodIn_k tie_wsX0_following tie_wsX0_isStep (by decide +kernel)
set_option maxRecDepth 20000 in
theorem gX0_following_X0_isStep : GoodIn wsX0_following (wsV RX0 50 RX0 yX0_isStep wsX0_isStep) := goodIn_app (goodIn_k (is := [1263, 1264, 1265, 31]) tie_wsX0_following rfl (by decide +kernel)) ggX0_following_X0_isStep
set_option maxRecDepth 20000 in
theorem ggX0_following_X0_gainOf : GoodIn wsX0_following wsX0_gainOf := goodIn_k tie_wsX0_following tie_wsX0_gainOf (by decide +kernel)
set_option maxRecDepth 20000 in
theorem gX0_following_X0_gainOf : GoodIn wsX0_following (wsV RX0 53 RX0 yX0_gainOf wsX0_gainOf) := goodIn_app (goodIn_k (is := [1272, 1273, 1274, 31]) tie_wsX0_following rfl (by decide +kernel)) ggX0_following_X0_gainOf
set_option maxRecDepth 20000 in
theorem ggX0_following_X0_lengthFrom : GoodIn wsX0_following wsX0_lengthFrom := goodIn_k tie_wsX0_following tie_wsX0_lengthFrom (by decide +kernel)
set_option maxRecDepth 20000 in
theorem gX0_following_X0_lengthFrom : GoodIn wsX0_following (wsV RX0 66 RX0 yX0_lengthFrom wsX0_lengthFrom) := goodIn_app (goodIn_k (is := [1268, 1269, 1270, 31]) tie_wsX0_following rfl (by decide +kernel)) ggX0_following_X0_lengthFrom
theorem dX0_following_0 : decode cX0_following 0 = .ok (.iconst 0, 1) := by decide +kernel
theorem dX0_following_1 : decode cX0_following 1 = .ok (.istore_n 2, 1) := by decide +kernel
theorem dX0_following_2 : decode cX0_following 2 = .ok (.iload_n 2, 1) := by decide +kernel
theorem dX0_following_3 : decode cX0_following 3 = .ok (.bipush 8, 2) := by decide +kernel
theorem dX0_following_5 : decode cX0_following 5 = .ok (.if_icmp .ge 47, 3) := by decide +kernel
theorem dX0_following_8 : decode cX0_following 8 = .ok (.aload_n 0, 1) := by decide +kernel
theorem dX0_following_9 : decode cX0_following 9 = .ok (.iload_n 1, 1) := by decide +kernel
theorem dX0_following_10 : decode cX0_following 10 = .ok (.iload_n 2, 1) := by decide +kernel
theorem dX0_following_11 : decode cX0_following 11 = .ok (.invokevirtual 50, 3) := by decide +kernel
theorem dX0_following_14 : decode cX0_following 14 = .ok (.ifCond .eq 32, 3) := by decide +kernel
theorem dX0_following_17 : decode cX0_following 17 = .ok (.aload_n 0, 1) := by decide +kernel
theorem dX0_following_18 : decode cX0_following 18 = .ok (.iload_n 1, 1) := by decide +kernel
theorem dX0_following_19 : decode cX0_following 19 = .ok (.iload_n 2, 1) := by decide +kernel
theorem dX0_following_20 : decode cX0_following 20 = .ok (.invokevirtual 53, 3) := by decide +kernel
theorem dX0_following_23 : decode cX0_following 23 = .ok (.lconst 0, 1) := by decide +kernel
theorem dX0_following_24 : decode cX0_following 24 = .ok (.lcmp, 1) := by decide +kernel
theorem dX0_following_25 : decode cX0_following 25 = .ok (.ifCond .ne 21, 3) := by decide +kernel
theorem dX0_following_28 : decode cX0_following 28 = .ok (.aload_n 0, 1) := by decide +kernel
theorem dX0_following_29 : decode cX0_following 29 = .ok (.getfield 18, 3) := by decide +kernel
theorem dX0_following_32 : decode cX0_following 32 = .ok (.iload_n 2, 1) := by decide +kernel
theorem dX0_following_33 : decode cX0_following 33 = .ok (.iaload, 1) := by decide +kernel
theorem dX0_following_34 : decode cX0_following 34 = .ok (.iconst 1, 1) := by decide +kernel
theorem dX0_following_35 : decode cX0_following 35 = .ok (.iadd, 1) := by decide +kernel
theorem dX0_following_36 : decode cX0_following 36 = .ok (.aload_n 0, 1) := by decide +kernel
theorem dX0_following_37 : decode cX0_following 37 = .ok (.iload_n 1, 1) := by decide +kernel
theorem dX0_following_38 : decode cX0_following 38 = .ok (.invokevirtual 66, 3) := by decide +kernel
theorem dX0_following_41 : decode cX0_following 41 = .ok (.if_icmp .ne 5, 3) := by decide +kernel
theorem dX0_following_44 : decode cX0_following 44 = .ok (.iload_n 2, 1) := by decide +kernel
theorem dX0_following_45 : decode cX0_following 45 = .ok (.ireturn, 1) := by decide +kernel
theorem dX0_following_46 : decode cX0_following 46 = .ok (.iinc 2 1, 3) := by decide +kernel
theorem dX0_following_49 : decode cX0_following 49 = .ok (.goto (-47), 3) := by decide +kernel
theorem dX0_following_52 : decode cX0_following 52 = .ok (.iload_n 1, 1) := by decide +kernel
theorem dX0_following_53 : decode cX0_following 53 = .ok (.ireturn, 1) := by decide +kernel
set_option maxRecDepth 20000 in
theorem ggX0_isStep_X11_contains : GoodIn wsX0_isStep wsX11_contains := goodIn_k tie_wsX0_isStep tie_wsX11_contains (by decide +kernel)
set_option maxRecDepth 20000 in
theorem gX0_isStep_X11_contains_n30 : GoodIn wsX0_isStep (wsX11_contains) := ggX0_isStep_X11_contains
set_option maxRecDepth 20000 in
theorem ggX0_isStep_X2_stepWeight : GoodIn wsX0_isStep wsX2_stepWeight := goodIn_k tie_wsX0_isStep tie_wsX2_stepWeight (by decide +kernel)
set_option maxRecDepth 20000 in
theorem gX0_isStep_X2_stepWeight : GoodIn wsX0_isStep (wsV RX0 57 RX2 yX2_stepWeight wsX2_stepWeight) := goodIn_app (goodIn_k (is := [1267, 995, 996, 14]) tie_wsX0_isStep rfl (by decide +kernel)) ggX0_isStep_X2_stepWeight
set_option maxRecDepth 20000 in
theorem ggX0_isStep_X0_lengthFrom : GoodIn wsX0_isStep wsX0_lengthFrom := goodIn_k tie_wsX0_isStep tie_wsX0_lengthFrom (by decide +kernel)
set_option maxRecDepth 20000 in
theorem gX0_isStep_X0_lengthFrom : GoodIn wsX0_isStep (wsV RX0 66 RX0 yX0_lengthFrom wsX0_lengthFrom) := goodIn_app (goodIn_k (is := [1268, 1269, 1270, 31]) tie_wsX0_isStep rfl (by decide +kernel)) ggX0_isStep_X0_lengthFrom
theorem dX0_isStep_0 : decode cX0_isStep 0 = .ok (.aload_n 0, 1) := by decide +kernel
theorem dX0_isStep_1 : decode cX0_isStep 1 = .ok (.getfield 26, 3) := by decide +kernel
theorem dX0_isStep_4 : decode cX0_isStep 4 = .ok (.iload_n 1, 1) := by decide +kernel
theorem dX0_isStep_5 : decode cX0_isStep 5 = .ok (.invokestatic 30, 3) := by decide +kernel
theorem dX0_isStep_8 : decode cX0_isStep 8 = .ok (.ifCond .eq 27, 3) := by decide +kernel
theorem dX0_isStep_11 : decode cX0_isStep 11 = .ok (.aload_n 0, 1) := by decide +kernel
theorem dX0_isStep_12 : decode cX0_isStep 12 = .ok (.getfield 22, 3) := by decide +kernel
theorem dX0_isStep_15 : decode cX0_isStep 15 = .ok (.iload_n 1, 1) := by decide +kernel
theorem dX0_isStep_16 : decode cX0_isStep 16 = .ok (.iload_n 2, 1) := by decide +kernel
theorem dX0_isStep_17 : decode cX0_isStep 17 = .ok (.invokevirtual 57, 3) := by decide +kernel
theorem dX0_isStep_20 : decode cX0_isStep 20 = .ok (.ifCond .le 15, 3) := by decide +kernel
theorem dX0_isStep_23 : decode cX0_isStep 23 = .ok (.aload_n 0, 1) := by decide +kernel
theorem dX0_isStep_24 : decode cX0_isStep 24 = .ok (.iload_n 2, 1) := by decide +kernel
theorem dX0_isStep_25 : decode cX0_isStep 25 = .ok (.invokevirtual 66, 3) := by decide +kernel
theorem dX0_isStep_28 : decode cX0_isStep 28 = .ok (.ifCond .le 7, 3) := by decide +kernel
theorem dX0_isStep_31 : decode cX0_isStep 31 = .ok (.iconst 1, 1) := by decide +kernel
theorem dX0_isStep_32 : decode cX0_isStep 32 = .ok (.goto 4, 3) := by decide +kernel
theorem dX0_isStep_35 : decode cX0_isStep 35 = .ok (.iconst 0, 1) := by decide +kernel
theorem dX0_isStep_36 : decode cX0_isStep 36 = .ok (.ireturn, 1) := by decide +kernel
set_option maxRecDepth 20000 in
theorem ggX0_gainOf_X11_isIndex : GoodIn wsX0_gainOf wsX11_isIndex := goodIn_k tie_wsX0_gainOf tie_wsX11_isIndex (by decide +kernel)
set_option maxRecDepth 20000 in
theorem gX0_gainOf_X11_isIndex_n38 : GoodIn wsX0_gainOf (wsX11_isIndex) := ggX0_gainOf_X11_isIndex
set_option maxRecDepth 20000 in
theorem ggX0_gainOf_X2_stepWeight : GoodIn wsX0_gainOf wsX2_stepWeight := goodIn_k tie_wsX0_gainOf tie_wsX2_stepWeight (by decide +kernel)
set_option maxRecDepth 20000 in
theorem gX0_gainOf_X2_stepWeight : GoodIn wsX0_gainOf (wsV RX0 57 RX2 yX2_stepWeight wsX2_stepWeight) := goodIn_app (goodIn_k (is := [1267, 995, 996, 14]) tie_wsX0_gainOf rfl (by decide +kernel)) ggX0_gainOf_X2_stepWeight
set_option maxRecDepth 20000 in
theorem ggX0_gainOf_X2_divisorOf : GoodIn wsX0_gainOf wsX2_divisorOf := goodIn_k tie_wsX0_gainOf tie_wsX2_divisorOf (by decide +kernel)
set_option maxRecDepth 20000 in
theorem gX0_gainOf_X2_divisorOf : GoodIn wsX0_gainOf (wsV RX0 63 RX2 yX2_divisorOf wsX2_divisorOf) := goodIn_app (goodIn_k (is := [1276, 404, 405, 14]) tie_wsX0_gainOf rfl (by decide +kernel)) ggX0_gainOf_X2_divisorOf
theorem dX0_gainOf_0 : decode cX0_gainOf 0 = .ok (.iload_n 1, 1) := by decide +kernel
theorem dX0_gainOf_1 : decode cX0_gainOf 1 = .ok (.invokestatic 38, 3) := by decide +kernel
theorem dX0_gainOf_4 : decode cX0_gainOf 4 = .ok (.ifCond .eq 10, 3) := by decide +kernel
theorem dX0_gainOf_7 : decode cX0_gainOf 7 = .ok (.iload_n 2, 1) := by decide +kernel
theorem dX0_gainOf_8 : decode cX0_gainOf 8 = .ok (.invokestatic 38, 3) := by decide +kernel
theorem dX0_gainOf_11 : decode cX0_gainOf 11 = .ok (.ifCond .ne 5, 3) := by decide +kernel
theorem dX0_gainOf_14 : decode cX0_gainOf 14 = .ok (.lconst 0, 1) := by decide +kernel
theorem dX0_gainOf_15 : decode cX0_gainOf 15 = .ok (.lreturn, 1) := by decide +kernel
theorem dX0_gainOf_16 : decode cX0_gainOf 16 = .ok (.aload_n 0, 1) := by decide +kernel
theorem dX0_gainOf_17 : decode cX0_gainOf 17 = .ok (.getfield 22, 3) := by decide +kernel
theorem dX0_gainOf_20 : decode cX0_gainOf 20 = .ok (.iload_n 1, 1) := by decide +kernel
theorem dX0_gainOf_21 : decode cX0_gainOf 21 = .ok (.iload_n 2, 1) := by decide +kernel
theorem dX0_gainOf_22 : decode cX0_gainOf 22 = .ok (.invokevirtual 57, 3) := by decide +kernel
theorem dX0_gainOf_25 : decode cX0_gainOf 25 = .ok (.i2l, 1) := by decide +kernel
theorem dX0_gainOf_26 : decode cX0_gainOf 26 = .ok (.aload_n 0, 1) := by decide +kernel
theorem dX0_gainOf_27 : decode cX0_gainOf 27 = .ok (.getfield 9, 3) := by decide +kernel
theorem dX0_gainOf_30 : decode cX0_gainOf 30 = .ok (.iload_n 2, 1) := by decide +kernel
theorem dX0_gainOf_31 : decode cX0_gainOf 31 = .ok (.laload, 1) := by decide +kernel
theorem dX0_gainOf_32 : decode cX0_gainOf 32 = .ok (.lmul, 1) := by decide +kernel
theorem dX0_gainOf_33 : decode cX0_gainOf 33 = .ok (.aload_n 0, 1) := by decide +kernel
theorem dX0_gainOf_34 : decode cX0_gainOf 34 = .ok (.getfield 15, 3) := by decide +kernel
theorem dX0_gainOf_37 : decode cX0_gainOf 37 = .ok (.iload_n 1, 1) := by decide +kernel
theorem dX0_gainOf_38 : decode cX0_gainOf 38 = .ok (.laload, 1) := by decide +kernel
theorem dX0_gainOf_39 : decode cX0_gainOf 39 = .ok (.lmul, 1) := by decide +kernel
theorem dX0_gainOf_40 : decode cX0_gainOf 40 = .ok (.lstore_n 3, 1) := by decide +kernel
theorem dX0_gainOf_41 : decode cX0_gainOf 41 = .ok (.aload_n 0, 1) := by decide +kernel
theorem dX0_gainOf_42 : decode cX0_gainOf 42 = .ok (.getfield 9, 3) := by decide +kernel
theorem dX0_gainOf_45 : decode cX0_gainOf 45 = .ok (.iload_n 1, 1) := by decide +kernel
theorem dX0_gainOf_46 : decode cX0_gainOf 46 = .ok (.laload, 1) := by decide +kernel
theorem dX0_gainOf_47 : decode cX0_gainOf 47 = .ok (.aload_n 0, 1) := by decide +kernel
theorem dX0_gainOf_48 : decode cX0_gainOf 48 = .ok (.getfield 22, 3) := by decide +kernel
theorem dX0_gainOf_51 : decode cX0_gainOf 51 = .ok (.iload_n 1, 1) := by decide +kernel
theorem dX0_gainOf_52 : decode cX0_gainOf 52 = .ok (.invokevirtual 63, 3) := by decide +kernel
theorem dX0_gainOf_55 : decode cX0_gainOf 55 = .ok (.i2l, 1) := by decide +kernel
theorem dX0_gainOf_56 : decode cX0_gainOf 56 = .ok (.lmul, 1) := by decide +kernel
theorem dX0_gainOf_57 : decode cX0_gainOf 57 = .ok (.aload_n 0, 1) := by decide +kernel
theorem dX0_gainOf_58 : decode cX0_gainOf 58 = .ok (.getfield 15, 3) := by decide +kernel
theorem dX0_gainOf_61 : decode cX0_gainOf 61 = .ok (.iload_n 2, 1) := by decide +kernel
theorem dX0_gainOf_62 : decode cX0_gainOf 62 = .ok (.laload, 1) := by decide +kernel
theorem dX0_gainOf_63 : decode cX0_gainOf 63 = .ok (.lmul, 1) := by decide +kernel
theorem dX0_gainOf_64 : decode cX0_gainOf 64 = .ok (.lstore 5, 2) := by decide +kernel
theorem dX0_gainOf_66 : decode cX0_gainOf 66 = .ok (.lload_n 3, 1) := by decide +kernel
theorem dX0_gainOf_67 : decode cX0_gainOf 67 = .ok (.lload 5, 2) := by decide +kernel
theorem dX0_gainOf_69 : decode cX0_gainOf 69 = .ok (.lsub, 1) := by decide +kernel
theorem dX0_gainOf_70 : decode cX0_gainOf 70 = .ok (.lreturn, 1) := by decide +kernel
theorem dX1_init_0 : decode cX1_init 0 = .ok (.aload_n 0, 1) := by decide +kernel
theorem dX1_init_1 : decode cX1_init 1 = .ok (.invokespecial 1, 3) := by decide +kernel
theorem dX1_init_4 : decode cX1_init 4 = .ok (.aload_n 0, 1) := by decide +kernel
theorem dX1_init_5 : decode cX1_init 5 = .ok (.iload_n 1, 1) := by decide +kernel
theorem dX1_init_6 : decode cX1_init 6 = .ok (.putfield 7, 3) := by decide +kernel
theorem dX1_init_9 : decode cX1_init 9 = .ok (.aload_n 0, 1) := by decide +kernel
theorem dX1_init_10 : decode cX1_init 10 = .ok (.iload_n 2, 1) := by decide +kernel
theorem dX1_init_11 : decode cX1_init 11 = .ok (.putfield 13, 3) := by decide +kernel
theorem dX1_init_14 : decode cX1_init 14 = .ok (.aload_n 0, 1) := by decide +kernel
theorem dX1_init_15 : decode cX1_init 15 = .ok (.iload_n 3, 1) := by decide +kernel
theorem dX1_init_16 : decode cX1_init 16 = .ok (.putfield 16, 3) := by decide +kernel
theorem dX1_init_19 : decode cX1_init 19 = .ok (.aload_n 0, 1) := by decide +kernel
theorem dX1_init_20 : decode cX1_init 20 = .ok (.iload 4, 2) := by decide +kernel
theorem dX1_init_22 : decode cX1_init 22 = .ok (.putfield 20, 3) := by decide +kernel
theorem dX1_init_25 : decode cX1_init 25 = .ok (.return_, 1) := by decide +kernel
theorem dX1_admits_0 : decode cX1_admits 0 = .ok (.lload_n 1, 1) := by decide +kernel
theorem dX1_admits_1 : decode cX1_admits 1 = .ok (.aload_n 0, 1) := by decide +kernel
theorem dX1_admits_2 : decode cX1_admits 2 = .ok (.getfield 20, 3) := by decide +kernel
theorem dX1_admits_5 : decode cX1_admits 5 = .ok (.i2l, 1) := by decide +kernel
theorem dX1_admits_6 : decode cX1_admits 6 = .ok (.lmul, 1) := by decide +kernel
theorem dX1_admits_7 : decode cX1_admits 7 = .ok (.lstore 5, 2) := by decide +kernel
theorem dX1_admits_9 : decode cX1_admits 9 = .ok (.lload_n 3, 1) := by decide +kernel
theorem dX1_admits_10 : decode cX1_admits 10 = .ok (.aload_n 0, 1) := by decide +kernel
theorem dX1_admits_11 : decode cX1_admits 11 = .ok (.getfield 16, 3) := by decide +kernel
theorem dX1_admits_14 : decode cX1_admits 14 = .ok (.i2l, 1) := by decide +kernel
theorem dX1_admits_15 : decode cX1_admits 15 = .ok (.lmul, 1) := by decide +kernel
theorem dX1_admits_16 : decode cX1_admits 16 = .ok (.lstore 7, 2) := by decide +kernel
theorem dX1_admits_18 : decode cX1_admits 18 = .ok (.lload 5, 2) := by decide +kernel
theorem dX1_admits_20 : decode cX1_admits 20 = .ok (.lload 7, 2) := by decide +kernel
theorem dX1_admits_22 : decode cX1_admits 22 = .ok (.lcmp, 1) := by decide +kernel
theorem dX1_admits_23 : decode cX1_admits 23 = .ok (.ifCond .ne 8, 3) := by decide +kernel
theorem dX1_admits_26 : decode cX1_admits 26 = .ok (.aload_n 0, 1) := by decide +kernel
theorem dX1_admits_27 : decode cX1_admits 27 = .ok (.getfield 13, 3) := by decide +kernel
theorem dX1_admits_30 : decode cX1_admits 30 = .ok (.ireturn, 1) := by decide +kernel
theorem dX1_admits_31 : decode cX1_admits 31 = .ok (.aload_n 0, 1) := by decide +kernel
theorem dX1_admits_32 : decode cX1_admits 32 = .ok (.getfield 7, 3) := by decide +kernel
theorem dX1_admits_35 : decode cX1_admits 35 = .ok (.ifCond .eq 19, 3) := by decide +kernel
theorem dX1_admits_38 : decode cX1_admits 38 = .ok (.lload 5, 2) := by decide +kernel
theorem dX1_admits_40 : decode cX1_admits 40 = .ok (.lload 7, 2) := by decide +kernel
theorem dX1_admits_42 : decode cX1_admits 42 = .ok (.lcmp, 1) := by decide +kernel
theorem dX1_admits_43 : decode cX1_admits 43 = .ok (.ifCond .ge 7, 3) := by decide +kernel
theorem dX1_admits_46 : decode cX1_admits 46 = .ok (.iconst 1, 1) := by decide +kernel
theorem dX1_admits_47 : decode cX1_admits 47 = .ok (.goto 20, 3) := by decide +kernel
theorem dX1_admits_50 : decode cX1_admits 50 = .ok (.iconst 0, 1) := by decide +kernel
theorem dX1_admits_51 : decode cX1_admits 51 = .ok (.goto 16, 3) := by decide +kernel
theorem dX1_admits_54 : decode cX1_admits 54 = .ok (.lload 5, 2) := by decide +kernel
theorem dX1_admits_56 : decode cX1_admits 56 = .ok (.lload 7, 2) := by decide +kernel
theorem dX1_admits_58 : decode cX1_admits 58 = .ok (.lcmp, 1) := by decide +kernel
theorem dX1_admits_59 : decode cX1_admits 59 = .ok (.ifCond .le 7, 3) := by decide +kernel
theorem dX1_admits_62 : decode cX1_admits 62 = .ok (.iconst 1, 1) := by decide +kernel
theorem dX1_admits_63 : decode cX1_admits 63 = .ok (.goto 4, 3) := by decide +kernel
theorem dX1_admits_66 : decode cX1_admits 66 = .ok (.iconst 0, 1) := by decide +kernel
theorem dX1_admits_67 : decode cX1_admits 67 = .ok (.ireturn, 1) := by decide +kernel
theorem dX2_init_0 : decode cX2_init 0 = .ok (.aload_n 0, 1) := by decide +kernel
theorem dX2_init_1 : decode cX2_init 1 = .ok (.invokespecial 3, 3) := by decide +kernel
theorem dX2_init_4 : decode cX2_init 4 = .ok (.aload_n 0, 1) := by decide +kernel
theorem dX2_init_5 : decode cX2_init 5 = .ok (.bipush 64, 2) := by decide +kernel
theorem dX2_init_7 : decode cX2_init 7 = .ok (.newarray .int, 2) := by decide +kernel
theorem dX2_init_9 : decode cX2_init 9 = .ok (.putfield 9, 3) := by decide +kernel
theorem dX2_init_12 : decode cX2_init 12 = .ok (.aload_n 0, 1) := by decide +kernel
theorem dX2_init_13 : decode cX2_init 13 = .ok (.bipush 8, 2) := by decide +kernel
theorem dX2_init_15 : decode cX2_init 15 = .ok (.newarray .int, 2) := by decide +kernel
theorem dX2_init_17 : decode cX2_init 17 = .ok (.putfield 15, 3) := by decide +kernel
theorem dX2_init_20 : decode cX2_init 20 = .ok (.aload_n 0, 1) := by decide +kernel
theorem dX2_init_21 : decode cX2_init 21 = .ok (.bipush 8, 2) := by decide +kernel
theorem dX2_init_23 : decode cX2_init 23 = .ok (.newarray .int, 2) := by decide +kernel
theorem dX2_init_25 : decode cX2_init 25 = .ok (.putfield 18, 3) := by decide +kernel
theorem dX2_init_28 : decode cX2_init 28 = .ok (.return_, 1) := by decide +kernel
theorem dX2_size_0 : decode cX2_size 0 = .ok (.aload_n 0, 1) := by decide +kernel
theorem dX2_size_1 : decode cX2_size 1 = .ok (.getfield 21, 3) := by decide +kernel
theorem dX2_size_4 : decode cX2_size 4 = .ok (.ireturn, 1) := by decide +kernel
theorem dX2_has_0 : decode cX2_has 0 = .ok (.iload_n 1, 1) := by decide +kernel
theorem dX2_has_1 : decode cX2_has 1 = .ok (.ifCond .lt 21, 3) := by decide +kernel
theorem dX2_has_4 : decode cX2_has 4 = .ok (.iload_n 1, 1) := by decide +kernel
theorem dX2_has_5 : decode cX2_has 5 = .ok (.aload_n 0, 1) := by decide +kernel
theorem dX2_has_6 : decode cX2_has 6 = .ok (.getfield 21, 3) := by decide +kernel
theorem dX2_has_9 : decode cX2_has 9 = .ok (.if_icmp .ge 13, 3) := by decide +kernel
theorem dX2_has_12 : decode cX2_has 12 = .ok (.iload_n 1, 1) := by decide +kernel
theorem dX2_has_13 : decode cX2_has 13 = .ok (.bipush 8, 2) := by decide +kernel
theorem dX2_has_15 : decode cX2_has 15 = .ok (.if_icmp .ge 7, 3) := by decide +kernel
theorem dX2_has_18 : decode cX2_has 18 = .ok (.iconst 1, 1) := by decide +kernel
theorem dX2_has_19 : decode cX2_has 19 = .ok (.goto 4, 3) := by decide +kernel
theorem dX2_has_22 : decode cX2_has 22 = .ok (.iconst 0, 1) := by decide +kernel
theorem dX2_has_23 : decode cX2_has 23 = .ok (.ireturn, 1) := by decide +kernel
theorem dX2_all_0 : decode cX2_all 0 = .ok (.iconst 1, 1) := by decide +kernel
theorem dX2_all_1 : decode cX2_all 1 = .ok (.aload_n 0, 1) := by decide +kernel
theorem dX2_all_2 : decode cX2_all 2 = .ok (.getfield 21, 3) := by decide +kernel
theorem dX2_all_5 : decode cX2_all 5 = .ok (.ishl, 1) := by decide +kernel
theorem dX2_all_6 : decode cX2_all 6 = .ok (.iconst 1, 1) := by decide +kernel
theorem dX2_all_7 : decode cX2_all 7 = .ok (.isub, 1) := by decide +kernel
theorem dX2_all_8 : decode cX2_all 8 = .ok (.ireturn, 1) := by decide +kernel
theorem dX2_grow_0 : decode cX2_grow 0 = .ok (.aload_n 0, 1) := by decide +kernel
theorem dX2_grow_1 : decode cX2_grow 1 = .ok (.getfield 21, 3) := by decide +kernel
theorem dX2_grow_4 : decode cX2_grow 4 = .ok (.bipush 8, 2) := by decide +kernel
theorem dX2_grow_6 : decode cX2_grow 6 = .ok (.if_icmp .ge 13, 3) := by decide +kernel
theorem dX2_grow_9 : decode cX2_grow 9 = .ok (.aload_n 0, 1) := by decide +kernel
theorem dX2_grow_10 : decode cX2_grow 10 = .ok (.dup, 1) := by decide +kernel
theorem dX2_grow_11 : decode cX2_grow 11 = .ok (.getfield 21, 3) := by decide +kernel
theorem dX2_grow_14 : decode cX2_grow 14 = .ok (.iconst 1, 1) := by decide +kernel
theorem dX2_grow_15 : decode cX2_grow 15 = .ok (.iadd, 1) := by decide +kernel
theorem dX2_grow_16 : decode cX2_grow 16 = .ok (.putfield 21, 3) := by decide +kernel
theorem dX2_grow_19 : decode cX2_grow 19 = .ok (.return_, 1) := by decide +kernel
set_option maxRecDepth 20000 in
theorem ggX2_shrink_X2_putWeight : GoodIn wsX2_shrink wsX2_putWeight := goodIn_k tie_wsX2_shrink tie_wsX2_putWeight (by decide +kernel)
set_option maxRecDepth 20000 in
theorem gX2_shrink_X2_putWeight : GoodIn wsX2_shrink (wsV RX2 25 RX2 yX2_putWeight wsX2_putWeight) := goodIn_app (goodIn_k (is := [186, 187, 188, 14]) tie_wsX2_shrink rfl (by decide +kernel)) ggX2_shrink_X2_putWeight
set_option maxRecDepth 20000 in
theorem ggX2_shrink_X2_putLabels : GoodIn wsX2_shrink wsX2_putLabels := goodIn_k tie_wsX2_shrink tie_wsX2_putLabels (by decide +kernel)
set_option maxRecDepth 20000 in
theorem gX2_shrink_X2_putLabels : GoodIn wsX2_shrink (wsV RX2 29 RX2 yX2_putLabels wsX2_putLabels) := goodIn_app (goodIn_k (is := [194, 195, 196, 14]) tie_wsX2_shrink rfl (by decide +kernel)) ggX2_shrink_X2_putLabels
set_option maxRecDepth 20000 in
theorem ggX2_shrink_X2_putReward : GoodIn wsX2_shrink wsX2_putReward := goodIn_k tie_wsX2_shrink tie_wsX2_putReward (by decide +kernel)
set_option maxRecDepth 20000 in
theorem gX2_shrink_X2_putReward : GoodIn wsX2_shrink (wsV RX2 33 RX2 yX2_putReward wsX2_putReward) := goodIn_app (goodIn_k (is := [198, 199, 200, 14]) tie_wsX2_shrink rfl (by decide +kernel)) ggX2_shrink_X2_putReward
theorem dX2_shrink_0 : decode cX2_shrink 0 = .ok (.aload_n 0, 1) := by decide +kernel
theorem dX2_shrink_1 : decode cX2_shrink 1 = .ok (.getfield 21, 3) := by decide +kernel
theorem dX2_shrink_4 : decode cX2_shrink 4 = .ok (.ifCond .gt 4, 3) := by decide +kernel
theorem dX2_shrink_7 : decode cX2_shrink 7 = .ok (.return_, 1) := by decide +kernel
theorem dX2_shrink_8 : decode cX2_shrink 8 = .ok (.aload_n 0, 1) := by decide +kernel
theorem dX2_shrink_9 : decode cX2_shrink 9 = .ok (.getfield 21, 3) := by decide +kernel
theorem dX2_shrink_12 : decode cX2_shrink 12 = .ok (.iconst 1, 1) := by decide +kernel
theorem dX2_shrink_13 : decode cX2_shrink 13 = .ok (.isub, 1) := by decide +kernel
theorem dX2_shrink_14 : decode cX2_shrink 14 = .ok (.istore_n 1, 1) := by decide +kernel
theorem dX2_shrink_15 : decode cX2_shrink 15 = .ok (.iconst 0, 1) := by decide +kernel
theorem dX2_shrink_16 : decode cX2_shrink 16 = .ok (.istore_n 2, 1) := by decide +kernel
theorem dX2_shrink_17 : decode cX2_shrink 17 = .ok (.iload_n 2, 1) := by decide +kernel
theorem dX2_shrink_18 : decode cX2_shrink 18 = .ok (.bipush 8, 2) := by decide +kernel
theorem dX2_shrink_20 : decode cX2_shrink 20 = .ok (.if_icmp .ge 23, 3) := by decide +kernel
theorem dX2_shrink_23 : decode cX2_shrink 23 = .ok (.aload_n 0, 1) := by decide +kernel
theorem dX2_shrink_24 : decode cX2_shrink 24 = .ok (.iload_n 1, 1) := by decide +kernel
theorem dX2_shrink_25 : decode cX2_shrink 25 = .ok (.iload_n 2, 1) := by decide +kernel
theorem dX2_shrink_26 : decode cX2_shrink 26 = .ok (.iconst 0, 1) := by decide +kernel
theorem dX2_shrink_27 : decode cX2_shrink 27 = .ok (.invokevirtual 25, 3) := by decide +kernel
theorem dX2_shrink_30 : decode cX2_shrink 30 = .ok (.aload_n 0, 1) := by decide +kernel
theorem dX2_shrink_31 : decode cX2_shrink 31 = .ok (.iload_n 2, 1) := by decide +kernel
theorem dX2_shrink_32 : decode cX2_shrink 32 = .ok (.iload_n 1, 1) := by decide +kernel
theorem dX2_shrink_33 : decode cX2_shrink 33 = .ok (.iconst 0, 1) := by decide +kernel
theorem dX2_shrink_34 : decode cX2_shrink 34 = .ok (.invokevirtual 25, 3) := by decide +kernel
theorem dX2_shrink_37 : decode cX2_shrink 37 = .ok (.iinc 2 1, 3) := by decide +kernel
theorem dX2_shrink_40 : decode cX2_shrink 40 = .ok (.goto (-23), 3) := by decide +kernel
theorem dX2_shrink_43 : decode cX2_shrink 43 = .ok (.aload_n 0, 1) := by decide +kernel
theorem dX2_shrink_44 : decode cX2_shrink 44 = .ok (.iload_n 1, 1) := by decide +kernel
theorem dX2_shrink_45 : decode cX2_shrink 45 = .ok (.iconst 0, 1) := by decide +kernel
theorem dX2_shrink_46 : decode cX2_shrink 46 = .ok (.invokevirtual 29, 3) := by decide +kernel
theorem dX2_shrink_49 : decode cX2_shrink 49 = .ok (.aload_n 0, 1) := by decide +kernel
theorem dX2_shrink_50 : decode cX2_shrink 50 = .ok (.iload_n 1, 1) := by decide +kernel
theorem dX2_shrink_51 : decode cX2_shrink 51 = .ok (.iconst 0, 1) := by decide +kernel
theorem dX2_shrink_52 : decode cX2_shrink 52 = .ok (.invokevirtual 33, 3) := by decide +kernel
theorem dX2_shrink_55 : decode cX2_shrink 55 = .ok (.aload_n 0, 1) := by decide +kernel
theorem dX2_shrink_56 : decode cX2_shrink 56 = .ok (.iload_n 1, 1) := by decide +kernel
theorem dX2_shrink_57 : decode cX2_shrink 57 = .ok (.putfield 21, 3) := by decide +kernel
theorem dX2_shrink_60 : decode cX2_shrink 60 = .ok (.return_, 1) := by decide +kernel
theorem dX2_copyFrom_0 : decode cX2_copyFrom 0 = .ok (.aload_n 1, 1) := by decide +kernel
theorem dX2_copyFrom_1 : decode cX2_copyFrom 1 = .ok (.ifnonnull 4, 3) := by decide +kernel
theorem dX2_copyFrom_4 : decode cX2_copyFrom 4 = .ok (.return_, 1) := by decide +kernel
theorem dX2_copyFrom_5 : decode cX2_copyFrom 5 = .ok (.iconst 0, 1) := by decide +kernel
theorem dX2_copyFrom_6 : decode cX2_copyFrom 6 = .ok (.istore_n 2, 1) := by decide +kernel
theorem dX2_copyFrom_7 : decode cX2_copyFrom 7 = .ok (.iload_n 2, 1) := by decide +kernel
theorem dX2_copyFrom_8 : decode cX2_copyFrom 8 = .ok (.aload_n 0, 1) := by decide +kernel
theorem dX2_copyFrom_9 : decode cX2_copyFrom 9 = .ok (.getfield 9, 3) := by decide +kernel
theorem dX2_copyFrom_12 : decode cX2_copyFrom 12 = .ok (.arraylength, 1) := by decide +kernel
theorem dX2_copyFrom_13 : decode cX2_copyFrom 13 = .ok (.if_icmp .ge 30, 3) := by decide +kernel
theorem dX2_copyFrom_16 : decode cX2_copyFrom 16 = .ok (.iload_n 2, 1) := by decide +kernel
theorem dX2_copyFrom_17 : decode cX2_copyFrom 17 = .ok (.aload_n 1, 1) := by decide +kernel
theorem dX2_copyFrom_18 : decode cX2_copyFrom 18 = .ok (.getfield 9, 3) := by decide +kernel
theorem dX2_copyFrom_21 : decode cX2_copyFrom 21 = .ok (.arraylength, 1) := by decide +kernel
theorem dX2_copyFrom_22 : decode cX2_copyFrom 22 = .ok (.if_icmp .ge 21, 3) := by decide +kernel
theorem dX2_copyFrom_25 : decode cX2_copyFrom 25 = .ok (.aload_n 0, 1) := by decide +kernel
theorem dX2_copyFrom_26 : decode cX2_copyFrom 26 = .ok (.getfield 9, 3) := by decide +kernel
theorem dX2_copyFrom_29 : decode cX2_copyFrom 29 = .ok (.iload_n 2, 1) := by decide +kernel
theorem dX2_copyFrom_30 : decode cX2_copyFrom 30 = .ok (.aload_n 1, 1) := by decide +kernel
theorem dX2_copyFrom_31 : decode cX2_copyFrom 31 = .ok (.getfield 9, 3) := by decide +kernel
theorem dX2_copyFrom_34 : decode cX2_copyFrom 34 = .ok (.iload_n 2, 1) := by decide +kernel
theorem dX2_copyFrom_35 : decode cX2_copyFrom 35 = .ok (.iaload, 1) := by decide +kernel
theorem dX2_copyFrom_36 : decode cX2_copyFrom 36 = .ok (.iastore, 1) := by decide +kernel
theorem dX2_copyFrom_37 : decode cX2_copyFrom 37 = .ok (.iinc 2 1, 3) := by decide +kernel
theorem dX2_copyFrom_40 : decode cX2_copyFrom 40 = .ok (.goto (-33), 3) := by decide +kernel
theorem dX2_copyFrom_43 : decode cX2_copyFrom 43 = .ok (.iconst 0, 1) := by decide +kernel
theorem dX2_copyFrom_44 : decode cX2_copyFrom 44 = .ok (.istore_n 2, 1) := by decide +kernel
theorem dX2_copyFrom_45 : decode cX2_copyFrom 45 = .ok (.iload_n 2, 1) := by decide +kernel
theorem dX2_copyFrom_46 : decode cX2_copyFrom 46 = .ok (.bipush 8, 2) := by decide +kernel
theorem dX2_copyFrom_48 : decode cX2_copyFrom 48 = .ok (.if_icmp .ge 33, 3) := by decide +kernel
theorem dX2_copyFrom_51 : decode cX2_copyFrom 51 = .ok (.aload_n 0, 1) := by decide +kernel
theorem dX2_copyFrom_52 : decode cX2_copyFrom 52 = .ok (.getfield 15, 3) := by decide +kernel
theorem dX2_copyFrom_55 : decode cX2_copyFrom 55 = .ok (.iload_n 2, 1) := by decide +kernel
theorem dX2_copyFrom_56 : decode cX2_copyFrom 56 = .ok (.aload_n 1, 1) := by decide +kernel
theorem dX2_copyFrom_57 : decode cX2_copyFrom 57 = .ok (.getfield 15, 3) := by decide +kernel
theorem dX2_copyFrom_60 : decode cX2_copyFrom 60 = .ok (.iload_n 2, 1) := by decide +kernel
theorem dX2_copyFrom_61 : decode cX2_copyFrom 61 = .ok (.iaload, 1) := by decide +kernel
theorem dX2_copyFrom_62 : decode cX2_copyFrom 62 = .ok (.iastore, 1) := by decide +kernel
theorem dX2_copyFrom_63 : decode cX2_copyFrom 63 = .ok (.aload_n 0, 1) := by decide +kernel
theorem dX2_copyFrom_64 : decode cX2_copyFrom 64 = .ok (.getfield 18, 3) := by decide +kernel
theorem dX2_copyFrom_67 : decode cX2_copyFrom 67 = .ok (.iload_n 2, 1) := by decide +kernel
theorem dX2_copyFrom_68 : decode cX2_copyFrom 68 = .ok (.aload_n 1, 1) := by decide +kernel
theorem dX2_copyFrom_69 : decode cX2_copyFrom 69 = .ok (.getfield 18, 3) := by decide +kernel
theorem dX2_copyFrom_72 : decode cX2_copyFrom 72 = .ok (.iload_n 2, 1) := by decide +kernel
theorem dX2_copyFrom_73 : decode cX2_copyFrom 73 = .ok (.iaload, 1) := by decide +kernel
theorem dX2_copyFrom_74 : decode cX2_copyFrom 74 = .ok (.iastore, 1) := by decide +kernel
theorem dX2_copyFrom_75 : decode cX2_copyFrom 75 = .ok (.iinc 2 1, 3) := by decide +kernel
theorem dX2_copyFrom_78 : decode cX2_copyFrom 78 = .ok (.goto (-33), 3) := by decide +kernel
theorem dX2_copyFrom_81 : decode cX2_copyFrom 81 = .ok (.aload_n 0, 1) := by decide +kernel
theorem dX2_copyFrom_82 : decode cX2_copyFrom 82 = .ok (.aload_n 1, 1) := by decide +kernel
theorem dX2_copyFrom_83 : decode cX2_copyFrom 83 = .ok (.getfield 21, 3) := by decide +kernel
theorem dX2_copyFrom_86 : decode cX2_copyFrom 86 = .ok (.putfield 21, 3) := by decide +kernel
theorem dX2_copyFrom_89 : decode cX2_copyFrom 89 = .ok (.return_, 1) := by decide +kernel
theorem dX2_weightOf_0 : decode cX2_weightOf 0 = .ok (.iload_n 1, 1) := by decide +kernel
theorem dX2_weightOf_1 : decode cX2_weightOf 1 = .ok (.bipush 8, 2) := by decide +kernel
theorem dX2_weightOf_3 : decode cX2_weightOf 3 = .ok (.imul, 1) := by decide +kernel
theorem dX2_weightOf_4 : decode cX2_weightOf 4 = .ok (.iload_n 2, 1) := by decide +kernel
theorem dX2_weightOf_5 : decode cX2_weightOf 5 = .ok (.iadd, 1) := by decide +kernel
theorem dX2_weightOf_6 : decode cX2_weightOf 6 = .ok (.istore_n 3, 1) := by decide +kernel
theorem dX2_weightOf_7 : decode cX2_weightOf 7 = .ok (.iload_n 2, 1) := by decide +kernel
theorem dX2_weightOf_8 : decode cX2_weightOf 8 = .ok (.ifCond .lt 31, 3) := by decide +kernel
theorem dX2_weightOf_11 : decode cX2_weightOf 11 = .ok (.iload_n 2, 1) := by decide +kernel
theorem dX2_weightOf_12 : decode cX2_weightOf 12 = .ok (.bipush 8, 2) := by decide +kernel
theorem dX2_weightOf_14 : decode cX2_weightOf 14 = .ok (.if_icmp .ge 25, 3) := by decide +kernel
theorem dX2_weightOf_17 : decode cX2_weightOf 17 = .ok (.iload_n 3, 1) := by decide +kernel
theorem dX2_weightOf_18 : decode cX2_weightOf 18 = .ok (.ifCond .lt 21, 3) := by decide +kernel
theorem dX2_weightOf_21 : decode cX2_weightOf 21 = .ok (.iload_n 3, 1) := by decide +kernel
theorem dX2_weightOf_22 : decode cX2_weightOf 22 = .ok (.aload_n 0, 1) := by decide +kernel
theorem dX2_weightOf_23 : decode cX2_weightOf 23 = .ok (.getfield 9, 3) := by decide +kernel
theorem dX2_weightOf_26 : decode cX2_weightOf 26 = .ok (.arraylength, 1) := by decide +kernel
theorem dX2_weightOf_27 : decode cX2_weightOf 27 = .ok (.if_icmp .ge 12, 3) := by decide +kernel
theorem dX2_weightOf_30 : decode cX2_weightOf 30 = .ok (.aload_n 0, 1) := by decide +kernel
theorem dX2_weightOf_31 : decode cX2_weightOf 31 = .ok (.getfield 9, 3) := by decide +kernel
theorem dX2_weightOf_34 : decode cX2_weightOf 34 = .ok (.iload_n 3, 1) := by decide +kernel
theorem dX2_weightOf_35 : decode cX2_weightOf 35 = .ok (.iaload, 1) := by decide +kernel
theorem dX2_weightOf_36 : decode cX2_weightOf 36 = .ok (.goto 4, 3) := by decide +kernel
theorem dX2_weightOf_39 : decode cX2_weightOf 39 = .ok (.iconst 0, 1) := by decide +kernel
theorem dX2_weightOf_40 : decode cX2_weightOf 40 = .ok (.ireturn, 1) := by decide +kernel
set_option maxRecDepth 20000 in
theorem ggX2_putWeight_X2_has : GoodIn wsX2_putWeight wsX2_has := goodIn_k tie_wsX2_putWeight tie_wsX2_has (by decide +kernel)
set_option maxRecDepth 20000 in
theorem gX2_putWeight_X2_has : GoodIn wsX2_putWeight (wsV RX2 36 RX2 yX2_has wsX2_has) := goodIn_app (goodIn_k (is := [190, 191, 192, 14]) tie_wsX2_putWeight rfl (by decide +kernel)) ggX2_putWeight_X2_has
theorem dX2_putWeight_0 : decode cX2_putWeight 0 = .ok (.iload_n 1, 1) := by decide +kernel
theorem dX2_putWeight_1 : decode cX2_putWeight 1 = .ok (.bipush 8, 2) := by decide +kernel
theorem dX2_putWeight_3 : decode cX2_putWeight 3 = .ok (.imul, 1) := by decide +kernel
theorem dX2_putWeight_4 : decode cX2_putWeight 4 = .ok (.iload_n 2, 1) := by decide +kernel
theorem dX2_putWeight_5 : decode cX2_putWeight 5 = .ok (.iadd, 1) := by decide +kernel
theorem dX2_putWeight_6 : decode cX2_putWeight 6 = .ok (.istore 4, 2) := by decide +kernel
theorem dX2_putWeight_8 : decode cX2_putWeight 8 = .ok (.aload_n 0, 1) := by decide +kernel
theorem dX2_putWeight_9 : decode cX2_putWeight 9 = .ok (.iload_n 1, 1) := by decide +kernel
theorem dX2_putWeight_10 : decode cX2_putWeight 10 = .ok (.invokevirtual 36, 3) := by decide +kernel
theorem dX2_putWeight_13 : decode cX2_putWeight 13 = .ok (.ifCond .eq 29, 3) := by decide +kernel
theorem dX2_putWeight_16 : decode cX2_putWeight 16 = .ok (.aload_n 0, 1) := by decide +kernel
theorem dX2_putWeight_17 : decode cX2_putWeight 17 = .ok (.iload_n 2, 1) := by decide +kernel
theorem dX2_putWeight_18 : decode cX2_putWeight 18 = .ok (.invokevirtual 36, 3) := by decide +kernel
theorem dX2_putWeight_21 : decode cX2_putWeight 21 = .ok (.ifCond .eq 21, 3) := by decide +kernel
theorem dX2_putWeight_24 : decode cX2_putWeight 24 = .ok (.iload 4, 2) := by decide +kernel
theorem dX2_putWeight_26 : decode cX2_putWeight 26 = .ok (.aload_n 0, 1) := by decide +kernel
theorem dX2_putWeight_27 : decode cX2_putWeight 27 = .ok (.getfield 9, 3) := by decide +kernel
theorem dX2_putWeight_30 : decode cX2_putWeight 30 = .ok (.arraylength, 1) := by decide +kernel
theorem dX2_putWeight_31 : decode cX2_putWeight 31 = .ok (.if_icmp .ge 11, 3) := by decide +kernel
theorem dX2_putWeight_34 : decode cX2_putWeight 34 = .ok (.aload_n 0, 1) := by decide +kernel
theorem dX2_putWeight_35 : decode cX2_putWeight 35 = .ok (.getfield 9, 3) := by decide +kernel
theorem dX2_putWeight_38 : decode cX2_putWeight 38 = .ok (.iload 4, 2) := by decide +kernel
theorem dX2_putWeight_40 : decode cX2_putWeight 40 = .ok (.iload_n 3, 1) := by decide +kernel
theorem dX2_putWeight_41 : decode cX2_putWeight 41 = .ok (.iastore, 1) := by decide +kernel
theorem dX2_putWeight_42 : decode cX2_putWeight 42 = .ok (.return_, 1) := by decide +kernel
set_option maxRecDepth 20000 in
theorem ggX2_labelsOf_X2_has : GoodIn wsX2_labelsOf wsX2_has := goodIn_k tie_wsX2_labelsOf tie_wsX2_has (by decide +kernel)
set_option maxRecDepth 20000 in
theorem gX2_labelsOf_X2_has : GoodIn wsX2_labelsOf (wsV RX2 36 RX2 yX2_has wsX2_has) := goodIn_app (goodIn_k (is := [190, 191, 192, 14]) tie_wsX2_labelsOf rfl (by decide +kernel)) ggX2_labelsOf_X2_has
theorem dX2_labelsOf_0 : decode cX2_labelsOf 0 = .ok (.aload_n 0, 1) := by decide +kernel
theorem dX2_labelsOf_1 : decode cX2_labelsOf 1 = .ok (.iload_n 1, 1) := by decide +kernel
theorem dX2_labelsOf_2 : decode cX2_labelsOf 2 = .ok (.invokevirtual 36, 3) := by decide +kernel
theorem dX2_labelsOf_5 : decode cX2_labelsOf 5 = .ok (.ifCond .eq 12, 3) := by decide +kernel
theorem dX2_labelsOf_8 : decode cX2_labelsOf 8 = .ok (.aload_n 0, 1) := by decide +kernel
theorem dX2_labelsOf_9 : decode cX2_labelsOf 9 = .ok (.getfield 15, 3) := by decide +kernel
theorem dX2_labelsOf_12 : decode cX2_labelsOf 12 = .ok (.iload_n 1, 1) := by decide +kernel
theorem dX2_labelsOf_13 : decode cX2_labelsOf 13 = .ok (.iaload, 1) := by decide +kernel
theorem dX2_labelsOf_14 : decode cX2_labelsOf 14 = .ok (.goto 4, 3) := by decide +kernel
theorem dX2_labelsOf_17 : decode cX2_labelsOf 17 = .ok (.iconst 0, 1) := by decide +kernel
theorem dX2_labelsOf_18 : decode cX2_labelsOf 18 = .ok (.ireturn, 1) := by decide +kernel
set_option maxRecDepth 20000 in
theorem ggX2_putLabels_X2_has : GoodIn wsX2_putLabels wsX2_has := goodIn_k tie_wsX2_putLabels tie_wsX2_has (by decide +kernel)
set_option maxRecDepth 20000 in
theorem gX2_putLabels_X2_has : GoodIn wsX2_putLabels (wsV RX2 36 RX2 yX2_has wsX2_has) := goodIn_app (goodIn_k (is := [190, 191, 192, 14]) tie_wsX2_putLabels rfl (by decide +kernel)) ggX2_putLabels_X2_has
theorem dX2_putLabels_0 : decode cX2_putLabels 0 = .ok (.aload_n 0, 1) := by decide +kernel
theorem dX2_putLabels_1 : decode cX2_putLabels 1 = .ok (.iload_n 1, 1) := by decide +kernel
theorem dX2_putLabels_2 : decode cX2_putLabels 2 = .ok (.invokevirtual 36, 3) := by decide +kernel
theorem dX2_putLabels_5 : decode cX2_putLabels 5 = .ok (.ifCond .eq 10, 3) := by decide +kernel
theorem dX2_putLabels_8 : decode cX2_putLabels 8 = .ok (.aload_n 0, 1) := by decide +kernel
theorem dX2_putLabels_9 : decode cX2_putLabels 9 = .ok (.getfield 15, 3) := by decide +kernel
theorem dX2_putLabels_12 : decode cX2_putLabels 12 = .ok (.iload_n 1, 1) := by decide +kernel
theorem dX2_putLabels_13 : decode cX2_putLabels 13 = .ok (.iload_n 2, 1) := by decide +kernel
theorem dX2_putLabels_14 : decode cX2_putLabels 14 = .ok (.iastore, 1) := by decide +kernel
theorem dX2_putLabels_15 : decode cX2_putLabels 15 = .ok (.return_, 1) := by decide +kernel
set_option maxRecDepth 20000 in
theorem ggX2_rewardOf_X2_has : GoodIn wsX2_rewardOf wsX2_has := goodIn_k tie_wsX2_rewardOf tie_wsX2_has (by decide +kernel)
set_option maxRecDepth 20000 in
theorem gX2_rewardOf_X2_has : GoodIn wsX2_rewardOf (wsV RX2 36 RX2 yX2_has wsX2_has) := goodIn_app (goodIn_k (is := [190, 191, 192, 14]) tie_wsX2_rewardOf rfl (by decide +kernel)) ggX2_rewardOf_X2_has
theorem dX2_rewardOf_0 : decode cX2_rewardOf 0 = .ok (.aload_n 0, 1) := by decide +kernel
theorem dX2_rewardOf_1 : decode cX2_rewardOf 1 = .ok (.iload_n 1, 1) := by decide +kernel
theorem dX2_rewardOf_2 : decode cX2_rewardOf 2 = .ok (.invokevirtual 36, 3) := by decide +kernel
theorem dX2_rewardOf_5 : decode cX2_rewardOf 5 = .ok (.ifCond .eq 12, 3) := by decide +kernel
theorem dX2_rewardOf_8 : decode cX2_rewardOf 8 = .ok (.aload_n 0, 1) := by decide +kernel
theorem dX2_rewardOf_9 : decode cX2_rewardOf 9 = .ok (.getfield 18, 3) := by decide +kernel
theorem dX2_rewardOf_12 : decode cX2_rewardOf 12 = .ok (.iload_n 1, 1) := by decide +kernel
theorem dX2_rewardOf_13 : decode cX2_rewardOf 13 = .ok (.iaload, 1) := by decide +kernel
theorem dX2_rewardOf_14 : decode cX2_rewardOf 14 = .ok (.goto 4, 3) := by decide +kernel
theorem dX2_rewardOf_17 : decode cX2_rewardOf 17 = .ok (.iconst 0, 1) := by decide +kernel
theorem dX2_rewardOf_18 : decode cX2_rewardOf 18 = .ok (.ireturn, 1) := by decide +kernel
set_option maxRecDepth 20000 in
theorem ggX2_putReward_X2_has : GoodIn wsX2_putReward wsX2_has := goodIn_k tie_wsX2_putReward tie_wsX2_has (by decide +kernel)
set_option maxRecDepth 20000 in
theorem gX2_putReward_X2_has : GoodIn wsX2_putReward (wsV RX2 36 RX2 yX2_has wsX2_has) := goodIn_app (goodIn_k (is := [190, 191, 192, 14]) tie_wsX2_putReward rfl (by decide +kernel)) ggX2_putReward_X2_has
theorem dX2_putReward_0 : decode cX2_putReward 0 = .ok (.aload_n 0, 1) := by decide +kernel
theorem dX2_putReward_1 : decode cX2_putReward 1 = .ok (.iload_n 1, 1) := by decide +kernel
theorem dX2_putReward_2 : decode cX2_putReward 2 = .ok (.invokevirtual 36, 3) := by decide +kernel
theorem dX2_putReward_5 : decode cX2_putReward 5 = .ok (.ifCond .eq 10, 3) := by decide +kernel
theorem dX2_putReward_8 : decode cX2_putReward 8 = .ok (.aload_n 0, 1) := by decide +kernel
theorem dX2_putReward_9 : decode cX2_putReward 9 = .ok (.getfield 18, 3) := by decide +kernel
theorem dX2_putReward_12 : decode cX2_putReward 12 = .ok (.iload_n 1, 1) := by decide +kernel
theorem dX2_putReward_13 : decode cX2_putReward 13 = .ok (.iload_n 2, 1) := by decide +kernel
theorem dX2_putReward_14 : decode cX2_putReward 14 = .ok (.iastore, 1) := by decide +kernel
theorem dX2_putReward_15 : decode cX2_putReward 15 = .ok (.return_, 1) := by decide +kernel
set_option maxRecDepth 20000 in
theorem ggX2_sumOf_X2_weightOf : GoodIn wsX2_sumOf wsX2_weightOf := goodIn_k tie_wsX2_sumOf tie_wsX2_weightOf (by decide +kernel)
set_option maxRecDepth 20000 in
theorem gX2_sumOf_X2_weightOf : GoodIn wsX2_sumOf (wsV RX2 40 RX2 yX2_weightOf wsX2_weightOf) := goodIn_app (goodIn_k (is := [227, 220, 221, 14]) tie_wsX2_sumOf rfl (by decide +kernel)) ggX2_sumOf_X2_weightOf
theorem dX2_sumOf_0 : decode cX2_sumOf 0 = .ok (.iconst 0, 1) := by decide +kernel
theorem dX2_sumOf_1 : decode cX2_sumOf 1 = .ok (.istore_n 2, 1) := by decide +kernel
theorem dX2_sumOf_2 : decode cX2_sumOf 2 = .ok (.iconst 0, 1) := by decide +kernel
theorem dX2_sumOf_3 : decode cX2_sumOf 3 = .ok (.istore_n 3, 1) := by decide +kernel
theorem dX2_sumOf_4 : decode cX2_sumOf 4 = .ok (.iload_n 3, 1) := by decide +kernel
theorem dX2_sumOf_5 : decode cX2_sumOf 5 = .ok (.aload_n 0, 1) := by decide +kernel
theorem dX2_sumOf_6 : decode cX2_sumOf 6 = .ok (.getfield 21, 3) := by decide +kernel
theorem dX2_sumOf_9 : decode cX2_sumOf 9 = .ok (.if_icmp .ge 18, 3) := by decide +kernel
theorem dX2_sumOf_12 : decode cX2_sumOf 12 = .ok (.iload_n 2, 1) := by decide +kernel
theorem dX2_sumOf_13 : decode cX2_sumOf 13 = .ok (.aload_n 0, 1) := by decide +kernel
theorem dX2_sumOf_14 : decode cX2_sumOf 14 = .ok (.iload_n 1, 1) := by decide +kernel
theorem dX2_sumOf_15 : decode cX2_sumOf 15 = .ok (.iload_n 3, 1) := by decide +kernel
theorem dX2_sumOf_16 : decode cX2_sumOf 16 = .ok (.invokevirtual 40, 3) := by decide +kernel
theorem dX2_sumOf_19 : decode cX2_sumOf 19 = .ok (.iadd, 1) := by decide +kernel
theorem dX2_sumOf_20 : decode cX2_sumOf 20 = .ok (.istore_n 2, 1) := by decide +kernel
theorem dX2_sumOf_21 : decode cX2_sumOf 21 = .ok (.iinc 3 1, 3) := by decide +kernel
theorem dX2_sumOf_24 : decode cX2_sumOf 24 = .ok (.goto (-20), 3) := by decide +kernel
theorem dX2_sumOf_27 : decode cX2_sumOf 27 = .ok (.iload_n 2, 1) := by decide +kernel
theorem dX2_sumOf_28 : decode cX2_sumOf 28 = .ok (.ireturn, 1) := by decide +kernel
set_option maxRecDepth 20000 in
theorem ggX2_divisorOf_X2_sumOf : GoodIn wsX2_divisorOf wsX2_sumOf := goodIn_k tie_wsX2_divisorOf tie_wsX2_sumOf (by decide +kernel)
set_option maxRecDepth 20000 in
theorem gX2_divisorOf_X2_sumOf : GoodIn wsX2_divisorOf (wsV RX2 44 RX2 yX2_sumOf wsX2_sumOf) := goodIn_app (goodIn_k (is := [402, 224, 225, 14]) tie_wsX2_divisorOf rfl (by decide +kernel)) ggX2_divisorOf_X2_sumOf
theorem dX2_divisorOf_0 : decode cX2_divisorOf 0 = .ok (.aload_n 0, 1) := by decide +kernel
theorem dX2_divisorOf_1 : decode cX2_divisorOf 1 = .ok (.iload_n 1, 1) := by decide +kernel
theorem dX2_divisorOf_2 : decode cX2_divisorOf 2 = .ok (.invokevirtual 44, 3) := by decide +kernel
theorem dX2_divisorOf_5 : decode cX2_divisorOf 5 = .ok (.istore_n 2, 1) := by decide +kernel
theorem dX2_divisorOf_6 : decode cX2_divisorOf 6 = .ok (.iload_n 2, 1) := by decide +kernel
theorem dX2_divisorOf_7 : decode cX2_divisorOf 7 = .ok (.ifCond .le 7, 3) := by decide +kernel
theorem dX2_divisorOf_10 : decode cX2_divisorOf 10 = .ok (.iload_n 2, 1) := by decide +kernel
theorem dX2_divisorOf_11 : decode cX2_divisorOf 11 = .ok (.goto 4, 3) := by decide +kernel
theorem dX2_divisorOf_14 : decode cX2_divisorOf 14 = .ok (.iconst 1, 1) := by decide +kernel
theorem dX2_divisorOf_15 : decode cX2_divisorOf 15 = .ok (.ireturn, 1) := by decide +kernel
set_option maxRecDepth 20000 in
theorem ggX2_stepWeight_X2_sumOf : GoodIn wsX2_stepWeight wsX2_sumOf := goodIn_k tie_wsX2_stepWeight tie_wsX2_sumOf (by decide +kernel)
set_option maxRecDepth 20000 in
theorem gX2_stepWeight_X2_sumOf : GoodIn wsX2_stepWeight (wsV RX2 44 RX2 yX2_sumOf wsX2_sumOf) := goodIn_app (goodIn_k (is := [402, 224, 225, 14]) tie_wsX2_stepWeight rfl (by decide +kernel)) ggX2_stepWeight_X2_sumOf
set_option maxRecDepth 20000 in
theorem ggX2_stepWeight_X2_weightOf : GoodIn wsX2_stepWeight wsX2_weightOf := goodIn_k tie_wsX2_stepWeight tie_wsX2_weightOf (by decide +kernel)
set_option maxRecDepth 20000 in
theorem gX2_stepWeight_X2_weightOf : GoodIn wsX2_stepWeight (wsV RX2 40 RX2 yX2_weightOf wsX2_weightOf) := goodIn_app (goodIn_k (is := [227, 220, 221, 14]) tie_wsX2_stepWeight rfl (by decide +kernel)) ggX2_stepWeight_X2_weightOf
theorem dX2_stepWeight_0 : decode cX2_stepWeight 0 = .ok (.iload_n 1, 1) := by decide +kernel
theorem dX2_stepWeight_1 : decode cX2_stepWeight 1 = .ok (.iload_n 2, 1) := by decide +kernel
theorem dX2_stepWeight_2 : decode cX2_stepWeight 2 = .ok (.if_icmp .ne 15, 3) := by decide +kernel
theorem dX2_stepWeight_5 : decode cX2_stepWeight 5 = .ok (.aload_n 0, 1) := by decide +kernel
theorem dX2_stepWeight_6 : decode cX2_stepWeight 6 = .ok (.iload_n 1, 1) := by decide +kernel
theorem dX2_stepWeight_7 : decode cX2_stepWeight 7 = .ok (.invokevirtual 44, 3) := by decide +kernel
theorem dX2_stepWeight_10 : decode cX2_stepWeight 10 = .ok (.ifCond .ne 7, 3) := by decide +kernel
theorem dX2_stepWeight_13 : decode cX2_stepWeight 13 = .ok (.iconst 1, 1) := by decide +kernel
theorem dX2_stepWeight_14 : decode cX2_stepWeight 14 = .ok (.goto 9, 3) := by decide +kernel
theorem dX2_stepWeight_17 : decode cX2_stepWeight 17 = .ok (.aload_n 0, 1) := by decide +kernel
theorem dX2_stepWeight_18 : decode cX2_stepWeight 18 = .ok (.iload_n 1, 1) := by decide +kernel
theorem dX2_stepWeight_19 : decode cX2_stepWeight 19 = .ok (.iload_n 2, 1) := by decide +kernel
theorem dX2_stepWeight_20 : decode cX2_stepWeight 20 = .ok (.invokevirtual 40, 3) := by decide +kernel
theorem dX2_stepWeight_23 : decode cX2_stepWeight 23 = .ok (.ireturn, 1) := by decide +kernel
set_option maxRecDepth 20000 in
theorem ggX2_stepWeightInto_X11_contains : GoodIn wsX2_stepWeightInto wsX11_contains := goodIn_k tie_wsX2_stepWeightInto tie_wsX11_contains (by decide +kernel)
set_option maxRecDepth 20000 in
theorem gX2_stepWeightInto_X11_contains_n48 : GoodIn wsX2_stepWeightInto (wsX11_contains) := ggX2_stepWeightInto_X11_contains
set_option maxRecDepth 20000 in
theorem ggX2_stepWeightInto_X2_weightOf : GoodIn wsX2_stepWeightInto wsX2_weightOf := goodIn_k tie_wsX2_stepWeightInto tie_wsX2_weightOf (by decide +kernel)
set_option maxRecDepth 20000 in
theorem gX2_stepWeightInto_X2_weightOf : GoodIn wsX2_stepWeightInto (wsV RX2 40 RX2 yX2_weightOf wsX2_weightOf) := goodIn_app (goodIn_k (is := [227, 220, 221, 14]) tie_wsX2_stepWeightInto rfl (by decide +kernel)) ggX2_stepWeightInto_X2_weightOf
set_option maxRecDepth 20000 in
theorem ggX2_stepWeightInto_X2_sumOf : GoodIn wsX2_stepWeightInto wsX2_sumOf := goodIn_k tie_wsX2_stepWeightInto tie_wsX2_sumOf (by decide +kernel)
set_option maxRecDepth 20000 in
theorem gX2_stepWeightInto_X2_sumOf : GoodIn wsX2_stepWeightInto (wsV RX2 44 RX2 yX2_sumOf wsX2_sumOf) := goodIn_app (goodIn_k (is := [402, 224, 225, 14]) tie_wsX2_stepWeightInto rfl (by decide +kernel)) ggX2_stepWeightInto_X2_sumOf
theorem dX2_stepWeightInto_0 : decode cX2_stepWeightInto 0 = .ok (.iconst 0, 1) := by decide +kernel
theorem dX2_stepWeightInto_1 : decode cX2_stepWeightInto 1 = .ok (.istore_n 3, 1) := by decide +kernel
theorem dX2_stepWeightInto_2 : decode cX2_stepWeightInto 2 = .ok (.iconst 0, 1) := by decide +kernel
theorem dX2_stepWeightInto_3 : decode cX2_stepWeightInto 3 = .ok (.istore 4, 2) := by decide +kernel
theorem dX2_stepWeightInto_5 : decode cX2_stepWeightInto 5 = .ok (.iload 4, 2) := by decide +kernel
theorem dX2_stepWeightInto_7 : decode cX2_stepWeightInto 7 = .ok (.aload_n 0, 1) := by decide +kernel
theorem dX2_stepWeightInto_8 : decode cX2_stepWeightInto 8 = .ok (.getfield 21, 3) := by decide +kernel
theorem dX2_stepWeightInto_11 : decode cX2_stepWeightInto 11 = .ok (.if_icmp .ge 28, 3) := by decide +kernel
theorem dX2_stepWeightInto_14 : decode cX2_stepWeightInto 14 = .ok (.iload_n 2, 1) := by decide +kernel
theorem dX2_stepWeightInto_15 : decode cX2_stepWeightInto 15 = .ok (.iload 4, 2) := by decide +kernel
theorem dX2_stepWeightInto_17 : decode cX2_stepWeightInto 17 = .ok (.invokestatic 48, 3) := by decide +kernel
theorem dX2_stepWeightInto_20 : decode cX2_stepWeightInto 20 = .ok (.ifCond .eq 13, 3) := by decide +kernel
theorem dX2_stepWeightInto_23 : decode cX2_stepWeightInto 23 = .ok (.iload_n 3, 1) := by decide +kernel
theorem dX2_stepWeightInto_24 : decode cX2_stepWeightInto 24 = .ok (.aload_n 0, 1) := by decide +kernel
theorem dX2_stepWeightInto_25 : decode cX2_stepWeightInto 25 = .ok (.iload_n 1, 1) := by decide +kernel
theorem dX2_stepWeightInto_26 : decode cX2_stepWeightInto 26 = .ok (.iload 4, 2) := by decide +kernel
theorem dX2_stepWeightInto_28 : decode cX2_stepWeightInto 28 = .ok (.invokevirtual 40, 3) := by decide +kernel
theorem dX2_stepWeightInto_31 : decode cX2_stepWeightInto 31 = .ok (.iadd, 1) := by decide +kernel
theorem dX2_stepWeightInto_32 : decode cX2_stepWeightInto 32 = .ok (.istore_n 3, 1) := by decide +kernel
theorem dX2_stepWeightInto_33 : decode cX2_stepWeightInto 33 = .ok (.iinc 4 1, 3) := by decide +kernel
theorem dX2_stepWeightInto_36 : decode cX2_stepWeightInto 36 = .ok (.goto (-31), 3) := by decide +kernel
theorem dX2_stepWeightInto_39 : decode cX2_stepWeightInto 39 = .ok (.iload_n 2, 1) := by decide +kernel
theorem dX2_stepWeightInto_40 : decode cX2_stepWeightInto 40 = .ok (.iload_n 1, 1) := by decide +kernel
theorem dX2_stepWeightInto_41 : decode cX2_stepWeightInto 41 = .ok (.invokestatic 48, 3) := by decide +kernel
theorem dX2_stepWeightInto_44 : decode cX2_stepWeightInto 44 = .ok (.ifCond .eq 15, 3) := by decide +kernel
theorem dX2_stepWeightInto_47 : decode cX2_stepWeightInto 47 = .ok (.aload_n 0, 1) := by decide +kernel
theorem dX2_stepWeightInto_48 : decode cX2_stepWeightInto 48 = .ok (.iload_n 1, 1) := by decide +kernel
theorem dX2_stepWeightInto_49 : decode cX2_stepWeightInto 49 = .ok (.invokevirtual 44, 3) := by decide +kernel
theorem dX2_stepWeightInto_52 : decode cX2_stepWeightInto 52 = .ok (.ifCond .ne 7, 3) := by decide +kernel
theorem dX2_stepWeightInto_55 : decode cX2_stepWeightInto 55 = .ok (.iconst 1, 1) := by decide +kernel
theorem dX2_stepWeightInto_56 : decode cX2_stepWeightInto 56 = .ok (.goto 4, 3) := by decide +kernel
theorem dX2_stepWeightInto_59 : decode cX2_stepWeightInto 59 = .ok (.iload_n 3, 1) := by decide +kernel
theorem dX2_stepWeightInto_60 : decode cX2_stepWeightInto 60 = .ok (.ireturn, 1) := by decide +kernel
set_option maxRecDepth 20000 in
theorem ggX2_successorsOf_X2_weightOf : GoodIn wsX2_successorsOf wsX2_weightOf := goodIn_k tie_wsX2_successorsOf tie_wsX2_weightOf (by decide +kernel)
set_option maxRecDepth 20000 in
theorem gX2_successorsOf_X2_weightOf : GoodIn wsX2_successorsOf (wsV RX2 40 RX2 yX2_weightOf wsX2_weightOf) := goodIn_app (goodIn_k (is := [227, 220, 221, 14]) tie_wsX2_successorsOf rfl (by decide +kernel)) ggX2_successorsOf_X2_weightOf
theorem dX2_successorsOf_0 : decode cX2_successorsOf 0 = .ok (.iconst 0, 1) := by decide +kernel
theorem dX2_successorsOf_1 : decode cX2_successorsOf 1 = .ok (.istore_n 2, 1) := by decide +kernel
theorem dX2_successorsOf_2 : decode cX2_successorsOf 2 = .ok (.iconst 0, 1) := by decide +kernel
theorem dX2_successorsOf_3 : decode cX2_successorsOf 3 = .ok (.istore_n 3, 1) := by decide +kernel
theorem dX2_successorsOf_4 : decode cX2_successorsOf 4 = .ok (.iload_n 3, 1) := by decide +kernel
theorem dX2_successorsOf_5 : decode cX2_successorsOf 5 = .ok (.aload_n 0, 1) := by decide +kernel
theorem dX2_successorsOf_6 : decode cX2_successorsOf 6 = .ok (.getfield 21, 3) := by decide +kernel
theorem dX2_successorsOf_9 : decode cX2_successorsOf 9 = .ok (.if_icmp .ge 24, 3) := by decide +kernel
theorem dX2_successorsOf_12 : decode cX2_successorsOf 12 = .ok (.aload_n 0, 1) := by decide +kernel
theorem dX2_successorsOf_13 : decode cX2_successorsOf 13 = .ok (.iload_n 1, 1) := by decide +kernel
theorem dX2_successorsOf_14 : decode cX2_successorsOf 14 = .ok (.iload_n 3, 1) := by decide +kernel
theorem dX2_successorsOf_15 : decode cX2_successorsOf 15 = .ok (.invokevirtual 40, 3) := by decide +kernel
theorem dX2_successorsOf_18 : decode cX2_successorsOf 18 = .ok (.ifCond .le 9, 3) := by decide +kernel
theorem dX2_successorsOf_21 : decode cX2_successorsOf 21 = .ok (.iload_n 2, 1) := by decide +kernel
theorem dX2_successorsOf_22 : decode cX2_successorsOf 22 = .ok (.iconst 1, 1) := by decide +kernel
theorem dX2_successorsOf_23 : decode cX2_successorsOf 23 = .ok (.iload_n 3, 1) := by decide +kernel
theorem dX2_successorsOf_24 : decode cX2_successorsOf 24 = .ok (.ishl, 1) := by decide +kernel
theorem dX2_successorsOf_25 : decode cX2_successorsOf 25 = .ok (.ior, 1) := by decide +kernel
theorem dX2_successorsOf_26 : decode cX2_successorsOf 26 = .ok (.istore_n 2, 1) := by decide +kernel
theorem dX2_successorsOf_27 : decode cX2_successorsOf 27 = .ok (.iinc 3 1, 3) := by decide +kernel
theorem dX2_successorsOf_30 : decode cX2_successorsOf 30 = .ok (.goto (-26), 3) := by decide +kernel
theorem dX2_successorsOf_33 : decode cX2_successorsOf 33 = .ok (.iload_n 2, 1) := by decide +kernel
theorem dX2_successorsOf_34 : decode cX2_successorsOf 34 = .ok (.ifCond .ne 9, 3) := by decide +kernel
theorem dX2_successorsOf_37 : decode cX2_successorsOf 37 = .ok (.iconst 1, 1) := by decide +kernel
theorem dX2_successorsOf_38 : decode cX2_successorsOf 38 = .ok (.iload_n 1, 1) := by decide +kernel
theorem dX2_successorsOf_39 : decode cX2_successorsOf 39 = .ok (.ishl, 1) := by decide +kernel
theorem dX2_successorsOf_40 : decode cX2_successorsOf 40 = .ok (.goto 4, 3) := by decide +kernel
theorem dX2_successorsOf_43 : decode cX2_successorsOf 43 = .ok (.iload_n 2, 1) := by decide +kernel
theorem dX2_successorsOf_44 : decode cX2_successorsOf 44 = .ok (.ireturn, 1) := by decide +kernel
set_option maxRecDepth 20000 in
theorem ggX2_labelled_X2_labelsOf : GoodIn wsX2_labelled wsX2_labelsOf := goodIn_k tie_wsX2_labelled tie_wsX2_labelsOf (by decide +kernel)
set_option maxRecDepth 20000 in
theorem gX2_labelled_X2_labelsOf : GoodIn wsX2_labelled (wsV RX2 52 RX2 yX2_labelsOf wsX2_labelsOf) := goodIn_app (goodIn_k (is := [966, 265, 266, 14]) tie_wsX2_labelled rfl (by decide +kernel)) ggX2_labelled_X2_labelsOf
set_option maxRecDepth 20000 in
theorem ggX2_labelled_X11_contains : GoodIn wsX2_labelled wsX11_contains := goodIn_k tie_wsX2_labelled tie_wsX11_contains (by decide +kernel)
set_option maxRecDepth 20000 in
theorem gX2_labelled_X11_contains_n48 : GoodIn wsX2_labelled (wsX11_contains) := ggX2_labelled_X11_contains
theorem dX2_labelled_0 : decode cX2_labelled 0 = .ok (.iconst 0, 1) := by decide +kernel
theorem dX2_labelled_1 : decode cX2_labelled 1 = .ok (.istore_n 2, 1) := by decide +kernel
theorem dX2_labelled_2 : decode cX2_labelled 2 = .ok (.iconst 0, 1) := by decide +kernel
theorem dX2_labelled_3 : decode cX2_labelled 3 = .ok (.istore_n 3, 1) := by decide +kernel
theorem dX2_labelled_4 : decode cX2_labelled 4 = .ok (.iload_n 3, 1) := by decide +kernel
theorem dX2_labelled_5 : decode cX2_labelled 5 = .ok (.aload_n 0, 1) := by decide +kernel
theorem dX2_labelled_6 : decode cX2_labelled 6 = .ok (.getfield 21, 3) := by decide +kernel
theorem dX2_labelled_9 : decode cX2_labelled 9 = .ok (.if_icmp .ge 27, 3) := by decide +kernel
theorem dX2_labelled_12 : decode cX2_labelled 12 = .ok (.aload_n 0, 1) := by decide +kernel
theorem dX2_labelled_13 : decode cX2_labelled 13 = .ok (.iload_n 3, 1) := by decide +kernel
theorem dX2_labelled_14 : decode cX2_labelled 14 = .ok (.invokevirtual 52, 3) := by decide +kernel
theorem dX2_labelled_17 : decode cX2_labelled 17 = .ok (.iload_n 1, 1) := by decide +kernel
theorem dX2_labelled_18 : decode cX2_labelled 18 = .ok (.invokestatic 48, 3) := by decide +kernel
theorem dX2_labelled_21 : decode cX2_labelled 21 = .ok (.ifCond .eq 9, 3) := by decide +kernel
theorem dX2_labelled_24 : decode cX2_labelled 24 = .ok (.iload_n 2, 1) := by decide +kernel
theorem dX2_labelled_25 : decode cX2_labelled 25 = .ok (.iconst 1, 1) := by decide +kernel
theorem dX2_labelled_26 : decode cX2_labelled 26 = .ok (.iload_n 3, 1) := by decide +kernel
theorem dX2_labelled_27 : decode cX2_labelled 27 = .ok (.ishl, 1) := by decide +kernel
theorem dX2_labelled_28 : decode cX2_labelled 28 = .ok (.ior, 1) := by decide +kernel
theorem dX2_labelled_29 : decode cX2_labelled 29 = .ok (.istore_n 2, 1) := by decide +kernel
theorem dX2_labelled_30 : decode cX2_labelled 30 = .ok (.iinc 3 1, 3) := by decide +kernel
theorem dX2_labelled_33 : decode cX2_labelled 33 = .ok (.goto (-29), 3) := by decide +kernel
theorem dX2_labelled_36 : decode cX2_labelled 36 = .ok (.iload_n 2, 1) := by decide +kernel
theorem dX2_labelled_37 : decode cX2_labelled 37 = .ok (.ireturn, 1) := by decide +kernel
set_option maxRecDepth 20000 in
theorem ggX2_reachedFrom_X11_contains : GoodIn wsX2_reachedFrom wsX11_contains := goodIn_k tie_wsX2_reachedFrom tie_wsX11_contains (by decide +kernel)
set_option maxRecDepth 20000 in
theorem gX2_reachedFrom_X11_contains_n48 : GoodIn wsX2_reachedFrom (wsX11_contains) := ggX2_reachedFrom_X11_contains
set_option maxRecDepth 20000 in
theorem ggX2_reachedFrom_X2_successorsOf : GoodIn wsX2_reachedFrom wsX2_successorsOf := goodIn_k tie_wsX2_reachedFrom tie_wsX2_successorsOf (by decide +kernel)
set_option maxRecDepth 20000 in
theorem gX2_reachedFrom_X2_successorsOf : GoodIn wsX2_reachedFrom (wsV RX2 55 RX2 yX2_successorsOf wsX2_successorsOf) := goodIn_app (goodIn_k (is := [312, 313, 314, 14]) tie_wsX2_reachedFrom rfl (by decide +kernel)) ggX2_reachedFrom_X2_successorsOf
theorem dX2_reachedFrom_0 : decode cX2_reachedFrom 0 = .ok (.iconst 1, 1) := by decide +kernel
theorem dX2_reachedFrom_1 : decode cX2_reachedFrom 1 = .ok (.iload_n 1, 1) := by decide +kernel
theorem dX2_reachedFrom_2 : decode cX2_reachedFrom 2 = .ok (.ishl, 1) := by decide +kernel
theorem dX2_reachedFrom_3 : decode cX2_reachedFrom 3 = .ok (.istore_n 2, 1) := by decide +kernel
theorem dX2_reachedFrom_4 : decode cX2_reachedFrom 4 = .ok (.iconst 0, 1) := by decide +kernel
theorem dX2_reachedFrom_5 : decode cX2_reachedFrom 5 = .ok (.istore_n 3, 1) := by decide +kernel
theorem dX2_reachedFrom_6 : decode cX2_reachedFrom 6 = .ok (.iload_n 3, 1) := by decide +kernel
theorem dX2_reachedFrom_7 : decode cX2_reachedFrom 7 = .ok (.aload_n 0, 1) := by decide +kernel
theorem dX2_reachedFrom_8 : decode cX2_reachedFrom 8 = .ok (.getfield 21, 3) := by decide +kernel
theorem dX2_reachedFrom_11 : decode cX2_reachedFrom 11 = .ok (.if_icmp .ge 45, 3) := by decide +kernel
theorem dX2_reachedFrom_14 : decode cX2_reachedFrom 14 = .ok (.iconst 0, 1) := by decide +kernel
theorem dX2_reachedFrom_15 : decode cX2_reachedFrom 15 = .ok (.istore 4, 2) := by decide +kernel
theorem dX2_reachedFrom_17 : decode cX2_reachedFrom 17 = .ok (.iload 4, 2) := by decide +kernel
theorem dX2_reachedFrom_19 : decode cX2_reachedFrom 19 = .ok (.aload_n 0, 1) := by decide +kernel
theorem dX2_reachedFrom_20 : decode cX2_reachedFrom 20 = .ok (.getfield 21, 3) := by decide +kernel
theorem dX2_reachedFrom_23 : decode cX2_reachedFrom 23 = .ok (.if_icmp .ge 27, 3) := by decide +kernel
theorem dX2_reachedFrom_26 : decode cX2_reachedFrom 26 = .ok (.iload_n 2, 1) := by decide +kernel
theorem dX2_reachedFrom_27 : decode cX2_reachedFrom 27 = .ok (.iload 4, 2) := by decide +kernel
theorem dX2_reachedFrom_29 : decode cX2_reachedFrom 29 = .ok (.invokestatic 48, 3) := by decide +kernel
theorem dX2_reachedFrom_32 : decode cX2_reachedFrom 32 = .ok (.ifCond .eq 12, 3) := by decide +kernel
theorem dX2_reachedFrom_35 : decode cX2_reachedFrom 35 = .ok (.iload_n 2, 1) := by decide +kernel
theorem dX2_reachedFrom_36 : decode cX2_reachedFrom 36 = .ok (.aload_n 0, 1) := by decide +kernel
theorem dX2_reachedFrom_37 : decode cX2_reachedFrom 37 = .ok (.iload 4, 2) := by decide +kernel
theorem dX2_reachedFrom_39 : decode cX2_reachedFrom 39 = .ok (.invokevirtual 55, 3) := by decide +kernel
theorem dX2_reachedFrom_42 : decode cX2_reachedFrom 42 = .ok (.ior, 1) := by decide +kernel
theorem dX2_reachedFrom_43 : decode cX2_reachedFrom 43 = .ok (.istore_n 2, 1) := by decide +kernel
theorem dX2_reachedFrom_44 : decode cX2_reachedFrom 44 = .ok (.iinc 4 1, 3) := by decide +kernel
theorem dX2_reachedFrom_47 : decode cX2_reachedFrom 47 = .ok (.goto (-30), 3) := by decide +kernel
theorem dX2_reachedFrom_50 : decode cX2_reachedFrom 50 = .ok (.iinc 3 1, 3) := by decide +kernel
theorem dX2_reachedFrom_53 : decode cX2_reachedFrom 53 = .ok (.goto (-47), 3) := by decide +kernel
theorem dX2_reachedFrom_56 : decode cX2_reachedFrom 56 = .ok (.iload_n 2, 1) := by decide +kernel
theorem dX2_reachedFrom_57 : decode cX2_reachedFrom 57 = .ok (.ireturn, 1) := by decide +kernel
set_option maxRecDepth 20000 in
theorem ggX2_componentOf_X2_reachedFrom : GoodIn wsX2_componentOf wsX2_reachedFrom := goodIn_k tie_wsX2_componentOf tie_wsX2_reachedFrom (by decide +kernel)
set_option maxRecDepth 20000 in
theorem gX2_componentOf_X2_reachedFrom : GoodIn wsX2_componentOf (wsV RX2 58 RX2 yX2_reachedFrom wsX2_reachedFrom) := goodIn_app (goodIn_k (is := [339, 307, 308, 14]) tie_wsX2_componentOf rfl (by decide +kernel)) ggX2_componentOf_X2_reachedFrom
set_option maxRecDepth 20000 in
theorem ggX2_componentOf_X11_contains : GoodIn wsX2_componentOf wsX11_contains := goodIn_k tie_wsX2_componentOf tie_wsX11_contains (by decide +kernel)
set_option maxRecDepth 20000 in
theorem gX2_componentOf_X11_contains_n48 : GoodIn wsX2_componentOf (wsX11_contains) := ggX2_componentOf_X11_contains
theorem dX2_componentOf_0 : decode cX2_componentOf 0 = .ok (.aload_n 0, 1) := by decide +kernel
theorem dX2_componentOf_1 : decode cX2_componentOf 1 = .ok (.iload_n 1, 1) := by decide +kernel
theorem dX2_componentOf_2 : decode cX2_componentOf 2 = .ok (.invokevirtual 58, 3) := by decide +kernel
theorem dX2_componentOf_5 : decode cX2_componentOf 5 = .ok (.istore_n 2, 1) := by decide +kernel
theorem dX2_componentOf_6 : decode cX2_componentOf 6 = .ok (.iconst 0, 1) := by decide +kernel
theorem dX2_componentOf_7 : decode cX2_componentOf 7 = .ok (.istore_n 3, 1) := by decide +kernel
theorem dX2_componentOf_8 : decode cX2_componentOf 8 = .ok (.iconst 0, 1) := by decide +kernel
theorem dX2_componentOf_9 : decode cX2_componentOf 9 = .ok (.istore 4, 2) := by decide +kernel
theorem dX2_componentOf_11 : decode cX2_componentOf 11 = .ok (.iload 4, 2) := by decide +kernel
theorem dX2_componentOf_13 : decode cX2_componentOf 13 = .ok (.aload_n 0, 1) := by decide +kernel
theorem dX2_componentOf_14 : decode cX2_componentOf 14 = .ok (.getfield 21, 3) := by decide +kernel
theorem dX2_componentOf_17 : decode cX2_componentOf 17 = .ok (.if_icmp .ge 38, 3) := by decide +kernel
theorem dX2_componentOf_20 : decode cX2_componentOf 20 = .ok (.iload_n 2, 1) := by decide +kernel
theorem dX2_componentOf_21 : decode cX2_componentOf 21 = .ok (.iload 4, 2) := by decide +kernel
theorem dX2_componentOf_23 : decode cX2_componentOf 23 = .ok (.invokestatic 48, 3) := by decide +kernel
theorem dX2_componentOf_26 : decode cX2_componentOf 26 = .ok (.ifCond .eq 23, 3) := by decide +kernel
theorem dX2_componentOf_29 : decode cX2_componentOf 29 = .ok (.aload_n 0, 1) := by decide +kernel
theorem dX2_componentOf_30 : decode cX2_componentOf 30 = .ok (.iload 4, 2) := by decide +kernel
theorem dX2_componentOf_32 : decode cX2_componentOf 32 = .ok (.invokevirtual 58, 3) := by decide +kernel
theorem dX2_componentOf_35 : decode cX2_componentOf 35 = .ok (.iload_n 1, 1) := by decide +kernel
theorem dX2_componentOf_36 : decode cX2_componentOf 36 = .ok (.invokestatic 48, 3) := by decide +kernel
theorem dX2_componentOf_39 : decode cX2_componentOf 39 = .ok (.ifCond .eq 10, 3) := by decide +kernel
theorem dX2_componentOf_42 : decode cX2_componentOf 42 = .ok (.iload_n 3, 1) := by decide +kernel
theorem dX2_componentOf_43 : decode cX2_componentOf 43 = .ok (.iconst 1, 1) := by decide +kernel
theorem dX2_componentOf_44 : decode cX2_componentOf 44 = .ok (.iload 4, 2) := by decide +kernel
theorem dX2_componentOf_46 : decode cX2_componentOf 46 = .ok (.ishl, 1) := by decide +kernel
theorem dX2_componentOf_47 : decode cX2_componentOf 47 = .ok (.ior, 1) := by decide +kernel
theorem dX2_componentOf_48 : decode cX2_componentOf 48 = .ok (.istore_n 3, 1) := by decide +kernel
theorem dX2_componentOf_49 : decode cX2_componentOf 49 = .ok (.iinc 4 1, 3) := by decide +kernel
theorem dX2_componentOf_52 : decode cX2_componentOf 52 = .ok (.goto (-41), 3) := by decide +kernel
theorem dX2_componentOf_55 : decode cX2_componentOf 55 = .ok (.iload_n 3, 1) := by decide +kernel
theorem dX2_componentOf_56 : decode cX2_componentOf 56 = .ok (.ireturn, 1) := by decide +kernel
set_option maxRecDepth 20000 in
theorem ggX2_bottomStates_X2_all : GoodIn wsX2_bottomStates wsX2_all := goodIn_k tie_wsX2_bottomStates tie_wsX2_all (by decide +kernel)
set_option maxRecDepth 20000 in
theorem gX2_bottomStates_X2_all : GoodIn wsX2_bottomStates (wsV RX2 61 RX2 yX2_all wsX2_all) := goodIn_app (goodIn_k (is := [356, 357, 358, 14]) tie_wsX2_bottomStates rfl (by decide +kernel)) ggX2_bottomStates_X2_all
set_option maxRecDepth 20000 in
theorem ggX2_bottomStates_X2_reachedFrom : GoodIn wsX2_bottomStates wsX2_reachedFrom := goodIn_k tie_wsX2_bottomStates tie_wsX2_reachedFrom (by decide +kernel)
set_option maxRecDepth 20000 in
theorem gX2_bottomStates_X2_reachedFrom : GoodIn wsX2_bottomStates (wsV RX2 58 RX2 yX2_reachedFrom wsX2_reachedFrom) := goodIn_app (goodIn_k (is := [339, 307, 308, 14]) tie_wsX2_bottomStates rfl (by decide +kernel)) ggX2_bottomStates_X2_reachedFrom
set_option maxRecDepth 20000 in
theorem ggX2_bottomStates_X11_contains : GoodIn wsX2_bottomStates wsX11_contains := goodIn_k tie_wsX2_bottomStates tie_wsX11_contains (by decide +kernel)
set_option maxRecDepth 20000 in
theorem gX2_bottomStates_X11_contains_n48 : GoodIn wsX2_bottomStates (wsX11_contains) := ggX2_bottomStates_X11_contains
theorem dX2_bottomStates_0 : decode cX2_bottomStates 0 = .ok (.aload_n 0, 1) := by decide +kernel
theorem dX2_bottomStates_1 : decode cX2_bottomStates 1 = .ok (.invokevirtual 61, 3) := by decide +kernel
theorem dX2_bottomStates_4 : decode cX2_bottomStates 4 = .ok (.istore_n 1, 1) := by decide +kernel
theorem dX2_bottomStates_5 : decode cX2_bottomStates 5 = .ok (.iconst 0, 1) := by decide +kernel
theorem dX2_bottomStates_6 : decode cX2_bottomStates 6 = .ok (.istore_n 2, 1) := by decide +kernel
theorem dX2_bottomStates_7 : decode cX2_bottomStates 7 = .ok (.iload_n 2, 1) := by decide +kernel
theorem dX2_bottomStates_8 : decode cX2_bottomStates 8 = .ok (.aload_n 0, 1) := by decide +kernel
theorem dX2_bottomStates_9 : decode cX2_bottomStates 9 = .ok (.getfield 21, 3) := by decide +kernel
theorem dX2_bottomStates_12 : decode cX2_bottomStates 12 = .ok (.if_icmp .ge 63, 3) := by decide +kernel
theorem dX2_bottomStates_15 : decode cX2_bottomStates 15 = .ok (.aload_n 0, 1) := by decide +kernel
theorem dX2_bottomStates_16 : decode cX2_bottomStates 16 = .ok (.iload_n 2, 1) := by decide +kernel
theorem dX2_bottomStates_17 : decode cX2_bottomStates 17 = .ok (.invokevirtual 58, 3) := by decide +kernel
theorem dX2_bottomStates_20 : decode cX2_bottomStates 20 = .ok (.istore_n 3, 1) := by decide +kernel
theorem dX2_bottomStates_21 : decode cX2_bottomStates 21 = .ok (.iconst 0, 1) := by decide +kernel
theorem dX2_bottomStates_22 : decode cX2_bottomStates 22 = .ok (.istore 4, 2) := by decide +kernel
theorem dX2_bottomStates_24 : decode cX2_bottomStates 24 = .ok (.iload 4, 2) := by decide +kernel
theorem dX2_bottomStates_26 : decode cX2_bottomStates 26 = .ok (.aload_n 0, 1) := by decide +kernel
theorem dX2_bottomStates_27 : decode cX2_bottomStates 27 = .ok (.getfield 21, 3) := by decide +kernel
theorem dX2_bottomStates_30 : decode cX2_bottomStates 30 = .ok (.if_icmp .ge 39, 3) := by decide +kernel
theorem dX2_bottomStates_33 : decode cX2_bottomStates 33 = .ok (.iload_n 3, 1) := by decide +kernel
theorem dX2_bottomStates_34 : decode cX2_bottomStates 34 = .ok (.iload 4, 2) := by decide +kernel
theorem dX2_bottomStates_36 : decode cX2_bottomStates 36 = .ok (.invokestatic 48, 3) := by decide +kernel
theorem dX2_bottomStates_39 : decode cX2_bottomStates 39 = .ok (.ifCond .eq 24, 3) := by decide +kernel
theorem dX2_bottomStates_42 : decode cX2_bottomStates 42 = .ok (.aload_n 0, 1) := by decide +kernel
theorem dX2_bottomStates_43 : decode cX2_bottomStates 43 = .ok (.iload 4, 2) := by decide +kernel
theorem dX2_bottomStates_45 : decode cX2_bottomStates 45 = .ok (.invokevirtual 58, 3) := by decide +kernel
theorem dX2_bottomStates_48 : decode cX2_bottomStates 48 = .ok (.iload_n 2, 1) := by decide +kernel
theorem dX2_bottomStates_49 : decode cX2_bottomStates 49 = .ok (.invokestatic 48, 3) := by decide +kernel
theorem dX2_bottomStates_52 : decode cX2_bottomStates 52 = .ok (.ifCond .ne 11, 3) := by decide +kernel
theorem dX2_bottomStates_55 : decode cX2_bottomStates 55 = .ok (.iload_n 1, 1) := by decide +kernel
theorem dX2_bottomStates_56 : decode cX2_bottomStates 56 = .ok (.iconst 1, 1) := by decide +kernel
theorem dX2_bottomStates_57 : decode cX2_bottomStates 57 = .ok (.iload_n 2, 1) := by decide +kernel
theorem dX2_bottomStates_58 : decode cX2_bottomStates 58 = .ok (.ishl, 1) := by decide +kernel
theorem dX2_bottomStates_59 : decode cX2_bottomStates 59 = .ok (.iconst (-1), 1) := by decide +kernel
theorem dX2_bottomStates_60 : decode cX2_bottomStates 60 = .ok (.ixor, 1) := by decide +kernel
theorem dX2_bottomStates_61 : decode cX2_bottomStates 61 = .ok (.iand, 1) := by decide +kernel
theorem dX2_bottomStates_62 : decode cX2_bottomStates 62 = .ok (.istore_n 1, 1) := by decide +kernel
theorem dX2_bottomStates_63 : decode cX2_bottomStates 63 = .ok (.iinc 4 1, 3) := by decide +kernel
theorem dX2_bottomStates_66 : decode cX2_bottomStates 66 = .ok (.goto (-42), 3) := by decide +kernel
theorem dX2_bottomStates_69 : decode cX2_bottomStates 69 = .ok (.iinc 2 1, 3) := by decide +kernel
theorem dX2_bottomStates_72 : decode cX2_bottomStates 72 = .ok (.goto (-65), 3) := by decide +kernel
theorem dX2_bottomStates_75 : decode cX2_bottomStates 75 = .ok (.iload_n 1, 1) := by decide +kernel
theorem dX2_bottomStates_76 : decode cX2_bottomStates 76 = .ok (.ireturn, 1) := by decide +kernel
set_option maxRecDepth 20000 in
theorem ggX2_canReach_X11_contains : GoodIn wsX2_canReach wsX11_contains := goodIn_k tie_wsX2_canReach tie_wsX11_contains (by decide +kernel)
set_option maxRecDepth 20000 in
theorem gX2_canReach_X11_contains_n48 : GoodIn wsX2_canReach (wsX11_contains) := ggX2_canReach_X11_contains
set_option maxRecDepth 20000 in
theorem ggX2_canReach_X2_successorsOf : GoodIn wsX2_canReach wsX2_successorsOf := goodIn_k tie_wsX2_canReach tie_wsX2_successorsOf (by decide +kernel)
set_option maxRecDepth 20000 in
theorem gX2_canReach_X2_successorsOf : GoodIn wsX2_canReach (wsV RX2 55 RX2 yX2_successorsOf wsX2_successorsOf) := goodIn_app (goodIn_k (is := [312, 313, 314, 14]) tie_wsX2_canReach rfl (by decide +kernel)) ggX2_canReach_X2_successorsOf
theorem dX2_canReach_0 : decode cX2_canReach 0 = .ok (.iload_n 2, 1) := by decide +kernel
theorem dX2_canReach_1 : decode cX2_canReach 1 = .ok (.istore_n 3, 1) := by decide +kernel
theorem dX2_canReach_2 : decode cX2_canReach 2 = .ok (.iconst 0, 1) := by decide +kernel
theorem dX2_canReach_3 : decode cX2_canReach 3 = .ok (.istore 4, 2) := by decide +kernel
theorem dX2_canReach_5 : decode cX2_canReach 5 = .ok (.iload 4, 2) := by decide +kernel
theorem dX2_canReach_7 : decode cX2_canReach 7 = .ok (.aload_n 0, 1) := by decide +kernel
theorem dX2_canReach_8 : decode cX2_canReach 8 = .ok (.getfield 21, 3) := by decide +kernel
theorem dX2_canReach_11 : decode cX2_canReach 11 = .ok (.if_icmp .ge 54, 3) := by decide +kernel
theorem dX2_canReach_14 : decode cX2_canReach 14 = .ok (.iconst 0, 1) := by decide +kernel
theorem dX2_canReach_15 : decode cX2_canReach 15 = .ok (.istore 5, 2) := by decide +kernel
theorem dX2_canReach_17 : decode cX2_canReach 17 = .ok (.iload 5, 2) := by decide +kernel
theorem dX2_canReach_19 : decode cX2_canReach 19 = .ok (.aload_n 0, 1) := by decide +kernel
theorem dX2_canReach_20 : decode cX2_canReach 20 = .ok (.getfield 21, 3) := by decide +kernel
theorem dX2_canReach_23 : decode cX2_canReach 23 = .ok (.if_icmp .ge 36, 3) := by decide +kernel
theorem dX2_canReach_26 : decode cX2_canReach 26 = .ok (.iload_n 1, 1) := by decide +kernel
theorem dX2_canReach_27 : decode cX2_canReach 27 = .ok (.iload 5, 2) := by decide +kernel
theorem dX2_canReach_29 : decode cX2_canReach 29 = .ok (.invokestatic 48, 3) := by decide +kernel
theorem dX2_canReach_32 : decode cX2_canReach 32 = .ok (.ifCond .eq 21, 3) := by decide +kernel
theorem dX2_canReach_35 : decode cX2_canReach 35 = .ok (.aload_n 0, 1) := by decide +kernel
theorem dX2_canReach_36 : decode cX2_canReach 36 = .ok (.iload 5, 2) := by decide +kernel
theorem dX2_canReach_38 : decode cX2_canReach 38 = .ok (.invokevirtual 55, 3) := by decide +kernel
theorem dX2_canReach_41 : decode cX2_canReach 41 = .ok (.iload_n 3, 1) := by decide +kernel
theorem dX2_canReach_42 : decode cX2_canReach 42 = .ok (.iand, 1) := by decide +kernel
theorem dX2_canReach_43 : decode cX2_canReach 43 = .ok (.ifCond .eq 10, 3) := by decide +kernel
theorem dX2_canReach_46 : decode cX2_canReach 46 = .ok (.iload_n 3, 1) := by decide +kernel
theorem dX2_canReach_47 : decode cX2_canReach 47 = .ok (.iconst 1, 1) := by decide +kernel
theorem dX2_canReach_48 : decode cX2_canReach 48 = .ok (.iload 5, 2) := by decide +kernel
theorem dX2_canReach_50 : decode cX2_canReach 50 = .ok (.ishl, 1) := by decide +kernel
theorem dX2_canReach_51 : decode cX2_canReach 51 = .ok (.ior, 1) := by decide +kernel
theorem dX2_canReach_52 : decode cX2_canReach 52 = .ok (.istore_n 3, 1) := by decide +kernel
theorem dX2_canReach_53 : decode cX2_canReach 53 = .ok (.iinc 5 1, 3) := by decide +kernel
theorem dX2_canReach_56 : decode cX2_canReach 56 = .ok (.goto (-39), 3) := by decide +kernel
theorem dX2_canReach_59 : decode cX2_canReach 59 = .ok (.iinc 4 1, 3) := by decide +kernel
theorem dX2_canReach_62 : decode cX2_canReach 62 = .ok (.goto (-57), 3) := by decide +kernel
theorem dX2_canReach_65 : decode cX2_canReach 65 = .ok (.iload_n 3, 1) := by decide +kernel
theorem dX2_canReach_66 : decode cX2_canReach 66 = .ok (.ireturn, 1) := by decide +kernel
set_option maxRecDepth 20000 in
theorem ggX2_neverUntil_X2_all : GoodIn wsX2_neverUntil wsX2_all := goodIn_k tie_wsX2_neverUntil tie_wsX2_all (by decide +kernel)
set_option maxRecDepth 20000 in
theorem gX2_neverUntil_X2_all : GoodIn wsX2_neverUntil (wsV RX2 61 RX2 yX2_all wsX2_all) := goodIn_app (goodIn_k (is := [356, 357, 358, 14]) tie_wsX2_neverUntil rfl (by decide +kernel)) ggX2_neverUntil_X2_all
set_option maxRecDepth 20000 in
theorem ggX2_neverUntil_X2_canReach : GoodIn wsX2_neverUntil wsX2_canReach := goodIn_k tie_wsX2_neverUntil tie_wsX2_canReach (by decide +kernel)
set_option maxRecDepth 20000 in
theorem gX2_neverUntil_X2_canReach : GoodIn wsX2_neverUntil (wsV RX2 65 RX2 yX2_canReach wsX2_canReach) := goodIn_app (goodIn_k (is := [1061, 972, 973, 14]) tie_wsX2_neverUntil rfl (by decide +kernel)) ggX2_neverUntil_X2_canReach
theorem dX2_neverUntil_0 : decode cX2_neverUntil 0 = .ok (.aload_n 0, 1) := by decide +kernel
theorem dX2_neverUntil_1 : decode cX2_neverUntil 1 = .ok (.invokevirtual 61, 3) := by decide +kernel
theorem dX2_neverUntil_4 : decode cX2_neverUntil 4 = .ok (.aload_n 0, 1) := by decide +kernel
theorem dX2_neverUntil_5 : decode cX2_neverUntil 5 = .ok (.iload_n 1, 1) := by decide +kernel
theorem dX2_neverUntil_6 : decode cX2_neverUntil 6 = .ok (.iload_n 2, 1) := by decide +kernel
theorem dX2_neverUntil_7 : decode cX2_neverUntil 7 = .ok (.invokevirtual 65, 3) := by decide +kernel
theorem dX2_neverUntil_10 : decode cX2_neverUntil 10 = .ok (.iconst (-1), 1) := by decide +kernel
theorem dX2_neverUntil_11 : decode cX2_neverUntil 11 = .ok (.ixor, 1) := by decide +kernel
theorem dX2_neverUntil_12 : decode cX2_neverUntil 12 = .ok (.iand, 1) := by decide +kernel
theorem dX2_neverUntil_13 : decode cX2_neverUntil 13 = .ok (.ireturn, 1) := by decide +kernel
set_option maxRecDepth 20000 in
theorem ggX2_surelyUntil_X2_all : GoodIn wsX2_surelyUntil wsX2_all := goodIn_k tie_wsX2_surelyUntil tie_wsX2_all (by decide +kernel)
set_option maxRecDepth 20000 in
theorem gX2_surelyUntil_X2_all : GoodIn wsX2_surelyUntil (wsV RX2 61 RX2 yX2_all wsX2_all) := goodIn_app (goodIn_k (is := [356, 357, 358, 14]) tie_wsX2_surelyUntil rfl (by decide +kernel)) ggX2_surelyUntil_X2_all
set_option maxRecDepth 20000 in
theorem ggX2_surelyUntil_X2_canReach : GoodIn wsX2_surelyUntil wsX2_canReach := goodIn_k tie_wsX2_surelyUntil tie_wsX2_canReach (by decide +kernel)
set_option maxRecDepth 20000 in
theorem gX2_surelyUntil_X2_canReach : GoodIn wsX2_surelyUntil (wsV RX2 65 RX2 yX2_canReach wsX2_canReach) := goodIn_app (goodIn_k (is := [1061, 972, 973, 14]) tie_wsX2_surelyUntil rfl (by decide +kernel)) ggX2_surelyUntil_X2_canReach
theorem dX2_surelyUntil_0 : decode cX2_surelyUntil 0 = .ok (.aload_n 0, 1) := by decide +kernel
theorem dX2_surelyUntil_1 : decode cX2_surelyUntil 1 = .ok (.invokevirtual 61, 3) := by decide +kernel
theorem dX2_surelyUntil_4 : decode cX2_surelyUntil 4 = .ok (.aload_n 0, 1) := by decide +kernel
theorem dX2_surelyUntil_5 : decode cX2_surelyUntil 5 = .ok (.iload_n 1, 1) := by decide +kernel
theorem dX2_surelyUntil_6 : decode cX2_surelyUntil 6 = .ok (.iload_n 2, 1) := by decide +kernel
theorem dX2_surelyUntil_7 : decode cX2_surelyUntil 7 = .ok (.invokevirtual 65, 3) := by decide +kernel
theorem dX2_surelyUntil_10 : decode cX2_surelyUntil 10 = .ok (.iconst (-1), 1) := by decide +kernel
theorem dX2_surelyUntil_11 : decode cX2_surelyUntil 11 = .ok (.ixor, 1) := by decide +kernel
theorem dX2_surelyUntil_12 : decode cX2_surelyUntil 12 = .ok (.iand, 1) := by decide +kernel
theorem dX2_surelyUntil_13 : decode cX2_surelyUntil 13 = .ok (.istore_n 3, 1) := by decide +kernel
theorem dX2_surelyUntil_14 : decode cX2_surelyUntil 14 = .ok (.aload_n 0, 1) := by decide +kernel
theorem dX2_surelyUntil_15 : decode cX2_surelyUntil 15 = .ok (.invokevirtual 61, 3) := by decide +kernel
theorem dX2_surelyUntil_18 : decode cX2_surelyUntil 18 = .ok (.aload_n 0, 1) := by decide +kernel
theorem dX2_surelyUntil_19 : decode cX2_surelyUntil 19 = .ok (.iload_n 1, 1) := by decide +kernel
theorem dX2_surelyUntil_20 : decode cX2_surelyUntil 20 = .ok (.iload_n 2, 1) := by decide +kernel
theorem dX2_surelyUntil_21 : decode cX2_surelyUntil 21 = .ok (.iconst (-1), 1) := by decide +kernel
theorem dX2_surelyUntil_22 : decode cX2_surelyUntil 22 = .ok (.ixor, 1) := by decide +kernel
theorem dX2_surelyUntil_23 : decode cX2_surelyUntil 23 = .ok (.iand, 1) := by decide +kernel
theorem dX2_surelyUntil_24 : decode cX2_surelyUntil 24 = .ok (.iload_n 3, 1) := by decide +kernel
theorem dX2_surelyUntil_25 : decode cX2_surelyUntil 25 = .ok (.invokevirtual 65, 3) := by decide +kernel
theorem dX2_surelyUntil_28 : decode cX2_surelyUntil 28 = .ok (.iconst (-1), 1) := by decide +kernel
theorem dX2_surelyUntil_29 : decode cX2_surelyUntil 29 = .ok (.ixor, 1) := by decide +kernel
theorem dX2_surelyUntil_30 : decode cX2_surelyUntil 30 = .ok (.iand, 1) := by decide +kernel
theorem dX2_surelyUntil_31 : decode cX2_surelyUntil 31 = .ok (.ireturn, 1) := by decide +kernel
set_option maxRecDepth 20000 in
theorem ggX2_commonDivisors_X2_divisorOf : GoodIn wsX2_commonDivisors wsX2_divisorOf := goodIn_k tie_wsX2_commonDivisors tie_wsX2_divisorOf (by decide +kernel)
set_option maxRecDepth 20000 in
theorem gX2_commonDivisors_X2_divisorOf : GoodIn wsX2_commonDivisors (wsV RX2 68 RX2 yX2_divisorOf wsX2_divisorOf) := goodIn_app (goodIn_k (is := [950, 404, 405, 14]) tie_wsX2_commonDivisors rfl (by decide +kernel)) ggX2_commonDivisors_X2_divisorOf
set_option maxRecDepth 20000 in
theorem ggX2_commonDivisors_X11_commonMultiple : GoodIn wsX2_commonDivisors wsX11_commonMultiple := goodIn_k tie_wsX2_commonDivisors tie_wsX11_commonMultiple (by decide +kernel)
set_option maxRecDepth 20000 in
theorem gX2_commonDivisors_X11_commonMultiple_n71 : GoodIn wsX2_commonDivisors (wsX11_commonMultiple) := ggX2_commonDivisors_X11_commonMultiple
theorem dX2_commonDivisors_0 : decode cX2_commonDivisors 0 = .ok (.lconst 1, 1) := by decide +kernel
theorem dX2_commonDivisors_1 : decode cX2_commonDivisors 1 = .ok (.lstore_n 1, 1) := by decide +kernel
theorem dX2_commonDivisors_2 : decode cX2_commonDivisors 2 = .ok (.iconst 0, 1) := by decide +kernel
theorem dX2_commonDivisors_3 : decode cX2_commonDivisors 3 = .ok (.istore_n 3, 1) := by decide +kernel
theorem dX2_commonDivisors_4 : decode cX2_commonDivisors 4 = .ok (.iload_n 3, 1) := by decide +kernel
theorem dX2_commonDivisors_5 : decode cX2_commonDivisors 5 = .ok (.aload_n 0, 1) := by decide +kernel
theorem dX2_commonDivisors_6 : decode cX2_commonDivisors 6 = .ok (.getfield 21, 3) := by decide +kernel
theorem dX2_commonDivisors_9 : decode cX2_commonDivisors 9 = .ok (.if_icmp .ge 20, 3) := by decide +kernel
theorem dX2_commonDivisors_12 : decode cX2_commonDivisors 12 = .ok (.lload_n 1, 1) := by decide +kernel
theorem dX2_commonDivisors_13 : decode cX2_commonDivisors 13 = .ok (.aload_n 0, 1) := by decide +kernel
theorem dX2_commonDivisors_14 : decode cX2_commonDivisors 14 = .ok (.iload_n 3, 1) := by decide +kernel
theorem dX2_commonDivisors_15 : decode cX2_commonDivisors 15 = .ok (.invokevirtual 68, 3) := by decide +kernel
theorem dX2_commonDivisors_18 : decode cX2_commonDivisors 18 = .ok (.i2l, 1) := by decide +kernel
theorem dX2_commonDivisors_19 : decode cX2_commonDivisors 19 = .ok (.invokestatic 71, 3) := by decide +kernel
theorem dX2_commonDivisors_22 : decode cX2_commonDivisors 22 = .ok (.lstore_n 1, 1) := by decide +kernel
theorem dX2_commonDivisors_23 : decode cX2_commonDivisors 23 = .ok (.iinc 3 1, 3) := by decide +kernel
theorem dX2_commonDivisors_26 : decode cX2_commonDivisors 26 = .ok (.goto (-22), 3) := by decide +kernel
theorem dX2_commonDivisors_29 : decode cX2_commonDivisors 29 = .ok (.lload_n 1, 1) := by decide +kernel
theorem dX2_commonDivisors_30 : decode cX2_commonDivisors 30 = .ok (.lreturn, 1) := by decide +kernel
set_option maxRecDepth 20000 in
theorem ggX2_drawn_X2_sumOf : GoodIn wsX2_drawn wsX2_sumOf := goodIn_k tie_wsX2_drawn tie_wsX2_sumOf (by decide +kernel)
set_option maxRecDepth 20000 in
theorem gX2_drawn_X2_sumOf : GoodIn wsX2_drawn (wsV RX2 44 RX2 yX2_sumOf wsX2_sumOf) := goodIn_app (goodIn_k (is := [402, 224, 225, 14]) tie_wsX2_drawn rfl (by decide +kernel)) ggX2_drawn_X2_sumOf
set_option maxRecDepth 20000 in
theorem ggX2_drawn_X2_weightOf : GoodIn wsX2_drawn wsX2_weightOf := goodIn_k tie_wsX2_drawn tie_wsX2_weightOf (by decide +kernel)
set_option maxRecDepth 20000 in
theorem gX2_drawn_X2_weightOf : GoodIn wsX2_drawn (wsV RX2 40 RX2 yX2_weightOf wsX2_weightOf) := goodIn_app (goodIn_k (is := [227, 220, 221, 14]) tie_wsX2_drawn rfl (by decide +kernel)) ggX2_drawn_X2_weightOf
theorem dX2_drawn_0 : decode cX2_drawn 0 = .ok (.aload_n 0, 1) := by decide +kernel
theorem dX2_drawn_1 : decode cX2_drawn 1 = .ok (.iload_n 1, 1) := by decide +kernel
theorem dX2_drawn_2 : decode cX2_drawn 2 = .ok (.invokevirtual 44, 3) := by decide +kernel
theorem dX2_drawn_5 : decode cX2_drawn 5 = .ok (.istore_n 3, 1) := by decide +kernel
theorem dX2_drawn_6 : decode cX2_drawn 6 = .ok (.iload_n 3, 1) := by decide +kernel
theorem dX2_drawn_7 : decode cX2_drawn 7 = .ok (.ifCond .gt 5, 3) := by decide +kernel
theorem dX2_drawn_10 : decode cX2_drawn 10 = .ok (.iload_n 1, 1) := by decide +kernel
theorem dX2_drawn_11 : decode cX2_drawn 11 = .ok (.ireturn, 1) := by decide +kernel
theorem dX2_drawn_12 : decode cX2_drawn 12 = .ok (.iload_n 2, 1) := by decide +kernel
theorem dX2_drawn_13 : decode cX2_drawn 13 = .ok (.iload_n 3, 1) := by decide +kernel
theorem dX2_drawn_14 : decode cX2_drawn 14 = .ok (.irem, 1) := by decide +kernel
theorem dX2_drawn_15 : decode cX2_drawn 15 = .ok (.istore 4, 2) := by decide +kernel
theorem dX2_drawn_17 : decode cX2_drawn 17 = .ok (.iconst 0, 1) := by decide +kernel
theorem dX2_drawn_18 : decode cX2_drawn 18 = .ok (.istore 5, 2) := by decide +kernel
theorem dX2_drawn_20 : decode cX2_drawn 20 = .ok (.iload 5, 2) := by decide +kernel
theorem dX2_drawn_22 : decode cX2_drawn 22 = .ok (.aload_n 0, 1) := by decide +kernel
theorem dX2_drawn_23 : decode cX2_drawn 23 = .ok (.getfield 21, 3) := by decide +kernel
theorem dX2_drawn_26 : decode cX2_drawn 26 = .ok (.if_icmp .ge 29, 3) := by decide +kernel
theorem dX2_drawn_29 : decode cX2_drawn 29 = .ok (.iload 4, 2) := by decide +kernel
theorem dX2_drawn_31 : decode cX2_drawn 31 = .ok (.aload_n 0, 1) := by decide +kernel
theorem dX2_drawn_32 : decode cX2_drawn 32 = .ok (.iload_n 1, 1) := by decide +kernel
theorem dX2_drawn_33 : decode cX2_drawn 33 = .ok (.iload 5, 2) := by decide +kernel
theorem dX2_drawn_35 : decode cX2_drawn 35 = .ok (.invokevirtual 40, 3) := by decide +kernel
theorem dX2_drawn_38 : decode cX2_drawn 38 = .ok (.isub, 1) := by decide +kernel
theorem dX2_drawn_39 : decode cX2_drawn 39 = .ok (.istore 4, 2) := by decide +kernel
theorem dX2_drawn_41 : decode cX2_drawn 41 = .ok (.iload 4, 2) := by decide +kernel
theorem dX2_drawn_43 : decode cX2_drawn 43 = .ok (.ifCond .ge 6, 3) := by decide +kernel
theorem dX2_drawn_46 : decode cX2_drawn 46 = .ok (.iload 5, 2) := by decide +kernel
theorem dX2_drawn_48 : decode cX2_drawn 48 = .ok (.ireturn, 1) := by decide +kernel
theorem dX2_drawn_49 : decode cX2_drawn 49 = .ok (.iinc 5 1, 3) := by decide +kernel
theorem dX2_drawn_52 : decode cX2_drawn 52 = .ok (.goto (-32), 3) := by decide +kernel
theorem dX2_drawn_55 : decode cX2_drawn 55 = .ok (.iload_n 1, 1) := by decide +kernel
theorem dX2_drawn_56 : decode cX2_drawn 56 = .ok (.ireturn, 1) := by decide +kernel
theorem dX3_init_0 : decode cX3_init 0 = .ok (.aload_n 0, 1) := by decide +kernel
theorem dX3_init_1 : decode cX3_init 1 = .ok (.invokespecial 3, 3) := by decide +kernel
theorem dX3_init_4 : decode cX3_init 4 = .ok (.aload_n 0, 1) := by decide +kernel
theorem dX3_init_5 : decode cX3_init 5 = .ok (.bipush 72, 2) := by decide +kernel
theorem dX3_init_7 : decode cX3_init 7 = .ok (.newarray .long, 2) := by decide +kernel
theorem dX3_init_9 : decode cX3_init 9 = .ok (.putfield 11, 3) := by decide +kernel
theorem dX3_init_12 : decode cX3_init 12 = .ok (.return_, 1) := by decide +kernel
set_option maxRecDepth 20000 in
theorem ggX3_clear_X3_clearRow : GoodIn wsX3_clear wsX3_clearRow := goodIn_k tie_wsX3_clear tie_wsX3_clearRow (by decide +kernel)
set_option maxRecDepth 20000 in
theorem gX3_clear_X3_clearRow : GoodIn wsX3_clear (wsV RX3 15 RX3 yX3_clearRow wsX3_clearRow) := goodIn_app (goodIn_k (is := [979, 980, 981, 70]) tie_wsX3_clear rfl (by decide +kernel)) ggX3_clear_X3_clearRow
set_option maxRecDepth 20000 in
theorem ggX3_clear_X3_put : GoodIn wsX3_clear wsX3_put := goodIn_k tie_wsX3_clear tie_wsX3_put (by decide +kernel)
set_option maxRecDepth 20000 in
theorem gX3_clear_X3_put : GoodIn wsX3_clear (wsV RX3 19 RX3 yX3_put wsX3_put) := goodIn_app (goodIn_k (is := [983, 984, 985, 70]) tie_wsX3_clear rfl (by decide +kernel)) ggX3_clear_X3_put
theorem dX3_clear_0 : decode cX3_clear 0 = .ok (.iconst 0, 1) := by decide +kernel
theorem dX3_clear_1 : decode cX3_clear 1 = .ok (.istore_n 1, 1) := by decide +kernel
theorem dX3_clear_2 : decode cX3_clear 2 = .ok (.iload_n 1, 1) := by decide +kernel
theorem dX3_clear_3 : decode cX3_clear 3 = .ok (.bipush 8, 2) := by decide +kernel
theorem dX3_clear_5 : decode cX3_clear 5 = .ok (.if_icmp .ge 21, 3) := by decide +kernel
theorem dX3_clear_8 : decode cX3_clear 8 = .ok (.aload_n 0, 1) := by decide +kernel
theorem dX3_clear_9 : decode cX3_clear 9 = .ok (.iload_n 1, 1) := by decide +kernel
theorem dX3_clear_10 : decode cX3_clear 10 = .ok (.invokevirtual 15, 3) := by decide +kernel
theorem dX3_clear_13 : decode cX3_clear 13 = .ok (.aload_n 0, 1) := by decide +kernel
theorem dX3_clear_14 : decode cX3_clear 14 = .ok (.iload_n 1, 1) := by decide +kernel
theorem dX3_clear_15 : decode cX3_clear 15 = .ok (.iload_n 1, 1) := by decide +kernel
theorem dX3_clear_16 : decode cX3_clear 16 = .ok (.lconst 1, 1) := by decide +kernel
theorem dX3_clear_17 : decode cX3_clear 17 = .ok (.invokevirtual 19, 3) := by decide +kernel
theorem dX3_clear_20 : decode cX3_clear 20 = .ok (.iinc 1 1, 3) := by decide +kernel
theorem dX3_clear_23 : decode cX3_clear 23 = .ok (.goto (-21), 3) := by decide +kernel
theorem dX3_clear_26 : decode cX3_clear 26 = .ok (.return_, 1) := by decide +kernel
set_option maxRecDepth 20000 in
theorem ggX3_clearRow_X3_put : GoodIn wsX3_clearRow wsX3_put := goodIn_k tie_wsX3_clearRow tie_wsX3_put (by decide +kernel)
set_option maxRecDepth 20000 in
theorem gX3_clearRow_X3_put : GoodIn wsX3_clearRow (wsV RX3 19 RX3 yX3_put wsX3_put) := goodIn_app (goodIn_k (is := [983, 984, 985, 70]) tie_wsX3_clearRow rfl (by decide +kernel)) ggX3_clearRow_X3_put
theorem dX3_clearRow_0 : decode cX3_clearRow 0 = .ok (.iconst 0, 1) := by decide +kernel
theorem dX3_clearRow_1 : decode cX3_clearRow 1 = .ok (.istore_n 2, 1) := by decide +kernel
theorem dX3_clearRow_2 : decode cX3_clearRow 2 = .ok (.iload_n 2, 1) := by decide +kernel
theorem dX3_clearRow_3 : decode cX3_clearRow 3 = .ok (.bipush 9, 2) := by decide +kernel
theorem dX3_clearRow_5 : decode cX3_clearRow 5 = .ok (.if_icmp .ge 16, 3) := by decide +kernel
theorem dX3_clearRow_8 : decode cX3_clearRow 8 = .ok (.aload_n 0, 1) := by decide +kernel
theorem dX3_clearRow_9 : decode cX3_clearRow 9 = .ok (.iload_n 1, 1) := by decide +kernel
theorem dX3_clearRow_10 : decode cX3_clearRow 10 = .ok (.iload_n 2, 1) := by decide +kernel
theorem dX3_clearRow_11 : decode cX3_clearRow 11 = .ok (.lconst 0, 1) := by decide +kernel
theorem dX3_clearRow_12 : decode cX3_clearRow 12 = .ok (.invokevirtual 19, 3) := by decide +kernel
theorem dX3_clearRow_15 : decode cX3_clearRow 15 = .ok (.iinc 2 1, 3) := by decide +kernel
theorem dX3_clearRow_18 : decode cX3_clearRow 18 = .ok (.goto (-16), 3) := by decide +kernel
theorem dX3_clearRow_21 : decode cX3_clearRow 21 = .ok (.return_, 1) := by decide +kernel
theorem dX3_put_0 : decode cX3_put 0 = .ok (.iload_n 1, 1) := by decide +kernel
theorem dX3_put_1 : decode cX3_put 1 = .ok (.bipush 9, 2) := by decide +kernel
theorem dX3_put_3 : decode cX3_put 3 = .ok (.imul, 1) := by decide +kernel
theorem dX3_put_4 : decode cX3_put 4 = .ok (.iload_n 2, 1) := by decide +kernel
theorem dX3_put_5 : decode cX3_put 5 = .ok (.iadd, 1) := by decide +kernel
theorem dX3_put_6 : decode cX3_put 6 = .ok (.istore 5, 2) := by decide +kernel
theorem dX3_put_8 : decode cX3_put 8 = .ok (.iload_n 2, 1) := by decide +kernel
theorem dX3_put_9 : decode cX3_put 9 = .ok (.ifCond .lt 32, 3) := by decide +kernel
theorem dX3_put_12 : decode cX3_put 12 = .ok (.iload_n 2, 1) := by decide +kernel
theorem dX3_put_13 : decode cX3_put 13 = .ok (.bipush 9, 2) := by decide +kernel
theorem dX3_put_15 : decode cX3_put 15 = .ok (.if_icmp .ge 26, 3) := by decide +kernel
theorem dX3_put_18 : decode cX3_put 18 = .ok (.iload 5, 2) := by decide +kernel
theorem dX3_put_20 : decode cX3_put 20 = .ok (.ifCond .lt 21, 3) := by decide +kernel
theorem dX3_put_23 : decode cX3_put 23 = .ok (.iload 5, 2) := by decide +kernel
theorem dX3_put_25 : decode cX3_put 25 = .ok (.aload_n 0, 1) := by decide +kernel
theorem dX3_put_26 : decode cX3_put 26 = .ok (.getfield 11, 3) := by decide +kernel
theorem dX3_put_29 : decode cX3_put 29 = .ok (.arraylength, 1) := by decide +kernel
theorem dX3_put_30 : decode cX3_put 30 = .ok (.if_icmp .ge 11, 3) := by decide +kernel
theorem dX3_put_33 : decode cX3_put 33 = .ok (.aload_n 0, 1) := by decide +kernel
theorem dX3_put_34 : decode cX3_put 34 = .ok (.getfield 11, 3) := by decide +kernel
theorem dX3_put_37 : decode cX3_put 37 = .ok (.iload 5, 2) := by decide +kernel
theorem dX3_put_39 : decode cX3_put 39 = .ok (.lload_n 3, 1) := by decide +kernel
theorem dX3_put_40 : decode cX3_put 40 = .ok (.lastore, 1) := by decide +kernel
theorem dX3_put_41 : decode cX3_put 41 = .ok (.return_, 1) := by decide +kernel
set_option maxRecDepth 20000 in
theorem ggX3_add_X3_get : GoodIn wsX3_add wsX3_get := goodIn_k tie_wsX3_add tie_wsX3_get (by decide +kernel)
set_option maxRecDepth 20000 in
theorem gX3_add_X3_get : GoodIn wsX3_add (wsV RX3 23 RX3 yX3_get wsX3_get) := goodIn_app (goodIn_k (is := [1002, 1003, 1004, 70]) tie_wsX3_add rfl (by decide +kernel)) ggX3_add_X3_get
set_option maxRecDepth 20000 in
theorem ggX3_add_X3_put : GoodIn wsX3_add wsX3_put := goodIn_k tie_wsX3_add tie_wsX3_put (by decide +kernel)
set_option maxRecDepth 20000 in
theorem gX3_add_X3_put : GoodIn wsX3_add (wsV RX3 19 RX3 yX3_put wsX3_put) := goodIn_app (goodIn_k (is := [983, 984, 985, 70]) tie_wsX3_add rfl (by decide +kernel)) ggX3_add_X3_put
theorem dX3_add_0 : decode cX3_add 0 = .ok (.aload_n 0, 1) := by decide +kernel
theorem dX3_add_1 : decode cX3_add 1 = .ok (.iload_n 1, 1) := by decide +kernel
theorem dX3_add_2 : decode cX3_add 2 = .ok (.iload_n 2, 1) := by decide +kernel
theorem dX3_add_3 : decode cX3_add 3 = .ok (.aload_n 0, 1) := by decide +kernel
theorem dX3_add_4 : decode cX3_add 4 = .ok (.iload_n 1, 1) := by decide +kernel
theorem dX3_add_5 : decode cX3_add 5 = .ok (.iload_n 2, 1) := by decide +kernel
theorem dX3_add_6 : decode cX3_add 6 = .ok (.invokevirtual 23, 3) := by decide +kernel
theorem dX3_add_9 : decode cX3_add 9 = .ok (.lload_n 3, 1) := by decide +kernel
theorem dX3_add_10 : decode cX3_add 10 = .ok (.ladd, 1) := by decide +kernel
theorem dX3_add_11 : decode cX3_add 11 = .ok (.invokevirtual 19, 3) := by decide +kernel
theorem dX3_add_14 : decode cX3_add 14 = .ok (.return_, 1) := by decide +kernel
set_option maxRecDepth 20000 in
theorem ggX3_putRight_X3_put : GoodIn wsX3_putRight wsX3_put := goodIn_k tie_wsX3_putRight tie_wsX3_put (by decide +kernel)
set_option maxRecDepth 20000 in
theorem gX3_putRight_X3_put : GoodIn wsX3_putRight (wsV RX3 19 RX3 yX3_put wsX3_put) := goodIn_app (goodIn_k (is := [983, 984, 985, 70]) tie_wsX3_putRight rfl (by decide +kernel)) ggX3_putRight_X3_put
theorem dX3_putRight_0 : decode cX3_putRight 0 = .ok (.aload_n 0, 1) := by decide +kernel
theorem dX3_putRight_1 : decode cX3_putRight 1 = .ok (.iload_n 1, 1) := by decide +kernel
theorem dX3_putRight_2 : decode cX3_putRight 2 = .ok (.bipush 8, 2) := by decide +kernel
theorem dX3_putRight_4 : decode cX3_putRight 4 = .ok (.lload_n 2, 1) := by decide +kernel
theorem dX3_putRight_5 : decode cX3_putRight 5 = .ok (.invokevirtual 19, 3) := by decide +kernel
theorem dX3_putRight_8 : decode cX3_putRight 8 = .ok (.return_, 1) := by decide +kernel
set_option maxRecDepth 20000 in
theorem ggX3_solve_X3_eliminate : GoodIn wsX3_solve wsX3_eliminate := goodIn_k tie_wsX3_solve tie_wsX3_eliminate (by decide +kernel)
set_option maxRecDepth 20000 in
theorem gX3_solve_X3_eliminate : GoodIn wsX3_solve (wsV RX3 27 RX3 yX3_eliminate wsX3_eliminate) := goodIn_app (goodIn_k (is := [1014, 1015, 1016, 70]) tie_wsX3_solve rfl (by decide +kernel)) ggX3_solve_X3_eliminate
set_option maxRecDepth 20000 in
theorem ggX3_solve_X3_get : GoodIn wsX3_solve wsX3_get := goodIn_k tie_wsX3_solve tie_wsX3_get (by decide +kernel)
set_option maxRecDepth 20000 in
theorem gX3_solve_X3_get : GoodIn wsX3_solve (wsV RX3 23 RX3 yX3_get wsX3_get) := goodIn_app (goodIn_k (is := [1002, 1003, 1004, 70]) tie_wsX3_solve rfl (by decide +kernel)) ggX3_solve_X3_get
theorem dX3_solve_0 : decode cX3_solve 0 = .ok (.lconst 1, 1) := by decide +kernel
theorem dX3_solve_1 : decode cX3_solve 1 = .ok (.lstore_n 1, 1) := by decide +kernel
theorem dX3_solve_2 : decode cX3_solve 2 = .ok (.iconst 0, 1) := by decide +kernel
theorem dX3_solve_3 : decode cX3_solve 3 = .ok (.istore_n 3, 1) := by decide +kernel
theorem dX3_solve_4 : decode cX3_solve 4 = .ok (.iload_n 3, 1) := by decide +kernel
theorem dX3_solve_5 : decode cX3_solve 5 = .ok (.bipush 8, 2) := by decide +kernel
theorem dX3_solve_7 : decode cX3_solve 7 = .ok (.if_icmp .ge 46, 3) := by decide +kernel
theorem dX3_solve_10 : decode cX3_solve 10 = .ok (.iconst 0, 1) := by decide +kernel
theorem dX3_solve_11 : decode cX3_solve 11 = .ok (.istore 4, 2) := by decide +kernel
theorem dX3_solve_13 : decode cX3_solve 13 = .ok (.iload 4, 2) := by decide +kernel
theorem dX3_solve_15 : decode cX3_solve 15 = .ok (.bipush 8, 2) := by decide +kernel
theorem dX3_solve_17 : decode cX3_solve 17 = .ok (.if_icmp .ge 23, 3) := by decide +kernel
theorem dX3_solve_20 : decode cX3_solve 20 = .ok (.iload 4, 2) := by decide +kernel
theorem dX3_solve_22 : decode cX3_solve 22 = .ok (.iload_n 3, 1) := by decide +kernel
theorem dX3_solve_23 : decode cX3_solve 23 = .ok (.if_icmp .eq 11, 3) := by decide +kernel
theorem dX3_solve_26 : decode cX3_solve 26 = .ok (.aload_n 0, 1) := by decide +kernel
theorem dX3_solve_27 : decode cX3_solve 27 = .ok (.iload 4, 2) := by decide +kernel
theorem dX3_solve_29 : decode cX3_solve 29 = .ok (.iload_n 3, 1) := by decide +kernel
theorem dX3_solve_30 : decode cX3_solve 30 = .ok (.lload_n 1, 1) := by decide +kernel
theorem dX3_solve_31 : decode cX3_solve 31 = .ok (.invokevirtual 27, 3) := by decide +kernel
theorem dX3_solve_34 : decode cX3_solve 34 = .ok (.iinc 4 1, 3) := by decide +kernel
theorem dX3_solve_37 : decode cX3_solve 37 = .ok (.goto (-24), 3) := by decide +kernel
theorem dX3_solve_40 : decode cX3_solve 40 = .ok (.aload_n 0, 1) := by decide +kernel
theorem dX3_solve_41 : decode cX3_solve 41 = .ok (.iload_n 3, 1) := by decide +kernel
theorem dX3_solve_42 : decode cX3_solve 42 = .ok (.iload_n 3, 1) := by decide +kernel
theorem dX3_solve_43 : decode cX3_solve 43 = .ok (.invokevirtual 23, 3) := by decide +kernel
theorem dX3_solve_46 : decode cX3_solve 46 = .ok (.lstore_n 1, 1) := by decide +kernel
theorem dX3_solve_47 : decode cX3_solve 47 = .ok (.iinc 3 1, 3) := by decide +kernel
theorem dX3_solve_50 : decode cX3_solve 50 = .ok (.goto (-46), 3) := by decide +kernel
theorem dX3_solve_53 : decode cX3_solve 53 = .ok (.return_, 1) := by decide +kernel
set_option maxRecDepth 20000 in
theorem ggX3_eliminate_X3_get : GoodIn wsX3_eliminate wsX3_get := goodIn_k tie_wsX3_eliminate tie_wsX3_get (by decide +kernel)
set_option maxRecDepth 20000 in
theorem gX3_eliminate_X3_get : GoodIn wsX3_eliminate (wsV RX3 23 RX3 yX3_get wsX3_get) := goodIn_app (goodIn_k (is := [1002, 1003, 1004, 70]) tie_wsX3_eliminate rfl (by decide +kernel)) ggX3_eliminate_X3_get
set_option maxRecDepth 20000 in
theorem ggX3_eliminate_X3_put : GoodIn wsX3_eliminate wsX3_put := goodIn_k tie_wsX3_eliminate tie_wsX3_put (by decide +kernel)
set_option maxRecDepth 20000 in
theorem gX3_eliminate_X3_put : GoodIn wsX3_eliminate (wsV RX3 19 RX3 yX3_put wsX3_put) := goodIn_app (goodIn_k (is := [983, 984, 985, 70]) tie_wsX3_eliminate rfl (by decide +kernel)) ggX3_eliminate_X3_put
theorem dX3_eliminate_0 : decode cX3_eliminate 0 = .ok (.lload_n 3, 1) := by decide +kernel
theorem dX3_eliminate_1 : decode cX3_eliminate 1 = .ok (.lconst 0, 1) := by decide +kernel
theorem dX3_eliminate_2 : decode cX3_eliminate 2 = .ok (.lcmp, 1) := by decide +kernel
theorem dX3_eliminate_3 : decode cX3_eliminate 3 = .ok (.ifCond .ne 4, 3) := by decide +kernel
theorem dX3_eliminate_6 : decode cX3_eliminate 6 = .ok (.return_, 1) := by decide +kernel
theorem dX3_eliminate_7 : decode cX3_eliminate 7 = .ok (.aload_n 0, 1) := by decide +kernel
theorem dX3_eliminate_8 : decode cX3_eliminate 8 = .ok (.iload_n 1, 1) := by decide +kernel
theorem dX3_eliminate_9 : decode cX3_eliminate 9 = .ok (.iload_n 2, 1) := by decide +kernel
theorem dX3_eliminate_10 : decode cX3_eliminate 10 = .ok (.invokevirtual 23, 3) := by decide +kernel
theorem dX3_eliminate_13 : decode cX3_eliminate 13 = .ok (.lstore 5, 2) := by decide +kernel
theorem dX3_eliminate_15 : decode cX3_eliminate 15 = .ok (.aload_n 0, 1) := by decide +kernel
theorem dX3_eliminate_16 : decode cX3_eliminate 16 = .ok (.iload_n 2, 1) := by decide +kernel
theorem dX3_eliminate_17 : decode cX3_eliminate 17 = .ok (.iload_n 2, 1) := by decide +kernel
theorem dX3_eliminate_18 : decode cX3_eliminate 18 = .ok (.invokevirtual 23, 3) := by decide +kernel
theorem dX3_eliminate_21 : decode cX3_eliminate 21 = .ok (.lstore 7, 2) := by decide +kernel
theorem dX3_eliminate_23 : decode cX3_eliminate 23 = .ok (.iconst 0, 1) := by decide +kernel
theorem dX3_eliminate_24 : decode cX3_eliminate 24 = .ok (.istore 9, 2) := by decide +kernel
theorem dX3_eliminate_26 : decode cX3_eliminate 26 = .ok (.iload 9, 2) := by decide +kernel
theorem dX3_eliminate_28 : decode cX3_eliminate 28 = .ok (.bipush 9, 2) := by decide +kernel
theorem dX3_eliminate_30 : decode cX3_eliminate 30 = .ok (.if_icmp .ge 39, 3) := by decide +kernel
theorem dX3_eliminate_33 : decode cX3_eliminate 33 = .ok (.aload_n 0, 1) := by decide +kernel
theorem dX3_eliminate_34 : decode cX3_eliminate 34 = .ok (.iload_n 1, 1) := by decide +kernel
theorem dX3_eliminate_35 : decode cX3_eliminate 35 = .ok (.iload 9, 2) := by decide +kernel
theorem dX3_eliminate_37 : decode cX3_eliminate 37 = .ok (.lload 7, 2) := by decide +kernel
theorem dX3_eliminate_39 : decode cX3_eliminate 39 = .ok (.aload_n 0, 1) := by decide +kernel
theorem dX3_eliminate_40 : decode cX3_eliminate 40 = .ok (.iload_n 1, 1) := by decide +kernel
theorem dX3_eliminate_41 : decode cX3_eliminate 41 = .ok (.iload 9, 2) := by decide +kernel
theorem dX3_eliminate_43 : decode cX3_eliminate 43 = .ok (.invokevirtual 23, 3) := by decide +kernel
theorem dX3_eliminate_46 : decode cX3_eliminate 46 = .ok (.lmul, 1) := by decide +kernel
theorem dX3_eliminate_47 : decode cX3_eliminate 47 = .ok (.lload 5, 2) := by decide +kernel
theorem dX3_eliminate_49 : decode cX3_eliminate 49 = .ok (.aload_n 0, 1) := by decide +kernel
theorem dX3_eliminate_50 : decode cX3_eliminate 50 = .ok (.iload_n 2, 1) := by decide +kernel
theorem dX3_eliminate_51 : decode cX3_eliminate 51 = .ok (.iload 9, 2) := by decide +kernel
theorem dX3_eliminate_53 : decode cX3_eliminate 53 = .ok (.invokevirtual 23, 3) := by decide +kernel
theorem dX3_eliminate_56 : decode cX3_eliminate 56 = .ok (.lmul, 1) := by decide +kernel
theorem dX3_eliminate_57 : decode cX3_eliminate 57 = .ok (.lsub, 1) := by decide +kernel
theorem dX3_eliminate_58 : decode cX3_eliminate 58 = .ok (.lload_n 3, 1) := by decide +kernel
theorem dX3_eliminate_59 : decode cX3_eliminate 59 = .ok (.ldiv, 1) := by decide +kernel
theorem dX3_eliminate_60 : decode cX3_eliminate 60 = .ok (.invokevirtual 19, 3) := by decide +kernel
theorem dX3_eliminate_63 : decode cX3_eliminate 63 = .ok (.iinc 9 1, 3) := by decide +kernel
theorem dX3_eliminate_66 : decode cX3_eliminate 66 = .ok (.goto (-40), 3) := by decide +kernel
theorem dX3_eliminate_69 : decode cX3_eliminate 69 = .ok (.return_, 1) := by decide +kernel
set_option maxRecDepth 20000 in
theorem ggX3_solution_X3_get : GoodIn wsX3_solution wsX3_get := goodIn_k tie_wsX3_solution tie_wsX3_get (by decide +kernel)
set_option maxRecDepth 20000 in
theorem gX3_solution_X3_get : GoodIn wsX3_solution (wsV RX3 23 RX3 yX3_get wsX3_get) := goodIn_app (goodIn_k (is := [1002, 1003, 1004, 70]) tie_wsX3_solution rfl (by decide +kernel)) ggX3_solution_X3_get
theorem dX3_solution_0 : decode cX3_solution 0 = .ok (.aload_n 0, 1) := by decide +kernel
theorem dX3_solution_1 : decode cX3_solution 1 = .ok (.iload_n 1, 1) := by decide +kernel
theorem dX3_solution_2 : decode cX3_solution 2 = .ok (.bipush 8, 2) := by decide +kernel
theorem dX3_solution_4 : decode cX3_solution 4 = .ok (.invokevirtual 23, 3) := by decide +kernel
theorem dX3_solution_7 : decode cX3_solution 7 = .ok (.lreturn, 1) := by decide +kernel
set_option maxRecDepth 20000 in
theorem ggX3_determinant_X3_get : GoodIn wsX3_determinant wsX3_get := goodIn_k tie_wsX3_determinant tie_wsX3_get (by decide +kernel)
set_option maxRecDepth 20000 in
theorem gX3_determinant_X3_get : GoodIn wsX3_determinant (wsV RX3 23 RX3 yX3_get wsX3_get) := goodIn_app (goodIn_k (is := [1002, 1003, 1004, 70]) tie_wsX3_determinant rfl (by decide +kernel)) ggX3_determinant_X3_get
theorem dX3_determinant_0 : decode cX3_determinant 0 = .ok (.aload_n 0, 1) := by decide +kernel
theorem dX3_determinant_1 : decode cX3_determinant 1 = .ok (.iconst 0, 1) := by decide +kernel
theorem dX3_determinant_2 : decode cX3_determinant 2 = .ok (.iconst 0, 1) := by decide +kernel
theorem dX3_determinant_3 : decode cX3_determinant 3 = .ok (.invokevirtual 23, 3) := by decide +kernel
theorem dX3_determinant_6 : decode cX3_determinant 6 = .ok (.lreturn, 1) := by decide +kernel
theorem dX3_get_0 : decode cX3_get 0 = .ok (.iload_n 1, 1) := by decide +kernel
theorem dX3_get_1 : decode cX3_get 1 = .ok (.bipush 9, 2) := by decide +kernel
theorem dX3_get_3 : decode cX3_get 3 = .ok (.imul, 1) := by decide +kernel
theorem dX3_get_4 : decode cX3_get 4 = .ok (.iload_n 2, 1) := by decide +kernel
theorem dX3_get_5 : decode cX3_get 5 = .ok (.iadd, 1) := by decide +kernel
theorem dX3_get_6 : decode cX3_get 6 = .ok (.istore_n 3, 1) := by decide +kernel
theorem dX3_get_7 : decode cX3_get 7 = .ok (.iload_n 2, 1) := by decide +kernel
theorem dX3_get_8 : decode cX3_get 8 = .ok (.ifCond .lt 31, 3) := by decide +kernel
theorem dX3_get_11 : decode cX3_get 11 = .ok (.iload_n 2, 1) := by decide +kernel
theorem dX3_get_12 : decode cX3_get 12 = .ok (.bipush 9, 2) := by decide +kernel
theorem dX3_get_14 : decode cX3_get 14 = .ok (.if_icmp .ge 25, 3) := by decide +kernel
theorem dX3_get_17 : decode cX3_get 17 = .ok (.iload_n 3, 1) := by decide +kernel
theorem dX3_get_18 : decode cX3_get 18 = .ok (.ifCond .lt 21, 3) := by decide +kernel
theorem dX3_get_21 : decode cX3_get 21 = .ok (.iload_n 3, 1) := by decide +kernel
theorem dX3_get_22 : decode cX3_get 22 = .ok (.aload_n 0, 1) := by decide +kernel
theorem dX3_get_23 : decode cX3_get 23 = .ok (.getfield 11, 3) := by decide +kernel
theorem dX3_get_26 : decode cX3_get 26 = .ok (.arraylength, 1) := by decide +kernel
theorem dX3_get_27 : decode cX3_get 27 = .ok (.if_icmp .ge 12, 3) := by decide +kernel
theorem dX3_get_30 : decode cX3_get 30 = .ok (.aload_n 0, 1) := by decide +kernel
theorem dX3_get_31 : decode cX3_get 31 = .ok (.getfield 11, 3) := by decide +kernel
theorem dX3_get_34 : decode cX3_get 34 = .ok (.iload_n 3, 1) := by decide +kernel
theorem dX3_get_35 : decode cX3_get 35 = .ok (.laload, 1) := by decide +kernel
theorem dX3_get_36 : decode cX3_get 36 = .ok (.goto 4, 3) := by decide +kernel
theorem dX3_get_39 : decode cX3_get 39 = .ok (.lconst 0, 1) := by decide +kernel
theorem dX3_get_40 : decode cX3_get 40 = .ok (.lreturn, 1) := by decide +kernel
theorem dX5_init_0 : decode cX5_init 0 = .ok (.aload_n 0, 1) := by decide +kernel
theorem dX5_init_1 : decode cX5_init 1 = .ok (.invokespecial 3, 3) := by decide +kernel
theorem dX5_init_4 : decode cX5_init 4 = .ok (.aload_n 0, 1) := by decide +kernel
theorem dX5_init_5 : decode cX5_init 5 = .ok (.aload_n 1, 1) := by decide +kernel
theorem dX5_init_6 : decode cX5_init 6 = .ok (.putfield 9, 3) := by decide +kernel
theorem dX5_init_9 : decode cX5_init 9 = .ok (.aload_n 0, 1) := by decide +kernel
theorem dX5_init_10 : decode cX5_init 10 = .ok (.aload_n 2, 1) := by decide +kernel
theorem dX5_init_11 : decode cX5_init 11 = .ok (.putfield 15, 3) := by decide +kernel
theorem dX5_init_14 : decode cX5_init 14 = .ok (.return_, 1) := by decide +kernel
set_option maxRecDepth 20000 in
theorem ggX5_letterAt_J0_length_8abf5 : GoodIn wsX5_letterAt wsJ0_length_8abf5 := goodIn_k tie_wsX5_letterAt tie_wsJ0_length_8abf5 (by decide +kernel)
set_option maxRecDepth 20000 in
theorem gX5_letterAt_J0_length_8abf5 : GoodIn wsX5_letterAt (wsV RX5 19 RJ0 yJ0_length_8abf5 wsJ0_length_8abf5) := goodIn_app (goodIn_k (is := [893, 706, 707, 579]) tie_wsX5_letterAt rfl (by decide +kernel)) ggX5_letterAt_J0_length_8abf5
set_option maxRecDepth 20000 in
theorem ggX5_letterAt_J0_charAt_5068e : GoodIn wsX5_letterAt wsJ0_charAt_5068e := goodIn_k tie_wsX5_letterAt tie_wsJ0_charAt_5068e (by decide +kernel)
set_option maxRecDepth 20000 in
theorem gX5_letterAt_J0_charAt_5068e : GoodIn wsX5_letterAt (wsV RX5 25 RJ0 yJ0_charAt_5068e wsJ0_charAt_5068e) := goodIn_app (goodIn_k (is := [894, 714, 715, 579]) tie_wsX5_letterAt rfl (by decide +kernel)) ggX5_letterAt_J0_charAt_5068e
theorem dX5_letterAt_0 : decode cX5_letterAt 0 = .ok (.aload_n 0, 1) := by decide +kernel
theorem dX5_letterAt_1 : decode cX5_letterAt 1 = .ok (.getfield 9, 3) := by decide +kernel
theorem dX5_letterAt_4 : decode cX5_letterAt 4 = .ok (.ifnull 29, 3) := by decide +kernel
theorem dX5_letterAt_7 : decode cX5_letterAt 7 = .ok (.iload_n 1, 1) := by decide +kernel
theorem dX5_letterAt_8 : decode cX5_letterAt 8 = .ok (.ifCond .lt 25, 3) := by decide +kernel
theorem dX5_letterAt_11 : decode cX5_letterAt 11 = .ok (.iload_n 1, 1) := by decide +kernel
theorem dX5_letterAt_12 : decode cX5_letterAt 12 = .ok (.aload_n 0, 1) := by decide +kernel
theorem dX5_letterAt_13 : decode cX5_letterAt 13 = .ok (.getfield 9, 3) := by decide +kernel
theorem dX5_letterAt_16 : decode cX5_letterAt 16 = .ok (.invokevirtual 19, 3) := by decide +kernel
theorem dX5_letterAt_19 : decode cX5_letterAt 19 = .ok (.if_icmp .ge 14, 3) := by decide +kernel
theorem dX5_letterAt_22 : decode cX5_letterAt 22 = .ok (.aload_n 0, 1) := by decide +kernel
theorem dX5_letterAt_23 : decode cX5_letterAt 23 = .ok (.getfield 9, 3) := by decide +kernel
theorem dX5_letterAt_26 : decode cX5_letterAt 26 = .ok (.iload_n 1, 1) := by decide +kernel
theorem dX5_letterAt_27 : decode cX5_letterAt 27 = .ok (.invokevirtual 25, 3) := by decide +kernel
theorem dX5_letterAt_30 : decode cX5_letterAt 30 = .ok (.goto 5, 3) := by decide +kernel
theorem dX5_letterAt_33 : decode cX5_letterAt 33 = .ok (.bipush (-2), 2) := by decide +kernel
theorem dX5_letterAt_35 : decode cX5_letterAt 35 = .ok (.ireturn, 1) := by decide +kernel
theorem dX5_nesting_0 : decode cX5_nesting 0 = .ok (.aload_n 0, 1) := by decide +kernel
theorem dX5_nesting_1 : decode cX5_nesting 1 = .ok (.getfield 15, 3) := by decide +kernel
theorem dX5_nesting_4 : decode cX5_nesting 4 = .ok (.ifnonnull 7, 3) := by decide +kernel
theorem dX5_nesting_7 : decode cX5_nesting 7 = .ok (.iconst 0, 1) := by decide +kernel
theorem dX5_nesting_8 : decode cX5_nesting 8 = .ok (.goto 10, 3) := by decide +kernel
theorem dX5_nesting_11 : decode cX5_nesting 11 = .ok (.aload_n 0, 1) := by decide +kernel
theorem dX5_nesting_12 : decode cX5_nesting 12 = .ok (.getfield 15, 3) := by decide +kernel
theorem dX5_nesting_15 : decode cX5_nesting 15 = .ok (.getfield 29, 3) := by decide +kernel
theorem dX5_nesting_18 : decode cX5_nesting 18 = .ok (.ireturn, 1) := by decide +kernel
theorem dX5_longest_0 : decode cX5_longest 0 = .ok (.aload_n 0, 1) := by decide +kernel
theorem dX5_longest_1 : decode cX5_longest 1 = .ok (.getfield 15, 3) := by decide +kernel
theorem dX5_longest_4 : decode cX5_longest 4 = .ok (.ifnonnull 7, 3) := by decide +kernel
theorem dX5_longest_7 : decode cX5_longest 7 = .ok (.iconst 0, 1) := by decide +kernel
theorem dX5_longest_8 : decode cX5_longest 8 = .ok (.goto 10, 3) := by decide +kernel
theorem dX5_longest_11 : decode cX5_longest 11 = .ok (.aload_n 0, 1) := by decide +kernel
theorem dX5_longest_12 : decode cX5_longest 12 = .ok (.getfield 15, 3) := by decide +kernel
theorem dX5_longest_15 : decode cX5_longest 15 = .ok (.getfield 35, 3) := by decide +kernel
theorem dX5_longest_18 : decode cX5_longest 18 = .ok (.ireturn, 1) := by decide +kernel
set_option maxRecDepth 20000 in
theorem ggX6_init_X2_init : GoodIn wsX6_init wsX2_init := goodIn_k tie_wsX6_init tie_wsX2_init (by decide +kernel)
set_option maxRecDepth 20000 in
theorem gX6_init_X2_init_n17 : GoodIn wsX6_init (wsX2_init) := ggX6_init_X2_init
theorem dX6_init_0 : decode cX6_init 0 = .ok (.aload_n 0, 1) := by decide +kernel
theorem dX6_init_1 : decode cX6_init 1 = .ok (.invokespecial 3, 3) := by decide +kernel
theorem dX6_init_4 : decode cX6_init 4 = .ok (.aload_n 0, 1) := by decide +kernel
theorem dX6_init_5 : decode cX6_init 5 = .ok (.bipush 8, 2) := by decide +kernel
theorem dX6_init_7 : decode cX6_init 7 = .ok (.anewarray 9, 3) := by decide +kernel
theorem dX6_init_10 : decode cX6_init 10 = .ok (.putfield 11, 3) := by decide +kernel
theorem dX6_init_13 : decode cX6_init 13 = .ok (.iconst 0, 1) := by decide +kernel
theorem dX6_init_14 : decode cX6_init 14 = .ok (.istore_n 1, 1) := by decide +kernel
theorem dX6_init_15 : decode cX6_init 15 = .ok (.iload_n 1, 1) := by decide +kernel
theorem dX6_init_16 : decode cX6_init 16 = .ok (.bipush 8, 2) := by decide +kernel
theorem dX6_init_18 : decode cX6_init 18 = .ok (.if_icmp .ge 22, 3) := by decide +kernel
theorem dX6_init_21 : decode cX6_init 21 = .ok (.aload_n 0, 1) := by decide +kernel
theorem dX6_init_22 : decode cX6_init 22 = .ok (.getfield 11, 3) := by decide +kernel
theorem dX6_init_25 : decode cX6_init 25 = .ok (.iload_n 1, 1) := by decide +kernel
theorem dX6_init_26 : decode cX6_init 26 = .ok (.new 9, 3) := by decide +kernel
theorem dX6_init_29 : decode cX6_init 29 = .ok (.dup, 1) := by decide +kernel
theorem dX6_init_30 : decode cX6_init 30 = .ok (.invokespecial 17, 3) := by decide +kernel
theorem dX6_init_33 : decode cX6_init 33 = .ok (.aastore, 1) := by decide +kernel
theorem dX6_init_34 : decode cX6_init 34 = .ok (.iinc 1 1, 3) := by decide +kernel
theorem dX6_init_37 : decode cX6_init 37 = .ok (.goto (-22), 3) := by decide +kernel
theorem dX6_init_40 : decode cX6_init 40 = .ok (.aload_n 0, 1) := by decide +kernel
theorem dX6_init_41 : decode cX6_init 41 = .ok (.iconst 0, 1) := by decide +kernel
theorem dX6_init_42 : decode cX6_init 42 = .ok (.putfield 18, 3) := by decide +kernel
theorem dX6_init_45 : decode cX6_init 45 = .ok (.aload_n 0, 1) := by decide +kernel
theorem dX6_init_46 : decode cX6_init 46 = .ok (.iconst 0, 1) := by decide +kernel
theorem dX6_init_47 : decode cX6_init 47 = .ok (.putfield 22, 3) := by decide +kernel
theorem dX6_init_50 : decode cX6_init 50 = .ok (.return_, 1) := by decide +kernel
theorem dX6_total_0 : decode cX6_total 0 = .ok (.aload_n 0, 1) := by decide +kernel
theorem dX6_total_1 : decode cX6_total 1 = .ok (.getfield 22, 3) := by decide +kernel
theorem dX6_total_4 : decode cX6_total 4 = .ok (.ireturn, 1) := by decide +kernel
set_option maxRecDepth 20000 in
theorem ggX6_record_X6_slotAt : GoodIn wsX6_record wsX6_slotAt := goodIn_k tie_wsX6_record tie_wsX6_slotAt (by decide +kernel)
set_option maxRecDepth 20000 in
theorem gX6_record_X6_slotAt : GoodIn wsX6_record (wsV RX6 25 RX6 yX6_slotAt wsX6_slotAt) := goodIn_app (goodIn_k (is := [153, 154, 155, 19]) tie_wsX6_record rfl (by decide +kernel)) ggX6_record_X6_slotAt
set_option maxRecDepth 20000 in
theorem ggX6_record_X2_copyFrom : GoodIn wsX6_record wsX2_copyFrom := goodIn_k tie_wsX6_record tie_wsX2_copyFrom (by decide +kernel)
set_option maxRecDepth 20000 in
theorem gX6_record_X2_copyFrom : GoodIn wsX6_record (wsV RX6 29 RX2 yX2_copyFrom wsX2_copyFrom) := goodIn_app (goodIn_k (is := [157, 158, 159, 14]) tie_wsX6_record rfl (by decide +kernel)) ggX6_record_X2_copyFrom
theorem dX6_record_0 : decode cX6_record 0 = .ok (.aload_n 0, 1) := by decide +kernel
theorem dX6_record_1 : decode cX6_record 1 = .ok (.aload_n 0, 1) := by decide +kernel
theorem dX6_record_2 : decode cX6_record 2 = .ok (.getfield 18, 3) := by decide +kernel
theorem dX6_record_5 : decode cX6_record 5 = .ok (.invokevirtual 25, 3) := by decide +kernel
theorem dX6_record_8 : decode cX6_record 8 = .ok (.astore_n 2, 1) := by decide +kernel
theorem dX6_record_9 : decode cX6_record 9 = .ok (.aload_n 2, 1) := by decide +kernel
theorem dX6_record_10 : decode cX6_record 10 = .ok (.ifnonnull 4, 3) := by decide +kernel
theorem dX6_record_13 : decode cX6_record 13 = .ok (.return_, 1) := by decide +kernel
theorem dX6_record_14 : decode cX6_record 14 = .ok (.aload_n 2, 1) := by decide +kernel
theorem dX6_record_15 : decode cX6_record 15 = .ok (.aload_n 1, 1) := by decide +kernel
theorem dX6_record_16 : decode cX6_record 16 = .ok (.invokevirtual 29, 3) := by decide +kernel
theorem dX6_record_19 : decode cX6_record 19 = .ok (.aload_n 0, 1) := by decide +kernel
theorem dX6_record_20 : decode cX6_record 20 = .ok (.aload_n 0, 1) := by decide +kernel
theorem dX6_record_21 : decode cX6_record 21 = .ok (.getfield 18, 3) := by decide +kernel
theorem dX6_record_24 : decode cX6_record 24 = .ok (.iconst 1, 1) := by decide +kernel
theorem dX6_record_25 : decode cX6_record 25 = .ok (.iadd, 1) := by decide +kernel
theorem dX6_record_26 : decode cX6_record 26 = .ok (.bipush 8, 2) := by decide +kernel
theorem dX6_record_28 : decode cX6_record 28 = .ok (.irem, 1) := by decide +kernel
theorem dX6_record_29 : decode cX6_record 29 = .ok (.putfield 18, 3) := by decide +kernel
theorem dX6_record_32 : decode cX6_record 32 = .ok (.aload_n 0, 1) := by decide +kernel
theorem dX6_record_33 : decode cX6_record 33 = .ok (.getfield 22, 3) := by decide +kernel
theorem dX6_record_36 : decode cX6_record 36 = .ok (.bipush 8, 2) := by decide +kernel
theorem dX6_record_38 : decode cX6_record 38 = .ok (.if_icmp .ge 13, 3) := by decide +kernel
theorem dX6_record_41 : decode cX6_record 41 = .ok (.aload_n 0, 1) := by decide +kernel
theorem dX6_record_42 : decode cX6_record 42 = .ok (.dup, 1) := by decide +kernel
theorem dX6_record_43 : decode cX6_record 43 = .ok (.getfield 22, 3) := by decide +kernel
theorem dX6_record_46 : decode cX6_record 46 = .ok (.iconst 1, 1) := by decide +kernel
theorem dX6_record_47 : decode cX6_record 47 = .ok (.iadd, 1) := by decide +kernel
theorem dX6_record_48 : decode cX6_record 48 = .ok (.putfield 22, 3) := by decide +kernel
theorem dX6_record_51 : decode cX6_record 51 = .ok (.return_, 1) := by decide +kernel
set_option maxRecDepth 20000 in
theorem ggX6_takeBack_X6_slotAt : GoodIn wsX6_takeBack wsX6_slotAt := goodIn_k tie_wsX6_takeBack tie_wsX6_slotAt (by decide +kernel)
set_option maxRecDepth 20000 in
theorem gX6_takeBack_X6_slotAt : GoodIn wsX6_takeBack (wsV RX6 25 RX6 yX6_slotAt wsX6_slotAt) := goodIn_app (goodIn_k (is := [153, 154, 155, 19]) tie_wsX6_takeBack rfl (by decide +kernel)) ggX6_takeBack_X6_slotAt
set_option maxRecDepth 20000 in
theorem ggX6_takeBack_X2_copyFrom : GoodIn wsX6_takeBack wsX2_copyFrom := goodIn_k tie_wsX6_takeBack tie_wsX2_copyFrom (by decide +kernel)
set_option maxRecDepth 20000 in
theorem gX6_takeBack_X2_copyFrom : GoodIn wsX6_takeBack (wsV RX6 29 RX2 yX2_copyFrom wsX2_copyFrom) := goodIn_app (goodIn_k (is := [157, 158, 159, 14]) tie_wsX6_takeBack rfl (by decide +kernel)) ggX6_takeBack_X2_copyFrom
theorem dX6_takeBack_0 : decode cX6_takeBack 0 = .ok (.aload_n 0, 1) := by decide +kernel
theorem dX6_takeBack_1 : decode cX6_takeBack 1 = .ok (.getfield 22, 3) := by decide +kernel
theorem dX6_takeBack_4 : decode cX6_takeBack 4 = .ok (.ifCond .le 7, 3) := by decide +kernel
theorem dX6_takeBack_7 : decode cX6_takeBack 7 = .ok (.aload_n 1, 1) := by decide +kernel
theorem dX6_takeBack_8 : decode cX6_takeBack 8 = .ok (.ifnonnull 5, 3) := by decide +kernel
theorem dX6_takeBack_11 : decode cX6_takeBack 11 = .ok (.iconst 0, 1) := by decide +kernel
theorem dX6_takeBack_12 : decode cX6_takeBack 12 = .ok (.ireturn, 1) := by decide +kernel
theorem dX6_takeBack_13 : decode cX6_takeBack 13 = .ok (.aload_n 0, 1) := by decide +kernel
theorem dX6_takeBack_14 : decode cX6_takeBack 14 = .ok (.aload_n 0, 1) := by decide +kernel
theorem dX6_takeBack_15 : decode cX6_takeBack 15 = .ok (.getfield 18, 3) := by decide +kernel
theorem dX6_takeBack_18 : decode cX6_takeBack 18 = .ok (.bipush 8, 2) := by decide +kernel
theorem dX6_takeBack_20 : decode cX6_takeBack 20 = .ok (.iadd, 1) := by decide +kernel
theorem dX6_takeBack_21 : decode cX6_takeBack 21 = .ok (.iconst 1, 1) := by decide +kernel
theorem dX6_takeBack_22 : decode cX6_takeBack 22 = .ok (.isub, 1) := by decide +kernel
theorem dX6_takeBack_23 : decode cX6_takeBack 23 = .ok (.bipush 8, 2) := by decide +kernel
theorem dX6_takeBack_25 : decode cX6_takeBack 25 = .ok (.irem, 1) := by decide +kernel
theorem dX6_takeBack_26 : decode cX6_takeBack 26 = .ok (.putfield 18, 3) := by decide +kernel
theorem dX6_takeBack_29 : decode cX6_takeBack 29 = .ok (.aload_n 1, 1) := by decide +kernel
theorem dX6_takeBack_30 : decode cX6_takeBack 30 = .ok (.aload_n 0, 1) := by decide +kernel
theorem dX6_takeBack_31 : decode cX6_takeBack 31 = .ok (.aload_n 0, 1) := by decide +kernel
theorem dX6_takeBack_32 : decode cX6_takeBack 32 = .ok (.getfield 18, 3) := by decide +kernel
theorem dX6_takeBack_35 : decode cX6_takeBack 35 = .ok (.invokevirtual 25, 3) := by decide +kernel
theorem dX6_takeBack_38 : decode cX6_takeBack 38 = .ok (.invokevirtual 29, 3) := by decide +kernel
theorem dX6_takeBack_41 : decode cX6_takeBack 41 = .ok (.aload_n 0, 1) := by decide +kernel
theorem dX6_takeBack_42 : decode cX6_takeBack 42 = .ok (.dup, 1) := by decide +kernel
theorem dX6_takeBack_43 : decode cX6_takeBack 43 = .ok (.getfield 22, 3) := by decide +kernel
theorem dX6_takeBack_46 : decode cX6_takeBack 46 = .ok (.iconst 1, 1) := by decide +kernel
theorem dX6_takeBack_47 : decode cX6_takeBack 47 = .ok (.isub, 1) := by decide +kernel
theorem dX6_takeBack_48 : decode cX6_takeBack 48 = .ok (.putfield 22, 3) := by decide +kernel
theorem dX6_takeBack_51 : decode cX6_takeBack 51 = .ok (.iconst 1, 1) := by decide +kernel
theorem dX6_takeBack_52 : decode cX6_takeBack 52 = .ok (.ireturn, 1) := by decide +kernel
theorem dX6_slotAt_0 : decode cX6_slotAt 0 = .ok (.iload_n 1, 1) := by decide +kernel
theorem dX6_slotAt_1 : decode cX6_slotAt 1 = .ok (.ifCond .lt 18, 3) := by decide +kernel
theorem dX6_slotAt_4 : decode cX6_slotAt 4 = .ok (.iload_n 1, 1) := by decide +kernel
theorem dX6_slotAt_5 : decode cX6_slotAt 5 = .ok (.bipush 8, 2) := by decide +kernel
theorem dX6_slotAt_7 : decode cX6_slotAt 7 = .ok (.if_icmp .ge 12, 3) := by decide +kernel
theorem dX6_slotAt_10 : decode cX6_slotAt 10 = .ok (.aload_n 0, 1) := by decide +kernel
theorem dX6_slotAt_11 : decode cX6_slotAt 11 = .ok (.getfield 11, 3) := by decide +kernel
theorem dX6_slotAt_14 : decode cX6_slotAt 14 = .ok (.iload_n 1, 1) := by decide +kernel
theorem dX6_slotAt_15 : decode cX6_slotAt 15 = .ok (.aaload, 1) := by decide +kernel
theorem dX6_slotAt_16 : decode cX6_slotAt 16 = .ok (.goto 4, 3) := by decide +kernel
theorem dX6_slotAt_19 : decode cX6_slotAt 19 = .ok (.aconst_null, 1) := by decide +kernel
theorem dX6_slotAt_20 : decode cX6_slotAt 20 = .ok (.areturn, 1) := by decide +kernel
theorem dX7_init_0 : decode cX7_init 0 = .ok (.aload_n 0, 1) := by decide +kernel
theorem dX7_init_1 : decode cX7_init 1 = .ok (.invokespecial 3, 3) := by decide +kernel
theorem dX7_init_4 : decode cX7_init 4 = .ok (.aload_n 0, 1) := by decide +kernel
theorem dX7_init_5 : decode cX7_init 5 = .ok (.bipush 8, 2) := by decide +kernel
theorem dX7_init_7 : decode cX7_init 7 = .ok (.newarray .int, 2) := by decide +kernel
theorem dX7_init_9 : decode cX7_init 9 = .ok (.putfield 9, 3) := by decide +kernel
theorem dX7_init_12 : decode cX7_init 12 = .ok (.aload_n 0, 1) := by decide +kernel
theorem dX7_init_13 : decode cX7_init 13 = .ok (.bipush 8, 2) := by decide +kernel
theorem dX7_init_15 : decode cX7_init 15 = .ok (.newarray .int, 2) := by decide +kernel
theorem dX7_init_17 : decode cX7_init 17 = .ok (.putfield 15, 3) := by decide +kernel
theorem dX7_init_20 : decode cX7_init 20 = .ok (.aload_n 0, 1) := by decide +kernel
theorem dX7_init_21 : decode cX7_init 21 = .ok (.aload_n 1, 1) := by decide +kernel
theorem dX7_init_22 : decode cX7_init 22 = .ok (.putfield 18, 3) := by decide +kernel
theorem dX7_init_25 : decode cX7_init 25 = .ok (.aload_n 0, 1) := by decide +kernel
theorem dX7_init_26 : decode cX7_init 26 = .ok (.iconst 0, 1) := by decide +kernel
theorem dX7_init_27 : decode cX7_init 27 = .ok (.putfield 22, 3) := by decide +kernel
theorem dX7_init_30 : decode cX7_init 30 = .ok (.return_, 1) := by decide +kernel
theorem dX7_total_0 : decode cX7_total 0 = .ok (.aload_n 0, 1) := by decide +kernel
theorem dX7_total_1 : decode cX7_total 1 = .ok (.getfield 22, 3) := by decide +kernel
theorem dX7_total_4 : decode cX7_total 4 = .ok (.ireturn, 1) := by decide +kernel
set_option maxRecDepth 20000 in
theorem ggX7_numberOf_X11_isIndex : GoodIn wsX7_numberOf wsX11_isIndex := goodIn_k tie_wsX7_numberOf tie_wsX11_isIndex (by decide +kernel)
set_option maxRecDepth 20000 in
theorem gX7_numberOf_X11_isIndex_n26 : GoodIn wsX7_numberOf (wsX11_isIndex) := ggX7_numberOf_X11_isIndex
theorem dX7_numberOf_0 : decode cX7_numberOf 0 = .ok (.iload_n 1, 1) := by decide +kernel
theorem dX7_numberOf_1 : decode cX7_numberOf 1 = .ok (.invokestatic 26, 3) := by decide +kernel
theorem dX7_numberOf_4 : decode cX7_numberOf 4 = .ok (.ifCond .eq 12, 3) := by decide +kernel
theorem dX7_numberOf_7 : decode cX7_numberOf 7 = .ok (.aload_n 0, 1) := by decide +kernel
theorem dX7_numberOf_8 : decode cX7_numberOf 8 = .ok (.getfield 9, 3) := by decide +kernel
theorem dX7_numberOf_11 : decode cX7_numberOf 11 = .ok (.iload_n 1, 1) := by decide +kernel
theorem dX7_numberOf_12 : decode cX7_numberOf 12 = .ok (.iaload, 1) := by decide +kernel
theorem dX7_numberOf_13 : decode cX7_numberOf 13 = .ok (.goto 4, 3) := by decide +kernel
theorem dX7_numberOf_16 : decode cX7_numberOf 16 = .ok (.iconst 0, 1) := by decide +kernel
theorem dX7_numberOf_17 : decode cX7_numberOf 17 = .ok (.ireturn, 1) := by decide +kernel
set_option maxRecDepth 20000 in
theorem ggX7_members_X2_has : GoodIn wsX7_members wsX2_has := goodIn_k tie_wsX7_members tie_wsX2_has (by decide +kernel)
set_option maxRecDepth 20000 in
theorem gX7_members_X2_has : GoodIn wsX7_members (wsV RX7 30 RX2 yX2_has wsX2_has) := goodIn_app (goodIn_k (is := [381, 191, 192, 14]) tie_wsX7_members rfl (by decide +kernel)) ggX7_members_X2_has
theorem dX7_members_0 : decode cX7_members 0 = .ok (.iconst 0, 1) := by decide +kernel
theorem dX7_members_1 : decode cX7_members 1 = .ok (.istore_n 2, 1) := by decide +kernel
theorem dX7_members_2 : decode cX7_members 2 = .ok (.iconst 0, 1) := by decide +kernel
theorem dX7_members_3 : decode cX7_members 3 = .ok (.istore_n 3, 1) := by decide +kernel
theorem dX7_members_4 : decode cX7_members 4 = .ok (.iload_n 3, 1) := by decide +kernel
theorem dX7_members_5 : decode cX7_members 5 = .ok (.bipush 8, 2) := by decide +kernel
theorem dX7_members_7 : decode cX7_members 7 = .ok (.if_icmp .ge 36, 3) := by decide +kernel
theorem dX7_members_10 : decode cX7_members 10 = .ok (.aload_n 0, 1) := by decide +kernel
theorem dX7_members_11 : decode cX7_members 11 = .ok (.getfield 18, 3) := by decide +kernel
theorem dX7_members_14 : decode cX7_members 14 = .ok (.iload_n 3, 1) := by decide +kernel
theorem dX7_members_15 : decode cX7_members 15 = .ok (.invokevirtual 30, 3) := by decide +kernel
theorem dX7_members_18 : decode cX7_members 18 = .ok (.ifCond .eq 19, 3) := by decide +kernel
theorem dX7_members_21 : decode cX7_members 21 = .ok (.aload_n 0, 1) := by decide +kernel
theorem dX7_members_22 : decode cX7_members 22 = .ok (.getfield 9, 3) := by decide +kernel
theorem dX7_members_25 : decode cX7_members 25 = .ok (.iload_n 3, 1) := by decide +kernel
theorem dX7_members_26 : decode cX7_members 26 = .ok (.iaload, 1) := by decide +kernel
theorem dX7_members_27 : decode cX7_members 27 = .ok (.iload_n 1, 1) := by decide +kernel
theorem dX7_members_28 : decode cX7_members 28 = .ok (.if_icmp .ne 9, 3) := by decide +kernel
theorem dX7_members_31 : decode cX7_members 31 = .ok (.iload_n 2, 1) := by decide +kernel
theorem dX7_members_32 : decode cX7_members 32 = .ok (.iconst 1, 1) := by decide +kernel
theorem dX7_members_33 : decode cX7_members 33 = .ok (.iload_n 3, 1) := by decide +kernel
theorem dX7_members_34 : decode cX7_members 34 = .ok (.ishl, 1) := by decide +kernel
theorem dX7_members_35 : decode cX7_members 35 = .ok (.ior, 1) := by decide +kernel
theorem dX7_members_36 : decode cX7_members 36 = .ok (.istore_n 2, 1) := by decide +kernel
theorem dX7_members_37 : decode cX7_members 37 = .ok (.iinc 3 1, 3) := by decide +kernel
theorem dX7_members_40 : decode cX7_members 40 = .ok (.goto (-36), 3) := by decide +kernel
theorem dX7_members_43 : decode cX7_members 43 = .ok (.iload_n 2, 1) := by decide +kernel
theorem dX7_members_44 : decode cX7_members 44 = .ok (.ireturn, 1) := by decide +kernel
set_option maxRecDepth 20000 in
theorem ggX7_refine_X2_size : GoodIn wsX7_refine wsX2_size := goodIn_k tie_wsX7_refine tie_wsX2_size (by decide +kernel)
set_option maxRecDepth 20000 in
theorem gX7_refine_X2_size : GoodIn wsX7_refine (wsV RX7 35 RX2 yX2_size wsX2_size) := goodIn_app (goodIn_k (is := [376, 145, 146, 14]) tie_wsX7_refine rfl (by decide +kernel)) ggX7_refine_X2_size
set_option maxRecDepth 20000 in
theorem ggX7_refine_X7_split : GoodIn wsX7_refine wsX7_split := goodIn_k tie_wsX7_refine tie_wsX7_split (by decide +kernel)
set_option maxRecDepth 20000 in
theorem gX7_refine_X7_split : GoodIn wsX7_refine (wsV RX7 39 RX7 yX7_split wsX7_split) := goodIn_app (goodIn_k (is := [377, 378, 379, 23]) tie_wsX7_refine rfl (by decide +kernel)) ggX7_refine_X7_split
theorem dX7_refine_0 : decode cX7_refine 0 = .ok (.iconst 0, 1) := by decide +kernel
theorem dX7_refine_1 : decode cX7_refine 1 = .ok (.istore_n 1, 1) := by decide +kernel
theorem dX7_refine_2 : decode cX7_refine 2 = .ok (.iload_n 1, 1) := by decide +kernel
theorem dX7_refine_3 : decode cX7_refine 3 = .ok (.bipush 8, 2) := by decide +kernel
theorem dX7_refine_5 : decode cX7_refine 5 = .ok (.if_icmp .ge 16, 3) := by decide +kernel
theorem dX7_refine_8 : decode cX7_refine 8 = .ok (.aload_n 0, 1) := by decide +kernel
theorem dX7_refine_9 : decode cX7_refine 9 = .ok (.getfield 9, 3) := by decide +kernel
theorem dX7_refine_12 : decode cX7_refine 12 = .ok (.iload_n 1, 1) := by decide +kernel
theorem dX7_refine_13 : decode cX7_refine 13 = .ok (.iconst 0, 1) := by decide +kernel
theorem dX7_refine_14 : decode cX7_refine 14 = .ok (.iastore, 1) := by decide +kernel
theorem dX7_refine_15 : decode cX7_refine 15 = .ok (.iinc 1 1, 3) := by decide +kernel
theorem dX7_refine_18 : decode cX7_refine 18 = .ok (.goto (-16), 3) := by decide +kernel
theorem dX7_refine_21 : decode cX7_refine 21 = .ok (.aload_n 0, 1) := by decide +kernel
theorem dX7_refine_22 : decode cX7_refine 22 = .ok (.iconst 0, 1) := by decide +kernel
theorem dX7_refine_23 : decode cX7_refine 23 = .ok (.putfield 22, 3) := by decide +kernel
theorem dX7_refine_26 : decode cX7_refine 26 = .ok (.aload_n 0, 1) := by decide +kernel
theorem dX7_refine_27 : decode cX7_refine 27 = .ok (.getfield 18, 3) := by decide +kernel
theorem dX7_refine_30 : decode cX7_refine 30 = .ok (.invokevirtual 35, 3) := by decide +kernel
theorem dX7_refine_33 : decode cX7_refine 33 = .ok (.ifCond .le 7, 3) := by decide +kernel
theorem dX7_refine_36 : decode cX7_refine 36 = .ok (.iconst 1, 1) := by decide +kernel
theorem dX7_refine_37 : decode cX7_refine 37 = .ok (.goto 4, 3) := by decide +kernel
theorem dX7_refine_40 : decode cX7_refine 40 = .ok (.iconst 0, 1) := by decide +kernel
theorem dX7_refine_41 : decode cX7_refine 41 = .ok (.istore_n 1, 1) := by decide +kernel
theorem dX7_refine_42 : decode cX7_refine 42 = .ok (.iconst 0, 1) := by decide +kernel
theorem dX7_refine_43 : decode cX7_refine 43 = .ok (.istore_n 2, 1) := by decide +kernel
theorem dX7_refine_44 : decode cX7_refine 44 = .ok (.iload_n 2, 1) := by decide +kernel
theorem dX7_refine_45 : decode cX7_refine 45 = .ok (.bipush 8, 2) := by decide +kernel
theorem dX7_refine_47 : decode cX7_refine 47 = .ok (.if_icmp .gt 53, 3) := by decide +kernel
theorem dX7_refine_50 : decode cX7_refine 50 = .ok (.iload_n 1, 1) := by decide +kernel
theorem dX7_refine_51 : decode cX7_refine 51 = .ok (.aload_n 0, 1) := by decide +kernel
theorem dX7_refine_52 : decode cX7_refine 52 = .ok (.getfield 22, 3) := by decide +kernel
theorem dX7_refine_55 : decode cX7_refine 55 = .ok (.if_icmp .le 45, 3) := by decide +kernel
theorem dX7_refine_58 : decode cX7_refine 58 = .ok (.aload_n 0, 1) := by decide +kernel
theorem dX7_refine_59 : decode cX7_refine 59 = .ok (.iload_n 1, 1) := by decide +kernel
theorem dX7_refine_60 : decode cX7_refine 60 = .ok (.putfield 22, 3) := by decide +kernel
theorem dX7_refine_63 : decode cX7_refine 63 = .ok (.aload_n 0, 1) := by decide +kernel
theorem dX7_refine_64 : decode cX7_refine 64 = .ok (.invokevirtual 39, 3) := by decide +kernel
theorem dX7_refine_67 : decode cX7_refine 67 = .ok (.istore_n 1, 1) := by decide +kernel
theorem dX7_refine_68 : decode cX7_refine 68 = .ok (.iconst 0, 1) := by decide +kernel
theorem dX7_refine_69 : decode cX7_refine 69 = .ok (.istore_n 3, 1) := by decide +kernel
theorem dX7_refine_70 : decode cX7_refine 70 = .ok (.iload_n 3, 1) := by decide +kernel
theorem dX7_refine_71 : decode cX7_refine 71 = .ok (.bipush 8, 2) := by decide +kernel
theorem dX7_refine_73 : decode cX7_refine 73 = .ok (.if_icmp .ge 21, 3) := by decide +kernel
theorem dX7_refine_76 : decode cX7_refine 76 = .ok (.aload_n 0, 1) := by decide +kernel
theorem dX7_refine_77 : decode cX7_refine 77 = .ok (.getfield 9, 3) := by decide +kernel
theorem dX7_refine_80 : decode cX7_refine 80 = .ok (.iload_n 3, 1) := by decide +kernel
theorem dX7_refine_81 : decode cX7_refine 81 = .ok (.aload_n 0, 1) := by decide +kernel
theorem dX7_refine_82 : decode cX7_refine 82 = .ok (.getfield 15, 3) := by decide +kernel
theorem dX7_refine_85 : decode cX7_refine 85 = .ok (.iload_n 3, 1) := by decide +kernel
theorem dX7_refine_86 : decode cX7_refine 86 = .ok (.iaload, 1) := by decide +kernel
theorem dX7_refine_87 : decode cX7_refine 87 = .ok (.iastore, 1) := by decide +kernel
theorem dX7_refine_88 : decode cX7_refine 88 = .ok (.iinc 3 1, 3) := by decide +kernel
theorem dX7_refine_91 : decode cX7_refine 91 = .ok (.goto (-21), 3) := by decide +kernel
theorem dX7_refine_94 : decode cX7_refine 94 = .ok (.iinc 2 1, 3) := by decide +kernel
theorem dX7_refine_97 : decode cX7_refine 97 = .ok (.goto (-53), 3) := by decide +kernel
theorem dX7_refine_100 : decode cX7_refine 100 = .ok (.return_, 1) := by decide +kernel
set_option maxRecDepth 20000 in
theorem ggX7_split_X2_has : GoodIn wsX7_split wsX2_has := goodIn_k tie_wsX7_split tie_wsX2_has (by decide +kernel)
set_option maxRecDepth 20000 in
theorem gX7_split_X2_has : GoodIn wsX7_split (wsV RX7 30 RX2 yX2_has wsX2_has) := goodIn_app (goodIn_k (is := [381, 191, 192, 14]) tie_wsX7_split rfl (by decide +kernel)) ggX7_split_X2_has
set_option maxRecDepth 20000 in
theorem ggX7_split_X7_isAlike : GoodIn wsX7_split wsX7_isAlike := goodIn_k tie_wsX7_split tie_wsX7_isAlike (by decide +kernel)
set_option maxRecDepth 20000 in
theorem gX7_split_X7_isAlike : GoodIn wsX7_split (wsV RX7 42 RX7 yX7_isAlike wsX7_isAlike) := goodIn_app (goodIn_k (is := [382, 383, 384, 23]) tie_wsX7_split rfl (by decide +kernel)) ggX7_split_X7_isAlike
theorem dX7_split_0 : decode cX7_split 0 = .ok (.iconst 0, 1) := by decide +kernel
theorem dX7_split_1 : decode cX7_split 1 = .ok (.istore_n 1, 1) := by decide +kernel
theorem dX7_split_2 : decode cX7_split 2 = .ok (.iconst 0, 1) := by decide +kernel
theorem dX7_split_3 : decode cX7_split 3 = .ok (.istore_n 2, 1) := by decide +kernel
theorem dX7_split_4 : decode cX7_split 4 = .ok (.iload_n 2, 1) := by decide +kernel
theorem dX7_split_5 : decode cX7_split 5 = .ok (.bipush 8, 2) := by decide +kernel
theorem dX7_split_7 : decode cX7_split 7 = .ok (.if_icmp .ge 78, 3) := by decide +kernel
theorem dX7_split_10 : decode cX7_split 10 = .ok (.aload_n 0, 1) := by decide +kernel
theorem dX7_split_11 : decode cX7_split 11 = .ok (.getfield 18, 3) := by decide +kernel
theorem dX7_split_14 : decode cX7_split 14 = .ok (.iload_n 2, 1) := by decide +kernel
theorem dX7_split_15 : decode cX7_split 15 = .ok (.invokevirtual 30, 3) := by decide +kernel
theorem dX7_split_18 : decode cX7_split 18 = .ok (.ifCond .ne 6, 3) := by decide +kernel
theorem dX7_split_21 : decode cX7_split 21 = .ok (.goto 58, 3) := by decide +kernel
theorem dX7_split_24 : decode cX7_split 24 = .ok (.iload_n 1, 1) := by decide +kernel
theorem dX7_split_25 : decode cX7_split 25 = .ok (.istore_n 3, 1) := by decide +kernel
theorem dX7_split_26 : decode cX7_split 26 = .ok (.iconst 0, 1) := by decide +kernel
theorem dX7_split_27 : decode cX7_split 27 = .ok (.istore 4, 2) := by decide +kernel
theorem dX7_split_29 : decode cX7_split 29 = .ok (.iload 4, 2) := by decide +kernel
theorem dX7_split_31 : decode cX7_split 31 = .ok (.iload_n 2, 1) := by decide +kernel
theorem dX7_split_32 : decode cX7_split 32 = .ok (.if_icmp .ge 32, 3) := by decide +kernel
theorem dX7_split_35 : decode cX7_split 35 = .ok (.iload_n 3, 1) := by decide +kernel
theorem dX7_split_36 : decode cX7_split 36 = .ok (.iload_n 1, 1) := by decide +kernel
theorem dX7_split_37 : decode cX7_split 37 = .ok (.if_icmp .ne 27, 3) := by decide +kernel
theorem dX7_split_40 : decode cX7_split 40 = .ok (.aload_n 0, 1) := by decide +kernel
theorem dX7_split_41 : decode cX7_split 41 = .ok (.iload 4, 2) := by decide +kernel
theorem dX7_split_43 : decode cX7_split 43 = .ok (.iload_n 2, 1) := by decide +kernel
theorem dX7_split_44 : decode cX7_split 44 = .ok (.invokevirtual 42, 3) := by decide +kernel
theorem dX7_split_47 : decode cX7_split 47 = .ok (.ifCond .eq 11, 3) := by decide +kernel
theorem dX7_split_50 : decode cX7_split 50 = .ok (.aload_n 0, 1) := by decide +kernel
theorem dX7_split_51 : decode cX7_split 51 = .ok (.getfield 15, 3) := by decide +kernel
theorem dX7_split_54 : decode cX7_split 54 = .ok (.iload 4, 2) := by decide +kernel
theorem dX7_split_56 : decode cX7_split 56 = .ok (.iaload, 1) := by decide +kernel
theorem dX7_split_57 : decode cX7_split 57 = .ok (.istore_n 3, 1) := by decide +kernel
theorem dX7_split_58 : decode cX7_split 58 = .ok (.iinc 4 1, 3) := by decide +kernel
theorem dX7_split_61 : decode cX7_split 61 = .ok (.goto (-32), 3) := by decide +kernel
theorem dX7_split_64 : decode cX7_split 64 = .ok (.aload_n 0, 1) := by decide +kernel
theorem dX7_split_65 : decode cX7_split 65 = .ok (.getfield 15, 3) := by decide +kernel
theorem dX7_split_68 : decode cX7_split 68 = .ok (.iload_n 2, 1) := by decide +kernel
theorem dX7_split_69 : decode cX7_split 69 = .ok (.iload_n 3, 1) := by decide +kernel
theorem dX7_split_70 : decode cX7_split 70 = .ok (.iastore, 1) := by decide +kernel
theorem dX7_split_71 : decode cX7_split 71 = .ok (.iload_n 3, 1) := by decide +kernel
theorem dX7_split_72 : decode cX7_split 72 = .ok (.iload_n 1, 1) := by decide +kernel
theorem dX7_split_73 : decode cX7_split 73 = .ok (.if_icmp .ne 6, 3) := by decide +kernel
theorem dX7_split_76 : decode cX7_split 76 = .ok (.iinc 1 1, 3) := by decide +kernel
theorem dX7_split_79 : decode cX7_split 79 = .ok (.iinc 2 1, 3) := by decide +kernel
theorem dX7_split_82 : decode cX7_split 82 = .ok (.goto (-78), 3) := by decide +kernel
theorem dX7_split_85 : decode cX7_split 85 = .ok (.iload_n 1, 1) := by decide +kernel
theorem dX7_split_86 : decode cX7_split 86 = .ok (.ireturn, 1) := by decide +kernel
set_option maxRecDepth 20000 in
theorem ggX7_isAlike_X2_labelsOf : GoodIn wsX7_isAlike wsX2_labelsOf := goodIn_k tie_wsX7_isAlike tie_wsX2_labelsOf (by decide +kernel)
set_option maxRecDepth 20000 in
theorem gX7_isAlike_X2_labelsOf : GoodIn wsX7_isAlike (wsV RX7 46 RX2 yX2_labelsOf wsX2_labelsOf) := goodIn_app (goodIn_k (is := [386, 265, 266, 14]) tie_wsX7_isAlike rfl (by decide +kernel)) ggX7_isAlike_X2_labelsOf
set_option maxRecDepth 20000 in
theorem ggX7_isAlike_X2_rewardOf : GoodIn wsX7_isAlike wsX2_rewardOf := goodIn_k tie_wsX7_isAlike tie_wsX2_rewardOf (by decide +kernel)
set_option maxRecDepth 20000 in
theorem gX7_isAlike_X2_rewardOf : GoodIn wsX7_isAlike (wsV RX7 50 RX2 yX2_rewardOf wsX2_rewardOf) := goodIn_app (goodIn_k (is := [387, 286, 287, 14]) tie_wsX7_isAlike rfl (by decide +kernel)) ggX7_isAlike_X2_rewardOf
set_option maxRecDepth 20000 in
theorem ggX7_isAlike_X7_numberOf : GoodIn wsX7_isAlike wsX7_numberOf := goodIn_k tie_wsX7_isAlike tie_wsX7_numberOf (by decide +kernel)
set_option maxRecDepth 20000 in
theorem gX7_isAlike_X7_numberOf : GoodIn wsX7_isAlike (wsV RX7 53 RX7 yX7_numberOf wsX7_numberOf) := goodIn_app (goodIn_k (is := [388, 389, 390, 23]) tie_wsX7_isAlike rfl (by decide +kernel)) ggX7_isAlike_X7_numberOf
set_option maxRecDepth 20000 in
theorem ggX7_isAlike_X7_members : GoodIn wsX7_isAlike wsX7_members := goodIn_k tie_wsX7_isAlike tie_wsX7_members (by decide +kernel)
set_option maxRecDepth 20000 in
theorem gX7_isAlike_X7_members : GoodIn wsX7_isAlike (wsV RX7 56 RX7 yX7_members wsX7_members) := goodIn_app (goodIn_k (is := [394, 395, 396, 23]) tie_wsX7_isAlike rfl (by decide +kernel)) ggX7_isAlike_X7_members
set_option maxRecDepth 20000 in
theorem ggX7_isAlike_X2_stepWeightInto : GoodIn wsX7_isAlike wsX2_stepWeightInto := goodIn_k tie_wsX7_isAlike tie_wsX2_stepWeightInto (by decide +kernel)
set_option maxRecDepth 20000 in
theorem gX7_isAlike_X2_stepWeightInto : GoodIn wsX7_isAlike (wsV RX7 59 RX2 yX2_stepWeightInto wsX2_stepWeightInto) := goodIn_app (goodIn_k (is := [398, 399, 400, 14]) tie_wsX7_isAlike rfl (by decide +kernel)) ggX7_isAlike_X2_stepWeightInto
set_option maxRecDepth 20000 in
theorem ggX7_isAlike_X2_divisorOf : GoodIn wsX7_isAlike wsX2_divisorOf := goodIn_k tie_wsX7_isAlike tie_wsX2_divisorOf (by decide +kernel)
set_option maxRecDepth 20000 in
theorem gX7_isAlike_X2_divisorOf : GoodIn wsX7_isAlike (wsV RX7 63 RX2 yX2_divisorOf wsX2_divisorOf) := goodIn_app (goodIn_k (is := [403, 404, 405, 14]) tie_wsX7_isAlike rfl (by decide +kernel)) ggX7_isAlike_X2_divisorOf
theorem dX7_isAlike_0 : decode cX7_isAlike 0 = .ok (.aload_n 0, 1) := by decide +kernel
theorem dX7_isAlike_1 : decode cX7_isAlike 1 = .ok (.getfield 18, 3) := by decide +kernel
theorem dX7_isAlike_4 : decode cX7_isAlike 4 = .ok (.iload_n 1, 1) := by decide +kernel
theorem dX7_isAlike_5 : decode cX7_isAlike 5 = .ok (.invokevirtual 46, 3) := by decide +kernel
theorem dX7_isAlike_8 : decode cX7_isAlike 8 = .ok (.aload_n 0, 1) := by decide +kernel
theorem dX7_isAlike_9 : decode cX7_isAlike 9 = .ok (.getfield 18, 3) := by decide +kernel
theorem dX7_isAlike_12 : decode cX7_isAlike 12 = .ok (.iload_n 2, 1) := by decide +kernel
theorem dX7_isAlike_13 : decode cX7_isAlike 13 = .ok (.invokevirtual 46, 3) := by decide +kernel
theorem dX7_isAlike_16 : decode cX7_isAlike 16 = .ok (.if_icmp .ne 35, 3) := by decide +kernel
theorem dX7_isAlike_19 : decode cX7_isAlike 19 = .ok (.aload_n 0, 1) := by decide +kernel
theorem dX7_isAlike_20 : decode cX7_isAlike 20 = .ok (.getfield 18, 3) := by decide +kernel
theorem dX7_isAlike_23 : decode cX7_isAlike 23 = .ok (.iload_n 1, 1) := by decide +kernel
theorem dX7_isAlike_24 : decode cX7_isAlike 24 = .ok (.invokevirtual 50, 3) := by decide +kernel
theorem dX7_isAlike_27 : decode cX7_isAlike 27 = .ok (.aload_n 0, 1) := by decide +kernel
theorem dX7_isAlike_28 : decode cX7_isAlike 28 = .ok (.getfield 18, 3) := by decide +kernel
theorem dX7_isAlike_31 : decode cX7_isAlike 31 = .ok (.iload_n 2, 1) := by decide +kernel
theorem dX7_isAlike_32 : decode cX7_isAlike 32 = .ok (.invokevirtual 50, 3) := by decide +kernel
theorem dX7_isAlike_35 : decode cX7_isAlike 35 = .ok (.if_icmp .ne 16, 3) := by decide +kernel
theorem dX7_isAlike_38 : decode cX7_isAlike 38 = .ok (.aload_n 0, 1) := by decide +kernel
theorem dX7_isAlike_39 : decode cX7_isAlike 39 = .ok (.iload_n 1, 1) := by decide +kernel
theorem dX7_isAlike_40 : decode cX7_isAlike 40 = .ok (.invokevirtual 53, 3) := by decide +kernel
theorem dX7_isAlike_43 : decode cX7_isAlike 43 = .ok (.aload_n 0, 1) := by decide +kernel
theorem dX7_isAlike_44 : decode cX7_isAlike 44 = .ok (.iload_n 2, 1) := by decide +kernel
theorem dX7_isAlike_45 : decode cX7_isAlike 45 = .ok (.invokevirtual 53, 3) := by decide +kernel
theorem dX7_isAlike_48 : decode cX7_isAlike 48 = .ok (.if_icmp .eq 5, 3) := by decide +kernel
theorem dX7_isAlike_51 : decode cX7_isAlike 51 = .ok (.iconst 0, 1) := by decide +kernel
theorem dX7_isAlike_52 : decode cX7_isAlike 52 = .ok (.ireturn, 1) := by decide +kernel
theorem dX7_isAlike_53 : decode cX7_isAlike 53 = .ok (.iconst 0, 1) := by decide +kernel
theorem dX7_isAlike_54 : decode cX7_isAlike 54 = .ok (.istore_n 3, 1) := by decide +kernel
theorem dX7_isAlike_55 : decode cX7_isAlike 55 = .ok (.iload_n 3, 1) := by decide +kernel
theorem dX7_isAlike_56 : decode cX7_isAlike 56 = .ok (.aload_n 0, 1) := by decide +kernel
theorem dX7_isAlike_57 : decode cX7_isAlike 57 = .ok (.getfield 22, 3) := by decide +kernel
theorem dX7_isAlike_60 : decode cX7_isAlike 60 = .ok (.if_icmp .ge 67, 3) := by decide +kernel
theorem dX7_isAlike_63 : decode cX7_isAlike 63 = .ok (.aload_n 0, 1) := by decide +kernel
theorem dX7_isAlike_64 : decode cX7_isAlike 64 = .ok (.iload_n 3, 1) := by decide +kernel
theorem dX7_isAlike_65 : decode cX7_isAlike 65 = .ok (.invokevirtual 56, 3) := by decide +kernel
theorem dX7_isAlike_68 : decode cX7_isAlike 68 = .ok (.istore 4, 2) := by decide +kernel
theorem dX7_isAlike_70 : decode cX7_isAlike 70 = .ok (.aload_n 0, 1) := by decide +kernel
theorem dX7_isAlike_71 : decode cX7_isAlike 71 = .ok (.getfield 18, 3) := by decide +kernel
theorem dX7_isAlike_74 : decode cX7_isAlike 74 = .ok (.iload_n 1, 1) := by decide +kernel
theorem dX7_isAlike_75 : decode cX7_isAlike 75 = .ok (.iload 4, 2) := by decide +kernel
theorem dX7_isAlike_77 : decode cX7_isAlike 77 = .ok (.invokevirtual 59, 3) := by decide +kernel
theorem dX7_isAlike_80 : decode cX7_isAlike 80 = .ok (.aload_n 0, 1) := by decide +kernel
theorem dX7_isAlike_81 : decode cX7_isAlike 81 = .ok (.getfield 18, 3) := by decide +kernel
theorem dX7_isAlike_84 : decode cX7_isAlike 84 = .ok (.iload_n 2, 1) := by decide +kernel
theorem dX7_isAlike_85 : decode cX7_isAlike 85 = .ok (.invokevirtual 63, 3) := by decide +kernel
theorem dX7_isAlike_88 : decode cX7_isAlike 88 = .ok (.imul, 1) := by decide +kernel
theorem dX7_isAlike_89 : decode cX7_isAlike 89 = .ok (.istore 5, 2) := by decide +kernel
theorem dX7_isAlike_91 : decode cX7_isAlike 91 = .ok (.aload_n 0, 1) := by decide +kernel
theorem dX7_isAlike_92 : decode cX7_isAlike 92 = .ok (.getfield 18, 3) := by decide +kernel
theorem dX7_isAlike_95 : decode cX7_isAlike 95 = .ok (.iload_n 2, 1) := by decide +kernel
theorem dX7_isAlike_96 : decode cX7_isAlike 96 = .ok (.iload 4, 2) := by decide +kernel
theorem dX7_isAlike_98 : decode cX7_isAlike 98 = .ok (.invokevirtual 59, 3) := by decide +kernel
theorem dX7_isAlike_101 : decode cX7_isAlike 101 = .ok (.aload_n 0, 1) := by decide +kernel
theorem dX7_isAlike_102 : decode cX7_isAlike 102 = .ok (.getfield 18, 3) := by decide +kernel
theorem dX7_isAlike_105 : decode cX7_isAlike 105 = .ok (.iload_n 1, 1) := by decide +kernel
theorem dX7_isAlike_106 : decode cX7_isAlike 106 = .ok (.invokevirtual 63, 3) := by decide +kernel
theorem dX7_isAlike_109 : decode cX7_isAlike 109 = .ok (.imul, 1) := by decide +kernel
theorem dX7_isAlike_110 : decode cX7_isAlike 110 = .ok (.istore 6, 2) := by decide +kernel
theorem dX7_isAlike_112 : decode cX7_isAlike 112 = .ok (.iload 5, 2) := by decide +kernel
theorem dX7_isAlike_114 : decode cX7_isAlike 114 = .ok (.iload 6, 2) := by decide +kernel
theorem dX7_isAlike_116 : decode cX7_isAlike 116 = .ok (.if_icmp .eq 5, 3) := by decide +kernel
theorem dX7_isAlike_119 : decode cX7_isAlike 119 = .ok (.iconst 0, 1) := by decide +kernel
theorem dX7_isAlike_120 : decode cX7_isAlike 120 = .ok (.ireturn, 1) := by decide +kernel
theorem dX7_isAlike_121 : decode cX7_isAlike 121 = .ok (.iinc 3 1, 3) := by decide +kernel
theorem dX7_isAlike_124 : decode cX7_isAlike 124 = .ok (.goto (-69), 3) := by decide +kernel
theorem dX7_isAlike_127 : decode cX7_isAlike 127 = .ok (.iconst 1, 1) := by decide +kernel
theorem dX7_isAlike_128 : decode cX7_isAlike 128 = .ok (.ireturn, 1) := by decide +kernel
set_option maxRecDepth 20000 in
theorem ggX8_init_X3_init : GoodIn wsX8_init wsX3_init := goodIn_k tie_wsX8_init tie_wsX3_init (by decide +kernel)
set_option maxRecDepth 20000 in
theorem gX8_init_X3_init_n11 : GoodIn wsX8_init (wsX3_init) := ggX8_init_X3_init
theorem dX8_init_0 : decode cX8_init 0 = .ok (.aload_n 0, 1) := by decide +kernel
theorem dX8_init_1 : decode cX8_init 1 = .ok (.invokespecial 3, 3) := by decide +kernel
theorem dX8_init_4 : decode cX8_init 4 = .ok (.aload_n 0, 1) := by decide +kernel
theorem dX8_init_5 : decode cX8_init 5 = .ok (.new 9, 3) := by decide +kernel
theorem dX8_init_8 : decode cX8_init 8 = .ok (.dup, 1) := by decide +kernel
theorem dX8_init_9 : decode cX8_init 9 = .ok (.invokespecial 11, 3) := by decide +kernel
theorem dX8_init_12 : decode cX8_init 12 = .ok (.putfield 12, 3) := by decide +kernel
theorem dX8_init_15 : decode cX8_init 15 = .ok (.aload_n 0, 1) := by decide +kernel
theorem dX8_init_16 : decode cX8_init 16 = .ok (.bipush 8, 2) := by decide +kernel
theorem dX8_init_18 : decode cX8_init 18 = .ok (.newarray .long, 2) := by decide +kernel
theorem dX8_init_20 : decode cX8_init 20 = .ok (.putfield 18, 3) := by decide +kernel
theorem dX8_init_23 : decode cX8_init 23 = .ok (.aload_n 0, 1) := by decide +kernel
theorem dX8_init_24 : decode cX8_init 24 = .ok (.bipush 8, 2) := by decide +kernel
theorem dX8_init_26 : decode cX8_init 26 = .ok (.newarray .long, 2) := by decide +kernel
theorem dX8_init_28 : decode cX8_init 28 = .ok (.putfield 22, 3) := by decide +kernel
theorem dX8_init_31 : decode cX8_init 31 = .ok (.aload_n 0, 1) := by decide +kernel
theorem dX8_init_32 : decode cX8_init 32 = .ok (.bipush 8, 2) := by decide +kernel
theorem dX8_init_34 : decode cX8_init 34 = .ok (.newarray .long, 2) := by decide +kernel
theorem dX8_init_36 : decode cX8_init 36 = .ok (.putfield 25, 3) := by decide +kernel
theorem dX8_init_39 : decode cX8_init 39 = .ok (.aload_n 0, 1) := by decide +kernel
theorem dX8_init_40 : decode cX8_init 40 = .ok (.bipush 8, 2) := by decide +kernel
theorem dX8_init_42 : decode cX8_init 42 = .ok (.newarray .long, 2) := by decide +kernel
theorem dX8_init_44 : decode cX8_init 44 = .ok (.putfield 28, 3) := by decide +kernel
theorem dX8_init_47 : decode cX8_init 47 = .ok (.aload_n 0, 1) := by decide +kernel
theorem dX8_init_48 : decode cX8_init 48 = .ok (.aload_n 1, 1) := by decide +kernel
theorem dX8_init_49 : decode cX8_init 49 = .ok (.putfield 31, 3) := by decide +kernel
theorem dX8_init_52 : decode cX8_init 52 = .ok (.return_, 1) := by decide +kernel
set_option maxRecDepth 20000 in
theorem ggX8_part_X11_isIndex : GoodIn wsX8_part wsX11_isIndex := goodIn_k tie_wsX8_part tie_wsX11_isIndex (by decide +kernel)
set_option maxRecDepth 20000 in
theorem gX8_part_X11_isIndex_n35 : GoodIn wsX8_part (wsX11_isIndex) := ggX8_part_X11_isIndex
theorem dX8_part_0 : decode cX8_part 0 = .ok (.iload_n 1, 1) := by decide +kernel
theorem dX8_part_1 : decode cX8_part 1 = .ok (.invokestatic 35, 3) := by decide +kernel
theorem dX8_part_4 : decode cX8_part 4 = .ok (.ifCond .ne 5, 3) := by decide +kernel
theorem dX8_part_7 : decode cX8_part 7 = .ok (.lconst 0, 1) := by decide +kernel
theorem dX8_part_8 : decode cX8_part 8 = .ok (.lreturn, 1) := by decide +kernel
theorem dX8_part_9 : decode cX8_part 9 = .ok (.iload_n 2, 1) := by decide +kernel
theorem dX8_part_10 : decode cX8_part 10 = .ok (.ifCond .ne 12, 3) := by decide +kernel
theorem dX8_part_13 : decode cX8_part 13 = .ok (.aload_n 0, 1) := by decide +kernel
theorem dX8_part_14 : decode cX8_part 14 = .ok (.getfield 18, 3) := by decide +kernel
theorem dX8_part_17 : decode cX8_part 17 = .ok (.iload_n 1, 1) := by decide +kernel
theorem dX8_part_18 : decode cX8_part 18 = .ok (.laload, 1) := by decide +kernel
theorem dX8_part_19 : decode cX8_part 19 = .ok (.goto 9, 3) := by decide +kernel
theorem dX8_part_22 : decode cX8_part 22 = .ok (.aload_n 0, 1) := by decide +kernel
theorem dX8_part_23 : decode cX8_part 23 = .ok (.getfield 22, 3) := by decide +kernel
theorem dX8_part_26 : decode cX8_part 26 = .ok (.iload_n 1, 1) := by decide +kernel
theorem dX8_part_27 : decode cX8_part 27 = .ok (.laload, 1) := by decide +kernel
theorem dX8_part_28 : decode cX8_part 28 = .ok (.lreturn, 1) := by decide +kernel
set_option maxRecDepth 20000 in
theorem ggX8_isInfinite_X11_isIndex : GoodIn wsX8_isInfinite wsX11_isIndex := goodIn_k tie_wsX8_isInfinite tie_wsX11_isIndex (by decide +kernel)
set_option maxRecDepth 20000 in
theorem gX8_isInfinite_X11_isIndex_n35 : GoodIn wsX8_isInfinite (wsX11_isIndex) := ggX8_isInfinite_X11_isIndex
theorem dX8_isInfinite_0 : decode cX8_isInfinite 0 = .ok (.iload_n 1, 1) := by decide +kernel
theorem dX8_isInfinite_1 : decode cX8_isInfinite 1 = .ok (.invokestatic 35, 3) := by decide +kernel
theorem dX8_isInfinite_4 : decode cX8_isInfinite 4 = .ok (.ifCond .eq 18, 3) := by decide +kernel
theorem dX8_isInfinite_7 : decode cX8_isInfinite 7 = .ok (.aload_n 0, 1) := by decide +kernel
theorem dX8_isInfinite_8 : decode cX8_isInfinite 8 = .ok (.getfield 22, 3) := by decide +kernel
theorem dX8_isInfinite_11 : decode cX8_isInfinite 11 = .ok (.iload_n 1, 1) := by decide +kernel
theorem dX8_isInfinite_12 : decode cX8_isInfinite 12 = .ok (.laload, 1) := by decide +kernel
theorem dX8_isInfinite_13 : decode cX8_isInfinite 13 = .ok (.lconst 0, 1) := by decide +kernel
theorem dX8_isInfinite_14 : decode cX8_isInfinite 14 = .ok (.lcmp, 1) := by decide +kernel
theorem dX8_isInfinite_15 : decode cX8_isInfinite 15 = .ok (.ifCond .ne 7, 3) := by decide +kernel
theorem dX8_isInfinite_18 : decode cX8_isInfinite 18 = .ok (.iconst 1, 1) := by decide +kernel
theorem dX8_isInfinite_19 : decode cX8_isInfinite 19 = .ok (.goto 4, 3) := by decide +kernel
theorem dX8_isInfinite_22 : decode cX8_isInfinite 22 = .ok (.iconst 0, 1) := by decide +kernel
theorem dX8_isInfinite_23 : decode cX8_isInfinite 23 = .ok (.ireturn, 1) := by decide +kernel
set_option maxRecDepth 20000 in
theorem ggX8_fulfilling_X2_has : GoodIn wsX8_fulfilling wsX2_has := goodIn_k tie_wsX8_fulfilling tie_wsX2_has (by decide +kernel)
set_option maxRecDepth 20000 in
theorem gX8_fulfilling_X2_has : GoodIn wsX8_fulfilling (wsV RX8 39 RX2 yX2_has wsX2_has) := goodIn_app (goodIn_k (is := [991, 191, 192, 14]) tie_wsX8_fulfilling rfl (by decide +kernel)) ggX8_fulfilling_X2_has
set_option maxRecDepth 20000 in
theorem ggX8_fulfilling_X1_admits : GoodIn wsX8_fulfilling wsX1_admits := goodIn_k tie_wsX8_fulfilling tie_wsX1_admits (by decide +kernel)
set_option maxRecDepth 20000 in
theorem gX8_fulfilling_X1_admits : GoodIn wsX8_fulfilling (wsV RX8 44 RX1 yX1_admits wsX1_admits) := goodIn_app (goodIn_k (is := [1067, 1068, 1069, 763]) tie_wsX8_fulfilling rfl (by decide +kernel)) ggX8_fulfilling_X1_admits
theorem dX8_fulfilling_0 : decode cX8_fulfilling 0 = .ok (.iconst 0, 1) := by decide +kernel
theorem dX8_fulfilling_1 : decode cX8_fulfilling 1 = .ok (.istore_n 2, 1) := by decide +kernel
theorem dX8_fulfilling_2 : decode cX8_fulfilling 2 = .ok (.iconst 0, 1) := by decide +kernel
theorem dX8_fulfilling_3 : decode cX8_fulfilling 3 = .ok (.istore_n 3, 1) := by decide +kernel
theorem dX8_fulfilling_4 : decode cX8_fulfilling 4 = .ok (.iload_n 3, 1) := by decide +kernel
theorem dX8_fulfilling_5 : decode cX8_fulfilling 5 = .ok (.bipush 8, 2) := by decide +kernel
theorem dX8_fulfilling_7 : decode cX8_fulfilling 7 = .ok (.if_icmp .ge 49, 3) := by decide +kernel
theorem dX8_fulfilling_10 : decode cX8_fulfilling 10 = .ok (.aload_n 1, 1) := by decide +kernel
theorem dX8_fulfilling_11 : decode cX8_fulfilling 11 = .ok (.ifnull 39, 3) := by decide +kernel
theorem dX8_fulfilling_14 : decode cX8_fulfilling 14 = .ok (.aload_n 0, 1) := by decide +kernel
theorem dX8_fulfilling_15 : decode cX8_fulfilling 15 = .ok (.getfield 31, 3) := by decide +kernel
theorem dX8_fulfilling_18 : decode cX8_fulfilling 18 = .ok (.iload_n 3, 1) := by decide +kernel
theorem dX8_fulfilling_19 : decode cX8_fulfilling 19 = .ok (.invokevirtual 39, 3) := by decide +kernel
theorem dX8_fulfilling_22 : decode cX8_fulfilling 22 = .ok (.ifCond .eq 28, 3) := by decide +kernel
theorem dX8_fulfilling_25 : decode cX8_fulfilling 25 = .ok (.aload_n 1, 1) := by decide +kernel
theorem dX8_fulfilling_26 : decode cX8_fulfilling 26 = .ok (.aload_n 0, 1) := by decide +kernel
theorem dX8_fulfilling_27 : decode cX8_fulfilling 27 = .ok (.getfield 18, 3) := by decide +kernel
theorem dX8_fulfilling_30 : decode cX8_fulfilling 30 = .ok (.iload_n 3, 1) := by decide +kernel
theorem dX8_fulfilling_31 : decode cX8_fulfilling 31 = .ok (.laload, 1) := by decide +kernel
theorem dX8_fulfilling_32 : decode cX8_fulfilling 32 = .ok (.aload_n 0, 1) := by decide +kernel
theorem dX8_fulfilling_33 : decode cX8_fulfilling 33 = .ok (.getfield 22, 3) := by decide +kernel
theorem dX8_fulfilling_36 : decode cX8_fulfilling 36 = .ok (.iload_n 3, 1) := by decide +kernel
theorem dX8_fulfilling_37 : decode cX8_fulfilling 37 = .ok (.laload, 1) := by decide +kernel
theorem dX8_fulfilling_38 : decode cX8_fulfilling 38 = .ok (.invokevirtual 44, 3) := by decide +kernel
theorem dX8_fulfilling_41 : decode cX8_fulfilling 41 = .ok (.ifCond .eq 9, 3) := by decide +kernel
theorem dX8_fulfilling_44 : decode cX8_fulfilling 44 = .ok (.iload_n 2, 1) := by decide +kernel
theorem dX8_fulfilling_45 : decode cX8_fulfilling 45 = .ok (.iconst 1, 1) := by decide +kernel
theorem dX8_fulfilling_46 : decode cX8_fulfilling 46 = .ok (.iload_n 3, 1) := by decide +kernel
theorem dX8_fulfilling_47 : decode cX8_fulfilling 47 = .ok (.ishl, 1) := by decide +kernel
theorem dX8_fulfilling_48 : decode cX8_fulfilling 48 = .ok (.ior, 1) := by decide +kernel
theorem dX8_fulfilling_49 : decode cX8_fulfilling 49 = .ok (.istore_n 2, 1) := by decide +kernel
theorem dX8_fulfilling_50 : decode cX8_fulfilling 50 = .ok (.iinc 3 1, 3) := by decide +kernel
theorem dX8_fulfilling_53 : decode cX8_fulfilling 53 = .ok (.goto (-49), 3) := by decide +kernel
theorem dX8_fulfilling_56 : decode cX8_fulfilling 56 = .ok (.iload_n 2, 1) := by decide +kernel
theorem dX8_fulfilling_57 : decode cX8_fulfilling 57 = .ok (.ireturn, 1) := by decide +kernel
set_option maxRecDepth 20000 in
theorem ggX8_refuses_X2_commonDivisors : GoodIn wsX8_refuses wsX2_commonDivisors := goodIn_k tie_wsX8_refuses tie_wsX2_commonDivisors (by decide +kernel)
set_option maxRecDepth 20000 in
theorem gX8_refuses_X2_commonDivisors : GoodIn wsX8_refuses (wsV RX8 50 RX2 yX2_commonDivisors wsX2_commonDivisors) := goodIn_app (goodIn_k (is := [946, 947, 948, 14]) tie_wsX8_refuses rfl (by decide +kernel)) ggX8_refuses_X2_commonDivisors
theorem dX8_refuses_0 : decode cX8_refuses 0 = .ok (.aload_n 0, 1) := by decide +kernel
theorem dX8_refuses_1 : decode cX8_refuses 1 = .ok (.getfield 31, 3) := by decide +kernel
theorem dX8_refuses_4 : decode cX8_refuses 4 = .ok (.invokevirtual 50, 3) := by decide +kernel
theorem dX8_refuses_7 : decode cX8_refuses 7 = .ok (.lstore_n 2, 1) := by decide +kernel
theorem dX8_refuses_8 : decode cX8_refuses 8 = .ok (.lconst 1, 1) := by decide +kernel
theorem dX8_refuses_9 : decode cX8_refuses 9 = .ok (.lstore 4, 2) := by decide +kernel
theorem dX8_refuses_11 : decode cX8_refuses 11 = .ok (.iconst 0, 1) := by decide +kernel
theorem dX8_refuses_12 : decode cX8_refuses 12 = .ok (.istore 6, 2) := by decide +kernel
theorem dX8_refuses_14 : decode cX8_refuses 14 = .ok (.iload 6, 2) := by decide +kernel
theorem dX8_refuses_16 : decode cX8_refuses 16 = .ok (.iload_n 1, 1) := by decide +kernel
theorem dX8_refuses_17 : decode cX8_refuses 17 = .ok (.if_icmp .ge 26, 3) := by decide +kernel
theorem dX8_refuses_20 : decode cX8_refuses 20 = .ok (.lload 4, 2) := by decide +kernel
theorem dX8_refuses_22 : decode cX8_refuses 22 = .ok (.lload_n 2, 1) := by decide +kernel
theorem dX8_refuses_23 : decode cX8_refuses 23 = .ok (.lmul, 1) := by decide +kernel
theorem dX8_refuses_24 : decode cX8_refuses 24 = .ok (.lstore 4, 2) := by decide +kernel
theorem dX8_refuses_26 : decode cX8_refuses 26 = .ok (.lload 4, 2) := by decide +kernel
theorem dX8_refuses_28 : decode cX8_refuses 28 = .ok (.ldc2_w 54, 3) := by decide +kernel
theorem dX8_refuses_31 : decode cX8_refuses 31 = .ok (.lcmp, 1) := by decide +kernel
theorem dX8_refuses_32 : decode cX8_refuses 32 = .ok (.ifCond .le 5, 3) := by decide +kernel
theorem dX8_refuses_35 : decode cX8_refuses 35 = .ok (.iconst 1, 1) := by decide +kernel
theorem dX8_refuses_36 : decode cX8_refuses 36 = .ok (.ireturn, 1) := by decide +kernel
theorem dX8_refuses_37 : decode cX8_refuses 37 = .ok (.iinc 6 1, 3) := by decide +kernel
theorem dX8_refuses_40 : decode cX8_refuses 40 = .ok (.goto (-26), 3) := by decide +kernel
theorem dX8_refuses_43 : decode cX8_refuses 43 = .ok (.iconst 0, 1) := by decide +kernel
theorem dX8_refuses_44 : decode cX8_refuses 44 = .ok (.ireturn, 1) := by decide +kernel
set_option maxRecDepth 20000 in
theorem ggX8_solveStep_X2_stepWeightInto : GoodIn wsX8_solveStep wsX2_stepWeightInto := goodIn_k tie_wsX8_solveStep tie_wsX2_stepWeightInto (by decide +kernel)
set_option maxRecDepth 20000 in
theorem gX8_solveStep_X2_stepWeightInto : GoodIn wsX8_solveStep (wsV RX8 56 RX2 yX2_stepWeightInto wsX2_stepWeightInto) := goodIn_app (goodIn_k (is := [462, 399, 400, 14]) tie_wsX8_solveStep rfl (by decide +kernel)) ggX8_solveStep_X2_stepWeightInto
set_option maxRecDepth 20000 in
theorem ggX8_solveStep_X2_divisorOf : GoodIn wsX8_solveStep wsX2_divisorOf := goodIn_k tie_wsX8_solveStep tie_wsX2_divisorOf (by decide +kernel)
set_option maxRecDepth 20000 in
theorem gX8_solveStep_X2_divisorOf : GoodIn wsX8_solveStep (wsV RX8 60 RX2 yX2_divisorOf wsX2_divisorOf) := goodIn_app (goodIn_k (is := [463, 404, 405, 14]) tie_wsX8_solveStep rfl (by decide +kernel)) ggX8_solveStep_X2_divisorOf
set_option maxRecDepth 20000 in
theorem ggX8_solveStep_X8_put : GoodIn wsX8_solveStep wsX8_put := goodIn_k tie_wsX8_solveStep tie_wsX8_put (by decide +kernel)
set_option maxRecDepth 20000 in
theorem gX8_solveStep_X8_put : GoodIn wsX8_solveStep (wsV RX8 64 RX8 yX8_put wsX8_put) := goodIn_app (goodIn_k (is := [464, 465, 466, 27]) tie_wsX8_solveStep rfl (by decide +kernel)) ggX8_solveStep_X8_put
theorem dX8_solveStep_0 : decode cX8_solveStep 0 = .ok (.iconst 0, 1) := by decide +kernel
theorem dX8_solveStep_1 : decode cX8_solveStep 1 = .ok (.istore_n 2, 1) := by decide +kernel
theorem dX8_solveStep_2 : decode cX8_solveStep 2 = .ok (.iload_n 2, 1) := by decide +kernel
theorem dX8_solveStep_3 : decode cX8_solveStep 3 = .ok (.bipush 8, 2) := by decide +kernel
theorem dX8_solveStep_5 : decode cX8_solveStep 5 = .ok (.if_icmp .ge 33, 3) := by decide +kernel
theorem dX8_solveStep_8 : decode cX8_solveStep 8 = .ok (.aload_n 0, 1) := by decide +kernel
theorem dX8_solveStep_9 : decode cX8_solveStep 9 = .ok (.iload_n 2, 1) := by decide +kernel
theorem dX8_solveStep_10 : decode cX8_solveStep 10 = .ok (.aload_n 0, 1) := by decide +kernel
theorem dX8_solveStep_11 : decode cX8_solveStep 11 = .ok (.getfield 31, 3) := by decide +kernel
theorem dX8_solveStep_14 : decode cX8_solveStep 14 = .ok (.iload_n 2, 1) := by decide +kernel
theorem dX8_solveStep_15 : decode cX8_solveStep 15 = .ok (.iload_n 1, 1) := by decide +kernel
theorem dX8_solveStep_16 : decode cX8_solveStep 16 = .ok (.invokevirtual 56, 3) := by decide +kernel
theorem dX8_solveStep_19 : decode cX8_solveStep 19 = .ok (.i2l, 1) := by decide +kernel
theorem dX8_solveStep_20 : decode cX8_solveStep 20 = .ok (.aload_n 0, 1) := by decide +kernel
theorem dX8_solveStep_21 : decode cX8_solveStep 21 = .ok (.getfield 31, 3) := by decide +kernel
theorem dX8_solveStep_24 : decode cX8_solveStep 24 = .ok (.iload_n 2, 1) := by decide +kernel
theorem dX8_solveStep_25 : decode cX8_solveStep 25 = .ok (.invokevirtual 60, 3) := by decide +kernel
theorem dX8_solveStep_28 : decode cX8_solveStep 28 = .ok (.i2l, 1) := by decide +kernel
theorem dX8_solveStep_29 : decode cX8_solveStep 29 = .ok (.invokevirtual 64, 3) := by decide +kernel
theorem dX8_solveStep_32 : decode cX8_solveStep 32 = .ok (.iinc 2 1, 3) := by decide +kernel
theorem dX8_solveStep_35 : decode cX8_solveStep 35 = .ok (.goto (-33), 3) := by decide +kernel
theorem dX8_solveStep_38 : decode cX8_solveStep 38 = .ok (.return_, 1) := by decide +kernel
set_option maxRecDepth 20000 in
theorem ggX8_solveUntil_X2_canReach : GoodIn wsX8_solveUntil wsX2_canReach := goodIn_k tie_wsX8_solveUntil tie_wsX2_canReach (by decide +kernel)
set_option maxRecDepth 20000 in
theorem gX8_solveUntil_X2_canReach : GoodIn wsX8_solveUntil (wsV RX8 68 RX2 yX2_canReach wsX2_canReach) := goodIn_app (goodIn_k (is := [971, 972, 973, 14]) tie_wsX8_solveUntil rfl (by decide +kernel)) ggX8_solveUntil_X2_canReach
set_option maxRecDepth 20000 in
theorem ggX8_solveUntil_X3_clear : GoodIn wsX8_solveUntil wsX3_clear := goodIn_k tie_wsX8_solveUntil tie_wsX3_clear (by decide +kernel)
set_option maxRecDepth 20000 in
theorem gX8_solveUntil_X3_clear : GoodIn wsX8_solveUntil (wsV RX8 71 RX3 yX3_clear wsX3_clear) := goodIn_app (goodIn_k (is := [975, 976, 977, 70]) tie_wsX8_solveUntil rfl (by decide +kernel)) ggX8_solveUntil_X3_clear
set_option maxRecDepth 20000 in
theorem ggX8_solveUntil_X11_contains : GoodIn wsX8_solveUntil wsX11_contains := goodIn_k tie_wsX8_solveUntil tie_wsX11_contains (by decide +kernel)
set_option maxRecDepth 20000 in
theorem gX8_solveUntil_X11_contains_n74 : GoodIn wsX8_solveUntil (wsX11_contains) := ggX8_solveUntil_X11_contains
set_option maxRecDepth 20000 in
theorem ggX8_solveUntil_X8_balance : GoodIn wsX8_solveUntil wsX8_balance := goodIn_k tie_wsX8_solveUntil tie_wsX8_balance (by decide +kernel)
set_option maxRecDepth 20000 in
theorem gX8_solveUntil_X8_balance : GoodIn wsX8_solveUntil (wsV RX8 78 RX8 yX8_balance wsX8_balance) := goodIn_app (goodIn_k (is := [987, 988, 989, 27]) tie_wsX8_solveUntil rfl (by decide +kernel)) ggX8_solveUntil_X8_balance
set_option maxRecDepth 20000 in
theorem ggX8_solveUntil_X3_putRight : GoodIn wsX8_solveUntil wsX3_putRight := goodIn_k tie_wsX8_solveUntil tie_wsX3_putRight (by decide +kernel)
set_option maxRecDepth 20000 in
theorem gX8_solveUntil_X3_putRight : GoodIn wsX8_solveUntil (wsV RX8 82 RX3 yX3_putRight wsX3_putRight) := goodIn_app (goodIn_k (is := [1006, 1007, 1008, 70]) tie_wsX8_solveUntil rfl (by decide +kernel)) ggX8_solveUntil_X3_putRight
set_option maxRecDepth 20000 in
theorem ggX8_solveUntil_X3_solve : GoodIn wsX8_solveUntil wsX3_solve := goodIn_k tie_wsX8_solveUntil tie_wsX3_solve (by decide +kernel)
set_option maxRecDepth 20000 in
theorem gX8_solveUntil_X3_solve : GoodIn wsX8_solveUntil (wsV RX8 86 RX3 yX3_solve wsX3_solve) := goodIn_app (goodIn_k (is := [1010, 1011, 1012, 70]) tie_wsX8_solveUntil rfl (by decide +kernel)) ggX8_solveUntil_X3_solve
set_option maxRecDepth 20000 in
theorem ggX8_solveUntil_X3_solution : GoodIn wsX8_solveUntil wsX3_solution := goodIn_k tie_wsX8_solveUntil tie_wsX3_solution (by decide +kernel)
set_option maxRecDepth 20000 in
theorem gX8_solveUntil_X3_solution : GoodIn wsX8_solveUntil (wsV RX8 89 RX3 yX3_solution wsX3_solution) := goodIn_app (goodIn_k (is := [1018, 1019, 1020, 70]) tie_wsX8_solveUntil rfl (by decide +kernel)) ggX8_solveUntil_X3_solution
set_option maxRecDepth 20000 in
theorem ggX8_solveUntil_X3_determinant : GoodIn wsX8_solveUntil wsX3_determinant := goodIn_k tie_wsX8_solveUntil tie_wsX3_determinant (by decide +kernel)
set_option maxRecDepth 20000 in
theorem gX8_solveUntil_X3_determinant : GoodIn wsX8_solveUntil (wsV RX8 93 RX3 yX3_determinant wsX3_determinant) := goodIn_app (goodIn_k (is := [1022, 1023, 1024, 70]) tie_wsX8_solveUntil rfl (by decide +kernel)) ggX8_solveUntil_X3_determinant
set_option maxRecDepth 20000 in
theorem ggX8_solveUntil_X8_put : GoodIn wsX8_solveUntil wsX8_put := goodIn_k tie_wsX8_solveUntil tie_wsX8_put (by decide +kernel)
set_option maxRecDepth 20000 in
theorem gX8_solveUntil_X8_put : GoodIn wsX8_solveUntil (wsV RX8 64 RX8 yX8_put wsX8_put) := goodIn_app (goodIn_k (is := [464, 465, 466, 27]) tie_wsX8_solveUntil rfl (by decide +kernel)) ggX8_solveUntil_X8_put
theorem dX8_solveUntil_0 : decode cX8_solveUntil 0 = .ok (.aload_n 0, 1) := by decide +kernel
theorem dX8_solveUntil_1 : decode cX8_solveUntil 1 = .ok (.getfield 31, 3) := by decide +kernel
theorem dX8_solveUntil_4 : decode cX8_solveUntil 4 = .ok (.iload_n 1, 1) := by decide +kernel
theorem dX8_solveUntil_5 : decode cX8_solveUntil 5 = .ok (.iload_n 2, 1) := by decide +kernel
theorem dX8_solveUntil_6 : decode cX8_solveUntil 6 = .ok (.invokevirtual 68, 3) := by decide +kernel
theorem dX8_solveUntil_9 : decode cX8_solveUntil 9 = .ok (.iload_n 2, 1) := by decide +kernel
theorem dX8_solveUntil_10 : decode cX8_solveUntil 10 = .ok (.iconst (-1), 1) := by decide +kernel
theorem dX8_solveUntil_11 : decode cX8_solveUntil 11 = .ok (.ixor, 1) := by decide +kernel
theorem dX8_solveUntil_12 : decode cX8_solveUntil 12 = .ok (.iand, 1) := by decide +kernel
theorem dX8_solveUntil_13 : decode cX8_solveUntil 13 = .ok (.istore_n 3, 1) := by decide +kernel
theorem dX8_solveUntil_14 : decode cX8_solveUntil 14 = .ok (.aload_n 0, 1) := by decide +kernel
theorem dX8_solveUntil_15 : decode cX8_solveUntil 15 = .ok (.getfield 12, 3) := by decide +kernel
theorem dX8_solveUntil_18 : decode cX8_solveUntil 18 = .ok (.invokevirtual 71, 3) := by decide +kernel
theorem dX8_solveUntil_21 : decode cX8_solveUntil 21 = .ok (.iconst 0, 1) := by decide +kernel
theorem dX8_solveUntil_22 : decode cX8_solveUntil 22 = .ok (.istore 4, 2) := by decide +kernel
theorem dX8_solveUntil_24 : decode cX8_solveUntil 24 = .ok (.iload 4, 2) := by decide +kernel
theorem dX8_solveUntil_26 : decode cX8_solveUntil 26 = .ok (.bipush 8, 2) := by decide +kernel
theorem dX8_solveUntil_28 : decode cX8_solveUntil 28 = .ok (.if_icmp .ge 46, 3) := by decide +kernel
theorem dX8_solveUntil_31 : decode cX8_solveUntil 31 = .ok (.iload_n 3, 1) := by decide +kernel
theorem dX8_solveUntil_32 : decode cX8_solveUntil 32 = .ok (.iload 4, 2) := by decide +kernel
theorem dX8_solveUntil_34 : decode cX8_solveUntil 34 = .ok (.invokestatic 74, 3) := by decide +kernel
theorem dX8_solveUntil_37 : decode cX8_solveUntil 37 = .ok (.ifCond .eq 12, 3) := by decide +kernel
theorem dX8_solveUntil_40 : decode cX8_solveUntil 40 = .ok (.aload_n 0, 1) := by decide +kernel
theorem dX8_solveUntil_41 : decode cX8_solveUntil 41 = .ok (.iload 4, 2) := by decide +kernel
theorem dX8_solveUntil_43 : decode cX8_solveUntil 43 = .ok (.invokevirtual 78, 3) := by decide +kernel
theorem dX8_solveUntil_46 : decode cX8_solveUntil 46 = .ok (.goto 22, 3) := by decide +kernel
theorem dX8_solveUntil_49 : decode cX8_solveUntil 49 = .ok (.iload_n 2, 1) := by decide +kernel
theorem dX8_solveUntil_50 : decode cX8_solveUntil 50 = .ok (.iload 4, 2) := by decide +kernel
theorem dX8_solveUntil_52 : decode cX8_solveUntil 52 = .ok (.invokestatic 74, 3) := by decide +kernel
theorem dX8_solveUntil_55 : decode cX8_solveUntil 55 = .ok (.ifCond .eq 13, 3) := by decide +kernel
theorem dX8_solveUntil_58 : decode cX8_solveUntil 58 = .ok (.aload_n 0, 1) := by decide +kernel
theorem dX8_solveUntil_59 : decode cX8_solveUntil 59 = .ok (.getfield 12, 3) := by decide +kernel
theorem dX8_solveUntil_62 : decode cX8_solveUntil 62 = .ok (.iload 4, 2) := by decide +kernel
theorem dX8_solveUntil_64 : decode cX8_solveUntil 64 = .ok (.lconst 1, 1) := by decide +kernel
theorem dX8_solveUntil_65 : decode cX8_solveUntil 65 = .ok (.invokevirtual 82, 3) := by decide +kernel
theorem dX8_solveUntil_68 : decode cX8_solveUntil 68 = .ok (.iinc 4 1, 3) := by decide +kernel
theorem dX8_solveUntil_71 : decode cX8_solveUntil 71 = .ok (.goto (-47), 3) := by decide +kernel
theorem dX8_solveUntil_74 : decode cX8_solveUntil 74 = .ok (.aload_n 0, 1) := by decide +kernel
theorem dX8_solveUntil_75 : decode cX8_solveUntil 75 = .ok (.getfield 12, 3) := by decide +kernel
theorem dX8_solveUntil_78 : decode cX8_solveUntil 78 = .ok (.invokevirtual 86, 3) := by decide +kernel
theorem dX8_solveUntil_81 : decode cX8_solveUntil 81 = .ok (.iconst 0, 1) := by decide +kernel
theorem dX8_solveUntil_82 : decode cX8_solveUntil 82 = .ok (.istore 4, 2) := by decide +kernel
theorem dX8_solveUntil_84 : decode cX8_solveUntil 84 = .ok (.iload 4, 2) := by decide +kernel
theorem dX8_solveUntil_86 : decode cX8_solveUntil 86 = .ok (.bipush 8, 2) := by decide +kernel
theorem dX8_solveUntil_88 : decode cX8_solveUntil 88 = .ok (.if_icmp .ge 31, 3) := by decide +kernel
theorem dX8_solveUntil_91 : decode cX8_solveUntil 91 = .ok (.aload_n 0, 1) := by decide +kernel
theorem dX8_solveUntil_92 : decode cX8_solveUntil 92 = .ok (.iload 4, 2) := by decide +kernel
theorem dX8_solveUntil_94 : decode cX8_solveUntil 94 = .ok (.aload_n 0, 1) := by decide +kernel
theorem dX8_solveUntil_95 : decode cX8_solveUntil 95 = .ok (.getfield 12, 3) := by decide +kernel
theorem dX8_solveUntil_98 : decode cX8_solveUntil 98 = .ok (.iload 4, 2) := by decide +kernel
theorem dX8_solveUntil_100 : decode cX8_solveUntil 100 = .ok (.invokevirtual 89, 3) := by decide +kernel
theorem dX8_solveUntil_103 : decode cX8_solveUntil 103 = .ok (.aload_n 0, 1) := by decide +kernel
theorem dX8_solveUntil_104 : decode cX8_solveUntil 104 = .ok (.getfield 12, 3) := by decide +kernel
theorem dX8_solveUntil_107 : decode cX8_solveUntil 107 = .ok (.invokevirtual 93, 3) := by decide +kernel
theorem dX8_solveUntil_110 : decode cX8_solveUntil 110 = .ok (.invokevirtual 64, 3) := by decide +kernel
theorem dX8_solveUntil_113 : decode cX8_solveUntil 113 = .ok (.iinc 4 1, 3) := by decide +kernel
theorem dX8_solveUntil_116 : decode cX8_solveUntil 116 = .ok (.goto (-32), 3) := by decide +kernel
theorem dX8_solveUntil_119 : decode cX8_solveUntil 119 = .ok (.return_, 1) := by decide +kernel
set_option maxRecDepth 20000 in
theorem ggX8_complement_X8_put : GoodIn wsX8_complement wsX8_put := goodIn_k tie_wsX8_complement tie_wsX8_put (by decide +kernel)
set_option maxRecDepth 20000 in
theorem gX8_complement_X8_put : GoodIn wsX8_complement (wsV RX8 64 RX8 yX8_put wsX8_put) := goodIn_app (goodIn_k (is := [464, 465, 466, 27]) tie_wsX8_complement rfl (by decide +kernel)) ggX8_complement_X8_put
theorem dX8_complement_0 : decode cX8_complement 0 = .ok (.iconst 0, 1) := by decide +kernel
theorem dX8_complement_1 : decode cX8_complement 1 = .ok (.istore_n 1, 1) := by decide +kernel
theorem dX8_complement_2 : decode cX8_complement 2 = .ok (.iload_n 1, 1) := by decide +kernel
theorem dX8_complement_3 : decode cX8_complement 3 = .ok (.bipush 8, 2) := by decide +kernel
theorem dX8_complement_5 : decode cX8_complement 5 = .ok (.if_icmp .ge 33, 3) := by decide +kernel
theorem dX8_complement_8 : decode cX8_complement 8 = .ok (.aload_n 0, 1) := by decide +kernel
theorem dX8_complement_9 : decode cX8_complement 9 = .ok (.iload_n 1, 1) := by decide +kernel
theorem dX8_complement_10 : decode cX8_complement 10 = .ok (.aload_n 0, 1) := by decide +kernel
theorem dX8_complement_11 : decode cX8_complement 11 = .ok (.getfield 22, 3) := by decide +kernel
theorem dX8_complement_14 : decode cX8_complement 14 = .ok (.iload_n 1, 1) := by decide +kernel
theorem dX8_complement_15 : decode cX8_complement 15 = .ok (.laload, 1) := by decide +kernel
theorem dX8_complement_16 : decode cX8_complement 16 = .ok (.aload_n 0, 1) := by decide +kernel
theorem dX8_complement_17 : decode cX8_complement 17 = .ok (.getfield 18, 3) := by decide +kernel
theorem dX8_complement_20 : decode cX8_complement 20 = .ok (.iload_n 1, 1) := by decide +kernel
theorem dX8_complement_21 : decode cX8_complement 21 = .ok (.laload, 1) := by decide +kernel
theorem dX8_complement_22 : decode cX8_complement 22 = .ok (.lsub, 1) := by decide +kernel
theorem dX8_complement_23 : decode cX8_complement 23 = .ok (.aload_n 0, 1) := by decide +kernel
theorem dX8_complement_24 : decode cX8_complement 24 = .ok (.getfield 22, 3) := by decide +kernel
theorem dX8_complement_27 : decode cX8_complement 27 = .ok (.iload_n 1, 1) := by decide +kernel
theorem dX8_complement_28 : decode cX8_complement 28 = .ok (.laload, 1) := by decide +kernel
theorem dX8_complement_29 : decode cX8_complement 29 = .ok (.invokevirtual 64, 3) := by decide +kernel
theorem dX8_complement_32 : decode cX8_complement 32 = .ok (.iinc 1 1, 3) := by decide +kernel
theorem dX8_complement_35 : decode cX8_complement 35 = .ok (.goto (-33), 3) := by decide +kernel
theorem dX8_complement_38 : decode cX8_complement 38 = .ok (.return_, 1) := by decide +kernel
set_option maxRecDepth 20000 in
theorem ggX8_countWithin_X2_commonDivisors : GoodIn wsX8_countWithin wsX2_commonDivisors := goodIn_k tie_wsX8_countWithin tie_wsX2_commonDivisors (by decide +kernel)
set_option maxRecDepth 20000 in
theorem gX8_countWithin_X2_commonDivisors : GoodIn wsX8_countWithin (wsV RX8 50 RX2 yX2_commonDivisors wsX2_commonDivisors) := goodIn_app (goodIn_k (is := [946, 947, 948, 14]) tie_wsX8_countWithin rfl (by decide +kernel)) ggX8_countWithin_X2_commonDivisors
set_option maxRecDepth 20000 in
theorem ggX8_countWithin_X11_contains : GoodIn wsX8_countWithin wsX11_contains := goodIn_k tie_wsX8_countWithin tie_wsX11_contains (by decide +kernel)
set_option maxRecDepth 20000 in
theorem gX8_countWithin_X11_contains_n74 : GoodIn wsX8_countWithin (wsX11_contains) := ggX8_countWithin_X11_contains
set_option maxRecDepth 20000 in
theorem ggX8_countWithin_X8_countBefore : GoodIn wsX8_countWithin wsX8_countBefore := goodIn_k tie_wsX8_countWithin tie_wsX8_countBefore (by decide +kernel)
set_option maxRecDepth 20000 in
theorem gX8_countWithin_X8_countBefore : GoodIn wsX8_countWithin (wsV RX8 96 RX8 yX8_countBefore wsX8_countBefore) := goodIn_app (goodIn_k (is := [1034, 1035, 1036, 27]) tie_wsX8_countWithin rfl (by decide +kernel)) ggX8_countWithin_X8_countBefore
set_option maxRecDepth 20000 in
theorem ggX8_countWithin_X8_put : GoodIn wsX8_countWithin wsX8_put := goodIn_k tie_wsX8_countWithin tie_wsX8_put (by decide +kernel)
set_option maxRecDepth 20000 in
theorem gX8_countWithin_X8_put : GoodIn wsX8_countWithin (wsV RX8 64 RX8 yX8_put wsX8_put) := goodIn_app (goodIn_k (is := [464, 465, 466, 27]) tie_wsX8_countWithin rfl (by decide +kernel)) ggX8_countWithin_X8_put
theorem dX8_countWithin_0 : decode cX8_countWithin 0 = .ok (.aload_n 0, 1) := by decide +kernel
theorem dX8_countWithin_1 : decode cX8_countWithin 1 = .ok (.getfield 31, 3) := by decide +kernel
theorem dX8_countWithin_4 : decode cX8_countWithin 4 = .ok (.invokevirtual 50, 3) := by decide +kernel
theorem dX8_countWithin_7 : decode cX8_countWithin 7 = .ok (.lstore 4, 2) := by decide +kernel
theorem dX8_countWithin_9 : decode cX8_countWithin 9 = .ok (.lconst 1, 1) := by decide +kernel
theorem dX8_countWithin_10 : decode cX8_countWithin 10 = .ok (.lstore 6, 2) := by decide +kernel
theorem dX8_countWithin_12 : decode cX8_countWithin 12 = .ok (.iconst 0, 1) := by decide +kernel
theorem dX8_countWithin_13 : decode cX8_countWithin 13 = .ok (.istore 8, 2) := by decide +kernel
theorem dX8_countWithin_15 : decode cX8_countWithin 15 = .ok (.iload 8, 2) := by decide +kernel
theorem dX8_countWithin_17 : decode cX8_countWithin 17 = .ok (.bipush 8, 2) := by decide +kernel
theorem dX8_countWithin_19 : decode cX8_countWithin 19 = .ok (.if_icmp .ge 30, 3) := by decide +kernel
theorem dX8_countWithin_22 : decode cX8_countWithin 22 = .ok (.aload_n 0, 1) := by decide +kernel
theorem dX8_countWithin_23 : decode cX8_countWithin 23 = .ok (.getfield 25, 3) := by decide +kernel
theorem dX8_countWithin_26 : decode cX8_countWithin 26 = .ok (.iload 8, 2) := by decide +kernel
theorem dX8_countWithin_28 : decode cX8_countWithin 28 = .ok (.iload_n 2, 1) := by decide +kernel
theorem dX8_countWithin_29 : decode cX8_countWithin 29 = .ok (.iload 8, 2) := by decide +kernel
theorem dX8_countWithin_31 : decode cX8_countWithin 31 = .ok (.invokestatic 74, 3) := by decide +kernel
theorem dX8_countWithin_34 : decode cX8_countWithin 34 = .ok (.ifCond .eq 7, 3) := by decide +kernel
theorem dX8_countWithin_37 : decode cX8_countWithin 37 = .ok (.lconst 1, 1) := by decide +kernel
theorem dX8_countWithin_38 : decode cX8_countWithin 38 = .ok (.goto 4, 3) := by decide +kernel
theorem dX8_countWithin_41 : decode cX8_countWithin 41 = .ok (.lconst 0, 1) := by decide +kernel
theorem dX8_countWithin_42 : decode cX8_countWithin 42 = .ok (.lastore, 1) := by decide +kernel
theorem dX8_countWithin_43 : decode cX8_countWithin 43 = .ok (.iinc 8 1, 3) := by decide +kernel
theorem dX8_countWithin_46 : decode cX8_countWithin 46 = .ok (.goto (-31), 3) := by decide +kernel
theorem dX8_countWithin_49 : decode cX8_countWithin 49 = .ok (.iconst 0, 1) := by decide +kernel
theorem dX8_countWithin_50 : decode cX8_countWithin 50 = .ok (.istore 8, 2) := by decide +kernel
theorem dX8_countWithin_52 : decode cX8_countWithin 52 = .ok (.iload 8, 2) := by decide +kernel
theorem dX8_countWithin_54 : decode cX8_countWithin 54 = .ok (.iload_n 3, 1) := by decide +kernel
theorem dX8_countWithin_55 : decode cX8_countWithin 55 = .ok (.if_icmp .ge 132, 3) := by decide +kernel
theorem dX8_countWithin_58 : decode cX8_countWithin 58 = .ok (.iload 8, 2) := by decide +kernel
theorem dX8_countWithin_60 : decode cX8_countWithin 60 = .ok (.bipush 6, 2) := by decide +kernel
theorem dX8_countWithin_62 : decode cX8_countWithin 62 = .ok (.if_icmp .ge 125, 3) := by decide +kernel
theorem dX8_countWithin_65 : decode cX8_countWithin 65 = .ok (.lload 6, 2) := by decide +kernel
theorem dX8_countWithin_67 : decode cX8_countWithin 67 = .ok (.lload 4, 2) := by decide +kernel
theorem dX8_countWithin_69 : decode cX8_countWithin 69 = .ok (.lmul, 1) := by decide +kernel
theorem dX8_countWithin_70 : decode cX8_countWithin 70 = .ok (.lstore 6, 2) := by decide +kernel
theorem dX8_countWithin_72 : decode cX8_countWithin 72 = .ok (.iconst 0, 1) := by decide +kernel
theorem dX8_countWithin_73 : decode cX8_countWithin 73 = .ok (.istore 9, 2) := by decide +kernel
theorem dX8_countWithin_75 : decode cX8_countWithin 75 = .ok (.iload 9, 2) := by decide +kernel
theorem dX8_countWithin_77 : decode cX8_countWithin 77 = .ok (.bipush 8, 2) := by decide +kernel
theorem dX8_countWithin_79 : decode cX8_countWithin 79 = .ok (.if_icmp .ge 72, 3) := by decide +kernel
theorem dX8_countWithin_82 : decode cX8_countWithin 82 = .ok (.iload_n 1, 1) := by decide +kernel
theorem dX8_countWithin_83 : decode cX8_countWithin 83 = .ok (.iload 9, 2) := by decide +kernel
theorem dX8_countWithin_85 : decode cX8_countWithin 85 = .ok (.invokestatic 74, 3) := by decide +kernel
theorem dX8_countWithin_88 : decode cX8_countWithin 88 = .ok (.ifCond .eq 16, 3) := by decide +kernel
theorem dX8_countWithin_91 : decode cX8_countWithin 91 = .ok (.iload_n 2, 1) := by decide +kernel
theorem dX8_countWithin_92 : decode cX8_countWithin 92 = .ok (.iload 9, 2) := by decide +kernel
theorem dX8_countWithin_94 : decode cX8_countWithin 94 = .ok (.invokestatic 74, 3) := by decide +kernel
theorem dX8_countWithin_97 : decode cX8_countWithin 97 = .ok (.ifCond .ne 7, 3) := by decide +kernel
theorem dX8_countWithin_100 : decode cX8_countWithin 100 = .ok (.iconst 1, 1) := by decide +kernel
theorem dX8_countWithin_101 : decode cX8_countWithin 101 = .ok (.goto 4, 3) := by decide +kernel
theorem dX8_countWithin_104 : decode cX8_countWithin 104 = .ok (.iconst 0, 1) := by decide +kernel
theorem dX8_countWithin_105 : decode cX8_countWithin 105 = .ok (.istore 10, 2) := by decide +kernel
theorem dX8_countWithin_107 : decode cX8_countWithin 107 = .ok (.aload_n 0, 1) := by decide +kernel
theorem dX8_countWithin_108 : decode cX8_countWithin 108 = .ok (.getfield 28, 3) := by decide +kernel
theorem dX8_countWithin_111 : decode cX8_countWithin 111 = .ok (.iload 9, 2) := by decide +kernel
theorem dX8_countWithin_113 : decode cX8_countWithin 113 = .ok (.iload 10, 2) := by decide +kernel
theorem dX8_countWithin_115 : decode cX8_countWithin 115 = .ok (.ifCond .eq 14, 3) := by decide +kernel
theorem dX8_countWithin_118 : decode cX8_countWithin 118 = .ok (.aload_n 0, 1) := by decide +kernel
theorem dX8_countWithin_119 : decode cX8_countWithin 119 = .ok (.iload 9, 2) := by decide +kernel
theorem dX8_countWithin_121 : decode cX8_countWithin 121 = .ok (.lload 4, 2) := by decide +kernel
theorem dX8_countWithin_123 : decode cX8_countWithin 123 = .ok (.invokevirtual 96, 3) := by decide +kernel
theorem dX8_countWithin_126 : decode cX8_countWithin 126 = .ok (.goto 18, 3) := by decide +kernel
theorem dX8_countWithin_129 : decode cX8_countWithin 129 = .ok (.iload_n 2, 1) := by decide +kernel
theorem dX8_countWithin_130 : decode cX8_countWithin 130 = .ok (.iload 9, 2) := by decide +kernel
theorem dX8_countWithin_132 : decode cX8_countWithin 132 = .ok (.invokestatic 74, 3) := by decide +kernel
theorem dX8_countWithin_135 : decode cX8_countWithin 135 = .ok (.ifCond .eq 8, 3) := by decide +kernel
theorem dX8_countWithin_138 : decode cX8_countWithin 138 = .ok (.lload 6, 2) := by decide +kernel
theorem dX8_countWithin_140 : decode cX8_countWithin 140 = .ok (.goto 4, 3) := by decide +kernel
theorem dX8_countWithin_143 : decode cX8_countWithin 143 = .ok (.lconst 0, 1) := by decide +kernel
theorem dX8_countWithin_144 : decode cX8_countWithin 144 = .ok (.lastore, 1) := by decide +kernel
theorem dX8_countWithin_145 : decode cX8_countWithin 145 = .ok (.iinc 9 1, 3) := by decide +kernel
theorem dX8_countWithin_148 : decode cX8_countWithin 148 = .ok (.goto (-73), 3) := by decide +kernel
theorem dX8_countWithin_151 : decode cX8_countWithin 151 = .ok (.iconst 0, 1) := by decide +kernel
theorem dX8_countWithin_152 : decode cX8_countWithin 152 = .ok (.istore 9, 2) := by decide +kernel
theorem dX8_countWithin_154 : decode cX8_countWithin 154 = .ok (.iload 9, 2) := by decide +kernel
theorem dX8_countWithin_156 : decode cX8_countWithin 156 = .ok (.bipush 8, 2) := by decide +kernel
theorem dX8_countWithin_158 : decode cX8_countWithin 158 = .ok (.if_icmp .ge 23, 3) := by decide +kernel
theorem dX8_countWithin_161 : decode cX8_countWithin 161 = .ok (.aload_n 0, 1) := by decide +kernel
theorem dX8_countWithin_162 : decode cX8_countWithin 162 = .ok (.getfield 25, 3) := by decide +kernel
theorem dX8_countWithin_165 : decode cX8_countWithin 165 = .ok (.iload 9, 2) := by decide +kernel
theorem dX8_countWithin_167 : decode cX8_countWithin 167 = .ok (.aload_n 0, 1) := by decide +kernel
theorem dX8_countWithin_168 : decode cX8_countWithin 168 = .ok (.getfield 28, 3) := by decide +kernel
theorem dX8_countWithin_171 : decode cX8_countWithin 171 = .ok (.iload 9, 2) := by decide +kernel
theorem dX8_countWithin_173 : decode cX8_countWithin 173 = .ok (.laload, 1) := by decide +kernel
theorem dX8_countWithin_174 : decode cX8_countWithin 174 = .ok (.lastore, 1) := by decide +kernel
theorem dX8_countWithin_175 : decode cX8_countWithin 175 = .ok (.iinc 9 1, 3) := by decide +kernel
theorem dX8_countWithin_178 : decode cX8_countWithin 178 = .ok (.goto (-24), 3) := by decide +kernel
theorem dX8_countWithin_181 : decode cX8_countWithin 181 = .ok (.iinc 8 1, 3) := by decide +kernel
theorem dX8_countWithin_184 : decode cX8_countWithin 184 = .ok (.goto (-132), 3) := by decide +kernel
theorem dX8_countWithin_187 : decode cX8_countWithin 187 = .ok (.iconst 0, 1) := by decide +kernel
theorem dX8_countWithin_188 : decode cX8_countWithin 188 = .ok (.istore 8, 2) := by decide +kernel
theorem dX8_countWithin_190 : decode cX8_countWithin 190 = .ok (.iload 8, 2) := by decide +kernel
theorem dX8_countWithin_192 : decode cX8_countWithin 192 = .ok (.bipush 8, 2) := by decide +kernel
theorem dX8_countWithin_194 : decode cX8_countWithin 194 = .ok (.if_icmp .ge 24, 3) := by decide +kernel
theorem dX8_countWithin_197 : decode cX8_countWithin 197 = .ok (.aload_n 0, 1) := by decide +kernel
theorem dX8_countWithin_198 : decode cX8_countWithin 198 = .ok (.iload 8, 2) := by decide +kernel
theorem dX8_countWithin_200 : decode cX8_countWithin 200 = .ok (.aload_n 0, 1) := by decide +kernel
theorem dX8_countWithin_201 : decode cX8_countWithin 201 = .ok (.getfield 25, 3) := by decide +kernel
theorem dX8_countWithin_204 : decode cX8_countWithin 204 = .ok (.iload 8, 2) := by decide +kernel
theorem dX8_countWithin_206 : decode cX8_countWithin 206 = .ok (.laload, 1) := by decide +kernel
theorem dX8_countWithin_207 : decode cX8_countWithin 207 = .ok (.lload 6, 2) := by decide +kernel
theorem dX8_countWithin_209 : decode cX8_countWithin 209 = .ok (.invokevirtual 64, 3) := by decide +kernel
theorem dX8_countWithin_212 : decode cX8_countWithin 212 = .ok (.iinc 8 1, 3) := by decide +kernel
theorem dX8_countWithin_215 : decode cX8_countWithin 215 = .ok (.goto (-25), 3) := by decide +kernel
theorem dX8_countWithin_218 : decode cX8_countWithin 218 = .ok (.return_, 1) := by decide +kernel
set_option maxRecDepth 20000 in
theorem ggX8_countBefore_X2_divisorOf : GoodIn wsX8_countBefore wsX2_divisorOf := goodIn_k tie_wsX8_countBefore tie_wsX2_divisorOf (by decide +kernel)
set_option maxRecDepth 20000 in
theorem gX8_countBefore_X2_divisorOf : GoodIn wsX8_countBefore (wsV RX8 60 RX2 yX2_divisorOf wsX2_divisorOf) := goodIn_app (goodIn_k (is := [463, 404, 405, 14]) tie_wsX8_countBefore rfl (by decide +kernel)) ggX8_countBefore_X2_divisorOf
set_option maxRecDepth 20000 in
theorem ggX8_countBefore_X2_stepWeight : GoodIn wsX8_countBefore wsX2_stepWeight := goodIn_k tie_wsX8_countBefore tie_wsX2_stepWeight (by decide +kernel)
set_option maxRecDepth 20000 in
theorem gX8_countBefore_X2_stepWeight : GoodIn wsX8_countBefore (wsV RX8 100 RX2 yX2_stepWeight wsX2_stepWeight) := goodIn_app (goodIn_k (is := [994, 995, 996, 14]) tie_wsX8_countBefore rfl (by decide +kernel)) ggX8_countBefore_X2_stepWeight
theorem dX8_countBefore_0 : decode cX8_countBefore 0 = .ok (.aload_n 0, 1) := by decide +kernel
theorem dX8_countBefore_1 : decode cX8_countBefore 1 = .ok (.getfield 31, 3) := by decide +kernel
theorem dX8_countBefore_4 : decode cX8_countBefore 4 = .ok (.iload_n 1, 1) := by decide +kernel
theorem dX8_countBefore_5 : decode cX8_countBefore 5 = .ok (.invokevirtual 60, 3) := by decide +kernel
theorem dX8_countBefore_8 : decode cX8_countBefore 8 = .ok (.istore 4, 2) := by decide +kernel
theorem dX8_countBefore_10 : decode cX8_countBefore 10 = .ok (.iload 4, 2) := by decide +kernel
theorem dX8_countBefore_12 : decode cX8_countBefore 12 = .ok (.ifCond .ne 5, 3) := by decide +kernel
theorem dX8_countBefore_15 : decode cX8_countBefore 15 = .ok (.lconst 0, 1) := by decide +kernel
theorem dX8_countBefore_16 : decode cX8_countBefore 16 = .ok (.lreturn, 1) := by decide +kernel
theorem dX8_countBefore_17 : decode cX8_countBefore 17 = .ok (.lconst 0, 1) := by decide +kernel
theorem dX8_countBefore_18 : decode cX8_countBefore 18 = .ok (.lstore 5, 2) := by decide +kernel
theorem dX8_countBefore_20 : decode cX8_countBefore 20 = .ok (.iconst 0, 1) := by decide +kernel
theorem dX8_countBefore_21 : decode cX8_countBefore 21 = .ok (.istore 7, 2) := by decide +kernel
theorem dX8_countBefore_23 : decode cX8_countBefore 23 = .ok (.iload 7, 2) := by decide +kernel
theorem dX8_countBefore_25 : decode cX8_countBefore 25 = .ok (.bipush 8, 2) := by decide +kernel
theorem dX8_countBefore_27 : decode cX8_countBefore 27 = .ok (.if_icmp .ge 33, 3) := by decide +kernel
theorem dX8_countBefore_30 : decode cX8_countBefore 30 = .ok (.lload 5, 2) := by decide +kernel
theorem dX8_countBefore_32 : decode cX8_countBefore 32 = .ok (.aload_n 0, 1) := by decide +kernel
theorem dX8_countBefore_33 : decode cX8_countBefore 33 = .ok (.getfield 31, 3) := by decide +kernel
theorem dX8_countBefore_36 : decode cX8_countBefore 36 = .ok (.iload_n 1, 1) := by decide +kernel
theorem dX8_countBefore_37 : decode cX8_countBefore 37 = .ok (.iload 7, 2) := by decide +kernel
theorem dX8_countBefore_39 : decode cX8_countBefore 39 = .ok (.invokevirtual 100, 3) := by decide +kernel
theorem dX8_countBefore_42 : decode cX8_countBefore 42 = .ok (.i2l, 1) := by decide +kernel
theorem dX8_countBefore_43 : decode cX8_countBefore 43 = .ok (.aload_n 0, 1) := by decide +kernel
theorem dX8_countBefore_44 : decode cX8_countBefore 44 = .ok (.getfield 25, 3) := by decide +kernel
theorem dX8_countBefore_47 : decode cX8_countBefore 47 = .ok (.iload 7, 2) := by decide +kernel
theorem dX8_countBefore_49 : decode cX8_countBefore 49 = .ok (.laload, 1) := by decide +kernel
theorem dX8_countBefore_50 : decode cX8_countBefore 50 = .ok (.lmul, 1) := by decide +kernel
theorem dX8_countBefore_51 : decode cX8_countBefore 51 = .ok (.ladd, 1) := by decide +kernel
theorem dX8_countBefore_52 : decode cX8_countBefore 52 = .ok (.lstore 5, 2) := by decide +kernel
theorem dX8_countBefore_54 : decode cX8_countBefore 54 = .ok (.iinc 7 1, 3) := by decide +kernel
theorem dX8_countBefore_57 : decode cX8_countBefore 57 = .ok (.goto (-34), 3) := by decide +kernel
theorem dX8_countBefore_60 : decode cX8_countBefore 60 = .ok (.lload_n 2, 1) := by decide +kernel
theorem dX8_countBefore_61 : decode cX8_countBefore 61 = .ok (.iload 4, 2) := by decide +kernel
theorem dX8_countBefore_63 : decode cX8_countBefore 63 = .ok (.i2l, 1) := by decide +kernel
theorem dX8_countBefore_64 : decode cX8_countBefore 64 = .ok (.ldiv, 1) := by decide +kernel
theorem dX8_countBefore_65 : decode cX8_countBefore 65 = .ok (.lload 5, 2) := by decide +kernel
theorem dX8_countBefore_67 : decode cX8_countBefore 67 = .ok (.lmul, 1) := by decide +kernel
theorem dX8_countBefore_68 : decode cX8_countBefore 68 = .ok (.lreturn, 1) := by decide +kernel
set_option maxRecDepth 20000 in
theorem ggX8_solveExpected_X2_all : GoodIn wsX8_solveExpected wsX2_all := goodIn_k tie_wsX8_solveExpected tie_wsX2_all (by decide +kernel)
set_option maxRecDepth 20000 in
theorem gX8_solveExpected_X2_all : GoodIn wsX8_solveExpected (wsV RX8 103 RX2 yX2_all wsX2_all) := goodIn_app (goodIn_k (is := [1056, 357, 358, 14]) tie_wsX8_solveExpected rfl (by decide +kernel)) ggX8_solveExpected_X2_all
set_option maxRecDepth 20000 in
theorem ggX8_solveExpected_X2_surelyUntil : GoodIn wsX8_solveExpected wsX2_surelyUntil := goodIn_k tie_wsX8_solveExpected tie_wsX2_surelyUntil (by decide +kernel)
set_option maxRecDepth 20000 in
theorem gX8_solveExpected_X2_surelyUntil : GoodIn wsX8_solveExpected (wsV RX8 107 RX2 yX2_surelyUntil wsX2_surelyUntil) := goodIn_app (goodIn_k (is := [1057, 1058, 1059, 14]) tie_wsX8_solveExpected rfl (by decide +kernel)) ggX8_solveExpected_X2_surelyUntil
set_option maxRecDepth 20000 in
theorem ggX8_solveExpected_X3_clear : GoodIn wsX8_solveExpected wsX3_clear := goodIn_k tie_wsX8_solveExpected tie_wsX3_clear (by decide +kernel)
set_option maxRecDepth 20000 in
theorem gX8_solveExpected_X3_clear : GoodIn wsX8_solveExpected (wsV RX8 71 RX3 yX3_clear wsX3_clear) := goodIn_app (goodIn_k (is := [975, 976, 977, 70]) tie_wsX8_solveExpected rfl (by decide +kernel)) ggX8_solveExpected_X3_clear
set_option maxRecDepth 20000 in
theorem ggX8_solveExpected_X11_contains : GoodIn wsX8_solveExpected wsX11_contains := goodIn_k tie_wsX8_solveExpected tie_wsX11_contains (by decide +kernel)
set_option maxRecDepth 20000 in
theorem gX8_solveExpected_X11_contains_n74 : GoodIn wsX8_solveExpected (wsX11_contains) := ggX8_solveExpected_X11_contains
set_option maxRecDepth 20000 in
theorem ggX8_solveExpected_X8_balance : GoodIn wsX8_solveExpected wsX8_balance := goodIn_k tie_wsX8_solveExpected tie_wsX8_balance (by decide +kernel)
set_option maxRecDepth 20000 in
theorem gX8_solveExpected_X8_balance : GoodIn wsX8_solveExpected (wsV RX8 78 RX8 yX8_balance wsX8_balance) := goodIn_app (goodIn_k (is := [987, 988, 989, 27]) tie_wsX8_solveExpected rfl (by decide +kernel)) ggX8_solveExpected_X8_balance
set_option maxRecDepth 20000 in
theorem ggX8_solveExpected_X2_divisorOf : GoodIn wsX8_solveExpected wsX2_divisorOf := goodIn_k tie_wsX8_solveExpected tie_wsX2_divisorOf (by decide +kernel)
set_option maxRecDepth 20000 in
theorem gX8_solveExpected_X2_divisorOf : GoodIn wsX8_solveExpected (wsV RX8 60 RX2 yX2_divisorOf wsX2_divisorOf) := goodIn_app (goodIn_k (is := [463, 404, 405, 14]) tie_wsX8_solveExpected rfl (by decide +kernel)) ggX8_solveExpected_X2_divisorOf
set_option maxRecDepth 20000 in
theorem ggX8_solveExpected_X2_rewardOf : GoodIn wsX8_solveExpected wsX2_rewardOf := goodIn_k tie_wsX8_solveExpected tie_wsX2_rewardOf (by decide +kernel)
set_option maxRecDepth 20000 in
theorem gX8_solveExpected_X2_rewardOf : GoodIn wsX8_solveExpected (wsV RX8 110 RX2 yX2_rewardOf wsX2_rewardOf) := goodIn_app (goodIn_k (is := [1062, 286, 287, 14]) tie_wsX8_solveExpected rfl (by decide +kernel)) ggX8_solveExpected_X2_rewardOf
set_option maxRecDepth 20000 in
theorem ggX8_solveExpected_X3_putRight : GoodIn wsX8_solveExpected wsX3_putRight := goodIn_k tie_wsX8_solveExpected tie_wsX3_putRight (by decide +kernel)
set_option maxRecDepth 20000 in
theorem gX8_solveExpected_X3_putRight : GoodIn wsX8_solveExpected (wsV RX8 82 RX3 yX3_putRight wsX3_putRight) := goodIn_app (goodIn_k (is := [1006, 1007, 1008, 70]) tie_wsX8_solveExpected rfl (by decide +kernel)) ggX8_solveExpected_X3_putRight
set_option maxRecDepth 20000 in
theorem ggX8_solveExpected_X3_solve : GoodIn wsX8_solveExpected wsX3_solve := goodIn_k tie_wsX8_solveExpected tie_wsX3_solve (by decide +kernel)
set_option maxRecDepth 20000 in
theorem gX8_solveExpected_X3_solve : GoodIn wsX8_solveExpected (wsV RX8 86 RX3 yX3_solve wsX3_solve) := goodIn_app (goodIn_k (is := [1010, 1011, 1012, 70]) tie_wsX8_solveExpected rfl (by decide +kernel)) ggX8_solveExpected_X3_solve
set_option maxRecDepth 20000 in
theorem ggX8_solveExpected_X3_solution : GoodIn wsX8_solveExpected wsX3_solution := goodIn_k tie_wsX8_solveExpected tie_wsX3_solution (by decide +kernel)
set_option maxRecDepth 20000 in
theorem gX8_solveExpected_X3_solution : GoodIn wsX8_solveExpected (wsV RX8 89 RX3 yX3_solution wsX3_solution) := goodIn_app (goodIn_k (is := [1018, 1019, 1020, 70]) tie_wsX8_solveExpected rfl (by decide +kernel)) ggX8_solveExpected_X3_solution
set_option maxRecDepth 20000 in
theorem ggX8_solveExpected_X3_determinant : GoodIn wsX8_solveExpected wsX3_determinant := goodIn_k tie_wsX8_solveExpected tie_wsX3_determinant (by decide +kernel)
set_option maxRecDepth 20000 in
theorem gX8_solveExpected_X3_determinant : GoodIn wsX8_solveExpected (wsV RX8 93 RX3 yX3_determinant wsX3_determinant) := goodIn_app (goodIn_k (is := [1022, 1023, 1024, 70]) tie_wsX8_solveExpected rfl (by decide +kernel)) ggX8_solveExpected_X3_determinant
set_option maxRecDepth 20000 in
theorem ggX8_solveExpected_X8_put : GoodIn wsX8_solveExpected wsX8_put := goodIn_k tie_wsX8_solveExpected tie_wsX8_put (by decide +kernel)
set_option maxRecDepth 20000 in
theorem gX8_solveExpected_X8_put : GoodIn wsX8_solveExpected (wsV RX8 64 RX8 yX8_put wsX8_put) := goodIn_app (goodIn_k (is := [464, 465, 466, 27]) tie_wsX8_solveExpected rfl (by decide +kernel)) ggX8_solveExpected_X8_put
theorem dX8_solveExpected_0 : decode cX8_solveExpected 0 = .ok (.aload_n 0, 1) := by decide +kernel
theorem dX8_solveExpected_1 : decode cX8_solveExpected 1 = .ok (.getfield 31, 3) := by decide +kernel
theorem dX8_solveExpected_4 : decode cX8_solveExpected 4 = .ok (.aload_n 0, 1) := by decide +kernel
theorem dX8_solveExpected_5 : decode cX8_solveExpected 5 = .ok (.getfield 31, 3) := by decide +kernel
theorem dX8_solveExpected_8 : decode cX8_solveExpected 8 = .ok (.invokevirtual 103, 3) := by decide +kernel
theorem dX8_solveExpected_11 : decode cX8_solveExpected 11 = .ok (.iload_n 1, 1) := by decide +kernel
theorem dX8_solveExpected_12 : decode cX8_solveExpected 12 = .ok (.invokevirtual 107, 3) := by decide +kernel
theorem dX8_solveExpected_15 : decode cX8_solveExpected 15 = .ok (.istore_n 2, 1) := by decide +kernel
theorem dX8_solveExpected_16 : decode cX8_solveExpected 16 = .ok (.aload_n 0, 1) := by decide +kernel
theorem dX8_solveExpected_17 : decode cX8_solveExpected 17 = .ok (.getfield 12, 3) := by decide +kernel
theorem dX8_solveExpected_20 : decode cX8_solveExpected 20 = .ok (.invokevirtual 71, 3) := by decide +kernel
theorem dX8_solveExpected_23 : decode cX8_solveExpected 23 = .ok (.iconst 0, 1) := by decide +kernel
theorem dX8_solveExpected_24 : decode cX8_solveExpected 24 = .ok (.istore_n 3, 1) := by decide +kernel
theorem dX8_solveExpected_25 : decode cX8_solveExpected 25 = .ok (.iload_n 3, 1) := by decide +kernel
theorem dX8_solveExpected_26 : decode cX8_solveExpected 26 = .ok (.bipush 8, 2) := by decide +kernel
theorem dX8_solveExpected_28 : decode cX8_solveExpected 28 = .ok (.if_icmp .ge 53, 3) := by decide +kernel
theorem dX8_solveExpected_31 : decode cX8_solveExpected 31 = .ok (.iload_n 2, 1) := by decide +kernel
theorem dX8_solveExpected_32 : decode cX8_solveExpected 32 = .ok (.iload_n 1, 1) := by decide +kernel
theorem dX8_solveExpected_33 : decode cX8_solveExpected 33 = .ok (.iconst (-1), 1) := by decide +kernel
theorem dX8_solveExpected_34 : decode cX8_solveExpected 34 = .ok (.ixor, 1) := by decide +kernel
theorem dX8_solveExpected_35 : decode cX8_solveExpected 35 = .ok (.iand, 1) := by decide +kernel
theorem dX8_solveExpected_36 : decode cX8_solveExpected 36 = .ok (.iload_n 3, 1) := by decide +kernel
theorem dX8_solveExpected_37 : decode cX8_solveExpected 37 = .ok (.invokestatic 74, 3) := by decide +kernel
theorem dX8_solveExpected_40 : decode cX8_solveExpected 40 = .ok (.ifCond .eq 35, 3) := by decide +kernel
theorem dX8_solveExpected_43 : decode cX8_solveExpected 43 = .ok (.aload_n 0, 1) := by decide +kernel
theorem dX8_solveExpected_44 : decode cX8_solveExpected 44 = .ok (.iload_n 3, 1) := by decide +kernel
theorem dX8_solveExpected_45 : decode cX8_solveExpected 45 = .ok (.invokevirtual 78, 3) := by decide +kernel
theorem dX8_solveExpected_48 : decode cX8_solveExpected 48 = .ok (.aload_n 0, 1) := by decide +kernel
theorem dX8_solveExpected_49 : decode cX8_solveExpected 49 = .ok (.getfield 12, 3) := by decide +kernel
theorem dX8_solveExpected_52 : decode cX8_solveExpected 52 = .ok (.iload_n 3, 1) := by decide +kernel
theorem dX8_solveExpected_53 : decode cX8_solveExpected 53 = .ok (.aload_n 0, 1) := by decide +kernel
theorem dX8_solveExpected_54 : decode cX8_solveExpected 54 = .ok (.getfield 31, 3) := by decide +kernel
theorem dX8_solveExpected_57 : decode cX8_solveExpected 57 = .ok (.iload_n 3, 1) := by decide +kernel
theorem dX8_solveExpected_58 : decode cX8_solveExpected 58 = .ok (.invokevirtual 60, 3) := by decide +kernel
theorem dX8_solveExpected_61 : decode cX8_solveExpected 61 = .ok (.i2l, 1) := by decide +kernel
theorem dX8_solveExpected_62 : decode cX8_solveExpected 62 = .ok (.aload_n 0, 1) := by decide +kernel
theorem dX8_solveExpected_63 : decode cX8_solveExpected 63 = .ok (.getfield 31, 3) := by decide +kernel
theorem dX8_solveExpected_66 : decode cX8_solveExpected 66 = .ok (.iload_n 3, 1) := by decide +kernel
theorem dX8_solveExpected_67 : decode cX8_solveExpected 67 = .ok (.invokevirtual 110, 3) := by decide +kernel
theorem dX8_solveExpected_70 : decode cX8_solveExpected 70 = .ok (.i2l, 1) := by decide +kernel
theorem dX8_solveExpected_71 : decode cX8_solveExpected 71 = .ok (.lmul, 1) := by decide +kernel
theorem dX8_solveExpected_72 : decode cX8_solveExpected 72 = .ok (.invokevirtual 82, 3) := by decide +kernel
theorem dX8_solveExpected_75 : decode cX8_solveExpected 75 = .ok (.iinc 3 1, 3) := by decide +kernel
theorem dX8_solveExpected_78 : decode cX8_solveExpected 78 = .ok (.goto (-53), 3) := by decide +kernel
theorem dX8_solveExpected_81 : decode cX8_solveExpected 81 = .ok (.aload_n 0, 1) := by decide +kernel
theorem dX8_solveExpected_82 : decode cX8_solveExpected 82 = .ok (.getfield 12, 3) := by decide +kernel
theorem dX8_solveExpected_85 : decode cX8_solveExpected 85 = .ok (.invokevirtual 86, 3) := by decide +kernel
theorem dX8_solveExpected_88 : decode cX8_solveExpected 88 = .ok (.iconst 0, 1) := by decide +kernel
theorem dX8_solveExpected_89 : decode cX8_solveExpected 89 = .ok (.istore_n 3, 1) := by decide +kernel
theorem dX8_solveExpected_90 : decode cX8_solveExpected 90 = .ok (.iload_n 3, 1) := by decide +kernel
theorem dX8_solveExpected_91 : decode cX8_solveExpected 91 = .ok (.bipush 8, 2) := by decide +kernel
theorem dX8_solveExpected_93 : decode cX8_solveExpected 93 = .ok (.if_icmp .ge 47, 3) := by decide +kernel
theorem dX8_solveExpected_96 : decode cX8_solveExpected 96 = .ok (.iload_n 2, 1) := by decide +kernel
theorem dX8_solveExpected_97 : decode cX8_solveExpected 97 = .ok (.iload_n 3, 1) := by decide +kernel
theorem dX8_solveExpected_98 : decode cX8_solveExpected 98 = .ok (.invokestatic 74, 3) := by decide +kernel
theorem dX8_solveExpected_101 : decode cX8_solveExpected 101 = .ok (.ifCond .eq 26, 3) := by decide +kernel
theorem dX8_solveExpected_104 : decode cX8_solveExpected 104 = .ok (.aload_n 0, 1) := by decide +kernel
theorem dX8_solveExpected_105 : decode cX8_solveExpected 105 = .ok (.iload_n 3, 1) := by decide +kernel
theorem dX8_solveExpected_106 : decode cX8_solveExpected 106 = .ok (.aload_n 0, 1) := by decide +kernel
theorem dX8_solveExpected_107 : decode cX8_solveExpected 107 = .ok (.getfield 12, 3) := by decide +kernel
theorem dX8_solveExpected_110 : decode cX8_solveExpected 110 = .ok (.iload_n 3, 1) := by decide +kernel
theorem dX8_solveExpected_111 : decode cX8_solveExpected 111 = .ok (.invokevirtual 89, 3) := by decide +kernel
theorem dX8_solveExpected_114 : decode cX8_solveExpected 114 = .ok (.aload_n 0, 1) := by decide +kernel
theorem dX8_solveExpected_115 : decode cX8_solveExpected 115 = .ok (.getfield 12, 3) := by decide +kernel
theorem dX8_solveExpected_118 : decode cX8_solveExpected 118 = .ok (.invokevirtual 93, 3) := by decide +kernel
theorem dX8_solveExpected_121 : decode cX8_solveExpected 121 = .ok (.invokevirtual 64, 3) := by decide +kernel
theorem dX8_solveExpected_124 : decode cX8_solveExpected 124 = .ok (.goto 10, 3) := by decide +kernel
theorem dX8_solveExpected_127 : decode cX8_solveExpected 127 = .ok (.aload_n 0, 1) := by decide +kernel
theorem dX8_solveExpected_128 : decode cX8_solveExpected 128 = .ok (.iload_n 3, 1) := by decide +kernel
theorem dX8_solveExpected_129 : decode cX8_solveExpected 129 = .ok (.lconst 1, 1) := by decide +kernel
theorem dX8_solveExpected_130 : decode cX8_solveExpected 130 = .ok (.lconst 0, 1) := by decide +kernel
theorem dX8_solveExpected_131 : decode cX8_solveExpected 131 = .ok (.invokevirtual 64, 3) := by decide +kernel
theorem dX8_solveExpected_134 : decode cX8_solveExpected 134 = .ok (.iinc 3 1, 3) := by decide +kernel
theorem dX8_solveExpected_137 : decode cX8_solveExpected 137 = .ok (.goto (-47), 3) := by decide +kernel
theorem dX8_solveExpected_140 : decode cX8_solveExpected 140 = .ok (.return_, 1) := by decide +kernel
set_option maxRecDepth 20000 in
theorem ggX8_solveSteady_X2_bottomStates : GoodIn wsX8_solveSteady wsX2_bottomStates := goodIn_k tie_wsX8_solveSteady tie_wsX2_bottomStates (by decide +kernel)
set_option maxRecDepth 20000 in
theorem gX8_solveSteady_X2_bottomStates : GoodIn wsX8_solveSteady (wsV RX8 113 RX2 yX2_bottomStates wsX2_bottomStates) := goodIn_app (goodIn_k (is := [1042, 353, 354, 14]) tie_wsX8_solveSteady rfl (by decide +kernel)) ggX8_solveSteady_X2_bottomStates
set_option maxRecDepth 20000 in
theorem ggX8_solveSteady_X11_contains : GoodIn wsX8_solveSteady wsX11_contains := goodIn_k tie_wsX8_solveSteady tie_wsX11_contains (by decide +kernel)
set_option maxRecDepth 20000 in
theorem gX8_solveSteady_X11_contains_n74 : GoodIn wsX8_solveSteady (wsX11_contains) := ggX8_solveSteady_X11_contains
set_option maxRecDepth 20000 in
theorem ggX8_solveSteady_X2_reachedFrom : GoodIn wsX8_solveSteady wsX2_reachedFrom := goodIn_k tie_wsX8_solveSteady tie_wsX2_reachedFrom (by decide +kernel)
set_option maxRecDepth 20000 in
theorem gX8_solveSteady_X2_reachedFrom : GoodIn wsX8_solveSteady (wsV RX8 116 RX2 yX2_reachedFrom wsX2_reachedFrom) := goodIn_app (goodIn_k (is := [1043, 307, 308, 14]) tie_wsX8_solveSteady rfl (by decide +kernel)) ggX8_solveSteady_X2_reachedFrom
set_option maxRecDepth 20000 in
theorem ggX8_solveSteady_X8_solveFlow : GoodIn wsX8_solveSteady wsX8_solveFlow := goodIn_k tie_wsX8_solveSteady tie_wsX8_solveFlow (by decide +kernel)
set_option maxRecDepth 20000 in
theorem gX8_solveSteady_X8_solveFlow : GoodIn wsX8_solveSteady (wsV RX8 119 RX8 yX8_solveFlow wsX8_solveFlow) := goodIn_app (goodIn_k (is := [1044, 1045, 1046, 27]) tie_wsX8_solveSteady rfl (by decide +kernel)) ggX8_solveSteady_X8_solveFlow
set_option maxRecDepth 20000 in
theorem ggX8_solveSteady_X8_shareOut : GoodIn wsX8_solveSteady wsX8_shareOut := goodIn_k tie_wsX8_solveSteady tie_wsX8_shareOut (by decide +kernel)
set_option maxRecDepth 20000 in
theorem gX8_solveSteady_X8_shareOut : GoodIn wsX8_solveSteady (wsV RX8 123 RX8 yX8_shareOut wsX8_shareOut) := goodIn_app (goodIn_k (is := [1048, 1049, 1050, 27]) tie_wsX8_solveSteady rfl (by decide +kernel)) ggX8_solveSteady_X8_shareOut
set_option maxRecDepth 20000 in
theorem ggX8_solveSteady_X11_commonMultiple : GoodIn wsX8_solveSteady wsX11_commonMultiple := goodIn_k tie_wsX8_solveSteady tie_wsX11_commonMultiple (by decide +kernel)
set_option maxRecDepth 20000 in
theorem gX8_solveSteady_X11_commonMultiple_n126 : GoodIn wsX8_solveSteady (wsX11_commonMultiple) := ggX8_solveSteady_X11_commonMultiple
set_option maxRecDepth 20000 in
theorem ggX8_solveSteady_X3_clear : GoodIn wsX8_solveSteady wsX3_clear := goodIn_k tie_wsX8_solveSteady tie_wsX3_clear (by decide +kernel)
set_option maxRecDepth 20000 in
theorem gX8_solveSteady_X3_clear : GoodIn wsX8_solveSteady (wsV RX8 71 RX3 yX3_clear wsX3_clear) := goodIn_app (goodIn_k (is := [975, 976, 977, 70]) tie_wsX8_solveSteady rfl (by decide +kernel)) ggX8_solveSteady_X3_clear
set_option maxRecDepth 20000 in
theorem ggX8_solveSteady_X8_balance : GoodIn wsX8_solveSteady wsX8_balance := goodIn_k tie_wsX8_solveSteady tie_wsX8_balance (by decide +kernel)
set_option maxRecDepth 20000 in
theorem gX8_solveSteady_X8_balance : GoodIn wsX8_solveSteady (wsV RX8 78 RX8 yX8_balance wsX8_balance) := goodIn_app (goodIn_k (is := [987, 988, 989, 27]) tie_wsX8_solveSteady rfl (by decide +kernel)) ggX8_solveSteady_X8_balance
set_option maxRecDepth 20000 in
theorem ggX8_solveSteady_X3_putRight : GoodIn wsX8_solveSteady wsX3_putRight := goodIn_k tie_wsX8_solveSteady tie_wsX3_putRight (by decide +kernel)
set_option maxRecDepth 20000 in
theorem gX8_solveSteady_X3_putRight : GoodIn wsX8_solveSteady (wsV RX8 82 RX3 yX3_putRight wsX3_putRight) := goodIn_app (goodIn_k (is := [1006, 1007, 1008, 70]) tie_wsX8_solveSteady rfl (by decide +kernel)) ggX8_solveSteady_X3_putRight
set_option maxRecDepth 20000 in
theorem ggX8_solveSteady_X3_solve : GoodIn wsX8_solveSteady wsX3_solve := goodIn_k tie_wsX8_solveSteady tie_wsX3_solve (by decide +kernel)
set_option maxRecDepth 20000 in
theorem gX8_solveSteady_X3_solve : GoodIn wsX8_solveSteady (wsV RX8 86 RX3 yX3_solve wsX3_solve) := goodIn_app (goodIn_k (is := [1010, 1011, 1012, 70]) tie_wsX8_solveSteady rfl (by decide +kernel)) ggX8_solveSteady_X3_solve
set_option maxRecDepth 20000 in
theorem ggX8_solveSteady_X3_solution : GoodIn wsX8_solveSteady wsX3_solution := goodIn_k tie_wsX8_solveSteady tie_wsX3_solution (by decide +kernel)
set_option maxRecDepth 20000 in
theorem gX8_solveSteady_X3_solution : GoodIn wsX8_solveSteady (wsV RX8 89 RX3 yX3_solution wsX3_solution) := goodIn_app (goodIn_k (is := [1018, 1019, 1020, 70]) tie_wsX8_solveSteady rfl (by decide +kernel)) ggX8_solveSteady_X3_solution
set_option maxRecDepth 20000 in
theorem ggX8_solveSteady_X3_determinant : GoodIn wsX8_solveSteady wsX3_determinant := goodIn_k tie_wsX8_solveSteady tie_wsX3_determinant (by decide +kernel)
set_option maxRecDepth 20000 in
theorem gX8_solveSteady_X3_determinant : GoodIn wsX8_solveSteady (wsV RX8 93 RX3 yX3_determinant wsX3_determinant) := goodIn_app (goodIn_k (is := [1022, 1023, 1024, 70]) tie_wsX8_solveSteady rfl (by decide +kernel)) ggX8_solveSteady_X3_determinant
set_option maxRecDepth 20000 in
theorem ggX8_solveSteady_X8_put : GoodIn wsX8_solveSteady wsX8_put := goodIn_k tie_wsX8_solveSteady tie_wsX8_put (by decide +kernel)
set_option maxRecDepth 20000 in
theorem gX8_solveSteady_X8_put : GoodIn wsX8_solveSteady (wsV RX8 64 RX8 yX8_put wsX8_put) := goodIn_app (goodIn_k (is := [464, 465, 466, 27]) tie_wsX8_solveSteady rfl (by decide +kernel)) ggX8_solveSteady_X8_put
theorem dX8_solveSteady_0 : decode cX8_solveSteady 0 = .ok (.aload_n 0, 1) := by decide +kernel
theorem dX8_solveSteady_1 : decode cX8_solveSteady 1 = .ok (.getfield 31, 3) := by decide +kernel
theorem dX8_solveSteady_4 : decode cX8_solveSteady 4 = .ok (.invokevirtual 113, 3) := by decide +kernel
theorem dX8_solveSteady_7 : decode cX8_solveSteady 7 = .ok (.istore_n 2, 1) := by decide +kernel
theorem dX8_solveSteady_8 : decode cX8_solveSteady 8 = .ok (.iload_n 2, 1) := by decide +kernel
theorem dX8_solveSteady_9 : decode cX8_solveSteady 9 = .ok (.istore_n 3, 1) := by decide +kernel
theorem dX8_solveSteady_10 : decode cX8_solveSteady 10 = .ok (.lconst 1, 1) := by decide +kernel
theorem dX8_solveSteady_11 : decode cX8_solveSteady 11 = .ok (.lstore 4, 2) := by decide +kernel
theorem dX8_solveSteady_13 : decode cX8_solveSteady 13 = .ok (.iconst 0, 1) := by decide +kernel
theorem dX8_solveSteady_14 : decode cX8_solveSteady 14 = .ok (.istore 6, 2) := by decide +kernel
theorem dX8_solveSteady_16 : decode cX8_solveSteady 16 = .ok (.iload 6, 2) := by decide +kernel
theorem dX8_solveSteady_18 : decode cX8_solveSteady 18 = .ok (.bipush 8, 2) := by decide +kernel
theorem dX8_solveSteady_20 : decode cX8_solveSteady 20 = .ok (.if_icmp .ge 65, 3) := by decide +kernel
theorem dX8_solveSteady_23 : decode cX8_solveSteady 23 = .ok (.iload_n 3, 1) := by decide +kernel
theorem dX8_solveSteady_24 : decode cX8_solveSteady 24 = .ok (.iload 6, 2) := by decide +kernel
theorem dX8_solveSteady_26 : decode cX8_solveSteady 26 = .ok (.invokestatic 74, 3) := by decide +kernel
theorem dX8_solveSteady_29 : decode cX8_solveSteady 29 = .ok (.ifCond .eq 50, 3) := by decide +kernel
theorem dX8_solveSteady_32 : decode cX8_solveSteady 32 = .ok (.aload_n 0, 1) := by decide +kernel
theorem dX8_solveSteady_33 : decode cX8_solveSteady 33 = .ok (.getfield 31, 3) := by decide +kernel
theorem dX8_solveSteady_36 : decode cX8_solveSteady 36 = .ok (.iload 6, 2) := by decide +kernel
theorem dX8_solveSteady_38 : decode cX8_solveSteady 38 = .ok (.invokevirtual 116, 3) := by decide +kernel
theorem dX8_solveSteady_41 : decode cX8_solveSteady 41 = .ok (.istore 7, 2) := by decide +kernel
theorem dX8_solveSteady_43 : decode cX8_solveSteady 43 = .ok (.aload_n 0, 1) := by decide +kernel
theorem dX8_solveSteady_44 : decode cX8_solveSteady 44 = .ok (.iload 7, 2) := by decide +kernel
theorem dX8_solveSteady_46 : decode cX8_solveSteady 46 = .ok (.iload 6, 2) := by decide +kernel
theorem dX8_solveSteady_48 : decode cX8_solveSteady 48 = .ok (.invokevirtual 119, 3) := by decide +kernel
theorem dX8_solveSteady_51 : decode cX8_solveSteady 51 = .ok (.aload_n 0, 1) := by decide +kernel
theorem dX8_solveSteady_52 : decode cX8_solveSteady 52 = .ok (.iload 7, 2) := by decide +kernel
theorem dX8_solveSteady_54 : decode cX8_solveSteady 54 = .ok (.iload_n 1, 1) := by decide +kernel
theorem dX8_solveSteady_55 : decode cX8_solveSteady 55 = .ok (.invokevirtual 123, 3) := by decide +kernel
theorem dX8_solveSteady_58 : decode cX8_solveSteady 58 = .ok (.lload 4, 2) := by decide +kernel
theorem dX8_solveSteady_60 : decode cX8_solveSteady 60 = .ok (.aload_n 0, 1) := by decide +kernel
theorem dX8_solveSteady_61 : decode cX8_solveSteady 61 = .ok (.getfield 22, 3) := by decide +kernel
theorem dX8_solveSteady_64 : decode cX8_solveSteady 64 = .ok (.iload 6, 2) := by decide +kernel
theorem dX8_solveSteady_66 : decode cX8_solveSteady 66 = .ok (.laload, 1) := by decide +kernel
theorem dX8_solveSteady_67 : decode cX8_solveSteady 67 = .ok (.invokestatic 126, 3) := by decide +kernel
theorem dX8_solveSteady_70 : decode cX8_solveSteady 70 = .ok (.lstore 4, 2) := by decide +kernel
theorem dX8_solveSteady_72 : decode cX8_solveSteady 72 = .ok (.iload_n 3, 1) := by decide +kernel
theorem dX8_solveSteady_73 : decode cX8_solveSteady 73 = .ok (.iload 7, 2) := by decide +kernel
theorem dX8_solveSteady_75 : decode cX8_solveSteady 75 = .ok (.iconst (-1), 1) := by decide +kernel
theorem dX8_solveSteady_76 : decode cX8_solveSteady 76 = .ok (.ixor, 1) := by decide +kernel
theorem dX8_solveSteady_77 : decode cX8_solveSteady 77 = .ok (.iand, 1) := by decide +kernel
theorem dX8_solveSteady_78 : decode cX8_solveSteady 78 = .ok (.istore_n 3, 1) := by decide +kernel
theorem dX8_solveSteady_79 : decode cX8_solveSteady 79 = .ok (.iinc 6 1, 3) := by decide +kernel
theorem dX8_solveSteady_82 : decode cX8_solveSteady 82 = .ok (.goto (-66), 3) := by decide +kernel
theorem dX8_solveSteady_85 : decode cX8_solveSteady 85 = .ok (.aload_n 0, 1) := by decide +kernel
theorem dX8_solveSteady_86 : decode cX8_solveSteady 86 = .ok (.getfield 12, 3) := by decide +kernel
theorem dX8_solveSteady_89 : decode cX8_solveSteady 89 = .ok (.invokevirtual 71, 3) := by decide +kernel
theorem dX8_solveSteady_92 : decode cX8_solveSteady 92 = .ok (.iconst 0, 1) := by decide +kernel
theorem dX8_solveSteady_93 : decode cX8_solveSteady 93 = .ok (.istore 6, 2) := by decide +kernel
theorem dX8_solveSteady_95 : decode cX8_solveSteady 95 = .ok (.iload 6, 2) := by decide +kernel
theorem dX8_solveSteady_97 : decode cX8_solveSteady 97 = .ok (.bipush 8, 2) := by decide +kernel
theorem dX8_solveSteady_99 : decode cX8_solveSteady 99 = .ok (.if_icmp .ge 66, 3) := by decide +kernel
theorem dX8_solveSteady_102 : decode cX8_solveSteady 102 = .ok (.iload_n 2, 1) := by decide +kernel
theorem dX8_solveSteady_103 : decode cX8_solveSteady 103 = .ok (.iload 6, 2) := by decide +kernel
theorem dX8_solveSteady_105 : decode cX8_solveSteady 105 = .ok (.invokestatic 74, 3) := by decide +kernel
theorem dX8_solveSteady_108 : decode cX8_solveSteady 108 = .ok (.ifCond .ne 12, 3) := by decide +kernel
theorem dX8_solveSteady_111 : decode cX8_solveSteady 111 = .ok (.aload_n 0, 1) := by decide +kernel
theorem dX8_solveSteady_112 : decode cX8_solveSteady 112 = .ok (.iload 6, 2) := by decide +kernel
theorem dX8_solveSteady_114 : decode cX8_solveSteady 114 = .ok (.invokevirtual 78, 3) := by decide +kernel
theorem dX8_solveSteady_117 : decode cX8_solveSteady 117 = .ok (.goto 42, 3) := by decide +kernel
theorem dX8_solveSteady_120 : decode cX8_solveSteady 120 = .ok (.aload_n 0, 1) := by decide +kernel
theorem dX8_solveSteady_121 : decode cX8_solveSteady 121 = .ok (.getfield 22, 3) := by decide +kernel
theorem dX8_solveSteady_124 : decode cX8_solveSteady 124 = .ok (.iload 6, 2) := by decide +kernel
theorem dX8_solveSteady_126 : decode cX8_solveSteady 126 = .ok (.laload, 1) := by decide +kernel
theorem dX8_solveSteady_127 : decode cX8_solveSteady 127 = .ok (.lconst 0, 1) := by decide +kernel
theorem dX8_solveSteady_128 : decode cX8_solveSteady 128 = .ok (.lcmp, 1) := by decide +kernel
theorem dX8_solveSteady_129 : decode cX8_solveSteady 129 = .ok (.ifCond .eq 30, 3) := by decide +kernel
theorem dX8_solveSteady_132 : decode cX8_solveSteady 132 = .ok (.aload_n 0, 1) := by decide +kernel
theorem dX8_solveSteady_133 : decode cX8_solveSteady 133 = .ok (.getfield 12, 3) := by decide +kernel
theorem dX8_solveSteady_136 : decode cX8_solveSteady 136 = .ok (.iload 6, 2) := by decide +kernel
theorem dX8_solveSteady_138 : decode cX8_solveSteady 138 = .ok (.lload 4, 2) := by decide +kernel
theorem dX8_solveSteady_140 : decode cX8_solveSteady 140 = .ok (.aload_n 0, 1) := by decide +kernel
theorem dX8_solveSteady_141 : decode cX8_solveSteady 141 = .ok (.getfield 22, 3) := by decide +kernel
theorem dX8_solveSteady_144 : decode cX8_solveSteady 144 = .ok (.iload 6, 2) := by decide +kernel
theorem dX8_solveSteady_146 : decode cX8_solveSteady 146 = .ok (.laload, 1) := by decide +kernel
theorem dX8_solveSteady_147 : decode cX8_solveSteady 147 = .ok (.ldiv, 1) := by decide +kernel
theorem dX8_solveSteady_148 : decode cX8_solveSteady 148 = .ok (.aload_n 0, 1) := by decide +kernel
theorem dX8_solveSteady_149 : decode cX8_solveSteady 149 = .ok (.getfield 18, 3) := by decide +kernel
theorem dX8_solveSteady_152 : decode cX8_solveSteady 152 = .ok (.iload 6, 2) := by decide +kernel
theorem dX8_solveSteady_154 : decode cX8_solveSteady 154 = .ok (.laload, 1) := by decide +kernel
theorem dX8_solveSteady_155 : decode cX8_solveSteady 155 = .ok (.lmul, 1) := by decide +kernel
theorem dX8_solveSteady_156 : decode cX8_solveSteady 156 = .ok (.invokevirtual 82, 3) := by decide +kernel
theorem dX8_solveSteady_159 : decode cX8_solveSteady 159 = .ok (.iinc 6 1, 3) := by decide +kernel
theorem dX8_solveSteady_162 : decode cX8_solveSteady 162 = .ok (.goto (-67), 3) := by decide +kernel
theorem dX8_solveSteady_165 : decode cX8_solveSteady 165 = .ok (.aload_n 0, 1) := by decide +kernel
theorem dX8_solveSteady_166 : decode cX8_solveSteady 166 = .ok (.getfield 12, 3) := by decide +kernel
theorem dX8_solveSteady_169 : decode cX8_solveSteady 169 = .ok (.invokevirtual 86, 3) := by decide +kernel
theorem dX8_solveSteady_172 : decode cX8_solveSteady 172 = .ok (.iconst 0, 1) := by decide +kernel
theorem dX8_solveSteady_173 : decode cX8_solveSteady 173 = .ok (.istore 6, 2) := by decide +kernel
theorem dX8_solveSteady_175 : decode cX8_solveSteady 175 = .ok (.iload 6, 2) := by decide +kernel
theorem dX8_solveSteady_177 : decode cX8_solveSteady 177 = .ok (.bipush 8, 2) := by decide +kernel
theorem dX8_solveSteady_179 : decode cX8_solveSteady 179 = .ok (.if_icmp .ge 34, 3) := by decide +kernel
theorem dX8_solveSteady_182 : decode cX8_solveSteady 182 = .ok (.aload_n 0, 1) := by decide +kernel
theorem dX8_solveSteady_183 : decode cX8_solveSteady 183 = .ok (.iload 6, 2) := by decide +kernel
theorem dX8_solveSteady_185 : decode cX8_solveSteady 185 = .ok (.aload_n 0, 1) := by decide +kernel
theorem dX8_solveSteady_186 : decode cX8_solveSteady 186 = .ok (.getfield 12, 3) := by decide +kernel
theorem dX8_solveSteady_189 : decode cX8_solveSteady 189 = .ok (.iload 6, 2) := by decide +kernel
theorem dX8_solveSteady_191 : decode cX8_solveSteady 191 = .ok (.invokevirtual 89, 3) := by decide +kernel
theorem dX8_solveSteady_194 : decode cX8_solveSteady 194 = .ok (.aload_n 0, 1) := by decide +kernel
theorem dX8_solveSteady_195 : decode cX8_solveSteady 195 = .ok (.getfield 12, 3) := by decide +kernel
theorem dX8_solveSteady_198 : decode cX8_solveSteady 198 = .ok (.invokevirtual 93, 3) := by decide +kernel
theorem dX8_solveSteady_201 : decode cX8_solveSteady 201 = .ok (.lload 4, 2) := by decide +kernel
theorem dX8_solveSteady_203 : decode cX8_solveSteady 203 = .ok (.lmul, 1) := by decide +kernel
theorem dX8_solveSteady_204 : decode cX8_solveSteady 204 = .ok (.invokevirtual 64, 3) := by decide +kernel
theorem dX8_solveSteady_207 : decode cX8_solveSteady 207 = .ok (.iinc 6 1, 3) := by decide +kernel
theorem dX8_solveSteady_210 : decode cX8_solveSteady 210 = .ok (.goto (-35), 3) := by decide +kernel
theorem dX8_solveSteady_213 : decode cX8_solveSteady 213 = .ok (.return_, 1) := by decide +kernel
set_option maxRecDepth 20000 in
theorem ggX8_shareOut_X11_contains : GoodIn wsX8_shareOut wsX11_contains := goodIn_k tie_wsX8_shareOut tie_wsX11_contains (by decide +kernel)
set_option maxRecDepth 20000 in
theorem gX8_shareOut_X11_contains_n74 : GoodIn wsX8_shareOut (wsX11_contains) := ggX8_shareOut_X11_contains
set_option maxRecDepth 20000 in
theorem ggX8_shareOut_X2_divisorOf : GoodIn wsX8_shareOut wsX2_divisorOf := goodIn_k tie_wsX8_shareOut tie_wsX2_divisorOf (by decide +kernel)
set_option maxRecDepth 20000 in
theorem gX8_shareOut_X2_divisorOf : GoodIn wsX8_shareOut (wsV RX8 60 RX2 yX2_divisorOf wsX2_divisorOf) := goodIn_app (goodIn_k (is := [463, 404, 405, 14]) tie_wsX8_shareOut rfl (by decide +kernel)) ggX8_shareOut_X2_divisorOf
set_option maxRecDepth 20000 in
theorem ggX8_shareOut_X3_solution : GoodIn wsX8_shareOut wsX3_solution := goodIn_k tie_wsX8_shareOut tie_wsX3_solution (by decide +kernel)
set_option maxRecDepth 20000 in
theorem gX8_shareOut_X3_solution : GoodIn wsX8_shareOut (wsV RX8 89 RX3 yX3_solution wsX3_solution) := goodIn_app (goodIn_k (is := [1018, 1019, 1020, 70]) tie_wsX8_shareOut rfl (by decide +kernel)) ggX8_shareOut_X3_solution
set_option maxRecDepth 20000 in
theorem ggX8_shareOut_X8_put : GoodIn wsX8_shareOut wsX8_put := goodIn_k tie_wsX8_shareOut tie_wsX8_put (by decide +kernel)
set_option maxRecDepth 20000 in
theorem gX8_shareOut_X8_put : GoodIn wsX8_shareOut (wsV RX8 64 RX8 yX8_put wsX8_put) := goodIn_app (goodIn_k (is := [464, 465, 466, 27]) tie_wsX8_shareOut rfl (by decide +kernel)) ggX8_shareOut_X8_put
theorem dX8_shareOut_0 : decode cX8_shareOut 0 = .ok (.lconst 0, 1) := by decide +kernel
theorem dX8_shareOut_1 : decode cX8_shareOut 1 = .ok (.lstore_n 3, 1) := by decide +kernel
theorem dX8_shareOut_2 : decode cX8_shareOut 2 = .ok (.lconst 0, 1) := by decide +kernel
theorem dX8_shareOut_3 : decode cX8_shareOut 3 = .ok (.lstore 5, 2) := by decide +kernel
theorem dX8_shareOut_5 : decode cX8_shareOut 5 = .ok (.iconst 0, 1) := by decide +kernel
theorem dX8_shareOut_6 : decode cX8_shareOut 6 = .ok (.istore 7, 2) := by decide +kernel
theorem dX8_shareOut_8 : decode cX8_shareOut 8 = .ok (.iload 7, 2) := by decide +kernel
theorem dX8_shareOut_10 : decode cX8_shareOut 10 = .ok (.bipush 8, 2) := by decide +kernel
theorem dX8_shareOut_12 : decode cX8_shareOut 12 = .ok (.if_icmp .ge 65, 3) := by decide +kernel
theorem dX8_shareOut_15 : decode cX8_shareOut 15 = .ok (.iload_n 1, 1) := by decide +kernel
theorem dX8_shareOut_16 : decode cX8_shareOut 16 = .ok (.iload 7, 2) := by decide +kernel
theorem dX8_shareOut_18 : decode cX8_shareOut 18 = .ok (.invokestatic 74, 3) := by decide +kernel
theorem dX8_shareOut_21 : decode cX8_shareOut 21 = .ok (.ifCond .eq 50, 3) := by decide +kernel
theorem dX8_shareOut_24 : decode cX8_shareOut 24 = .ok (.aload_n 0, 1) := by decide +kernel
theorem dX8_shareOut_25 : decode cX8_shareOut 25 = .ok (.getfield 31, 3) := by decide +kernel
theorem dX8_shareOut_28 : decode cX8_shareOut 28 = .ok (.iload 7, 2) := by decide +kernel
theorem dX8_shareOut_30 : decode cX8_shareOut 30 = .ok (.invokevirtual 60, 3) := by decide +kernel
theorem dX8_shareOut_33 : decode cX8_shareOut 33 = .ok (.i2l, 1) := by decide +kernel
theorem dX8_shareOut_34 : decode cX8_shareOut 34 = .ok (.aload_n 0, 1) := by decide +kernel
theorem dX8_shareOut_35 : decode cX8_shareOut 35 = .ok (.getfield 12, 3) := by decide +kernel
theorem dX8_shareOut_38 : decode cX8_shareOut 38 = .ok (.iload 7, 2) := by decide +kernel
theorem dX8_shareOut_40 : decode cX8_shareOut 40 = .ok (.invokevirtual 89, 3) := by decide +kernel
theorem dX8_shareOut_43 : decode cX8_shareOut 43 = .ok (.lmul, 1) := by decide +kernel
theorem dX8_shareOut_44 : decode cX8_shareOut 44 = .ok (.lstore 8, 2) := by decide +kernel
theorem dX8_shareOut_46 : decode cX8_shareOut 46 = .ok (.lload 5, 2) := by decide +kernel
theorem dX8_shareOut_48 : decode cX8_shareOut 48 = .ok (.lload 8, 2) := by decide +kernel
theorem dX8_shareOut_50 : decode cX8_shareOut 50 = .ok (.ladd, 1) := by decide +kernel
theorem dX8_shareOut_51 : decode cX8_shareOut 51 = .ok (.lstore 5, 2) := by decide +kernel
theorem dX8_shareOut_53 : decode cX8_shareOut 53 = .ok (.lload_n 3, 1) := by decide +kernel
theorem dX8_shareOut_54 : decode cX8_shareOut 54 = .ok (.iload_n 2, 1) := by decide +kernel
theorem dX8_shareOut_55 : decode cX8_shareOut 55 = .ok (.iload 7, 2) := by decide +kernel
theorem dX8_shareOut_57 : decode cX8_shareOut 57 = .ok (.invokestatic 74, 3) := by decide +kernel
theorem dX8_shareOut_60 : decode cX8_shareOut 60 = .ok (.ifCond .eq 8, 3) := by decide +kernel
theorem dX8_shareOut_63 : decode cX8_shareOut 63 = .ok (.lload 8, 2) := by decide +kernel
theorem dX8_shareOut_65 : decode cX8_shareOut 65 = .ok (.goto 4, 3) := by decide +kernel
theorem dX8_shareOut_68 : decode cX8_shareOut 68 = .ok (.lconst 0, 1) := by decide +kernel
theorem dX8_shareOut_69 : decode cX8_shareOut 69 = .ok (.ladd, 1) := by decide +kernel
theorem dX8_shareOut_70 : decode cX8_shareOut 70 = .ok (.lstore_n 3, 1) := by decide +kernel
theorem dX8_shareOut_71 : decode cX8_shareOut 71 = .ok (.iinc 7 1, 3) := by decide +kernel
theorem dX8_shareOut_74 : decode cX8_shareOut 74 = .ok (.goto (-66), 3) := by decide +kernel
theorem dX8_shareOut_77 : decode cX8_shareOut 77 = .ok (.iconst 0, 1) := by decide +kernel
theorem dX8_shareOut_78 : decode cX8_shareOut 78 = .ok (.istore 7, 2) := by decide +kernel
theorem dX8_shareOut_80 : decode cX8_shareOut 80 = .ok (.iload 7, 2) := by decide +kernel
theorem dX8_shareOut_82 : decode cX8_shareOut 82 = .ok (.bipush 8, 2) := by decide +kernel
theorem dX8_shareOut_84 : decode cX8_shareOut 84 = .ok (.if_icmp .ge 27, 3) := by decide +kernel
theorem dX8_shareOut_87 : decode cX8_shareOut 87 = .ok (.iload_n 1, 1) := by decide +kernel
theorem dX8_shareOut_88 : decode cX8_shareOut 88 = .ok (.iload 7, 2) := by decide +kernel
theorem dX8_shareOut_90 : decode cX8_shareOut 90 = .ok (.invokestatic 74, 3) := by decide +kernel
theorem dX8_shareOut_93 : decode cX8_shareOut 93 = .ok (.ifCond .eq 12, 3) := by decide +kernel
theorem dX8_shareOut_96 : decode cX8_shareOut 96 = .ok (.aload_n 0, 1) := by decide +kernel
theorem dX8_shareOut_97 : decode cX8_shareOut 97 = .ok (.iload 7, 2) := by decide +kernel
theorem dX8_shareOut_99 : decode cX8_shareOut 99 = .ok (.lload_n 3, 1) := by decide +kernel
theorem dX8_shareOut_100 : decode cX8_shareOut 100 = .ok (.lload 5, 2) := by decide +kernel
theorem dX8_shareOut_102 : decode cX8_shareOut 102 = .ok (.invokevirtual 64, 3) := by decide +kernel
theorem dX8_shareOut_105 : decode cX8_shareOut 105 = .ok (.iinc 7 1, 3) := by decide +kernel
theorem dX8_shareOut_108 : decode cX8_shareOut 108 = .ok (.goto (-28), 3) := by decide +kernel
theorem dX8_shareOut_111 : decode cX8_shareOut 111 = .ok (.return_, 1) := by decide +kernel
set_option maxRecDepth 20000 in
theorem ggX8_solveFlow_X3_clear : GoodIn wsX8_solveFlow wsX3_clear := goodIn_k tie_wsX8_solveFlow tie_wsX3_clear (by decide +kernel)
set_option maxRecDepth 20000 in
theorem gX8_solveFlow_X3_clear : GoodIn wsX8_solveFlow (wsV RX8 71 RX3 yX3_clear wsX3_clear) := goodIn_app (goodIn_k (is := [975, 976, 977, 70]) tie_wsX8_solveFlow rfl (by decide +kernel)) ggX8_solveFlow_X3_clear
set_option maxRecDepth 20000 in
theorem ggX8_solveFlow_X11_contains : GoodIn wsX8_solveFlow wsX11_contains := goodIn_k tie_wsX8_solveFlow tie_wsX11_contains (by decide +kernel)
set_option maxRecDepth 20000 in
theorem gX8_solveFlow_X11_contains_n74 : GoodIn wsX8_solveFlow (wsX11_contains) := ggX8_solveFlow_X11_contains
set_option maxRecDepth 20000 in
theorem ggX8_solveFlow_X2_divisorOf : GoodIn wsX8_solveFlow wsX2_divisorOf := goodIn_k tie_wsX8_solveFlow tie_wsX2_divisorOf (by decide +kernel)
set_option maxRecDepth 20000 in
theorem gX8_solveFlow_X2_divisorOf : GoodIn wsX8_solveFlow (wsV RX8 60 RX2 yX2_divisorOf wsX2_divisorOf) := goodIn_app (goodIn_k (is := [463, 404, 405, 14]) tie_wsX8_solveFlow rfl (by decide +kernel)) ggX8_solveFlow_X2_divisorOf
set_option maxRecDepth 20000 in
theorem ggX8_solveFlow_X3_put : GoodIn wsX8_solveFlow wsX3_put := goodIn_k tie_wsX8_solveFlow tie_wsX3_put (by decide +kernel)
set_option maxRecDepth 20000 in
theorem gX8_solveFlow_X3_put : GoodIn wsX8_solveFlow (wsV RX8 130 RX3 yX3_put wsX3_put) := goodIn_app (goodIn_k (is := [993, 984, 985, 70]) tie_wsX8_solveFlow rfl (by decide +kernel)) ggX8_solveFlow_X3_put
set_option maxRecDepth 20000 in
theorem ggX8_solveFlow_X2_stepWeight : GoodIn wsX8_solveFlow wsX2_stepWeight := goodIn_k tie_wsX8_solveFlow tie_wsX2_stepWeight (by decide +kernel)
set_option maxRecDepth 20000 in
theorem gX8_solveFlow_X2_stepWeight : GoodIn wsX8_solveFlow (wsV RX8 100 RX2 yX2_stepWeight wsX2_stepWeight) := goodIn_app (goodIn_k (is := [994, 995, 996, 14]) tie_wsX8_solveFlow rfl (by decide +kernel)) ggX8_solveFlow_X2_stepWeight
set_option maxRecDepth 20000 in
theorem ggX8_solveFlow_X3_add : GoodIn wsX8_solveFlow wsX3_add := goodIn_k tie_wsX8_solveFlow tie_wsX3_add (by decide +kernel)
set_option maxRecDepth 20000 in
theorem gX8_solveFlow_X3_add : GoodIn wsX8_solveFlow (wsV RX8 133 RX3 yX3_add wsX3_add) := goodIn_app (goodIn_k (is := [998, 999, 1000, 70]) tie_wsX8_solveFlow rfl (by decide +kernel)) ggX8_solveFlow_X3_add
set_option maxRecDepth 20000 in
theorem ggX8_solveFlow_X3_putRight : GoodIn wsX8_solveFlow wsX3_putRight := goodIn_k tie_wsX8_solveFlow tie_wsX3_putRight (by decide +kernel)
set_option maxRecDepth 20000 in
theorem gX8_solveFlow_X3_putRight : GoodIn wsX8_solveFlow (wsV RX8 82 RX3 yX3_putRight wsX3_putRight) := goodIn_app (goodIn_k (is := [1006, 1007, 1008, 70]) tie_wsX8_solveFlow rfl (by decide +kernel)) ggX8_solveFlow_X3_putRight
set_option maxRecDepth 20000 in
theorem ggX8_solveFlow_X3_solve : GoodIn wsX8_solveFlow wsX3_solve := goodIn_k tie_wsX8_solveFlow tie_wsX3_solve (by decide +kernel)
set_option maxRecDepth 20000 in
theorem gX8_solveFlow_X3_solve : GoodIn wsX8_solveFlow (wsV RX8 86 RX3 yX3_solve wsX3_solve) := goodIn_app (goodIn_k (is := [1010, 1011, 1012, 70]) tie_wsX8_solveFlow rfl (by decide +kernel)) ggX8_solveFlow_X3_solve
theorem dX8_solveFlow_0 : decode cX8_solveFlow 0 = .ok (.aload_n 0, 1) := by decide +kernel
theorem dX8_solveFlow_1 : decode cX8_solveFlow 1 = .ok (.getfield 12, 3) := by decide +kernel
theorem dX8_solveFlow_4 : decode cX8_solveFlow 4 = .ok (.invokevirtual 71, 3) := by decide +kernel
theorem dX8_solveFlow_7 : decode cX8_solveFlow 7 = .ok (.iconst 0, 1) := by decide +kernel
theorem dX8_solveFlow_8 : decode cX8_solveFlow 8 = .ok (.istore_n 3, 1) := by decide +kernel
theorem dX8_solveFlow_9 : decode cX8_solveFlow 9 = .ok (.iload_n 3, 1) := by decide +kernel
theorem dX8_solveFlow_10 : decode cX8_solveFlow 10 = .ok (.bipush 8, 2) := by decide +kernel
theorem dX8_solveFlow_12 : decode cX8_solveFlow 12 = .ok (.if_icmp .ge 90, 3) := by decide +kernel
theorem dX8_solveFlow_15 : decode cX8_solveFlow 15 = .ok (.iload_n 1, 1) := by decide +kernel
theorem dX8_solveFlow_16 : decode cX8_solveFlow 16 = .ok (.iload_n 3, 1) := by decide +kernel
theorem dX8_solveFlow_17 : decode cX8_solveFlow 17 = .ok (.invokestatic 74, 3) := by decide +kernel
theorem dX8_solveFlow_20 : decode cX8_solveFlow 20 = .ok (.ifCond .eq 76, 3) := by decide +kernel
theorem dX8_solveFlow_23 : decode cX8_solveFlow 23 = .ok (.iload_n 3, 1) := by decide +kernel
theorem dX8_solveFlow_24 : decode cX8_solveFlow 24 = .ok (.iload_n 2, 1) := by decide +kernel
theorem dX8_solveFlow_25 : decode cX8_solveFlow 25 = .ok (.if_icmp .ne 6, 3) := by decide +kernel
theorem dX8_solveFlow_28 : decode cX8_solveFlow 28 = .ok (.goto 68, 3) := by decide +kernel
theorem dX8_solveFlow_31 : decode cX8_solveFlow 31 = .ok (.aload_n 0, 1) := by decide +kernel
theorem dX8_solveFlow_32 : decode cX8_solveFlow 32 = .ok (.getfield 12, 3) := by decide +kernel
theorem dX8_solveFlow_35 : decode cX8_solveFlow 35 = .ok (.iload_n 3, 1) := by decide +kernel
theorem dX8_solveFlow_36 : decode cX8_solveFlow 36 = .ok (.iload_n 3, 1) := by decide +kernel
theorem dX8_solveFlow_37 : decode cX8_solveFlow 37 = .ok (.aload_n 0, 1) := by decide +kernel
theorem dX8_solveFlow_38 : decode cX8_solveFlow 38 = .ok (.getfield 31, 3) := by decide +kernel
theorem dX8_solveFlow_41 : decode cX8_solveFlow 41 = .ok (.iload_n 3, 1) := by decide +kernel
theorem dX8_solveFlow_42 : decode cX8_solveFlow 42 = .ok (.invokevirtual 60, 3) := by decide +kernel
theorem dX8_solveFlow_45 : decode cX8_solveFlow 45 = .ok (.i2l, 1) := by decide +kernel
theorem dX8_solveFlow_46 : decode cX8_solveFlow 46 = .ok (.invokevirtual 130, 3) := by decide +kernel
theorem dX8_solveFlow_49 : decode cX8_solveFlow 49 = .ok (.iconst 0, 1) := by decide +kernel
theorem dX8_solveFlow_50 : decode cX8_solveFlow 50 = .ok (.istore 4, 2) := by decide +kernel
theorem dX8_solveFlow_52 : decode cX8_solveFlow 52 = .ok (.iload 4, 2) := by decide +kernel
theorem dX8_solveFlow_54 : decode cX8_solveFlow 54 = .ok (.bipush 8, 2) := by decide +kernel
theorem dX8_solveFlow_56 : decode cX8_solveFlow 56 = .ok (.if_icmp .ge 40, 3) := by decide +kernel
theorem dX8_solveFlow_59 : decode cX8_solveFlow 59 = .ok (.iload_n 1, 1) := by decide +kernel
theorem dX8_solveFlow_60 : decode cX8_solveFlow 60 = .ok (.iload 4, 2) := by decide +kernel
theorem dX8_solveFlow_62 : decode cX8_solveFlow 62 = .ok (.invokestatic 74, 3) := by decide +kernel
theorem dX8_solveFlow_65 : decode cX8_solveFlow 65 = .ok (.ifCond .eq 25, 3) := by decide +kernel
theorem dX8_solveFlow_68 : decode cX8_solveFlow 68 = .ok (.aload_n 0, 1) := by decide +kernel
theorem dX8_solveFlow_69 : decode cX8_solveFlow 69 = .ok (.getfield 12, 3) := by decide +kernel
theorem dX8_solveFlow_72 : decode cX8_solveFlow 72 = .ok (.iload_n 3, 1) := by decide +kernel
theorem dX8_solveFlow_73 : decode cX8_solveFlow 73 = .ok (.iload 4, 2) := by decide +kernel
theorem dX8_solveFlow_75 : decode cX8_solveFlow 75 = .ok (.aload_n 0, 1) := by decide +kernel
theorem dX8_solveFlow_76 : decode cX8_solveFlow 76 = .ok (.getfield 31, 3) := by decide +kernel
theorem dX8_solveFlow_79 : decode cX8_solveFlow 79 = .ok (.iload 4, 2) := by decide +kernel
theorem dX8_solveFlow_81 : decode cX8_solveFlow 81 = .ok (.iload_n 3, 1) := by decide +kernel
theorem dX8_solveFlow_82 : decode cX8_solveFlow 82 = .ok (.invokevirtual 100, 3) := by decide +kernel
theorem dX8_solveFlow_85 : decode cX8_solveFlow 85 = .ok (.ineg, 1) := by decide +kernel
theorem dX8_solveFlow_86 : decode cX8_solveFlow 86 = .ok (.i2l, 1) := by decide +kernel
theorem dX8_solveFlow_87 : decode cX8_solveFlow 87 = .ok (.invokevirtual 133, 3) := by decide +kernel
theorem dX8_solveFlow_90 : decode cX8_solveFlow 90 = .ok (.iinc 4 1, 3) := by decide +kernel
theorem dX8_solveFlow_93 : decode cX8_solveFlow 93 = .ok (.goto (-41), 3) := by decide +kernel
theorem dX8_solveFlow_96 : decode cX8_solveFlow 96 = .ok (.iinc 3 1, 3) := by decide +kernel
theorem dX8_solveFlow_99 : decode cX8_solveFlow 99 = .ok (.goto (-90), 3) := by decide +kernel
theorem dX8_solveFlow_102 : decode cX8_solveFlow 102 = .ok (.aload_n 0, 1) := by decide +kernel
theorem dX8_solveFlow_103 : decode cX8_solveFlow 103 = .ok (.getfield 12, 3) := by decide +kernel
theorem dX8_solveFlow_106 : decode cX8_solveFlow 106 = .ok (.iload_n 2, 1) := by decide +kernel
theorem dX8_solveFlow_107 : decode cX8_solveFlow 107 = .ok (.lconst 1, 1) := by decide +kernel
theorem dX8_solveFlow_108 : decode cX8_solveFlow 108 = .ok (.invokevirtual 82, 3) := by decide +kernel
theorem dX8_solveFlow_111 : decode cX8_solveFlow 111 = .ok (.aload_n 0, 1) := by decide +kernel
theorem dX8_solveFlow_112 : decode cX8_solveFlow 112 = .ok (.getfield 12, 3) := by decide +kernel
theorem dX8_solveFlow_115 : decode cX8_solveFlow 115 = .ok (.invokevirtual 86, 3) := by decide +kernel
theorem dX8_solveFlow_118 : decode cX8_solveFlow 118 = .ok (.return_, 1) := by decide +kernel
set_option maxRecDepth 20000 in
theorem ggX8_balance_X2_has : GoodIn wsX8_balance wsX2_has := goodIn_k tie_wsX8_balance tie_wsX2_has (by decide +kernel)
set_option maxRecDepth 20000 in
theorem gX8_balance_X2_has : GoodIn wsX8_balance (wsV RX8 39 RX2 yX2_has wsX2_has) := goodIn_app (goodIn_k (is := [991, 191, 192, 14]) tie_wsX8_balance rfl (by decide +kernel)) ggX8_balance_X2_has
set_option maxRecDepth 20000 in
theorem ggX8_balance_X3_clearRow : GoodIn wsX8_balance wsX3_clearRow := goodIn_k tie_wsX8_balance tie_wsX3_clearRow (by decide +kernel)
set_option maxRecDepth 20000 in
theorem gX8_balance_X3_clearRow : GoodIn wsX8_balance (wsV RX8 136 RX3 yX3_clearRow wsX3_clearRow) := goodIn_app (goodIn_k (is := [992, 980, 981, 70]) tie_wsX8_balance rfl (by decide +kernel)) ggX8_balance_X3_clearRow
set_option maxRecDepth 20000 in
theorem ggX8_balance_X2_divisorOf : GoodIn wsX8_balance wsX2_divisorOf := goodIn_k tie_wsX8_balance tie_wsX2_divisorOf (by decide +kernel)
set_option maxRecDepth 20000 in
theorem gX8_balance_X2_divisorOf : GoodIn wsX8_balance (wsV RX8 60 RX2 yX2_divisorOf wsX2_divisorOf) := goodIn_app (goodIn_k (is := [463, 404, 405, 14]) tie_wsX8_balance rfl (by decide +kernel)) ggX8_balance_X2_divisorOf
set_option maxRecDepth 20000 in
theorem ggX8_balance_X3_put : GoodIn wsX8_balance wsX3_put := goodIn_k tie_wsX8_balance tie_wsX3_put (by decide +kernel)
set_option maxRecDepth 20000 in
theorem gX8_balance_X3_put : GoodIn wsX8_balance (wsV RX8 130 RX3 yX3_put wsX3_put) := goodIn_app (goodIn_k (is := [993, 984, 985, 70]) tie_wsX8_balance rfl (by decide +kernel)) ggX8_balance_X3_put
set_option maxRecDepth 20000 in
theorem ggX8_balance_X2_stepWeight : GoodIn wsX8_balance wsX2_stepWeight := goodIn_k tie_wsX8_balance tie_wsX2_stepWeight (by decide +kernel)
set_option maxRecDepth 20000 in
theorem gX8_balance_X2_stepWeight : GoodIn wsX8_balance (wsV RX8 100 RX2 yX2_stepWeight wsX2_stepWeight) := goodIn_app (goodIn_k (is := [994, 995, 996, 14]) tie_wsX8_balance rfl (by decide +kernel)) ggX8_balance_X2_stepWeight
set_option maxRecDepth 20000 in
theorem ggX8_balance_X3_add : GoodIn wsX8_balance wsX3_add := goodIn_k tie_wsX8_balance tie_wsX3_add (by decide +kernel)
set_option maxRecDepth 20000 in
theorem gX8_balance_X3_add : GoodIn wsX8_balance (wsV RX8 133 RX3 yX3_add wsX3_add) := goodIn_app (goodIn_k (is := [998, 999, 1000, 70]) tie_wsX8_balance rfl (by decide +kernel)) ggX8_balance_X3_add
theorem dX8_balance_0 : decode cX8_balance 0 = .ok (.aload_n 0, 1) := by decide +kernel
theorem dX8_balance_1 : decode cX8_balance 1 = .ok (.getfield 31, 3) := by decide +kernel
theorem dX8_balance_4 : decode cX8_balance 4 = .ok (.iload_n 1, 1) := by decide +kernel
theorem dX8_balance_5 : decode cX8_balance 5 = .ok (.invokevirtual 39, 3) := by decide +kernel
theorem dX8_balance_8 : decode cX8_balance 8 = .ok (.ifCond .ne 4, 3) := by decide +kernel
theorem dX8_balance_11 : decode cX8_balance 11 = .ok (.return_, 1) := by decide +kernel
theorem dX8_balance_12 : decode cX8_balance 12 = .ok (.aload_n 0, 1) := by decide +kernel
theorem dX8_balance_13 : decode cX8_balance 13 = .ok (.getfield 12, 3) := by decide +kernel
theorem dX8_balance_16 : decode cX8_balance 16 = .ok (.iload_n 1, 1) := by decide +kernel
theorem dX8_balance_17 : decode cX8_balance 17 = .ok (.invokevirtual 136, 3) := by decide +kernel
theorem dX8_balance_20 : decode cX8_balance 20 = .ok (.aload_n 0, 1) := by decide +kernel
theorem dX8_balance_21 : decode cX8_balance 21 = .ok (.getfield 12, 3) := by decide +kernel
theorem dX8_balance_24 : decode cX8_balance 24 = .ok (.iload_n 1, 1) := by decide +kernel
theorem dX8_balance_25 : decode cX8_balance 25 = .ok (.iload_n 1, 1) := by decide +kernel
theorem dX8_balance_26 : decode cX8_balance 26 = .ok (.aload_n 0, 1) := by decide +kernel
theorem dX8_balance_27 : decode cX8_balance 27 = .ok (.getfield 31, 3) := by decide +kernel
theorem dX8_balance_30 : decode cX8_balance 30 = .ok (.iload_n 1, 1) := by decide +kernel
theorem dX8_balance_31 : decode cX8_balance 31 = .ok (.invokevirtual 60, 3) := by decide +kernel
theorem dX8_balance_34 : decode cX8_balance 34 = .ok (.i2l, 1) := by decide +kernel
theorem dX8_balance_35 : decode cX8_balance 35 = .ok (.invokevirtual 130, 3) := by decide +kernel
theorem dX8_balance_38 : decode cX8_balance 38 = .ok (.iconst 0, 1) := by decide +kernel
theorem dX8_balance_39 : decode cX8_balance 39 = .ok (.istore_n 2, 1) := by decide +kernel
theorem dX8_balance_40 : decode cX8_balance 40 = .ok (.iload_n 2, 1) := by decide +kernel
theorem dX8_balance_41 : decode cX8_balance 41 = .ok (.bipush 8, 2) := by decide +kernel
theorem dX8_balance_43 : decode cX8_balance 43 = .ok (.if_icmp .ge 29, 3) := by decide +kernel
theorem dX8_balance_46 : decode cX8_balance 46 = .ok (.aload_n 0, 1) := by decide +kernel
theorem dX8_balance_47 : decode cX8_balance 47 = .ok (.getfield 12, 3) := by decide +kernel
theorem dX8_balance_50 : decode cX8_balance 50 = .ok (.iload_n 1, 1) := by decide +kernel
theorem dX8_balance_51 : decode cX8_balance 51 = .ok (.iload_n 2, 1) := by decide +kernel
theorem dX8_balance_52 : decode cX8_balance 52 = .ok (.aload_n 0, 1) := by decide +kernel
theorem dX8_balance_53 : decode cX8_balance 53 = .ok (.getfield 31, 3) := by decide +kernel
theorem dX8_balance_56 : decode cX8_balance 56 = .ok (.iload_n 1, 1) := by decide +kernel
theorem dX8_balance_57 : decode cX8_balance 57 = .ok (.iload_n 2, 1) := by decide +kernel
theorem dX8_balance_58 : decode cX8_balance 58 = .ok (.invokevirtual 100, 3) := by decide +kernel
theorem dX8_balance_61 : decode cX8_balance 61 = .ok (.ineg, 1) := by decide +kernel
theorem dX8_balance_62 : decode cX8_balance 62 = .ok (.i2l, 1) := by decide +kernel
theorem dX8_balance_63 : decode cX8_balance 63 = .ok (.invokevirtual 133, 3) := by decide +kernel
theorem dX8_balance_66 : decode cX8_balance 66 = .ok (.iinc 2 1, 3) := by decide +kernel
theorem dX8_balance_69 : decode cX8_balance 69 = .ok (.goto (-29), 3) := by decide +kernel
theorem dX8_balance_72 : decode cX8_balance 72 = .ok (.return_, 1) := by decide +kernel
set_option maxRecDepth 20000 in
theorem ggX8_put_X11_commonDivisor : GoodIn wsX8_put wsX11_commonDivisor := goodIn_k tie_wsX8_put tie_wsX11_commonDivisor (by decide +kernel)
set_option maxRecDepth 20000 in
theorem gX8_put_X11_commonDivisor_n139 : GoodIn wsX8_put (wsX11_commonDivisor) := ggX8_put_X11_commonDivisor
set_option maxRecDepth 20000 in
theorem ggX8_put_X11_isIndex : GoodIn wsX8_put wsX11_isIndex := goodIn_k tie_wsX8_put tie_wsX11_isIndex (by decide +kernel)
set_option maxRecDepth 20000 in
theorem gX8_put_X11_isIndex_n35 : GoodIn wsX8_put (wsX11_isIndex) := ggX8_put_X11_isIndex
theorem dX8_put_0 : decode cX8_put 0 = .ok (.lload_n 2, 1) := by decide +kernel
theorem dX8_put_1 : decode cX8_put 1 = .ok (.lload 4, 2) := by decide +kernel
theorem dX8_put_3 : decode cX8_put 3 = .ok (.invokestatic 139, 3) := by decide +kernel
theorem dX8_put_6 : decode cX8_put 6 = .ok (.lstore 6, 2) := by decide +kernel
theorem dX8_put_8 : decode cX8_put 8 = .ok (.iload_n 1, 1) := by decide +kernel
theorem dX8_put_9 : decode cX8_put 9 = .ok (.invokestatic 35, 3) := by decide +kernel
theorem dX8_put_12 : decode cX8_put 12 = .ok (.ifCond .eq 31, 3) := by decide +kernel
theorem dX8_put_15 : decode cX8_put 15 = .ok (.lload 6, 2) := by decide +kernel
theorem dX8_put_17 : decode cX8_put 17 = .ok (.lconst 0, 1) := by decide +kernel
theorem dX8_put_18 : decode cX8_put 18 = .ok (.lcmp, 1) := by decide +kernel
theorem dX8_put_19 : decode cX8_put 19 = .ok (.ifCond .eq 24, 3) := by decide +kernel
theorem dX8_put_22 : decode cX8_put 22 = .ok (.aload_n 0, 1) := by decide +kernel
theorem dX8_put_23 : decode cX8_put 23 = .ok (.getfield 18, 3) := by decide +kernel
theorem dX8_put_26 : decode cX8_put 26 = .ok (.iload_n 1, 1) := by decide +kernel
theorem dX8_put_27 : decode cX8_put 27 = .ok (.lload_n 2, 1) := by decide +kernel
theorem dX8_put_28 : decode cX8_put 28 = .ok (.lload 6, 2) := by decide +kernel
theorem dX8_put_30 : decode cX8_put 30 = .ok (.ldiv, 1) := by decide +kernel
theorem dX8_put_31 : decode cX8_put 31 = .ok (.lastore, 1) := by decide +kernel
theorem dX8_put_32 : decode cX8_put 32 = .ok (.aload_n 0, 1) := by decide +kernel
theorem dX8_put_33 : decode cX8_put 33 = .ok (.getfield 22, 3) := by decide +kernel
theorem dX8_put_36 : decode cX8_put 36 = .ok (.iload_n 1, 1) := by decide +kernel
theorem dX8_put_37 : decode cX8_put 37 = .ok (.lload 4, 2) := by decide +kernel
theorem dX8_put_39 : decode cX8_put 39 = .ok (.lload 6, 2) := by decide +kernel
theorem dX8_put_41 : decode cX8_put 41 = .ok (.ldiv, 1) := by decide +kernel
theorem dX8_put_42 : decode cX8_put 42 = .ok (.lastore, 1) := by decide +kernel
theorem dX8_put_43 : decode cX8_put 43 = .ok (.return_, 1) := by decide +kernel
theorem dX9_init_0 : decode cX9_init 0 = .ok (.aload_n 0, 1) := by decide +kernel
theorem dX9_init_1 : decode cX9_init 1 = .ok (.invokespecial 1, 3) := by decide +kernel
theorem dX9_init_4 : decode cX9_init 4 = .ok (.aload_n 0, 1) := by decide +kernel
theorem dX9_init_5 : decode cX9_init 5 = .ok (.iload_n 1, 1) := by decide +kernel
theorem dX9_init_6 : decode cX9_init 6 = .ok (.putfield 7, 3) := by decide +kernel
theorem dX9_init_9 : decode cX9_init 9 = .ok (.aload_n 0, 1) := by decide +kernel
theorem dX9_init_10 : decode cX9_init 10 = .ok (.aload_n 2, 1) := by decide +kernel
theorem dX9_init_11 : decode cX9_init 11 = .ok (.putfield 13, 3) := by decide +kernel
theorem dX9_init_14 : decode cX9_init 14 = .ok (.aload_n 0, 1) := by decide +kernel
theorem dX9_init_15 : decode cX9_init 15 = .ok (.iload_n 3, 1) := by decide +kernel
theorem dX9_init_16 : decode cX9_init 16 = .ok (.putfield 17, 3) := by decide +kernel
theorem dX9_init_19 : decode cX9_init 19 = .ok (.aload_n 0, 1) := by decide +kernel
theorem dX9_init_20 : decode cX9_init 20 = .ok (.aload 4, 2) := by decide +kernel
theorem dX9_init_22 : decode cX9_init 22 = .ok (.putfield 20, 3) := by decide +kernel
theorem dX9_init_25 : decode cX9_init 25 = .ok (.aload_n 0, 1) := by decide +kernel
theorem dX9_init_26 : decode cX9_init 26 = .ok (.aload 5, 2) := by decide +kernel
theorem dX9_init_28 : decode cX9_init 28 = .ok (.putfield 24, 3) := by decide +kernel
theorem dX9_init_31 : decode cX9_init 31 = .ok (.aload 4, 2) := by decide +kernel
theorem dX9_init_33 : decode cX9_init 33 = .ok (.ifnonnull 7, 3) := by decide +kernel
theorem dX9_init_36 : decode cX9_init 36 = .ok (.iconst 0, 1) := by decide +kernel
theorem dX9_init_37 : decode cX9_init 37 = .ok (.goto 8, 3) := by decide +kernel
theorem dX9_init_40 : decode cX9_init 40 = .ok (.aload 4, 2) := by decide +kernel
theorem dX9_init_42 : decode cX9_init 42 = .ok (.getfield 27, 3) := by decide +kernel
theorem dX9_init_45 : decode cX9_init 45 = .ok (.aload 5, 2) := by decide +kernel
theorem dX9_init_47 : decode cX9_init 47 = .ok (.ifnonnull 7, 3) := by decide +kernel
theorem dX9_init_50 : decode cX9_init 50 = .ok (.iconst 0, 1) := by decide +kernel
theorem dX9_init_51 : decode cX9_init 51 = .ok (.goto 8, 3) := by decide +kernel
theorem dX9_init_54 : decode cX9_init 54 = .ok (.aload 5, 2) := by decide +kernel
theorem dX9_init_56 : decode cX9_init 56 = .ok (.getfield 27, 3) := by decide +kernel
theorem dX9_init_59 : decode cX9_init 59 = .ok (.invokestatic 30, 3) := by decide +kernel
theorem dX9_init_62 : decode cX9_init 62 = .ok (.istore 6, 2) := by decide +kernel
theorem dX9_init_64 : decode cX9_init 64 = .ok (.aload 4, 2) := by decide +kernel
theorem dX9_init_66 : decode cX9_init 66 = .ok (.ifnonnull 7, 3) := by decide +kernel
theorem dX9_init_69 : decode cX9_init 69 = .ok (.iconst 0, 1) := by decide +kernel
theorem dX9_init_70 : decode cX9_init 70 = .ok (.goto 8, 3) := by decide +kernel
theorem dX9_init_73 : decode cX9_init 73 = .ok (.aload 4, 2) := by decide +kernel
theorem dX9_init_75 : decode cX9_init 75 = .ok (.getfield 36, 3) := by decide +kernel
theorem dX9_init_78 : decode cX9_init 78 = .ok (.aload 5, 2) := by decide +kernel
theorem dX9_init_80 : decode cX9_init 80 = .ok (.ifnonnull 7, 3) := by decide +kernel
theorem dX9_init_83 : decode cX9_init 83 = .ok (.iconst 0, 1) := by decide +kernel
theorem dX9_init_84 : decode cX9_init 84 = .ok (.goto 8, 3) := by decide +kernel
theorem dX9_init_87 : decode cX9_init 87 = .ok (.aload 5, 2) := by decide +kernel
theorem dX9_init_89 : decode cX9_init 89 = .ok (.getfield 36, 3) := by decide +kernel
theorem dX9_init_92 : decode cX9_init 92 = .ok (.invokestatic 30, 3) := by decide +kernel
theorem dX9_init_95 : decode cX9_init 95 = .ok (.istore 7, 2) := by decide +kernel
theorem dX9_init_97 : decode cX9_init 97 = .ok (.aload_n 0, 1) := by decide +kernel
theorem dX9_init_98 : decode cX9_init 98 = .ok (.aload_n 2, 1) := by decide +kernel
theorem dX9_init_99 : decode cX9_init 99 = .ok (.ifnonnull 8, 3) := by decide +kernel
theorem dX9_init_102 : decode cX9_init 102 = .ok (.iload 6, 2) := by decide +kernel
theorem dX9_init_104 : decode cX9_init 104 = .ok (.goto 7, 3) := by decide +kernel
theorem dX9_init_107 : decode cX9_init 107 = .ok (.iload 6, 2) := by decide +kernel
theorem dX9_init_109 : decode cX9_init 109 = .ok (.iconst 1, 1) := by decide +kernel
theorem dX9_init_110 : decode cX9_init 110 = .ok (.iadd, 1) := by decide +kernel
theorem dX9_init_111 : decode cX9_init 111 = .ok (.putfield 27, 3) := by decide +kernel
theorem dX9_init_114 : decode cX9_init 114 = .ok (.aload_n 0, 1) := by decide +kernel
theorem dX9_init_115 : decode cX9_init 115 = .ok (.iload 7, 2) := by decide +kernel
theorem dX9_init_117 : decode cX9_init 117 = .ok (.iload_n 3, 1) := by decide +kernel
theorem dX9_init_118 : decode cX9_init 118 = .ok (.invokestatic 30, 3) := by decide +kernel
theorem dX9_init_121 : decode cX9_init 121 = .ok (.putfield 36, 3) := by decide +kernel
theorem dX9_init_124 : decode cX9_init 124 = .ok (.return_, 1) := by decide +kernel
theorem dX10_init_0 : decode cX10_init 0 = .ok (.aload_n 0, 1) := by decide +kernel
theorem dX10_init_1 : decode cX10_init 1 = .ok (.invokespecial 3, 3) := by decide +kernel
theorem dX10_init_4 : decode cX10_init 4 = .ok (.aload_n 0, 1) := by decide +kernel
theorem dX10_init_5 : decode cX10_init 5 = .ok (.aload_n 1, 1) := by decide +kernel
theorem dX10_init_6 : decode cX10_init 6 = .ok (.putfield 9, 3) := by decide +kernel
theorem dX10_init_9 : decode cX10_init 9 = .ok (.aload_n 0, 1) := by decide +kernel
theorem dX10_init_10 : decode cX10_init 10 = .ok (.iconst 0, 1) := by decide +kernel
theorem dX10_init_11 : decode cX10_init 11 = .ok (.putfield 15, 3) := by decide +kernel
theorem dX10_init_14 : decode cX10_init 14 = .ok (.aload_n 0, 1) := by decide +kernel
theorem dX10_init_15 : decode cX10_init 15 = .ok (.iconst 0, 1) := by decide +kernel
theorem dX10_init_16 : decode cX10_init 16 = .ok (.putfield 19, 3) := by decide +kernel
theorem dX10_init_19 : decode cX10_init 19 = .ok (.return_, 1) := by decide +kernel
theorem dX10_position_0 : decode cX10_position 0 = .ok (.aload_n 0, 1) := by decide +kernel
theorem dX10_position_1 : decode cX10_position 1 = .ok (.getfield 15, 3) := by decide +kernel
theorem dX10_position_4 : decode cX10_position 4 = .ok (.ireturn, 1) := by decide +kernel
set_option maxRecDepth 20000 in
theorem ggX10_isDone_J0_length_8abf5 : GoodIn wsX10_isDone wsJ0_length_8abf5 := goodIn_k tie_wsX10_isDone tie_wsJ0_length_8abf5 (by decide +kernel)
set_option maxRecDepth 20000 in
theorem gX10_isDone_J0_length_8abf5 : GoodIn wsX10_isDone (wsV RX10 23 RJ0 yJ0_length_8abf5 wsJ0_length_8abf5) := goodIn_app (goodIn_k (is := [705, 706, 707, 579]) tie_wsX10_isDone rfl (by decide +kernel)) ggX10_isDone_J0_length_8abf5
theorem dX10_isDone_0 : decode cX10_isDone 0 = .ok (.aload_n 0, 1) := by decide +kernel
theorem dX10_isDone_1 : decode cX10_isDone 1 = .ok (.getfield 19, 3) := by decide +kernel
theorem dX10_isDone_4 : decode cX10_isDone 4 = .ok (.ifCond .ne 21, 3) := by decide +kernel
theorem dX10_isDone_7 : decode cX10_isDone 7 = .ok (.aload_n 0, 1) := by decide +kernel
theorem dX10_isDone_8 : decode cX10_isDone 8 = .ok (.getfield 15, 3) := by decide +kernel
theorem dX10_isDone_11 : decode cX10_isDone 11 = .ok (.aload_n 0, 1) := by decide +kernel
theorem dX10_isDone_12 : decode cX10_isDone 12 = .ok (.getfield 9, 3) := by decide +kernel
theorem dX10_isDone_15 : decode cX10_isDone 15 = .ok (.invokevirtual 23, 3) := by decide +kernel
theorem dX10_isDone_18 : decode cX10_isDone 18 = .ok (.if_icmp .ne 7, 3) := by decide +kernel
theorem dX10_isDone_21 : decode cX10_isDone 21 = .ok (.iconst 1, 1) := by decide +kernel
theorem dX10_isDone_22 : decode cX10_isDone 22 = .ok (.goto 4, 3) := by decide +kernel
theorem dX10_isDone_25 : decode cX10_isDone 25 = .ok (.iconst 0, 1) := by decide +kernel
theorem dX10_isDone_26 : decode cX10_isDone 26 = .ok (.ireturn, 1) := by decide +kernel
set_option maxRecDepth 20000 in
theorem ggX10_readFormula_X10_peek : GoodIn wsX10_readFormula wsX10_peek := goodIn_k tie_wsX10_readFormula tie_wsX10_peek (by decide +kernel)
set_option maxRecDepth 20000 in
theorem gX10_readFormula_X10_peek : GoodIn wsX10_readFormula (wsV RX10 29 RX10 yX10_peek wsX10_peek) := goodIn_app (goodIn_k (is := [701, 702, 703, 615]) tie_wsX10_readFormula rfl (by decide +kernel)) ggX10_readFormula_X10_peek
set_option maxRecDepth 20000 in
theorem ggX10_readFormula_X9_init : GoodIn wsX10_readFormula wsX9_init := goodIn_k tie_wsX10_readFormula tie_wsX9_init (by decide +kernel)
set_option maxRecDepth 20000 in
theorem gX10_readFormula_X9_init : GoodIn wsX10_readFormula (wsX9_init) := ggX10_readFormula_X9_init
set_option maxRecDepth 20000 in
theorem ggX10_readFormula_X10_skip : GoodIn wsX10_readFormula wsX10_skip := goodIn_k tie_wsX10_readFormula tie_wsX10_skip (by decide +kernel)
set_option maxRecDepth 20000 in
theorem gX10_readFormula_X10_skip : GoodIn wsX10_readFormula (wsV RX10 38 RX10 yX10_skip wsX10_skip) := goodIn_app (goodIn_k (is := [740, 741, 742, 615]) tie_wsX10_readFormula rfl (by decide +kernel)) ggX10_readFormula_X10_skip
set_option maxRecDepth 20000 in
theorem ggX10_readFormula_X10_readOpposite : GoodIn wsX10_readFormula wsX10_readOpposite := goodIn_k tie_wsX10_readFormula tie_wsX10_readOpposite (by decide +kernel)
set_option maxRecDepth 20000 in
theorem gX10_readFormula_X10_readOpposite : GoodIn wsX10_readFormula (wsV RX10 42 RX10 yX10_readOpposite wsX10_readOpposite) := goodIn_app (goodIn_k (is := [744, 745, 746, 615]) tie_wsX10_readFormula rfl (by decide +kernel)) ggX10_readFormula_X10_readOpposite
set_option maxRecDepth 20000 in
theorem ggX10_readFormula_X10_readPair : GoodIn wsX10_readFormula wsX10_readPair := goodIn_k tie_wsX10_readFormula tie_wsX10_readPair (by decide +kernel)
set_option maxRecDepth 20000 in
theorem gX10_readFormula_X10_readPair : GoodIn wsX10_readFormula (wsV RX10 46 RX10 yX10_readPair wsX10_readPair) := goodIn_app (goodIn_k (is := [747, 748, 749, 615]) tie_wsX10_readFormula rfl (by decide +kernel)) ggX10_readFormula_X10_readPair
set_option maxRecDepth 20000 in
theorem ggX10_readFormula_X10_readProbability : GoodIn wsX10_readFormula wsX10_readProbability := goodIn_k tie_wsX10_readFormula tie_wsX10_readProbability (by decide +kernel)
set_option maxRecDepth 20000 in
theorem gX10_readFormula_X10_readProbability : GoodIn wsX10_readFormula (wsV RX10 49 RX10 yX10_readProbability wsX10_readProbability) := goodIn_app (goodIn_k (is := [750, 751, 752, 615]) tie_wsX10_readFormula rfl (by decide +kernel)) ggX10_readFormula_X10_readProbability
set_option maxRecDepth 20000 in
theorem ggX10_readFormula_X10_readBounded : GoodIn wsX10_readFormula wsX10_readBounded := goodIn_k tie_wsX10_readFormula tie_wsX10_readBounded (by decide +kernel)
set_option maxRecDepth 20000 in
theorem gX10_readFormula_X10_readBounded : GoodIn wsX10_readFormula (wsV RX10 52 RX10 yX10_readBounded wsX10_readBounded) := goodIn_app (goodIn_k (is := [753, 754, 755, 615]) tie_wsX10_readFormula rfl (by decide +kernel)) ggX10_readFormula_X10_readBounded
theorem dX10_readFormula_0 : decode cX10_readFormula 0 = .ok (.aload_n 0, 1) := by decide +kernel
theorem dX10_readFormula_1 : decode cX10_readFormula 1 = .ok (.invokevirtual 29, 3) := by decide +kernel
theorem dX10_readFormula_4 : decode cX10_readFormula 4 = .ok (.istore_n 2, 1) := by decide +kernel
theorem dX10_readFormula_5 : decode cX10_readFormula 5 = .ok (.iload_n 2, 1) := by decide +kernel
theorem dX10_readFormula_6 : decode cX10_readFormula 6 = .ok (.bipush 116, 2) := by decide +kernel
theorem dX10_readFormula_8 : decode cX10_readFormula 8 = .ok (.if_icmp .eq 15, 3) := by decide +kernel
theorem dX10_readFormula_11 : decode cX10_readFormula 11 = .ok (.iload_n 2, 1) := by decide +kernel
theorem dX10_readFormula_12 : decode cX10_readFormula 12 = .ok (.bipush 97, 2) := by decide +kernel
theorem dX10_readFormula_14 : decode cX10_readFormula 14 = .ok (.if_icmp .lt 32, 3) := by decide +kernel
theorem dX10_readFormula_17 : decode cX10_readFormula 17 = .ok (.iload_n 2, 1) := by decide +kernel
theorem dX10_readFormula_18 : decode cX10_readFormula 18 = .ok (.bipush 100, 2) := by decide +kernel
theorem dX10_readFormula_20 : decode cX10_readFormula 20 = .ok (.if_icmp .gt 26, 3) := by decide +kernel
theorem dX10_readFormula_23 : decode cX10_readFormula 23 = .ok (.aload_n 0, 1) := by decide +kernel
theorem dX10_readFormula_24 : decode cX10_readFormula 24 = .ok (.dup, 1) := by decide +kernel
theorem dX10_readFormula_25 : decode cX10_readFormula 25 = .ok (.getfield 15, 3) := by decide +kernel
theorem dX10_readFormula_28 : decode cX10_readFormula 28 = .ok (.iconst 1, 1) := by decide +kernel
theorem dX10_readFormula_29 : decode cX10_readFormula 29 = .ok (.iadd, 1) := by decide +kernel
theorem dX10_readFormula_30 : decode cX10_readFormula 30 = .ok (.putfield 15, 3) := by decide +kernel
theorem dX10_readFormula_33 : decode cX10_readFormula 33 = .ok (.new 33, 3) := by decide +kernel
theorem dX10_readFormula_36 : decode cX10_readFormula 36 = .ok (.dup, 1) := by decide +kernel
theorem dX10_readFormula_37 : decode cX10_readFormula 37 = .ok (.iload_n 2, 1) := by decide +kernel
theorem dX10_readFormula_38 : decode cX10_readFormula 38 = .ok (.aconst_null, 1) := by decide +kernel
theorem dX10_readFormula_39 : decode cX10_readFormula 39 = .ok (.iconst 0, 1) := by decide +kernel
theorem dX10_readFormula_40 : decode cX10_readFormula 40 = .ok (.aconst_null, 1) := by decide +kernel
theorem dX10_readFormula_41 : decode cX10_readFormula 41 = .ok (.aconst_null, 1) := by decide +kernel
theorem dX10_readFormula_42 : decode cX10_readFormula 42 = .ok (.invokespecial 35, 3) := by decide +kernel
theorem dX10_readFormula_45 : decode cX10_readFormula 45 = .ok (.areturn, 1) := by decide +kernel
theorem dX10_readFormula_46 : decode cX10_readFormula 46 = .ok (.iload_n 1, 1) := by decide +kernel
theorem dX10_readFormula_47 : decode cX10_readFormula 47 = .ok (.iconst 5, 1) := by decide +kernel
theorem dX10_readFormula_48 : decode cX10_readFormula 48 = .ok (.if_icmp .lt 8, 3) := by decide +kernel
theorem dX10_readFormula_51 : decode cX10_readFormula 51 = .ok (.aload_n 0, 1) := by decide +kernel
theorem dX10_readFormula_52 : decode cX10_readFormula 52 = .ok (.iconst 1, 1) := by decide +kernel
theorem dX10_readFormula_53 : decode cX10_readFormula 53 = .ok (.putfield 19, 3) := by decide +kernel
theorem dX10_readFormula_56 : decode cX10_readFormula 56 = .ok (.aload_n 0, 1) := by decide +kernel
theorem dX10_readFormula_57 : decode cX10_readFormula 57 = .ok (.bipush 33, 2) := by decide +kernel
theorem dX10_readFormula_59 : decode cX10_readFormula 59 = .ok (.invokevirtual 38, 3) := by decide +kernel
theorem dX10_readFormula_62 : decode cX10_readFormula 62 = .ok (.ifCond .eq 9, 3) := by decide +kernel
theorem dX10_readFormula_65 : decode cX10_readFormula 65 = .ok (.aload_n 0, 1) := by decide +kernel
theorem dX10_readFormula_66 : decode cX10_readFormula 66 = .ok (.iload_n 1, 1) := by decide +kernel
theorem dX10_readFormula_67 : decode cX10_readFormula 67 = .ok (.invokevirtual 42, 3) := by decide +kernel
theorem dX10_readFormula_70 : decode cX10_readFormula 70 = .ok (.areturn, 1) := by decide +kernel
theorem dX10_readFormula_71 : decode cX10_readFormula 71 = .ok (.aload_n 0, 1) := by decide +kernel
theorem dX10_readFormula_72 : decode cX10_readFormula 72 = .ok (.bipush 40, 2) := by decide +kernel
theorem dX10_readFormula_74 : decode cX10_readFormula 74 = .ok (.invokevirtual 38, 3) := by decide +kernel
theorem dX10_readFormula_77 : decode cX10_readFormula 77 = .ok (.ifCond .eq 9, 3) := by decide +kernel
theorem dX10_readFormula_80 : decode cX10_readFormula 80 = .ok (.aload_n 0, 1) := by decide +kernel
theorem dX10_readFormula_81 : decode cX10_readFormula 81 = .ok (.iload_n 1, 1) := by decide +kernel
theorem dX10_readFormula_82 : decode cX10_readFormula 82 = .ok (.invokevirtual 46, 3) := by decide +kernel
theorem dX10_readFormula_85 : decode cX10_readFormula 85 = .ok (.areturn, 1) := by decide +kernel
theorem dX10_readFormula_86 : decode cX10_readFormula 86 = .ok (.aload_n 0, 1) := by decide +kernel
theorem dX10_readFormula_87 : decode cX10_readFormula 87 = .ok (.bipush 80, 2) := by decide +kernel
theorem dX10_readFormula_89 : decode cX10_readFormula 89 = .ok (.invokevirtual 38, 3) := by decide +kernel
theorem dX10_readFormula_92 : decode cX10_readFormula 92 = .ok (.ifCond .eq 9, 3) := by decide +kernel
theorem dX10_readFormula_95 : decode cX10_readFormula 95 = .ok (.aload_n 0, 1) := by decide +kernel
theorem dX10_readFormula_96 : decode cX10_readFormula 96 = .ok (.iload_n 1, 1) := by decide +kernel
theorem dX10_readFormula_97 : decode cX10_readFormula 97 = .ok (.invokevirtual 49, 3) := by decide +kernel
theorem dX10_readFormula_100 : decode cX10_readFormula 100 = .ok (.areturn, 1) := by decide +kernel
theorem dX10_readFormula_101 : decode cX10_readFormula 101 = .ok (.aload_n 0, 1) := by decide +kernel
theorem dX10_readFormula_102 : decode cX10_readFormula 102 = .ok (.bipush 83, 2) := by decide +kernel
theorem dX10_readFormula_104 : decode cX10_readFormula 104 = .ok (.invokevirtual 38, 3) := by decide +kernel
theorem dX10_readFormula_107 : decode cX10_readFormula 107 = .ok (.ifCond .eq 11, 3) := by decide +kernel
theorem dX10_readFormula_110 : decode cX10_readFormula 110 = .ok (.aload_n 0, 1) := by decide +kernel
theorem dX10_readFormula_111 : decode cX10_readFormula 111 = .ok (.bipush 83, 2) := by decide +kernel
theorem dX10_readFormula_113 : decode cX10_readFormula 113 = .ok (.iload_n 1, 1) := by decide +kernel
theorem dX10_readFormula_114 : decode cX10_readFormula 114 = .ok (.invokevirtual 52, 3) := by decide +kernel
theorem dX10_readFormula_117 : decode cX10_readFormula 117 = .ok (.areturn, 1) := by decide +kernel
theorem dX10_readFormula_118 : decode cX10_readFormula 118 = .ok (.aload_n 0, 1) := by decide +kernel
theorem dX10_readFormula_119 : decode cX10_readFormula 119 = .ok (.bipush 82, 2) := by decide +kernel
theorem dX10_readFormula_121 : decode cX10_readFormula 121 = .ok (.invokevirtual 38, 3) := by decide +kernel
theorem dX10_readFormula_124 : decode cX10_readFormula 124 = .ok (.ifCond .eq 11, 3) := by decide +kernel
theorem dX10_readFormula_127 : decode cX10_readFormula 127 = .ok (.aload_n 0, 1) := by decide +kernel
theorem dX10_readFormula_128 : decode cX10_readFormula 128 = .ok (.bipush 82, 2) := by decide +kernel
theorem dX10_readFormula_130 : decode cX10_readFormula 130 = .ok (.iload_n 1, 1) := by decide +kernel
theorem dX10_readFormula_131 : decode cX10_readFormula 131 = .ok (.invokevirtual 52, 3) := by decide +kernel
theorem dX10_readFormula_134 : decode cX10_readFormula 134 = .ok (.areturn, 1) := by decide +kernel
theorem dX10_readFormula_135 : decode cX10_readFormula 135 = .ok (.aload_n 0, 1) := by decide +kernel
theorem dX10_readFormula_136 : decode cX10_readFormula 136 = .ok (.iconst 1, 1) := by decide +kernel
theorem dX10_readFormula_137 : decode cX10_readFormula 137 = .ok (.putfield 19, 3) := by decide +kernel
theorem dX10_readFormula_140 : decode cX10_readFormula 140 = .ok (.aconst_null, 1) := by decide +kernel
theorem dX10_readFormula_141 : decode cX10_readFormula 141 = .ok (.areturn, 1) := by decide +kernel
set_option maxRecDepth 20000 in
theorem ggX10_readOpposite_X10_readFormula : GoodIn wsX10_readOpposite wsX10_readFormula := goodIn_k tie_wsX10_readOpposite tie_wsX10_readFormula (by decide +kernel)
set_option maxRecDepth 20000 in
theorem gX10_readOpposite_X10_readFormula : GoodIn wsX10_readOpposite (wsV RX10 56 RX10 yX10_readFormula wsX10_readFormula) := goodIn_app (goodIn_k (is := [780, 695, 696, 615]) tie_wsX10_readOpposite rfl (by decide +kernel)) ggX10_readOpposite_X10_readFormula
set_option maxRecDepth 20000 in
theorem ggX10_readOpposite_X9_init : GoodIn wsX10_readOpposite wsX9_init := goodIn_k tie_wsX10_readOpposite tie_wsX9_init (by decide +kernel)
set_option maxRecDepth 20000 in
theorem gX10_readOpposite_X9_init : GoodIn wsX10_readOpposite (wsX9_init) := ggX10_readOpposite_X9_init
theorem dX10_readOpposite_0 : decode cX10_readOpposite 0 = .ok (.new 33, 3) := by decide +kernel
theorem dX10_readOpposite_3 : decode cX10_readOpposite 3 = .ok (.dup, 1) := by decide +kernel
theorem dX10_readOpposite_4 : decode cX10_readOpposite 4 = .ok (.bipush 33, 2) := by decide +kernel
theorem dX10_readOpposite_6 : decode cX10_readOpposite 6 = .ok (.aconst_null, 1) := by decide +kernel
theorem dX10_readOpposite_7 : decode cX10_readOpposite 7 = .ok (.iconst 0, 1) := by decide +kernel
theorem dX10_readOpposite_8 : decode cX10_readOpposite 8 = .ok (.aload_n 0, 1) := by decide +kernel
theorem dX10_readOpposite_9 : decode cX10_readOpposite 9 = .ok (.iload_n 1, 1) := by decide +kernel
theorem dX10_readOpposite_10 : decode cX10_readOpposite 10 = .ok (.iconst 1, 1) := by decide +kernel
theorem dX10_readOpposite_11 : decode cX10_readOpposite 11 = .ok (.iadd, 1) := by decide +kernel
theorem dX10_readOpposite_12 : decode cX10_readOpposite 12 = .ok (.invokevirtual 56, 3) := by decide +kernel
theorem dX10_readOpposite_15 : decode cX10_readOpposite 15 = .ok (.aconst_null, 1) := by decide +kernel
theorem dX10_readOpposite_16 : decode cX10_readOpposite 16 = .ok (.invokespecial 35, 3) := by decide +kernel
theorem dX10_readOpposite_19 : decode cX10_readOpposite 19 = .ok (.areturn, 1) := by decide +kernel
set_option maxRecDepth 20000 in
theorem ggX10_readPair_X10_readFormula : GoodIn wsX10_readPair wsX10_readFormula := goodIn_k tie_wsX10_readPair tie_wsX10_readFormula (by decide +kernel)
set_option maxRecDepth 20000 in
theorem gX10_readPair_X10_readFormula : GoodIn wsX10_readPair (wsV RX10 56 RX10 yX10_readFormula wsX10_readFormula) := goodIn_app (goodIn_k (is := [780, 695, 696, 615]) tie_wsX10_readPair rfl (by decide +kernel)) ggX10_readPair_X10_readFormula
set_option maxRecDepth 20000 in
theorem ggX10_readPair_X10_skip : GoodIn wsX10_readPair wsX10_skip := goodIn_k tie_wsX10_readPair tie_wsX10_skip (by decide +kernel)
set_option maxRecDepth 20000 in
theorem gX10_readPair_X10_skip : GoodIn wsX10_readPair (wsV RX10 38 RX10 yX10_skip wsX10_skip) := goodIn_app (goodIn_k (is := [740, 741, 742, 615]) tie_wsX10_readPair rfl (by decide +kernel)) ggX10_readPair_X10_skip
set_option maxRecDepth 20000 in
theorem ggX10_readPair_X10_expect : GoodIn wsX10_readPair wsX10_expect := goodIn_k tie_wsX10_readPair tie_wsX10_expect (by decide +kernel)
set_option maxRecDepth 20000 in
theorem gX10_readPair_X10_expect : GoodIn wsX10_readPair (wsV RX10 59 RX10 yX10_expect wsX10_expect) := goodIn_app (goodIn_k (is := [764, 765, 766, 615]) tie_wsX10_readPair rfl (by decide +kernel)) ggX10_readPair_X10_expect
set_option maxRecDepth 20000 in
theorem ggX10_readPair_X9_init : GoodIn wsX10_readPair wsX9_init := goodIn_k tie_wsX10_readPair tie_wsX9_init (by decide +kernel)
set_option maxRecDepth 20000 in
theorem gX10_readPair_X9_init : GoodIn wsX10_readPair (wsX9_init) := ggX10_readPair_X9_init
theorem dX10_readPair_0 : decode cX10_readPair 0 = .ok (.aload_n 0, 1) := by decide +kernel
theorem dX10_readPair_1 : decode cX10_readPair 1 = .ok (.iload_n 1, 1) := by decide +kernel
theorem dX10_readPair_2 : decode cX10_readPair 2 = .ok (.iconst 1, 1) := by decide +kernel
theorem dX10_readPair_3 : decode cX10_readPair 3 = .ok (.iadd, 1) := by decide +kernel
theorem dX10_readPair_4 : decode cX10_readPair 4 = .ok (.invokevirtual 56, 3) := by decide +kernel
theorem dX10_readPair_7 : decode cX10_readPair 7 = .ok (.astore_n 2, 1) := by decide +kernel
theorem dX10_readPair_8 : decode cX10_readPair 8 = .ok (.bipush 38, 2) := by decide +kernel
theorem dX10_readPair_10 : decode cX10_readPair 10 = .ok (.istore_n 3, 1) := by decide +kernel
theorem dX10_readPair_11 : decode cX10_readPair 11 = .ok (.aload_n 0, 1) := by decide +kernel
theorem dX10_readPair_12 : decode cX10_readPair 12 = .ok (.bipush 38, 2) := by decide +kernel
theorem dX10_readPair_14 : decode cX10_readPair 14 = .ok (.invokevirtual 38, 3) := by decide +kernel
theorem dX10_readPair_17 : decode cX10_readPair 17 = .ok (.ifCond .ne 12, 3) := by decide +kernel
theorem dX10_readPair_20 : decode cX10_readPair 20 = .ok (.bipush 124, 2) := by decide +kernel
theorem dX10_readPair_22 : decode cX10_readPair 22 = .ok (.istore_n 3, 1) := by decide +kernel
theorem dX10_readPair_23 : decode cX10_readPair 23 = .ok (.aload_n 0, 1) := by decide +kernel
theorem dX10_readPair_24 : decode cX10_readPair 24 = .ok (.bipush 124, 2) := by decide +kernel
theorem dX10_readPair_26 : decode cX10_readPair 26 = .ok (.invokevirtual 59, 3) := by decide +kernel
theorem dX10_readPair_29 : decode cX10_readPair 29 = .ok (.aload_n 0, 1) := by decide +kernel
theorem dX10_readPair_30 : decode cX10_readPair 30 = .ok (.iload_n 1, 1) := by decide +kernel
theorem dX10_readPair_31 : decode cX10_readPair 31 = .ok (.iconst 1, 1) := by decide +kernel
theorem dX10_readPair_32 : decode cX10_readPair 32 = .ok (.iadd, 1) := by decide +kernel
theorem dX10_readPair_33 : decode cX10_readPair 33 = .ok (.invokevirtual 56, 3) := by decide +kernel
theorem dX10_readPair_36 : decode cX10_readPair 36 = .ok (.astore 4, 2) := by decide +kernel
theorem dX10_readPair_38 : decode cX10_readPair 38 = .ok (.aload_n 0, 1) := by decide +kernel
theorem dX10_readPair_39 : decode cX10_readPair 39 = .ok (.bipush 41, 2) := by decide +kernel
theorem dX10_readPair_41 : decode cX10_readPair 41 = .ok (.invokevirtual 59, 3) := by decide +kernel
theorem dX10_readPair_44 : decode cX10_readPair 44 = .ok (.new 33, 3) := by decide +kernel
theorem dX10_readPair_47 : decode cX10_readPair 47 = .ok (.dup, 1) := by decide +kernel
theorem dX10_readPair_48 : decode cX10_readPair 48 = .ok (.iload_n 3, 1) := by decide +kernel
theorem dX10_readPair_49 : decode cX10_readPair 49 = .ok (.aconst_null, 1) := by decide +kernel
theorem dX10_readPair_50 : decode cX10_readPair 50 = .ok (.iconst 0, 1) := by decide +kernel
theorem dX10_readPair_51 : decode cX10_readPair 51 = .ok (.aload_n 2, 1) := by decide +kernel
theorem dX10_readPair_52 : decode cX10_readPair 52 = .ok (.aload 4, 2) := by decide +kernel
theorem dX10_readPair_54 : decode cX10_readPair 54 = .ok (.invokespecial 35, 3) := by decide +kernel
theorem dX10_readPair_57 : decode cX10_readPair 57 = .ok (.areturn, 1) := by decide +kernel
set_option maxRecDepth 20000 in
theorem ggX10_readBounded_X10_readBound : GoodIn wsX10_readBounded wsX10_readBound := goodIn_k tie_wsX10_readBounded tie_wsX10_readBound (by decide +kernel)
set_option maxRecDepth 20000 in
theorem gX10_readBounded_X10_readBound : GoodIn wsX10_readBounded (wsV RX10 63 RX10 yX10_readBound wsX10_readBound) := goodIn_app (goodIn_k (is := [757, 758, 759, 615]) tie_wsX10_readBounded rfl (by decide +kernel)) ggX10_readBounded_X10_readBound
set_option maxRecDepth 20000 in
theorem ggX10_readBounded_X10_expect : GoodIn wsX10_readBounded wsX10_expect := goodIn_k tie_wsX10_readBounded tie_wsX10_expect (by decide +kernel)
set_option maxRecDepth 20000 in
theorem gX10_readBounded_X10_expect : GoodIn wsX10_readBounded (wsV RX10 59 RX10 yX10_expect wsX10_expect) := goodIn_app (goodIn_k (is := [764, 765, 766, 615]) tie_wsX10_readBounded rfl (by decide +kernel)) ggX10_readBounded_X10_expect
set_option maxRecDepth 20000 in
theorem ggX10_readBounded_X10_readFormula : GoodIn wsX10_readBounded wsX10_readFormula := goodIn_k tie_wsX10_readBounded tie_wsX10_readFormula (by decide +kernel)
set_option maxRecDepth 20000 in
theorem gX10_readBounded_X10_readFormula : GoodIn wsX10_readBounded (wsV RX10 56 RX10 yX10_readFormula wsX10_readFormula) := goodIn_app (goodIn_k (is := [780, 695, 696, 615]) tie_wsX10_readBounded rfl (by decide +kernel)) ggX10_readBounded_X10_readFormula
set_option maxRecDepth 20000 in
theorem ggX10_readBounded_X9_init : GoodIn wsX10_readBounded wsX9_init := goodIn_k tie_wsX10_readBounded tie_wsX9_init (by decide +kernel)
set_option maxRecDepth 20000 in
theorem gX10_readBounded_X9_init : GoodIn wsX10_readBounded (wsX9_init) := ggX10_readBounded_X9_init
theorem dX10_readBounded_0 : decode cX10_readBounded 0 = .ok (.aload_n 0, 1) := by decide +kernel
theorem dX10_readBounded_1 : decode cX10_readBounded 1 = .ok (.invokevirtual 63, 3) := by decide +kernel
theorem dX10_readBounded_4 : decode cX10_readBounded 4 = .ok (.astore_n 3, 1) := by decide +kernel
theorem dX10_readBounded_5 : decode cX10_readBounded 5 = .ok (.aload_n 0, 1) := by decide +kernel
theorem dX10_readBounded_6 : decode cX10_readBounded 6 = .ok (.bipush 91, 2) := by decide +kernel
theorem dX10_readBounded_8 : decode cX10_readBounded 8 = .ok (.invokevirtual 59, 3) := by decide +kernel
theorem dX10_readBounded_11 : decode cX10_readBounded 11 = .ok (.aload_n 0, 1) := by decide +kernel
theorem dX10_readBounded_12 : decode cX10_readBounded 12 = .ok (.iload_n 2, 1) := by decide +kernel
theorem dX10_readBounded_13 : decode cX10_readBounded 13 = .ok (.iconst 1, 1) := by decide +kernel
theorem dX10_readBounded_14 : decode cX10_readBounded 14 = .ok (.iadd, 1) := by decide +kernel
theorem dX10_readBounded_15 : decode cX10_readBounded 15 = .ok (.invokevirtual 56, 3) := by decide +kernel
theorem dX10_readBounded_18 : decode cX10_readBounded 18 = .ok (.astore 4, 2) := by decide +kernel
theorem dX10_readBounded_20 : decode cX10_readBounded 20 = .ok (.aload_n 0, 1) := by decide +kernel
theorem dX10_readBounded_21 : decode cX10_readBounded 21 = .ok (.bipush 93, 2) := by decide +kernel
theorem dX10_readBounded_23 : decode cX10_readBounded 23 = .ok (.invokevirtual 59, 3) := by decide +kernel
theorem dX10_readBounded_26 : decode cX10_readBounded 26 = .ok (.new 33, 3) := by decide +kernel
theorem dX10_readBounded_29 : decode cX10_readBounded 29 = .ok (.dup, 1) := by decide +kernel
theorem dX10_readBounded_30 : decode cX10_readBounded 30 = .ok (.iload_n 1, 1) := by decide +kernel
theorem dX10_readBounded_31 : decode cX10_readBounded 31 = .ok (.aload_n 3, 1) := by decide +kernel
theorem dX10_readBounded_32 : decode cX10_readBounded 32 = .ok (.iconst 0, 1) := by decide +kernel
theorem dX10_readBounded_33 : decode cX10_readBounded 33 = .ok (.aload 4, 2) := by decide +kernel
theorem dX10_readBounded_35 : decode cX10_readBounded 35 = .ok (.aconst_null, 1) := by decide +kernel
theorem dX10_readBounded_36 : decode cX10_readBounded 36 = .ok (.invokespecial 35, 3) := by decide +kernel
theorem dX10_readBounded_39 : decode cX10_readBounded 39 = .ok (.areturn, 1) := by decide +kernel
set_option maxRecDepth 20000 in
theorem ggX10_readProbability_X10_readBound : GoodIn wsX10_readProbability wsX10_readBound := goodIn_k tie_wsX10_readProbability tie_wsX10_readBound (by decide +kernel)
set_option maxRecDepth 20000 in
theorem gX10_readProbability_X10_readBound : GoodIn wsX10_readProbability (wsV RX10 63 RX10 yX10_readBound wsX10_readBound) := goodIn_app (goodIn_k (is := [757, 758, 759, 615]) tie_wsX10_readProbability rfl (by decide +kernel)) ggX10_readProbability_X10_readBound
set_option maxRecDepth 20000 in
theorem ggX10_readProbability_X10_expect : GoodIn wsX10_readProbability wsX10_expect := goodIn_k tie_wsX10_readProbability tie_wsX10_expect (by decide +kernel)
set_option maxRecDepth 20000 in
theorem gX10_readProbability_X10_expect : GoodIn wsX10_readProbability (wsV RX10 59 RX10 yX10_expect wsX10_expect) := goodIn_app (goodIn_k (is := [764, 765, 766, 615]) tie_wsX10_readProbability rfl (by decide +kernel)) ggX10_readProbability_X10_expect
set_option maxRecDepth 20000 in
theorem ggX10_readProbability_X10_peek : GoodIn wsX10_readProbability wsX10_peek := goodIn_k tie_wsX10_readProbability tie_wsX10_peek (by decide +kernel)
set_option maxRecDepth 20000 in
theorem gX10_readProbability_X10_peek : GoodIn wsX10_readProbability (wsV RX10 29 RX10 yX10_peek wsX10_peek) := goodIn_app (goodIn_k (is := [701, 702, 703, 615]) tie_wsX10_readProbability rfl (by decide +kernel)) ggX10_readProbability_X10_peek
set_option maxRecDepth 20000 in
theorem ggX10_readProbability_X10_skip : GoodIn wsX10_readProbability wsX10_skip := goodIn_k tie_wsX10_readProbability tie_wsX10_skip (by decide +kernel)
set_option maxRecDepth 20000 in
theorem gX10_readProbability_X10_skip : GoodIn wsX10_readProbability (wsV RX10 38 RX10 yX10_skip wsX10_skip) := goodIn_app (goodIn_k (is := [740, 741, 742, 615]) tie_wsX10_readProbability rfl (by decide +kernel)) ggX10_readProbability_X10_skip
set_option maxRecDepth 20000 in
theorem ggX10_readProbability_X10_readSteps : GoodIn wsX10_readProbability wsX10_readSteps := goodIn_k tie_wsX10_readProbability tie_wsX10_readSteps (by decide +kernel)
set_option maxRecDepth 20000 in
theorem gX10_readProbability_X10_readSteps : GoodIn wsX10_readProbability (wsV RX10 67 RX10 yX10_readSteps wsX10_readSteps) := goodIn_app (goodIn_k (is := [784, 785, 786, 615]) tie_wsX10_readProbability rfl (by decide +kernel)) ggX10_readProbability_X10_readSteps
set_option maxRecDepth 20000 in
theorem ggX10_readProbability_X10_readFormula : GoodIn wsX10_readProbability wsX10_readFormula := goodIn_k tie_wsX10_readProbability tie_wsX10_readFormula (by decide +kernel)
set_option maxRecDepth 20000 in
theorem gX10_readProbability_X10_readFormula : GoodIn wsX10_readProbability (wsV RX10 56 RX10 yX10_readFormula wsX10_readFormula) := goodIn_app (goodIn_k (is := [780, 695, 696, 615]) tie_wsX10_readProbability rfl (by decide +kernel)) ggX10_readProbability_X10_readFormula
set_option maxRecDepth 20000 in
theorem ggX10_readProbability_X9_init : GoodIn wsX10_readProbability wsX9_init := goodIn_k tie_wsX10_readProbability tie_wsX9_init (by decide +kernel)
set_option maxRecDepth 20000 in
theorem gX10_readProbability_X9_init : GoodIn wsX10_readProbability (wsX9_init) := ggX10_readProbability_X9_init
theorem dX10_readProbability_0 : decode cX10_readProbability 0 = .ok (.aload_n 0, 1) := by decide +kernel
theorem dX10_readProbability_1 : decode cX10_readProbability 1 = .ok (.invokevirtual 63, 3) := by decide +kernel
theorem dX10_readProbability_4 : decode cX10_readProbability 4 = .ok (.astore_n 2, 1) := by decide +kernel
theorem dX10_readProbability_5 : decode cX10_readProbability 5 = .ok (.aload_n 0, 1) := by decide +kernel
theorem dX10_readProbability_6 : decode cX10_readProbability 6 = .ok (.bipush 91, 2) := by decide +kernel
theorem dX10_readProbability_8 : decode cX10_readProbability 8 = .ok (.invokevirtual 59, 3) := by decide +kernel
theorem dX10_readProbability_11 : decode cX10_readProbability 11 = .ok (.aload_n 0, 1) := by decide +kernel
theorem dX10_readProbability_12 : decode cX10_readProbability 12 = .ok (.invokevirtual 29, 3) := by decide +kernel
theorem dX10_readProbability_15 : decode cX10_readProbability 15 = .ok (.istore_n 3, 1) := by decide +kernel
theorem dX10_readProbability_16 : decode cX10_readProbability 16 = .ok (.iload_n 3, 1) := by decide +kernel
theorem dX10_readProbability_17 : decode cX10_readProbability 17 = .ok (.bipush 88, 2) := by decide +kernel
theorem dX10_readProbability_19 : decode cX10_readProbability 19 = .ok (.if_icmp .eq 32, 3) := by decide +kernel
theorem dX10_readProbability_22 : decode cX10_readProbability 22 = .ok (.iload_n 3, 1) := by decide +kernel
theorem dX10_readProbability_23 : decode cX10_readProbability 23 = .ok (.bipush 70, 2) := by decide +kernel
theorem dX10_readProbability_25 : decode cX10_readProbability 25 = .ok (.if_icmp .eq 26, 3) := by decide +kernel
theorem dX10_readProbability_28 : decode cX10_readProbability 28 = .ok (.iload_n 3, 1) := by decide +kernel
theorem dX10_readProbability_29 : decode cX10_readProbability 29 = .ok (.bipush 71, 2) := by decide +kernel
theorem dX10_readProbability_31 : decode cX10_readProbability 31 = .ok (.if_icmp .eq 20, 3) := by decide +kernel
theorem dX10_readProbability_34 : decode cX10_readProbability 34 = .ok (.iload_n 3, 1) := by decide +kernel
theorem dX10_readProbability_35 : decode cX10_readProbability 35 = .ok (.bipush 85, 2) := by decide +kernel
theorem dX10_readProbability_37 : decode cX10_readProbability 37 = .ok (.if_icmp .eq 14, 3) := by decide +kernel
theorem dX10_readProbability_40 : decode cX10_readProbability 40 = .ok (.iload_n 3, 1) := by decide +kernel
theorem dX10_readProbability_41 : decode cX10_readProbability 41 = .ok (.bipush 66, 2) := by decide +kernel
theorem dX10_readProbability_43 : decode cX10_readProbability 43 = .ok (.if_icmp .eq 8, 3) := by decide +kernel
theorem dX10_readProbability_46 : decode cX10_readProbability 46 = .ok (.aload_n 0, 1) := by decide +kernel
theorem dX10_readProbability_47 : decode cX10_readProbability 47 = .ok (.iconst 1, 1) := by decide +kernel
theorem dX10_readProbability_48 : decode cX10_readProbability 48 = .ok (.putfield 19, 3) := by decide +kernel
theorem dX10_readProbability_51 : decode cX10_readProbability 51 = .ok (.aload_n 0, 1) := by decide +kernel
theorem dX10_readProbability_52 : decode cX10_readProbability 52 = .ok (.iload_n 3, 1) := by decide +kernel
theorem dX10_readProbability_53 : decode cX10_readProbability 53 = .ok (.invokevirtual 38, 3) := by decide +kernel
theorem dX10_readProbability_56 : decode cX10_readProbability 56 = .ok (.pop, 1) := by decide +kernel
theorem dX10_readProbability_57 : decode cX10_readProbability 57 = .ok (.iload_n 3, 1) := by decide +kernel
theorem dX10_readProbability_58 : decode cX10_readProbability 58 = .ok (.bipush 66, 2) := by decide +kernel
theorem dX10_readProbability_60 : decode cX10_readProbability 60 = .ok (.if_icmp .ne 10, 3) := by decide +kernel
theorem dX10_readProbability_63 : decode cX10_readProbability 63 = .ok (.aload_n 0, 1) := by decide +kernel
theorem dX10_readProbability_64 : decode cX10_readProbability 64 = .ok (.invokevirtual 67, 3) := by decide +kernel
theorem dX10_readProbability_67 : decode cX10_readProbability 67 = .ok (.goto 4, 3) := by decide +kernel
theorem dX10_readProbability_70 : decode cX10_readProbability 70 = .ok (.iconst 0, 1) := by decide +kernel
theorem dX10_readProbability_71 : decode cX10_readProbability 71 = .ok (.istore 4, 2) := by decide +kernel
theorem dX10_readProbability_73 : decode cX10_readProbability 73 = .ok (.aload_n 0, 1) := by decide +kernel
theorem dX10_readProbability_74 : decode cX10_readProbability 74 = .ok (.iload_n 1, 1) := by decide +kernel
theorem dX10_readProbability_75 : decode cX10_readProbability 75 = .ok (.iconst 1, 1) := by decide +kernel
theorem dX10_readProbability_76 : decode cX10_readProbability 76 = .ok (.iadd, 1) := by decide +kernel
theorem dX10_readProbability_77 : decode cX10_readProbability 77 = .ok (.invokevirtual 56, 3) := by decide +kernel
theorem dX10_readProbability_80 : decode cX10_readProbability 80 = .ok (.astore 5, 2) := by decide +kernel
theorem dX10_readProbability_82 : decode cX10_readProbability 82 = .ok (.aconst_null, 1) := by decide +kernel
theorem dX10_readProbability_83 : decode cX10_readProbability 83 = .ok (.astore 6, 2) := by decide +kernel
theorem dX10_readProbability_85 : decode cX10_readProbability 85 = .ok (.iload_n 3, 1) := by decide +kernel
theorem dX10_readProbability_86 : decode cX10_readProbability 86 = .ok (.bipush 85, 2) := by decide +kernel
theorem dX10_readProbability_88 : decode cX10_readProbability 88 = .ok (.if_icmp .eq 9, 3) := by decide +kernel
theorem dX10_readProbability_91 : decode cX10_readProbability 91 = .ok (.iload_n 3, 1) := by decide +kernel
theorem dX10_readProbability_92 : decode cX10_readProbability 92 = .ok (.bipush 66, 2) := by decide +kernel
theorem dX10_readProbability_94 : decode cX10_readProbability 94 = .ok (.if_icmp .ne 18, 3) := by decide +kernel
theorem dX10_readProbability_97 : decode cX10_readProbability 97 = .ok (.aload_n 0, 1) := by decide +kernel
theorem dX10_readProbability_98 : decode cX10_readProbability 98 = .ok (.bipush 44, 2) := by decide +kernel
theorem dX10_readProbability_100 : decode cX10_readProbability 100 = .ok (.invokevirtual 59, 3) := by decide +kernel
theorem dX10_readProbability_103 : decode cX10_readProbability 103 = .ok (.aload_n 0, 1) := by decide +kernel
theorem dX10_readProbability_104 : decode cX10_readProbability 104 = .ok (.iload_n 1, 1) := by decide +kernel
theorem dX10_readProbability_105 : decode cX10_readProbability 105 = .ok (.iconst 1, 1) := by decide +kernel
theorem dX10_readProbability_106 : decode cX10_readProbability 106 = .ok (.iadd, 1) := by decide +kernel
theorem dX10_readProbability_107 : decode cX10_readProbability 107 = .ok (.invokevirtual 56, 3) := by decide +kernel
theorem dX10_readProbability_110 : decode cX10_readProbability 110 = .ok (.astore 6, 2) := by decide +kernel
theorem dX10_readProbability_112 : decode cX10_readProbability 112 = .ok (.aload_n 0, 1) := by decide +kernel
theorem dX10_readProbability_113 : decode cX10_readProbability 113 = .ok (.bipush 93, 2) := by decide +kernel
theorem dX10_readProbability_115 : decode cX10_readProbability 115 = .ok (.invokevirtual 59, 3) := by decide +kernel
theorem dX10_readProbability_118 : decode cX10_readProbability 118 = .ok (.new 33, 3) := by decide +kernel
theorem dX10_readProbability_121 : decode cX10_readProbability 121 = .ok (.dup, 1) := by decide +kernel
theorem dX10_readProbability_122 : decode cX10_readProbability 122 = .ok (.iload_n 3, 1) := by decide +kernel
theorem dX10_readProbability_123 : decode cX10_readProbability 123 = .ok (.aload_n 2, 1) := by decide +kernel
theorem dX10_readProbability_124 : decode cX10_readProbability 124 = .ok (.iload 4, 2) := by decide +kernel
theorem dX10_readProbability_126 : decode cX10_readProbability 126 = .ok (.aload 5, 2) := by decide +kernel
theorem dX10_readProbability_128 : decode cX10_readProbability 128 = .ok (.aload 6, 2) := by decide +kernel
theorem dX10_readProbability_130 : decode cX10_readProbability 130 = .ok (.invokespecial 35, 3) := by decide +kernel
theorem dX10_readProbability_133 : decode cX10_readProbability 133 = .ok (.areturn, 1) := by decide +kernel
set_option maxRecDepth 20000 in
theorem ggX10_readBound_X10_skip : GoodIn wsX10_readBound wsX10_skip := goodIn_k tie_wsX10_readBound tie_wsX10_skip (by decide +kernel)
set_option maxRecDepth 20000 in
theorem gX10_readBound_X10_skip : GoodIn wsX10_readBound (wsV RX10 38 RX10 yX10_skip wsX10_skip) := goodIn_app (goodIn_k (is := [740, 741, 742, 615]) tie_wsX10_readBound rfl (by decide +kernel)) ggX10_readBound_X10_skip
set_option maxRecDepth 20000 in
theorem ggX10_readBound_X10_expect : GoodIn wsX10_readBound wsX10_expect := goodIn_k tie_wsX10_readBound tie_wsX10_expect (by decide +kernel)
set_option maxRecDepth 20000 in
theorem gX10_readBound_X10_expect : GoodIn wsX10_readBound (wsV RX10 59 RX10 yX10_expect wsX10_expect) := goodIn_app (goodIn_k (is := [764, 765, 766, 615]) tie_wsX10_readBound rfl (by decide +kernel)) ggX10_readBound_X10_expect
set_option maxRecDepth 20000 in
theorem ggX10_readBound_X10_readNumber : GoodIn wsX10_readBound wsX10_readNumber := goodIn_k tie_wsX10_readBound tie_wsX10_readNumber (by decide +kernel)
set_option maxRecDepth 20000 in
theorem gX10_readBound_X10_readNumber : GoodIn wsX10_readBound (wsV RX10 70 RX10 yX10_readNumber wsX10_readNumber) := goodIn_app (goodIn_k (is := [768, 769, 770, 615]) tie_wsX10_readBound rfl (by decide +kernel)) ggX10_readBound_X10_readNumber
set_option maxRecDepth 20000 in
theorem ggX10_readBound_X1_init : GoodIn wsX10_readBound wsX1_init := goodIn_k tie_wsX10_readBound tie_wsX1_init (by decide +kernel)
set_option maxRecDepth 20000 in
theorem gX10_readBound_X1_init : GoodIn wsX10_readBound (wsX1_init) := ggX10_readBound_X1_init
theorem dX10_readBound_0 : decode cX10_readBound 0 = .ok (.aload_n 0, 1) := by decide +kernel
theorem dX10_readBound_1 : decode cX10_readBound 1 = .ok (.bipush 60, 2) := by decide +kernel
theorem dX10_readBound_3 : decode cX10_readBound 3 = .ok (.invokevirtual 38, 3) := by decide +kernel
theorem dX10_readBound_6 : decode cX10_readBound 6 = .ok (.istore_n 1, 1) := by decide +kernel
theorem dX10_readBound_7 : decode cX10_readBound 7 = .ok (.iload_n 1, 1) := by decide +kernel
theorem dX10_readBound_8 : decode cX10_readBound 8 = .ok (.ifCond .ne 9, 3) := by decide +kernel
theorem dX10_readBound_11 : decode cX10_readBound 11 = .ok (.aload_n 0, 1) := by decide +kernel
theorem dX10_readBound_12 : decode cX10_readBound 12 = .ok (.bipush 62, 2) := by decide +kernel
theorem dX10_readBound_14 : decode cX10_readBound 14 = .ok (.invokevirtual 59, 3) := by decide +kernel
theorem dX10_readBound_17 : decode cX10_readBound 17 = .ok (.aload_n 0, 1) := by decide +kernel
theorem dX10_readBound_18 : decode cX10_readBound 18 = .ok (.bipush 61, 2) := by decide +kernel
theorem dX10_readBound_20 : decode cX10_readBound 20 = .ok (.invokevirtual 38, 3) := by decide +kernel
theorem dX10_readBound_23 : decode cX10_readBound 23 = .ok (.istore_n 2, 1) := by decide +kernel
theorem dX10_readBound_24 : decode cX10_readBound 24 = .ok (.aload_n 0, 1) := by decide +kernel
theorem dX10_readBound_25 : decode cX10_readBound 25 = .ok (.invokevirtual 70, 3) := by decide +kernel
theorem dX10_readBound_28 : decode cX10_readBound 28 = .ok (.istore_n 3, 1) := by decide +kernel
theorem dX10_readBound_29 : decode cX10_readBound 29 = .ok (.aload_n 0, 1) := by decide +kernel
theorem dX10_readBound_30 : decode cX10_readBound 30 = .ok (.bipush 47, 2) := by decide +kernel
theorem dX10_readBound_32 : decode cX10_readBound 32 = .ok (.invokevirtual 38, 3) := by decide +kernel
theorem dX10_readBound_35 : decode cX10_readBound 35 = .ok (.ifCond .eq 10, 3) := by decide +kernel
theorem dX10_readBound_38 : decode cX10_readBound 38 = .ok (.aload_n 0, 1) := by decide +kernel
theorem dX10_readBound_39 : decode cX10_readBound 39 = .ok (.invokevirtual 70, 3) := by decide +kernel
theorem dX10_readBound_42 : decode cX10_readBound 42 = .ok (.goto 4, 3) := by decide +kernel
theorem dX10_readBound_45 : decode cX10_readBound 45 = .ok (.iconst 1, 1) := by decide +kernel
theorem dX10_readBound_46 : decode cX10_readBound 46 = .ok (.istore 4, 2) := by decide +kernel
theorem dX10_readBound_48 : decode cX10_readBound 48 = .ok (.aload_n 0, 1) := by decide +kernel
theorem dX10_readBound_49 : decode cX10_readBound 49 = .ok (.getfield 19, 3) := by decide +kernel
theorem dX10_readBound_52 : decode cX10_readBound 52 = .ok (.ifCond .ne 23, 3) := by decide +kernel
theorem dX10_readBound_55 : decode cX10_readBound 55 = .ok (.iload 4, 2) := by decide +kernel
theorem dX10_readBound_57 : decode cX10_readBound 57 = .ok (.ifCond .ne 18, 3) := by decide +kernel
theorem dX10_readBound_60 : decode cX10_readBound 60 = .ok (.aload_n 0, 1) := by decide +kernel
theorem dX10_readBound_61 : decode cX10_readBound 61 = .ok (.dup, 1) := by decide +kernel
theorem dX10_readBound_62 : decode cX10_readBound 62 = .ok (.getfield 15, 3) := by decide +kernel
theorem dX10_readBound_65 : decode cX10_readBound 65 = .ok (.iconst 1, 1) := by decide +kernel
theorem dX10_readBound_66 : decode cX10_readBound 66 = .ok (.isub, 1) := by decide +kernel
theorem dX10_readBound_67 : decode cX10_readBound 67 = .ok (.putfield 15, 3) := by decide +kernel
theorem dX10_readBound_70 : decode cX10_readBound 70 = .ok (.aload_n 0, 1) := by decide +kernel
theorem dX10_readBound_71 : decode cX10_readBound 71 = .ok (.iconst 1, 1) := by decide +kernel
theorem dX10_readBound_72 : decode cX10_readBound 72 = .ok (.putfield 19, 3) := by decide +kernel
theorem dX10_readBound_75 : decode cX10_readBound 75 = .ok (.new 73, 3) := by decide +kernel
theorem dX10_readBound_78 : decode cX10_readBound 78 = .ok (.dup, 1) := by decide +kernel
theorem dX10_readBound_79 : decode cX10_readBound 79 = .ok (.iload_n 1, 1) := by decide +kernel
theorem dX10_readBound_80 : decode cX10_readBound 80 = .ok (.iload_n 2, 1) := by decide +kernel
theorem dX10_readBound_81 : decode cX10_readBound 81 = .ok (.iload_n 3, 1) := by decide +kernel
theorem dX10_readBound_82 : decode cX10_readBound 82 = .ok (.iload 4, 2) := by decide +kernel
theorem dX10_readBound_84 : decode cX10_readBound 84 = .ok (.invokespecial 75, 3) := by decide +kernel
theorem dX10_readBound_87 : decode cX10_readBound 87 = .ok (.areturn, 1) := by decide +kernel
set_option maxRecDepth 20000 in
theorem ggX10_readNumber_X10_peek : GoodIn wsX10_readNumber wsX10_peek := goodIn_k tie_wsX10_readNumber tie_wsX10_peek (by decide +kernel)
set_option maxRecDepth 20000 in
theorem gX10_readNumber_X10_peek : GoodIn wsX10_readNumber (wsV RX10 29 RX10 yX10_peek wsX10_peek) := goodIn_app (goodIn_k (is := [701, 702, 703, 615]) tie_wsX10_readNumber rfl (by decide +kernel)) ggX10_readNumber_X10_peek
theorem dX10_readNumber_0 : decode cX10_readNumber 0 = .ok (.iconst 0, 1) := by decide +kernel
theorem dX10_readNumber_1 : decode cX10_readNumber 1 = .ok (.istore_n 1, 1) := by decide +kernel
theorem dX10_readNumber_2 : decode cX10_readNumber 2 = .ok (.iconst 0, 1) := by decide +kernel
theorem dX10_readNumber_3 : decode cX10_readNumber 3 = .ok (.istore_n 2, 1) := by decide +kernel
theorem dX10_readNumber_4 : decode cX10_readNumber 4 = .ok (.iload_n 2, 1) := by decide +kernel
theorem dX10_readNumber_5 : decode cX10_readNumber 5 = .ok (.iconst 2, 1) := by decide +kernel
theorem dX10_readNumber_6 : decode cX10_readNumber 6 = .ok (.if_icmp .ge 58, 3) := by decide +kernel
theorem dX10_readNumber_9 : decode cX10_readNumber 9 = .ok (.aload_n 0, 1) := by decide +kernel
theorem dX10_readNumber_10 : decode cX10_readNumber 10 = .ok (.invokevirtual 29, 3) := by decide +kernel
theorem dX10_readNumber_13 : decode cX10_readNumber 13 = .ok (.istore_n 3, 1) := by decide +kernel
theorem dX10_readNumber_14 : decode cX10_readNumber 14 = .ok (.iload_n 3, 1) := by decide +kernel
theorem dX10_readNumber_15 : decode cX10_readNumber 15 = .ok (.bipush 48, 2) := by decide +kernel
theorem dX10_readNumber_17 : decode cX10_readNumber 17 = .ok (.if_icmp .lt 32, 3) := by decide +kernel
theorem dX10_readNumber_20 : decode cX10_readNumber 20 = .ok (.iload_n 3, 1) := by decide +kernel
theorem dX10_readNumber_21 : decode cX10_readNumber 21 = .ok (.bipush 57, 2) := by decide +kernel
theorem dX10_readNumber_23 : decode cX10_readNumber 23 = .ok (.if_icmp .gt 26, 3) := by decide +kernel
theorem dX10_readNumber_26 : decode cX10_readNumber 26 = .ok (.iload_n 1, 1) := by decide +kernel
theorem dX10_readNumber_27 : decode cX10_readNumber 27 = .ok (.bipush 10, 2) := by decide +kernel
theorem dX10_readNumber_29 : decode cX10_readNumber 29 = .ok (.imul, 1) := by decide +kernel
theorem dX10_readNumber_30 : decode cX10_readNumber 30 = .ok (.iload_n 3, 1) := by decide +kernel
theorem dX10_readNumber_31 : decode cX10_readNumber 31 = .ok (.bipush 48, 2) := by decide +kernel
theorem dX10_readNumber_33 : decode cX10_readNumber 33 = .ok (.isub, 1) := by decide +kernel
theorem dX10_readNumber_34 : decode cX10_readNumber 34 = .ok (.iadd, 1) := by decide +kernel
theorem dX10_readNumber_35 : decode cX10_readNumber 35 = .ok (.istore_n 1, 1) := by decide +kernel
theorem dX10_readNumber_36 : decode cX10_readNumber 36 = .ok (.aload_n 0, 1) := by decide +kernel
theorem dX10_readNumber_37 : decode cX10_readNumber 37 = .ok (.dup, 1) := by decide +kernel
theorem dX10_readNumber_38 : decode cX10_readNumber 38 = .ok (.getfield 15, 3) := by decide +kernel
theorem dX10_readNumber_41 : decode cX10_readNumber 41 = .ok (.iconst 1, 1) := by decide +kernel
theorem dX10_readNumber_42 : decode cX10_readNumber 42 = .ok (.iadd, 1) := by decide +kernel
theorem dX10_readNumber_43 : decode cX10_readNumber 43 = .ok (.putfield 15, 3) := by decide +kernel
theorem dX10_readNumber_46 : decode cX10_readNumber 46 = .ok (.goto 12, 3) := by decide +kernel
theorem dX10_readNumber_49 : decode cX10_readNumber 49 = .ok (.iload_n 2, 1) := by decide +kernel
theorem dX10_readNumber_50 : decode cX10_readNumber 50 = .ok (.ifCond .ne 8, 3) := by decide +kernel
theorem dX10_readNumber_53 : decode cX10_readNumber 53 = .ok (.aload_n 0, 1) := by decide +kernel
theorem dX10_readNumber_54 : decode cX10_readNumber 54 = .ok (.iconst 1, 1) := by decide +kernel
theorem dX10_readNumber_55 : decode cX10_readNumber 55 = .ok (.putfield 19, 3) := by decide +kernel
theorem dX10_readNumber_58 : decode cX10_readNumber 58 = .ok (.iinc 2 1, 3) := by decide +kernel
theorem dX10_readNumber_61 : decode cX10_readNumber 61 = .ok (.goto (-57), 3) := by decide +kernel
theorem dX10_readNumber_64 : decode cX10_readNumber 64 = .ok (.iload_n 1, 1) := by decide +kernel
theorem dX10_readNumber_65 : decode cX10_readNumber 65 = .ok (.ireturn, 1) := by decide +kernel
set_option maxRecDepth 20000 in
theorem ggX10_readSteps_X10_peek : GoodIn wsX10_readSteps wsX10_peek := goodIn_k tie_wsX10_readSteps tie_wsX10_peek (by decide +kernel)
set_option maxRecDepth 20000 in
theorem gX10_readSteps_X10_peek : GoodIn wsX10_readSteps (wsV RX10 29 RX10 yX10_peek wsX10_peek) := goodIn_app (goodIn_k (is := [701, 702, 703, 615]) tie_wsX10_readSteps rfl (by decide +kernel)) ggX10_readSteps_X10_peek
theorem dX10_readSteps_0 : decode cX10_readSteps 0 = .ok (.aload_n 0, 1) := by decide +kernel
theorem dX10_readSteps_1 : decode cX10_readSteps 1 = .ok (.invokevirtual 29, 3) := by decide +kernel
theorem dX10_readSteps_4 : decode cX10_readSteps 4 = .ok (.istore_n 1, 1) := by decide +kernel
theorem dX10_readSteps_5 : decode cX10_readSteps 5 = .ok (.iload_n 1, 1) := by decide +kernel
theorem dX10_readSteps_6 : decode cX10_readSteps 6 = .ok (.bipush 48, 2) := by decide +kernel
theorem dX10_readSteps_8 : decode cX10_readSteps 8 = .ok (.if_icmp .lt 9, 3) := by decide +kernel
theorem dX10_readSteps_11 : decode cX10_readSteps 11 = .ok (.iload_n 1, 1) := by decide +kernel
theorem dX10_readSteps_12 : decode cX10_readSteps 12 = .ok (.bipush 54, 2) := by decide +kernel
theorem dX10_readSteps_14 : decode cX10_readSteps 14 = .ok (.if_icmp .le 10, 3) := by decide +kernel
theorem dX10_readSteps_17 : decode cX10_readSteps 17 = .ok (.aload_n 0, 1) := by decide +kernel
theorem dX10_readSteps_18 : decode cX10_readSteps 18 = .ok (.iconst 1, 1) := by decide +kernel
theorem dX10_readSteps_19 : decode cX10_readSteps 19 = .ok (.putfield 19, 3) := by decide +kernel
theorem dX10_readSteps_22 : decode cX10_readSteps 22 = .ok (.iconst 0, 1) := by decide +kernel
theorem dX10_readSteps_23 : decode cX10_readSteps 23 = .ok (.ireturn, 1) := by decide +kernel
theorem dX10_readSteps_24 : decode cX10_readSteps 24 = .ok (.aload_n 0, 1) := by decide +kernel
theorem dX10_readSteps_25 : decode cX10_readSteps 25 = .ok (.dup, 1) := by decide +kernel
theorem dX10_readSteps_26 : decode cX10_readSteps 26 = .ok (.getfield 15, 3) := by decide +kernel
theorem dX10_readSteps_29 : decode cX10_readSteps 29 = .ok (.iconst 1, 1) := by decide +kernel
theorem dX10_readSteps_30 : decode cX10_readSteps 30 = .ok (.iadd, 1) := by decide +kernel
theorem dX10_readSteps_31 : decode cX10_readSteps 31 = .ok (.putfield 15, 3) := by decide +kernel
theorem dX10_readSteps_34 : decode cX10_readSteps 34 = .ok (.iload_n 1, 1) := by decide +kernel
theorem dX10_readSteps_35 : decode cX10_readSteps 35 = .ok (.bipush 48, 2) := by decide +kernel
theorem dX10_readSteps_37 : decode cX10_readSteps 37 = .ok (.isub, 1) := by decide +kernel
theorem dX10_readSteps_38 : decode cX10_readSteps 38 = .ok (.ireturn, 1) := by decide +kernel
set_option maxRecDepth 20000 in
theorem ggX10_peek_J0_length_8abf5 : GoodIn wsX10_peek wsJ0_length_8abf5 := goodIn_k tie_wsX10_peek tie_wsJ0_length_8abf5 (by decide +kernel)
set_option maxRecDepth 20000 in
theorem gX10_peek_J0_length_8abf5 : GoodIn wsX10_peek (wsV RX10 23 RJ0 yJ0_length_8abf5 wsJ0_length_8abf5) := goodIn_app (goodIn_k (is := [705, 706, 707, 579]) tie_wsX10_peek rfl (by decide +kernel)) ggX10_peek_J0_length_8abf5
set_option maxRecDepth 20000 in
theorem ggX10_peek_J0_charAt_5068e : GoodIn wsX10_peek wsJ0_charAt_5068e := goodIn_k tie_wsX10_peek tie_wsJ0_charAt_5068e (by decide +kernel)
set_option maxRecDepth 20000 in
theorem gX10_peek_J0_charAt_5068e : GoodIn wsX10_peek (wsV RX10 78 RJ0 yJ0_charAt_5068e wsJ0_charAt_5068e) := goodIn_app (goodIn_k (is := [713, 714, 715, 579]) tie_wsX10_peek rfl (by decide +kernel)) ggX10_peek_J0_charAt_5068e
theorem dX10_peek_0 : decode cX10_peek 0 = .ok (.aload_n 0, 1) := by decide +kernel
theorem dX10_peek_1 : decode cX10_peek 1 = .ok (.getfield 19, 3) := by decide +kernel
theorem dX10_peek_4 : decode cX10_peek 4 = .ok (.ifCond .ne 38, 3) := by decide +kernel
theorem dX10_peek_7 : decode cX10_peek 7 = .ok (.aload_n 0, 1) := by decide +kernel
theorem dX10_peek_8 : decode cX10_peek 8 = .ok (.getfield 15, 3) := by decide +kernel
theorem dX10_peek_11 : decode cX10_peek 11 = .ok (.ifCond .lt 31, 3) := by decide +kernel
theorem dX10_peek_14 : decode cX10_peek 14 = .ok (.aload_n 0, 1) := by decide +kernel
theorem dX10_peek_15 : decode cX10_peek 15 = .ok (.getfield 15, 3) := by decide +kernel
theorem dX10_peek_18 : decode cX10_peek 18 = .ok (.aload_n 0, 1) := by decide +kernel
theorem dX10_peek_19 : decode cX10_peek 19 = .ok (.getfield 9, 3) := by decide +kernel
theorem dX10_peek_22 : decode cX10_peek 22 = .ok (.invokevirtual 23, 3) := by decide +kernel
theorem dX10_peek_25 : decode cX10_peek 25 = .ok (.if_icmp .ge 17, 3) := by decide +kernel
theorem dX10_peek_28 : decode cX10_peek 28 = .ok (.aload_n 0, 1) := by decide +kernel
theorem dX10_peek_29 : decode cX10_peek 29 = .ok (.getfield 9, 3) := by decide +kernel
theorem dX10_peek_32 : decode cX10_peek 32 = .ok (.aload_n 0, 1) := by decide +kernel
theorem dX10_peek_33 : decode cX10_peek 33 = .ok (.getfield 15, 3) := by decide +kernel
theorem dX10_peek_36 : decode cX10_peek 36 = .ok (.invokevirtual 78, 3) := by decide +kernel
theorem dX10_peek_39 : decode cX10_peek 39 = .ok (.goto 4, 3) := by decide +kernel
theorem dX10_peek_42 : decode cX10_peek 42 = .ok (.iconst 0, 1) := by decide +kernel
theorem dX10_peek_43 : decode cX10_peek 43 = .ok (.ireturn, 1) := by decide +kernel
set_option maxRecDepth 20000 in
theorem ggX10_skip_X10_peek : GoodIn wsX10_skip wsX10_peek := goodIn_k tie_wsX10_skip tie_wsX10_peek (by decide +kernel)
set_option maxRecDepth 20000 in
theorem gX10_skip_X10_peek : GoodIn wsX10_skip (wsV RX10 29 RX10 yX10_peek wsX10_peek) := goodIn_app (goodIn_k (is := [701, 702, 703, 615]) tie_wsX10_skip rfl (by decide +kernel)) ggX10_skip_X10_peek
theorem dX10_skip_0 : decode cX10_skip 0 = .ok (.aload_n 0, 1) := by decide +kernel
theorem dX10_skip_1 : decode cX10_skip 1 = .ok (.getfield 19, 3) := by decide +kernel
theorem dX10_skip_4 : decode cX10_skip 4 = .ok (.ifCond .ne 11, 3) := by decide +kernel
theorem dX10_skip_7 : decode cX10_skip 7 = .ok (.aload_n 0, 1) := by decide +kernel
theorem dX10_skip_8 : decode cX10_skip 8 = .ok (.invokevirtual 29, 3) := by decide +kernel
theorem dX10_skip_11 : decode cX10_skip 11 = .ok (.iload_n 1, 1) := by decide +kernel
theorem dX10_skip_12 : decode cX10_skip 12 = .ok (.if_icmp .eq 5, 3) := by decide +kernel
theorem dX10_skip_15 : decode cX10_skip 15 = .ok (.iconst 0, 1) := by decide +kernel
theorem dX10_skip_16 : decode cX10_skip 16 = .ok (.ireturn, 1) := by decide +kernel
theorem dX10_skip_17 : decode cX10_skip 17 = .ok (.aload_n 0, 1) := by decide +kernel
theorem dX10_skip_18 : decode cX10_skip 18 = .ok (.dup, 1) := by decide +kernel
theorem dX10_skip_19 : decode cX10_skip 19 = .ok (.getfield 15, 3) := by decide +kernel
theorem dX10_skip_22 : decode cX10_skip 22 = .ok (.iconst 1, 1) := by decide +kernel
theorem dX10_skip_23 : decode cX10_skip 23 = .ok (.iadd, 1) := by decide +kernel
theorem dX10_skip_24 : decode cX10_skip 24 = .ok (.putfield 15, 3) := by decide +kernel
theorem dX10_skip_27 : decode cX10_skip 27 = .ok (.iconst 1, 1) := by decide +kernel
theorem dX10_skip_28 : decode cX10_skip 28 = .ok (.ireturn, 1) := by decide +kernel
set_option maxRecDepth 20000 in
theorem ggX10_expect_X10_skip : GoodIn wsX10_expect wsX10_skip := goodIn_k tie_wsX10_expect tie_wsX10_skip (by decide +kernel)
set_option maxRecDepth 20000 in
theorem gX10_expect_X10_skip : GoodIn wsX10_expect (wsV RX10 38 RX10 yX10_skip wsX10_skip) := goodIn_app (goodIn_k (is := [740, 741, 742, 615]) tie_wsX10_expect rfl (by decide +kernel)) ggX10_expect_X10_skip
theorem dX10_expect_0 : decode cX10_expect 0 = .ok (.aload_n 0, 1) := by decide +kernel
theorem dX10_expect_1 : decode cX10_expect 1 = .ok (.iload_n 1, 1) := by decide +kernel
theorem dX10_expect_2 : decode cX10_expect 2 = .ok (.invokevirtual 38, 3) := by decide +kernel
theorem dX10_expect_5 : decode cX10_expect 5 = .ok (.ifCond .ne 8, 3) := by decide +kernel
theorem dX10_expect_8 : decode cX10_expect 8 = .ok (.aload_n 0, 1) := by decide +kernel
theorem dX10_expect_9 : decode cX10_expect 9 = .ok (.iconst 1, 1) := by decide +kernel
theorem dX10_expect_10 : decode cX10_expect 10 = .ok (.putfield 19, 3) := by decide +kernel
theorem dX10_expect_13 : decode cX10_expect 13 = .ok (.return_, 1) := by decide +kernel
set_option maxRecDepth 20000 in
theorem ggX11_init_X2_init : GoodIn wsX11_init wsX2_init := goodIn_k tie_wsX11_init tie_wsX2_init (by decide +kernel)
set_option maxRecDepth 20000 in
theorem gX11_init_X2_init_n9 : GoodIn wsX11_init (wsX2_init) := ggX11_init_X2_init
set_option maxRecDepth 20000 in
theorem ggX11_init_X6_init : GoodIn wsX11_init wsX6_init := goodIn_k tie_wsX11_init tie_wsX6_init (by decide +kernel)
set_option maxRecDepth 20000 in
theorem gX11_init_X6_init : GoodIn wsX11_init (wsX6_init) := ggX11_init_X6_init
set_option maxRecDepth 20000 in
theorem ggX11_init_X7_init : GoodIn wsX11_init wsX7_init := goodIn_k tie_wsX11_init tie_wsX7_init (by decide +kernel)
set_option maxRecDepth 20000 in
theorem gX11_init_X7_init : GoodIn wsX11_init (wsX7_init) := ggX11_init_X7_init
set_option maxRecDepth 20000 in
theorem ggX11_init_X8_init : GoodIn wsX11_init wsX8_init := goodIn_k tie_wsX11_init tie_wsX8_init (by decide +kernel)
set_option maxRecDepth 20000 in
theorem gX11_init_X8_init : GoodIn wsX11_init (wsX8_init) := ggX11_init_X8_init
set_option maxRecDepth 20000 in
theorem ggX11_init_X0_init : GoodIn wsX11_init wsX0_init := goodIn_k tie_wsX11_init tie_wsX0_init (by decide +kernel)
set_option maxRecDepth 20000 in
theorem gX11_init_X0_init : GoodIn wsX11_init (wsX0_init) := ggX11_init_X0_init
set_option maxRecDepth 20000 in
theorem ggX11_init_J4_init_da8c8 : GoodIn wsX11_init wsJ4_init_da8c8 := goodIn_k tie_wsX11_init tie_wsJ4_init_da8c8 (by decide +kernel)
set_option maxRecDepth 20000 in
theorem gX11_init_J4_init_da8c8 : GoodIn wsX11_init (wsJ4_init_da8c8) := ggX11_init_J4_init_da8c8
