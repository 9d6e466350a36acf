theorem dX0_init_0 : decode cX0_init 0 = .ok (.aload_n 0, 1) := by decide +kernel
theorem dX0_init_1 : decode cX0_init 1 = .ok (.invokespecial 3, 3) := by decide +kernel
theorem dX0_init_4 : decode cX0_init 4 = .ok (.aload_n 0, 1) := by decide +kernel
theorem dX0_init_5 : decode cX0_init 5 = .ok (.bipush 8, 2) := by decide +kernel
theorem dX0_init_7 : decode cX0_init 7 = .ok (.newarray .int, 2) := by decide +kernel
theorem dX0_init_9 : decode cX0_init 9 = .ok (.putfield 9, 3) := by decide +kernel
theorem dX0_init_12 : decode cX0_init 12 = .ok (.aload_n 0, 1) := by decide +kernel
theorem dX0_init_13 : decode cX0_init 13 = .ok (.bipush 8, 2) := by decide +kernel
theorem dX0_init_15 : decode cX0_init 15 = .ok (.newarray .int, 2) := by decide +kernel
theorem dX0_init_17 : decode cX0_init 17 = .ok (.putfield 15, 3) := by decide +kernel
theorem dX0_init_20 : decode cX0_init 20 = .ok (.return_, 1) := by decide +kernel
set_option maxRecDepth 20000 in
theorem ggX0_lookAt_X4_reason : GoodIn wsX0_lookAt wsX4_reason := goodIn_r _ [9, 10, 11, 12, 13, 14, 15, 16, 17, 18, 19, 20, 21, 22, 23, 24, 25, 26] (by decide +kernel) (by decide +kernel)
set_option maxRecDepth 20000 in
theorem gX0_lookAt_X4_reason : GoodIn wsX0_lookAt (wsV RX0 31 RX4 yX4_reason wsX4_reason) := goodIn_app (goodIn_of _ (by decide +kernel)) ggX0_lookAt_X4_reason
theorem dX0_lookAt_0 : decode cX0_lookAt 0 = .ok (.aload_n 0, 1) := by decide +kernel
theorem dX0_lookAt_1 : decode cX0_lookAt 1 = .ok (.aload_n 1, 1) := by decide +kernel
theorem dX0_lookAt_2 : decode cX0_lookAt 2 = .ok (.getfield 18, 3) := by decide +kernel
theorem dX0_lookAt_5 : decode cX0_lookAt 5 = .ok (.getfield 24, 3) := by decide +kernel
theorem dX0_lookAt_8 : decode cX0_lookAt 8 = .ok (.putfield 30, 3) := by decide +kernel
theorem dX0_lookAt_11 : decode cX0_lookAt 11 = .ok (.iconst 0, 1) := by decide +kernel
theorem dX0_lookAt_12 : decode cX0_lookAt 12 = .ok (.istore_n 3, 1) := by decide +kernel
theorem dX0_lookAt_13 : decode cX0_lookAt 13 = .ok (.iload_n 3, 1) := by decide +kernel
theorem dX0_lookAt_14 : decode cX0_lookAt 14 = .ok (.aload_n 0, 1) := by decide +kernel
theorem dX0_lookAt_15 : decode cX0_lookAt 15 = .ok (.getfield 30, 3) := by decide +kernel
theorem dX0_lookAt_18 : decode cX0_lookAt 18 = .ok (.if_icmp .ge 68, 3) := by decide +kernel
theorem dX0_lookAt_21 : decode cX0_lookAt 21 = .ok (.aload_n 0, 1) := by decide +kernel
theorem dX0_lookAt_22 : decode cX0_lookAt 22 = .ok (.getfield 9, 3) := by decide +kernel
theorem dX0_lookAt_25 : decode cX0_lookAt 25 = .ok (.iload_n 3, 1) := by decide +kernel
theorem dX0_lookAt_26 : decode cX0_lookAt 26 = .ok (.iconst 0, 1) := by decide +kernel
theorem dX0_lookAt_27 : decode cX0_lookAt 27 = .ok (.iastore, 1) := by decide +kernel
theorem dX0_lookAt_28 : decode cX0_lookAt 28 = .ok (.iconst 0, 1) := by decide +kernel
theorem dX0_lookAt_29 : decode cX0_lookAt 29 = .ok (.istore 4, 2) := by decide +kernel
theorem dX0_lookAt_31 : decode cX0_lookAt 31 = .ok (.iload 4, 2) := by decide +kernel
theorem dX0_lookAt_33 : decode cX0_lookAt 33 = .ok (.iload_n 3, 1) := by decide +kernel
theorem dX0_lookAt_34 : decode cX0_lookAt 34 = .ok (.if_icmp .ge 46, 3) := by decide +kernel
theorem dX0_lookAt_37 : decode cX0_lookAt 37 = .ok (.aload_n 1, 1) := by decide +kernel
theorem dX0_lookAt_38 : decode cX0_lookAt 38 = .ok (.iload_n 3, 1) := by decide +kernel
theorem dX0_lookAt_39 : decode cX0_lookAt 39 = .ok (.iload 4, 2) := by decide +kernel
theorem dX0_lookAt_41 : decode cX0_lookAt 41 = .ok (.iload_n 2, 1) := by decide +kernel
theorem dX0_lookAt_42 : decode cX0_lookAt 42 = .ok (.invokevirtual 31, 3) := by decide +kernel
theorem dX0_lookAt_45 : decode cX0_lookAt 45 = .ok (.ifCond .eq 29, 3) := by decide +kernel
theorem dX0_lookAt_48 : decode cX0_lookAt 48 = .ok (.aload_n 0, 1) := by decide +kernel
theorem dX0_lookAt_49 : decode cX0_lookAt 49 = .ok (.getfield 9, 3) := by decide +kernel
theorem dX0_lookAt_52 : decode cX0_lookAt 52 = .ok (.iload_n 3, 1) := by decide +kernel
theorem dX0_lookAt_53 : decode cX0_lookAt 53 = .ok (.dup2, 1) := by decide +kernel
theorem dX0_lookAt_54 : decode cX0_lookAt 54 = .ok (.iaload, 1) := by decide +kernel
theorem dX0_lookAt_55 : decode cX0_lookAt 55 = .ok (.iconst 1, 1) := by decide +kernel
theorem dX0_lookAt_56 : decode cX0_lookAt 56 = .ok (.iload 4, 2) := by decide +kernel
theorem dX0_lookAt_58 : decode cX0_lookAt 58 = .ok (.ishl, 1) := by decide +kernel
theorem dX0_lookAt_59 : decode cX0_lookAt 59 = .ok (.ior, 1) := by decide +kernel
theorem dX0_lookAt_60 : decode cX0_lookAt 60 = .ok (.iastore, 1) := by decide +kernel
theorem dX0_lookAt_61 : decode cX0_lookAt 61 = .ok (.aload_n 0, 1) := by decide +kernel
theorem dX0_lookAt_62 : decode cX0_lookAt 62 = .ok (.getfield 9, 3) := by decide +kernel
theorem dX0_lookAt_65 : decode cX0_lookAt 65 = .ok (.iload 4, 2) := by decide +kernel
theorem dX0_lookAt_67 : decode cX0_lookAt 67 = .ok (.dup2, 1) := by decide +kernel
theorem dX0_lookAt_68 : decode cX0_lookAt 68 = .ok (.iaload, 1) := by decide +kernel
theorem dX0_lookAt_69 : decode cX0_lookAt 69 = .ok (.iconst 1, 1) := by decide +kernel
theorem dX0_lookAt_70 : decode cX0_lookAt 70 = .ok (.iload_n 3, 1) := by decide +kernel
theorem dX0_lookAt_71 : decode cX0_lookAt 71 = .ok (.ishl, 1) := by decide +kernel
theorem dX0_lookAt_72 : decode cX0_lookAt 72 = .ok (.ior, 1) := by decide +kernel
theorem dX0_lookAt_73 : decode cX0_lookAt 73 = .ok (.iastore, 1) := by decide +kernel
theorem dX0_lookAt_74 : decode cX0_lookAt 74 = .ok (.iinc 4 1, 3) := by decide +kernel
theorem dX0_lookAt_77 : decode cX0_lookAt 77 = .ok (.goto (-46), 3) := by decide +kernel
theorem dX0_lookAt_80 : decode cX0_lookAt 80 = .ok (.iinc 3 1, 3) := by decide +kernel
theorem dX0_lookAt_83 : decode cX0_lookAt 83 = .ok (.goto (-70), 3) := by decide +kernel
theorem dX0_lookAt_86 : decode cX0_lookAt 86 = .ok (.return_, 1) := by decide +kernel
set_option maxRecDepth 20000 in
theorem ggX0_findFirstCast_X0_findCast : GoodIn wsX0_findFirstCast wsX0_findCast := goodIn_r _ [6, 7, 8, 9, 10, 11, 12, 13, 5, 14, 15, 16, 17, 18, 1, 19, 20, 21, 22, 23, 24, 25, 26, 27, 28, 29] (by decide +kernel) (by decide +kernel)
set_option maxRecDepth 20000 in
theorem gX0_findFirstCast_X0_findCast : GoodIn wsX0_findFirstCast (wsV RX0 35 RX0 yX0_findCast wsX0_findCast) := goodIn_app (goodIn_of _ (by decide +kernel)) ggX0_findFirstCast_X0_findCast
theorem dX0_findFirstCast_0 : decode cX0_findFirstCast 0 = .ok (.iconst 1, 1) := by decide +kernel
theorem dX0_findFirstCast_1 : decode cX0_findFirstCast 1 = .ok (.istore_n 1, 1) := by decide +kernel
theorem dX0_findFirstCast_2 : decode cX0_findFirstCast 2 = .ok (.iload_n 1, 1) := by decide +kernel
theorem dX0_findFirstCast_3 : decode cX0_findFirstCast 3 = .ok (.aload_n 0, 1) := by decide +kernel
theorem dX0_findFirstCast_4 : decode cX0_findFirstCast 4 = .ok (.getfield 30, 3) := by decide +kernel
theorem dX0_findFirstCast_7 : decode cX0_findFirstCast 7 = .ok (.if_icmp .ge 19, 3) := by decide +kernel
theorem dX0_findFirstCast_10 : decode cX0_findFirstCast 10 = .ok (.aload_n 0, 1) := by decide +kernel
theorem dX0_findFirstCast_11 : decode cX0_findFirstCast 11 = .ok (.iload_n 1, 1) := by decide +kernel
theorem dX0_findFirstCast_12 : decode cX0_findFirstCast 12 = .ok (.invokevirtual 35, 3) := by decide +kernel
theorem dX0_findFirstCast_15 : decode cX0_findFirstCast 15 = .ok (.ifCond .eq 5, 3) := by decide +kernel
theorem dX0_findFirstCast_18 : decode cX0_findFirstCast 18 = .ok (.iload_n 1, 1) := by decide +kernel
theorem dX0_findFirstCast_19 : decode cX0_findFirstCast 19 = .ok (.ireturn, 1) := by decide +kernel
theorem dX0_findFirstCast_20 : decode cX0_findFirstCast 20 = .ok (.iinc 1 1, 3) := by decide +kernel
theorem dX0_findFirstCast_23 : decode cX0_findFirstCast 23 = .ok (.goto (-21), 3) := by decide +kernel
theorem dX0_findFirstCast_26 : decode cX0_findFirstCast 26 = .ok (.aload_n 0, 1) := by decide +kernel
theorem dX0_findFirstCast_27 : decode cX0_findFirstCast 27 = .ok (.aload_n 0, 1) := by decide +kernel
theorem dX0_findFirstCast_28 : decode cX0_findFirstCast 28 = .ok (.getfield 30, 3) := by decide +kernel
theorem dX0_findFirstCast_31 : decode cX0_findFirstCast 31 = .ok (.invokevirtual 35, 3) := by decide +kernel
theorem dX0_findFirstCast_34 : decode cX0_findFirstCast 34 = .ok (.pop, 1) := by decide +kernel
theorem dX0_findFirstCast_35 : decode cX0_findFirstCast 35 = .ok (.aload_n 0, 1) := by decide +kernel
theorem dX0_findFirstCast_36 : decode cX0_findFirstCast 36 = .ok (.getfield 30, 3) := by decide +kernel
theorem dX0_findFirstCast_39 : decode cX0_findFirstCast 39 = .ok (.ireturn, 1) := by decide +kernel
set_option maxRecDepth 20000 in
theorem ggX0_findCast_X0_dismissAll : GoodIn wsX0_findCast wsX0_dismissAll := goodIn_r _ [9, 10, 23, 24, 25] (by decide +kernel) (by decide +kernel)
set_option maxRecDepth 20000 in
theorem gX0_findCast_X0_dismissAll : GoodIn wsX0_findCast (wsV RX0 39 RX0 yX0_dismissAll wsX0_dismissAll) := goodIn_app (goodIn_of _ (by decide +kernel)) ggX0_findCast_X0_dismissAll
set_option maxRecDepth 20000 in
theorem ggX0_findCast_X0_castFrom : GoodIn wsX0_findCast wsX0_castFrom := goodIn_r _ [13, 14, 10, 15, 16, 3, 17, 18, 19, 20, 8, 21, 22, 11, 12, 23, 24, 25] (by decide +kernel) (by decide +kernel)
set_option maxRecDepth 20000 in
theorem gX0_findCast_X0_castFrom : GoodIn wsX0_findCast (va_wsS RX0 48 yX0_castFrom wsX0_castFrom) := goodIn_app (goodIn_of _ (by decide +kernel)) ggX0_findCast_X0_castFrom
theorem dX0_findCast_0 : decode cX0_findCast 0 = .ok (.aload_n 0, 1) := by decide +kernel
theorem dX0_findCast_1 : decode cX0_findCast 1 = .ok (.invokevirtual 39, 3) := by decide +kernel
theorem dX0_findCast_4 : decode cX0_findCast 4 = .ok (.aload_n 0, 1) := by decide +kernel
theorem dX0_findCast_5 : decode cX0_findCast 5 = .ok (.iconst 0, 1) := by decide +kernel
theorem dX0_findCast_6 : decode cX0_findCast 6 = .ok (.iconst 0, 1) := by decide +kernel
theorem dX0_findCast_7 : decode cX0_findCast 7 = .ok (.iload_n 1, 1) := by decide +kernel
theorem dX0_findCast_8 : decode cX0_findCast 8 = .ok (.bipush 8, 2) := by decide +kernel
theorem dX0_findCast_10 : decode cX0_findCast 10 = .ok (.invokestatic 42, 3) := by decide +kernel
theorem dX0_findCast_13 : decode cX0_findCast 13 = .ok (.invokestatic 48, 3) := by decide +kernel
theorem dX0_findCast_16 : decode cX0_findCast 16 = .ok (.ireturn, 1) := by decide +kernel
theorem dX0_foundActor_0 : decode cX0_foundActor 0 = .ok (.iconst 0, 1) := by decide +kernel
theorem dX0_foundActor_1 : decode cX0_foundActor 1 = .ok (.istore_n 2, 1) := by decide +kernel
theorem dX0_foundActor_2 : decode cX0_foundActor 2 = .ok (.iload_n 2, 1) := by decide +kernel
theorem dX0_foundActor_3 : decode cX0_foundActor 3 = .ok (.bipush 8, 2) := by decide +kernel
theorem dX0_foundActor_5 : decode cX0_foundActor 5 = .ok (.if_icmp .ge 24, 3) := by decide +kernel
theorem dX0_foundActor_8 : decode cX0_foundActor 8 = .ok (.aload_n 0, 1) := by decide +kernel
theorem dX0_foundActor_9 : decode cX0_foundActor 9 = .ok (.getfield 15, 3) := by decide +kernel
theorem dX0_foundActor_12 : decode cX0_foundActor 12 = .ok (.iload_n 2, 1) := by decide +kernel
theorem dX0_foundActor_13 : decode cX0_foundActor 13 = .ok (.iaload, 1) := by decide +kernel
theorem dX0_foundActor_14 : decode cX0_foundActor 14 = .ok (.iconst 1, 1) := by decide +kernel
theorem dX0_foundActor_15 : decode cX0_foundActor 15 = .ok (.iload_n 1, 1) := by decide +kernel
theorem dX0_foundActor_16 : decode cX0_foundActor 16 = .ok (.ishl, 1) := by decide +kernel
theorem dX0_foundActor_17 : decode cX0_foundActor 17 = .ok (.iand, 1) := by decide +kernel
theorem dX0_foundActor_18 : decode cX0_foundActor 18 = .ok (.ifCond .eq 5, 3) := by decide +kernel
theorem dX0_foundActor_21 : decode cX0_foundActor 21 = .ok (.iload_n 2, 1) := by decide +kernel
theorem dX0_foundActor_22 : decode cX0_foundActor 22 = .ok (.ireturn, 1) := by decide +kernel
theorem dX0_foundActor_23 : decode cX0_foundActor 23 = .ok (.iinc 2 1, 3) := by decide +kernel
theorem dX0_foundActor_26 : decode cX0_foundActor 26 = .ok (.goto (-24), 3) := by decide +kernel
theorem dX0_foundActor_29 : decode cX0_foundActor 29 = .ok (.iconst (-1), 1) := by decide +kernel
theorem dX0_foundActor_30 : decode cX0_foundActor 30 = .ok (.ireturn, 1) := by decide +kernel
set_option maxRecDepth 20000 in
theorem ggX0_greedySize_X0_dismissAll : GoodIn wsX0_greedySize wsX0_dismissAll := goodIn_r _ [11, 2, 17, 18, 19] (by decide +kernel) (by decide +kernel)
set_option maxRecDepth 20000 in
theorem gX0_greedySize_X0_dismissAll : GoodIn wsX0_greedySize (wsV RX0 39 RX0 yX0_dismissAll wsX0_dismissAll) := goodIn_app (goodIn_of _ (by decide +kernel)) ggX0_greedySize_X0_dismissAll
set_option maxRecDepth 20000 in
theorem ggX0_greedySize_X0_isFree : GoodIn wsX0_greedySize wsX0_isFree := goodIn_r _ [15, 2, 16, 17, 18, 19] (by decide +kernel) (by decide +kernel)
set_option maxRecDepth 20000 in
theorem gX0_greedySize_X0_isFree : GoodIn wsX0_greedySize (wsV RX0 52 RX0 yX0_isFree wsX0_isFree) := goodIn_app (goodIn_of _ (by decide +kernel)) ggX0_greedySize_X0_isFree
theorem dX0_greedySize_0 : decode cX0_greedySize 0 = .ok (.aload_n 0, 1) := by decide +kernel
theorem dX0_greedySize_1 : decode cX0_greedySize 1 = .ok (.invokevirtual 39, 3) := by decide +kernel
theorem dX0_greedySize_4 : decode cX0_greedySize 4 = .ok (.iconst 0, 1) := by decide +kernel
theorem dX0_greedySize_5 : decode cX0_greedySize 5 = .ok (.istore_n 1, 1) := by decide +kernel
theorem dX0_greedySize_6 : decode cX0_greedySize 6 = .ok (.iconst 0, 1) := by decide +kernel
theorem dX0_greedySize_7 : decode cX0_greedySize 7 = .ok (.istore_n 2, 1) := by decide +kernel
theorem dX0_greedySize_8 : decode cX0_greedySize 8 = .ok (.iload_n 2, 1) := by decide +kernel
theorem dX0_greedySize_9 : decode cX0_greedySize 9 = .ok (.aload_n 0, 1) := by decide +kernel
theorem dX0_greedySize_10 : decode cX0_greedySize 10 = .ok (.getfield 30, 3) := by decide +kernel
theorem dX0_greedySize_13 : decode cX0_greedySize 13 = .ok (.if_icmp .ge 52, 3) := by decide +kernel
theorem dX0_greedySize_16 : decode cX0_greedySize 16 = .ok (.iconst 0, 1) := by decide +kernel
theorem dX0_greedySize_17 : decode cX0_greedySize 17 = .ok (.istore_n 3, 1) := by decide +kernel
theorem dX0_greedySize_18 : decode cX0_greedySize 18 = .ok (.iload_n 3, 1) := by decide +kernel
theorem dX0_greedySize_19 : decode cX0_greedySize 19 = .ok (.bipush 7, 2) := by decide +kernel
theorem dX0_greedySize_21 : decode cX0_greedySize 21 = .ok (.if_icmp .ge 18, 3) := by decide +kernel
theorem dX0_greedySize_24 : decode cX0_greedySize 24 = .ok (.aload_n 0, 1) := by decide +kernel
theorem dX0_greedySize_25 : decode cX0_greedySize 25 = .ok (.iload_n 3, 1) := by decide +kernel
theorem dX0_greedySize_26 : decode cX0_greedySize 26 = .ok (.iload_n 2, 1) := by decide +kernel
theorem dX0_greedySize_27 : decode cX0_greedySize 27 = .ok (.invokevirtual 52, 3) := by decide +kernel
theorem dX0_greedySize_30 : decode cX0_greedySize 30 = .ok (.ifCond .ne 9, 3) := by decide +kernel
theorem dX0_greedySize_33 : decode cX0_greedySize 33 = .ok (.iinc 3 1, 3) := by decide +kernel
theorem dX0_greedySize_36 : decode cX0_greedySize 36 = .ok (.goto (-18), 3) := by decide +kernel
theorem dX0_greedySize_39 : decode cX0_greedySize 39 = .ok (.aload_n 0, 1) := by decide +kernel
theorem dX0_greedySize_40 : decode cX0_greedySize 40 = .ok (.getfield 15, 3) := by decide +kernel
theorem dX0_greedySize_43 : decode cX0_greedySize 43 = .ok (.iload_n 3, 1) := by decide +kernel
theorem dX0_greedySize_44 : decode cX0_greedySize 44 = .ok (.dup2, 1) := by decide +kernel
theorem dX0_greedySize_45 : decode cX0_greedySize 45 = .ok (.iaload, 1) := by decide +kernel
theorem dX0_greedySize_46 : decode cX0_greedySize 46 = .ok (.iconst 1, 1) := by decide +kernel
theorem dX0_greedySize_47 : decode cX0_greedySize 47 = .ok (.iload_n 2, 1) := by decide +kernel
theorem dX0_greedySize_48 : decode cX0_greedySize 48 = .ok (.ishl, 1) := by decide +kernel
theorem dX0_greedySize_49 : decode cX0_greedySize 49 = .ok (.ior, 1) := by decide +kernel
theorem dX0_greedySize_50 : decode cX0_greedySize 50 = .ok (.iastore, 1) := by decide +kernel
theorem dX0_greedySize_51 : decode cX0_greedySize 51 = .ok (.iload_n 1, 1) := by decide +kernel
theorem dX0_greedySize_52 : decode cX0_greedySize 52 = .ok (.iload_n 3, 1) := by decide +kernel
theorem dX0_greedySize_53 : decode cX0_greedySize 53 = .ok (.iconst 1, 1) := by decide +kernel
theorem dX0_greedySize_54 : decode cX0_greedySize 54 = .ok (.iadd, 1) := by decide +kernel
theorem dX0_greedySize_55 : decode cX0_greedySize 55 = .ok (.invokestatic 56, 3) := by decide +kernel
theorem dX0_greedySize_58 : decode cX0_greedySize 58 = .ok (.istore_n 1, 1) := by decide +kernel
theorem dX0_greedySize_59 : decode cX0_greedySize 59 = .ok (.iinc 2 1, 3) := by decide +kernel
theorem dX0_greedySize_62 : decode cX0_greedySize 62 = .ok (.goto (-54), 3) := by decide +kernel
theorem dX0_greedySize_65 : decode cX0_greedySize 65 = .ok (.iload_n 1, 1) := by decide +kernel
theorem dX0_greedySize_66 : decode cX0_greedySize 66 = .ok (.ireturn, 1) := by decide +kernel
set_option maxRecDepth 20000 in
theorem ggX0_largestClique_X0_isClique : GoodIn wsX0_largestClique wsX0_isClique := goodIn_r _ [10, 1, 11, 19, 20, 21] (by decide +kernel) (by decide +kernel)
set_option maxRecDepth 20000 in
theorem gX0_largestClique_X0_isClique : GoodIn wsX0_largestClique (wsV RX0 59 RX0 yX0_isClique wsX0_isClique) := goodIn_app (goodIn_of _ (by decide +kernel)) ggX0_largestClique_X0_isClique
set_option maxRecDepth 20000 in
theorem ggX0_largestClique_J6_bitCount_0f7a4 : GoodIn wsX0_largestClique wsJ6_bitCount_0f7a4 := goodIn_r _ [15, 16, 17, 18] (by decide +kernel) (by decide +kernel)
set_option maxRecDepth 20000 in
theorem gX0_largestClique_J6_bitCount_0f7a4 : GoodIn wsX0_largestClique (va_wsS RX0 62 yJ6_bitCount_0f7a4 wsJ6_bitCount_0f7a4) := goodIn_app (goodIn_of _ (by decide +kernel)) ggX0_largestClique_J6_bitCount_0f7a4
theorem dX0_largestClique_0 : decode cX0_largestClique 0 = .ok (.iconst 0, 1) := by decide +kernel
theorem dX0_largestClique_1 : decode cX0_largestClique 1 = .ok (.istore_n 1, 1) := by decide +kernel
theorem dX0_largestClique_2 : decode cX0_largestClique 2 = .ok (.iconst 1, 1) := by decide +kernel
theorem dX0_largestClique_3 : decode cX0_largestClique 3 = .ok (.istore_n 2, 1) := by decide +kernel
theorem dX0_largestClique_4 : decode cX0_largestClique 4 = .ok (.iload_n 2, 1) := by decide +kernel
theorem dX0_largestClique_5 : decode cX0_largestClique 5 = .ok (.iconst 1, 1) := by decide +kernel
theorem dX0_largestClique_6 : decode cX0_largestClique 6 = .ok (.aload_n 0, 1) := by decide +kernel
theorem dX0_largestClique_7 : decode cX0_largestClique 7 = .ok (.getfield 30, 3) := by decide +kernel
theorem dX0_largestClique_10 : decode cX0_largestClique 10 = .ok (.ishl, 1) := by decide +kernel
theorem dX0_largestClique_11 : decode cX0_largestClique 11 = .ok (.if_icmp .ge 26, 3) := by decide +kernel
theorem dX0_largestClique_14 : decode cX0_largestClique 14 = .ok (.aload_n 0, 1) := by decide +kernel
theorem dX0_largestClique_15 : decode cX0_largestClique 15 = .ok (.iload_n 2, 1) := by decide +kernel
theorem dX0_largestClique_16 : decode cX0_largestClique 16 = .ok (.invokevirtual 59, 3) := by decide +kernel
theorem dX0_largestClique_19 : decode cX0_largestClique 19 = .ok (.ifCond .eq 12, 3) := by decide +kernel
theorem dX0_largestClique_22 : decode cX0_largestClique 22 = .ok (.iload_n 1, 1) := by decide +kernel
theorem dX0_largestClique_23 : decode cX0_largestClique 23 = .ok (.iload_n 2, 1) := by decide +kernel
theorem dX0_largestClique_24 : decode cX0_largestClique 24 = .ok (.invokestatic 62, 3) := by decide +kernel
theorem dX0_largestClique_27 : decode cX0_largestClique 27 = .ok (.invokestatic 56, 3) := by decide +kernel
theorem dX0_largestClique_30 : decode cX0_largestClique 30 = .ok (.istore_n 1, 1) := by decide +kernel
theorem dX0_largestClique_31 : decode cX0_largestClique 31 = .ok (.iinc 2 1, 3) := by decide +kernel
theorem dX0_largestClique_34 : decode cX0_largestClique 34 = .ok (.goto (-30), 3) := by decide +kernel
theorem dX0_largestClique_37 : decode cX0_largestClique 37 = .ok (.iload_n 1, 1) := by decide +kernel
theorem dX0_largestClique_38 : decode cX0_largestClique 38 = .ok (.ireturn, 1) := by decide +kernel
theorem dX0_isClique_0 : decode cX0_isClique 0 = .ok (.iconst 0, 1) := by decide +kernel
theorem dX0_isClique_1 : decode cX0_isClique 1 = .ok (.istore_n 2, 1) := by decide +kernel
theorem dX0_isClique_2 : decode cX0_isClique 2 = .ok (.iload_n 2, 1) := by decide +kernel
theorem dX0_isClique_3 : decode cX0_isClique 3 = .ok (.aload_n 0, 1) := by decide +kernel
theorem dX0_isClique_4 : decode cX0_isClique 4 = .ok (.getfield 30, 3) := by decide +kernel
theorem dX0_isClique_7 : decode cX0_isClique 7 = .ok (.if_icmp .ge 37, 3) := by decide +kernel
theorem dX0_isClique_10 : decode cX0_isClique 10 = .ok (.iload_n 1, 1) := by decide +kernel
theorem dX0_isClique_11 : decode cX0_isClique 11 = .ok (.iconst 1, 1) := by decide +kernel
theorem dX0_isClique_12 : decode cX0_isClique 12 = .ok (.iload_n 2, 1) := by decide +kernel
theorem dX0_isClique_13 : decode cX0_isClique 13 = .ok (.ishl, 1) := by decide +kernel
theorem dX0_isClique_14 : decode cX0_isClique 14 = .ok (.iconst (-1), 1) := by decide +kernel
theorem dX0_isClique_15 : decode cX0_isClique 15 = .ok (.ixor, 1) := by decide +kernel
theorem dX0_isClique_16 : decode cX0_isClique 16 = .ok (.iand, 1) := by decide +kernel
theorem dX0_isClique_17 : decode cX0_isClique 17 = .ok (.istore_n 3, 1) := by decide +kernel
theorem dX0_isClique_18 : decode cX0_isClique 18 = .ok (.iload_n 3, 1) := by decide +kernel
theorem dX0_isClique_19 : decode cX0_isClique 19 = .ok (.iload_n 1, 1) := by decide +kernel
theorem dX0_isClique_20 : decode cX0_isClique 20 = .ok (.if_icmp .eq 18, 3) := by decide +kernel
theorem dX0_isClique_23 : decode cX0_isClique 23 = .ok (.iload_n 3, 1) := by decide +kernel
theorem dX0_isClique_24 : decode cX0_isClique 24 = .ok (.aload_n 0, 1) := by decide +kernel
theorem dX0_isClique_25 : decode cX0_isClique 25 = .ok (.getfield 9, 3) := by decide +kernel
theorem dX0_isClique_28 : decode cX0_isClique 28 = .ok (.iload_n 2, 1) := by decide +kernel
theorem dX0_isClique_29 : decode cX0_isClique 29 = .ok (.iaload, 1) := by decide +kernel
theorem dX0_isClique_30 : decode cX0_isClique 30 = .ok (.iconst (-1), 1) := by decide +kernel
theorem dX0_isClique_31 : decode cX0_isClique 31 = .ok (.ixor, 1) := by decide +kernel
theorem dX0_isClique_32 : decode cX0_isClique 32 = .ok (.iand, 1) := by decide +kernel
theorem dX0_isClique_33 : decode cX0_isClique 33 = .ok (.ifCond .eq 5, 3) := by decide +kernel
theorem dX0_isClique_36 : decode cX0_isClique 36 = .ok (.iconst 0, 1) := by decide +kernel
theorem dX0_isClique_37 : decode cX0_isClique 37 = .ok (.ireturn, 1) := by decide +kernel
theorem dX0_isClique_38 : decode cX0_isClique 38 = .ok (.iinc 2 1, 3) := by decide +kernel
theorem dX0_isClique_41 : decode cX0_isClique 41 = .ok (.goto (-39), 3) := by decide +kernel
theorem dX0_isClique_44 : decode cX0_isClique 44 = .ok (.iconst 1, 1) := by decide +kernel
theorem dX0_isClique_45 : decode cX0_isClique 45 = .ok (.ireturn, 1) := by decide +kernel
theorem dX0_isFree_0 : decode cX0_isFree 0 = .ok (.aload_n 0, 1) := by decide +kernel
theorem dX0_isFree_1 : decode cX0_isFree 1 = .ok (.getfield 15, 3) := by decide +kernel
theorem dX0_isFree_4 : decode cX0_isFree 4 = .ok (.iload_n 1, 1) := by decide +kernel
theorem dX0_isFree_5 : decode cX0_isFree 5 = .ok (.iaload, 1) := by decide +kernel
theorem dX0_isFree_6 : decode cX0_isFree 6 = .ok (.aload_n 0, 1) := by decide +kernel
theorem dX0_isFree_7 : decode cX0_isFree 7 = .ok (.getfield 9, 3) := by decide +kernel
theorem dX0_isFree_10 : decode cX0_isFree 10 = .ok (.iload_n 2, 1) := by decide +kernel
theorem dX0_isFree_11 : decode cX0_isFree 11 = .ok (.iaload, 1) := by decide +kernel
theorem dX0_isFree_12 : decode cX0_isFree 12 = .ok (.iand, 1) := by decide +kernel
theorem dX0_isFree_13 : decode cX0_isFree 13 = .ok (.ifCond .ne 7, 3) := by decide +kernel
theorem dX0_isFree_16 : decode cX0_isFree 16 = .ok (.iconst 1, 1) := by decide +kernel
theorem dX0_isFree_17 : decode cX0_isFree 17 = .ok (.goto 4, 3) := by decide +kernel
theorem dX0_isFree_20 : decode cX0_isFree 20 = .ok (.iconst 0, 1) := by decide +kernel
theorem dX0_isFree_21 : decode cX0_isFree 21 = .ok (.ireturn, 1) := by decide +kernel
theorem dX0_dismissAll_0 : decode cX0_dismissAll 0 = .ok (.iconst 0, 1) := by decide +kernel
theorem dX0_dismissAll_1 : decode cX0_dismissAll 1 = .ok (.istore_n 1, 1) := by decide +kernel
theorem dX0_dismissAll_2 : decode cX0_dismissAll 2 = .ok (.iload_n 1, 1) := by decide +kernel
theorem dX0_dismissAll_3 : decode cX0_dismissAll 3 = .ok (.bipush 8, 2) := by decide +kernel
theorem dX0_dismissAll_5 : decode cX0_dismissAll 5 = .ok (.if_icmp .ge 16, 3) := by decide +kernel
theorem dX0_dismissAll_8 : decode cX0_dismissAll 8 = .ok (.aload_n 0, 1) := by decide +kernel
theorem dX0_dismissAll_9 : decode cX0_dismissAll 9 = .ok (.getfield 15, 3) := by decide +kernel
theorem dX0_dismissAll_12 : decode cX0_dismissAll 12 = .ok (.iload_n 1, 1) := by decide +kernel
theorem dX0_dismissAll_13 : decode cX0_dismissAll 13 = .ok (.iconst 0, 1) := by decide +kernel
theorem dX0_dismissAll_14 : decode cX0_dismissAll 14 = .ok (.iastore, 1) := by decide +kernel
theorem dX0_dismissAll_15 : decode cX0_dismissAll 15 = .ok (.iinc 1 1, 3) := by decide +kernel
theorem dX0_dismissAll_18 : decode cX0_dismissAll 18 = .ok (.goto (-16), 3) := by decide +kernel
theorem dX0_dismissAll_21 : decode cX0_dismissAll 21 = .ok (.return_, 1) := by decide +kernel
set_option maxRecDepth 20000 in
theorem ggX0_castFrom_X0_isFree : GoodIn wsX0_castFrom wsX0_isFree := goodIn_r _ [11, 2, 12, 15, 16, 17] (by decide +kernel) (by decide +kernel)
set_option maxRecDepth 20000 in
theorem gX0_castFrom_X0_isFree : GoodIn wsX0_castFrom (wsV RX0 52 RX0 yX0_isFree wsX0_isFree) := goodIn_app (goodIn_of _ (by decide +kernel)) ggX0_castFrom_X0_isFree
set_option maxRecDepth 20000 in
theorem ggX0_castFrom_X0_castFrom : GoodIn wsX0_castFrom wsX0_castFrom := goodIn_r _ [0, 1, 2, 3, 4, 5, 6, 7, 8, 9, 10, 11, 12, 13, 14, 15, 16, 17] (by decide +kernel) (by decide +kernel)
set_option maxRecDepth 20000 in
theorem gX0_castFrom_X0_castFrom : GoodIn wsX0_castFrom (va_wsS RX0 48 yX0_castFrom wsX0_castFrom) := goodIn_app (goodIn_of _ (by decide +kernel)) ggX0_castFrom_X0_castFrom
theorem dX0_castFrom_0 : decode cX0_castFrom 0 = .ok (.iload_n 1, 1) := by decide +kernel
theorem dX0_castFrom_1 : decode cX0_castFrom 1 = .ok (.aload_n 0, 1) := by decide +kernel
theorem dX0_castFrom_2 : decode cX0_castFrom 2 = .ok (.getfield 30, 3) := by decide +kernel
theorem dX0_castFrom_5 : decode cX0_castFrom 5 = .ok (.if_icmp .ge 9, 3) := by decide +kernel
theorem dX0_castFrom_8 : decode cX0_castFrom 8 = .ok (.iload_n 1, 1) := by decide +kernel
theorem dX0_castFrom_9 : decode cX0_castFrom 9 = .ok (.bipush 8, 2) := by decide +kernel
theorem dX0_castFrom_11 : decode cX0_castFrom 11 = .ok (.if_icmp .lt 5, 3) := by decide +kernel
theorem dX0_castFrom_14 : decode cX0_castFrom 14 = .ok (.iconst 1, 1) := by decide +kernel
theorem dX0_castFrom_15 : decode cX0_castFrom 15 = .ok (.ireturn, 1) := by decide +kernel
theorem dX0_castFrom_16 : decode cX0_castFrom 16 = .ok (.iconst 0, 1) := by decide +kernel
theorem dX0_castFrom_17 : decode cX0_castFrom 17 = .ok (.istore 4, 2) := by decide +kernel
theorem dX0_castFrom_19 : decode cX0_castFrom 19 = .ok (.iload 4, 2) := by decide +kernel
theorem dX0_castFrom_21 : decode cX0_castFrom 21 = .ok (.iload_n 2, 1) := by decide +kernel
theorem dX0_castFrom_22 : decode cX0_castFrom 22 = .ok (.if_icmp .gt 74, 3) := by decide +kernel
theorem dX0_castFrom_25 : decode cX0_castFrom 25 = .ok (.iload 4, 2) := by decide +kernel
theorem dX0_castFrom_27 : decode cX0_castFrom 27 = .ok (.iload_n 3, 1) := by decide +kernel
theorem dX0_castFrom_28 : decode cX0_castFrom 28 = .ok (.if_icmp .ge 68, 3) := by decide +kernel
theorem dX0_castFrom_31 : decode cX0_castFrom 31 = .ok (.aload_n 0, 1) := by decide +kernel
theorem dX0_castFrom_32 : decode cX0_castFrom 32 = .ok (.iload 4, 2) := by decide +kernel
theorem dX0_castFrom_34 : decode cX0_castFrom 34 = .ok (.iload_n 1, 1) := by decide +kernel
theorem dX0_castFrom_35 : decode cX0_castFrom 35 = .ok (.invokevirtual 52, 3) := by decide +kernel
theorem dX0_castFrom_38 : decode cX0_castFrom 38 = .ok (.ifCond .eq 52, 3) := by decide +kernel
theorem dX0_castFrom_41 : decode cX0_castFrom 41 = .ok (.aload_n 0, 1) := by decide +kernel
theorem dX0_castFrom_42 : decode cX0_castFrom 42 = .ok (.getfield 15, 3) := by decide +kernel
theorem dX0_castFrom_45 : decode cX0_castFrom 45 = .ok (.iload 4, 2) := by decide +kernel
theorem dX0_castFrom_47 : decode cX0_castFrom 47 = .ok (.dup2, 1) := by decide +kernel
theorem dX0_castFrom_48 : decode cX0_castFrom 48 = .ok (.iaload, 1) := by decide +kernel
theorem dX0_castFrom_49 : decode cX0_castFrom 49 = .ok (.iconst 1, 1) := by decide +kernel
theorem dX0_castFrom_50 : decode cX0_castFrom 50 = .ok (.iload_n 1, 1) := by decide +kernel
theorem dX0_castFrom_51 : decode cX0_castFrom 51 = .ok (.ishl, 1) := by decide +kernel
theorem dX0_castFrom_52 : decode cX0_castFrom 52 = .ok (.ior, 1) := by decide +kernel
theorem dX0_castFrom_53 : decode cX0_castFrom 53 = .ok (.iastore, 1) := by decide +kernel
theorem dX0_castFrom_54 : decode cX0_castFrom 54 = .ok (.aload_n 0, 1) := by decide +kernel
theorem dX0_castFrom_55 : decode cX0_castFrom 55 = .ok (.iload_n 1, 1) := by decide +kernel
theorem dX0_castFrom_56 : decode cX0_castFrom 56 = .ok (.iconst 1, 1) := by decide +kernel
theorem dX0_castFrom_57 : decode cX0_castFrom 57 = .ok (.iadd, 1) := by decide +kernel
theorem dX0_castFrom_58 : decode cX0_castFrom 58 = .ok (.iload_n 2, 1) := by decide +kernel
theorem dX0_castFrom_59 : decode cX0_castFrom 59 = .ok (.iload 4, 2) := by decide +kernel
theorem dX0_castFrom_61 : decode cX0_castFrom 61 = .ok (.iconst 1, 1) := by decide +kernel
theorem dX0_castFrom_62 : decode cX0_castFrom 62 = .ok (.iadd, 1) := by decide +kernel
theorem dX0_castFrom_63 : decode cX0_castFrom 63 = .ok (.invokestatic 56, 3) := by decide +kernel
theorem dX0_castFrom_66 : decode cX0_castFrom 66 = .ok (.iload_n 3, 1) := by decide +kernel
theorem dX0_castFrom_67 : decode cX0_castFrom 67 = .ok (.invokestatic 48, 3) := by decide +kernel
theorem dX0_castFrom_70 : decode cX0_castFrom 70 = .ok (.ifCond .eq 5, 3) := by decide +kernel
theorem dX0_castFrom_73 : decode cX0_castFrom 73 = .ok (.iconst 1, 1) := by decide +kernel
theorem dX0_castFrom_74 : decode cX0_castFrom 74 = .ok (.ireturn, 1) := by decide +kernel
theorem dX0_castFrom_75 : decode cX0_castFrom 75 = .ok (.aload_n 0, 1) := by decide +kernel
theorem dX0_castFrom_76 : decode cX0_castFrom 76 = .ok (.getfield 15, 3) := by decide +kernel
theorem dX0_castFrom_79 : decode cX0_castFrom 79 = .ok (.iload 4, 2) := by decide +kernel
theorem dX0_castFrom_81 : decode cX0_castFrom 81 = .ok (.dup2, 1) := by decide +kernel
theorem dX0_castFrom_82 : decode cX0_castFrom 82 = .ok (.iaload, 1) := by decide +kernel
theorem dX0_castFrom_83 : decode cX0_castFrom 83 = .ok (.iconst 1, 1) := by decide +kernel
theorem dX0_castFrom_84 : decode cX0_castFrom 84 = .ok (.iload_n 1, 1) := by decide +kernel
theorem dX0_castFrom_85 : decode cX0_castFrom 85 = .ok (.ishl, 1) := by decide +kernel
theorem dX0_castFrom_86 : decode cX0_castFrom 86 = .ok (.iconst (-1), 1) := by decide +kernel
theorem dX0_castFrom_87 : decode cX0_castFrom 87 = .ok (.ixor, 1) := by decide +kernel
theorem dX0_castFrom_88 : decode cX0_castFrom 88 = .ok (.iand, 1) := by decide +kernel
theorem dX0_castFrom_89 : decode cX0_castFrom 89 = .ok (.iastore, 1) := by decide +kernel
theorem dX0_castFrom_90 : decode cX0_castFrom 90 = .ok (.iinc 4 1, 3) := by decide +kernel
theorem dX0_castFrom_93 : decode cX0_castFrom 93 = .ok (.goto (-74), 3) := by decide +kernel
theorem dX0_castFrom_96 : decode cX0_castFrom 96 = .ok (.iconst 0, 1) := by decide +kernel
theorem dX0_castFrom_97 : decode cX0_castFrom 97 = .ok (.ireturn, 1) := by decide +kernel
set_option maxRecDepth 20000 in
theorem ggX1_init_X2_init : GoodIn wsX1_init wsX2_init := goodIn_r _ [9, 10, 2, 3, 11, 12, 13, 14, 15, 16, 17, 18, 19, 20, 23, 24, 25, 26, 27, 28, 29, 30, 31, 32, 33, 34] (by decide +kernel) (by decide +kernel)
set_option maxRecDepth 20000 in
theorem gX1_init_X2_init_n17 : GoodIn wsX1_init (wsX2_init) := ggX1_init_X2_init
theorem dX1_init_0 : decode cX1_init 0 = .ok (.aload_n 0, 1) := by decide +kernel
theorem dX1_init_1 : decode cX1_init 1 = .ok (.invokespecial 3, 3) := by decide +kernel
theorem dX1_init_4 : decode cX1_init 4 = .ok (.aload_n 0, 1) := by decide +kernel
theorem dX1_init_5 : decode cX1_init 5 = .ok (.iconst 5, 1) := by decide +kernel
theorem dX1_init_6 : decode cX1_init 6 = .ok (.anewarray 9, 3) := by decide +kernel
theorem dX1_init_9 : decode cX1_init 9 = .ok (.putfield 11, 3) := by decide +kernel
theorem dX1_init_12 : decode cX1_init 12 = .ok (.iconst 0, 1) := by decide +kernel
theorem dX1_init_13 : decode cX1_init 13 = .ok (.istore_n 1, 1) := by decide +kernel
theorem dX1_init_14 : decode cX1_init 14 = .ok (.iload_n 1, 1) := by decide +kernel
theorem dX1_init_15 : decode cX1_init 15 = .ok (.iconst 5, 1) := by decide +kernel
theorem dX1_init_16 : decode cX1_init 16 = .ok (.if_icmp .ge 22, 3) := by decide +kernel
theorem dX1_init_19 : decode cX1_init 19 = .ok (.aload_n 0, 1) := by decide +kernel
theorem dX1_init_20 : decode cX1_init 20 = .ok (.getfield 11, 3) := by decide +kernel
theorem dX1_init_23 : decode cX1_init 23 = .ok (.iload_n 1, 1) := by decide +kernel
theorem dX1_init_24 : decode cX1_init 24 = .ok (.new 9, 3) := by decide +kernel
theorem dX1_init_27 : decode cX1_init 27 = .ok (.dup, 1) := by decide +kernel
theorem dX1_init_28 : decode cX1_init 28 = .ok (.invokespecial 17, 3) := by decide +kernel
theorem dX1_init_31 : decode cX1_init 31 = .ok (.aastore, 1) := by decide +kernel
theorem dX1_init_32 : decode cX1_init 32 = .ok (.iinc 1 1, 3) := by decide +kernel
theorem dX1_init_35 : decode cX1_init 35 = .ok (.goto (-21), 3) := by decide +kernel
theorem dX1_init_38 : decode cX1_init 38 = .ok (.return_, 1) := by decide +kernel
set_option maxRecDepth 20000 in
theorem ggX1_remember_X1_forgetOldest : GoodIn wsX1_remember wsX1_forgetOldest := goodIn_r _ [7, 2, 1, 29, 30] (by decide +kernel) (by decide +kernel)
set_option maxRecDepth 20000 in
theorem gX1_remember_X1_forgetOldest : GoodIn wsX1_remember (wsV RX1 22 RX1 yX1_forgetOldest wsX1_forgetOldest) := goodIn_app (goodIn_of _ (by decide +kernel)) ggX1_remember_X1_forgetOldest
set_option maxRecDepth 20000 in
theorem ggX1_remember_X2_copyFrom : GoodIn wsX1_remember wsX2_copyFrom := goodIn_r _ [12, 13, 14, 15, 16, 17, 18, 19, 20, 21, 22, 23, 24, 25, 26, 27, 28, 31, 32, 33, 34, 35, 36, 37, 38, 39, 40, 41, 42] (by decide +kernel) (by decide +kernel)
set_option maxRecDepth 20000 in
theorem gX1_remember_X2_copyFrom : GoodIn wsX1_remember (wsV RX1 25 RX2 yX2_copyFrom wsX2_copyFrom) := goodIn_app (goodIn_of _ (by decide +kernel)) ggX1_remember_X2_copyFrom
theorem dX1_remember_0 : decode cX1_remember 0 = .ok (.aload_n 0, 1) := by decide +kernel
theorem dX1_remember_1 : decode cX1_remember 1 = .ok (.getfield 18, 3) := by decide +kernel
theorem dX1_remember_4 : decode cX1_remember 4 = .ok (.iconst 5, 1) := by decide +kernel
theorem dX1_remember_5 : decode cX1_remember 5 = .ok (.if_icmp .lt 7, 3) := by decide +kernel
theorem dX1_remember_8 : decode cX1_remember 8 = .ok (.aload_n 0, 1) := by decide +kernel
theorem dX1_remember_9 : decode cX1_remember 9 = .ok (.invokevirtual 22, 3) := by decide +kernel
theorem dX1_remember_12 : decode cX1_remember 12 = .ok (.aload_n 0, 1) := by decide +kernel
theorem dX1_remember_13 : decode cX1_remember 13 = .ok (.getfield 11, 3) := by decide +kernel
theorem dX1_remember_16 : decode cX1_remember 16 = .ok (.aload_n 0, 1) := by decide +kernel
theorem dX1_remember_17 : decode cX1_remember 17 = .ok (.getfield 18, 3) := by decide +kernel
theorem dX1_remember_20 : decode cX1_remember 20 = .ok (.aaload, 1) := by decide +kernel
theorem dX1_remember_21 : decode cX1_remember 21 = .ok (.aload_n 1, 1) := by decide +kernel
theorem dX1_remember_22 : decode cX1_remember 22 = .ok (.invokevirtual 25, 3) := by decide +kernel
theorem dX1_remember_25 : decode cX1_remember 25 = .ok (.aload_n 0, 1) := by decide +kernel
theorem dX1_remember_26 : decode cX1_remember 26 = .ok (.dup, 1) := by decide +kernel
theorem dX1_remember_27 : decode cX1_remember 27 = .ok (.getfield 18, 3) := by decide +kernel
theorem dX1_remember_30 : decode cX1_remember 30 = .ok (.iconst 1, 1) := by decide +kernel
theorem dX1_remember_31 : decode cX1_remember 31 = .ok (.iadd, 1) := by decide +kernel
theorem dX1_remember_32 : decode cX1_remember 32 = .ok (.putfield 18, 3) := by decide +kernel
theorem dX1_remember_35 : decode cX1_remember 35 = .ok (.return_, 1) := by decide +kernel
set_option maxRecDepth 20000 in
theorem ggX1_bringBack_X2_copyFrom : GoodIn wsX1_bringBack wsX2_copyFrom := goodIn_r _ [7, 8, 9, 10, 11, 12, 13, 14, 15, 16, 17, 18, 19, 20, 21, 22, 23, 26, 27, 28, 29, 30, 31, 32, 33, 34, 35, 36, 37] (by decide +kernel) (by decide +kernel)
set_option maxRecDepth 20000 in
theorem gX1_bringBack_X2_copyFrom : GoodIn wsX1_bringBack (wsV RX1 25 RX2 yX2_copyFrom wsX2_copyFrom) := goodIn_app (goodIn_of _ (by decide +kernel)) ggX1_bringBack_X2_copyFrom
theorem dX1_bringBack_0 : decode cX1_bringBack 0 = .ok (.aload_n 0, 1) := by decide +kernel
theorem dX1_bringBack_1 : decode cX1_bringBack 1 = .ok (.getfield 18, 3) := by decide +kernel
theorem dX1_bringBack_4 : decode cX1_bringBack 4 = .ok (.ifCond .le 26, 3) := by decide +kernel
theorem dX1_bringBack_7 : decode cX1_bringBack 7 = .ok (.aload_n 0, 1) := by decide +kernel
theorem dX1_bringBack_8 : decode cX1_bringBack 8 = .ok (.dup, 1) := by decide +kernel
theorem dX1_bringBack_9 : decode cX1_bringBack 9 = .ok (.getfield 18, 3) := by decide +kernel
theorem dX1_bringBack_12 : decode cX1_bringBack 12 = .ok (.iconst 1, 1) := by decide +kernel
theorem dX1_bringBack_13 : decode cX1_bringBack 13 = .ok (.isub, 1) := by decide +kernel
theorem dX1_bringBack_14 : decode cX1_bringBack 14 = .ok (.putfield 18, 3) := by decide +kernel
theorem dX1_bringBack_17 : decode cX1_bringBack 17 = .ok (.aload_n 1, 1) := by decide +kernel
theorem dX1_bringBack_18 : decode cX1_bringBack 18 = .ok (.aload_n 0, 1) := by decide +kernel
theorem dX1_bringBack_19 : decode cX1_bringBack 19 = .ok (.getfield 11, 3) := by decide +kernel
theorem dX1_bringBack_22 : decode cX1_bringBack 22 = .ok (.aload_n 0, 1) := by decide +kernel
theorem dX1_bringBack_23 : decode cX1_bringBack 23 = .ok (.getfield 18, 3) := by decide +kernel
theorem dX1_bringBack_26 : decode cX1_bringBack 26 = .ok (.aaload, 1) := by decide +kernel
theorem dX1_bringBack_27 : decode cX1_bringBack 27 = .ok (.invokevirtual 25, 3) := by decide +kernel
theorem dX1_bringBack_30 : decode cX1_bringBack 30 = .ok (.return_, 1) := by decide +kernel
theorem dX1_forgetOldest_0 : decode cX1_forgetOldest 0 = .ok (.aload_n 0, 1) := by decide +kernel
theorem dX1_forgetOldest_1 : decode cX1_forgetOldest 1 = .ok (.getfield 11, 3) := by decide +kernel
theorem dX1_forgetOldest_4 : decode cX1_forgetOldest 4 = .ok (.iconst 0, 1) := by decide +kernel
theorem dX1_forgetOldest_5 : decode cX1_forgetOldest 5 = .ok (.aaload, 1) := by decide +kernel
theorem dX1_forgetOldest_6 : decode cX1_forgetOldest 6 = .ok (.astore_n 1, 1) := by decide +kernel
theorem dX1_forgetOldest_7 : decode cX1_forgetOldest 7 = .ok (.iconst 1, 1) := by decide +kernel
theorem dX1_forgetOldest_8 : decode cX1_forgetOldest 8 = .ok (.istore_n 2, 1) := by decide +kernel
theorem dX1_forgetOldest_9 : decode cX1_forgetOldest 9 = .ok (.iload_n 2, 1) := by decide +kernel
theorem dX1_forgetOldest_10 : decode cX1_forgetOldest 10 = .ok (.iconst 5, 1) := by decide +kernel
theorem dX1_forgetOldest_11 : decode cX1_forgetOldest 11 = .ok (.if_icmp .ge 23, 3) := by decide +kernel
theorem dX1_forgetOldest_14 : decode cX1_forgetOldest 14 = .ok (.aload_n 0, 1) := by decide +kernel
theorem dX1_forgetOldest_15 : decode cX1_forgetOldest 15 = .ok (.getfield 11, 3) := by decide +kernel
theorem dX1_forgetOldest_18 : decode cX1_forgetOldest 18 = .ok (.iload_n 2, 1) := by decide +kernel
theorem dX1_forgetOldest_19 : decode cX1_forgetOldest 19 = .ok (.iconst 1, 1) := by decide +kernel
theorem dX1_forgetOldest_20 : decode cX1_forgetOldest 20 = .ok (.isub, 1) := by decide +kernel
theorem dX1_forgetOldest_21 : decode cX1_forgetOldest 21 = .ok (.aload_n 0, 1) := by decide +kernel
theorem dX1_forgetOldest_22 : decode cX1_forgetOldest 22 = .ok (.getfield 11, 3) := by decide +kernel
theorem dX1_forgetOldest_25 : decode cX1_forgetOldest 25 = .ok (.iload_n 2, 1) := by decide +kernel
theorem dX1_forgetOldest_26 : decode cX1_forgetOldest 26 = .ok (.aaload, 1) := by decide +kernel
theorem dX1_forgetOldest_27 : decode cX1_forgetOldest 27 = .ok (.aastore, 1) := by decide +kernel
theorem dX1_forgetOldest_28 : decode cX1_forgetOldest 28 = .ok (.iinc 2 1, 3) := by decide +kernel
theorem dX1_forgetOldest_31 : decode cX1_forgetOldest 31 = .ok (.goto (-22), 3) := by decide +kernel
theorem dX1_forgetOldest_34 : decode cX1_forgetOldest 34 = .ok (.aload_n 0, 1) := by decide +kernel
theorem dX1_forgetOldest_35 : decode cX1_forgetOldest 35 = .ok (.getfield 11, 3) := by decide +kernel
theorem dX1_forgetOldest_38 : decode cX1_forgetOldest 38 = .ok (.iconst 4, 1) := by decide +kernel
theorem dX1_forgetOldest_39 : decode cX1_forgetOldest 39 = .ok (.aload_n 1, 1) := by decide +kernel
theorem dX1_forgetOldest_40 : decode cX1_forgetOldest 40 = .ok (.aastore, 1) := by decide +kernel
theorem dX1_forgetOldest_41 : decode cX1_forgetOldest 41 = .ok (.aload_n 0, 1) := by decide +kernel
theorem dX1_forgetOldest_42 : decode cX1_forgetOldest 42 = .ok (.iconst 4, 1) := by decide +kernel
theorem dX1_forgetOldest_43 : decode cX1_forgetOldest 43 = .ok (.putfield 18, 3) := by decide +kernel
theorem dX1_forgetOldest_46 : decode cX1_forgetOldest 46 = .ok (.return_, 1) := by decide +kernel
theorem dX2_init_0 : decode cX2_init 0 = .ok (.aload_n 0, 1) := by decide +kernel
theorem dX2_init_1 : decode cX2_init 1 = .ok (.invokespecial 3, 3) := by decide +kernel
theorem dX2_init_4 : decode cX2_init 4 = .ok (.aload_n 0, 1) := by decide +kernel
theorem dX2_init_5 : decode cX2_init 5 = .ok (.bipush 10, 2) := by decide +kernel
theorem dX2_init_7 : decode cX2_init 7 = .ok (.newarray .int, 2) := by decide +kernel
theorem dX2_init_9 : decode cX2_init 9 = .ok (.putfield 9, 3) := by decide +kernel
theorem dX2_init_12 : decode cX2_init 12 = .ok (.aload_n 0, 1) := by decide +kernel
theorem dX2_init_13 : decode cX2_init 13 = .ok (.bipush 8, 2) := by decide +kernel
theorem dX2_init_15 : decode cX2_init 15 = .ok (.newarray .int, 2) := by decide +kernel
theorem dX2_init_17 : decode cX2_init 17 = .ok (.putfield 15, 3) := by decide +kernel
theorem dX2_init_20 : decode cX2_init 20 = .ok (.aload_n 0, 1) := by decide +kernel
theorem dX2_init_21 : decode cX2_init 21 = .ok (.bipush 8, 2) := by decide +kernel
theorem dX2_init_23 : decode cX2_init 23 = .ok (.newarray .int, 2) := by decide +kernel
theorem dX2_init_25 : decode cX2_init 25 = .ok (.putfield 18, 3) := by decide +kernel
theorem dX2_init_28 : decode cX2_init 28 = .ok (.aload_n 0, 1) := by decide +kernel
theorem dX2_init_29 : decode cX2_init 29 = .ok (.bipush 8, 2) := by decide +kernel
theorem dX2_init_31 : decode cX2_init 31 = .ok (.newarray .int, 2) := by decide +kernel
theorem dX2_init_33 : decode cX2_init 33 = .ok (.putfield 21, 3) := by decide +kernel
theorem dX2_init_36 : decode cX2_init 36 = .ok (.aload_n 0, 1) := by decide +kernel
theorem dX2_init_37 : decode cX2_init 37 = .ok (.bipush 8, 2) := by decide +kernel
theorem dX2_init_39 : decode cX2_init 39 = .ok (.newarray .int, 2) := by decide +kernel
theorem dX2_init_41 : decode cX2_init 41 = .ok (.putfield 24, 3) := by decide +kernel
theorem dX2_init_44 : decode cX2_init 44 = .ok (.aload_n 0, 1) := by decide +kernel
theorem dX2_init_45 : decode cX2_init 45 = .ok (.bipush 20, 2) := by decide +kernel
theorem dX2_init_47 : decode cX2_init 47 = .ok (.newarray .int, 2) := by decide +kernel
theorem dX2_init_49 : decode cX2_init 49 = .ok (.putfield 27, 3) := by decide +kernel
theorem dX2_init_52 : decode cX2_init 52 = .ok (.aload_n 0, 1) := by decide +kernel
theorem dX2_init_53 : decode cX2_init 53 = .ok (.bipush 20, 2) := by decide +kernel
theorem dX2_init_55 : decode cX2_init 55 = .ok (.newarray .int, 2) := by decide +kernel
theorem dX2_init_57 : decode cX2_init 57 = .ok (.putfield 30, 3) := by decide +kernel
theorem dX2_init_60 : decode cX2_init 60 = .ok (.aload_n 0, 1) := by decide +kernel
theorem dX2_init_61 : decode cX2_init 61 = .ok (.bipush 20, 2) := by decide +kernel
theorem dX2_init_63 : decode cX2_init 63 = .ok (.newarray .int, 2) := by decide +kernel
theorem dX2_init_65 : decode cX2_init 65 = .ok (.putfield 33, 3) := by decide +kernel
theorem dX2_init_68 : decode cX2_init 68 = .ok (.aload_n 0, 1) := by decide +kernel
theorem dX2_init_69 : decode cX2_init 69 = .ok (.bipush 20, 2) := by decide +kernel
theorem dX2_init_71 : decode cX2_init 71 = .ok (.newarray .int, 2) := by decide +kernel
theorem dX2_init_73 : decode cX2_init 73 = .ok (.putfield 36, 3) := by decide +kernel
theorem dX2_init_76 : decode cX2_init 76 = .ok (.return_, 1) := by decide +kernel
theorem dX2_makeEmpty_0 : decode cX2_makeEmpty 0 = .ok (.aload_n 0, 1) := by decide +kernel
theorem dX2_makeEmpty_1 : decode cX2_makeEmpty 1 = .ok (.iconst 0, 1) := by decide +kernel
theorem dX2_makeEmpty_2 : decode cX2_makeEmpty 2 = .ok (.putfield 39, 3) := by decide +kernel
theorem dX2_makeEmpty_5 : decode cX2_makeEmpty 5 = .ok (.aload_n 0, 1) := by decide +kernel
theorem dX2_makeEmpty_6 : decode cX2_makeEmpty 6 = .ok (.iconst 0, 1) := by decide +kernel
theorem dX2_makeEmpty_7 : decode cX2_makeEmpty 7 = .ok (.putfield 43, 3) := by decide +kernel
theorem dX2_makeEmpty_10 : decode cX2_makeEmpty 10 = .ok (.aload_n 0, 1) := by decide +kernel
theorem dX2_makeEmpty_11 : decode cX2_makeEmpty 11 = .ok (.iconst 0, 1) := by decide +kernel
theorem dX2_makeEmpty_12 : decode cX2_makeEmpty 12 = .ok (.putfield 46, 3) := by decide +kernel
theorem dX2_makeEmpty_15 : decode cX2_makeEmpty 15 = .ok (.return_, 1) := by decide +kernel
theorem dX2_copyFrom_0 : decode cX2_copyFrom 0 = .ok (.aload_n 0, 1) := by decide +kernel
theorem dX2_copyFrom_1 : decode cX2_copyFrom 1 = .ok (.aload_n 1, 1) := by decide +kernel
theorem dX2_copyFrom_2 : decode cX2_copyFrom 2 = .ok (.getfield 39, 3) := by decide +kernel
theorem dX2_copyFrom_5 : decode cX2_copyFrom 5 = .ok (.putfield 39, 3) := by decide +kernel
theorem dX2_copyFrom_8 : decode cX2_copyFrom 8 = .ok (.aload_n 0, 1) := by decide +kernel
theorem dX2_copyFrom_9 : decode cX2_copyFrom 9 = .ok (.aload_n 1, 1) := by decide +kernel
theorem dX2_copyFrom_10 : decode cX2_copyFrom 10 = .ok (.getfield 43, 3) := by decide +kernel
theorem dX2_copyFrom_13 : decode cX2_copyFrom 13 = .ok (.putfield 43, 3) := by decide +kernel
theorem dX2_copyFrom_16 : decode cX2_copyFrom 16 = .ok (.aload_n 0, 1) := by decide +kernel
theorem dX2_copyFrom_17 : decode cX2_copyFrom 17 = .ok (.aload_n 1, 1) := by decide +kernel
theorem dX2_copyFrom_18 : decode cX2_copyFrom 18 = .ok (.getfield 46, 3) := by decide +kernel
theorem dX2_copyFrom_21 : decode cX2_copyFrom 21 = .ok (.putfield 46, 3) := by decide +kernel
theorem dX2_copyFrom_24 : decode cX2_copyFrom 24 = .ok (.aload_n 1, 1) := by decide +kernel
theorem dX2_copyFrom_25 : decode cX2_copyFrom 25 = .ok (.getfield 9, 3) := by decide +kernel
theorem dX2_copyFrom_28 : decode cX2_copyFrom 28 = .ok (.iconst 0, 1) := by decide +kernel
theorem dX2_copyFrom_29 : decode cX2_copyFrom 29 = .ok (.aload_n 0, 1) := by decide +kernel
theorem dX2_copyFrom_30 : decode cX2_copyFrom 30 = .ok (.getfield 9, 3) := by decide +kernel
theorem dX2_copyFrom_33 : decode cX2_copyFrom 33 = .ok (.iconst 0, 1) := by decide +kernel
theorem dX2_copyFrom_34 : decode cX2_copyFrom 34 = .ok (.bipush 10, 2) := by decide +kernel
theorem dX2_copyFrom_36 : decode cX2_copyFrom 36 = .ok (.invokestatic 49, 3) := by decide +kernel
theorem dX2_copyFrom_39 : decode cX2_copyFrom 39 = .ok (.aload_n 1, 1) := by decide +kernel
theorem dX2_copyFrom_40 : decode cX2_copyFrom 40 = .ok (.getfield 15, 3) := by decide +kernel
theorem dX2_copyFrom_43 : decode cX2_copyFrom 43 = .ok (.iconst 0, 1) := by decide +kernel
theorem dX2_copyFrom_44 : decode cX2_copyFrom 44 = .ok (.aload_n 0, 1) := by decide +kernel
theorem dX2_copyFrom_45 : decode cX2_copyFrom 45 = .ok (.getfield 15, 3) := by decide +kernel
theorem dX2_copyFrom_48 : decode cX2_copyFrom 48 = .ok (.iconst 0, 1) := by decide +kernel
theorem dX2_copyFrom_49 : decode cX2_copyFrom 49 = .ok (.bipush 8, 2) := by decide +kernel
theorem dX2_copyFrom_51 : decode cX2_copyFrom 51 = .ok (.invokestatic 49, 3) := by decide +kernel
theorem dX2_copyFrom_54 : decode cX2_copyFrom 54 = .ok (.aload_n 1, 1) := by decide +kernel
theorem dX2_copyFrom_55 : decode cX2_copyFrom 55 = .ok (.getfield 18, 3) := by decide +kernel
theorem dX2_copyFrom_58 : decode cX2_copyFrom 58 = .ok (.iconst 0, 1) := by decide +kernel
theorem dX2_copyFrom_59 : decode cX2_copyFrom 59 = .ok (.aload_n 0, 1) := by decide +kernel
theorem dX2_copyFrom_60 : decode cX2_copyFrom 60 = .ok (.getfield 18, 3) := by decide +kernel
theorem dX2_copyFrom_63 : decode cX2_copyFrom 63 = .ok (.iconst 0, 1) := by decide +kernel
theorem dX2_copyFrom_64 : decode cX2_copyFrom 64 = .ok (.bipush 8, 2) := by decide +kernel
theorem dX2_copyFrom_66 : decode cX2_copyFrom 66 = .ok (.invokestatic 49, 3) := by decide +kernel
theorem dX2_copyFrom_69 : decode cX2_copyFrom 69 = .ok (.aload_n 1, 1) := by decide +kernel
theorem dX2_copyFrom_70 : decode cX2_copyFrom 70 = .ok (.getfield 21, 3) := by decide +kernel
theorem dX2_copyFrom_73 : decode cX2_copyFrom 73 = .ok (.iconst 0, 1) := by decide +kernel
theorem dX2_copyFrom_74 : decode cX2_copyFrom 74 = .ok (.aload_n 0, 1) := by decide +kernel
theorem dX2_copyFrom_75 : decode cX2_copyFrom 75 = .ok (.getfield 21, 3) := by decide +kernel
theorem dX2_copyFrom_78 : decode cX2_copyFrom 78 = .ok (.iconst 0, 1) := by decide +kernel
theorem dX2_copyFrom_79 : decode cX2_copyFrom 79 = .ok (.bipush 8, 2) := by decide +kernel
theorem dX2_copyFrom_81 : decode cX2_copyFrom 81 = .ok (.invokestatic 49, 3) := by decide +kernel
theorem dX2_copyFrom_84 : decode cX2_copyFrom 84 = .ok (.aload_n 1, 1) := by decide +kernel
theorem dX2_copyFrom_85 : decode cX2_copyFrom 85 = .ok (.getfield 24, 3) := by decide +kernel
theorem dX2_copyFrom_88 : decode cX2_copyFrom 88 = .ok (.iconst 0, 1) := by decide +kernel
theorem dX2_copyFrom_89 : decode cX2_copyFrom 89 = .ok (.aload_n 0, 1) := by decide +kernel
theorem dX2_copyFrom_90 : decode cX2_copyFrom 90 = .ok (.getfield 24, 3) := by decide +kernel
theorem dX2_copyFrom_93 : decode cX2_copyFrom 93 = .ok (.iconst 0, 1) := by decide +kernel
theorem dX2_copyFrom_94 : decode cX2_copyFrom 94 = .ok (.bipush 8, 2) := by decide +kernel
theorem dX2_copyFrom_96 : decode cX2_copyFrom 96 = .ok (.invokestatic 49, 3) := by decide +kernel
theorem dX2_copyFrom_99 : decode cX2_copyFrom 99 = .ok (.aload_n 1, 1) := by decide +kernel
theorem dX2_copyFrom_100 : decode cX2_copyFrom 100 = .ok (.getfield 27, 3) := by decide +kernel
theorem dX2_copyFrom_103 : decode cX2_copyFrom 103 = .ok (.iconst 0, 1) := by decide +kernel
theorem dX2_copyFrom_104 : decode cX2_copyFrom 104 = .ok (.aload_n 0, 1) := by decide +kernel
theorem dX2_copyFrom_105 : decode cX2_copyFrom 105 = .ok (.getfield 27, 3) := by decide +kernel
theorem dX2_copyFrom_108 : decode cX2_copyFrom 108 = .ok (.iconst 0, 1) := by decide +kernel
theorem dX2_copyFrom_109 : decode cX2_copyFrom 109 = .ok (.bipush 20, 2) := by decide +kernel
theorem dX2_copyFrom_111 : decode cX2_copyFrom 111 = .ok (.invokestatic 49, 3) := by decide +kernel
theorem dX2_copyFrom_114 : decode cX2_copyFrom 114 = .ok (.aload_n 1, 1) := by decide +kernel
theorem dX2_copyFrom_115 : decode cX2_copyFrom 115 = .ok (.getfield 30, 3) := by decide +kernel
theorem dX2_copyFrom_118 : decode cX2_copyFrom 118 = .ok (.iconst 0, 1) := by decide +kernel
theorem dX2_copyFrom_119 : decode cX2_copyFrom 119 = .ok (.aload_n 0, 1) := by decide +kernel
theorem dX2_copyFrom_120 : decode cX2_copyFrom 120 = .ok (.getfield 30, 3) := by decide +kernel
theorem dX2_copyFrom_123 : decode cX2_copyFrom 123 = .ok (.iconst 0, 1) := by decide +kernel
theorem dX2_copyFrom_124 : decode cX2_copyFrom 124 = .ok (.bipush 20, 2) := by decide +kernel
theorem dX2_copyFrom_126 : decode cX2_copyFrom 126 = .ok (.invokestatic 49, 3) := by decide +kernel
theorem dX2_copyFrom_129 : decode cX2_copyFrom 129 = .ok (.aload_n 1, 1) := by decide +kernel
theorem dX2_copyFrom_130 : decode cX2_copyFrom 130 = .ok (.getfield 33, 3) := by decide +kernel
theorem dX2_copyFrom_133 : decode cX2_copyFrom 133 = .ok (.iconst 0, 1) := by decide +kernel
theorem dX2_copyFrom_134 : decode cX2_copyFrom 134 = .ok (.aload_n 0, 1) := by decide +kernel
theorem dX2_copyFrom_135 : decode cX2_copyFrom 135 = .ok (.getfield 33, 3) := by decide +kernel
theorem dX2_copyFrom_138 : decode cX2_copyFrom 138 = .ok (.iconst 0, 1) := by decide +kernel
theorem dX2_copyFrom_139 : decode cX2_copyFrom 139 = .ok (.bipush 20, 2) := by decide +kernel
theorem dX2_copyFrom_141 : decode cX2_copyFrom 141 = .ok (.invokestatic 49, 3) := by decide +kernel
theorem dX2_copyFrom_144 : decode cX2_copyFrom 144 = .ok (.aload_n 1, 1) := by decide +kernel
theorem dX2_copyFrom_145 : decode cX2_copyFrom 145 = .ok (.getfield 36, 3) := by decide +kernel
theorem dX2_copyFrom_148 : decode cX2_copyFrom 148 = .ok (.iconst 0, 1) := by decide +kernel
theorem dX2_copyFrom_149 : decode cX2_copyFrom 149 = .ok (.aload_n 0, 1) := by decide +kernel
theorem dX2_copyFrom_150 : decode cX2_copyFrom 150 = .ok (.getfield 36, 3) := by decide +kernel
theorem dX2_copyFrom_153 : decode cX2_copyFrom 153 = .ok (.iconst 0, 1) := by decide +kernel
theorem dX2_copyFrom_154 : decode cX2_copyFrom 154 = .ok (.bipush 20, 2) := by decide +kernel
theorem dX2_copyFrom_156 : decode cX2_copyFrom 156 = .ok (.invokestatic 49, 3) := by decide +kernel
theorem dX2_copyFrom_159 : decode cX2_copyFrom 159 = .ok (.return_, 1) := by decide +kernel
theorem dX2_hasScene_0 : decode cX2_hasScene 0 = .ok (.iload_n 1, 1) := by decide +kernel
theorem dX2_hasScene_1 : decode cX2_hasScene 1 = .ok (.ifCond .lt 15, 3) := by decide +kernel
theorem dX2_hasScene_4 : decode cX2_hasScene 4 = .ok (.iload_n 1, 1) := by decide +kernel
theorem dX2_hasScene_5 : decode cX2_hasScene 5 = .ok (.aload_n 0, 1) := by decide +kernel
theorem dX2_hasScene_6 : decode cX2_hasScene 6 = .ok (.getfield 39, 3) := by decide +kernel
theorem dX2_hasScene_9 : decode cX2_hasScene 9 = .ok (.if_icmp .ge 7, 3) := by decide +kernel
theorem dX2_hasScene_12 : decode cX2_hasScene 12 = .ok (.iconst 1, 1) := by decide +kernel
theorem dX2_hasScene_13 : decode cX2_hasScene 13 = .ok (.goto 4, 3) := by decide +kernel
theorem dX2_hasScene_16 : decode cX2_hasScene 16 = .ok (.iconst 0, 1) := by decide +kernel
theorem dX2_hasScene_17 : decode cX2_hasScene 17 = .ok (.ireturn, 1) := by decide +kernel
theorem dX2_hasRole_0 : decode cX2_hasRole 0 = .ok (.iload_n 1, 1) := by decide +kernel
theorem dX2_hasRole_1 : decode cX2_hasRole 1 = .ok (.ifCond .lt 15, 3) := by decide +kernel
theorem dX2_hasRole_4 : decode cX2_hasRole 4 = .ok (.iload_n 1, 1) := by decide +kernel
theorem dX2_hasRole_5 : decode cX2_hasRole 5 = .ok (.aload_n 0, 1) := by decide +kernel
theorem dX2_hasRole_6 : decode cX2_hasRole 6 = .ok (.getfield 43, 3) := by decide +kernel
theorem dX2_hasRole_9 : decode cX2_hasRole 9 = .ok (.if_icmp .ge 7, 3) := by decide +kernel
theorem dX2_hasRole_12 : decode cX2_hasRole 12 = .ok (.iconst 1, 1) := by decide +kernel
theorem dX2_hasRole_13 : decode cX2_hasRole 13 = .ok (.goto 4, 3) := by decide +kernel
theorem dX2_hasRole_16 : decode cX2_hasRole 16 = .ok (.iconst 0, 1) := by decide +kernel
theorem dX2_hasRole_17 : decode cX2_hasRole 17 = .ok (.ireturn, 1) := by decide +kernel
set_option maxRecDepth 20000 in
theorem ggX2_admits_X2_hasRole : GoodIn wsX2_admits wsX2_hasRole := goodIn_r _ [6, 7, 13, 14, 15, 16, 17, 18, 19, 20, 21, 22, 23, 24] (by decide +kernel) (by decide +kernel)
set_option maxRecDepth 20000 in
theorem gX2_admits_X2_hasRole : GoodIn wsX2_admits (wsV RX2 55 RX2 yX2_hasRole wsX2_hasRole) := goodIn_app (goodIn_of _ (by decide +kernel)) ggX2_admits_X2_hasRole
set_option maxRecDepth 20000 in
theorem ggX2_admits_X2_hasScene : GoodIn wsX2_admits wsX2_hasScene := goodIn_r _ [11, 12, 13, 14, 15, 16, 17, 18, 19, 20, 21, 22, 23, 24] (by decide +kernel) (by decide +kernel)
set_option maxRecDepth 20000 in
theorem gX2_admits_X2_hasScene : GoodIn wsX2_admits (wsV RX2 59 RX2 yX2_hasScene wsX2_hasScene) := goodIn_app (goodIn_of _ (by decide +kernel)) ggX2_admits_X2_hasScene
theorem dX2_admits_0 : decode cX2_admits 0 = .ok (.aload_n 0, 1) := by decide +kernel
theorem dX2_admits_1 : decode cX2_admits 1 = .ok (.iload_n 1, 1) := by decide +kernel
theorem dX2_admits_2 : decode cX2_admits 2 = .ok (.invokevirtual 55, 3) := by decide +kernel
theorem dX2_admits_5 : decode cX2_admits 5 = .ok (.ifCond .eq 36, 3) := by decide +kernel
theorem dX2_admits_8 : decode cX2_admits 8 = .ok (.aload_n 0, 1) := by decide +kernel
theorem dX2_admits_9 : decode cX2_admits 9 = .ok (.iload_n 2, 1) := by decide +kernel
theorem dX2_admits_10 : decode cX2_admits 10 = .ok (.invokevirtual 59, 3) := by decide +kernel
theorem dX2_admits_13 : decode cX2_admits 13 = .ok (.ifCond .eq 28, 3) := by decide +kernel
theorem dX2_admits_16 : decode cX2_admits 16 = .ok (.iload_n 3, 1) := by decide +kernel
theorem dX2_admits_17 : decode cX2_admits 17 = .ok (.ifCond .lt 24, 3) := by decide +kernel
theorem dX2_admits_20 : decode cX2_admits 20 = .ok (.iload_n 3, 1) := by decide +kernel
theorem dX2_admits_21 : decode cX2_admits 21 = .ok (.iload 4, 2) := by decide +kernel
theorem dX2_admits_23 : decode cX2_admits 23 = .ok (.if_icmp .ge 18, 3) := by decide +kernel
theorem dX2_admits_26 : decode cX2_admits 26 = .ok (.iload 4, 2) := by decide +kernel
theorem dX2_admits_28 : decode cX2_admits 28 = .ok (.aload_n 0, 1) := by decide +kernel
theorem dX2_admits_29 : decode cX2_admits 29 = .ok (.getfield 9, 3) := by decide +kernel
theorem dX2_admits_32 : decode cX2_admits 32 = .ok (.iload_n 2, 1) := by decide +kernel
theorem dX2_admits_33 : decode cX2_admits 33 = .ok (.iaload, 1) := by decide +kernel
theorem dX2_admits_34 : decode cX2_admits 34 = .ok (.if_icmp .gt 7, 3) := by decide +kernel
theorem dX2_admits_37 : decode cX2_admits 37 = .ok (.iconst 1, 1) := by decide +kernel
theorem dX2_admits_38 : decode cX2_admits 38 = .ok (.goto 4, 3) := by decide +kernel
theorem dX2_admits_41 : decode cX2_admits 41 = .ok (.iconst 0, 1) := by decide +kernel
theorem dX2_admits_42 : decode cX2_admits 42 = .ok (.ireturn, 1) := by decide +kernel
theorem dX2_startOf_0 : decode cX2_startOf 0 = .ok (.iconst 0, 1) := by decide +kernel
theorem dX2_startOf_1 : decode cX2_startOf 1 = .ok (.istore_n 2, 1) := by decide +kernel
theorem dX2_startOf_2 : decode cX2_startOf 2 = .ok (.iconst 0, 1) := by decide +kernel
theorem dX2_startOf_3 : decode cX2_startOf 3 = .ok (.istore_n 3, 1) := by decide +kernel
theorem dX2_startOf_4 : decode cX2_startOf 4 = .ok (.iload_n 3, 1) := by decide +kernel
theorem dX2_startOf_5 : decode cX2_startOf 5 = .ok (.iload_n 1, 1) := by decide +kernel
theorem dX2_startOf_6 : decode cX2_startOf 6 = .ok (.if_icmp .ge 26, 3) := by decide +kernel
theorem dX2_startOf_9 : decode cX2_startOf 9 = .ok (.iload_n 3, 1) := by decide +kernel
theorem dX2_startOf_10 : decode cX2_startOf 10 = .ok (.aload_n 0, 1) := by decide +kernel
theorem dX2_startOf_11 : decode cX2_startOf 11 = .ok (.getfield 39, 3) := by decide +kernel
theorem dX2_startOf_14 : decode cX2_startOf 14 = .ok (.if_icmp .ge 18, 3) := by decide +kernel
theorem dX2_startOf_17 : decode cX2_startOf 17 = .ok (.iload_n 2, 1) := by decide +kernel
theorem dX2_startOf_18 : decode cX2_startOf 18 = .ok (.aload_n 0, 1) := by decide +kernel
theorem dX2_startOf_19 : decode cX2_startOf 19 = .ok (.getfield 9, 3) := by decide +kernel
theorem dX2_startOf_22 : decode cX2_startOf 22 = .ok (.iload_n 3, 1) := by decide +kernel
theorem dX2_startOf_23 : decode cX2_startOf 23 = .ok (.iaload, 1) := by decide +kernel
theorem dX2_startOf_24 : decode cX2_startOf 24 = .ok (.iadd, 1) := by decide +kernel
theorem dX2_startOf_25 : decode cX2_startOf 25 = .ok (.istore_n 2, 1) := by decide +kernel
theorem dX2_startOf_26 : decode cX2_startOf 26 = .ok (.iinc 3 1, 3) := by decide +kernel
theorem dX2_startOf_29 : decode cX2_startOf 29 = .ok (.goto (-25), 3) := by decide +kernel
theorem dX2_startOf_32 : decode cX2_startOf 32 = .ok (.iload_n 2, 1) := by decide +kernel
theorem dX2_startOf_33 : decode cX2_startOf 33 = .ok (.ireturn, 1) := by decide +kernel
theorem dX2_stateScene_0 : decode cX2_stateScene 0 = .ok (.iload_n 1, 1) := by decide +kernel
theorem dX2_stateScene_1 : decode cX2_stateScene 1 = .ok (.iconst 1, 1) := by decide +kernel
theorem dX2_stateScene_2 : decode cX2_stateScene 2 = .ok (.if_icmp .lt 9, 3) := by decide +kernel
theorem dX2_stateScene_5 : decode cX2_stateScene 5 = .ok (.iload_n 1, 1) := by decide +kernel
theorem dX2_stateScene_6 : decode cX2_stateScene 6 = .ok (.bipush 99, 2) := by decide +kernel
theorem dX2_stateScene_8 : decode cX2_stateScene 8 = .ok (.if_icmp .le 5, 3) := by decide +kernel
theorem dX2_stateScene_11 : decode cX2_stateScene 11 = .ok (.iconst 3, 1) := by decide +kernel
theorem dX2_stateScene_12 : decode cX2_stateScene 12 = .ok (.ireturn, 1) := by decide +kernel
theorem dX2_stateScene_13 : decode cX2_stateScene 13 = .ok (.aload_n 0, 1) := by decide +kernel
theorem dX2_stateScene_14 : decode cX2_stateScene 14 = .ok (.getfield 39, 3) := by decide +kernel
theorem dX2_stateScene_17 : decode cX2_stateScene 17 = .ok (.bipush 10, 2) := by decide +kernel
theorem dX2_stateScene_19 : decode cX2_stateScene 19 = .ok (.if_icmp .lt 5, 3) := by decide +kernel
theorem dX2_stateScene_22 : decode cX2_stateScene 22 = .ok (.iconst 4, 1) := by decide +kernel
theorem dX2_stateScene_23 : decode cX2_stateScene 23 = .ok (.ireturn, 1) := by decide +kernel
theorem dX2_stateScene_24 : decode cX2_stateScene 24 = .ok (.aload_n 0, 1) := by decide +kernel
theorem dX2_stateScene_25 : decode cX2_stateScene 25 = .ok (.getfield 9, 3) := by decide +kernel
theorem dX2_stateScene_28 : decode cX2_stateScene 28 = .ok (.aload_n 0, 1) := by decide +kernel
theorem dX2_stateScene_29 : decode cX2_stateScene 29 = .ok (.getfield 39, 3) := by decide +kernel
theorem dX2_stateScene_32 : decode cX2_stateScene 32 = .ok (.iload_n 1, 1) := by decide +kernel
theorem dX2_stateScene_33 : decode cX2_stateScene 33 = .ok (.iastore, 1) := by decide +kernel
theorem dX2_stateScene_34 : decode cX2_stateScene 34 = .ok (.aload_n 0, 1) := by decide +kernel
theorem dX2_stateScene_35 : decode cX2_stateScene 35 = .ok (.dup, 1) := by decide +kernel
theorem dX2_stateScene_36 : decode cX2_stateScene 36 = .ok (.getfield 39, 3) := by decide +kernel
theorem dX2_stateScene_39 : decode cX2_stateScene 39 = .ok (.iconst 1, 1) := by decide +kernel
theorem dX2_stateScene_40 : decode cX2_stateScene 40 = .ok (.iadd, 1) := by decide +kernel
theorem dX2_stateScene_41 : decode cX2_stateScene 41 = .ok (.putfield 39, 3) := by decide +kernel
theorem dX2_stateScene_44 : decode cX2_stateScene 44 = .ok (.iconst 0, 1) := by decide +kernel
theorem dX2_stateScene_45 : decode cX2_stateScene 45 = .ok (.ireturn, 1) := by decide +kernel
set_option maxRecDepth 20000 in
theorem ggX2_stateRole_X5_isCostumeTime : GoodIn wsX2_stateRole wsX5_isCostumeTime := goodIn_r _ [8] (by decide +kernel) (by decide +kernel)
set_option maxRecDepth 20000 in
theorem gX2_stateRole_X5_isCostumeTime_n62 : GoodIn wsX2_stateRole (wsX5_isCostumeTime) := ggX2_stateRole_X5_isCostumeTime
theorem dX2_stateRole_0 : decode cX2_stateRole 0 = .ok (.iload_n 2, 1) := by decide +kernel
theorem dX2_stateRole_1 : decode cX2_stateRole 1 = .ok (.invokestatic 62, 3) := by decide +kernel
theorem dX2_stateRole_4 : decode cX2_stateRole 4 = .ok (.ifCond .eq 10, 3) := by decide +kernel
theorem dX2_stateRole_7 : decode cX2_stateRole 7 = .ok (.iload_n 3, 1) := by decide +kernel
theorem dX2_stateRole_8 : decode cX2_stateRole 8 = .ok (.invokestatic 62, 3) := by decide +kernel
theorem dX2_stateRole_11 : decode cX2_stateRole 11 = .ok (.ifCond .ne 5, 3) := by decide +kernel
theorem dX2_stateRole_14 : decode cX2_stateRole 14 = .ok (.iconst 3, 1) := by decide +kernel
theorem dX2_stateRole_15 : decode cX2_stateRole 15 = .ok (.ireturn, 1) := by decide +kernel
theorem dX2_stateRole_16 : decode cX2_stateRole 16 = .ok (.aload_n 0, 1) := by decide +kernel
theorem dX2_stateRole_17 : decode cX2_stateRole 17 = .ok (.getfield 43, 3) := by decide +kernel
theorem dX2_stateRole_20 : decode cX2_stateRole 20 = .ok (.bipush 8, 2) := by decide +kernel
theorem dX2_stateRole_22 : decode cX2_stateRole 22 = .ok (.if_icmp .lt 5, 3) := by decide +kernel
theorem dX2_stateRole_25 : decode cX2_stateRole 25 = .ok (.iconst 4, 1) := by decide +kernel
theorem dX2_stateRole_26 : decode cX2_stateRole 26 = .ok (.ireturn, 1) := by decide +kernel
theorem dX2_stateRole_27 : decode cX2_stateRole 27 = .ok (.aload_n 0, 1) := by decide +kernel
theorem dX2_stateRole_28 : decode cX2_stateRole 28 = .ok (.getfield 15, 3) := by decide +kernel
theorem dX2_stateRole_31 : decode cX2_stateRole 31 = .ok (.aload_n 0, 1) := by decide +kernel
theorem dX2_stateRole_32 : decode cX2_stateRole 32 = .ok (.getfield 43, 3) := by decide +kernel
theorem dX2_stateRole_35 : decode cX2_stateRole 35 = .ok (.iload_n 1, 1) := by decide +kernel
theorem dX2_stateRole_36 : decode cX2_stateRole 36 = .ok (.iastore, 1) := by decide +kernel
theorem dX2_stateRole_37 : decode cX2_stateRole 37 = .ok (.aload_n 0, 1) := by decide +kernel
theorem dX2_stateRole_38 : decode cX2_stateRole 38 = .ok (.getfield 18, 3) := by decide +kernel
theorem dX2_stateRole_41 : decode cX2_stateRole 41 = .ok (.aload_n 0, 1) := by decide +kernel
theorem dX2_stateRole_42 : decode cX2_stateRole 42 = .ok (.getfield 43, 3) := by decide +kernel
theorem dX2_stateRole_45 : decode cX2_stateRole 45 = .ok (.iload_n 2, 1) := by decide +kernel
theorem dX2_stateRole_46 : decode cX2_stateRole 46 = .ok (.iastore, 1) := by decide +kernel
theorem dX2_stateRole_47 : decode cX2_stateRole 47 = .ok (.aload_n 0, 1) := by decide +kernel
theorem dX2_stateRole_48 : decode cX2_stateRole 48 = .ok (.getfield 21, 3) := by decide +kernel
theorem dX2_stateRole_51 : decode cX2_stateRole 51 = .ok (.aload_n 0, 1) := by decide +kernel
theorem dX2_stateRole_52 : decode cX2_stateRole 52 = .ok (.getfield 43, 3) := by decide +kernel
theorem dX2_stateRole_55 : decode cX2_stateRole 55 = .ok (.iload_n 3, 1) := by decide +kernel
theorem dX2_stateRole_56 : decode cX2_stateRole 56 = .ok (.iastore, 1) := by decide +kernel
theorem dX2_stateRole_57 : decode cX2_stateRole 57 = .ok (.aload_n 0, 1) := by decide +kernel
theorem dX2_stateRole_58 : decode cX2_stateRole 58 = .ok (.getfield 24, 3) := by decide +kernel
theorem dX2_stateRole_61 : decode cX2_stateRole 61 = .ok (.aload_n 0, 1) := by decide +kernel
theorem dX2_stateRole_62 : decode cX2_stateRole 62 = .ok (.getfield 43, 3) := by decide +kernel
theorem dX2_stateRole_65 : decode cX2_stateRole 65 = .ok (.iconst (-1), 1) := by decide +kernel
theorem dX2_stateRole_66 : decode cX2_stateRole 66 = .ok (.iastore, 1) := by decide +kernel
theorem dX2_stateRole_67 : decode cX2_stateRole 67 = .ok (.aload_n 0, 1) := by decide +kernel
theorem dX2_stateRole_68 : decode cX2_stateRole 68 = .ok (.dup, 1) := by decide +kernel
theorem dX2_stateRole_69 : decode cX2_stateRole 69 = .ok (.getfield 43, 3) := by decide +kernel
theorem dX2_stateRole_72 : decode cX2_stateRole 72 = .ok (.iconst 1, 1) := by decide +kernel
theorem dX2_stateRole_73 : decode cX2_stateRole 73 = .ok (.iadd, 1) := by decide +kernel
theorem dX2_stateRole_74 : decode cX2_stateRole 74 = .ok (.putfield 43, 3) := by decide +kernel
theorem dX2_stateRole_77 : decode cX2_stateRole 77 = .ok (.iconst 0, 1) := by decide +kernel
theorem dX2_stateRole_78 : decode cX2_stateRole 78 = .ok (.ireturn, 1) := by decide +kernel
set_option maxRecDepth 20000 in
theorem ggX2_stateAppearance_X2_admits : GoodIn wsX2_stateAppearance wsX2_admits := goodIn_r _ [6, 7, 8, 9, 10, 5, 11, 12, 13, 14, 15, 16, 17, 30, 31, 32, 33, 34, 35, 36, 37, 38, 39, 40, 41] (by decide +kernel) (by decide +kernel)
set_option maxRecDepth 20000 in
theorem gX2_stateAppearance_X2_admits : GoodIn wsX2_stateAppearance (wsV RX2 65 RX2 yX2_admits wsX2_admits) := goodIn_app (goodIn_of _ (by decide +kernel)) ggX2_stateAppearance_X2_admits
set_option maxRecDepth 20000 in
theorem ggX2_stateAppearance_X2_putAppearance : GoodIn wsX2_stateAppearance wsX2_putAppearance := goodIn_r _ [21, 22, 1, 23, 24, 25, 26, 27, 28, 5, 29, 17, 7, 30, 31, 32, 33, 34, 35, 36, 37, 38, 39, 40, 41] (by decide +kernel) (by decide +kernel)
set_option maxRecDepth 20000 in
theorem gX2_stateAppearance_X2_putAppearance : GoodIn wsX2_stateAppearance (wsV RX2 69 RX2 yX2_putAppearance wsX2_putAppearance) := goodIn_app (goodIn_of _ (by decide +kernel)) ggX2_stateAppearance_X2_putAppearance
theorem dX2_stateAppearance_0 : decode cX2_stateAppearance 0 = .ok (.aload_n 0, 1) := by decide +kernel
theorem dX2_stateAppearance_1 : decode cX2_stateAppearance 1 = .ok (.iload_n 1, 1) := by decide +kernel
theorem dX2_stateAppearance_2 : decode cX2_stateAppearance 2 = .ok (.iload_n 2, 1) := by decide +kernel
theorem dX2_stateAppearance_3 : decode cX2_stateAppearance 3 = .ok (.iload_n 3, 1) := by decide +kernel
theorem dX2_stateAppearance_4 : decode cX2_stateAppearance 4 = .ok (.iload 4, 2) := by decide +kernel
theorem dX2_stateAppearance_6 : decode cX2_stateAppearance 6 = .ok (.invokevirtual 65, 3) := by decide +kernel
theorem dX2_stateAppearance_9 : decode cX2_stateAppearance 9 = .ok (.ifCond .ne 5, 3) := by decide +kernel
theorem dX2_stateAppearance_12 : decode cX2_stateAppearance 12 = .ok (.iconst 3, 1) := by decide +kernel
theorem dX2_stateAppearance_13 : decode cX2_stateAppearance 13 = .ok (.ireturn, 1) := by decide +kernel
theorem dX2_stateAppearance_14 : decode cX2_stateAppearance 14 = .ok (.aload_n 0, 1) := by decide +kernel
theorem dX2_stateAppearance_15 : decode cX2_stateAppearance 15 = .ok (.getfield 46, 3) := by decide +kernel
theorem dX2_stateAppearance_18 : decode cX2_stateAppearance 18 = .ok (.bipush 20, 2) := by decide +kernel
theorem dX2_stateAppearance_20 : decode cX2_stateAppearance 20 = .ok (.if_icmp .lt 5, 3) := by decide +kernel
theorem dX2_stateAppearance_23 : decode cX2_stateAppearance 23 = .ok (.iconst 4, 1) := by decide +kernel
theorem dX2_stateAppearance_24 : decode cX2_stateAppearance 24 = .ok (.ireturn, 1) := by decide +kernel
theorem dX2_stateAppearance_25 : decode cX2_stateAppearance 25 = .ok (.aload_n 0, 1) := by decide +kernel
theorem dX2_stateAppearance_26 : decode cX2_stateAppearance 26 = .ok (.iload_n 1, 1) := by decide +kernel
theorem dX2_stateAppearance_27 : decode cX2_stateAppearance 27 = .ok (.iload_n 2, 1) := by decide +kernel
theorem dX2_stateAppearance_28 : decode cX2_stateAppearance 28 = .ok (.iload_n 3, 1) := by decide +kernel
theorem dX2_stateAppearance_29 : decode cX2_stateAppearance 29 = .ok (.iload 4, 2) := by decide +kernel
theorem dX2_stateAppearance_31 : decode cX2_stateAppearance 31 = .ok (.invokevirtual 69, 3) := by decide +kernel
theorem dX2_stateAppearance_34 : decode cX2_stateAppearance 34 = .ok (.iconst 0, 1) := by decide +kernel
theorem dX2_stateAppearance_35 : decode cX2_stateAppearance 35 = .ok (.ireturn, 1) := by decide +kernel
set_option maxRecDepth 20000 in
theorem ggX2_putAppearance_X2_startOf : GoodIn wsX2_putAppearance wsX2_startOf := goodIn_r _ [10, 11, 12, 13, 14, 15, 16, 17, 18, 19, 20, 21, 22, 23, 24] (by decide +kernel) (by decide +kernel)
set_option maxRecDepth 20000 in
theorem gX2_putAppearance_X2_startOf : GoodIn wsX2_putAppearance (wsV RX2 73 RX2 yX2_startOf wsX2_startOf) := goodIn_app (goodIn_of _ (by decide +kernel)) ggX2_putAppearance_X2_startOf
theorem dX2_putAppearance_0 : decode cX2_putAppearance 0 = .ok (.aload_n 0, 1) := by decide +kernel
theorem dX2_putAppearance_1 : decode cX2_putAppearance 1 = .ok (.iload_n 2, 1) := by decide +kernel
theorem dX2_putAppearance_2 : decode cX2_putAppearance 2 = .ok (.invokevirtual 73, 3) := by decide +kernel
theorem dX2_putAppearance_5 : decode cX2_putAppearance 5 = .ok (.istore 5, 2) := by decide +kernel
theorem dX2_putAppearance_7 : decode cX2_putAppearance 7 = .ok (.aload_n 0, 1) := by decide +kernel
theorem dX2_putAppearance_8 : decode cX2_putAppearance 8 = .ok (.getfield 27, 3) := by decide +kernel
theorem dX2_putAppearance_11 : decode cX2_putAppearance 11 = .ok (.aload_n 0, 1) := by decide +kernel
theorem dX2_putAppearance_12 : decode cX2_putAppearance 12 = .ok (.getfield 46, 3) := by decide +kernel
theorem dX2_putAppearance_15 : decode cX2_putAppearance 15 = .ok (.iload_n 1, 1) := by decide +kernel
theorem dX2_putAppearance_16 : decode cX2_putAppearance 16 = .ok (.iastore, 1) := by decide +kernel
theorem dX2_putAppearance_17 : decode cX2_putAppearance 17 = .ok (.aload_n 0, 1) := by decide +kernel
theorem dX2_putAppearance_18 : decode cX2_putAppearance 18 = .ok (.getfield 30, 3) := by decide +kernel
theorem dX2_putAppearance_21 : decode cX2_putAppearance 21 = .ok (.aload_n 0, 1) := by decide +kernel
theorem dX2_putAppearance_22 : decode cX2_putAppearance 22 = .ok (.getfield 46, 3) := by decide +kernel
theorem dX2_putAppearance_25 : decode cX2_putAppearance 25 = .ok (.iload_n 2, 1) := by decide +kernel
theorem dX2_putAppearance_26 : decode cX2_putAppearance 26 = .ok (.iastore, 1) := by decide +kernel
theorem dX2_putAppearance_27 : decode cX2_putAppearance 27 = .ok (.aload_n 0, 1) := by decide +kernel
theorem dX2_putAppearance_28 : decode cX2_putAppearance 28 = .ok (.getfield 33, 3) := by decide +kernel
theorem dX2_putAppearance_31 : decode cX2_putAppearance 31 = .ok (.aload_n 0, 1) := by decide +kernel
theorem dX2_putAppearance_32 : decode cX2_putAppearance 32 = .ok (.getfield 46, 3) := by decide +kernel
theorem dX2_putAppearance_35 : decode cX2_putAppearance 35 = .ok (.iload 5, 2) := by decide +kernel
theorem dX2_putAppearance_37 : decode cX2_putAppearance 37 = .ok (.iload_n 3, 1) := by decide +kernel
theorem dX2_putAppearance_38 : decode cX2_putAppearance 38 = .ok (.iadd, 1) := by decide +kernel
theorem dX2_putAppearance_39 : decode cX2_putAppearance 39 = .ok (.iastore, 1) := by decide +kernel
theorem dX2_putAppearance_40 : decode cX2_putAppearance 40 = .ok (.aload_n 0, 1) := by decide +kernel
theorem dX2_putAppearance_41 : decode cX2_putAppearance 41 = .ok (.getfield 36, 3) := by decide +kernel
theorem dX2_putAppearance_44 : decode cX2_putAppearance 44 = .ok (.aload_n 0, 1) := by decide +kernel
theorem dX2_putAppearance_45 : decode cX2_putAppearance 45 = .ok (.getfield 46, 3) := by decide +kernel
theorem dX2_putAppearance_48 : decode cX2_putAppearance 48 = .ok (.iload 5, 2) := by decide +kernel
theorem dX2_putAppearance_50 : decode cX2_putAppearance 50 = .ok (.iload 4, 2) := by decide +kernel
theorem dX2_putAppearance_52 : decode cX2_putAppearance 52 = .ok (.iadd, 1) := by decide +kernel
theorem dX2_putAppearance_53 : decode cX2_putAppearance 53 = .ok (.iastore, 1) := by decide +kernel
theorem dX2_putAppearance_54 : decode cX2_putAppearance 54 = .ok (.aload_n 0, 1) := by decide +kernel
theorem dX2_putAppearance_55 : decode cX2_putAppearance 55 = .ok (.dup, 1) := by decide +kernel
theorem dX2_putAppearance_56 : decode cX2_putAppearance 56 = .ok (.getfield 46, 3) := by decide +kernel
theorem dX2_putAppearance_59 : decode cX2_putAppearance 59 = .ok (.iconst 1, 1) := by decide +kernel
theorem dX2_putAppearance_60 : decode cX2_putAppearance 60 = .ok (.iadd, 1) := by decide +kernel
theorem dX2_putAppearance_61 : decode cX2_putAppearance 61 = .ok (.putfield 46, 3) := by decide +kernel
theorem dX2_putAppearance_64 : decode cX2_putAppearance 64 = .ok (.return_, 1) := by decide +kernel
theorem dX2_dropAppearance_0 : decode cX2_dropAppearance 0 = .ok (.aload_n 0, 1) := by decide +kernel
theorem dX2_dropAppearance_1 : decode cX2_dropAppearance 1 = .ok (.dup, 1) := by decide +kernel
theorem dX2_dropAppearance_2 : decode cX2_dropAppearance 2 = .ok (.getfield 46, 3) := by decide +kernel
theorem dX2_dropAppearance_5 : decode cX2_dropAppearance 5 = .ok (.iconst 1, 1) := by decide +kernel
theorem dX2_dropAppearance_6 : decode cX2_dropAppearance 6 = .ok (.isub, 1) := by decide +kernel
theorem dX2_dropAppearance_7 : decode cX2_dropAppearance 7 = .ok (.putfield 46, 3) := by decide +kernel
theorem dX2_dropAppearance_10 : decode cX2_dropAppearance 10 = .ok (.iload_n 1, 1) := by decide +kernel
theorem dX2_dropAppearance_11 : decode cX2_dropAppearance 11 = .ok (.istore_n 2, 1) := by decide +kernel
theorem dX2_dropAppearance_12 : decode cX2_dropAppearance 12 = .ok (.iload_n 2, 1) := by decide +kernel
theorem dX2_dropAppearance_13 : decode cX2_dropAppearance 13 = .ok (.aload_n 0, 1) := by decide +kernel
theorem dX2_dropAppearance_14 : decode cX2_dropAppearance 14 = .ok (.getfield 46, 3) := by decide +kernel
theorem dX2_dropAppearance_17 : decode cX2_dropAppearance 17 = .ok (.if_icmp .ge 65, 3) := by decide +kernel
theorem dX2_dropAppearance_20 : decode cX2_dropAppearance 20 = .ok (.aload_n 0, 1) := by decide +kernel
theorem dX2_dropAppearance_21 : decode cX2_dropAppearance 21 = .ok (.getfield 27, 3) := by decide +kernel
theorem dX2_dropAppearance_24 : decode cX2_dropAppearance 24 = .ok (.iload_n 2, 1) := by decide +kernel
theorem dX2_dropAppearance_25 : decode cX2_dropAppearance 25 = .ok (.aload_n 0, 1) := by decide +kernel
theorem dX2_dropAppearance_26 : decode cX2_dropAppearance 26 = .ok (.getfield 27, 3) := by decide +kernel
theorem dX2_dropAppearance_29 : decode cX2_dropAppearance 29 = .ok (.iload_n 2, 1) := by decide +kernel
theorem dX2_dropAppearance_30 : decode cX2_dropAppearance 30 = .ok (.iconst 1, 1) := by decide +kernel
theorem dX2_dropAppearance_31 : decode cX2_dropAppearance 31 = .ok (.iadd, 1) := by decide +kernel
theorem dX2_dropAppearance_32 : decode cX2_dropAppearance 32 = .ok (.iaload, 1) := by decide +kernel
theorem dX2_dropAppearance_33 : decode cX2_dropAppearance 33 = .ok (.iastore, 1) := by decide +kernel
theorem dX2_dropAppearance_34 : decode cX2_dropAppearance 34 = .ok (.aload_n 0, 1) := by decide +kernel
theorem dX2_dropAppearance_35 : decode cX2_dropAppearance 35 = .ok (.getfield 30, 3) := by decide +kernel
theorem dX2_dropAppearance_38 : decode cX2_dropAppearance 38 = .ok (.iload_n 2, 1) := by decide +kernel
theorem dX2_dropAppearance_39 : decode cX2_dropAppearance 39 = .ok (.aload_n 0, 1) := by decide +kernel
theorem dX2_dropAppearance_40 : decode cX2_dropAppearance 40 = .ok (.getfield 30, 3) := by decide +kernel
theorem dX2_dropAppearance_43 : decode cX2_dropAppearance 43 = .ok (.iload_n 2, 1) := by decide +kernel
theorem dX2_dropAppearance_44 : decode cX2_dropAppearance 44 = .ok (.iconst 1, 1) := by decide +kernel
theorem dX2_dropAppearance_45 : decode cX2_dropAppearance 45 = .ok (.iadd, 1) := by decide +kernel
theorem dX2_dropAppearance_46 : decode cX2_dropAppearance 46 = .ok (.iaload, 1) := by decide +kernel
theorem dX2_dropAppearance_47 : decode cX2_dropAppearance 47 = .ok (.iastore, 1) := by decide +kernel
theorem dX2_dropAppearance_48 : decode cX2_dropAppearance 48 = .ok (.aload_n 0, 1) := by decide +kernel
theorem dX2_dropAppearance_49 : decode cX2_dropAppearance 49 = .ok (.getfield 33, 3) := by decide +kernel
theorem dX2_dropAppearance_52 : decode cX2_dropAppearance 52 = .ok (.iload_n 2, 1) := by decide +kernel
theorem dX2_dropAppearance_53 : decode cX2_dropAppearance 53 = .ok (.aload_n 0, 1) := by decide +kernel
theorem dX2_dropAppearance_54 : decode cX2_dropAppearance 54 = .ok (.getfield 33, 3) := by decide +kernel
theorem dX2_dropAppearance_57 : decode cX2_dropAppearance 57 = .ok (.iload_n 2, 1) := by decide +kernel
theorem dX2_dropAppearance_58 : decode cX2_dropAppearance 58 = .ok (.iconst 1, 1) := by decide +kernel
theorem dX2_dropAppearance_59 : decode cX2_dropAppearance 59 = .ok (.iadd, 1) := by decide +kernel
theorem dX2_dropAppearance_60 : decode cX2_dropAppearance 60 = .ok (.iaload, 1) := by decide +kernel
theorem dX2_dropAppearance_61 : decode cX2_dropAppearance 61 = .ok (.iastore, 1) := by decide +kernel
theorem dX2_dropAppearance_62 : decode cX2_dropAppearance 62 = .ok (.aload_n 0, 1) := by decide +kernel
theorem dX2_dropAppearance_63 : decode cX2_dropAppearance 63 = .ok (.getfield 36, 3) := by decide +kernel
theorem dX2_dropAppearance_66 : decode cX2_dropAppearance 66 = .ok (.iload_n 2, 1) := by decide +kernel
theorem dX2_dropAppearance_67 : decode cX2_dropAppearance 67 = .ok (.aload_n 0, 1) := by decide +kernel
theorem dX2_dropAppearance_68 : decode cX2_dropAppearance 68 = .ok (.getfield 36, 3) := by decide +kernel
theorem dX2_dropAppearance_71 : decode cX2_dropAppearance 71 = .ok (.iload_n 2, 1) := by decide +kernel
theorem dX2_dropAppearance_72 : decode cX2_dropAppearance 72 = .ok (.iconst 1, 1) := by decide +kernel
theorem dX2_dropAppearance_73 : decode cX2_dropAppearance 73 = .ok (.iadd, 1) := by decide +kernel
theorem dX2_dropAppearance_74 : decode cX2_dropAppearance 74 = .ok (.iaload, 1) := by decide +kernel
theorem dX2_dropAppearance_75 : decode cX2_dropAppearance 75 = .ok (.iastore, 1) := by decide +kernel
theorem dX2_dropAppearance_76 : decode cX2_dropAppearance 76 = .ok (.iinc 2 1, 3) := by decide +kernel
theorem dX2_dropAppearance_79 : decode cX2_dropAppearance 79 = .ok (.goto (-67), 3) := by decide +kernel
theorem dX2_dropAppearance_82 : decode cX2_dropAppearance 82 = .ok (.return_, 1) := by decide +kernel
theorem dX2_rolesAt_0 : decode cX2_rolesAt 0 = .ok (.iconst 0, 1) := by decide +kernel
theorem dX2_rolesAt_1 : decode cX2_rolesAt 1 = .ok (.istore_n 2, 1) := by decide +kernel
theorem dX2_rolesAt_2 : decode cX2_rolesAt 2 = .ok (.iconst 0, 1) := by decide +kernel
theorem dX2_rolesAt_3 : decode cX2_rolesAt 3 = .ok (.istore_n 3, 1) := by decide +kernel
theorem dX2_rolesAt_4 : decode cX2_rolesAt 4 = .ok (.iload_n 3, 1) := by decide +kernel
theorem dX2_rolesAt_5 : decode cX2_rolesAt 5 = .ok (.aload_n 0, 1) := by decide +kernel
theorem dX2_rolesAt_6 : decode cX2_rolesAt 6 = .ok (.getfield 46, 3) := by decide +kernel
theorem dX2_rolesAt_9 : decode cX2_rolesAt 9 = .ok (.if_icmp .ge 40, 3) := by decide +kernel
theorem dX2_rolesAt_12 : decode cX2_rolesAt 12 = .ok (.aload_n 0, 1) := by decide +kernel
theorem dX2_rolesAt_13 : decode cX2_rolesAt 13 = .ok (.getfield 33, 3) := by decide +kernel
theorem dX2_rolesAt_16 : decode cX2_rolesAt 16 = .ok (.iload_n 3, 1) := by decide +kernel
theorem dX2_rolesAt_17 : decode cX2_rolesAt 17 = .ok (.iaload, 1) := by decide +kernel
theorem dX2_rolesAt_18 : decode cX2_rolesAt 18 = .ok (.iload_n 1, 1) := by decide +kernel
theorem dX2_rolesAt_19 : decode cX2_rolesAt 19 = .ok (.if_icmp .gt 24, 3) := by decide +kernel
theorem dX2_rolesAt_22 : decode cX2_rolesAt 22 = .ok (.iload_n 1, 1) := by decide +kernel
theorem dX2_rolesAt_23 : decode cX2_rolesAt 23 = .ok (.aload_n 0, 1) := by decide +kernel
theorem dX2_rolesAt_24 : decode cX2_rolesAt 24 = .ok (.getfield 36, 3) := by decide +kernel
theorem dX2_rolesAt_27 : decode cX2_rolesAt 27 = .ok (.iload_n 3, 1) := by decide +kernel
theorem dX2_rolesAt_28 : decode cX2_rolesAt 28 = .ok (.iaload, 1) := by decide +kernel
theorem dX2_rolesAt_29 : decode cX2_rolesAt 29 = .ok (.if_icmp .ge 14, 3) := by decide +kernel
theorem dX2_rolesAt_32 : decode cX2_rolesAt 32 = .ok (.iload_n 2, 1) := by decide +kernel
theorem dX2_rolesAt_33 : decode cX2_rolesAt 33 = .ok (.iconst 1, 1) := by decide +kernel
theorem dX2_rolesAt_34 : decode cX2_rolesAt 34 = .ok (.aload_n 0, 1) := by decide +kernel
theorem dX2_rolesAt_35 : decode cX2_rolesAt 35 = .ok (.getfield 27, 3) := by decide +kernel
theorem dX2_rolesAt_38 : decode cX2_rolesAt 38 = .ok (.iload_n 3, 1) := by decide +kernel
theorem dX2_rolesAt_39 : decode cX2_rolesAt 39 = .ok (.iaload, 1) := by decide +kernel
theorem dX2_rolesAt_40 : decode cX2_rolesAt 40 = .ok (.ishl, 1) := by decide +kernel
theorem dX2_rolesAt_41 : decode cX2_rolesAt 41 = .ok (.ior, 1) := by decide +kernel
theorem dX2_rolesAt_42 : decode cX2_rolesAt 42 = .ok (.istore_n 2, 1) := by decide +kernel
theorem dX2_rolesAt_43 : decode cX2_rolesAt 43 = .ok (.iinc 3 1, 3) := by decide +kernel
theorem dX2_rolesAt_46 : decode cX2_rolesAt 46 = .ok (.goto (-42), 3) := by decide +kernel
theorem dX2_rolesAt_49 : decode cX2_rolesAt 49 = .ok (.iload_n 2, 1) := by decide +kernel
theorem dX2_rolesAt_50 : decode cX2_rolesAt 50 = .ok (.ireturn, 1) := by decide +kernel
theorem dX2_rolesWith_0 : decode cX2_rolesWith 0 = .ok (.iconst 0, 1) := by decide +kernel
theorem dX2_rolesWith_1 : decode cX2_rolesWith 1 = .ok (.istore_n 2, 1) := by decide +kernel
theorem dX2_rolesWith_2 : decode cX2_rolesWith 2 = .ok (.iconst 0, 1) := by decide +kernel
theorem dX2_rolesWith_3 : decode cX2_rolesWith 3 = .ok (.istore_n 3, 1) := by decide +kernel
theorem dX2_rolesWith_4 : decode cX2_rolesWith 4 = .ok (.iload_n 3, 1) := by decide +kernel
theorem dX2_rolesWith_5 : decode cX2_rolesWith 5 = .ok (.aload_n 0, 1) := by decide +kernel
theorem dX2_rolesWith_6 : decode cX2_rolesWith 6 = .ok (.getfield 43, 3) := by decide +kernel
theorem dX2_rolesWith_9 : decode cX2_rolesWith 9 = .ok (.if_icmp .ge 25, 3) := by decide +kernel
theorem dX2_rolesWith_12 : decode cX2_rolesWith 12 = .ok (.aload_n 0, 1) := by decide +kernel
theorem dX2_rolesWith_13 : decode cX2_rolesWith 13 = .ok (.getfield 24, 3) := by decide +kernel
theorem dX2_rolesWith_16 : decode cX2_rolesWith 16 = .ok (.iload_n 3, 1) := by decide +kernel
theorem dX2_rolesWith_17 : decode cX2_rolesWith 17 = .ok (.iaload, 1) := by decide +kernel
theorem dX2_rolesWith_18 : decode cX2_rolesWith 18 = .ok (.iload_n 1, 1) := by decide +kernel
theorem dX2_rolesWith_19 : decode cX2_rolesWith 19 = .ok (.if_icmp .ne 9, 3) := by decide +kernel
theorem dX2_rolesWith_22 : decode cX2_rolesWith 22 = .ok (.iload_n 2, 1) := by decide +kernel
theorem dX2_rolesWith_23 : decode cX2_rolesWith 23 = .ok (.iconst 1, 1) := by decide +kernel
theorem dX2_rolesWith_24 : decode cX2_rolesWith 24 = .ok (.iload_n 3, 1) := by decide +kernel
theorem dX2_rolesWith_25 : decode cX2_rolesWith 25 = .ok (.ishl, 1) := by decide +kernel
theorem dX2_rolesWith_26 : decode cX2_rolesWith 26 = .ok (.ior, 1) := by decide +kernel
theorem dX2_rolesWith_27 : decode cX2_rolesWith 27 = .ok (.istore_n 2, 1) := by decide +kernel
theorem dX2_rolesWith_28 : decode cX2_rolesWith 28 = .ok (.iinc 3 1, 3) := by decide +kernel
theorem dX2_rolesWith_31 : decode cX2_rolesWith 31 = .ok (.goto (-27), 3) := by decide +kernel
theorem dX2_rolesWith_34 : decode cX2_rolesWith 34 = .ok (.iload_n 2, 1) := by decide +kernel
theorem dX2_rolesWith_35 : decode cX2_rolesWith 35 = .ok (.ireturn, 1) := by decide +kernel
theorem dX3_init_0 : decode cX3_init 0 = .ok (.aload_n 0, 1) := by decide +kernel
theorem dX3_init_1 : decode cX3_init 1 = .ok (.invokespecial 3, 3) := by decide +kernel
theorem dX3_init_4 : decode cX3_init 4 = .ok (.aload_n 0, 1) := by decide +kernel
theorem dX3_init_5 : decode cX3_init 5 = .ok (.sipush 400, 3) := by decide +kernel
theorem dX3_init_8 : decode cX3_init 8 = .ok (.newarray .char, 2) := by decide +kernel
theorem dX3_init_10 : decode cX3_init 10 = .ok (.putfield 9, 3) := by decide +kernel
theorem dX3_init_13 : decode cX3_init 13 = .ok (.aload_n 0, 1) := by decide +kernel
theorem dX3_init_14 : decode cX3_init 14 = .ok (.iconst 4, 1) := by decide +kernel
theorem dX3_init_15 : decode cX3_init 15 = .ok (.newarray .int, 2) := by decide +kernel
theorem dX3_init_17 : decode cX3_init 17 = .ok (.putfield 15, 3) := by decide +kernel
theorem dX3_init_20 : decode cX3_init 20 = .ok (.return_, 1) := by decide +kernel
theorem dX3_put_0 : decode cX3_put 0 = .ok (.aload_n 0, 1) := by decide +kernel
theorem dX3_put_1 : decode cX3_put 1 = .ok (.getfield 19, 3) := by decide +kernel
theorem dX3_put_4 : decode cX3_put 4 = .ok (.sipush 400, 3) := by decide +kernel
theorem dX3_put_7 : decode cX3_put 7 = .ok (.if_icmp .ge 23, 3) := by decide +kernel
theorem dX3_put_10 : decode cX3_put 10 = .ok (.aload_n 0, 1) := by decide +kernel
theorem dX3_put_11 : decode cX3_put 11 = .ok (.getfield 9, 3) := by decide +kernel
theorem dX3_put_14 : decode cX3_put 14 = .ok (.aload_n 0, 1) := by decide +kernel
theorem dX3_put_15 : decode cX3_put 15 = .ok (.getfield 19, 3) := by decide +kernel
theorem dX3_put_18 : decode cX3_put 18 = .ok (.iload_n 1, 1) := by decide +kernel
theorem dX3_put_19 : decode cX3_put 19 = .ok (.castore, 1) := by decide +kernel
theorem dX3_put_20 : decode cX3_put 20 = .ok (.aload_n 0, 1) := by decide +kernel
theorem dX3_put_21 : decode cX3_put 21 = .ok (.dup, 1) := by decide +kernel
theorem dX3_put_22 : decode cX3_put 22 = .ok (.getfield 19, 3) := by decide +kernel
theorem dX3_put_25 : decode cX3_put 25 = .ok (.iconst 1, 1) := by decide +kernel
theorem dX3_put_26 : decode cX3_put 26 = .ok (.iadd, 1) := by decide +kernel
theorem dX3_put_27 : decode cX3_put 27 = .ok (.putfield 19, 3) := by decide +kernel
theorem dX3_put_30 : decode cX3_put 30 = .ok (.return_, 1) := by decide +kernel
set_option maxRecDepth 20000 in
theorem ggX3_putAll_J0_length_8abf5 : GoodIn wsX3_putAll wsJ0_length_8abf5 := goodIn_r _ [5, 6, 7, 8, 9, 4, 10, 11, 12] (by decide +kernel) (by decide +kernel)
set_option maxRecDepth 20000 in
theorem gX3_putAll_J0_length_8abf5 : GoodIn wsX3_putAll (wsV RX3 23 RJ0 yJ0_length_8abf5 wsJ0_length_8abf5) := goodIn_app (goodIn_of _ (by decide +kernel)) ggX3_putAll_J0_length_8abf5
set_option maxRecDepth 20000 in
theorem ggX3_putAll_J0_charAt_5068e : GoodIn wsX3_putAll wsJ0_charAt_5068e := goodIn_r _ [16, 6, 17, 18, 19, 4, 20, 11, 12, 21, 22, 23, 24, 25, 26, 27, 28, 29, 30, 31, 32, 33, 34, 35, 36, 37, 38, 39, 40, 41, 42, 43, 44, 45, 46, 47, 48, 49] (by decide +kernel) (by decide +kernel)
set_option maxRecDepth 20000 in
theorem gX3_putAll_J0_charAt_5068e : GoodIn wsX3_putAll (wsV RX3 28 RJ0 yJ0_charAt_5068e wsJ0_charAt_5068e) := goodIn_app (goodIn_of _ (by decide +kernel)) ggX3_putAll_J0_charAt_5068e
set_option maxRecDepth 20000 in
theorem ggX3_putAll_X3_put : GoodIn wsX3_putAll wsX3_put := goodIn_r _ [54, 55, 56, 57, 58, 59, 60, 61, 62, 63] (by decide +kernel) (by decide +kernel)
set_option maxRecDepth 20000 in
theorem gX3_putAll_X3_put : GoodIn wsX3_putAll (wsV RX3 32 RX3 yX3_put wsX3_put) := goodIn_app (goodIn_of _ (by decide +kernel)) ggX3_putAll_X3_put
theorem dX3_putAll_0 : decode cX3_putAll 0 = .ok (.iconst 0, 1) := by decide +kernel
theorem dX3_putAll_1 : decode cX3_putAll 1 = .ok (.istore_n 2, 1) := by decide +kernel
theorem dX3_putAll_2 : decode cX3_putAll 2 = .ok (.iload_n 2, 1) := by decide +kernel
theorem dX3_putAll_3 : decode cX3_putAll 3 = .ok (.aload_n 1, 1) := by decide +kernel
theorem dX3_putAll_4 : decode cX3_putAll 4 = .ok (.invokevirtual 23, 3) := by decide +kernel
theorem dX3_putAll_7 : decode cX3_putAll 7 = .ok (.if_icmp .ge 18, 3) := by decide +kernel
theorem dX3_putAll_10 : decode cX3_putAll 10 = .ok (.aload_n 0, 1) := by decide +kernel
theorem dX3_putAll_11 : decode cX3_putAll 11 = .ok (.aload_n 1, 1) := by decide +kernel
theorem dX3_putAll_12 : decode cX3_putAll 12 = .ok (.iload_n 2, 1) := by decide +kernel
theorem dX3_putAll_13 : decode cX3_putAll 13 = .ok (.invokevirtual 28, 3) := by decide +kernel
theorem dX3_putAll_16 : decode cX3_putAll 16 = .ok (.invokevirtual 32, 3) := by decide +kernel
theorem dX3_putAll_19 : decode cX3_putAll 19 = .ok (.iinc 2 1, 3) := by decide +kernel
theorem dX3_putAll_22 : decode cX3_putAll 22 = .ok (.goto (-20), 3) := by decide +kernel
theorem dX3_putAll_25 : decode cX3_putAll 25 = .ok (.return_, 1) := by decide +kernel
set_option maxRecDepth 20000 in
theorem ggX3_readInto_X2_makeEmpty : GoodIn wsX3_readInto wsX2_makeEmpty := goodIn_r _ [9, 10, 11, 12, 157, 158, 159, 160, 161, 162, 163, 164, 165, 166, 167, 168] (by decide +kernel) (by decide +kernel)
set_option maxRecDepth 20000 in
theorem gX3_readInto_X2_makeEmpty : GoodIn wsX3_readInto (wsV RX3 36 RX2 yX2_makeEmpty wsX2_makeEmpty) := goodIn_app (goodIn_of _ (by decide +kernel)) ggX3_readInto_X2_makeEmpty
set_option maxRecDepth 20000 in
theorem ggX3_readInto_X3_readStatement : GoodIn wsX3_readInto wsX3_readStatement := goodIn_r _ [17, 18, 19, 20, 16, 21, 1, 22, 3, 23, 24, 25, 26, 27, 28, 29, 30, 31, 32, 33, 34, 35, 36, 37, 38, 39, 40, 41, 42, 43, 44, 45, 46, 47, 48, 49, 50, 51, 52, 53, 54, 55, 56, 57, 58, 59, 60, 61, 62, 63, 64, 65, 66, 67, 68, 69, 70, 71, 72, 73, 74, 75, 76, 77, 78, 79, 80, 81, 82, 83, 84, 85, 86, 87, 88, 89, 90, 91, 92, 93, 94, 95, 96, 8, 97, 10, 98, 99, 100, 101, 102, 103, 104, 105, 106, 107, 108, 109, 110, 11, 111, 112, 113, 114, 115, 116, 117, 118, 119, 120, 121, 122, 123, 124, 125, 12, 126, 127, 128, 129, 130, 131, 132, 133, 134, 135, 136, 137, 138, 139, 140, 141, 142, 143, 144, 145, 146, 147, 148, 149, 150, 151, 152, 153, 154, 155, 156, 157, 158, 159, 160, 161, 162, 163, 164, 165, 166, 167, 168] (by decide +kernel) (by decide +kernel)
set_option maxRecDepth 20000 in
theorem gX3_readInto_X3_readStatement : GoodIn wsX3_readInto (wsV RX3 50 RX3 yX3_readStatement wsX3_readStatement) := goodIn_app (goodIn_of _ (by decide +kernel)) ggX3_readInto_X3_readStatement
theorem dX3_readInto_0 : decode cX3_readInto 0 = .ok (.aload_n 1, 1) := by decide +kernel
theorem dX3_readInto_1 : decode cX3_readInto 1 = .ok (.invokevirtual 36, 3) := by decide +kernel
theorem dX3_readInto_4 : decode cX3_readInto 4 = .ok (.aload_n 0, 1) := by decide +kernel
theorem dX3_readInto_5 : decode cX3_readInto 5 = .ok (.iconst 0, 1) := by decide +kernel
theorem dX3_readInto_6 : decode cX3_readInto 6 = .ok (.putfield 41, 3) := by decide +kernel
theorem dX3_readInto_9 : decode cX3_readInto 9 = .ok (.aload_n 0, 1) := by decide +kernel
theorem dX3_readInto_10 : decode cX3_readInto 10 = .ok (.iconst 0, 1) := by decide +kernel
theorem dX3_readInto_11 : decode cX3_readInto 11 = .ok (.putfield 44, 3) := by decide +kernel
theorem dX3_readInto_14 : decode cX3_readInto 14 = .ok (.iconst 0, 1) := by decide +kernel
theorem dX3_readInto_15 : decode cX3_readInto 15 = .ok (.istore_n 2, 1) := by decide +kernel
theorem dX3_readInto_16 : decode cX3_readInto 16 = .ok (.iload_n 2, 1) := by decide +kernel
theorem dX3_readInto_17 : decode cX3_readInto 17 = .ok (.sipush 400, 3) := by decide +kernel
theorem dX3_readInto_20 : decode cX3_readInto 20 = .ok (.if_icmp .ge 44, 3) := by decide +kernel
theorem dX3_readInto_23 : decode cX3_readInto 23 = .ok (.aload_n 0, 1) := by decide +kernel
theorem dX3_readInto_24 : decode cX3_readInto 24 = .ok (.getfield 41, 3) := by decide +kernel
theorem dX3_readInto_27 : decode cX3_readInto 27 = .ok (.aload_n 0, 1) := by decide +kernel
theorem dX3_readInto_28 : decode cX3_readInto 28 = .ok (.getfield 19, 3) := by decide +kernel
theorem dX3_readInto_31 : decode cX3_readInto 31 = .ok (.if_icmp .ge 33, 3) := by decide +kernel
theorem dX3_readInto_34 : decode cX3_readInto 34 = .ok (.aload_n 0, 1) := by decide +kernel
theorem dX3_readInto_35 : decode cX3_readInto 35 = .ok (.getfield 44, 3) := by decide +kernel
theorem dX3_readInto_38 : decode cX3_readInto 38 = .ok (.ifCond .ne 26, 3) := by decide +kernel
theorem dX3_readInto_41 : decode cX3_readInto 41 = .ok (.aload_n 0, 1) := by decide +kernel
theorem dX3_readInto_42 : decode cX3_readInto 42 = .ok (.aload_n 0, 1) := by decide +kernel
theorem dX3_readInto_43 : decode cX3_readInto 43 = .ok (.getfield 41, 3) := by decide +kernel
theorem dX3_readInto_46 : decode cX3_readInto 46 = .ok (.putfield 47, 3) := by decide +kernel
theorem dX3_readInto_49 : decode cX3_readInto 49 = .ok (.aload_n 0, 1) := by decide +kernel
theorem dX3_readInto_50 : decode cX3_readInto 50 = .ok (.aload_n 0, 1) := by decide +kernel
theorem dX3_readInto_51 : decode cX3_readInto 51 = .ok (.aload_n 1, 1) := by decide +kernel
theorem dX3_readInto_52 : decode cX3_readInto 52 = .ok (.invokevirtual 50, 3) := by decide +kernel
theorem dX3_readInto_55 : decode cX3_readInto 55 = .ok (.putfield 44, 3) := by decide +kernel
theorem dX3_readInto_58 : decode cX3_readInto 58 = .ok (.iinc 2 1, 3) := by decide +kernel
theorem dX3_readInto_61 : decode cX3_readInto 61 = .ok (.goto (-45), 3) := by decide +kernel
theorem dX3_readInto_64 : decode cX3_readInto 64 = .ok (.return_, 1) := by decide +kernel
set_option maxRecDepth 20000 in
theorem ggX3_readStatement_X3_readWord : GoodIn wsX3_readStatement wsX3_readWord := goodIn_r _ [5, 6, 7, 8, 9, 140, 141, 142, 143, 144, 145, 146] (by decide +kernel) (by decide +kernel)
set_option maxRecDepth 20000 in
theorem gX3_readStatement_X3_readWord : GoodIn wsX3_readStatement (wsV RX3 54 RX3 yX3_readWord wsX3_readWord) := goodIn_app (goodIn_of _ (by decide +kernel)) ggX3_readStatement_X3_readWord
set_option maxRecDepth 20000 in
theorem ggX3_readStatement_X3_wordIs : GoodIn wsX3_readStatement wsX3_wordIs := goodIn_r _ [13, 6, 7, 9, 14, 15, 16, 17, 18, 19, 20, 21, 22, 23, 24, 25, 26, 27, 28, 29, 30, 31, 32, 33, 34, 35, 36, 37, 38, 39, 40, 41, 42, 43, 44, 45, 46, 47, 48, 49, 50, 51, 52, 53, 54, 55, 56, 57, 58, 59, 60, 61, 62, 140, 141, 142, 143, 144, 145, 146] (by decide +kernel) (by decide +kernel)
set_option maxRecDepth 20000 in
theorem gX3_readStatement_X3_wordIs : GoodIn wsX3_readStatement (wsV RX3 59 RX3 yX3_wordIs wsX3_wordIs) := goodIn_app (goodIn_of _ (by decide +kernel)) ggX3_readStatement_X3_wordIs
set_option maxRecDepth 20000 in
theorem ggX3_readStatement_X3_readScene : GoodIn wsX3_readStatement wsX3_readScene := goodIn_r _ [66, 67, 68, 69, 70, 4, 71, 72, 73, 74, 75, 6, 8, 9, 1, 2, 3, 5, 7, 76, 77, 78, 79, 80, 81, 82, 83, 84, 85, 86, 140, 141, 142, 143, 144, 145, 146, 147, 148, 149, 150, 151, 152, 153, 154, 155, 156, 157, 158] (by decide +kernel) (by decide +kernel)
set_option maxRecDepth 20000 in
theorem gX3_readStatement_X3_readScene : GoodIn wsX3_readStatement (wsV RX3 63 RX3 yX3_readScene wsX3_readScene) := goodIn_app (goodIn_of _ (by decide +kernel)) ggX3_readStatement_X3_readScene
set_option maxRecDepth 20000 in
theorem ggX3_readStatement_X3_readRole : GoodIn wsX3_readStatement wsX3_readRole := goodIn_r _ [90, 67, 72, 73, 74, 4, 75, 6, 8, 9, 1, 2, 3, 5, 7, 91, 92, 93, 94, 10, 11, 12, 13, 14, 15, 16, 17, 18, 19, 20, 21, 22, 23, 24, 25, 26, 27, 28, 29, 30, 31, 32, 33, 34, 35, 36, 37, 38, 39, 40, 41, 42, 43, 44, 45, 46, 47, 48, 49, 50, 51, 52, 53, 54, 55, 56, 57, 58, 59, 60, 61, 62, 68, 69, 70, 71, 76, 77, 78, 79, 95, 96, 97, 83, 98, 99, 100, 101, 102, 103, 104, 105, 106, 140, 141, 142, 143, 144, 145, 146, 147, 148, 149, 150, 151, 152, 153, 154, 155, 156, 157, 158] (by decide +kernel) (by decide +kernel)
set_option maxRecDepth 20000 in
theorem gX3_readStatement_X3_readRole : GoodIn wsX3_readStatement (wsV RX3 68 RX3 yX3_readRole wsX3_readRole) := goodIn_app (goodIn_of _ (by decide +kernel)) ggX3_readStatement_X3_readRole
set_option maxRecDepth 20000 in
theorem ggX3_readStatement_X3_readEnter : GoodIn wsX3_readStatement wsX3_readEnter := goodIn_r _ [110, 67, 68, 69, 70, 4, 71, 72, 73, 74, 75, 6, 8, 9, 1, 2, 3, 5, 7, 76, 77, 78, 79, 111, 112, 113, 83, 114, 115, 116, 117, 118, 119, 86, 120, 121, 122, 123, 99, 124, 125, 126, 127, 85, 128, 129, 130, 131, 132, 133, 134, 135, 136, 137, 138, 139, 140, 141, 142, 143, 144, 145, 146, 147, 148, 149, 150, 151, 152, 153, 154, 155, 156, 157, 158] (by decide +kernel) (by decide +kernel)
set_option maxRecDepth 20000 in
theorem gX3_readStatement_X3_readEnter : GoodIn wsX3_readStatement (wsV RX3 73 RX3 yX3_readEnter wsX3_readEnter) := goodIn_app (goodIn_of _ (by decide +kernel)) ggX3_readStatement_X3_readEnter
theorem dX3_readStatement_0 : decode cX3_readStatement 0 = .ok (.aload_n 0, 1) := by decide +kernel
theorem dX3_readStatement_1 : decode cX3_readStatement 1 = .ok (.invokevirtual 54, 3) := by decide +kernel
theorem dX3_readStatement_4 : decode cX3_readStatement 4 = .ok (.aload_n 0, 1) := by decide +kernel
theorem dX3_readStatement_5 : decode cX3_readStatement 5 = .ok (.ldc 57, 2) := by decide +kernel
theorem dX3_readStatement_7 : decode cX3_readStatement 7 = .ok (.invokevirtual 59, 3) := by decide +kernel
theorem dX3_readStatement_10 : decode cX3_readStatement 10 = .ok (.ifCond .eq 9, 3) := by decide +kernel
theorem dX3_readStatement_13 : decode cX3_readStatement 13 = .ok (.aload_n 0, 1) := by decide +kernel
theorem dX3_readStatement_14 : decode cX3_readStatement 14 = .ok (.aload_n 1, 1) := by decide +kernel
theorem dX3_readStatement_15 : decode cX3_readStatement 15 = .ok (.invokevirtual 63, 3) := by decide +kernel
theorem dX3_readStatement_18 : decode cX3_readStatement 18 = .ok (.ireturn, 1) := by decide +kernel
theorem dX3_readStatement_19 : decode cX3_readStatement 19 = .ok (.aload_n 0, 1) := by decide +kernel
theorem dX3_readStatement_20 : decode cX3_readStatement 20 = .ok (.ldc 66, 2) := by decide +kernel
theorem dX3_readStatement_22 : decode cX3_readStatement 22 = .ok (.invokevirtual 59, 3) := by decide +kernel
theorem dX3_readStatement_25 : decode cX3_readStatement 25 = .ok (.ifCond .eq 9, 3) := by decide +kernel
theorem dX3_readStatement_28 : decode cX3_readStatement 28 = .ok (.aload_n 0, 1) := by decide +kernel
theorem dX3_readStatement_29 : decode cX3_readStatement 29 = .ok (.aload_n 1, 1) := by decide +kernel
theorem dX3_readStatement_30 : decode cX3_readStatement 30 = .ok (.invokevirtual 68, 3) := by decide +kernel
theorem dX3_readStatement_33 : decode cX3_readStatement 33 = .ok (.ireturn, 1) := by decide +kernel
theorem dX3_readStatement_34 : decode cX3_readStatement 34 = .ok (.aload_n 0, 1) := by decide +kernel
theorem dX3_readStatement_35 : decode cX3_readStatement 35 = .ok (.ldc 71, 2) := by decide +kernel
theorem dX3_readStatement_37 : decode cX3_readStatement 37 = .ok (.invokevirtual 59, 3) := by decide +kernel
theorem dX3_readStatement_40 : decode cX3_readStatement 40 = .ok (.ifCond .eq 9, 3) := by decide +kernel
theorem dX3_readStatement_43 : decode cX3_readStatement 43 = .ok (.aload_n 0, 1) := by decide +kernel
theorem dX3_readStatement_44 : decode cX3_readStatement 44 = .ok (.aload_n 1, 1) := by decide +kernel
theorem dX3_readStatement_45 : decode cX3_readStatement 45 = .ok (.invokevirtual 73, 3) := by decide +kernel
theorem dX3_readStatement_48 : decode cX3_readStatement 48 = .ok (.ireturn, 1) := by decide +kernel
theorem dX3_readStatement_49 : decode cX3_readStatement 49 = .ok (.iconst 1, 1) := by decide +kernel
theorem dX3_readStatement_50 : decode cX3_readStatement 50 = .ok (.ireturn, 1) := by decide +kernel
set_option maxRecDepth 20000 in
theorem ggX3_readScene_X3_readNumbersAndEnd : GoodIn wsX3_readScene wsX3_readNumbersAndEnd := goodIn_r _ [6, 1, 7, 8, 9, 5, 10, 11, 12, 13, 14, 15, 16, 17, 18, 19, 20, 21, 22, 30, 31, 32, 33, 34, 35, 36] (by decide +kernel) (by decide +kernel)
set_option maxRecDepth 20000 in
theorem gX3_readScene_X3_readNumbersAndEnd : GoodIn wsX3_readScene (wsV RX3 76 RX3 yX3_readNumbersAndEnd wsX3_readNumbersAndEnd) := goodIn_app (goodIn_of _ (by decide +kernel)) ggX3_readScene_X3_readNumbersAndEnd
set_option maxRecDepth 20000 in
theorem ggX3_readScene_X2_stateScene : GoodIn wsX3_readScene wsX2_stateScene := goodIn_r _ [27, 28, 29, 37, 38, 39, 40, 41, 42, 43, 44, 45, 46, 47, 48] (by decide +kernel) (by decide +kernel)
set_option maxRecDepth 20000 in
theorem gX3_readScene_X2_stateScene : GoodIn wsX3_readScene (wsV RX3 80 RX2 yX2_stateScene wsX2_stateScene) := goodIn_app (goodIn_of _ (by decide +kernel)) ggX3_readScene_X2_stateScene
theorem dX3_readScene_0 : decode cX3_readScene 0 = .ok (.aload_n 0, 1) := by decide +kernel
theorem dX3_readScene_1 : decode cX3_readScene 1 = .ok (.iconst 1, 1) := by decide +kernel
theorem dX3_readScene_2 : decode cX3_readScene 2 = .ok (.invokevirtual 76, 3) := by decide +kernel
theorem dX3_readScene_5 : decode cX3_readScene 5 = .ok (.ifCond .ne 5, 3) := by decide +kernel
theorem dX3_readScene_8 : decode cX3_readScene 8 = .ok (.iconst 2, 1) := by decide +kernel
theorem dX3_readScene_9 : decode cX3_readScene 9 = .ok (.ireturn, 1) := by decide +kernel
theorem dX3_readScene_10 : decode cX3_readScene 10 = .ok (.aload_n 1, 1) := by decide +kernel
theorem dX3_readScene_11 : decode cX3_readScene 11 = .ok (.aload_n 0, 1) := by decide +kernel
theorem dX3_readScene_12 : decode cX3_readScene 12 = .ok (.getfield 15, 3) := by decide +kernel
theorem dX3_readScene_15 : decode cX3_readScene 15 = .ok (.iconst 0, 1) := by decide +kernel
theorem dX3_readScene_16 : decode cX3_readScene 16 = .ok (.iaload, 1) := by decide +kernel
theorem dX3_readScene_17 : decode cX3_readScene 17 = .ok (.invokevirtual 80, 3) := by decide +kernel
theorem dX3_readScene_20 : decode cX3_readScene 20 = .ok (.ireturn, 1) := by decide +kernel
set_option maxRecDepth 20000 in
theorem ggX3_readRole_X3_readSign : GoodIn wsX3_readRole wsX3_readSign := goodIn_r _ [6, 7, 8, 9, 93, 94, 95, 96, 97, 98, 99] (by decide +kernel) (by decide +kernel)
set_option maxRecDepth 20000 in
theorem gX3_readRole_X3_readSign : GoodIn wsX3_readRole (wsV RX3 84 RX3 yX3_readSign wsX3_readSign) := goodIn_app (goodIn_of _ (by decide +kernel)) ggX3_readRole_X3_readSign
set_option maxRecDepth 20000 in
theorem ggX3_readRole_X3_readWord : GoodIn wsX3_readRole wsX3_readWord := goodIn_r _ [13, 7, 14, 8, 9, 93, 94, 95, 96, 97, 98, 99] (by decide +kernel) (by decide +kernel)
set_option maxRecDepth 20000 in
theorem gX3_readRole_X3_readWord : GoodIn wsX3_readRole (wsV RX3 54 RX3 yX3_readWord wsX3_readWord) := goodIn_app (goodIn_of _ (by decide +kernel)) ggX3_readRole_X3_readWord
set_option maxRecDepth 20000 in
theorem ggX3_readRole_X3_wordAsVoice : GoodIn wsX3_readRole wsX3_wordAsVoice := goodIn_r _ [18, 19, 20, 21, 5, 22, 7, 14, 9, 23, 24, 25, 26, 27, 28, 29, 30, 31, 32, 33, 34, 35, 36, 37, 38, 39, 40, 41, 42, 43, 44, 45, 46, 47, 48, 49, 50, 51, 52, 53, 54, 55, 56, 57, 58, 59, 60, 61, 62, 63, 64, 65, 66, 67, 68, 69, 70, 71, 93, 94, 95, 96, 97, 98, 99] (by decide +kernel) (by decide +kernel)
set_option maxRecDepth 20000 in
theorem gX3_readRole_X3_wordAsVoice : GoodIn wsX3_readRole (wsV RX3 88 RX3 yX3_wordAsVoice wsX3_wordAsVoice) := goodIn_app (goodIn_of _ (by decide +kernel)) ggX3_readRole_X3_wordAsVoice
set_option maxRecDepth 20000 in
theorem ggX3_readRole_X3_readNumbersAndEnd : GoodIn wsX3_readRole wsX3_readNumbersAndEnd := goodIn_r _ [75, 1, 2, 3, 4, 5, 6, 7, 8, 9, 10, 11, 12, 13, 14, 76, 77, 78, 79, 93, 94, 95, 96, 97, 98, 99] (by decide +kernel) (by decide +kernel)
set_option maxRecDepth 20000 in
theorem gX3_readRole_X3_readNumbersAndEnd : GoodIn wsX3_readRole (wsV RX3 76 RX3 yX3_readNumbersAndEnd wsX3_readNumbersAndEnd) := goodIn_app (goodIn_of _ (by decide +kernel)) ggX3_readRole_X3_readNumbersAndEnd
set_option maxRecDepth 20000 in
theorem ggX3_readRole_X2_stateRole : GoodIn wsX3_readRole wsX2_stateRole := goodIn_r _ [84, 85, 86, 87, 88, 89, 90, 91, 92, 100, 101, 102, 103, 104, 105, 106, 107, 108, 109, 110, 111] (by decide +kernel) (by decide +kernel)
set_option maxRecDepth 20000 in
theorem gX3_readRole_X2_stateRole : GoodIn wsX3_readRole (wsV RX3 91 RX2 yX2_stateRole wsX2_stateRole) := goodIn_app (goodIn_of _ (by decide +kernel)) ggX3_readRole_X2_stateRole
theorem dX3_readRole_0 : decode cX3_readRole 0 = .ok (.aload_n 0, 1) := by decide +kernel
theorem dX3_readRole_1 : decode cX3_readRole 1 = .ok (.bipush 32, 2) := by decide +kernel
theorem dX3_readRole_3 : decode cX3_readRole 3 = .ok (.invokevirtual 84, 3) := by decide +kernel
theorem dX3_readRole_6 : decode cX3_readRole 6 = .ok (.ifCond .ne 5, 3) := by decide +kernel
theorem dX3_readRole_9 : decode cX3_readRole 9 = .ok (.iconst 2, 1) := by decide +kernel
theorem dX3_readRole_10 : decode cX3_readRole 10 = .ok (.ireturn, 1) := by decide +kernel
theorem dX3_readRole_11 : decode cX3_readRole 11 = .ok (.aload_n 0, 1) := by decide +kernel
theorem dX3_readRole_12 : decode cX3_readRole 12 = .ok (.invokevirtual 54, 3) := by decide +kernel
theorem dX3_readRole_15 : decode cX3_readRole 15 = .ok (.aload_n 0, 1) := by decide +kernel
theorem dX3_readRole_16 : decode cX3_readRole 16 = .ok (.invokevirtual 88, 3) := by decide +kernel
theorem dX3_readRole_19 : decode cX3_readRole 19 = .ok (.istore_n 2, 1) := by decide +kernel
theorem dX3_readRole_20 : decode cX3_readRole 20 = .ok (.iload_n 2, 1) := by decide +kernel
theorem dX3_readRole_21 : decode cX3_readRole 21 = .ok (.iconst (-1), 1) := by decide +kernel
theorem dX3_readRole_22 : decode cX3_readRole 22 = .ok (.if_icmp .ne 5, 3) := by decide +kernel
theorem dX3_readRole_25 : decode cX3_readRole 25 = .ok (.iconst 1, 1) := by decide +kernel
theorem dX3_readRole_26 : decode cX3_readRole 26 = .ok (.ireturn, 1) := by decide +kernel
theorem dX3_readRole_27 : decode cX3_readRole 27 = .ok (.aload_n 0, 1) := by decide +kernel
theorem dX3_readRole_28 : decode cX3_readRole 28 = .ok (.iconst 2, 1) := by decide +kernel
theorem dX3_readRole_29 : decode cX3_readRole 29 = .ok (.invokevirtual 76, 3) := by decide +kernel
theorem dX3_readRole_32 : decode cX3_readRole 32 = .ok (.ifCond .ne 5, 3) := by decide +kernel
theorem dX3_readRole_35 : decode cX3_readRole 35 = .ok (.iconst 2, 1) := by decide +kernel
theorem dX3_readRole_36 : decode cX3_readRole 36 = .ok (.ireturn, 1) := by decide +kernel
theorem dX3_readRole_37 : decode cX3_readRole 37 = .ok (.aload_n 1, 1) := by decide +kernel
theorem dX3_readRole_38 : decode cX3_readRole 38 = .ok (.iload_n 2, 1) := by decide +kernel
theorem dX3_readRole_39 : decode cX3_readRole 39 = .ok (.aload_n 0, 1) := by decide +kernel
theorem dX3_readRole_40 : decode cX3_readRole 40 = .ok (.getfield 15, 3) := by decide +kernel
theorem dX3_readRole_43 : decode cX3_readRole 43 = .ok (.iconst 0, 1) := by decide +kernel
theorem dX3_readRole_44 : decode cX3_readRole 44 = .ok (.iaload, 1) := by decide +kernel
theorem dX3_readRole_45 : decode cX3_readRole 45 = .ok (.aload_n 0, 1) := by decide +kernel
theorem dX3_readRole_46 : decode cX3_readRole 46 = .ok (.getfield 15, 3) := by decide +kernel
theorem dX3_readRole_49 : decode cX3_readRole 49 = .ok (.iconst 1, 1) := by decide +kernel
theorem dX3_readRole_50 : decode cX3_readRole 50 = .ok (.iaload, 1) := by decide +kernel
theorem dX3_readRole_51 : decode cX3_readRole 51 = .ok (.invokevirtual 91, 3) := by decide +kernel
theorem dX3_readRole_54 : decode cX3_readRole 54 = .ok (.ireturn, 1) := by decide +kernel
set_option maxRecDepth 20000 in
theorem ggX3_readEnter_X3_readNumbersAndEnd : GoodIn wsX3_readEnter wsX3_readNumbersAndEnd := goodIn_r _ [6, 1, 7, 8, 9, 5, 10, 11, 12, 13, 14, 15, 16, 17, 18, 19, 20, 21, 22, 56, 57, 58, 59, 60, 61, 62] (by decide +kernel) (by decide +kernel)
set_option maxRecDepth 20000 in
theorem gX3_readEnter_X3_readNumbersAndEnd : GoodIn wsX3_readEnter (wsV RX3 76 RX3 yX3_readNumbersAndEnd wsX3_readNumbersAndEnd) := goodIn_app (goodIn_of _ (by decide +kernel)) ggX3_readEnter_X3_readNumbersAndEnd
set_option maxRecDepth 20000 in
theorem ggX3_readEnter_X2_stateAppearance : GoodIn wsX3_readEnter wsX2_stateAppearance := goodIn_r _ [27, 28, 29, 30, 31, 26, 32, 33, 34, 35, 36, 37, 38, 39, 40, 41, 42, 43, 44, 45, 46, 47, 48, 49, 50, 51, 52, 53, 54, 55, 63, 64, 65, 66, 67, 68, 69, 70, 71, 72, 73, 74] (by decide +kernel) (by decide +kernel)
set_option maxRecDepth 20000 in
theorem gX3_readEnter_X2_stateAppearance : GoodIn wsX3_readEnter (wsV RX3 95 RX2 yX2_stateAppearance wsX2_stateAppearance) := goodIn_app (goodIn_of _ (by decide +kernel)) ggX3_readEnter_X2_stateAppearance
theorem dX3_readEnter_0 : decode cX3_readEnter 0 = .ok (.aload_n 0, 1) := by decide +kernel
theorem dX3_readEnter_1 : decode cX3_readEnter 1 = .ok (.iconst 4, 1) := by decide +kernel
theorem dX3_readEnter_2 : decode cX3_readEnter 2 = .ok (.invokevirtual 76, 3) := by decide +kernel
theorem dX3_readEnter_5 : decode cX3_readEnter 5 = .ok (.ifCond .ne 5, 3) := by decide +kernel
theorem dX3_readEnter_8 : decode cX3_readEnter 8 = .ok (.iconst 2, 1) := by decide +kernel
theorem dX3_readEnter_9 : decode cX3_readEnter 9 = .ok (.ireturn, 1) := by decide +kernel
theorem dX3_readEnter_10 : decode cX3_readEnter 10 = .ok (.aload_n 1, 1) := by decide +kernel
theorem dX3_readEnter_11 : decode cX3_readEnter 11 = .ok (.aload_n 0, 1) := by decide +kernel
theorem dX3_readEnter_12 : decode cX3_readEnter 12 = .ok (.getfield 15, 3) := by decide +kernel
theorem dX3_readEnter_15 : decode cX3_readEnter 15 = .ok (.iconst 0, 1) := by decide +kernel
theorem dX3_readEnter_16 : decode cX3_readEnter 16 = .ok (.iaload, 1) := by decide +kernel
theorem dX3_readEnter_17 : decode cX3_readEnter 17 = .ok (.aload_n 0, 1) := by decide +kernel
theorem dX3_readEnter_18 : decode cX3_readEnter 18 = .ok (.getfield 15, 3) := by decide +kernel
theorem dX3_readEnter_21 : decode cX3_readEnter 21 = .ok (.iconst 1, 1) := by decide +kernel
theorem dX3_readEnter_22 : decode cX3_readEnter 22 = .ok (.iaload, 1) := by decide +kernel
theorem dX3_readEnter_23 : decode cX3_readEnter 23 = .ok (.aload_n 0, 1) := by decide +kernel
theorem dX3_readEnter_24 : decode cX3_readEnter 24 = .ok (.getfield 15, 3) := by decide +kernel
theorem dX3_readEnter_27 : decode cX3_readEnter 27 = .ok (.iconst 2, 1) := by decide +kernel
theorem dX3_readEnter_28 : decode cX3_readEnter 28 = .ok (.iaload, 1) := by decide +kernel
theorem dX3_readEnter_29 : decode cX3_readEnter 29 = .ok (.aload_n 0, 1) := by decide +kernel
theorem dX3_readEnter_30 : decode cX3_readEnter 30 = .ok (.getfield 15, 3) := by decide +kernel
theorem dX3_readEnter_33 : decode cX3_readEnter 33 = .ok (.iconst 3, 1) := by decide +kernel
theorem dX3_readEnter_34 : decode cX3_readEnter 34 = .ok (.iaload, 1) := by decide +kernel
theorem dX3_readEnter_35 : decode cX3_readEnter 35 = .ok (.invokevirtual 95, 3) := by decide +kernel
theorem dX3_readEnter_38 : decode cX3_readEnter 38 = .ok (.ireturn, 1) := by decide +kernel
set_option maxRecDepth 20000 in
theorem ggX3_readNumbersAndEnd_X3_readSign : GoodIn wsX3_readNumbersAndEnd wsX3_readSign := goodIn_r _ [6, 7, 8, 9, 19, 20, 21, 22, 23, 24, 25] (by decide +kernel) (by decide +kernel)
set_option maxRecDepth 20000 in
theorem gX3_readNumbersAndEnd_X3_readSign : GoodIn wsX3_readNumbersAndEnd (wsV RX3 84 RX3 yX3_readSign wsX3_readSign) := goodIn_app (goodIn_of _ (by decide +kernel)) ggX3_readNumbersAndEnd_X3_readSign
set_option maxRecDepth 20000 in
theorem ggX3_readNumbersAndEnd_X3_readWord : GoodIn wsX3_readNumbersAndEnd wsX3_readWord := goodIn_r _ [13, 7, 14, 8, 9, 19, 20, 21, 22, 23, 24, 25] (by decide +kernel) (by decide +kernel)
set_option maxRecDepth 20000 in
theorem gX3_readNumbersAndEnd_X3_readWord : GoodIn wsX3_readNumbersAndEnd (wsV RX3 54 RX3 yX3_readWord wsX3_readWord) := goodIn_app (goodIn_of _ (by decide +kernel)) ggX3_readNumbersAndEnd_X3_readWord
set_option maxRecDepth 20000 in
theorem ggX3_readNumbersAndEnd_X3_wordAsNumber : GoodIn wsX3_readNumbersAndEnd wsX3_wordAsNumber := goodIn_r _ [18, 7, 14, 9, 19, 20, 21, 22, 23, 24, 25] (by decide +kernel) (by decide +kernel)
set_option maxRecDepth 20000 in
theorem gX3_readNumbersAndEnd_X3_wordAsNumber : GoodIn wsX3_readNumbersAndEnd (wsV RX3 99 RX3 yX3_wordAsNumber wsX3_wordAsNumber) := goodIn_app (goodIn_of _ (by decide +kernel)) ggX3_readNumbersAndEnd_X3_wordAsNumber
theorem dX3_readNumbersAndEnd_0 : decode cX3_readNumbersAndEnd 0 = .ok (.iconst 0, 1) := by decide +kernel
theorem dX3_readNumbersAndEnd_1 : decode cX3_readNumbersAndEnd 1 = .ok (.istore_n 2, 1) := by decide +kernel
theorem dX3_readNumbersAndEnd_2 : decode cX3_readNumbersAndEnd 2 = .ok (.iload_n 2, 1) := by decide +kernel
theorem dX3_readNumbersAndEnd_3 : decode cX3_readNumbersAndEnd 3 = .ok (.iload_n 1, 1) := by decide +kernel
theorem dX3_readNumbersAndEnd_4 : decode cX3_readNumbersAndEnd 4 = .ok (.if_icmp .ge 51, 3) := by decide +kernel
theorem dX3_readNumbersAndEnd_7 : decode cX3_readNumbersAndEnd 7 = .ok (.iload_n 2, 1) := by decide +kernel
theorem dX3_readNumbersAndEnd_8 : decode cX3_readNumbersAndEnd 8 = .ok (.iconst 4, 1) := by decide +kernel
theorem dX3_readNumbersAndEnd_9 : decode cX3_readNumbersAndEnd 9 = .ok (.if_icmp .ge 46, 3) := by decide +kernel
theorem dX3_readNumbersAndEnd_12 : decode cX3_readNumbersAndEnd 12 = .ok (.aload_n 0, 1) := by decide +kernel
theorem dX3_readNumbersAndEnd_13 : decode cX3_readNumbersAndEnd 13 = .ok (.bipush 32, 2) := by decide +kernel
theorem dX3_readNumbersAndEnd_15 : decode cX3_readNumbersAndEnd 15 = .ok (.invokevirtual 84, 3) := by decide +kernel
theorem dX3_readNumbersAndEnd_18 : decode cX3_readNumbersAndEnd 18 = .ok (.ifCond .ne 5, 3) := by decide +kernel
theorem dX3_readNumbersAndEnd_21 : decode cX3_readNumbersAndEnd 21 = .ok (.iconst 0, 1) := by decide +kernel
theorem dX3_readNumbersAndEnd_22 : decode cX3_readNumbersAndEnd 22 = .ok (.ireturn, 1) := by decide +kernel
theorem dX3_readNumbersAndEnd_23 : decode cX3_readNumbersAndEnd 23 = .ok (.aload_n 0, 1) := by decide +kernel
theorem dX3_readNumbersAndEnd_24 : decode cX3_readNumbersAndEnd 24 = .ok (.invokevirtual 54, 3) := by decide +kernel
theorem dX3_readNumbersAndEnd_27 : decode cX3_readNumbersAndEnd 27 = .ok (.aload_n 0, 1) := by decide +kernel
theorem dX3_readNumbersAndEnd_28 : decode cX3_readNumbersAndEnd 28 = .ok (.getfield 15, 3) := by decide +kernel
theorem dX3_readNumbersAndEnd_31 : decode cX3_readNumbersAndEnd 31 = .ok (.iload_n 2, 1) := by decide +kernel
theorem dX3_readNumbersAndEnd_32 : decode cX3_readNumbersAndEnd 32 = .ok (.aload_n 0, 1) := by decide +kernel
theorem dX3_readNumbersAndEnd_33 : decode cX3_readNumbersAndEnd 33 = .ok (.invokevirtual 99, 3) := by decide +kernel
theorem dX3_readNumbersAndEnd_36 : decode cX3_readNumbersAndEnd 36 = .ok (.iastore, 1) := by decide +kernel
theorem dX3_readNumbersAndEnd_37 : decode cX3_readNumbersAndEnd 37 = .ok (.aload_n 0, 1) := by decide +kernel
theorem dX3_readNumbersAndEnd_38 : decode cX3_readNumbersAndEnd 38 = .ok (.getfield 15, 3) := by decide +kernel
theorem dX3_readNumbersAndEnd_41 : decode cX3_readNumbersAndEnd 41 = .ok (.iload_n 2, 1) := by decide +kernel
theorem dX3_readNumbersAndEnd_42 : decode cX3_readNumbersAndEnd 42 = .ok (.iaload, 1) := by decide +kernel
theorem dX3_readNumbersAndEnd_43 : decode cX3_readNumbersAndEnd 43 = .ok (.iconst (-1), 1) := by decide +kernel
theorem dX3_readNumbersAndEnd_44 : decode cX3_readNumbersAndEnd 44 = .ok (.if_icmp .ne 5, 3) := by decide +kernel
theorem dX3_readNumbersAndEnd_47 : decode cX3_readNumbersAndEnd 47 = .ok (.iconst 0, 1) := by decide +kernel
theorem dX3_readNumbersAndEnd_48 : decode cX3_readNumbersAndEnd 48 = .ok (.ireturn, 1) := by decide +kernel
theorem dX3_readNumbersAndEnd_49 : decode cX3_readNumbersAndEnd 49 = .ok (.iinc 2 1, 3) := by decide +kernel
theorem dX3_readNumbersAndEnd_52 : decode cX3_readNumbersAndEnd 52 = .ok (.goto (-50), 3) := by decide +kernel
theorem dX3_readNumbersAndEnd_55 : decode cX3_readNumbersAndEnd 55 = .ok (.aload_n 0, 1) := by decide +kernel
theorem dX3_readNumbersAndEnd_56 : decode cX3_readNumbersAndEnd 56 = .ok (.bipush 59, 2) := by decide +kernel
theorem dX3_readNumbersAndEnd_58 : decode cX3_readNumbersAndEnd 58 = .ok (.invokevirtual 84, 3) := by decide +kernel
theorem dX3_readNumbersAndEnd_61 : decode cX3_readNumbersAndEnd 61 = .ok (.ireturn, 1) := by decide +kernel
theorem dX3_readSign_0 : decode cX3_readSign 0 = .ok (.aload_n 0, 1) := by decide +kernel
theorem dX3_readSign_1 : decode cX3_readSign 1 = .ok (.getfield 41, 3) := by decide +kernel
theorem dX3_readSign_4 : decode cX3_readSign 4 = .ok (.aload_n 0, 1) := by decide +kernel
theorem dX3_readSign_5 : decode cX3_readSign 5 = .ok (.getfield 19, 3) := by decide +kernel
theorem dX3_readSign_8 : decode cX3_readSign 8 = .ok (.if_icmp .ge 16, 3) := by decide +kernel
theorem dX3_readSign_11 : decode cX3_readSign 11 = .ok (.aload_n 0, 1) := by decide +kernel
theorem dX3_readSign_12 : decode cX3_readSign 12 = .ok (.getfield 9, 3) := by decide +kernel
theorem dX3_readSign_15 : decode cX3_readSign 15 = .ok (.aload_n 0, 1) := by decide +kernel
theorem dX3_readSign_16 : decode cX3_readSign 16 = .ok (.getfield 41, 3) := by decide +kernel
theorem dX3_readSign_19 : decode cX3_readSign 19 = .ok (.caload, 1) := by decide +kernel
theorem dX3_readSign_20 : decode cX3_readSign 20 = .ok (.iload_n 1, 1) := by decide +kernel
theorem dX3_readSign_21 : decode cX3_readSign 21 = .ok (.if_icmp .eq 5, 3) := by decide +kernel
theorem dX3_readSign_24 : decode cX3_readSign 24 = .ok (.iconst 0, 1) := by decide +kernel
theorem dX3_readSign_25 : decode cX3_readSign 25 = .ok (.ireturn, 1) := by decide +kernel
theorem dX3_readSign_26 : decode cX3_readSign 26 = .ok (.aload_n 0, 1) := by decide +kernel
theorem dX3_readSign_27 : decode cX3_readSign 27 = .ok (.dup, 1) := by decide +kernel
theorem dX3_readSign_28 : decode cX3_readSign 28 = .ok (.getfield 41, 3) := by decide +kernel
theorem dX3_readSign_31 : decode cX3_readSign 31 = .ok (.iconst 1, 1) := by decide +kernel
theorem dX3_readSign_32 : decode cX3_readSign 32 = .ok (.iadd, 1) := by decide +kernel
theorem dX3_readSign_33 : decode cX3_readSign 33 = .ok (.putfield 41, 3) := by decide +kernel
theorem dX3_readSign_36 : decode cX3_readSign 36 = .ok (.iconst 1, 1) := by decide +kernel
theorem dX3_readSign_37 : decode cX3_readSign 37 = .ok (.ireturn, 1) := by decide +kernel
theorem dX3_readWord_0 : decode cX3_readWord 0 = .ok (.aload_n 0, 1) := by decide +kernel
theorem dX3_readWord_1 : decode cX3_readWord 1 = .ok (.aload_n 0, 1) := by decide +kernel
theorem dX3_readWord_2 : decode cX3_readWord 2 = .ok (.getfield 41, 3) := by decide +kernel
theorem dX3_readWord_5 : decode cX3_readWord 5 = .ok (.putfield 102, 3) := by decide +kernel
theorem dX3_readWord_8 : decode cX3_readWord 8 = .ok (.aload_n 0, 1) := by decide +kernel
theorem dX3_readWord_9 : decode cX3_readWord 9 = .ok (.getfield 41, 3) := by decide +kernel
theorem dX3_readWord_12 : decode cX3_readWord 12 = .ok (.aload_n 0, 1) := by decide +kernel
theorem dX3_readWord_13 : decode cX3_readWord 13 = .ok (.getfield 19, 3) := by decide +kernel
theorem dX3_readWord_16 : decode cX3_readWord 16 = .ok (.if_icmp .ge 44, 3) := by decide +kernel
theorem dX3_readWord_19 : decode cX3_readWord 19 = .ok (.aload_n 0, 1) := by decide +kernel
theorem dX3_readWord_20 : decode cX3_readWord 20 = .ok (.getfield 9, 3) := by decide +kernel
theorem dX3_readWord_23 : decode cX3_readWord 23 = .ok (.aload_n 0, 1) := by decide +kernel
theorem dX3_readWord_24 : decode cX3_readWord 24 = .ok (.getfield 41, 3) := by decide +kernel
theorem dX3_readWord_27 : decode cX3_readWord 27 = .ok (.caload, 1) := by decide +kernel
theorem dX3_readWord_28 : decode cX3_readWord 28 = .ok (.bipush 32, 2) := by decide +kernel
theorem dX3_readWord_30 : decode cX3_readWord 30 = .ok (.if_icmp .eq 30, 3) := by decide +kernel
theorem dX3_readWord_33 : decode cX3_readWord 33 = .ok (.aload_n 0, 1) := by decide +kernel
theorem dX3_readWord_34 : decode cX3_readWord 34 = .ok (.getfield 9, 3) := by decide +kernel
theorem dX3_readWord_37 : decode cX3_readWord 37 = .ok (.aload_n 0, 1) := by decide +kernel
theorem dX3_readWord_38 : decode cX3_readWord 38 = .ok (.getfield 41, 3) := by decide +kernel
theorem dX3_readWord_41 : decode cX3_readWord 41 = .ok (.caload, 1) := by decide +kernel
theorem dX3_readWord_42 : decode cX3_readWord 42 = .ok (.bipush 59, 2) := by decide +kernel
theorem dX3_readWord_44 : decode cX3_readWord 44 = .ok (.if_icmp .eq 16, 3) := by decide +kernel
theorem dX3_readWord_47 : decode cX3_readWord 47 = .ok (.aload_n 0, 1) := by decide +kernel
theorem dX3_readWord_48 : decode cX3_readWord 48 = .ok (.dup, 1) := by decide +kernel
theorem dX3_readWord_49 : decode cX3_readWord 49 = .ok (.getfield 41, 3) := by decide +kernel
theorem dX3_readWord_52 : decode cX3_readWord 52 = .ok (.iconst 1, 1) := by decide +kernel
theorem dX3_readWord_53 : decode cX3_readWord 53 = .ok (.iadd, 1) := by decide +kernel
theorem dX3_readWord_54 : decode cX3_readWord 54 = .ok (.putfield 41, 3) := by decide +kernel
theorem dX3_readWord_57 : decode cX3_readWord 57 = .ok (.goto (-49), 3) := by decide +kernel
theorem dX3_readWord_60 : decode cX3_readWord 60 = .ok (.return_, 1) := by decide +kernel
set_option maxRecDepth 20000 in
theorem ggX3_wordIs_J0_length_8abf5 : GoodIn wsX3_wordIs wsJ0_length_8abf5 := goodIn_r _ [8, 9, 10, 11, 12, 7, 13, 14, 15] (by decide +kernel) (by decide +kernel)
set_option maxRecDepth 20000 in
theorem gX3_wordIs_J0_length_8abf5 : GoodIn wsX3_wordIs (wsV RX3 23 RJ0 yJ0_length_8abf5 wsJ0_length_8abf5) := goodIn_app (goodIn_of _ (by decide +kernel)) ggX3_wordIs_J0_length_8abf5
set_option maxRecDepth 20000 in
theorem ggX3_wordIs_J0_charAt_5068e : GoodIn wsX3_wordIs wsJ0_charAt_5068e := goodIn_r _ [19, 9, 20, 21, 22, 7, 23, 14, 15, 24, 25, 26, 27, 28, 29, 30, 31, 32, 33, 34, 35, 36, 37, 38, 39, 40, 41, 42, 43, 44, 45, 46, 47, 48, 49, 50, 51, 52] (by decide +kernel) (by decide +kernel)
set_option maxRecDepth 20000 in
theorem gX3_wordIs_J0_charAt_5068e : GoodIn wsX3_wordIs (wsV RX3 28 RJ0 yJ0_charAt_5068e wsJ0_charAt_5068e) := goodIn_app (goodIn_of _ (by decide +kernel)) ggX3_wordIs_J0_charAt_5068e
theorem dX3_wordIs_0 : decode cX3_wordIs 0 = .ok (.aload_n 0, 1) := by decide +kernel
theorem dX3_wordIs_1 : decode cX3_wordIs 1 = .ok (.getfield 41, 3) := by decide +kernel
theorem dX3_wordIs_4 : decode cX3_wordIs 4 = .ok (.aload_n 0, 1) := by decide +kernel
theorem dX3_wordIs_5 : decode cX3_wordIs 5 = .ok (.getfield 102, 3) := by decide +kernel
theorem dX3_wordIs_8 : decode cX3_wordIs 8 = .ok (.isub, 1) := by decide +kernel
theorem dX3_wordIs_9 : decode cX3_wordIs 9 = .ok (.aload_n 1, 1) := by decide +kernel
theorem dX3_wordIs_10 : decode cX3_wordIs 10 = .ok (.invokevirtual 23, 3) := by decide +kernel
theorem dX3_wordIs_13 : decode cX3_wordIs 13 = .ok (.if_icmp .eq 5, 3) := by decide +kernel
theorem dX3_wordIs_16 : decode cX3_wordIs 16 = .ok (.iconst 0, 1) := by decide +kernel
theorem dX3_wordIs_17 : decode cX3_wordIs 17 = .ok (.ireturn, 1) := by decide +kernel
theorem dX3_wordIs_18 : decode cX3_wordIs 18 = .ok (.iconst 0, 1) := by decide +kernel
theorem dX3_wordIs_19 : decode cX3_wordIs 19 = .ok (.istore_n 2, 1) := by decide +kernel
theorem dX3_wordIs_20 : decode cX3_wordIs 20 = .ok (.iload_n 2, 1) := by decide +kernel
theorem dX3_wordIs_21 : decode cX3_wordIs 21 = .ok (.aload_n 1, 1) := by decide +kernel
theorem dX3_wordIs_22 : decode cX3_wordIs 22 = .ok (.invokevirtual 23, 3) := by decide +kernel
theorem dX3_wordIs_25 : decode cX3_wordIs 25 = .ok (.if_icmp .ge 30, 3) := by decide +kernel
theorem dX3_wordIs_28 : decode cX3_wordIs 28 = .ok (.aload_n 0, 1) := by decide +kernel
theorem dX3_wordIs_29 : decode cX3_wordIs 29 = .ok (.getfield 9, 3) := by decide +kernel
theorem dX3_wordIs_32 : decode cX3_wordIs 32 = .ok (.aload_n 0, 1) := by decide +kernel
theorem dX3_wordIs_33 : decode cX3_wordIs 33 = .ok (.getfield 102, 3) := by decide +kernel
theorem dX3_wordIs_36 : decode cX3_wordIs 36 = .ok (.iload_n 2, 1) := by decide +kernel
theorem dX3_wordIs_37 : decode cX3_wordIs 37 = .ok (.iadd, 1) := by decide +kernel
theorem dX3_wordIs_38 : decode cX3_wordIs 38 = .ok (.caload, 1) := by decide +kernel
theorem dX3_wordIs_39 : decode cX3_wordIs 39 = .ok (.aload_n 1, 1) := by decide +kernel
theorem dX3_wordIs_40 : decode cX3_wordIs 40 = .ok (.iload_n 2, 1) := by decide +kernel
theorem dX3_wordIs_41 : decode cX3_wordIs 41 = .ok (.invokevirtual 28, 3) := by decide +kernel
theorem dX3_wordIs_44 : decode cX3_wordIs 44 = .ok (.if_icmp .eq 5, 3) := by decide +kernel
theorem dX3_wordIs_47 : decode cX3_wordIs 47 = .ok (.iconst 0, 1) := by decide +kernel
theorem dX3_wordIs_48 : decode cX3_wordIs 48 = .ok (.ireturn, 1) := by decide +kernel
theorem dX3_wordIs_49 : decode cX3_wordIs 49 = .ok (.iinc 2 1, 3) := by decide +kernel
theorem dX3_wordIs_52 : decode cX3_wordIs 52 = .ok (.goto (-32), 3) := by decide +kernel
theorem dX3_wordIs_55 : decode cX3_wordIs 55 = .ok (.iconst 1, 1) := by decide +kernel
theorem dX3_wordIs_56 : decode cX3_wordIs 56 = .ok (.ireturn, 1) := by decide +kernel
set_option maxRecDepth 20000 in
theorem ggX3_wordAsVoice_X3_wordIs : GoodIn wsX3_wordAsVoice wsX3_wordIs := goodIn_r _ [5, 6, 7, 8, 9, 10, 11, 12, 13, 14, 15, 16, 17, 18, 19, 20, 21, 22, 23, 24, 25, 26, 27, 28, 29, 30, 31, 32, 33, 34, 35, 36, 37, 38, 39, 40, 41, 42, 43, 44, 45, 46, 47, 48, 49, 50, 51, 52, 53, 54, 55, 56, 57, 58, 59, 60, 61, 62, 63, 64] (by decide +kernel) (by decide +kernel)
set_option maxRecDepth 20000 in
theorem gX3_wordAsVoice_X3_wordIs : GoodIn wsX3_wordAsVoice (wsV RX3 59 RX3 yX3_wordIs wsX3_wordIs) := goodIn_app (goodIn_of _ (by decide +kernel)) ggX3_wordAsVoice_X3_wordIs
theorem dX3_wordAsVoice_0 : decode cX3_wordAsVoice 0 = .ok (.aload_n 0, 1) := by decide +kernel
theorem dX3_wordAsVoice_1 : decode cX3_wordAsVoice 1 = .ok (.ldc 105, 2) := by decide +kernel
theorem dX3_wordAsVoice_3 : decode cX3_wordAsVoice 3 = .ok (.invokevirtual 59, 3) := by decide +kernel
theorem dX3_wordAsVoice_6 : decode cX3_wordAsVoice 6 = .ok (.ifCond .eq 5, 3) := by decide +kernel
theorem dX3_wordAsVoice_9 : decode cX3_wordAsVoice 9 = .ok (.iconst 0, 1) := by decide +kernel
theorem dX3_wordAsVoice_10 : decode cX3_wordAsVoice 10 = .ok (.ireturn, 1) := by decide +kernel
theorem dX3_wordAsVoice_11 : decode cX3_wordAsVoice 11 = .ok (.aload_n 0, 1) := by decide +kernel
theorem dX3_wordAsVoice_12 : decode cX3_wordAsVoice 12 = .ok (.ldc 107, 2) := by decide +kernel
theorem dX3_wordAsVoice_14 : decode cX3_wordAsVoice 14 = .ok (.invokevirtual 59, 3) := by decide +kernel
theorem dX3_wordAsVoice_17 : decode cX3_wordAsVoice 17 = .ok (.ifCond .eq 5, 3) := by decide +kernel
theorem dX3_wordAsVoice_20 : decode cX3_wordAsVoice 20 = .ok (.iconst 1, 1) := by decide +kernel
theorem dX3_wordAsVoice_21 : decode cX3_wordAsVoice 21 = .ok (.ireturn, 1) := by decide +kernel
theorem dX3_wordAsVoice_22 : decode cX3_wordAsVoice 22 = .ok (.aload_n 0, 1) := by decide +kernel
theorem dX3_wordAsVoice_23 : decode cX3_wordAsVoice 23 = .ok (.ldc 109, 2) := by decide +kernel
theorem dX3_wordAsVoice_25 : decode cX3_wordAsVoice 25 = .ok (.invokevirtual 59, 3) := by decide +kernel
theorem dX3_wordAsVoice_28 : decode cX3_wordAsVoice 28 = .ok (.ifCond .eq 7, 3) := by decide +kernel
theorem dX3_wordAsVoice_31 : decode cX3_wordAsVoice 31 = .ok (.iconst 2, 1) := by decide +kernel
theorem dX3_wordAsVoice_32 : decode cX3_wordAsVoice 32 = .ok (.goto 4, 3) := by decide +kernel
theorem dX3_wordAsVoice_35 : decode cX3_wordAsVoice 35 = .ok (.iconst (-1), 1) := by decide +kernel
theorem dX3_wordAsVoice_36 : decode cX3_wordAsVoice 36 = .ok (.ireturn, 1) := by decide +kernel
theorem dX3_wordAsNumber_0 : decode cX3_wordAsNumber 0 = .ok (.aload_n 0, 1) := by decide +kernel
theorem dX3_wordAsNumber_1 : decode cX3_wordAsNumber 1 = .ok (.getfield 41, 3) := by decide +kernel
theorem dX3_wordAsNumber_4 : decode cX3_wordAsNumber 4 = .ok (.aload_n 0, 1) := by decide +kernel
theorem dX3_wordAsNumber_5 : decode cX3_wordAsNumber 5 = .ok (.getfield 102, 3) := by decide +kernel
theorem dX3_wordAsNumber_8 : decode cX3_wordAsNumber 8 = .ok (.isub, 1) := by decide +kernel
theorem dX3_wordAsNumber_9 : decode cX3_wordAsNumber 9 = .ok (.istore_n 1, 1) := by decide +kernel
theorem dX3_wordAsNumber_10 : decode cX3_wordAsNumber 10 = .ok (.iload_n 1, 1) := by decide +kernel
theorem dX3_wordAsNumber_11 : decode cX3_wordAsNumber 11 = .ok (.iconst 1, 1) := by decide +kernel
theorem dX3_wordAsNumber_12 : decode cX3_wordAsNumber 12 = .ok (.if_icmp .lt 8, 3) := by decide +kernel
theorem dX3_wordAsNumber_15 : decode cX3_wordAsNumber 15 = .ok (.iload_n 1, 1) := by decide +kernel
theorem dX3_wordAsNumber_16 : decode cX3_wordAsNumber 16 = .ok (.iconst 3, 1) := by decide +kernel
theorem dX3_wordAsNumber_17 : decode cX3_wordAsNumber 17 = .ok (.if_icmp .le 5, 3) := by decide +kernel
theorem dX3_wordAsNumber_20 : decode cX3_wordAsNumber 20 = .ok (.iconst (-1), 1) := by decide +kernel
theorem dX3_wordAsNumber_21 : decode cX3_wordAsNumber 21 = .ok (.ireturn, 1) := by decide +kernel
theorem dX3_wordAsNumber_22 : decode cX3_wordAsNumber 22 = .ok (.iconst 0, 1) := by decide +kernel
theorem dX3_wordAsNumber_23 : decode cX3_wordAsNumber 23 = .ok (.istore_n 2, 1) := by decide +kernel
theorem dX3_wordAsNumber_24 : decode cX3_wordAsNumber 24 = .ok (.aload_n 0, 1) := by decide +kernel
theorem dX3_wordAsNumber_25 : decode cX3_wordAsNumber 25 = .ok (.getfield 102, 3) := by decide +kernel
theorem dX3_wordAsNumber_28 : decode cX3_wordAsNumber 28 = .ok (.istore_n 3, 1) := by decide +kernel
theorem dX3_wordAsNumber_29 : decode cX3_wordAsNumber 29 = .ok (.iload_n 3, 1) := by decide +kernel
theorem dX3_wordAsNumber_30 : decode cX3_wordAsNumber 30 = .ok (.aload_n 0, 1) := by decide +kernel
theorem dX3_wordAsNumber_31 : decode cX3_wordAsNumber 31 = .ok (.getfield 41, 3) := by decide +kernel
theorem dX3_wordAsNumber_34 : decode cX3_wordAsNumber 34 = .ok (.if_icmp .ge 48, 3) := by decide +kernel
theorem dX3_wordAsNumber_37 : decode cX3_wordAsNumber 37 = .ok (.aload_n 0, 1) := by decide +kernel
theorem dX3_wordAsNumber_38 : decode cX3_wordAsNumber 38 = .ok (.getfield 9, 3) := by decide +kernel
theorem dX3_wordAsNumber_41 : decode cX3_wordAsNumber 41 = .ok (.iload_n 3, 1) := by decide +kernel
theorem dX3_wordAsNumber_42 : decode cX3_wordAsNumber 42 = .ok (.caload, 1) := by decide +kernel
theorem dX3_wordAsNumber_43 : decode cX3_wordAsNumber 43 = .ok (.bipush 48, 2) := by decide +kernel
theorem dX3_wordAsNumber_45 : decode cX3_wordAsNumber 45 = .ok (.if_icmp .lt 14, 3) := by decide +kernel
theorem dX3_wordAsNumber_48 : decode cX3_wordAsNumber 48 = .ok (.aload_n 0, 1) := by decide +kernel
theorem dX3_wordAsNumber_49 : decode cX3_wordAsNumber 49 = .ok (.getfield 9, 3) := by decide +kernel
theorem dX3_wordAsNumber_52 : decode cX3_wordAsNumber 52 = .ok (.iload_n 3, 1) := by decide +kernel
theorem dX3_wordAsNumber_53 : decode cX3_wordAsNumber 53 = .ok (.caload, 1) := by decide +kernel
theorem dX3_wordAsNumber_54 : decode cX3_wordAsNumber 54 = .ok (.bipush 57, 2) := by decide +kernel
theorem dX3_wordAsNumber_56 : decode cX3_wordAsNumber 56 = .ok (.if_icmp .le 5, 3) := by decide +kernel
theorem dX3_wordAsNumber_59 : decode cX3_wordAsNumber 59 = .ok (.iconst (-1), 1) := by decide +kernel
theorem dX3_wordAsNumber_60 : decode cX3_wordAsNumber 60 = .ok (.ireturn, 1) := by decide +kernel
theorem dX3_wordAsNumber_61 : decode cX3_wordAsNumber 61 = .ok (.bipush 10, 2) := by decide +kernel
theorem dX3_wordAsNumber_63 : decode cX3_wordAsNumber 63 = .ok (.iload_n 2, 1) := by decide +kernel
theorem dX3_wordAsNumber_64 : decode cX3_wordAsNumber 64 = .ok (.imul, 1) := by decide +kernel
theorem dX3_wordAsNumber_65 : decode cX3_wordAsNumber 65 = .ok (.aload_n 0, 1) := by decide +kernel
theorem dX3_wordAsNumber_66 : decode cX3_wordAsNumber 66 = .ok (.getfield 9, 3) := by decide +kernel
theorem dX3_wordAsNumber_69 : decode cX3_wordAsNumber 69 = .ok (.iload_n 3, 1) := by decide +kernel
theorem dX3_wordAsNumber_70 : decode cX3_wordAsNumber 70 = .ok (.caload, 1) := by decide +kernel
theorem dX3_wordAsNumber_71 : decode cX3_wordAsNumber 71 = .ok (.bipush 48, 2) := by decide +kernel
theorem dX3_wordAsNumber_73 : decode cX3_wordAsNumber 73 = .ok (.isub, 1) := by decide +kernel
theorem dX3_wordAsNumber_74 : decode cX3_wordAsNumber 74 = .ok (.iadd, 1) := by decide +kernel
theorem dX3_wordAsNumber_75 : decode cX3_wordAsNumber 75 = .ok (.istore_n 2, 1) := by decide +kernel
theorem dX3_wordAsNumber_76 : decode cX3_wordAsNumber 76 = .ok (.iinc 3 1, 3) := by decide +kernel
theorem dX3_wordAsNumber_79 : decode cX3_wordAsNumber 79 = .ok (.goto (-50), 3) := by decide +kernel
theorem dX3_wordAsNumber_82 : decode cX3_wordAsNumber 82 = .ok (.iload_n 2, 1) := by decide +kernel
theorem dX3_wordAsNumber_83 : decode cX3_wordAsNumber 83 = .ok (.ireturn, 1) := by decide +kernel
theorem dX4_init_0 : decode cX4_init 0 = .ok (.aload_n 0, 1) := by decide +kernel
theorem dX4_init_1 : decode cX4_init 1 = .ok (.invokespecial 3, 3) := by decide +kernel
theorem dX4_init_4 : decode cX4_init 4 = .ok (.aload_n 0, 1) := by decide +kernel
theorem dX4_init_5 : decode cX4_init 5 = .ok (.bipush 8, 2) := by decide +kernel
theorem dX4_init_7 : decode cX4_init 7 = .ok (.bipush 8, 2) := by decide +kernel
theorem dX4_init_9 : decode cX4_init 9 = .ok (.multianewarray 9 2, 4) := by decide +kernel
theorem dX4_init_13 : decode cX4_init 13 = .ok (.putfield 11, 3) := by decide +kernel
theorem dX4_init_16 : decode cX4_init 16 = .ok (.aload_n 0, 1) := by decide +kernel
theorem dX4_init_17 : decode cX4_init 17 = .ok (.aload_n 1, 1) := by decide +kernel
theorem dX4_init_18 : decode cX4_init 18 = .ok (.putfield 16, 3) := by decide +kernel
theorem dX4_init_21 : decode cX4_init 21 = .ok (.return_, 1) := by decide +kernel
set_option maxRecDepth 20000 in
theorem ggX4_measure_X4_compare : GoodIn wsX4_measure wsX4_compare := goodIn_r _ [8, 2, 9, 1, 10, 11, 12, 13, 14, 7, 15, 16, 17, 18, 19, 20, 21, 22, 23, 24, 25, 26, 27, 28, 29, 30, 31, 32, 33, 34, 35, 36, 37, 38] (by decide +kernel) (by decide +kernel)
set_option maxRecDepth 20000 in
theorem gX4_measure_X4_compare : GoodIn wsX4_measure (wsV RX4 26 RX4 yX4_compare wsX4_compare) := goodIn_app (goodIn_of _ (by decide +kernel)) ggX4_measure_X4_compare
theorem dX4_measure_0 : decode cX4_measure 0 = .ok (.iconst 0, 1) := by decide +kernel
theorem dX4_measure_1 : decode cX4_measure 1 = .ok (.istore_n 1, 1) := by decide +kernel
theorem dX4_measure_2 : decode cX4_measure 2 = .ok (.iload_n 1, 1) := by decide +kernel
theorem dX4_measure_3 : decode cX4_measure 3 = .ok (.bipush 8, 2) := by decide +kernel
theorem dX4_measure_5 : decode cX4_measure 5 = .ok (.if_icmp .ge 34, 3) := by decide +kernel
theorem dX4_measure_8 : decode cX4_measure 8 = .ok (.iconst 0, 1) := by decide +kernel
theorem dX4_measure_9 : decode cX4_measure 9 = .ok (.istore_n 2, 1) := by decide +kernel
theorem dX4_measure_10 : decode cX4_measure 10 = .ok (.iload_n 2, 1) := by decide +kernel
theorem dX4_measure_11 : decode cX4_measure 11 = .ok (.bipush 8, 2) := by decide +kernel
theorem dX4_measure_13 : decode cX4_measure 13 = .ok (.if_icmp .ge 20, 3) := by decide +kernel
theorem dX4_measure_16 : decode cX4_measure 16 = .ok (.aload_n 0, 1) := by decide +kernel
theorem dX4_measure_17 : decode cX4_measure 17 = .ok (.getfield 11, 3) := by decide +kernel
theorem dX4_measure_20 : decode cX4_measure 20 = .ok (.iload_n 1, 1) := by decide +kernel
theorem dX4_measure_21 : decode cX4_measure 21 = .ok (.aaload, 1) := by decide +kernel
theorem dX4_measure_22 : decode cX4_measure 22 = .ok (.iload_n 2, 1) := by decide +kernel
theorem dX4_measure_23 : decode cX4_measure 23 = .ok (.sipush (-1004), 3) := by decide +kernel
theorem dX4_measure_26 : decode cX4_measure 26 = .ok (.iastore, 1) := by decide +kernel
theorem dX4_measure_27 : decode cX4_measure 27 = .ok (.iinc 2 1, 3) := by decide +kernel
theorem dX4_measure_30 : decode cX4_measure 30 = .ok (.goto (-20), 3) := by decide +kernel
theorem dX4_measure_33 : decode cX4_measure 33 = .ok (.iinc 1 1, 3) := by decide +kernel
theorem dX4_measure_36 : decode cX4_measure 36 = .ok (.goto (-34), 3) := by decide +kernel
theorem dX4_measure_39 : decode cX4_measure 39 = .ok (.iconst 1, 1) := by decide +kernel
theorem dX4_measure_40 : decode cX4_measure 40 = .ok (.istore_n 1, 1) := by decide +kernel
theorem dX4_measure_41 : decode cX4_measure 41 = .ok (.iload_n 1, 1) := by decide +kernel
theorem dX4_measure_42 : decode cX4_measure 42 = .ok (.aload_n 0, 1) := by decide +kernel
theorem dX4_measure_43 : decode cX4_measure 43 = .ok (.getfield 16, 3) := by decide +kernel
theorem dX4_measure_46 : decode cX4_measure 46 = .ok (.getfield 20, 3) := by decide +kernel
theorem dX4_measure_49 : decode cX4_measure 49 = .ok (.if_icmp .ge 28, 3) := by decide +kernel
theorem dX4_measure_52 : decode cX4_measure 52 = .ok (.iconst 0, 1) := by decide +kernel
theorem dX4_measure_53 : decode cX4_measure 53 = .ok (.istore_n 2, 1) := by decide +kernel
theorem dX4_measure_54 : decode cX4_measure 54 = .ok (.iload_n 2, 1) := by decide +kernel
theorem dX4_measure_55 : decode cX4_measure 55 = .ok (.iload_n 1, 1) := by decide +kernel
theorem dX4_measure_56 : decode cX4_measure 56 = .ok (.if_icmp .ge 15, 3) := by decide +kernel
theorem dX4_measure_59 : decode cX4_measure 59 = .ok (.aload_n 0, 1) := by decide +kernel
theorem dX4_measure_60 : decode cX4_measure 60 = .ok (.iload_n 1, 1) := by decide +kernel
theorem dX4_measure_61 : decode cX4_measure 61 = .ok (.iload_n 2, 1) := by decide +kernel
theorem dX4_measure_62 : decode cX4_measure 62 = .ok (.invokevirtual 26, 3) := by decide +kernel
theorem dX4_measure_65 : decode cX4_measure 65 = .ok (.iinc 2 1, 3) := by decide +kernel
theorem dX4_measure_68 : decode cX4_measure 68 = .ok (.goto (-14), 3) := by decide +kernel
theorem dX4_measure_71 : decode cX4_measure 71 = .ok (.iinc 1 1, 3) := by decide +kernel
theorem dX4_measure_74 : decode cX4_measure 74 = .ok (.goto (-33), 3) := by decide +kernel
theorem dX4_measure_77 : decode cX4_measure 77 = .ok (.return_, 1) := by decide +kernel
set_option maxRecDepth 20000 in
theorem ggX4_compare_X4_slackFrom : GoodIn wsX4_compare wsX4_slackFrom := goodIn_r _ [10, 1, 11, 2, 12, 5, 4, 20, 21, 22, 23, 24, 25, 26, 27, 28, 29, 30, 31, 32, 33] (by decide +kernel) (by decide +kernel)
set_option maxRecDepth 20000 in
theorem gX4_compare_X4_slackFrom : GoodIn wsX4_compare (wsV RX4 40 RX4 yX4_slackFrom wsX4_slackFrom) := goodIn_app (goodIn_of _ (by decide +kernel)) ggX4_compare_X4_slackFrom
set_option maxRecDepth 20000 in
theorem ggX4_compare_X5_lesserSlack : GoodIn wsX4_compare wsX5_lesserSlack := goodIn_r _ [15, 16, 17, 18, 19] (by decide +kernel) (by decide +kernel)
set_option maxRecDepth 20000 in
theorem gX4_compare_X5_lesserSlack_n44 : GoodIn wsX4_compare (wsX5_lesserSlack) := ggX4_compare_X5_lesserSlack
