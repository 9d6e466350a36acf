theorem dX6_enters_5 : decode cX6_enters 5 = .ok (.bipush 45, 2) := by decide +kernel
theorem dX6_enters_7 : decode cX6_enters 7 = .ok (.iconst 4, 1) := by decide +kernel
theorem dX6_enters_8 : decode cX6_enters 8 = .ok (.iload_n 1, 1) := by decide +kernel
theorem dX6_enters_9 : decode cX6_enters 9 = .ok (.imul, 1) := by decide +kernel
theorem dX6_enters_10 : decode cX6_enters 10 = .ok (.iadd, 1) := by decide +kernel
theorem dX6_enters_11 : decode cX6_enters 11 = .ok (.iconst 1, 1) := by decide +kernel
theorem dX6_enters_12 : decode cX6_enters 12 = .ok (.iadd, 1) := by decide +kernel
theorem dX6_enters_13 : decode cX6_enters 13 = .ok (.iaload, 1) := by decide +kernel
theorem dX6_enters_14 : decode cX6_enters 14 = .ok (.invokevirtual 137, 3) := by decide +kernel
theorem dX6_enters_17 : decode cX6_enters 17 = .ok (.aload_n 0, 1) := by decide +kernel
theorem dX6_enters_18 : decode cX6_enters 18 = .ok (.getfield 7, 3) := by decide +kernel
theorem dX6_enters_21 : decode cX6_enters 21 = .ok (.bipush 45, 2) := by decide +kernel
theorem dX6_enters_23 : decode cX6_enters 23 = .ok (.iconst 4, 1) := by decide +kernel
theorem dX6_enters_24 : decode cX6_enters 24 = .ok (.iload_n 1, 1) := by decide +kernel
theorem dX6_enters_25 : decode cX6_enters 25 = .ok (.imul, 1) := by decide +kernel
theorem dX6_enters_26 : decode cX6_enters 26 = .ok (.iadd, 1) := by decide +kernel
theorem dX6_enters_27 : decode cX6_enters 27 = .ok (.iconst 2, 1) := by decide +kernel
theorem dX6_enters_28 : decode cX6_enters 28 = .ok (.iadd, 1) := by decide +kernel
theorem dX6_enters_29 : decode cX6_enters 29 = .ok (.iaload, 1) := by decide +kernel
theorem dX6_enters_30 : decode cX6_enters 30 = .ok (.iadd, 1) := by decide +kernel
theorem dX6_enters_31 : decode cX6_enters 31 = .ok (.ireturn, 1) := by decide +kernel
set_option maxRecDepth 20000 in
theorem ggX6_exits_X6_sceneStart : GoodIn wsX6_exits wsX6_sceneStart := goodIn_r _ [6, 1, 7, 8, 9, 10, 11, 12, 13, 14, 15, 16] (by decide +kernel) (by decide +kernel)
set_option maxRecDepth 20000 in
theorem gX6_exits_X6_sceneStart : GoodIn wsX6_exits (wsV RX6 137 RX6 yX6_sceneStart wsX6_sceneStart) := goodIn_app (goodIn_of _ (by decide +kernel)) ggX6_exits_X6_sceneStart
theorem dX6_exits_0 : decode cX6_exits 0 = .ok (.aload_n 0, 1) := by decide +kernel
theorem dX6_exits_1 : decode cX6_exits 1 = .ok (.aload_n 0, 1) := by decide +kernel
theorem dX6_exits_2 : decode cX6_exits 2 = .ok (.getfield 7, 3) := by decide +kernel
theorem dX6_exits_5 : decode cX6_exits 5 = .ok (.bipush 45, 2) := by decide +kernel
theorem dX6_exits_7 : decode cX6_exits 7 = .ok (.iconst 4, 1) := by decide +kernel
theorem dX6_exits_8 : decode cX6_exits 8 = .ok (.iload_n 1, 1) := by decide +kernel
theorem dX6_exits_9 : decode cX6_exits 9 = .ok (.imul, 1) := by decide +kernel
theorem dX6_exits_10 : decode cX6_exits 10 = .ok (.iadd, 1) := by decide +kernel
theorem dX6_exits_11 : decode cX6_exits 11 = .ok (.iconst 1, 1) := by decide +kernel
theorem dX6_exits_12 : decode cX6_exits 12 = .ok (.iadd, 1) := by decide +kernel
theorem dX6_exits_13 : decode cX6_exits 13 = .ok (.iaload, 1) := by decide +kernel
theorem dX6_exits_14 : decode cX6_exits 14 = .ok (.invokevirtual 137, 3) := by decide +kernel
theorem dX6_exits_17 : decode cX6_exits 17 = .ok (.aload_n 0, 1) := by decide +kernel
theorem dX6_exits_18 : decode cX6_exits 18 = .ok (.getfield 7, 3) := by decide +kernel
theorem dX6_exits_21 : decode cX6_exits 21 = .ok (.bipush 45, 2) := by decide +kernel
theorem dX6_exits_23 : decode cX6_exits 23 = .ok (.iconst 4, 1) := by decide +kernel
theorem dX6_exits_24 : decode cX6_exits 24 = .ok (.iload_n 1, 1) := by decide +kernel
theorem dX6_exits_25 : decode cX6_exits 25 = .ok (.imul, 1) := by decide +kernel
theorem dX6_exits_26 : decode cX6_exits 26 = .ok (.iadd, 1) := by decide +kernel
theorem dX6_exits_27 : decode cX6_exits 27 = .ok (.iconst 3, 1) := by decide +kernel
theorem dX6_exits_28 : decode cX6_exits 28 = .ok (.iadd, 1) := by decide +kernel
theorem dX6_exits_29 : decode cX6_exits 29 = .ok (.iaload, 1) := by decide +kernel
theorem dX6_exits_30 : decode cX6_exits 30 = .ok (.iadd, 1) := by decide +kernel
theorem dX6_exits_31 : decode cX6_exits 31 = .ok (.ireturn, 1) := by decide +kernel
set_option maxRecDepth 20000 in
theorem ggX6_rolesAt_X6_enters : GoodIn wsX6_rolesAt wsX6_enters := goodIn_r _ [6, 1, 7, 8, 9, 5, 10, 19, 20, 21, 22, 23, 24, 25, 26, 27, 28] (by decide +kernel) (by decide +kernel)
set_option maxRecDepth 20000 in
theorem gX6_rolesAt_X6_enters : GoodIn wsX6_rolesAt (wsV RX6 140 RX6 yX6_enters wsX6_enters) := goodIn_app (goodIn_of _ (by decide +kernel)) ggX6_rolesAt_X6_enters
set_option maxRecDepth 20000 in
theorem ggX6_rolesAt_X6_exits : GoodIn wsX6_rolesAt wsX6_exits := goodIn_r _ [14, 1, 7, 8, 9, 5, 10, 19, 20, 21, 22, 23, 24, 25, 26, 27, 28] (by decide +kernel) (by decide +kernel)
set_option maxRecDepth 20000 in
theorem gX6_rolesAt_X6_exits : GoodIn wsX6_rolesAt (wsV RX6 143 RX6 yX6_exits wsX6_exits) := goodIn_app (goodIn_of _ (by decide +kernel)) ggX6_rolesAt_X6_exits
set_option maxRecDepth 20000 in
theorem ggX6_rolesAt_X6_roleOf : GoodIn wsX6_rolesAt wsX6_roleOf := goodIn_r _ [18, 1, 19, 20, 21, 22, 23, 24, 25, 26, 27, 28] (by decide +kernel) (by decide +kernel)
set_option maxRecDepth 20000 in
theorem gX6_rolesAt_X6_roleOf : GoodIn wsX6_rolesAt (wsV RX6 146 RX6 yX6_roleOf wsX6_roleOf) := goodIn_app (goodIn_of _ (by decide +kernel)) ggX6_rolesAt_X6_roleOf
theorem dX6_rolesAt_0 : decode cX6_rolesAt 0 = .ok (.iconst 0, 1) := by decide +kernel
theorem dX6_rolesAt_1 : decode cX6_rolesAt 1 = .ok (.istore_n 2, 1) := by decide +kernel
theorem dX6_rolesAt_2 : decode cX6_rolesAt 2 = .ok (.iconst 0, 1) := by decide +kernel
theorem dX6_rolesAt_3 : decode cX6_rolesAt 3 = .ok (.istore_n 3, 1) := by decide +kernel
theorem dX6_rolesAt_4 : decode cX6_rolesAt 4 = .ok (.iload_n 3, 1) := by decide +kernel
theorem dX6_rolesAt_5 : decode cX6_rolesAt 5 = .ok (.aload_n 0, 1) := by decide +kernel
theorem dX6_rolesAt_6 : decode cX6_rolesAt 6 = .ok (.getfield 7, 3) := by decide +kernel
theorem dX6_rolesAt_9 : decode cX6_rolesAt 9 = .ok (.bipush 44, 2) := by decide +kernel
theorem dX6_rolesAt_11 : decode cX6_rolesAt 11 = .ok (.iaload, 1) := by decide +kernel
theorem dX6_rolesAt_12 : decode cX6_rolesAt 12 = .ok (.if_icmp .ge 41, 3) := by decide +kernel
theorem dX6_rolesAt_15 : decode cX6_rolesAt 15 = .ok (.iload_n 2, 1) := by decide +kernel
theorem dX6_rolesAt_16 : decode cX6_rolesAt 16 = .ok (.aload_n 0, 1) := by decide +kernel
theorem dX6_rolesAt_17 : decode cX6_rolesAt 17 = .ok (.iload_n 3, 1) := by decide +kernel
theorem dX6_rolesAt_18 : decode cX6_rolesAt 18 = .ok (.invokevirtual 140, 3) := by decide +kernel
theorem dX6_rolesAt_21 : decode cX6_rolesAt 21 = .ok (.iload_n 1, 1) := by decide +kernel
theorem dX6_rolesAt_22 : decode cX6_rolesAt 22 = .ok (.if_icmp .gt 22, 3) := by decide +kernel
theorem dX6_rolesAt_25 : decode cX6_rolesAt 25 = .ok (.iload_n 1, 1) := by decide +kernel
theorem dX6_rolesAt_26 : decode cX6_rolesAt 26 = .ok (.aload_n 0, 1) := by decide +kernel
theorem dX6_rolesAt_27 : decode cX6_rolesAt 27 = .ok (.iload_n 3, 1) := by decide +kernel
theorem dX6_rolesAt_28 : decode cX6_rolesAt 28 = .ok (.invokevirtual 143, 3) := by decide +kernel
theorem dX6_rolesAt_31 : decode cX6_rolesAt 31 = .ok (.if_icmp .ge 13, 3) := by decide +kernel
theorem dX6_rolesAt_34 : decode cX6_rolesAt 34 = .ok (.iconst 1, 1) := by decide +kernel
theorem dX6_rolesAt_35 : decode cX6_rolesAt 35 = .ok (.aload_n 0, 1) := by decide +kernel
theorem dX6_rolesAt_36 : decode cX6_rolesAt 36 = .ok (.iload_n 3, 1) := by decide +kernel
theorem dX6_rolesAt_37 : decode cX6_rolesAt 37 = .ok (.invokevirtual 146, 3) := by decide +kernel
theorem dX6_rolesAt_40 : decode cX6_rolesAt 40 = .ok (.ishl, 1) := by decide +kernel
theorem dX6_rolesAt_41 : decode cX6_rolesAt 41 = .ok (.goto 4, 3) := by decide +kernel
theorem dX6_rolesAt_44 : decode cX6_rolesAt 44 = .ok (.iconst 0, 1) := by decide +kernel
theorem dX6_rolesAt_45 : decode cX6_rolesAt 45 = .ok (.ior, 1) := by decide +kernel
theorem dX6_rolesAt_46 : decode cX6_rolesAt 46 = .ok (.istore_n 2, 1) := by decide +kernel
theorem dX6_rolesAt_47 : decode cX6_rolesAt 47 = .ok (.iinc 3 1, 3) := by decide +kernel
theorem dX6_rolesAt_50 : decode cX6_rolesAt 50 = .ok (.goto (-46), 3) := by decide +kernel
theorem dX6_rolesAt_53 : decode cX6_rolesAt 53 = .ok (.iload_n 2, 1) := by decide +kernel
theorem dX6_rolesAt_54 : decode cX6_rolesAt 54 = .ok (.ireturn, 1) := by decide +kernel
set_option maxRecDepth 20000 in
theorem ggX6_onStage_X6_playLength : GoodIn wsX6_onStage wsX6_playLength := goodIn_r _ [5, 6, 7, 8, 9, 4, 10, 30, 31, 32, 33, 34, 35, 36, 37, 38, 39] (by decide +kernel) (by decide +kernel)
set_option maxRecDepth 20000 in
theorem gX6_onStage_X6_playLength : GoodIn wsX6_onStage (wsV RX6 149 RX6 yX6_playLength wsX6_playLength) := goodIn_app (goodIn_of _ (by decide +kernel)) ggX6_onStage_X6_playLength
set_option maxRecDepth 20000 in
theorem ggX6_onStage_X6_in : GoodIn wsX6_onStage wsX6_in := goodIn_r _ [13] (by decide +kernel) (by decide +kernel)
set_option maxRecDepth 20000 in
theorem gX6_onStage_X6_in : GoodIn wsX6_onStage (va_wsS RX6 44 yX6_in wsX6_in) := goodIn_app (goodIn_of _ (by decide +kernel)) ggX6_onStage_X6_in
set_option maxRecDepth 20000 in
theorem ggX6_onStage_X6_rolesAt : GoodIn wsX6_onStage wsX6_rolesAt := goodIn_r _ [17, 6, 18, 19, 20, 4, 21, 7, 8, 9, 10, 22, 23, 24, 25, 26, 27, 28, 29, 30, 31, 32, 33, 34, 35, 36, 37, 38, 39] (by decide +kernel) (by decide +kernel)
set_option maxRecDepth 20000 in
theorem gX6_onStage_X6_rolesAt : GoodIn wsX6_onStage (wsV RX6 152 RX6 yX6_rolesAt wsX6_rolesAt) := goodIn_app (goodIn_of _ (by decide +kernel)) ggX6_onStage_X6_rolesAt
theorem dX6_onStage_0 : decode cX6_onStage 0 = .ok (.iload_n 1, 1) := by decide +kernel
theorem dX6_onStage_1 : decode cX6_onStage 1 = .ok (.i2l, 1) := by decide +kernel
theorem dX6_onStage_2 : decode cX6_onStage 2 = .ok (.lconst 0, 1) := by decide +kernel
theorem dX6_onStage_3 : decode cX6_onStage 3 = .ok (.aload_n 0, 1) := by decide +kernel
theorem dX6_onStage_4 : decode cX6_onStage 4 = .ok (.invokevirtual 149, 3) := by decide +kernel
theorem dX6_onStage_7 : decode cX6_onStage 7 = .ok (.iconst 1, 1) := by decide +kernel
theorem dX6_onStage_8 : decode cX6_onStage 8 = .ok (.isub, 1) := by decide +kernel
theorem dX6_onStage_9 : decode cX6_onStage 9 = .ok (.i2l, 1) := by decide +kernel
theorem dX6_onStage_10 : decode cX6_onStage 10 = .ok (.invokestatic 44, 3) := by decide +kernel
theorem dX6_onStage_13 : decode cX6_onStage 13 = .ok (.ifCond .eq 11, 3) := by decide +kernel
theorem dX6_onStage_16 : decode cX6_onStage 16 = .ok (.aload_n 0, 1) := by decide +kernel
theorem dX6_onStage_17 : decode cX6_onStage 17 = .ok (.iload_n 1, 1) := by decide +kernel
theorem dX6_onStage_18 : decode cX6_onStage 18 = .ok (.invokevirtual 152, 3) := by decide +kernel
theorem dX6_onStage_21 : decode cX6_onStage 21 = .ok (.goto 6, 3) := by decide +kernel
theorem dX6_onStage_24 : decode cX6_onStage 24 = .ok (.sipush (-1001), 3) := by decide +kernel
theorem dX6_onStage_27 : decode cX6_onStage 27 = .ok (.ireturn, 1) := by decide +kernel
set_option maxRecDepth 20000 in
theorem ggX6_peak_X6_enters : GoodIn wsX6_peak wsX6_enters := goodIn_r _ [6, 1, 7, 8, 9, 5, 10, 26, 27, 28, 29, 30, 31, 32, 33, 34, 35] (by decide +kernel) (by decide +kernel)
set_option maxRecDepth 20000 in
theorem gX6_peak_X6_enters : GoodIn wsX6_peak (wsV RX6 140 RX6 yX6_enters wsX6_enters) := goodIn_app (goodIn_of _ (by decide +kernel)) ggX6_peak_X6_enters
set_option maxRecDepth 20000 in
theorem ggX6_peak_X6_rolesAt : GoodIn wsX6_peak wsX6_rolesAt := goodIn_r _ [14, 1, 2, 3, 4, 5, 6, 7, 8, 9, 10, 15, 16, 17, 18, 19, 20, 21, 22, 26, 27, 28, 29, 30, 31, 32, 33, 34, 35] (by decide +kernel) (by decide +kernel)
set_option maxRecDepth 20000 in
theorem gX6_peak_X6_rolesAt : GoodIn wsX6_peak (wsV RX6 152 RX6 yX6_rolesAt wsX6_rolesAt) := goodIn_app (goodIn_of _ (by decide +kernel)) ggX6_peak_X6_rolesAt
set_option maxRecDepth 20000 in
theorem ggX6_peak_X6_ones : GoodIn wsX6_peak wsX6_ones := goodIn_r _ [25] (by decide +kernel) (by decide +kernel)
set_option maxRecDepth 20000 in
theorem gX6_peak_X6_ones : GoodIn wsX6_peak (va_wsS RX6 131 yX6_ones wsX6_ones) := goodIn_app (goodIn_of _ (by decide +kernel)) ggX6_peak_X6_ones
theorem dX6_peak_0 : decode cX6_peak 0 = .ok (.iconst 0, 1) := by decide +kernel
theorem dX6_peak_1 : decode cX6_peak 1 = .ok (.istore_n 1, 1) := by decide +kernel
theorem dX6_peak_2 : decode cX6_peak 2 = .ok (.iconst 0, 1) := by decide +kernel
theorem dX6_peak_3 : decode cX6_peak 3 = .ok (.istore_n 2, 1) := by decide +kernel
theorem dX6_peak_4 : decode cX6_peak 4 = .ok (.iload_n 2, 1) := by decide +kernel
theorem dX6_peak_5 : decode cX6_peak 5 = .ok (.aload_n 0, 1) := by decide +kernel
theorem dX6_peak_6 : decode cX6_peak 6 = .ok (.getfield 7, 3) := by decide +kernel
theorem dX6_peak_9 : decode cX6_peak 9 = .ok (.bipush 44, 2) := by decide +kernel
theorem dX6_peak_11 : decode cX6_peak 11 = .ok (.iaload, 1) := by decide +kernel
theorem dX6_peak_12 : decode cX6_peak 12 = .ok (.if_icmp .ge 33, 3) := by decide +kernel
theorem dX6_peak_15 : decode cX6_peak 15 = .ok (.aload_n 0, 1) := by decide +kernel
theorem dX6_peak_16 : decode cX6_peak 16 = .ok (.aload_n 0, 1) := by decide +kernel
theorem dX6_peak_17 : decode cX6_peak 17 = .ok (.iload_n 2, 1) := by decide +kernel
theorem dX6_peak_18 : decode cX6_peak 18 = .ok (.invokevirtual 140, 3) := by decide +kernel
theorem dX6_peak_21 : decode cX6_peak 21 = .ok (.invokevirtual 152, 3) := by decide +kernel
theorem dX6_peak_24 : decode cX6_peak 24 = .ok (.invokestatic 131, 3) := by decide +kernel
theorem dX6_peak_27 : decode cX6_peak 27 = .ok (.istore_n 3, 1) := by decide +kernel
theorem dX6_peak_28 : decode cX6_peak 28 = .ok (.iload_n 3, 1) := by decide +kernel
theorem dX6_peak_29 : decode cX6_peak 29 = .ok (.iload_n 1, 1) := by decide +kernel
theorem dX6_peak_30 : decode cX6_peak 30 = .ok (.if_icmp .le 7, 3) := by decide +kernel
theorem dX6_peak_33 : decode cX6_peak 33 = .ok (.iload_n 3, 1) := by decide +kernel
theorem dX6_peak_34 : decode cX6_peak 34 = .ok (.goto 4, 3) := by decide +kernel
theorem dX6_peak_37 : decode cX6_peak 37 = .ok (.iload_n 1, 1) := by decide +kernel
theorem dX6_peak_38 : decode cX6_peak 38 = .ok (.istore_n 1, 1) := by decide +kernel
theorem dX6_peak_39 : decode cX6_peak 39 = .ok (.iinc 2 1, 3) := by decide +kernel
theorem dX6_peak_42 : decode cX6_peak 42 = .ok (.goto (-38), 3) := by decide +kernel
theorem dX6_peak_45 : decode cX6_peak 45 = .ok (.iload_n 1, 1) := by decide +kernel
theorem dX6_peak_46 : decode cX6_peak 46 = .ok (.ireturn, 1) := by decide +kernel
set_option maxRecDepth 20000 in
theorem ggX6_rolesInScene_X6_isScene : GoodIn wsX6_rolesInScene wsX6_isScene := goodIn_r _ [6, 1, 7, 8, 5, 9, 14, 15, 16, 17, 18, 19, 20, 21, 22, 23] (by decide +kernel) (by decide +kernel)
set_option maxRecDepth 20000 in
theorem gX6_rolesInScene_X6_isScene : GoodIn wsX6_rolesInScene (wsV RX6 113 RX6 yX6_isScene wsX6_isScene) := goodIn_app (goodIn_of _ (by decide +kernel)) ggX6_rolesInScene_X6_isScene
set_option maxRecDepth 20000 in
theorem ggX6_rolesInScene_X6_roleOf : GoodIn wsX6_rolesInScene wsX6_roleOf := goodIn_r _ [13, 1, 14, 15, 16, 17, 18, 19, 20, 21, 22, 23] (by decide +kernel) (by decide +kernel)
set_option maxRecDepth 20000 in
theorem gX6_rolesInScene_X6_roleOf : GoodIn wsX6_rolesInScene (wsV RX6 146 RX6 yX6_roleOf wsX6_roleOf) := goodIn_app (goodIn_of _ (by decide +kernel)) ggX6_rolesInScene_X6_roleOf
theorem dX6_rolesInScene_0 : decode cX6_rolesInScene 0 = .ok (.aload_n 0, 1) := by decide +kernel
theorem dX6_rolesInScene_1 : decode cX6_rolesInScene 1 = .ok (.iload_n 1, 1) := by decide +kernel
theorem dX6_rolesInScene_2 : decode cX6_rolesInScene 2 = .ok (.invokevirtual 113, 3) := by decide +kernel
theorem dX6_rolesInScene_5 : decode cX6_rolesInScene 5 = .ok (.ifCond .ne 7, 3) := by decide +kernel
theorem dX6_rolesInScene_8 : decode cX6_rolesInScene 8 = .ok (.sipush (-1001), 3) := by decide +kernel
theorem dX6_rolesInScene_11 : decode cX6_rolesInScene 11 = .ok (.ireturn, 1) := by decide +kernel
theorem dX6_rolesInScene_12 : decode cX6_rolesInScene 12 = .ok (.iconst 0, 1) := by decide +kernel
theorem dX6_rolesInScene_13 : decode cX6_rolesInScene 13 = .ok (.istore_n 2, 1) := by decide +kernel
theorem dX6_rolesInScene_14 : decode cX6_rolesInScene 14 = .ok (.iconst 0, 1) := by decide +kernel
theorem dX6_rolesInScene_15 : decode cX6_rolesInScene 15 = .ok (.istore_n 3, 1) := by decide +kernel
theorem dX6_rolesInScene_16 : decode cX6_rolesInScene 16 = .ok (.iload_n 3, 1) := by decide +kernel
theorem dX6_rolesInScene_17 : decode cX6_rolesInScene 17 = .ok (.aload_n 0, 1) := by decide +kernel
theorem dX6_rolesInScene_18 : decode cX6_rolesInScene 18 = .ok (.getfield 7, 3) := by decide +kernel
theorem dX6_rolesInScene_21 : decode cX6_rolesInScene 21 = .ok (.bipush 44, 2) := by decide +kernel
theorem dX6_rolesInScene_23 : decode cX6_rolesInScene 23 = .ok (.iaload, 1) := by decide +kernel
theorem dX6_rolesInScene_24 : decode cX6_rolesInScene 24 = .ok (.if_icmp .ge 40, 3) := by decide +kernel
theorem dX6_rolesInScene_27 : decode cX6_rolesInScene 27 = .ok (.iload_n 2, 1) := by decide +kernel
theorem dX6_rolesInScene_28 : decode cX6_rolesInScene 28 = .ok (.aload_n 0, 1) := by decide +kernel
theorem dX6_rolesInScene_29 : decode cX6_rolesInScene 29 = .ok (.getfield 7, 3) := by decide +kernel
theorem dX6_rolesInScene_32 : decode cX6_rolesInScene 32 = .ok (.bipush 45, 2) := by decide +kernel
theorem dX6_rolesInScene_34 : decode cX6_rolesInScene 34 = .ok (.iconst 4, 1) := by decide +kernel
theorem dX6_rolesInScene_35 : decode cX6_rolesInScene 35 = .ok (.iload_n 3, 1) := by decide +kernel
theorem dX6_rolesInScene_36 : decode cX6_rolesInScene 36 = .ok (.imul, 1) := by decide +kernel
theorem dX6_rolesInScene_37 : decode cX6_rolesInScene 37 = .ok (.iadd, 1) := by decide +kernel
theorem dX6_rolesInScene_38 : decode cX6_rolesInScene 38 = .ok (.iconst 1, 1) := by decide +kernel
theorem dX6_rolesInScene_39 : decode cX6_rolesInScene 39 = .ok (.iadd, 1) := by decide +kernel
theorem dX6_rolesInScene_40 : decode cX6_rolesInScene 40 = .ok (.iaload, 1) := by decide +kernel
theorem dX6_rolesInScene_41 : decode cX6_rolesInScene 41 = .ok (.iload_n 1, 1) := by decide +kernel
theorem dX6_rolesInScene_42 : decode cX6_rolesInScene 42 = .ok (.if_icmp .ne 13, 3) := by decide +kernel
theorem dX6_rolesInScene_45 : decode cX6_rolesInScene 45 = .ok (.iconst 1, 1) := by decide +kernel
theorem dX6_rolesInScene_46 : decode cX6_rolesInScene 46 = .ok (.aload_n 0, 1) := by decide +kernel
theorem dX6_rolesInScene_47 : decode cX6_rolesInScene 47 = .ok (.iload_n 3, 1) := by decide +kernel
theorem dX6_rolesInScene_48 : decode cX6_rolesInScene 48 = .ok (.invokevirtual 146, 3) := by decide +kernel
theorem dX6_rolesInScene_51 : decode cX6_rolesInScene 51 = .ok (.ishl, 1) := by decide +kernel
theorem dX6_rolesInScene_52 : decode cX6_rolesInScene 52 = .ok (.goto 4, 3) := by decide +kernel
theorem dX6_rolesInScene_55 : decode cX6_rolesInScene 55 = .ok (.iconst 0, 1) := by decide +kernel
theorem dX6_rolesInScene_56 : decode cX6_rolesInScene 56 = .ok (.ior, 1) := by decide +kernel
theorem dX6_rolesInScene_57 : decode cX6_rolesInScene 57 = .ok (.istore_n 2, 1) := by decide +kernel
theorem dX6_rolesInScene_58 : decode cX6_rolesInScene 58 = .ok (.iinc 3 1, 3) := by decide +kernel
theorem dX6_rolesInScene_61 : decode cX6_rolesInScene 61 = .ok (.goto (-45), 3) := by decide +kernel
theorem dX6_rolesInScene_64 : decode cX6_rolesInScene 64 = .ok (.iload_n 2, 1) := by decide +kernel
theorem dX6_rolesInScene_65 : decode cX6_rolesInScene 65 = .ok (.ireturn, 1) := by decide +kernel
theorem dX6_changeTime_0 : decode cX6_changeTime 0 = .ok (.aload_n 0, 1) := by decide +kernel
theorem dX6_changeTime_1 : decode cX6_changeTime 1 = .ok (.getfield 7, 3) := by decide +kernel
theorem dX6_changeTime_4 : decode cX6_changeTime 4 = .ok (.bipush 20, 2) := by decide +kernel
theorem dX6_changeTime_6 : decode cX6_changeTime 6 = .ok (.iload_n 1, 1) := by decide +kernel
theorem dX6_changeTime_7 : decode cX6_changeTime 7 = .ok (.iadd, 1) := by decide +kernel
theorem dX6_changeTime_8 : decode cX6_changeTime 8 = .ok (.iaload, 1) := by decide +kernel
theorem dX6_changeTime_9 : decode cX6_changeTime 9 = .ok (.aload_n 0, 1) := by decide +kernel
theorem dX6_changeTime_10 : decode cX6_changeTime 10 = .ok (.getfield 7, 3) := by decide +kernel
theorem dX6_changeTime_13 : decode cX6_changeTime 13 = .ok (.bipush 28, 2) := by decide +kernel
theorem dX6_changeTime_15 : decode cX6_changeTime 15 = .ok (.iload_n 2, 1) := by decide +kernel
theorem dX6_changeTime_16 : decode cX6_changeTime 16 = .ok (.iadd, 1) := by decide +kernel
theorem dX6_changeTime_17 : decode cX6_changeTime 17 = .ok (.iaload, 1) := by decide +kernel
theorem dX6_changeTime_18 : decode cX6_changeTime 18 = .ok (.iadd, 1) := by decide +kernel
theorem dX6_changeTime_19 : decode cX6_changeTime 19 = .ok (.iload_n 3, 1) := by decide +kernel
theorem dX6_changeTime_20 : decode cX6_changeTime 20 = .ok (.isub, 1) := by decide +kernel
theorem dX6_changeTime_21 : decode cX6_changeTime 21 = .ok (.istore 4, 2) := by decide +kernel
theorem dX6_changeTime_23 : decode cX6_changeTime 23 = .ok (.iload 4, 2) := by decide +kernel
theorem dX6_changeTime_25 : decode cX6_changeTime 25 = .ok (.ifCond .ge 7, 3) := by decide +kernel
theorem dX6_changeTime_28 : decode cX6_changeTime 28 = .ok (.iconst 0, 1) := by decide +kernel
theorem dX6_changeTime_29 : decode cX6_changeTime 29 = .ok (.goto 5, 3) := by decide +kernel
theorem dX6_changeTime_32 : decode cX6_changeTime 32 = .ok (.iload 4, 2) := by decide +kernel
theorem dX6_changeTime_34 : decode cX6_changeTime 34 = .ok (.ireturn, 1) := by decide +kernel
set_option maxRecDepth 20000 in
theorem ggX6_overlap_X6_roleOf : GoodIn wsX6_overlap wsX6_roleOf := goodIn_r _ [6, 1, 19, 20, 21, 22, 23, 24, 25, 26, 27, 28] (by decide +kernel) (by decide +kernel)
set_option maxRecDepth 20000 in
theorem gX6_overlap_X6_roleOf : GoodIn wsX6_overlap (wsV RX6 146 RX6 yX6_roleOf wsX6_roleOf) := goodIn_app (goodIn_of _ (by decide +kernel)) ggX6_overlap_X6_roleOf
set_option maxRecDepth 20000 in
theorem ggX6_overlap_X6_enters : GoodIn wsX6_overlap wsX6_enters := goodIn_r _ [10, 1, 11, 12, 13, 5, 14, 19, 20, 21, 22, 23, 24, 25, 26, 27, 28] (by decide +kernel) (by decide +kernel)
set_option maxRecDepth 20000 in
theorem gX6_overlap_X6_enters : GoodIn wsX6_overlap (wsV RX6 140 RX6 yX6_enters wsX6_enters) := goodIn_app (goodIn_of _ (by decide +kernel)) ggX6_overlap_X6_enters
set_option maxRecDepth 20000 in
theorem ggX6_overlap_X6_exits : GoodIn wsX6_overlap wsX6_exits := goodIn_r _ [18, 1, 11, 12, 13, 5, 14, 19, 20, 21, 22, 23, 24, 25, 26, 27, 28] (by decide +kernel) (by decide +kernel)
set_option maxRecDepth 20000 in
theorem gX6_overlap_X6_exits : GoodIn wsX6_overlap (wsV RX6 143 RX6 yX6_exits wsX6_exits) := goodIn_app (goodIn_of _ (by decide +kernel)) ggX6_overlap_X6_exits
theorem dX6_overlap_0 : decode cX6_overlap 0 = .ok (.iconst 0, 1) := by decide +kernel
theorem dX6_overlap_1 : decode cX6_overlap 1 = .ok (.istore_n 3, 1) := by decide +kernel
theorem dX6_overlap_2 : decode cX6_overlap 2 = .ok (.iconst 0, 1) := by decide +kernel
theorem dX6_overlap_3 : decode cX6_overlap 3 = .ok (.istore 4, 2) := by decide +kernel
theorem dX6_overlap_5 : decode cX6_overlap 5 = .ok (.iload 4, 2) := by decide +kernel
theorem dX6_overlap_7 : decode cX6_overlap 7 = .ok (.aload_n 0, 1) := by decide +kernel
theorem dX6_overlap_8 : decode cX6_overlap 8 = .ok (.getfield 7, 3) := by decide +kernel
theorem dX6_overlap_11 : decode cX6_overlap 11 = .ok (.bipush 44, 2) := by decide +kernel
theorem dX6_overlap_13 : decode cX6_overlap 13 = .ok (.iaload, 1) := by decide +kernel
theorem dX6_overlap_14 : decode cX6_overlap 14 = .ok (.if_icmp .ge 90, 3) := by decide +kernel
theorem dX6_overlap_17 : decode cX6_overlap 17 = .ok (.iconst 0, 1) := by decide +kernel
theorem dX6_overlap_18 : decode cX6_overlap 18 = .ok (.istore 5, 2) := by decide +kernel
theorem dX6_overlap_20 : decode cX6_overlap 20 = .ok (.iload 5, 2) := by decide +kernel
theorem dX6_overlap_22 : decode cX6_overlap 22 = .ok (.aload_n 0, 1) := by decide +kernel
theorem dX6_overlap_23 : decode cX6_overlap 23 = .ok (.getfield 7, 3) := by decide +kernel
theorem dX6_overlap_26 : decode cX6_overlap 26 = .ok (.bipush 44, 2) := by decide +kernel
theorem dX6_overlap_28 : decode cX6_overlap 28 = .ok (.iaload, 1) := by decide +kernel
theorem dX6_overlap_29 : decode cX6_overlap 29 = .ok (.if_icmp .ge 69, 3) := by decide +kernel
theorem dX6_overlap_32 : decode cX6_overlap 32 = .ok (.iload_n 3, 1) := by decide +kernel
theorem dX6_overlap_33 : decode cX6_overlap 33 = .ok (.ifCond .ne 53, 3) := by decide +kernel
theorem dX6_overlap_36 : decode cX6_overlap 36 = .ok (.aload_n 0, 1) := by decide +kernel
theorem dX6_overlap_37 : decode cX6_overlap 37 = .ok (.iload 4, 2) := by decide +kernel
theorem dX6_overlap_39 : decode cX6_overlap 39 = .ok (.invokevirtual 146, 3) := by decide +kernel
theorem dX6_overlap_42 : decode cX6_overlap 42 = .ok (.iload_n 1, 1) := by decide +kernel
theorem dX6_overlap_43 : decode cX6_overlap 43 = .ok (.if_icmp .ne 47, 3) := by decide +kernel
theorem dX6_overlap_46 : decode cX6_overlap 46 = .ok (.aload_n 0, 1) := by decide +kernel
theorem dX6_overlap_47 : decode cX6_overlap 47 = .ok (.iload 5, 2) := by decide +kernel
theorem dX6_overlap_49 : decode cX6_overlap 49 = .ok (.invokevirtual 146, 3) := by decide +kernel
theorem dX6_overlap_52 : decode cX6_overlap 52 = .ok (.iload_n 2, 1) := by decide +kernel
theorem dX6_overlap_53 : decode cX6_overlap 53 = .ok (.if_icmp .ne 37, 3) := by decide +kernel
theorem dX6_overlap_56 : decode cX6_overlap 56 = .ok (.aload_n 0, 1) := by decide +kernel
theorem dX6_overlap_57 : decode cX6_overlap 57 = .ok (.iload 4, 2) := by decide +kernel
theorem dX6_overlap_59 : decode cX6_overlap 59 = .ok (.invokevirtual 140, 3) := by decide +kernel
theorem dX6_overlap_62 : decode cX6_overlap 62 = .ok (.aload_n 0, 1) := by decide +kernel
theorem dX6_overlap_63 : decode cX6_overlap 63 = .ok (.iload 5, 2) := by decide +kernel
theorem dX6_overlap_65 : decode cX6_overlap 65 = .ok (.invokevirtual 143, 3) := by decide +kernel
theorem dX6_overlap_68 : decode cX6_overlap 68 = .ok (.if_icmp .ge 22, 3) := by decide +kernel
theorem dX6_overlap_71 : decode cX6_overlap 71 = .ok (.aload_n 0, 1) := by decide +kernel
theorem dX6_overlap_72 : decode cX6_overlap 72 = .ok (.iload 5, 2) := by decide +kernel
theorem dX6_overlap_74 : decode cX6_overlap 74 = .ok (.invokevirtual 140, 3) := by decide +kernel
theorem dX6_overlap_77 : decode cX6_overlap 77 = .ok (.aload_n 0, 1) := by decide +kernel
theorem dX6_overlap_78 : decode cX6_overlap 78 = .ok (.iload 4, 2) := by decide +kernel
theorem dX6_overlap_80 : decode cX6_overlap 80 = .ok (.invokevirtual 143, 3) := by decide +kernel
theorem dX6_overlap_83 : decode cX6_overlap 83 = .ok (.if_icmp .ge 7, 3) := by decide +kernel
theorem dX6_overlap_86 : decode cX6_overlap 86 = .ok (.iconst 1, 1) := by decide +kernel
theorem dX6_overlap_87 : decode cX6_overlap 87 = .ok (.goto 4, 3) := by decide +kernel
theorem dX6_overlap_90 : decode cX6_overlap 90 = .ok (.iconst 0, 1) := by decide +kernel
theorem dX6_overlap_91 : decode cX6_overlap 91 = .ok (.istore_n 3, 1) := by decide +kernel
theorem dX6_overlap_92 : decode cX6_overlap 92 = .ok (.iinc 5 1, 3) := by decide +kernel
theorem dX6_overlap_95 : decode cX6_overlap 95 = .ok (.goto (-75), 3) := by decide +kernel
theorem dX6_overlap_98 : decode cX6_overlap 98 = .ok (.iinc 4 1, 3) := by decide +kernel
theorem dX6_overlap_101 : decode cX6_overlap 101 = .ok (.goto (-96), 3) := by decide +kernel
theorem dX6_overlap_104 : decode cX6_overlap 104 = .ok (.iload_n 3, 1) := by decide +kernel
theorem dX6_overlap_105 : decode cX6_overlap 105 = .ok (.ireturn, 1) := by decide +kernel
set_option maxRecDepth 20000 in
theorem ggX6_roomOf_X6_enters : GoodIn wsX6_roomOf wsX6_enters := goodIn_r _ [7, 2, 8, 9, 10, 6, 11, 24, 25, 26, 27, 28, 29, 30, 31, 32, 33] (by decide +kernel) (by decide +kernel)
set_option maxRecDepth 20000 in
theorem gX6_roomOf_X6_enters : GoodIn wsX6_roomOf (wsV RX6 140 RX6 yX6_enters wsX6_enters) := goodIn_app (goodIn_of _ (by decide +kernel)) ggX6_roomOf_X6_enters
set_option maxRecDepth 20000 in
theorem ggX6_roomOf_X6_exits : GoodIn wsX6_roomOf wsX6_exits := goodIn_r _ [15, 2, 8, 9, 10, 6, 11, 24, 25, 26, 27, 28, 29, 30, 31, 32, 33] (by decide +kernel) (by decide +kernel)
set_option maxRecDepth 20000 in
theorem gX6_roomOf_X6_exits : GoodIn wsX6_roomOf (wsV RX6 143 RX6 yX6_exits wsX6_exits) := goodIn_app (goodIn_of _ (by decide +kernel)) ggX6_roomOf_X6_exits
set_option maxRecDepth 20000 in
theorem ggX6_roomOf_X6_roleOf : GoodIn wsX6_roomOf wsX6_roleOf := goodIn_r _ [19, 2, 24, 25, 26, 27, 28, 29, 30, 31, 32, 33] (by decide +kernel) (by decide +kernel)
set_option maxRecDepth 20000 in
theorem gX6_roomOf_X6_roleOf : GoodIn wsX6_roomOf (wsV RX6 146 RX6 yX6_roleOf wsX6_roleOf) := goodIn_app (goodIn_of _ (by decide +kernel)) ggX6_roomOf_X6_roleOf
set_option maxRecDepth 20000 in
theorem ggX6_roomOf_X6_changeTime : GoodIn wsX6_roomOf wsX6_changeTime := goodIn_r _ [23, 2, 24, 25, 26, 27, 28, 29, 30, 31, 32, 33] (by decide +kernel) (by decide +kernel)
set_option maxRecDepth 20000 in
theorem gX6_roomOf_X6_changeTime : GoodIn wsX6_roomOf (wsV RX6 156 RX6 yX6_changeTime wsX6_changeTime) := goodIn_app (goodIn_of _ (by decide +kernel)) ggX6_roomOf_X6_changeTime
theorem dX6_roomOf_0 : decode cX6_roomOf 0 = .ok (.ldc 155, 2) := by decide +kernel
theorem dX6_roomOf_2 : decode cX6_roomOf 2 = .ok (.istore 4, 2) := by decide +kernel
theorem dX6_roomOf_4 : decode cX6_roomOf 4 = .ok (.iconst 0, 1) := by decide +kernel
theorem dX6_roomOf_5 : decode cX6_roomOf 5 = .ok (.istore 5, 2) := by decide +kernel
theorem dX6_roomOf_7 : decode cX6_roomOf 7 = .ok (.iload 5, 2) := by decide +kernel
theorem dX6_roomOf_9 : decode cX6_roomOf 9 = .ok (.aload_n 0, 1) := by decide +kernel
theorem dX6_roomOf_10 : decode cX6_roomOf 10 = .ok (.getfield 7, 3) := by decide +kernel
theorem dX6_roomOf_13 : decode cX6_roomOf 13 = .ok (.bipush 44, 2) := by decide +kernel
theorem dX6_roomOf_15 : decode cX6_roomOf 15 = .ok (.iaload, 1) := by decide +kernel
theorem dX6_roomOf_16 : decode cX6_roomOf 16 = .ok (.if_icmp .ge 98, 3) := by decide +kernel
theorem dX6_roomOf_19 : decode cX6_roomOf 19 = .ok (.iconst 0, 1) := by decide +kernel
theorem dX6_roomOf_20 : decode cX6_roomOf 20 = .ok (.istore 6, 2) := by decide +kernel
theorem dX6_roomOf_22 : decode cX6_roomOf 22 = .ok (.iload 6, 2) := by decide +kernel
theorem dX6_roomOf_24 : decode cX6_roomOf 24 = .ok (.aload_n 0, 1) := by decide +kernel
theorem dX6_roomOf_25 : decode cX6_roomOf 25 = .ok (.getfield 7, 3) := by decide +kernel
theorem dX6_roomOf_28 : decode cX6_roomOf 28 = .ok (.bipush 44, 2) := by decide +kernel
theorem dX6_roomOf_30 : decode cX6_roomOf 30 = .ok (.iaload, 1) := by decide +kernel
theorem dX6_roomOf_31 : decode cX6_roomOf 31 = .ok (.if_icmp .ge 77, 3) := by decide +kernel
theorem dX6_roomOf_34 : decode cX6_roomOf 34 = .ok (.aload_n 0, 1) := by decide +kernel
theorem dX6_roomOf_35 : decode cX6_roomOf 35 = .ok (.iload 6, 2) := by decide +kernel
theorem dX6_roomOf_37 : decode cX6_roomOf 37 = .ok (.invokevirtual 140, 3) := by decide +kernel
theorem dX6_roomOf_40 : decode cX6_roomOf 40 = .ok (.aload_n 0, 1) := by decide +kernel
theorem dX6_roomOf_41 : decode cX6_roomOf 41 = .ok (.iload 5, 2) := by decide +kernel
theorem dX6_roomOf_43 : decode cX6_roomOf 43 = .ok (.invokevirtual 143, 3) := by decide +kernel
theorem dX6_roomOf_46 : decode cX6_roomOf 46 = .ok (.isub, 1) := by decide +kernel
theorem dX6_roomOf_47 : decode cX6_roomOf 47 = .ok (.istore 7, 2) := by decide +kernel
theorem dX6_roomOf_49 : decode cX6_roomOf 49 = .ok (.aload_n 0, 1) := by decide +kernel
theorem dX6_roomOf_50 : decode cX6_roomOf 50 = .ok (.iload 5, 2) := by decide +kernel
theorem dX6_roomOf_52 : decode cX6_roomOf 52 = .ok (.invokevirtual 146, 3) := by decide +kernel
theorem dX6_roomOf_55 : decode cX6_roomOf 55 = .ok (.iload_n 1, 1) := by decide +kernel
theorem dX6_roomOf_56 : decode cX6_roomOf 56 = .ok (.if_icmp .ne 46, 3) := by decide +kernel
theorem dX6_roomOf_59 : decode cX6_roomOf 59 = .ok (.aload_n 0, 1) := by decide +kernel
theorem dX6_roomOf_60 : decode cX6_roomOf 60 = .ok (.iload 6, 2) := by decide +kernel
theorem dX6_roomOf_62 : decode cX6_roomOf 62 = .ok (.invokevirtual 146, 3) := by decide +kernel
theorem dX6_roomOf_65 : decode cX6_roomOf 65 = .ok (.iload_n 2, 1) := by decide +kernel
theorem dX6_roomOf_66 : decode cX6_roomOf 66 = .ok (.if_icmp .ne 36, 3) := by decide +kernel
theorem dX6_roomOf_69 : decode cX6_roomOf 69 = .ok (.iload 7, 2) := by decide +kernel
theorem dX6_roomOf_71 : decode cX6_roomOf 71 = .ok (.ifCond .lt 31, 3) := by decide +kernel
theorem dX6_roomOf_74 : decode cX6_roomOf 74 = .ok (.iload 7, 2) := by decide +kernel
theorem dX6_roomOf_76 : decode cX6_roomOf 76 = .ok (.aload_n 0, 1) := by decide +kernel
theorem dX6_roomOf_77 : decode cX6_roomOf 77 = .ok (.iload_n 1, 1) := by decide +kernel
theorem dX6_roomOf_78 : decode cX6_roomOf 78 = .ok (.iload_n 2, 1) := by decide +kernel
theorem dX6_roomOf_79 : decode cX6_roomOf 79 = .ok (.iload_n 3, 1) := by decide +kernel
theorem dX6_roomOf_80 : decode cX6_roomOf 80 = .ok (.invokevirtual 156, 3) := by decide +kernel
theorem dX6_roomOf_83 : decode cX6_roomOf 83 = .ok (.isub, 1) := by decide +kernel
theorem dX6_roomOf_84 : decode cX6_roomOf 84 = .ok (.istore 8, 2) := by decide +kernel
theorem dX6_roomOf_86 : decode cX6_roomOf 86 = .ok (.iload 8, 2) := by decide +kernel
theorem dX6_roomOf_88 : decode cX6_roomOf 88 = .ok (.iload 4, 2) := by decide +kernel
theorem dX6_roomOf_90 : decode cX6_roomOf 90 = .ok (.if_icmp .ge 8, 3) := by decide +kernel
theorem dX6_roomOf_93 : decode cX6_roomOf 93 = .ok (.iload 8, 2) := by decide +kernel
theorem dX6_roomOf_95 : decode cX6_roomOf 95 = .ok (.goto 5, 3) := by decide +kernel
theorem dX6_roomOf_98 : decode cX6_roomOf 98 = .ok (.iload 4, 2) := by decide +kernel
theorem dX6_roomOf_100 : decode cX6_roomOf 100 = .ok (.istore 4, 2) := by decide +kernel
theorem dX6_roomOf_102 : decode cX6_roomOf 102 = .ok (.iinc 6 1, 3) := by decide +kernel
theorem dX6_roomOf_105 : decode cX6_roomOf 105 = .ok (.goto (-83), 3) := by decide +kernel
theorem dX6_roomOf_108 : decode cX6_roomOf 108 = .ok (.iinc 5 1, 3) := by decide +kernel
theorem dX6_roomOf_111 : decode cX6_roomOf 111 = .ok (.goto (-104), 3) := by decide +kernel
theorem dX6_roomOf_114 : decode cX6_roomOf 114 = .ok (.iload 4, 2) := by decide +kernel
theorem dX6_roomOf_116 : decode cX6_roomOf 116 = .ok (.ireturn, 1) := by decide +kernel
set_option maxRecDepth 20000 in
theorem ggX6_reasonOf_X6_overlap : GoodIn wsX6_reasonOf wsX6_overlap := goodIn_r _ [6, 1, 7, 8, 9, 5, 10, 11, 12, 13, 14, 15, 16, 17, 18, 19, 20, 21, 22, 32, 33, 34, 35, 36, 37, 38, 39, 40, 41] (by decide +kernel) (by decide +kernel)
set_option maxRecDepth 20000 in
theorem gX6_reasonOf_X6_overlap : GoodIn wsX6_reasonOf (wsV RX6 160 RX6 yX6_overlap wsX6_overlap) := goodIn_app (goodIn_of _ (by decide +kernel)) ggX6_reasonOf_X6_overlap
set_option maxRecDepth 20000 in
theorem ggX6_reasonOf_X6_roomOf : GoodIn wsX6_reasonOf wsX6_roomOf := goodIn_r _ [26, 27, 1, 11, 12, 13, 5, 14, 15, 16, 17, 18, 19, 20, 21, 22, 7, 8, 9, 10, 28, 29, 30, 31, 32, 33, 34, 35, 36, 37, 38, 39, 40, 41] (by decide +kernel) (by decide +kernel)
set_option maxRecDepth 20000 in
theorem gX6_reasonOf_X6_roomOf : GoodIn wsX6_reasonOf (wsV RX6 164 RX6 yX6_roomOf wsX6_roomOf) := goodIn_app (goodIn_of _ (by decide +kernel)) ggX6_reasonOf_X6_roomOf
theorem dX6_reasonOf_0 : decode cX6_reasonOf 0 = .ok (.aload_n 0, 1) := by decide +kernel
theorem dX6_reasonOf_1 : decode cX6_reasonOf 1 = .ok (.getfield 7, 3) := by decide +kernel
theorem dX6_reasonOf_4 : decode cX6_reasonOf 4 = .ok (.bipush 12, 2) := by decide +kernel
theorem dX6_reasonOf_6 : decode cX6_reasonOf 6 = .ok (.iload_n 1, 1) := by decide +kernel
theorem dX6_reasonOf_7 : decode cX6_reasonOf 7 = .ok (.iadd, 1) := by decide +kernel
theorem dX6_reasonOf_8 : decode cX6_reasonOf 8 = .ok (.iaload, 1) := by decide +kernel
theorem dX6_reasonOf_9 : decode cX6_reasonOf 9 = .ok (.aload_n 0, 1) := by decide +kernel
theorem dX6_reasonOf_10 : decode cX6_reasonOf 10 = .ok (.getfield 7, 3) := by decide +kernel
theorem dX6_reasonOf_13 : decode cX6_reasonOf 13 = .ok (.bipush 12, 2) := by decide +kernel
theorem dX6_reasonOf_15 : decode cX6_reasonOf 15 = .ok (.iload_n 2, 1) := by decide +kernel
theorem dX6_reasonOf_16 : decode cX6_reasonOf 16 = .ok (.iadd, 1) := by decide +kernel
theorem dX6_reasonOf_17 : decode cX6_reasonOf 17 = .ok (.iaload, 1) := by decide +kernel
theorem dX6_reasonOf_18 : decode cX6_reasonOf 18 = .ok (.if_icmp .eq 5, 3) := by decide +kernel
theorem dX6_reasonOf_21 : decode cX6_reasonOf 21 = .ok (.iconst 1, 1) := by decide +kernel
theorem dX6_reasonOf_22 : decode cX6_reasonOf 22 = .ok (.ireturn, 1) := by decide +kernel
theorem dX6_reasonOf_23 : decode cX6_reasonOf 23 = .ok (.aload_n 0, 1) := by decide +kernel
theorem dX6_reasonOf_24 : decode cX6_reasonOf 24 = .ok (.iload_n 1, 1) := by decide +kernel
theorem dX6_reasonOf_25 : decode cX6_reasonOf 25 = .ok (.iload_n 2, 1) := by decide +kernel
theorem dX6_reasonOf_26 : decode cX6_reasonOf 26 = .ok (.invokevirtual 160, 3) := by decide +kernel
theorem dX6_reasonOf_29 : decode cX6_reasonOf 29 = .ok (.ifCond .eq 5, 3) := by decide +kernel
theorem dX6_reasonOf_32 : decode cX6_reasonOf 32 = .ok (.iconst 2, 1) := by decide +kernel
theorem dX6_reasonOf_33 : decode cX6_reasonOf 33 = .ok (.ireturn, 1) := by decide +kernel
theorem dX6_reasonOf_34 : decode cX6_reasonOf 34 = .ok (.aload_n 0, 1) := by decide +kernel
theorem dX6_reasonOf_35 : decode cX6_reasonOf 35 = .ok (.iload_n 1, 1) := by decide +kernel
theorem dX6_reasonOf_36 : decode cX6_reasonOf 36 = .ok (.iload_n 2, 1) := by decide +kernel
theorem dX6_reasonOf_37 : decode cX6_reasonOf 37 = .ok (.iload_n 3, 1) := by decide +kernel
theorem dX6_reasonOf_38 : decode cX6_reasonOf 38 = .ok (.invokevirtual 164, 3) := by decide +kernel
theorem dX6_reasonOf_41 : decode cX6_reasonOf 41 = .ok (.ifCond .lt 13, 3) := by decide +kernel
theorem dX6_reasonOf_44 : decode cX6_reasonOf 44 = .ok (.aload_n 0, 1) := by decide +kernel
theorem dX6_reasonOf_45 : decode cX6_reasonOf 45 = .ok (.iload_n 2, 1) := by decide +kernel
theorem dX6_reasonOf_46 : decode cX6_reasonOf 46 = .ok (.iload_n 1, 1) := by decide +kernel
theorem dX6_reasonOf_47 : decode cX6_reasonOf 47 = .ok (.iload_n 3, 1) := by decide +kernel
theorem dX6_reasonOf_48 : decode cX6_reasonOf 48 = .ok (.invokevirtual 164, 3) := by decide +kernel
theorem dX6_reasonOf_51 : decode cX6_reasonOf 51 = .ok (.ifCond .ge 7, 3) := by decide +kernel
theorem dX6_reasonOf_54 : decode cX6_reasonOf 54 = .ok (.iconst 3, 1) := by decide +kernel
theorem dX6_reasonOf_55 : decode cX6_reasonOf 55 = .ok (.goto 4, 3) := by decide +kernel
theorem dX6_reasonOf_58 : decode cX6_reasonOf 58 = .ok (.iconst 0, 1) := by decide +kernel
theorem dX6_reasonOf_59 : decode cX6_reasonOf 59 = .ok (.ireturn, 1) := by decide +kernel
set_option maxRecDepth 20000 in
theorem ggX6_layConflicts_X6_reasonOf : GoodIn wsX6_layConflicts wsX6_reasonOf := goodIn_r _ [7, 1, 8, 9, 10, 6, 11, 12, 13, 14, 15, 16, 17, 18, 19, 20, 21, 22, 23, 24, 25, 26, 27, 28, 29, 30, 31, 32, 33, 34, 35, 36, 37, 38, 39, 40, 41, 42, 43, 44, 45, 46] (by decide +kernel) (by decide +kernel)
set_option maxRecDepth 20000 in
theorem gX6_layConflicts_X6_reasonOf : GoodIn wsX6_layConflicts (wsV RX6 167 RX6 yX6_reasonOf wsX6_reasonOf) := goodIn_app (goodIn_of _ (by decide +kernel)) ggX6_layConflicts_X6_reasonOf
theorem dX6_layConflicts_0 : decode cX6_layConflicts 0 = .ok (.iconst 0, 1) := by decide +kernel
theorem dX6_layConflicts_1 : decode cX6_layConflicts 1 = .ok (.istore_n 2, 1) := by decide +kernel
theorem dX6_layConflicts_2 : decode cX6_layConflicts 2 = .ok (.iload_n 2, 1) := by decide +kernel
theorem dX6_layConflicts_3 : decode cX6_layConflicts 3 = .ok (.aload_n 0, 1) := by decide +kernel
theorem dX6_layConflicts_4 : decode cX6_layConflicts 4 = .ok (.getfield 7, 3) := by decide +kernel
theorem dX6_layConflicts_7 : decode cX6_layConflicts 7 = .ok (.bipush 11, 2) := by decide +kernel
theorem dX6_layConflicts_9 : decode cX6_layConflicts 9 = .ok (.iaload, 1) := by decide +kernel
theorem dX6_layConflicts_10 : decode cX6_layConflicts 10 = .ok (.if_icmp .ge 66, 3) := by decide +kernel
theorem dX6_layConflicts_13 : decode cX6_layConflicts 13 = .ok (.aload_n 0, 1) := by decide +kernel
theorem dX6_layConflicts_14 : decode cX6_layConflicts 14 = .ok (.getfield 22, 3) := by decide +kernel
theorem dX6_layConflicts_17 : decode cX6_layConflicts 17 = .ok (.iload_n 2, 1) := by decide +kernel
theorem dX6_layConflicts_18 : decode cX6_layConflicts 18 = .ok (.iconst 0, 1) := by decide +kernel
theorem dX6_layConflicts_19 : decode cX6_layConflicts 19 = .ok (.iastore, 1) := by decide +kernel
theorem dX6_layConflicts_20 : decode cX6_layConflicts 20 = .ok (.iconst 0, 1) := by decide +kernel
theorem dX6_layConflicts_21 : decode cX6_layConflicts 21 = .ok (.istore_n 3, 1) := by decide +kernel
theorem dX6_layConflicts_22 : decode cX6_layConflicts 22 = .ok (.iload_n 3, 1) := by decide +kernel
theorem dX6_layConflicts_23 : decode cX6_layConflicts 23 = .ok (.aload_n 0, 1) := by decide +kernel
theorem dX6_layConflicts_24 : decode cX6_layConflicts 24 = .ok (.getfield 7, 3) := by decide +kernel
theorem dX6_layConflicts_27 : decode cX6_layConflicts 27 = .ok (.bipush 11, 2) := by decide +kernel
theorem dX6_layConflicts_29 : decode cX6_layConflicts 29 = .ok (.iaload, 1) := by decide +kernel
theorem dX6_layConflicts_30 : decode cX6_layConflicts 30 = .ok (.if_icmp .ge 40, 3) := by decide +kernel
theorem dX6_layConflicts_33 : decode cX6_layConflicts 33 = .ok (.aload_n 0, 1) := by decide +kernel
theorem dX6_layConflicts_34 : decode cX6_layConflicts 34 = .ok (.getfield 22, 3) := by decide +kernel
theorem dX6_layConflicts_37 : decode cX6_layConflicts 37 = .ok (.iload_n 2, 1) := by decide +kernel
theorem dX6_layConflicts_38 : decode cX6_layConflicts 38 = .ok (.dup2, 1) := by decide +kernel
theorem dX6_layConflicts_39 : decode cX6_layConflicts 39 = .ok (.iaload, 1) := by decide +kernel
theorem dX6_layConflicts_40 : decode cX6_layConflicts 40 = .ok (.iload_n 2, 1) := by decide +kernel
theorem dX6_layConflicts_41 : decode cX6_layConflicts 41 = .ok (.iload_n 3, 1) := by decide +kernel
theorem dX6_layConflicts_42 : decode cX6_layConflicts 42 = .ok (.if_icmp .eq 19, 3) := by decide +kernel
theorem dX6_layConflicts_45 : decode cX6_layConflicts 45 = .ok (.aload_n 0, 1) := by decide +kernel
theorem dX6_layConflicts_46 : decode cX6_layConflicts 46 = .ok (.iload_n 2, 1) := by decide +kernel
theorem dX6_layConflicts_47 : decode cX6_layConflicts 47 = .ok (.iload_n 3, 1) := by decide +kernel
theorem dX6_layConflicts_48 : decode cX6_layConflicts 48 = .ok (.iload_n 1, 1) := by decide +kernel
theorem dX6_layConflicts_49 : decode cX6_layConflicts 49 = .ok (.invokevirtual 167, 3) := by decide +kernel
theorem dX6_layConflicts_52 : decode cX6_layConflicts 52 = .ok (.ifCond .eq 9, 3) := by decide +kernel
theorem dX6_layConflicts_55 : decode cX6_layConflicts 55 = .ok (.iconst 1, 1) := by decide +kernel
theorem dX6_layConflicts_56 : decode cX6_layConflicts 56 = .ok (.iload_n 3, 1) := by decide +kernel
theorem dX6_layConflicts_57 : decode cX6_layConflicts 57 = .ok (.ishl, 1) := by decide +kernel
theorem dX6_layConflicts_58 : decode cX6_layConflicts 58 = .ok (.goto 4, 3) := by decide +kernel
theorem dX6_layConflicts_61 : decode cX6_layConflicts 61 = .ok (.iconst 0, 1) := by decide +kernel
theorem dX6_layConflicts_62 : decode cX6_layConflicts 62 = .ok (.ior, 1) := by decide +kernel
theorem dX6_layConflicts_63 : decode cX6_layConflicts 63 = .ok (.iastore, 1) := by decide +kernel
theorem dX6_layConflicts_64 : decode cX6_layConflicts 64 = .ok (.iinc 3 1, 3) := by decide +kernel
theorem dX6_layConflicts_67 : decode cX6_layConflicts 67 = .ok (.goto (-45), 3) := by decide +kernel
theorem dX6_layConflicts_70 : decode cX6_layConflicts 70 = .ok (.iinc 2 1, 3) := by decide +kernel
theorem dX6_layConflicts_73 : decode cX6_layConflicts 73 = .ok (.goto (-71), 3) := by decide +kernel
theorem dX6_layConflicts_76 : decode cX6_layConflicts 76 = .ok (.return_, 1) := by decide +kernel
set_option maxRecDepth 20000 in
theorem ggX6_areTwo_X6_isRole : GoodIn wsX6_areTwo wsX6_isRole := goodIn_r _ [5, 6, 7, 8, 4, 9, 10, 11, 12, 13, 14, 15, 16, 17, 18, 19] (by decide +kernel) (by decide +kernel)
set_option maxRecDepth 20000 in
theorem gX6_areTwo_X6_isRole : GoodIn wsX6_areTwo (wsV RX6 109 RX6 yX6_isRole wsX6_isRole) := goodIn_app (goodIn_of _ (by decide +kernel)) ggX6_areTwo_X6_isRole
theorem dX6_areTwo_0 : decode cX6_areTwo 0 = .ok (.aload_n 0, 1) := by decide +kernel
theorem dX6_areTwo_1 : decode cX6_areTwo 1 = .ok (.iload_n 1, 1) := by decide +kernel
theorem dX6_areTwo_2 : decode cX6_areTwo 2 = .ok (.invokevirtual 109, 3) := by decide +kernel
theorem dX6_areTwo_5 : decode cX6_areTwo 5 = .ok (.ifCond .eq 20, 3) := by decide +kernel
theorem dX6_areTwo_8 : decode cX6_areTwo 8 = .ok (.aload_n 0, 1) := by decide +kernel
theorem dX6_areTwo_9 : decode cX6_areTwo 9 = .ok (.iload_n 2, 1) := by decide +kernel
theorem dX6_areTwo_10 : decode cX6_areTwo 10 = .ok (.invokevirtual 109, 3) := by decide +kernel
theorem dX6_areTwo_13 : decode cX6_areTwo 13 = .ok (.ifCond .eq 12, 3) := by decide +kernel
theorem dX6_areTwo_16 : decode cX6_areTwo 16 = .ok (.iload_n 1, 1) := by decide +kernel
theorem dX6_areTwo_17 : decode cX6_areTwo 17 = .ok (.iload_n 2, 1) := by decide +kernel
theorem dX6_areTwo_18 : decode cX6_areTwo 18 = .ok (.if_icmp .eq 7, 3) := by decide +kernel
theorem dX6_areTwo_21 : decode cX6_areTwo 21 = .ok (.iconst 1, 1) := by decide +kernel
theorem dX6_areTwo_22 : decode cX6_areTwo 22 = .ok (.goto 4, 3) := by decide +kernel
theorem dX6_areTwo_25 : decode cX6_areTwo 25 = .ok (.iconst 0, 1) := by decide +kernel
theorem dX6_areTwo_26 : decode cX6_areTwo 26 = .ok (.ireturn, 1) := by decide +kernel
set_option maxRecDepth 20000 in
theorem ggX6_conflict_X6_areTwo : GoodIn wsX6_conflict wsX6_areTwo := goodIn_r _ [5, 6, 7, 8, 4, 9, 10, 11, 12, 13, 47, 48, 49, 50, 51, 52, 53, 54, 55, 56] (by decide +kernel) (by decide +kernel)
set_option maxRecDepth 20000 in
theorem gX6_conflict_X6_areTwo : GoodIn wsX6_conflict (wsV RX6 170 RX6 yX6_areTwo wsX6_areTwo) := goodIn_app (goodIn_of _ (by decide +kernel)) ggX6_conflict_X6_areTwo
set_option maxRecDepth 20000 in
theorem ggX6_conflict_X6_reasonOf : GoodIn wsX6_conflict wsX6_reasonOf := goodIn_r _ [17, 10, 18, 19, 20, 4, 21, 22, 23, 24, 25, 26, 27, 28, 29, 30, 31, 32, 33, 34, 35, 36, 37, 38, 39, 40, 41, 42, 43, 44, 45, 46, 47, 48, 49, 50, 51, 52, 53, 54, 55, 56] (by decide +kernel) (by decide +kernel)
set_option maxRecDepth 20000 in
theorem gX6_conflict_X6_reasonOf : GoodIn wsX6_conflict (wsV RX6 167 RX6 yX6_reasonOf wsX6_reasonOf) := goodIn_app (goodIn_of _ (by decide +kernel)) ggX6_conflict_X6_reasonOf
theorem dX6_conflict_0 : decode cX6_conflict 0 = .ok (.aload_n 0, 1) := by decide +kernel
theorem dX6_conflict_1 : decode cX6_conflict 1 = .ok (.iload_n 1, 1) := by decide +kernel
theorem dX6_conflict_2 : decode cX6_conflict 2 = .ok (.iload_n 2, 1) := by decide +kernel
theorem dX6_conflict_3 : decode cX6_conflict 3 = .ok (.invokevirtual 170, 3) := by decide +kernel
theorem dX6_conflict_6 : decode cX6_conflict 6 = .ok (.ifCond .eq 13, 3) := by decide +kernel
theorem dX6_conflict_9 : decode cX6_conflict 9 = .ok (.aload_n 0, 1) := by decide +kernel
theorem dX6_conflict_10 : decode cX6_conflict 10 = .ok (.iload_n 1, 1) := by decide +kernel
theorem dX6_conflict_11 : decode cX6_conflict 11 = .ok (.iload_n 2, 1) := by decide +kernel
theorem dX6_conflict_12 : decode cX6_conflict 12 = .ok (.iconst 0, 1) := by decide +kernel
theorem dX6_conflict_13 : decode cX6_conflict 13 = .ok (.invokevirtual 167, 3) := by decide +kernel
theorem dX6_conflict_16 : decode cX6_conflict 16 = .ok (.goto 6, 3) := by decide +kernel
theorem dX6_conflict_19 : decode cX6_conflict 19 = .ok (.sipush (-1001), 3) := by decide +kernel
theorem dX6_conflict_22 : decode cX6_conflict 22 = .ok (.ireturn, 1) := by decide +kernel
set_option maxRecDepth 20000 in
theorem ggX6_conflictCount_X6_layConflicts : GoodIn wsX6_conflictCount wsX6_layConflicts := goodIn_r _ [7, 1, 2, 8, 9, 10, 6, 11, 12, 13, 14, 15, 16, 17, 18, 19, 20, 21, 22, 23, 24, 25, 26, 27, 28, 29, 30, 31, 32, 33, 34, 35, 36, 37, 38, 39, 40, 44, 45, 46, 47, 48, 49, 50, 51, 52, 53] (by decide +kernel) (by decide +kernel)
set_option maxRecDepth 20000 in
theorem gX6_conflictCount_X6_layConflicts : GoodIn wsX6_conflictCount (wsV RX6 106 RX6 yX6_layConflicts wsX6_layConflicts) := goodIn_app (goodIn_of _ (by decide +kernel)) ggX6_conflictCount_X6_layConflicts
set_option maxRecDepth 20000 in
theorem ggX6_conflictCount_X6_ones : GoodIn wsX6_conflictCount wsX6_ones := goodIn_r _ [43] (by decide +kernel) (by decide +kernel)
set_option maxRecDepth 20000 in
theorem gX6_conflictCount_X6_ones : GoodIn wsX6_conflictCount (va_wsS RX6 131 yX6_ones wsX6_ones) := goodIn_app (goodIn_of _ (by decide +kernel)) ggX6_conflictCount_X6_ones
theorem dX6_conflictCount_0 : decode cX6_conflictCount 0 = .ok (.aload_n 0, 1) := by decide +kernel
theorem dX6_conflictCount_1 : decode cX6_conflictCount 1 = .ok (.iconst 0, 1) := by decide +kernel
theorem dX6_conflictCount_2 : decode cX6_conflictCount 2 = .ok (.invokevirtual 106, 3) := by decide +kernel
theorem dX6_conflictCount_5 : decode cX6_conflictCount 5 = .ok (.iconst 0, 1) := by decide +kernel
theorem dX6_conflictCount_6 : decode cX6_conflictCount 6 = .ok (.istore_n 1, 1) := by decide +kernel
theorem dX6_conflictCount_7 : decode cX6_conflictCount 7 = .ok (.iconst 0, 1) := by decide +kernel
theorem dX6_conflictCount_8 : decode cX6_conflictCount 8 = .ok (.istore_n 2, 1) := by decide +kernel
theorem dX6_conflictCount_9 : decode cX6_conflictCount 9 = .ok (.iload_n 2, 1) := by decide +kernel
theorem dX6_conflictCount_10 : decode cX6_conflictCount 10 = .ok (.aload_n 0, 1) := by decide +kernel
theorem dX6_conflictCount_11 : decode cX6_conflictCount 11 = .ok (.getfield 7, 3) := by decide +kernel
theorem dX6_conflictCount_14 : decode cX6_conflictCount 14 = .ok (.bipush 11, 2) := by decide +kernel
theorem dX6_conflictCount_16 : decode cX6_conflictCount 16 = .ok (.iaload, 1) := by decide +kernel
theorem dX6_conflictCount_17 : decode cX6_conflictCount 17 = .ok (.if_icmp .ge 21, 3) := by decide +kernel
theorem dX6_conflictCount_20 : decode cX6_conflictCount 20 = .ok (.iload_n 1, 1) := by decide +kernel
theorem dX6_conflictCount_21 : decode cX6_conflictCount 21 = .ok (.aload_n 0, 1) := by decide +kernel
theorem dX6_conflictCount_22 : decode cX6_conflictCount 22 = .ok (.getfield 22, 3) := by decide +kernel
theorem dX6_conflictCount_25 : decode cX6_conflictCount 25 = .ok (.iload_n 2, 1) := by decide +kernel
theorem dX6_conflictCount_26 : decode cX6_conflictCount 26 = .ok (.iaload, 1) := by decide +kernel
theorem dX6_conflictCount_27 : decode cX6_conflictCount 27 = .ok (.invokestatic 131, 3) := by decide +kernel
theorem dX6_conflictCount_30 : decode cX6_conflictCount 30 = .ok (.iadd, 1) := by decide +kernel
theorem dX6_conflictCount_31 : decode cX6_conflictCount 31 = .ok (.istore_n 1, 1) := by decide +kernel
theorem dX6_conflictCount_32 : decode cX6_conflictCount 32 = .ok (.iinc 2 1, 3) := by decide +kernel
theorem dX6_conflictCount_35 : decode cX6_conflictCount 35 = .ok (.goto (-26), 3) := by decide +kernel
theorem dX6_conflictCount_38 : decode cX6_conflictCount 38 = .ok (.iload_n 1, 1) := by decide +kernel
theorem dX6_conflictCount_39 : decode cX6_conflictCount 39 = .ok (.iconst 2, 1) := by decide +kernel
theorem dX6_conflictCount_40 : decode cX6_conflictCount 40 = .ok (.idiv, 1) := by decide +kernel
theorem dX6_conflictCount_41 : decode cX6_conflictCount 41 = .ok (.ireturn, 1) := by decide +kernel
set_option maxRecDepth 20000 in
theorem ggX6_slackOf_X6_roomOf : GoodIn wsX6_slackOf wsX6_roomOf := goodIn_r _ [5, 6, 7, 8, 9, 10, 4, 11, 12, 13, 14, 15, 16, 17, 18, 19, 20, 21, 22, 23, 24, 25, 26, 27, 28, 29, 30, 31, 32, 33, 34, 35, 36, 37] (by decide +kernel) (by decide +kernel)
set_option maxRecDepth 20000 in
theorem gX6_slackOf_X6_roomOf : GoodIn wsX6_slackOf (wsV RX6 164 RX6 yX6_roomOf wsX6_roomOf) := goodIn_app (goodIn_of _ (by decide +kernel)) ggX6_slackOf_X6_roomOf
theorem dX6_slackOf_0 : decode cX6_slackOf 0 = .ok (.aload_n 0, 1) := by decide +kernel
theorem dX6_slackOf_1 : decode cX6_slackOf 1 = .ok (.iload_n 1, 1) := by decide +kernel
theorem dX6_slackOf_2 : decode cX6_slackOf 2 = .ok (.iload_n 2, 1) := by decide +kernel
theorem dX6_slackOf_3 : decode cX6_slackOf 3 = .ok (.iconst 0, 1) := by decide +kernel
theorem dX6_slackOf_4 : decode cX6_slackOf 4 = .ok (.invokevirtual 164, 3) := by decide +kernel
theorem dX6_slackOf_7 : decode cX6_slackOf 7 = .ok (.istore_n 3, 1) := by decide +kernel
theorem dX6_slackOf_8 : decode cX6_slackOf 8 = .ok (.aload_n 0, 1) := by decide +kernel
theorem dX6_slackOf_9 : decode cX6_slackOf 9 = .ok (.iload_n 2, 1) := by decide +kernel
theorem dX6_slackOf_10 : decode cX6_slackOf 10 = .ok (.iload_n 1, 1) := by decide +kernel
theorem dX6_slackOf_11 : decode cX6_slackOf 11 = .ok (.iconst 0, 1) := by decide +kernel
theorem dX6_slackOf_12 : decode cX6_slackOf 12 = .ok (.invokevirtual 164, 3) := by decide +kernel
theorem dX6_slackOf_15 : decode cX6_slackOf 15 = .ok (.istore 4, 2) := by decide +kernel
theorem dX6_slackOf_17 : decode cX6_slackOf 17 = .ok (.iload_n 3, 1) := by decide +kernel
theorem dX6_slackOf_18 : decode cX6_slackOf 18 = .ok (.iload 4, 2) := by decide +kernel
theorem dX6_slackOf_20 : decode cX6_slackOf 20 = .ok (.if_icmp .ge 7, 3) := by decide +kernel
theorem dX6_slackOf_23 : decode cX6_slackOf 23 = .ok (.iload_n 3, 1) := by decide +kernel
theorem dX6_slackOf_24 : decode cX6_slackOf 24 = .ok (.goto 5, 3) := by decide +kernel
theorem dX6_slackOf_27 : decode cX6_slackOf 27 = .ok (.iload 4, 2) := by decide +kernel
theorem dX6_slackOf_29 : decode cX6_slackOf 29 = .ok (.ireturn, 1) := by decide +kernel
set_option maxRecDepth 20000 in
theorem ggX6_slack_X6_areTwo : GoodIn wsX6_slack wsX6_areTwo := goodIn_r _ [6, 7, 8, 9, 5, 10, 11, 12, 13, 14, 47, 48, 49, 50, 51, 52, 53, 54, 55, 56] (by decide +kernel) (by decide +kernel)
set_option maxRecDepth 20000 in
theorem gX6_slack_X6_areTwo : GoodIn wsX6_slack (wsV RX6 170 RX6 yX6_areTwo wsX6_areTwo) := goodIn_app (goodIn_of _ (by decide +kernel)) ggX6_slack_X6_areTwo
set_option maxRecDepth 20000 in
theorem ggX6_slack_X6_overlap : GoodIn wsX6_slack wsX6_overlap := goodIn_r _ [18, 11, 19, 20, 21, 5, 22, 23, 24, 25, 26, 27, 28, 29, 30, 31, 32, 33, 34, 47, 48, 49, 50, 51, 52, 53, 54, 55, 56] (by decide +kernel) (by decide +kernel)
set_option maxRecDepth 20000 in
theorem gX6_slack_X6_overlap : GoodIn wsX6_slack (wsV RX6 160 RX6 yX6_overlap wsX6_overlap) := goodIn_app (goodIn_of _ (by decide +kernel)) ggX6_slack_X6_overlap
set_option maxRecDepth 20000 in
theorem ggX6_slack_X6_slackOf : GoodIn wsX6_slack wsX6_slackOf := goodIn_r _ [38, 39, 40, 41, 5, 42, 1, 11, 23, 24, 25, 26, 27, 28, 29, 30, 31, 32, 33, 34, 19, 20, 21, 22, 43, 44, 45, 46, 47, 48, 49, 50, 51, 52, 53, 54, 55, 56] (by decide +kernel) (by decide +kernel)
set_option maxRecDepth 20000 in
theorem gX6_slack_X6_slackOf : GoodIn wsX6_slack (wsV RX6 173 RX6 yX6_slackOf wsX6_slackOf) := goodIn_app (goodIn_of _ (by decide +kernel)) ggX6_slack_X6_slackOf
theorem dX6_slack_0 : decode cX6_slack 0 = .ok (.aload_n 0, 1) := by decide +kernel
theorem dX6_slack_1 : decode cX6_slack 1 = .ok (.iload_n 1, 1) := by decide +kernel
theorem dX6_slack_2 : decode cX6_slack 2 = .ok (.iload_n 2, 1) := by decide +kernel
theorem dX6_slack_3 : decode cX6_slack 3 = .ok (.invokevirtual 170, 3) := by decide +kernel
theorem dX6_slack_6 : decode cX6_slack 6 = .ok (.ifCond .ne 7, 3) := by decide +kernel
theorem dX6_slack_9 : decode cX6_slack 9 = .ok (.sipush (-1001), 3) := by decide +kernel
theorem dX6_slack_12 : decode cX6_slack 12 = .ok (.ireturn, 1) := by decide +kernel
theorem dX6_slack_13 : decode cX6_slack 13 = .ok (.aload_n 0, 1) := by decide +kernel
theorem dX6_slack_14 : decode cX6_slack 14 = .ok (.iload_n 1, 1) := by decide +kernel
theorem dX6_slack_15 : decode cX6_slack 15 = .ok (.iload_n 2, 1) := by decide +kernel
theorem dX6_slack_16 : decode cX6_slack 16 = .ok (.invokevirtual 160, 3) := by decide +kernel
theorem dX6_slack_19 : decode cX6_slack 19 = .ok (.ifCond .eq 7, 3) := by decide +kernel
theorem dX6_slack_22 : decode cX6_slack 22 = .ok (.sipush (-1002), 3) := by decide +kernel
theorem dX6_slack_25 : decode cX6_slack 25 = .ok (.ireturn, 1) := by decide +kernel
theorem dX6_slack_26 : decode cX6_slack 26 = .ok (.aload_n 0, 1) := by decide +kernel
theorem dX6_slack_27 : decode cX6_slack 27 = .ok (.iload_n 1, 1) := by decide +kernel
theorem dX6_slack_28 : decode cX6_slack 28 = .ok (.iload_n 2, 1) := by decide +kernel
theorem dX6_slack_29 : decode cX6_slack 29 = .ok (.invokevirtual 173, 3) := by decide +kernel
theorem dX6_slack_32 : decode cX6_slack 32 = .ok (.istore_n 3, 1) := by decide +kernel
theorem dX6_slack_33 : decode cX6_slack 33 = .ok (.iload_n 3, 1) := by decide +kernel
theorem dX6_slack_34 : decode cX6_slack 34 = .ok (.ldc 155, 2) := by decide +kernel
theorem dX6_slack_36 : decode cX6_slack 36 = .ok (.if_icmp .ne 9, 3) := by decide +kernel
theorem dX6_slack_39 : decode cX6_slack 39 = .ok (.sipush (-1004), 3) := by decide +kernel
theorem dX6_slack_42 : decode cX6_slack 42 = .ok (.goto 4, 3) := by decide +kernel
theorem dX6_slack_45 : decode cX6_slack 45 = .ok (.iload_n 3, 1) := by decide +kernel
theorem dX6_slack_46 : decode cX6_slack 46 = .ok (.ireturn, 1) := by decide +kernel
set_option maxRecDepth 20000 in
theorem ggX6_actorOf_X6_isRole : GoodIn wsX6_actorOf wsX6_isRole := goodIn_r _ [6, 1, 7, 8, 5, 9, 10, 11, 12, 13, 14, 15, 16, 17, 18, 19] (by decide +kernel) (by decide +kernel)
set_option maxRecDepth 20000 in
theorem gX6_actorOf_X6_isRole : GoodIn wsX6_actorOf (wsV RX6 109 RX6 yX6_isRole wsX6_isRole) := goodIn_app (goodIn_of _ (by decide +kernel)) ggX6_actorOf_X6_isRole
theorem dX6_actorOf_0 : decode cX6_actorOf 0 = .ok (.aload_n 0, 1) := by decide +kernel
theorem dX6_actorOf_1 : decode cX6_actorOf 1 = .ok (.iload_n 1, 1) := by decide +kernel
theorem dX6_actorOf_2 : decode cX6_actorOf 2 = .ok (.invokevirtual 109, 3) := by decide +kernel
theorem dX6_actorOf_5 : decode cX6_actorOf 5 = .ok (.ifCond .ne 7, 3) := by decide +kernel
theorem dX6_actorOf_8 : decode cX6_actorOf 8 = .ok (.sipush (-1001), 3) := by decide +kernel
theorem dX6_actorOf_11 : decode cX6_actorOf 11 = .ok (.ireturn, 1) := by decide +kernel
theorem dX6_actorOf_12 : decode cX6_actorOf 12 = .ok (.aload_n 0, 1) := by decide +kernel
theorem dX6_actorOf_13 : decode cX6_actorOf 13 = .ok (.getfield 7, 3) := by decide +kernel
theorem dX6_actorOf_16 : decode cX6_actorOf 16 = .ok (.bipush 36, 2) := by decide +kernel
theorem dX6_actorOf_18 : decode cX6_actorOf 18 = .ok (.iload_n 1, 1) := by decide +kernel
theorem dX6_actorOf_19 : decode cX6_actorOf 19 = .ok (.iadd, 1) := by decide +kernel
theorem dX6_actorOf_20 : decode cX6_actorOf 20 = .ok (.iaload, 1) := by decide +kernel
theorem dX6_actorOf_21 : decode cX6_actorOf 21 = .ok (.iconst (-1), 1) := by decide +kernel
theorem dX6_actorOf_22 : decode cX6_actorOf 22 = .ok (.if_icmp .ne 9, 3) := by decide +kernel
theorem dX6_actorOf_25 : decode cX6_actorOf 25 = .ok (.sipush (-1004), 3) := by decide +kernel
theorem dX6_actorOf_28 : decode cX6_actorOf 28 = .ok (.goto 12, 3) := by decide +kernel
theorem dX6_actorOf_31 : decode cX6_actorOf 31 = .ok (.aload_n 0, 1) := by decide +kernel
theorem dX6_actorOf_32 : decode cX6_actorOf 32 = .ok (.getfield 7, 3) := by decide +kernel
theorem dX6_actorOf_35 : decode cX6_actorOf 35 = .ok (.bipush 36, 2) := by decide +kernel
theorem dX6_actorOf_37 : decode cX6_actorOf 37 = .ok (.iload_n 1, 1) := by decide +kernel
theorem dX6_actorOf_38 : decode cX6_actorOf 38 = .ok (.iadd, 1) := by decide +kernel
theorem dX6_actorOf_39 : decode cX6_actorOf 39 = .ok (.iaload, 1) := by decide +kernel
theorem dX6_actorOf_40 : decode cX6_actorOf 40 = .ok (.ireturn, 1) := by decide +kernel
set_option maxRecDepth 20000 in
theorem ggX6_rolesOf_X6_isActor : GoodIn wsX6_rolesOf wsX6_isActor := goodIn_r _ [4, 5, 6, 7, 3, 8] (by decide +kernel) (by decide +kernel)
set_option maxRecDepth 20000 in
theorem gX6_rolesOf_X6_isActor : GoodIn wsX6_rolesOf (va_wsS RX6 124 yX6_isActor wsX6_isActor) := goodIn_app (goodIn_of _ (by decide +kernel)) ggX6_rolesOf_X6_isActor
set_option maxRecDepth 20000 in
theorem ggX6_rolesOf_X6_castBy : GoodIn wsX6_rolesOf wsX6_castBy := goodIn_r _ [12, 13, 14, 15, 16, 17, 18, 19, 20, 21, 22, 23] (by decide +kernel) (by decide +kernel)
set_option maxRecDepth 20000 in
theorem gX6_rolesOf_X6_castBy : GoodIn wsX6_rolesOf (wsV RX6 127 RX6 yX6_castBy wsX6_castBy) := goodIn_app (goodIn_of _ (by decide +kernel)) ggX6_rolesOf_X6_castBy
theorem dX6_rolesOf_0 : decode cX6_rolesOf 0 = .ok (.iload_n 1, 1) := by decide +kernel
theorem dX6_rolesOf_1 : decode cX6_rolesOf 1 = .ok (.invokestatic 124, 3) := by decide +kernel
theorem dX6_rolesOf_4 : decode cX6_rolesOf 4 = .ok (.ifCond .eq 11, 3) := by decide +kernel
theorem dX6_rolesOf_7 : decode cX6_rolesOf 7 = .ok (.aload_n 0, 1) := by decide +kernel
theorem dX6_rolesOf_8 : decode cX6_rolesOf 8 = .ok (.iload_n 1, 1) := by decide +kernel
theorem dX6_rolesOf_9 : decode cX6_rolesOf 9 = .ok (.invokevirtual 127, 3) := by decide +kernel
theorem dX6_rolesOf_12 : decode cX6_rolesOf 12 = .ok (.goto 6, 3) := by decide +kernel
theorem dX6_rolesOf_15 : decode cX6_rolesOf 15 = .ok (.sipush (-1001), 3) := by decide +kernel
theorem dX6_rolesOf_18 : decode cX6_rolesOf 18 = .ok (.ireturn, 1) := by decide +kernel
set_option maxRecDepth 20000 in
theorem ggX6_tightestChange_X6_isActor : GoodIn wsX6_tightestChange wsX6_isActor := goodIn_r _ [6, 7, 8, 9, 5, 10] (by decide +kernel) (by decide +kernel)
set_option maxRecDepth 20000 in
theorem gX6_tightestChange_X6_isActor : GoodIn wsX6_tightestChange (va_wsS RX6 124 yX6_isActor wsX6_isActor) := goodIn_app (goodIn_of _ (by decide +kernel)) ggX6_tightestChange_X6_isActor
set_option maxRecDepth 20000 in
theorem ggX6_tightestChange_X6_slackOf : GoodIn wsX6_tightestChange wsX6_slackOf := goodIn_r _ [14, 15, 16, 17, 5, 18, 1, 2, 19, 20, 21, 22, 23, 24, 25, 26, 27, 28, 29, 30, 31, 32, 33, 34, 35, 36, 37, 38, 39, 40, 41, 42, 43, 44, 45, 46, 47, 48] (by decide +kernel) (by decide +kernel)
set_option maxRecDepth 20000 in
theorem gX6_tightestChange_X6_slackOf : GoodIn wsX6_tightestChange (wsV RX6 173 RX6 yX6_slackOf wsX6_slackOf) := goodIn_app (goodIn_of _ (by decide +kernel)) ggX6_tightestChange_X6_slackOf
theorem dX6_tightestChange_0 : decode cX6_tightestChange 0 = .ok (.iload_n 1, 1) := by decide +kernel
theorem dX6_tightestChange_1 : decode cX6_tightestChange 1 = .ok (.invokestatic 124, 3) := by decide +kernel
theorem dX6_tightestChange_4 : decode cX6_tightestChange 4 = .ok (.ifCond .ne 7, 3) := by decide +kernel
theorem dX6_tightestChange_7 : decode cX6_tightestChange 7 = .ok (.sipush (-1001), 3) := by decide +kernel
theorem dX6_tightestChange_10 : decode cX6_tightestChange 10 = .ok (.ireturn, 1) := by decide +kernel
theorem dX6_tightestChange_11 : decode cX6_tightestChange 11 = .ok (.ldc 155, 2) := by decide +kernel
theorem dX6_tightestChange_13 : decode cX6_tightestChange 13 = .ok (.istore_n 2, 1) := by decide +kernel
theorem dX6_tightestChange_14 : decode cX6_tightestChange 14 = .ok (.iconst 0, 1) := by decide +kernel
theorem dX6_tightestChange_15 : decode cX6_tightestChange 15 = .ok (.istore_n 3, 1) := by decide +kernel
theorem dX6_tightestChange_16 : decode cX6_tightestChange 16 = .ok (.iload_n 3, 1) := by decide +kernel
theorem dX6_tightestChange_17 : decode cX6_tightestChange 17 = .ok (.aload_n 0, 1) := by decide +kernel
theorem dX6_tightestChange_18 : decode cX6_tightestChange 18 = .ok (.getfield 7, 3) := by decide +kernel
theorem dX6_tightestChange_21 : decode cX6_tightestChange 21 = .ok (.bipush 11, 2) := by decide +kernel
theorem dX6_tightestChange_23 : decode cX6_tightestChange 23 = .ok (.iaload, 1) := by decide +kernel
theorem dX6_tightestChange_24 : decode cX6_tightestChange 24 = .ok (.if_icmp .ge 73, 3) := by decide +kernel
theorem dX6_tightestChange_27 : decode cX6_tightestChange 27 = .ok (.iconst 0, 1) := by decide +kernel
theorem dX6_tightestChange_28 : decode cX6_tightestChange 28 = .ok (.istore 4, 2) := by decide +kernel
theorem dX6_tightestChange_30 : decode cX6_tightestChange 30 = .ok (.iload 4, 2) := by decide +kernel
theorem dX6_tightestChange_32 : decode cX6_tightestChange 32 = .ok (.iload_n 3, 1) := by decide +kernel
theorem dX6_tightestChange_33 : decode cX6_tightestChange 33 = .ok (.if_icmp .ge 58, 3) := by decide +kernel
theorem dX6_tightestChange_36 : decode cX6_tightestChange 36 = .ok (.aload_n 0, 1) := by decide +kernel
theorem dX6_tightestChange_37 : decode cX6_tightestChange 37 = .ok (.getfield 7, 3) := by decide +kernel
theorem dX6_tightestChange_40 : decode cX6_tightestChange 40 = .ok (.bipush 36, 2) := by decide +kernel
theorem dX6_tightestChange_42 : decode cX6_tightestChange 42 = .ok (.iload_n 3, 1) := by decide +kernel
theorem dX6_tightestChange_43 : decode cX6_tightestChange 43 = .ok (.iadd, 1) := by decide +kernel
theorem dX6_tightestChange_44 : decode cX6_tightestChange 44 = .ok (.iaload, 1) := by decide +kernel
theorem dX6_tightestChange_45 : decode cX6_tightestChange 45 = .ok (.iload_n 1, 1) := by decide +kernel
theorem dX6_tightestChange_46 : decode cX6_tightestChange 46 = .ok (.if_icmp .ne 39, 3) := by decide +kernel
theorem dX6_tightestChange_49 : decode cX6_tightestChange 49 = .ok (.aload_n 0, 1) := by decide +kernel
theorem dX6_tightestChange_50 : decode cX6_tightestChange 50 = .ok (.getfield 7, 3) := by decide +kernel
theorem dX6_tightestChange_53 : decode cX6_tightestChange 53 = .ok (.bipush 36, 2) := by decide +kernel
theorem dX6_tightestChange_55 : decode cX6_tightestChange 55 = .ok (.iload 4, 2) := by decide +kernel
theorem dX6_tightestChange_57 : decode cX6_tightestChange 57 = .ok (.iadd, 1) := by decide +kernel
theorem dX6_tightestChange_58 : decode cX6_tightestChange 58 = .ok (.iaload, 1) := by decide +kernel
theorem dX6_tightestChange_59 : decode cX6_tightestChange 59 = .ok (.iload_n 1, 1) := by decide +kernel
theorem dX6_tightestChange_60 : decode cX6_tightestChange 60 = .ok (.if_icmp .ne 25, 3) := by decide +kernel
theorem dX6_tightestChange_63 : decode cX6_tightestChange 63 = .ok (.aload_n 0, 1) := by decide +kernel
theorem dX6_tightestChange_64 : decode cX6_tightestChange 64 = .ok (.iload_n 3, 1) := by decide +kernel
theorem dX6_tightestChange_65 : decode cX6_tightestChange 65 = .ok (.iload 4, 2) := by decide +kernel
theorem dX6_tightestChange_67 : decode cX6_tightestChange 67 = .ok (.invokevirtual 173, 3) := by decide +kernel
theorem dX6_tightestChange_70 : decode cX6_tightestChange 70 = .ok (.istore 5, 2) := by decide +kernel
theorem dX6_tightestChange_72 : decode cX6_tightestChange 72 = .ok (.iload 5, 2) := by decide +kernel
theorem dX6_tightestChange_74 : decode cX6_tightestChange 74 = .ok (.iload_n 2, 1) := by decide +kernel
theorem dX6_tightestChange_75 : decode cX6_tightestChange 75 = .ok (.if_icmp .ge 8, 3) := by decide +kernel
theorem dX6_tightestChange_78 : decode cX6_tightestChange 78 = .ok (.iload 5, 2) := by decide +kernel
theorem dX6_tightestChange_80 : decode cX6_tightestChange 80 = .ok (.goto 4, 3) := by decide +kernel
theorem dX6_tightestChange_83 : decode cX6_tightestChange 83 = .ok (.iload_n 2, 1) := by decide +kernel
theorem dX6_tightestChange_84 : decode cX6_tightestChange 84 = .ok (.istore_n 2, 1) := by decide +kernel
theorem dX6_tightestChange_85 : decode cX6_tightestChange 85 = .ok (.iinc 4 1, 3) := by decide +kernel
theorem dX6_tightestChange_88 : decode cX6_tightestChange 88 = .ok (.goto (-58), 3) := by decide +kernel
theorem dX6_tightestChange_91 : decode cX6_tightestChange 91 = .ok (.iinc 3 1, 3) := by decide +kernel
theorem dX6_tightestChange_94 : decode cX6_tightestChange 94 = .ok (.goto (-78), 3) := by decide +kernel
theorem dX6_tightestChange_97 : decode cX6_tightestChange 97 = .ok (.iload_n 2, 1) := by decide +kernel
theorem dX6_tightestChange_98 : decode cX6_tightestChange 98 = .ok (.ldc 155, 2) := by decide +kernel
theorem dX6_tightestChange_100 : decode cX6_tightestChange 100 = .ok (.if_icmp .ne 9, 3) := by decide +kernel
theorem dX6_tightestChange_103 : decode cX6_tightestChange 103 = .ok (.sipush (-1004), 3) := by decide +kernel
theorem dX6_tightestChange_106 : decode cX6_tightestChange 106 = .ok (.goto 4, 3) := by decide +kernel
theorem dX6_tightestChange_109 : decode cX6_tightestChange 109 = .ok (.iload_n 2, 1) := by decide +kernel
theorem dX6_tightestChange_110 : decode cX6_tightestChange 110 = .ok (.ireturn, 1) := by decide +kernel
set_option maxRecDepth 20000 in
theorem ggX6_cliqueNumber_X6_layConflicts : GoodIn wsX6_cliqueNumber wsX6_layConflicts := goodIn_r _ [7, 1, 2, 8, 9, 10, 6, 11, 12, 13, 14, 15, 16, 17, 18, 19, 20, 21, 22, 23, 24, 25, 26, 27, 28, 29, 30, 31, 32, 33, 34, 35, 36, 37, 38, 39, 40, 44, 45, 46, 47, 48, 49, 50, 51, 52, 53] (by decide +kernel) (by decide +kernel)
set_option maxRecDepth 20000 in
theorem gX6_cliqueNumber_X6_layConflicts : GoodIn wsX6_cliqueNumber (wsV RX6 106 RX6 yX6_layConflicts wsX6_layConflicts) := goodIn_app (goodIn_of _ (by decide +kernel)) ggX6_cliqueNumber_X6_layConflicts
set_option maxRecDepth 20000 in
theorem ggX6_cliqueNumber_X6_ones : GoodIn wsX6_cliqueNumber wsX6_ones := goodIn_r _ [43] (by decide +kernel) (by decide +kernel)
set_option maxRecDepth 20000 in
theorem gX6_cliqueNumber_X6_ones : GoodIn wsX6_cliqueNumber (va_wsS RX6 131 yX6_ones wsX6_ones) := goodIn_app (goodIn_of _ (by decide +kernel)) ggX6_cliqueNumber_X6_ones
theorem dX6_cliqueNumber_0 : decode cX6_cliqueNumber 0 = .ok (.aload_n 0, 1) := by decide +kernel
theorem dX6_cliqueNumber_1 : decode cX6_cliqueNumber 1 = .ok (.iconst 0, 1) := by decide +kernel
theorem dX6_cliqueNumber_2 : decode cX6_cliqueNumber 2 = .ok (.invokevirtual 106, 3) := by decide +kernel
theorem dX6_cliqueNumber_5 : decode cX6_cliqueNumber 5 = .ok (.iconst 0, 1) := by decide +kernel
theorem dX6_cliqueNumber_6 : decode cX6_cliqueNumber 6 = .ok (.istore_n 1, 1) := by decide +kernel
theorem dX6_cliqueNumber_7 : decode cX6_cliqueNumber 7 = .ok (.iconst 0, 1) := by decide +kernel
theorem dX6_cliqueNumber_8 : decode cX6_cliqueNumber 8 = .ok (.istore_n 2, 1) := by decide +kernel
theorem dX6_cliqueNumber_9 : decode cX6_cliqueNumber 9 = .ok (.iload_n 2, 1) := by decide +kernel
theorem dX6_cliqueNumber_10 : decode cX6_cliqueNumber 10 = .ok (.iconst 1, 1) := by decide +kernel
theorem dX6_cliqueNumber_11 : decode cX6_cliqueNumber 11 = .ok (.aload_n 0, 1) := by decide +kernel
theorem dX6_cliqueNumber_12 : decode cX6_cliqueNumber 12 = .ok (.getfield 7, 3) := by decide +kernel
theorem dX6_cliqueNumber_15 : decode cX6_cliqueNumber 15 = .ok (.bipush 11, 2) := by decide +kernel
theorem dX6_cliqueNumber_17 : decode cX6_cliqueNumber 17 = .ok (.iaload, 1) := by decide +kernel
theorem dX6_cliqueNumber_18 : decode cX6_cliqueNumber 18 = .ok (.ishl, 1) := by decide +kernel
theorem dX6_cliqueNumber_19 : decode cX6_cliqueNumber 19 = .ok (.if_icmp .ge 90, 3) := by decide +kernel
theorem dX6_cliqueNumber_22 : decode cX6_cliqueNumber 22 = .ok (.iconst 1, 1) := by decide +kernel
theorem dX6_cliqueNumber_23 : decode cX6_cliqueNumber 23 = .ok (.istore_n 3, 1) := by decide +kernel
theorem dX6_cliqueNumber_24 : decode cX6_cliqueNumber 24 = .ok (.iconst 0, 1) := by decide +kernel
theorem dX6_cliqueNumber_25 : decode cX6_cliqueNumber 25 = .ok (.istore 4, 2) := by decide +kernel
theorem dX6_cliqueNumber_27 : decode cX6_cliqueNumber 27 = .ok (.iload 4, 2) := by decide +kernel
theorem dX6_cliqueNumber_29 : decode cX6_cliqueNumber 29 = .ok (.aload_n 0, 1) := by decide +kernel
theorem dX6_cliqueNumber_30 : decode cX6_cliqueNumber 30 = .ok (.getfield 7, 3) := by decide +kernel
theorem dX6_cliqueNumber_33 : decode cX6_cliqueNumber 33 = .ok (.bipush 11, 2) := by decide +kernel
theorem dX6_cliqueNumber_35 : decode cX6_cliqueNumber 35 = .ok (.iaload, 1) := by decide +kernel
theorem dX6_cliqueNumber_36 : decode cX6_cliqueNumber 36 = .ok (.if_icmp .ge 46, 3) := by decide +kernel
theorem dX6_cliqueNumber_39 : decode cX6_cliqueNumber 39 = .ok (.iload_n 3, 1) := by decide +kernel
theorem dX6_cliqueNumber_40 : decode cX6_cliqueNumber 40 = .ok (.ifCond .eq 34, 3) := by decide +kernel
theorem dX6_cliqueNumber_43 : decode cX6_cliqueNumber 43 = .ok (.iload_n 2, 1) := by decide +kernel
theorem dX6_cliqueNumber_44 : decode cX6_cliqueNumber 44 = .ok (.iload 4, 2) := by decide +kernel
theorem dX6_cliqueNumber_46 : decode cX6_cliqueNumber 46 = .ok (.ishr, 1) := by decide +kernel
theorem dX6_cliqueNumber_47 : decode cX6_cliqueNumber 47 = .ok (.iconst 1, 1) := by decide +kernel
theorem dX6_cliqueNumber_48 : decode cX6_cliqueNumber 48 = .ok (.iand, 1) := by decide +kernel
theorem dX6_cliqueNumber_49 : decode cX6_cliqueNumber 49 = .ok (.ifCond .eq 21, 3) := by decide +kernel
theorem dX6_cliqueNumber_52 : decode cX6_cliqueNumber 52 = .ok (.iload_n 2, 1) := by decide +kernel
theorem dX6_cliqueNumber_53 : decode cX6_cliqueNumber 53 = .ok (.aload_n 0, 1) := by decide +kernel
theorem dX6_cliqueNumber_54 : decode cX6_cliqueNumber 54 = .ok (.getfield 22, 3) := by decide +kernel
theorem dX6_cliqueNumber_57 : decode cX6_cliqueNumber 57 = .ok (.iload 4, 2) := by decide +kernel
theorem dX6_cliqueNumber_59 : decode cX6_cliqueNumber 59 = .ok (.iaload, 1) := by decide +kernel
theorem dX6_cliqueNumber_60 : decode cX6_cliqueNumber 60 = .ok (.iconst (-1), 1) := by decide +kernel
theorem dX6_cliqueNumber_61 : decode cX6_cliqueNumber 61 = .ok (.ixor, 1) := by decide +kernel
theorem dX6_cliqueNumber_62 : decode cX6_cliqueNumber 62 = .ok (.iand, 1) := by decide +kernel
theorem dX6_cliqueNumber_63 : decode cX6_cliqueNumber 63 = .ok (.iconst 1, 1) := by decide +kernel
theorem dX6_cliqueNumber_64 : decode cX6_cliqueNumber 64 = .ok (.iload 4, 2) := by decide +kernel
theorem dX6_cliqueNumber_66 : decode cX6_cliqueNumber 66 = .ok (.ishl, 1) := by decide +kernel
theorem dX6_cliqueNumber_67 : decode cX6_cliqueNumber 67 = .ok (.if_icmp .ne 7, 3) := by decide +kernel
theorem dX6_cliqueNumber_70 : decode cX6_cliqueNumber 70 = .ok (.iconst 1, 1) := by decide +kernel
theorem dX6_cliqueNumber_71 : decode cX6_cliqueNumber 71 = .ok (.goto 4, 3) := by decide +kernel
theorem dX6_cliqueNumber_74 : decode cX6_cliqueNumber 74 = .ok (.iconst 0, 1) := by decide +kernel
theorem dX6_cliqueNumber_75 : decode cX6_cliqueNumber 75 = .ok (.istore_n 3, 1) := by decide +kernel
theorem dX6_cliqueNumber_76 : decode cX6_cliqueNumber 76 = .ok (.iinc 4 1, 3) := by decide +kernel
theorem dX6_cliqueNumber_79 : decode cX6_cliqueNumber 79 = .ok (.goto (-52), 3) := by decide +kernel
theorem dX6_cliqueNumber_82 : decode cX6_cliqueNumber 82 = .ok (.iload_n 3, 1) := by decide +kernel
theorem dX6_cliqueNumber_83 : decode cX6_cliqueNumber 83 = .ok (.ifCond .eq 18, 3) := by decide +kernel
theorem dX6_cliqueNumber_86 : decode cX6_cliqueNumber 86 = .ok (.iload_n 2, 1) := by decide +kernel
theorem dX6_cliqueNumber_87 : decode cX6_cliqueNumber 87 = .ok (.invokestatic 131, 3) := by decide +kernel
theorem dX6_cliqueNumber_90 : decode cX6_cliqueNumber 90 = .ok (.iload_n 1, 1) := by decide +kernel
theorem dX6_cliqueNumber_91 : decode cX6_cliqueNumber 91 = .ok (.if_icmp .le 10, 3) := by decide +kernel
theorem dX6_cliqueNumber_94 : decode cX6_cliqueNumber 94 = .ok (.iload_n 2, 1) := by decide +kernel
theorem dX6_cliqueNumber_95 : decode cX6_cliqueNumber 95 = .ok (.invokestatic 131, 3) := by decide +kernel
theorem dX6_cliqueNumber_98 : decode cX6_cliqueNumber 98 = .ok (.goto 4, 3) := by decide +kernel
theorem dX6_cliqueNumber_101 : decode cX6_cliqueNumber 101 = .ok (.iload_n 1, 1) := by decide +kernel
theorem dX6_cliqueNumber_102 : decode cX6_cliqueNumber 102 = .ok (.istore_n 1, 1) := by decide +kernel
theorem dX6_cliqueNumber_103 : decode cX6_cliqueNumber 103 = .ok (.iinc 2 1, 3) := by decide +kernel
theorem dX6_cliqueNumber_106 : decode cX6_cliqueNumber 106 = .ok (.goto (-97), 3) := by decide +kernel
theorem dX6_cliqueNumber_109 : decode cX6_cliqueNumber 109 = .ok (.iload_n 1, 1) := by decide +kernel
theorem dX6_cliqueNumber_110 : decode cX6_cliqueNumber 110 = .ok (.ireturn, 1) := by decide +kernel
theorem dX6_mayHave_0 : decode cX6_mayHave 0 = .ok (.iconst 1, 1) := by decide +kernel
theorem dX6_mayHave_1 : decode cX6_mayHave 1 = .ok (.istore_n 3, 1) := by decide +kernel
theorem dX6_mayHave_2 : decode cX6_mayHave 2 = .ok (.iconst 0, 1) := by decide +kernel
theorem dX6_mayHave_3 : decode cX6_mayHave 3 = .ok (.istore 4, 2) := by decide +kernel
theorem dX6_mayHave_5 : decode cX6_mayHave 5 = .ok (.iload 4, 2) := by decide +kernel
theorem dX6_mayHave_7 : decode cX6_mayHave 7 = .ok (.iload_n 1, 1) := by decide +kernel
theorem dX6_mayHave_8 : decode cX6_mayHave 8 = .ok (.if_icmp .ge 44, 3) := by decide +kernel
theorem dX6_mayHave_11 : decode cX6_mayHave 11 = .ok (.iload_n 3, 1) := by decide +kernel
theorem dX6_mayHave_12 : decode cX6_mayHave 12 = .ok (.ifCond .eq 32, 3) := by decide +kernel
theorem dX6_mayHave_15 : decode cX6_mayHave 15 = .ok (.aload_n 0, 1) := by decide +kernel
theorem dX6_mayHave_16 : decode cX6_mayHave 16 = .ok (.getfield 25, 3) := by decide +kernel
theorem dX6_mayHave_19 : decode cX6_mayHave 19 = .ok (.iload 4, 2) := by decide +kernel
theorem dX6_mayHave_21 : decode cX6_mayHave 21 = .ok (.iaload, 1) := by decide +kernel
theorem dX6_mayHave_22 : decode cX6_mayHave 22 = .ok (.iload_n 2, 1) := by decide +kernel
theorem dX6_mayHave_23 : decode cX6_mayHave 23 = .ok (.if_icmp .ne 17, 3) := by decide +kernel
theorem dX6_mayHave_26 : decode cX6_mayHave 26 = .ok (.aload_n 0, 1) := by decide +kernel
theorem dX6_mayHave_27 : decode cX6_mayHave 27 = .ok (.getfield 22, 3) := by decide +kernel
theorem dX6_mayHave_30 : decode cX6_mayHave 30 = .ok (.iload_n 1, 1) := by decide +kernel
theorem dX6_mayHave_31 : decode cX6_mayHave 31 = .ok (.iaload, 1) := by decide +kernel
theorem dX6_mayHave_32 : decode cX6_mayHave 32 = .ok (.iload 4, 2) := by decide +kernel
theorem dX6_mayHave_34 : decode cX6_mayHave 34 = .ok (.ishr, 1) := by decide +kernel
theorem dX6_mayHave_35 : decode cX6_mayHave 35 = .ok (.iconst 1, 1) := by decide +kernel
theorem dX6_mayHave_36 : decode cX6_mayHave 36 = .ok (.iand, 1) := by decide +kernel
theorem dX6_mayHave_37 : decode cX6_mayHave 37 = .ok (.ifCond .ne 7, 3) := by decide +kernel
theorem dX6_mayHave_40 : decode cX6_mayHave 40 = .ok (.iconst 1, 1) := by decide +kernel
theorem dX6_mayHave_41 : decode cX6_mayHave 41 = .ok (.goto 4, 3) := by decide +kernel
theorem dX6_mayHave_44 : decode cX6_mayHave 44 = .ok (.iconst 0, 1) := by decide +kernel
theorem dX6_mayHave_45 : decode cX6_mayHave 45 = .ok (.istore_n 3, 1) := by decide +kernel
theorem dX6_mayHave_46 : decode cX6_mayHave 46 = .ok (.iinc 4 1, 3) := by decide +kernel
theorem dX6_mayHave_49 : decode cX6_mayHave 49 = .ok (.goto (-44), 3) := by decide +kernel
theorem dX6_mayHave_52 : decode cX6_mayHave 52 = .ok (.iload_n 3, 1) := by decide +kernel
theorem dX6_mayHave_53 : decode cX6_mayHave 53 = .ok (.ireturn, 1) := by decide +kernel
set_option maxRecDepth 20000 in
theorem ggX6_isGiven_X6_mayHave : GoodIn wsX6_isGiven wsX6_mayHave := goodIn_r _ [7, 1, 8, 9, 10, 11, 12, 13, 14, 15, 16, 17, 18] (by decide +kernel) (by decide +kernel)
set_option maxRecDepth 20000 in
theorem gX6_isGiven_X6_mayHave : GoodIn wsX6_isGiven (wsV RX6 177 RX6 yX6_mayHave wsX6_mayHave) := goodIn_app (goodIn_of _ (by decide +kernel)) ggX6_isGiven_X6_mayHave
theorem dX6_isGiven_0 : decode cX6_isGiven 0 = .ok (.iconst 0, 1) := by decide +kernel
theorem dX6_isGiven_1 : decode cX6_isGiven 1 = .ok (.istore_n 2, 1) := by decide +kernel
theorem dX6_isGiven_2 : decode cX6_isGiven 2 = .ok (.aload_n 0, 1) := by decide +kernel
theorem dX6_isGiven_3 : decode cX6_isGiven 3 = .ok (.getfield 25, 3) := by decide +kernel
theorem dX6_isGiven_6 : decode cX6_isGiven 6 = .ok (.iconst 0, 1) := by decide +kernel
theorem dX6_isGiven_7 : decode cX6_isGiven 7 = .ok (.iconst (-1), 1) := by decide +kernel
theorem dX6_isGiven_8 : decode cX6_isGiven 8 = .ok (.iastore, 1) := by decide +kernel
theorem dX6_isGiven_9 : decode cX6_isGiven 9 = .ok (.iload_n 2, 1) := by decide +kernel
theorem dX6_isGiven_10 : decode cX6_isGiven 10 = .ok (.ifCond .lt 101, 3) := by decide +kernel
theorem dX6_isGiven_13 : decode cX6_isGiven 13 = .ok (.iload_n 2, 1) := by decide +kernel
theorem dX6_isGiven_14 : decode cX6_isGiven 14 = .ok (.aload_n 0, 1) := by decide +kernel
theorem dX6_isGiven_15 : decode cX6_isGiven 15 = .ok (.getfield 7, 3) := by decide +kernel
theorem dX6_isGiven_18 : decode cX6_isGiven 18 = .ok (.bipush 11, 2) := by decide +kernel
theorem dX6_isGiven_20 : decode cX6_isGiven 20 = .ok (.iaload, 1) := by decide +kernel
theorem dX6_isGiven_21 : decode cX6_isGiven 21 = .ok (.if_icmp .ge 90, 3) := by decide +kernel
theorem dX6_isGiven_24 : decode cX6_isGiven 24 = .ok (.aload_n 0, 1) := by decide +kernel
theorem dX6_isGiven_25 : decode cX6_isGiven 25 = .ok (.getfield 25, 3) := by decide +kernel
theorem dX6_isGiven_28 : decode cX6_isGiven 28 = .ok (.iload_n 2, 1) := by decide +kernel
theorem dX6_isGiven_29 : decode cX6_isGiven 29 = .ok (.dup2, 1) := by decide +kernel
theorem dX6_isGiven_30 : decode cX6_isGiven 30 = .ok (.iaload, 1) := by decide +kernel
theorem dX6_isGiven_31 : decode cX6_isGiven 31 = .ok (.iconst 1, 1) := by decide +kernel
theorem dX6_isGiven_32 : decode cX6_isGiven 32 = .ok (.iadd, 1) := by decide +kernel
theorem dX6_isGiven_33 : decode cX6_isGiven 33 = .ok (.iastore, 1) := by decide +kernel
theorem dX6_isGiven_34 : decode cX6_isGiven 34 = .ok (.aload_n 0, 1) := by decide +kernel
theorem dX6_isGiven_35 : decode cX6_isGiven 35 = .ok (.getfield 25, 3) := by decide +kernel
theorem dX6_isGiven_38 : decode cX6_isGiven 38 = .ok (.iload_n 2, 1) := by decide +kernel
theorem dX6_isGiven_39 : decode cX6_isGiven 39 = .ok (.iaload, 1) := by decide +kernel
theorem dX6_isGiven_40 : decode cX6_isGiven 40 = .ok (.iload_n 1, 1) := by decide +kernel
theorem dX6_isGiven_41 : decode cX6_isGiven 41 = .ok (.if_icmp .ge 30, 3) := by decide +kernel
theorem dX6_isGiven_44 : decode cX6_isGiven 44 = .ok (.aload_n 0, 1) := by decide +kernel
theorem dX6_isGiven_45 : decode cX6_isGiven 45 = .ok (.iload_n 2, 1) := by decide +kernel
theorem dX6_isGiven_46 : decode cX6_isGiven 46 = .ok (.aload_n 0, 1) := by decide +kernel
theorem dX6_isGiven_47 : decode cX6_isGiven 47 = .ok (.getfield 25, 3) := by decide +kernel
theorem dX6_isGiven_50 : decode cX6_isGiven 50 = .ok (.iload_n 2, 1) := by decide +kernel
theorem dX6_isGiven_51 : decode cX6_isGiven 51 = .ok (.iaload, 1) := by decide +kernel
theorem dX6_isGiven_52 : decode cX6_isGiven 52 = .ok (.invokevirtual 177, 3) := by decide +kernel
theorem dX6_isGiven_55 : decode cX6_isGiven 55 = .ok (.ifCond .ne 16, 3) := by decide +kernel
theorem dX6_isGiven_58 : decode cX6_isGiven 58 = .ok (.aload_n 0, 1) := by decide +kernel
theorem dX6_isGiven_59 : decode cX6_isGiven 59 = .ok (.getfield 25, 3) := by decide +kernel
theorem dX6_isGiven_62 : decode cX6_isGiven 62 = .ok (.iload_n 2, 1) := by decide +kernel
theorem dX6_isGiven_63 : decode cX6_isGiven 63 = .ok (.dup2, 1) := by decide +kernel
theorem dX6_isGiven_64 : decode cX6_isGiven 64 = .ok (.iaload, 1) := by decide +kernel
theorem dX6_isGiven_65 : decode cX6_isGiven 65 = .ok (.iconst 1, 1) := by decide +kernel
theorem dX6_isGiven_66 : decode cX6_isGiven 66 = .ok (.iadd, 1) := by decide +kernel
theorem dX6_isGiven_67 : decode cX6_isGiven 67 = .ok (.iastore, 1) := by decide +kernel
theorem dX6_isGiven_68 : decode cX6_isGiven 68 = .ok (.goto (-34), 3) := by decide +kernel
theorem dX6_isGiven_71 : decode cX6_isGiven 71 = .ok (.aload_n 0, 1) := by decide +kernel
theorem dX6_isGiven_72 : decode cX6_isGiven 72 = .ok (.getfield 25, 3) := by decide +kernel
theorem dX6_isGiven_75 : decode cX6_isGiven 75 = .ok (.iload_n 2, 1) := by decide +kernel
theorem dX6_isGiven_76 : decode cX6_isGiven 76 = .ok (.iaload, 1) := by decide +kernel
theorem dX6_isGiven_77 : decode cX6_isGiven 77 = .ok (.iload_n 1, 1) := by decide +kernel
theorem dX6_isGiven_78 : decode cX6_isGiven 78 = .ok (.if_icmp .ge 27, 3) := by decide +kernel
theorem dX6_isGiven_81 : decode cX6_isGiven 81 = .ok (.iinc 2 1, 3) := by decide +kernel
theorem dX6_isGiven_84 : decode cX6_isGiven 84 = .ok (.iload_n 2, 1) := by decide +kernel
theorem dX6_isGiven_85 : decode cX6_isGiven 85 = .ok (.aload_n 0, 1) := by decide +kernel
theorem dX6_isGiven_86 : decode cX6_isGiven 86 = .ok (.getfield 7, 3) := by decide +kernel
theorem dX6_isGiven_89 : decode cX6_isGiven 89 = .ok (.bipush 11, 2) := by decide +kernel
theorem dX6_isGiven_91 : decode cX6_isGiven 91 = .ok (.iaload, 1) := by decide +kernel
theorem dX6_isGiven_92 : decode cX6_isGiven 92 = .ok (.if_icmp .ge (-83), 3) := by decide +kernel
theorem dX6_isGiven_95 : decode cX6_isGiven 95 = .ok (.aload_n 0, 1) := by decide +kernel
theorem dX6_isGiven_96 : decode cX6_isGiven 96 = .ok (.getfield 25, 3) := by decide +kernel
theorem dX6_isGiven_99 : decode cX6_isGiven 99 = .ok (.iload_n 2, 1) := by decide +kernel
theorem dX6_isGiven_100 : decode cX6_isGiven 100 = .ok (.iconst (-1), 1) := by decide +kernel
theorem dX6_isGiven_101 : decode cX6_isGiven 101 = .ok (.iastore, 1) := by decide +kernel
theorem dX6_isGiven_102 : decode cX6_isGiven 102 = .ok (.goto (-93), 3) := by decide +kernel
theorem dX6_isGiven_105 : decode cX6_isGiven 105 = .ok (.iinc 2 (-1), 3) := by decide +kernel
theorem dX6_isGiven_108 : decode cX6_isGiven 108 = .ok (.goto (-99), 3) := by decide +kernel
theorem dX6_isGiven_111 : decode cX6_isGiven 111 = .ok (.iload_n 2, 1) := by decide +kernel
theorem dX6_isGiven_112 : decode cX6_isGiven 112 = .ok (.ifCond .le 7, 3) := by decide +kernel
theorem dX6_isGiven_115 : decode cX6_isGiven 115 = .ok (.iconst 1, 1) := by decide +kernel
theorem dX6_isGiven_116 : decode cX6_isGiven 116 = .ok (.goto 4, 3) := by decide +kernel
theorem dX6_isGiven_119 : decode cX6_isGiven 119 = .ok (.iconst 0, 1) := by decide +kernel
theorem dX6_isGiven_120 : decode cX6_isGiven 120 = .ok (.ireturn, 1) := by decide +kernel
set_option maxRecDepth 20000 in
theorem ggX6_leastFor_X6_layConflicts : GoodIn wsX6_leastFor wsX6_layConflicts := goodIn_r _ [5, 6, 7, 8, 9, 10, 4, 11, 12, 13, 14, 15, 16, 17, 18, 19, 20, 21, 22, 23, 24, 25, 26, 27, 28, 29, 30, 31, 32, 33, 34, 35, 36, 37, 38, 39, 40, 50, 51, 52, 53, 54, 55, 56, 57, 58, 59] (by decide +kernel) (by decide +kernel)
set_option maxRecDepth 20000 in
theorem gX6_leastFor_X6_layConflicts : GoodIn wsX6_leastFor (wsV RX6 106 RX6 yX6_layConflicts wsX6_layConflicts) := goodIn_app (goodIn_of _ (by decide +kernel)) ggX6_leastFor_X6_layConflicts
set_option maxRecDepth 20000 in
theorem ggX6_leastFor_X6_isGiven : GoodIn wsX6_leastFor wsX6_isGiven := goodIn_r _ [44, 45, 6, 46, 47, 48, 4, 49, 7, 50, 51, 52, 53, 54, 55, 56, 57, 58, 59] (by decide +kernel) (by decide +kernel)
set_option maxRecDepth 20000 in
theorem gX6_leastFor_X6_isGiven : GoodIn wsX6_leastFor (wsV RX6 180 RX6 yX6_isGiven wsX6_isGiven) := goodIn_app (goodIn_of _ (by decide +kernel)) ggX6_leastFor_X6_isGiven
theorem dX6_leastFor_0 : decode cX6_leastFor 0 = .ok (.aload_n 0, 1) := by decide +kernel
theorem dX6_leastFor_1 : decode cX6_leastFor 1 = .ok (.iload_n 1, 1) := by decide +kernel
theorem dX6_leastFor_2 : decode cX6_leastFor 2 = .ok (.invokevirtual 106, 3) := by decide +kernel
theorem dX6_leastFor_5 : decode cX6_leastFor 5 = .ok (.iconst 1, 1) := by decide +kernel
theorem dX6_leastFor_6 : decode cX6_leastFor 6 = .ok (.istore_n 2, 1) := by decide +kernel
theorem dX6_leastFor_7 : decode cX6_leastFor 7 = .ok (.aload_n 0, 1) := by decide +kernel
theorem dX6_leastFor_8 : decode cX6_leastFor 8 = .ok (.iload_n 2, 1) := by decide +kernel
theorem dX6_leastFor_9 : decode cX6_leastFor 9 = .ok (.invokevirtual 180, 3) := by decide +kernel
theorem dX6_leastFor_12 : decode cX6_leastFor 12 = .ok (.ifCond .ne 9, 3) := by decide +kernel
theorem dX6_leastFor_15 : decode cX6_leastFor 15 = .ok (.iinc 2 1, 3) := by decide +kernel
theorem dX6_leastFor_18 : decode cX6_leastFor 18 = .ok (.goto (-11), 3) := by decide +kernel
theorem dX6_leastFor_21 : decode cX6_leastFor 21 = .ok (.iload_n 2, 1) := by decide +kernel
theorem dX6_leastFor_22 : decode cX6_leastFor 22 = .ok (.ireturn, 1) := by decide +kernel
set_option maxRecDepth 20000 in
theorem ggX6_leastCast_X6_leastFor : GoodIn wsX6_leastCast wsX6_leastFor := goodIn_r _ [5, 6, 7, 8, 4, 9, 10, 11, 12, 13, 14, 15, 16, 17, 18, 19, 20, 21, 22, 23, 24, 25, 26, 27, 28, 29, 30, 31, 32, 33, 34, 35, 36, 37, 38, 39, 40, 41, 42, 43, 44, 45, 46, 47, 48, 49, 50, 51, 52, 53, 54, 55, 56, 57, 58, 59, 60, 61, 62, 63] (by decide +kernel) (by decide +kernel)
set_option maxRecDepth 20000 in
theorem gX6_leastCast_X6_leastFor : GoodIn wsX6_leastCast (wsV RX6 134 RX6 yX6_leastFor wsX6_leastFor) := goodIn_app (goodIn_of _ (by decide +kernel)) ggX6_leastCast_X6_leastFor
theorem dX6_leastCast_0 : decode cX6_leastCast 0 = .ok (.aload_n 0, 1) := by decide +kernel
theorem dX6_leastCast_1 : decode cX6_leastCast 1 = .ok (.iconst 0, 1) := by decide +kernel
theorem dX6_leastCast_2 : decode cX6_leastCast 2 = .ok (.invokevirtual 134, 3) := by decide +kernel
theorem dX6_leastCast_5 : decode cX6_leastCast 5 = .ok (.ireturn, 1) := by decide +kernel
set_option maxRecDepth 20000 in
theorem ggX6_firstCastActor_X6_isRole : GoodIn wsX6_firstCastActor wsX6_isRole := goodIn_r _ [6, 7, 8, 9, 5, 10, 61, 62, 63, 64, 65, 66, 67, 68, 69, 70] (by decide +kernel) (by decide +kernel)
set_option maxRecDepth 20000 in
theorem gX6_firstCastActor_X6_isRole : GoodIn wsX6_firstCastActor (wsV RX6 109 RX6 yX6_isRole wsX6_isRole) := goodIn_app (goodIn_of _ (by decide +kernel)) ggX6_firstCastActor_X6_isRole
set_option maxRecDepth 20000 in
theorem ggX6_firstCastActor_X6_leastFor : GoodIn wsX6_firstCastActor wsX6_leastFor := goodIn_r _ [14, 15, 16, 17, 5, 18, 7, 19, 20, 21, 22, 23, 24, 25, 26, 27, 28, 29, 30, 31, 32, 33, 34, 35, 36, 37, 38, 39, 40, 41, 42, 43, 44, 45, 46, 47, 48, 49, 50, 51, 52, 53, 54, 55, 56, 1, 57, 58, 59, 60, 61, 62, 63, 64, 65, 66, 67, 68, 69, 70] (by decide +kernel) (by decide +kernel)
set_option maxRecDepth 20000 in
theorem gX6_firstCastActor_X6_leastFor : GoodIn wsX6_firstCastActor (wsV RX6 134 RX6 yX6_leastFor wsX6_leastFor) := goodIn_app (goodIn_of _ (by decide +kernel)) ggX6_firstCastActor_X6_leastFor
theorem dX6_firstCastActor_0 : decode cX6_firstCastActor 0 = .ok (.aload_n 0, 1) := by decide +kernel
theorem dX6_firstCastActor_1 : decode cX6_firstCastActor 1 = .ok (.iload_n 1, 1) := by decide +kernel
theorem dX6_firstCastActor_2 : decode cX6_firstCastActor 2 = .ok (.invokevirtual 109, 3) := by decide +kernel
theorem dX6_firstCastActor_5 : decode cX6_firstCastActor 5 = .ok (.ifCond .ne 7, 3) := by decide +kernel
theorem dX6_firstCastActor_8 : decode cX6_firstCastActor 8 = .ok (.sipush (-1001), 3) := by decide +kernel
theorem dX6_firstCastActor_11 : decode cX6_firstCastActor 11 = .ok (.ireturn, 1) := by decide +kernel
theorem dX6_firstCastActor_12 : decode cX6_firstCastActor 12 = .ok (.aload_n 0, 1) := by decide +kernel
theorem dX6_firstCastActor_13 : decode cX6_firstCastActor 13 = .ok (.iconst 0, 1) := by decide +kernel
theorem dX6_firstCastActor_14 : decode cX6_firstCastActor 14 = .ok (.invokevirtual 134, 3) := by decide +kernel
theorem dX6_firstCastActor_17 : decode cX6_firstCastActor 17 = .ok (.pop, 1) := by decide +kernel
theorem dX6_firstCastActor_18 : decode cX6_firstCastActor 18 = .ok (.aload_n 0, 1) := by decide +kernel
theorem dX6_firstCastActor_19 : decode cX6_firstCastActor 19 = .ok (.getfield 25, 3) := by decide +kernel
theorem dX6_firstCastActor_22 : decode cX6_firstCastActor 22 = .ok (.iload_n 1, 1) := by decide +kernel
theorem dX6_firstCastActor_23 : decode cX6_firstCastActor 23 = .ok (.iaload, 1) := by decide +kernel
theorem dX6_firstCastActor_24 : decode cX6_firstCastActor 24 = .ok (.ireturn, 1) := by decide +kernel
set_option maxRecDepth 20000 in
theorem ggX6_greedyCast_X6_layConflicts : GoodIn wsX6_greedyCast wsX6_layConflicts := goodIn_r _ [7, 1, 8, 9, 10, 11, 6, 12, 13, 14, 15, 16, 17, 18, 19, 20, 21, 22, 23, 24, 25, 26, 27, 28, 29, 30, 31, 32, 33, 34, 35, 36, 37, 38, 39, 40, 41, 46, 47, 48, 49, 50, 51, 52, 53, 54, 55] (by decide +kernel) (by decide +kernel)
set_option maxRecDepth 20000 in
theorem gX6_greedyCast_X6_layConflicts : GoodIn wsX6_greedyCast (wsV RX6 106 RX6 yX6_layConflicts wsX6_layConflicts) := goodIn_app (goodIn_of _ (by decide +kernel)) ggX6_greedyCast_X6_layConflicts
set_option maxRecDepth 20000 in
theorem ggX6_greedyCast_X6_mayHave : GoodIn wsX6_greedyCast wsX6_mayHave := goodIn_r _ [45, 2, 8, 46, 47, 48, 49, 50, 51, 52, 53, 54, 55] (by decide +kernel) (by decide +kernel)
set_option maxRecDepth 20000 in
theorem gX6_greedyCast_X6_mayHave : GoodIn wsX6_greedyCast (wsV RX6 177 RX6 yX6_mayHave wsX6_mayHave) := goodIn_app (goodIn_of _ (by decide +kernel)) ggX6_greedyCast_X6_mayHave
theorem dX6_greedyCast_0 : decode cX6_greedyCast 0 = .ok (.aload_n 0, 1) := by decide +kernel
theorem dX6_greedyCast_1 : decode cX6_greedyCast 1 = .ok (.iconst 0, 1) := by decide +kernel
theorem dX6_greedyCast_2 : decode cX6_greedyCast 2 = .ok (.invokevirtual 106, 3) := by decide +kernel
theorem dX6_greedyCast_5 : decode cX6_greedyCast 5 = .ok (.iconst 0, 1) := by decide +kernel
theorem dX6_greedyCast_6 : decode cX6_greedyCast 6 = .ok (.istore_n 1, 1) := by decide +kernel
theorem dX6_greedyCast_7 : decode cX6_greedyCast 7 = .ok (.iconst 0, 1) := by decide +kernel
theorem dX6_greedyCast_8 : decode cX6_greedyCast 8 = .ok (.istore_n 2, 1) := by decide +kernel
theorem dX6_greedyCast_9 : decode cX6_greedyCast 9 = .ok (.iload_n 2, 1) := by decide +kernel
theorem dX6_greedyCast_10 : decode cX6_greedyCast 10 = .ok (.aload_n 0, 1) := by decide +kernel
theorem dX6_greedyCast_11 : decode cX6_greedyCast 11 = .ok (.getfield 7, 3) := by decide +kernel
theorem dX6_greedyCast_14 : decode cX6_greedyCast 14 = .ok (.bipush 11, 2) := by decide +kernel
theorem dX6_greedyCast_16 : decode cX6_greedyCast 16 = .ok (.iaload, 1) := by decide +kernel
theorem dX6_greedyCast_17 : decode cX6_greedyCast 17 = .ok (.if_icmp .ge 68, 3) := by decide +kernel
theorem dX6_greedyCast_20 : decode cX6_greedyCast 20 = .ok (.aload_n 0, 1) := by decide +kernel
theorem dX6_greedyCast_21 : decode cX6_greedyCast 21 = .ok (.getfield 25, 3) := by decide +kernel
theorem dX6_greedyCast_24 : decode cX6_greedyCast 24 = .ok (.iload_n 2, 1) := by decide +kernel
theorem dX6_greedyCast_25 : decode cX6_greedyCast 25 = .ok (.iconst 0, 1) := by decide +kernel
theorem dX6_greedyCast_26 : decode cX6_greedyCast 26 = .ok (.iastore, 1) := by decide +kernel
theorem dX6_greedyCast_27 : decode cX6_greedyCast 27 = .ok (.aload_n 0, 1) := by decide +kernel
theorem dX6_greedyCast_28 : decode cX6_greedyCast 28 = .ok (.iload_n 2, 1) := by decide +kernel
theorem dX6_greedyCast_29 : decode cX6_greedyCast 29 = .ok (.aload_n 0, 1) := by decide +kernel
theorem dX6_greedyCast_30 : decode cX6_greedyCast 30 = .ok (.getfield 25, 3) := by decide +kernel
theorem dX6_greedyCast_33 : decode cX6_greedyCast 33 = .ok (.iload_n 2, 1) := by decide +kernel
theorem dX6_greedyCast_34 : decode cX6_greedyCast 34 = .ok (.iaload, 1) := by decide +kernel
theorem dX6_greedyCast_35 : decode cX6_greedyCast 35 = .ok (.invokevirtual 177, 3) := by decide +kernel
theorem dX6_greedyCast_38 : decode cX6_greedyCast 38 = .ok (.ifCond .ne 16, 3) := by decide +kernel
theorem dX6_greedyCast_41 : decode cX6_greedyCast 41 = .ok (.aload_n 0, 1) := by decide +kernel
theorem dX6_greedyCast_42 : decode cX6_greedyCast 42 = .ok (.getfield 25, 3) := by decide +kernel
theorem dX6_greedyCast_45 : decode cX6_greedyCast 45 = .ok (.iload_n 2, 1) := by decide +kernel
theorem dX6_greedyCast_46 : decode cX6_greedyCast 46 = .ok (.dup2, 1) := by decide +kernel
theorem dX6_greedyCast_47 : decode cX6_greedyCast 47 = .ok (.iaload, 1) := by decide +kernel
theorem dX6_greedyCast_48 : decode cX6_greedyCast 48 = .ok (.iconst 1, 1) := by decide +kernel
theorem dX6_greedyCast_49 : decode cX6_greedyCast 49 = .ok (.iadd, 1) := by decide +kernel
theorem dX6_greedyCast_50 : decode cX6_greedyCast 50 = .ok (.iastore, 1) := by decide +kernel
theorem dX6_greedyCast_51 : decode cX6_greedyCast 51 = .ok (.goto (-24), 3) := by decide +kernel
theorem dX6_greedyCast_54 : decode cX6_greedyCast 54 = .ok (.aload_n 0, 1) := by decide +kernel
theorem dX6_greedyCast_55 : decode cX6_greedyCast 55 = .ok (.getfield 25, 3) := by decide +kernel
theorem dX6_greedyCast_58 : decode cX6_greedyCast 58 = .ok (.iload_n 2, 1) := by decide +kernel
theorem dX6_greedyCast_59 : decode cX6_greedyCast 59 = .ok (.iaload, 1) := by decide +kernel
theorem dX6_greedyCast_60 : decode cX6_greedyCast 60 = .ok (.iconst 1, 1) := by decide +kernel
theorem dX6_greedyCast_61 : decode cX6_greedyCast 61 = .ok (.iadd, 1) := by decide +kernel
theorem dX6_greedyCast_62 : decode cX6_greedyCast 62 = .ok (.iload_n 1, 1) := by decide +kernel
theorem dX6_greedyCast_63 : decode cX6_greedyCast 63 = .ok (.if_icmp .le 14, 3) := by decide +kernel
theorem dX6_greedyCast_66 : decode cX6_greedyCast 66 = .ok (.aload_n 0, 1) := by decide +kernel
theorem dX6_greedyCast_67 : decode cX6_greedyCast 67 = .ok (.getfield 25, 3) := by decide +kernel
theorem dX6_greedyCast_70 : decode cX6_greedyCast 70 = .ok (.iload_n 2, 1) := by decide +kernel
theorem dX6_greedyCast_71 : decode cX6_greedyCast 71 = .ok (.iaload, 1) := by decide +kernel
theorem dX6_greedyCast_72 : decode cX6_greedyCast 72 = .ok (.iconst 1, 1) := by decide +kernel
theorem dX6_greedyCast_73 : decode cX6_greedyCast 73 = .ok (.iadd, 1) := by decide +kernel
theorem dX6_greedyCast_74 : decode cX6_greedyCast 74 = .ok (.goto 4, 3) := by decide +kernel
theorem dX6_greedyCast_77 : decode cX6_greedyCast 77 = .ok (.iload_n 1, 1) := by decide +kernel
theorem dX6_greedyCast_78 : decode cX6_greedyCast 78 = .ok (.istore_n 1, 1) := by decide +kernel
theorem dX6_greedyCast_79 : decode cX6_greedyCast 79 = .ok (.iinc 2 1, 3) := by decide +kernel
theorem dX6_greedyCast_82 : decode cX6_greedyCast 82 = .ok (.goto (-73), 3) := by decide +kernel
theorem dX6_greedyCast_85 : decode cX6_greedyCast 85 = .ok (.iload_n 1, 1) := by decide +kernel
theorem dX6_greedyCast_86 : decode cX6_greedyCast 86 = .ok (.ireturn, 1) := by decide +kernel
set_option maxRecDepth 20000 in
theorem ggX6_leastCastIfFaster_X6_in : GoodIn wsX6_leastCastIfFaster wsX6_in := goodIn_r _ [5] (by decide +kernel) (by decide +kernel)
set_option maxRecDepth 20000 in
theorem gX6_leastCastIfFaster_X6_in : GoodIn wsX6_leastCastIfFaster (va_wsS RX6 44 yX6_in wsX6_in) := goodIn_app (goodIn_of _ (by decide +kernel)) ggX6_leastCastIfFaster_X6_in
set_option maxRecDepth 20000 in
theorem ggX6_leastCastIfFaster_X6_leastFor : GoodIn wsX6_leastCastIfFaster wsX6_leastFor := goodIn_r _ [9, 10, 11, 12, 4, 13, 14, 15, 16, 17, 18, 19, 20, 21, 22, 23, 24, 25, 26, 27, 28, 29, 30, 31, 32, 33, 34, 35, 36, 37, 38, 39, 40, 41, 42, 43, 44, 45, 46, 47, 48, 49, 50, 51, 52, 53, 54, 55, 56, 57, 58, 59, 60, 61, 62, 63, 64, 65, 66, 67] (by decide +kernel) (by decide +kernel)
set_option maxRecDepth 20000 in
theorem gX6_leastCastIfFaster_X6_leastFor : GoodIn wsX6_leastCastIfFaster (wsV RX6 134 RX6 yX6_leastFor wsX6_leastFor) := goodIn_app (goodIn_of _ (by decide +kernel)) ggX6_leastCastIfFaster_X6_leastFor
theorem dX6_leastCastIfFaster_0 : decode cX6_leastCastIfFaster 0 = .ok (.iload_n 1, 1) := by decide +kernel
theorem dX6_leastCastIfFaster_1 : decode cX6_leastCastIfFaster 1 = .ok (.i2l, 1) := by decide +kernel
theorem dX6_leastCastIfFaster_2 : decode cX6_leastCastIfFaster 2 = .ok (.lconst 0, 1) := by decide +kernel
theorem dX6_leastCastIfFaster_3 : decode cX6_leastCastIfFaster 3 = .ok (.ldc2_w 183, 3) := by decide +kernel
theorem dX6_leastCastIfFaster_6 : decode cX6_leastCastIfFaster 6 = .ok (.invokestatic 44, 3) := by decide +kernel
theorem dX6_leastCastIfFaster_9 : decode cX6_leastCastIfFaster 9 = .ok (.ifCond .eq 11, 3) := by decide +kernel
theorem dX6_leastCastIfFaster_12 : decode cX6_leastCastIfFaster 12 = .ok (.aload_n 0, 1) := by decide +kernel
theorem dX6_leastCastIfFaster_13 : decode cX6_leastCastIfFaster 13 = .ok (.iload_n 1, 1) := by decide +kernel
theorem dX6_leastCastIfFaster_14 : decode cX6_leastCastIfFaster 14 = .ok (.invokevirtual 134, 3) := by decide +kernel
theorem dX6_leastCastIfFaster_17 : decode cX6_leastCastIfFaster 17 = .ok (.goto 6, 3) := by decide +kernel
theorem dX6_leastCastIfFaster_20 : decode cX6_leastCastIfFaster 20 = .ok (.sipush (-1001), 3) := by decide +kernel
theorem dX6_leastCastIfFaster_23 : decode cX6_leastCastIfFaster 23 = .ok (.ireturn, 1) := by decide +kernel
set_option maxRecDepth 20000 in
theorem ggX6_speedUpFor_X6_in : GoodIn wsX6_speedUpFor wsX6_in := goodIn_r _ [5] (by decide +kernel) (by decide +kernel)
set_option maxRecDepth 20000 in
theorem gX6_speedUpFor_X6_in : GoodIn wsX6_speedUpFor (va_wsS RX6 44 yX6_in wsX6_in) := goodIn_app (goodIn_of _ (by decide +kernel)) ggX6_speedUpFor_X6_in
set_option maxRecDepth 20000 in
theorem ggX6_speedUpFor_X6_layConflicts : GoodIn wsX6_speedUpFor wsX6_layConflicts := goodIn_r _ [9, 10, 11, 12, 13, 14, 4, 15, 16, 17, 18, 19, 20, 21, 22, 23, 24, 25, 26, 27, 28, 29, 30, 31, 32, 33, 34, 35, 36, 37, 38, 39, 40, 41, 42, 43, 44, 54, 55, 56, 57, 58, 59, 60, 61, 62, 63] (by decide +kernel) (by decide +kernel)
set_option maxRecDepth 20000 in
theorem gX6_speedUpFor_X6_layConflicts : GoodIn wsX6_speedUpFor (wsV RX6 106 RX6 yX6_layConflicts wsX6_layConflicts) := goodIn_app (goodIn_of _ (by decide +kernel)) ggX6_speedUpFor_X6_layConflicts
set_option maxRecDepth 20000 in
theorem ggX6_speedUpFor_X6_isGiven : GoodIn wsX6_speedUpFor wsX6_isGiven := goodIn_r _ [48, 49, 10, 50, 51, 52, 4, 53, 11, 54, 55, 56, 57, 58, 59, 60, 61, 62, 63] (by decide +kernel) (by decide +kernel)
set_option maxRecDepth 20000 in
theorem gX6_speedUpFor_X6_isGiven : GoodIn wsX6_speedUpFor (wsV RX6 180 RX6 yX6_isGiven wsX6_isGiven) := goodIn_app (goodIn_of _ (by decide +kernel)) ggX6_speedUpFor_X6_isGiven
theorem dX6_speedUpFor_0 : decode cX6_speedUpFor 0 = .ok (.iload_n 1, 1) := by decide +kernel
theorem dX6_speedUpFor_1 : decode cX6_speedUpFor 1 = .ok (.i2l, 1) := by decide +kernel
theorem dX6_speedUpFor_2 : decode cX6_speedUpFor 2 = .ok (.lconst 1, 1) := by decide +kernel
theorem dX6_speedUpFor_3 : decode cX6_speedUpFor 3 = .ok (.ldc2_w 185, 3) := by decide +kernel
theorem dX6_speedUpFor_6 : decode cX6_speedUpFor 6 = .ok (.invokestatic 44, 3) := by decide +kernel
theorem dX6_speedUpFor_9 : decode cX6_speedUpFor 9 = .ok (.ifCond .ne 7, 3) := by decide +kernel
theorem dX6_speedUpFor_12 : decode cX6_speedUpFor 12 = .ok (.sipush (-1001), 3) := by decide +kernel
theorem dX6_speedUpFor_15 : decode cX6_speedUpFor 15 = .ok (.ireturn, 1) := by decide +kernel
theorem dX6_speedUpFor_16 : decode cX6_speedUpFor 16 = .ok (.iconst 0, 1) := by decide +kernel
theorem dX6_speedUpFor_17 : decode cX6_speedUpFor 17 = .ok (.istore_n 2, 1) := by decide +kernel
theorem dX6_speedUpFor_18 : decode cX6_speedUpFor 18 = .ok (.iload_n 2, 1) := by decide +kernel
theorem dX6_speedUpFor_19 : decode cX6_speedUpFor 19 = .ok (.bipush 120, 2) := by decide +kernel
theorem dX6_speedUpFor_21 : decode cX6_speedUpFor 21 = .ok (.if_icmp .gt 24, 3) := by decide +kernel
theorem dX6_speedUpFor_24 : decode cX6_speedUpFor 24 = .ok (.aload_n 0, 1) := by decide +kernel
theorem dX6_speedUpFor_25 : decode cX6_speedUpFor 25 = .ok (.iload_n 2, 1) := by decide +kernel
theorem dX6_speedUpFor_26 : decode cX6_speedUpFor 26 = .ok (.invokevirtual 106, 3) := by decide +kernel
theorem dX6_speedUpFor_29 : decode cX6_speedUpFor 29 = .ok (.aload_n 0, 1) := by decide +kernel
theorem dX6_speedUpFor_30 : decode cX6_speedUpFor 30 = .ok (.iload_n 1, 1) := by decide +kernel
theorem dX6_speedUpFor_31 : decode cX6_speedUpFor 31 = .ok (.invokevirtual 180, 3) := by decide +kernel
theorem dX6_speedUpFor_34 : decode cX6_speedUpFor 34 = .ok (.ifCond .eq 5, 3) := by decide +kernel
theorem dX6_speedUpFor_37 : decode cX6_speedUpFor 37 = .ok (.iload_n 2, 1) := by decide +kernel
theorem dX6_speedUpFor_38 : decode cX6_speedUpFor 38 = .ok (.ireturn, 1) := by decide +kernel
theorem dX6_speedUpFor_39 : decode cX6_speedUpFor 39 = .ok (.iinc 2 1, 3) := by decide +kernel
theorem dX6_speedUpFor_42 : decode cX6_speedUpFor 42 = .ok (.goto (-24), 3) := by decide +kernel
theorem dX6_speedUpFor_45 : decode cX6_speedUpFor 45 = .ok (.sipush (-1004), 3) := by decide +kernel
theorem dX6_speedUpFor_48 : decode cX6_speedUpFor 48 = .ok (.ireturn, 1) := by decide +kernel
theorem dJ6_bitCount_0f7a4_0 : decode cJ6_bitCount_0f7a4 0 = .ok (.iload_n 0, 1) := by decide +kernel
theorem dJ6_bitCount_0f7a4_1 : decode cJ6_bitCount_0f7a4 1 = .ok (.iload_n 0, 1) := by decide +kernel
theorem dJ6_bitCount_0f7a4_2 : decode cJ6_bitCount_0f7a4 2 = .ok (.iconst 1, 1) := by decide +kernel
theorem dJ6_bitCount_0f7a4_3 : decode cJ6_bitCount_0f7a4 3 = .ok (.iushr, 1) := by decide +kernel
theorem dJ6_bitCount_0f7a4_4 : decode cJ6_bitCount_0f7a4 4 = .ok (.ldc_w 265, 3) := by decide +kernel
theorem dJ6_bitCount_0f7a4_7 : decode cJ6_bitCount_0f7a4 7 = .ok (.iand, 1) := by decide +kernel
theorem dJ6_bitCount_0f7a4_8 : decode cJ6_bitCount_0f7a4 8 = .ok (.isub, 1) := by decide +kernel
theorem dJ6_bitCount_0f7a4_9 : decode cJ6_bitCount_0f7a4 9 = .ok (.istore_n 0, 1) := by decide +kernel
theorem dJ6_bitCount_0f7a4_10 : decode cJ6_bitCount_0f7a4 10 = .ok (.iload_n 0, 1) := by decide +kernel
theorem dJ6_bitCount_0f7a4_11 : decode cJ6_bitCount_0f7a4 11 = .ok (.ldc_w 266, 3) := by decide +kernel
theorem dJ6_bitCount_0f7a4_14 : decode cJ6_bitCount_0f7a4 14 = .ok (.iand, 1) := by decide +kernel
theorem dJ6_bitCount_0f7a4_15 : decode cJ6_bitCount_0f7a4 15 = .ok (.iload_n 0, 1) := by decide +kernel
theorem dJ6_bitCount_0f7a4_16 : decode cJ6_bitCount_0f7a4 16 = .ok (.iconst 2, 1) := by decide +kernel
theorem dJ6_bitCount_0f7a4_17 : decode cJ6_bitCount_0f7a4 17 = .ok (.iushr, 1) := by decide +kernel
theorem dJ6_bitCount_0f7a4_18 : decode cJ6_bitCount_0f7a4 18 = .ok (.ldc_w 266, 3) := by decide +kernel
theorem dJ6_bitCount_0f7a4_21 : decode cJ6_bitCount_0f7a4 21 = .ok (.iand, 1) := by decide +kernel
theorem dJ6_bitCount_0f7a4_22 : decode cJ6_bitCount_0f7a4 22 = .ok (.iadd, 1) := by decide +kernel
theorem dJ6_bitCount_0f7a4_23 : decode cJ6_bitCount_0f7a4 23 = .ok (.istore_n 0, 1) := by decide +kernel
theorem dJ6_bitCount_0f7a4_24 : decode cJ6_bitCount_0f7a4 24 = .ok (.iload_n 0, 1) := by decide +kernel
theorem dJ6_bitCount_0f7a4_25 : decode cJ6_bitCount_0f7a4 25 = .ok (.iload_n 0, 1) := by decide +kernel
theorem dJ6_bitCount_0f7a4_26 : decode cJ6_bitCount_0f7a4 26 = .ok (.iconst 4, 1) := by decide +kernel
theorem dJ6_bitCount_0f7a4_27 : decode cJ6_bitCount_0f7a4 27 = .ok (.iushr, 1) := by decide +kernel
theorem dJ6_bitCount_0f7a4_28 : decode cJ6_bitCount_0f7a4 28 = .ok (.iadd, 1) := by decide +kernel
theorem dJ6_bitCount_0f7a4_29 : decode cJ6_bitCount_0f7a4 29 = .ok (.ldc_w 267, 3) := by decide +kernel
theorem dJ6_bitCount_0f7a4_32 : decode cJ6_bitCount_0f7a4 32 = .ok (.iand, 1) := by decide +kernel
theorem dJ6_bitCount_0f7a4_33 : decode cJ6_bitCount_0f7a4 33 = .ok (.istore_n 0, 1) := by decide +kernel
theorem dJ6_bitCount_0f7a4_34 : decode cJ6_bitCount_0f7a4 34 = .ok (.iload_n 0, 1) := by decide +kernel
theorem dJ6_bitCount_0f7a4_35 : decode cJ6_bitCount_0f7a4 35 = .ok (.iload_n 0, 1) := by decide +kernel
theorem dJ6_bitCount_0f7a4_36 : decode cJ6_bitCount_0f7a4 36 = .ok (.bipush 8, 2) := by decide +kernel
theorem dJ6_bitCount_0f7a4_38 : decode cJ6_bitCount_0f7a4 38 = .ok (.iushr, 1) := by decide +kernel
theorem dJ6_bitCount_0f7a4_39 : decode cJ6_bitCount_0f7a4 39 = .ok (.iadd, 1) := by decide +kernel
theorem dJ6_bitCount_0f7a4_40 : decode cJ6_bitCount_0f7a4 40 = .ok (.istore_n 0, 1) := by decide +kernel
theorem dJ6_bitCount_0f7a4_41 : decode cJ6_bitCount_0f7a4 41 = .ok (.iload_n 0, 1) := by decide +kernel
theorem dJ6_bitCount_0f7a4_42 : decode cJ6_bitCount_0f7a4 42 = .ok (.iload_n 0, 1) := by decide +kernel
theorem dJ6_bitCount_0f7a4_43 : decode cJ6_bitCount_0f7a4 43 = .ok (.bipush 16, 2) := by decide +kernel
theorem dJ6_bitCount_0f7a4_45 : decode cJ6_bitCount_0f7a4 45 = .ok (.iushr, 1) := by decide +kernel
theorem dJ6_bitCount_0f7a4_46 : decode cJ6_bitCount_0f7a4 46 = .ok (.iadd, 1) := by decide +kernel
theorem dJ6_bitCount_0f7a4_47 : decode cJ6_bitCount_0f7a4 47 = .ok (.istore_n 0, 1) := by decide +kernel
theorem dJ6_bitCount_0f7a4_48 : decode cJ6_bitCount_0f7a4 48 = .ok (.iload_n 0, 1) := by decide +kernel
theorem dJ6_bitCount_0f7a4_49 : decode cJ6_bitCount_0f7a4 49 = .ok (.bipush 63, 2) := by decide +kernel
theorem dJ6_bitCount_0f7a4_51 : decode cJ6_bitCount_0f7a4 51 = .ok (.iand, 1) := by decide +kernel
theorem dJ6_bitCount_0f7a4_52 : decode cJ6_bitCount_0f7a4 52 = .ok (.ireturn, 1) := by decide +kernel
theorem dJ9_max_7cf53_0 : decode cJ9_max_7cf53 0 = .ok (.iload_n 0, 1) := by decide +kernel
theorem dJ9_max_7cf53_1 : decode cJ9_max_7cf53 1 = .ok (.iload_n 1, 1) := by decide +kernel
theorem dJ9_max_7cf53_2 : decode cJ9_max_7cf53 2 = .ok (.if_icmp .lt 7, 3) := by decide +kernel
theorem dJ9_max_7cf53_5 : decode cJ9_max_7cf53 5 = .ok (.iload_n 0, 1) := by decide +kernel
theorem dJ9_max_7cf53_6 : decode cJ9_max_7cf53 6 = .ok (.goto 4, 3) := by decide +kernel
theorem dJ9_max_7cf53_9 : decode cJ9_max_7cf53 9 = .ok (.iload_n 1, 1) := by decide +kernel
theorem dJ9_max_7cf53_10 : decode cJ9_max_7cf53 10 = .ok (.ireturn, 1) := by decide +kernel
theorem dJ9_min_7cf53_0 : decode cJ9_min_7cf53 0 = .ok (.iload_n 0, 1) := by decide +kernel
theorem dJ9_min_7cf53_1 : decode cJ9_min_7cf53 1 = .ok (.iload_n 1, 1) := by decide +kernel
theorem dJ9_min_7cf53_2 : decode cJ9_min_7cf53 2 = .ok (.if_icmp .gt 7, 3) := by decide +kernel
theorem dJ9_min_7cf53_5 : decode cJ9_min_7cf53 5 = .ok (.iload_n 0, 1) := by decide +kernel
theorem dJ9_min_7cf53_6 : decode cJ9_min_7cf53 6 = .ok (.goto 4, 3) := by decide +kernel
theorem dJ9_min_7cf53_9 : decode cJ9_min_7cf53 9 = .ok (.iload_n 1, 1) := by decide +kernel
theorem dJ9_min_7cf53_10 : decode cJ9_min_7cf53 10 = .ok (.ireturn, 1) := by decide +kernel
set_option maxRecDepth 20000 in
theorem ggJ0_length_8abf5_J0_coder_7d493 : GoodIn wsJ0_length_8abf5 wsJ0_coder_7d493 := goodIn_r _ [6, 7, 8] (by decide +kernel) (by decide +kernel)
set_option maxRecDepth 20000 in
theorem gJ0_length_8abf5_J0_coder_7d493 : GoodIn wsJ0_length_8abf5 (wsV RJ0 335 RJ0 yJ0_coder_7d493 wsJ0_coder_7d493) := goodIn_app (goodIn_of _ (by decide +kernel)) ggJ0_length_8abf5_J0_coder_7d493
theorem dJ0_length_8abf5_0 : decode cJ0_length_8abf5 0 = .ok (.aload_n 0, 1) := by decide +kernel
theorem dJ0_length_8abf5_1 : decode cJ0_length_8abf5 1 = .ok (.getfield 9, 3) := by decide +kernel
theorem dJ0_length_8abf5_4 : decode cJ0_length_8abf5 4 = .ok (.arraylength, 1) := by decide +kernel
theorem dJ0_length_8abf5_5 : decode cJ0_length_8abf5 5 = .ok (.aload_n 0, 1) := by decide +kernel
theorem dJ0_length_8abf5_6 : decode cJ0_length_8abf5 6 = .ok (.invokevirtual 335, 3) := by decide +kernel
theorem dJ0_length_8abf5_9 : decode cJ0_length_8abf5 9 = .ok (.ishr, 1) := by decide +kernel
theorem dJ0_length_8abf5_10 : decode cJ0_length_8abf5 10 = .ok (.ireturn, 1) := by decide +kernel
set_option maxRecDepth 20000 in
theorem ggJ0_charAt_5068e_J0_isLatin1_aae02 : GoodIn wsJ0_charAt_5068e wsJ0_isLatin1_aae02 := goodIn_r _ [6, 7, 8] (by decide +kernel) (by decide +kernel)
set_option maxRecDepth 20000 in
theorem gJ0_charAt_5068e_J0_isLatin1_aae02 : GoodIn wsJ0_charAt_5068e (wsV RJ0 492 RJ0 yJ0_isLatin1_aae02 wsJ0_isLatin1_aae02) := goodIn_app (goodIn_of _ (by decide +kernel)) ggJ0_charAt_5068e_J0_isLatin1_aae02
set_option maxRecDepth 20000 in
theorem ggJ0_charAt_5068e_J1_charAt_3b067 : GoodIn wsJ0_charAt_5068e wsJ1_charAt_3b067 := goodIn_r _ [12, 13, 14, 5, 15, 16, 17, 18, 19, 20] (by decide +kernel) (by decide +kernel)
set_option maxRecDepth 20000 in
theorem gJ0_charAt_5068e_J1_charAt_3b067 : GoodIn wsJ0_charAt_5068e (va_wsS RJ0 495 yJ1_charAt_3b067 wsJ1_charAt_3b067) := goodIn_app (goodIn_of _ (by decide +kernel)) ggJ0_charAt_5068e_J1_charAt_3b067
set_option maxRecDepth 20000 in
theorem ggJ0_charAt_5068e_J2_charAt_3b067 : GoodIn wsJ0_charAt_5068e wsJ2_charAt_3b067 := goodIn_r _ [24, 25, 26, 23, 27, 28, 29, 30, 31, 14, 5, 15, 16, 17, 18, 19, 20, 32, 33, 34, 35, 36, 37] (by decide +kernel) (by decide +kernel)
set_option maxRecDepth 20000 in
theorem gJ0_charAt_5068e_J2_charAt_3b067 : GoodIn wsJ0_charAt_5068e (va_wsS RJ0 498 yJ2_charAt_3b067 wsJ2_charAt_3b067) := goodIn_app (goodIn_of _ (by decide +kernel)) ggJ0_charAt_5068e_J2_charAt_3b067
theorem dJ0_charAt_5068e_0 : decode cJ0_charAt_5068e 0 = .ok (.aload_n 0, 1) := by decide +kernel
theorem dJ0_charAt_5068e_1 : decode cJ0_charAt_5068e 1 = .ok (.invokevirtual 492, 3) := by decide +kernel
theorem dJ0_charAt_5068e_4 : decode cJ0_charAt_5068e 4 = .ok (.ifCond .eq 12, 3) := by decide +kernel
theorem dJ0_charAt_5068e_7 : decode cJ0_charAt_5068e 7 = .ok (.aload_n 0, 1) := by decide +kernel
theorem dJ0_charAt_5068e_8 : decode cJ0_charAt_5068e 8 = .ok (.getfield 9, 3) := by decide +kernel
theorem dJ0_charAt_5068e_11 : decode cJ0_charAt_5068e 11 = .ok (.iload_n 1, 1) := by decide +kernel
theorem dJ0_charAt_5068e_12 : decode cJ0_charAt_5068e 12 = .ok (.invokestatic 495, 3) := by decide +kernel
theorem dJ0_charAt_5068e_15 : decode cJ0_charAt_5068e 15 = .ok (.ireturn, 1) := by decide +kernel
theorem dJ0_charAt_5068e_16 : decode cJ0_charAt_5068e 16 = .ok (.aload_n 0, 1) := by decide +kernel
theorem dJ0_charAt_5068e_17 : decode cJ0_charAt_5068e 17 = .ok (.getfield 9, 3) := by decide +kernel
theorem dJ0_charAt_5068e_20 : decode cJ0_charAt_5068e 20 = .ok (.iload_n 1, 1) := by decide +kernel
theorem dJ0_charAt_5068e_21 : decode cJ0_charAt_5068e 21 = .ok (.invokestatic 498, 3) := by decide +kernel
theorem dJ0_charAt_5068e_24 : decode cJ0_charAt_5068e 24 = .ok (.ireturn, 1) := by decide +kernel
theorem dJ0_coder_7d493_0 : decode cJ0_coder_7d493 0 = .ok (.getstatic 38, 3) := by decide +kernel
theorem dJ0_coder_7d493_3 : decode cJ0_coder_7d493 3 = .ok (.ifCond .eq 10, 3) := by decide +kernel
theorem dJ0_coder_7d493_6 : decode cJ0_coder_7d493 6 = .ok (.aload_n 0, 1) := by decide +kernel
theorem dJ0_coder_7d493_7 : decode cJ0_coder_7d493 7 = .ok (.getfield 15, 3) := by decide +kernel
theorem dJ0_coder_7d493_10 : decode cJ0_coder_7d493 10 = .ok (.goto 4, 3) := by decide +kernel
theorem dJ0_coder_7d493_13 : decode cJ0_coder_7d493 13 = .ok (.iconst 1, 1) := by decide +kernel
theorem dJ0_coder_7d493_14 : decode cJ0_coder_7d493 14 = .ok (.ireturn, 1) := by decide +kernel
theorem dJ0_isLatin1_aae02_0 : decode cJ0_isLatin1_aae02 0 = .ok (.getstatic 38, 3) := by decide +kernel
theorem dJ0_isLatin1_aae02_3 : decode cJ0_isLatin1_aae02 3 = .ok (.ifCond .eq 14, 3) := by decide +kernel
theorem dJ0_isLatin1_aae02_6 : decode cJ0_isLatin1_aae02 6 = .ok (.aload_n 0, 1) := by decide +kernel
theorem dJ0_isLatin1_aae02_7 : decode cJ0_isLatin1_aae02 7 = .ok (.getfield 15, 3) := by decide +kernel
theorem dJ0_isLatin1_aae02_10 : decode cJ0_isLatin1_aae02 10 = .ok (.ifCond .ne 7, 3) := by decide +kernel
theorem dJ0_isLatin1_aae02_13 : decode cJ0_isLatin1_aae02 13 = .ok (.iconst 1, 1) := by decide +kernel
theorem dJ0_isLatin1_aae02_14 : decode cJ0_isLatin1_aae02 14 = .ok (.goto 4, 3) := by decide +kernel
theorem dJ0_isLatin1_aae02_17 : decode cJ0_isLatin1_aae02 17 = .ok (.iconst 0, 1) := by decide +kernel
theorem dJ0_isLatin1_aae02_18 : decode cJ0_isLatin1_aae02 18 = .ok (.ireturn, 1) := by decide +kernel
set_option maxRecDepth 20000 in
theorem ggJ0_checkIndex_df160_J3_checkIndex_8e157 : GoodIn wsJ0_checkIndex_df160 wsJ3_checkIndex_8e157 := goodIn_r _ [5] (by decide +kernel) (by decide +kernel)
set_option maxRecDepth 20000 in
theorem gJ0_checkIndex_df160_J3_checkIndex_8e157 : GoodIn wsJ0_checkIndex_df160 (va_wsS RJ0 1059 yJ3_checkIndex_8e157 wsJ3_checkIndex_8e157) := goodIn_app (goodIn_of _ (by decide +kernel)) ggJ0_checkIndex_df160_J3_checkIndex_8e157
theorem dJ0_checkIndex_df160_0 : decode cJ0_checkIndex_df160 0 = .ok (.iload_n 0, 1) := by decide +kernel
theorem dJ0_checkIndex_df160_1 : decode cJ0_checkIndex_df160 1 = .ok (.iload_n 1, 1) := by decide +kernel
theorem dJ0_checkIndex_df160_2 : decode cJ0_checkIndex_df160 2 = .ok (.getstatic 1053, 3) := by decide +kernel
theorem dJ0_checkIndex_df160_5 : decode cJ0_checkIndex_df160 5 = .ok (.invokestatic 1059, 3) := by decide +kernel
theorem dJ0_checkIndex_df160_8 : decode cJ0_checkIndex_df160 8 = .ok (.pop, 1) := by decide +kernel
theorem dJ0_checkIndex_df160_9 : decode cJ0_checkIndex_df160 9 = .ok (.return_, 1) := by decide +kernel
set_option maxRecDepth 20000 in
theorem ggJ1_charAt_3b067_J0_checkIndex_df160 : GoodIn wsJ1_charAt_3b067 wsJ0_checkIndex_df160 := goodIn_r _ [4, 5, 6, 7, 8, 9] (by decide +kernel) (by decide +kernel)
set_option maxRecDepth 20000 in
theorem gJ1_charAt_3b067_J0_checkIndex_df160 : GoodIn wsJ1_charAt_3b067 (va_wsS RJ1 9 yJ0_checkIndex_df160 wsJ0_checkIndex_df160) := goodIn_app (goodIn_of _ (by decide +kernel)) ggJ1_charAt_3b067_J0_checkIndex_df160
theorem dJ1_charAt_3b067_0 : decode cJ1_charAt_3b067 0 = .ok (.iload_n 1, 1) := by decide +kernel
theorem dJ1_charAt_3b067_1 : decode cJ1_charAt_3b067 1 = .ok (.aload_n 0, 1) := by decide +kernel
theorem dJ1_charAt_3b067_2 : decode cJ1_charAt_3b067 2 = .ok (.arraylength, 1) := by decide +kernel
theorem dJ1_charAt_3b067_3 : decode cJ1_charAt_3b067 3 = .ok (.invokestatic 9, 3) := by decide +kernel
theorem dJ1_charAt_3b067_6 : decode cJ1_charAt_3b067 6 = .ok (.aload_n 0, 1) := by decide +kernel
theorem dJ1_charAt_3b067_7 : decode cJ1_charAt_3b067 7 = .ok (.iload_n 1, 1) := by decide +kernel
theorem dJ1_charAt_3b067_8 : decode cJ1_charAt_3b067 8 = .ok (.baload, 1) := by decide +kernel
theorem dJ1_charAt_3b067_9 : decode cJ1_charAt_3b067 9 = .ok (.sipush 255, 3) := by decide +kernel
theorem dJ1_charAt_3b067_12 : decode cJ1_charAt_3b067 12 = .ok (.iand, 1) := by decide +kernel
theorem dJ1_charAt_3b067_13 : decode cJ1_charAt_3b067 13 = .ok (.i2c, 1) := by decide +kernel
theorem dJ1_charAt_3b067_14 : decode cJ1_charAt_3b067 14 = .ok (.ireturn, 1) := by decide +kernel
set_option maxRecDepth 20000 in
theorem ggJ2_getChar_3b067_J2_length_9d52b : GoodIn wsJ2_getChar_3b067 wsJ2_length_9d52b := goodIn_r _ [7] (by decide +kernel) (by decide +kernel)
set_option maxRecDepth 20000 in
theorem gJ2_getChar_3b067_J2_length_9d52b : GoodIn wsJ2_getChar_3b067 (va_wsS RJ2 48 yJ2_length_9d52b wsJ2_length_9d52b) := goodIn_app (goodIn_of _ (by decide +kernel)) ggJ2_getChar_3b067_J2_length_9d52b
theorem dJ2_getChar_3b067_0 : decode cJ2_getChar_3b067 0 = .ok (.getstatic 44, 3) := by decide +kernel
theorem dJ2_getChar_3b067_3 : decode cJ2_getChar_3b067 3 = .ok (.ifCond .ne 25, 3) := by decide +kernel
theorem dJ2_getChar_3b067_6 : decode cJ2_getChar_3b067 6 = .ok (.iload_n 1, 1) := by decide +kernel
theorem dJ2_getChar_3b067_7 : decode cJ2_getChar_3b067 7 = .ok (.ifCond .lt 11, 3) := by decide +kernel
theorem dJ2_getChar_3b067_10 : decode cJ2_getChar_3b067 10 = .ok (.iload_n 1, 1) := by decide +kernel
theorem dJ2_getChar_3b067_11 : decode cJ2_getChar_3b067 11 = .ok (.aload_n 0, 1) := by decide +kernel
theorem dJ2_getChar_3b067_12 : decode cJ2_getChar_3b067 12 = .ok (.invokestatic 48, 3) := by decide +kernel
theorem dJ2_getChar_3b067_15 : decode cJ2_getChar_3b067 15 = .ok (.if_icmp .lt 13, 3) := by decide +kernel
theorem dJ2_getChar_3b067_18 : decode cJ2_getChar_3b067 18 = .ok (.new 52, 3) := by decide +kernel
theorem dJ2_getChar_3b067_21 : decode cJ2_getChar_3b067 21 = .ok (.dup, 1) := by decide +kernel
theorem dJ2_getChar_3b067_22 : decode cJ2_getChar_3b067 22 = .ok (.ldc 54, 2) := by decide +kernel
theorem dJ2_getChar_3b067_24 : decode cJ2_getChar_3b067 24 = .ok (.invokespecial 56, 3) := by decide +kernel
theorem dJ2_getChar_3b067_27 : decode cJ2_getChar_3b067 27 = .ok (.athrow, 1) := by decide +kernel
theorem dJ2_getChar_3b067_28 : decode cJ2_getChar_3b067 28 = .ok (.iload_n 1, 1) := by decide +kernel
theorem dJ2_getChar_3b067_29 : decode cJ2_getChar_3b067 29 = .ok (.iconst 1, 1) := by decide +kernel
theorem dJ2_getChar_3b067_30 : decode cJ2_getChar_3b067 30 = .ok (.ishl, 1) := by decide +kernel
theorem dJ2_getChar_3b067_31 : decode cJ2_getChar_3b067 31 = .ok (.istore_n 1, 1) := by decide +kernel
theorem dJ2_getChar_3b067_32 : decode cJ2_getChar_3b067 32 = .ok (.aload_n 0, 1) := by decide +kernel
theorem dJ2_getChar_3b067_33 : decode cJ2_getChar_3b067 33 = .ok (.iload_n 1, 1) := by decide +kernel
theorem dJ2_getChar_3b067_34 : decode cJ2_getChar_3b067 34 = .ok (.iinc 1 1, 3) := by decide +kernel
theorem dJ2_getChar_3b067_37 : decode cJ2_getChar_3b067 37 = .ok (.baload, 1) := by decide +kernel
theorem dJ2_getChar_3b067_38 : decode cJ2_getChar_3b067 38 = .ok (.sipush 255, 3) := by decide +kernel
theorem dJ2_getChar_3b067_41 : decode cJ2_getChar_3b067 41 = .ok (.iand, 1) := by decide +kernel
theorem dJ2_getChar_3b067_42 : decode cJ2_getChar_3b067 42 = .ok (.getstatic 59, 3) := by decide +kernel
theorem dJ2_getChar_3b067_45 : decode cJ2_getChar_3b067 45 = .ok (.ishl, 1) := by decide +kernel
theorem dJ2_getChar_3b067_46 : decode cJ2_getChar_3b067 46 = .ok (.aload_n 0, 1) := by decide +kernel
theorem dJ2_getChar_3b067_47 : decode cJ2_getChar_3b067 47 = .ok (.iload_n 1, 1) := by decide +kernel
theorem dJ2_getChar_3b067_48 : decode cJ2_getChar_3b067 48 = .ok (.baload, 1) := by decide +kernel
theorem dJ2_getChar_3b067_49 : decode cJ2_getChar_3b067 49 = .ok (.sipush 255, 3) := by decide +kernel
theorem dJ2_getChar_3b067_52 : decode cJ2_getChar_3b067 52 = .ok (.iand, 1) := by decide +kernel
theorem dJ2_getChar_3b067_53 : decode cJ2_getChar_3b067 53 = .ok (.getstatic 63, 3) := by decide +kernel
theorem dJ2_getChar_3b067_56 : decode cJ2_getChar_3b067 56 = .ok (.ishl, 1) := by decide +kernel
theorem dJ2_getChar_3b067_57 : decode cJ2_getChar_3b067 57 = .ok (.ior, 1) := by decide +kernel
theorem dJ2_getChar_3b067_58 : decode cJ2_getChar_3b067 58 = .ok (.i2c, 1) := by decide +kernel
theorem dJ2_getChar_3b067_59 : decode cJ2_getChar_3b067 59 = .ok (.ireturn, 1) := by decide +kernel
theorem dJ2_length_9d52b_0 : decode cJ2_length_9d52b 0 = .ok (.aload_n 0, 1) := by decide +kernel
theorem dJ2_length_9d52b_1 : decode cJ2_length_9d52b 1 = .ok (.arraylength, 1) := by decide +kernel
theorem dJ2_length_9d52b_2 : decode cJ2_length_9d52b 2 = .ok (.iconst 1, 1) := by decide +kernel
theorem dJ2_length_9d52b_3 : decode cJ2_length_9d52b 3 = .ok (.ishr, 1) := by decide +kernel
theorem dJ2_length_9d52b_4 : decode cJ2_length_9d52b 4 = .ok (.ireturn, 1) := by decide +kernel
set_option maxRecDepth 20000 in
theorem ggJ2_charAt_3b067_J2_checkIndex_2214a : GoodIn wsJ2_charAt_3b067 wsJ2_checkIndex_2214a := goodIn_r _ [4, 5, 6, 3, 7, 8, 9, 10, 11, 12, 13, 14, 15, 16] (by decide +kernel) (by decide +kernel)
set_option maxRecDepth 20000 in
theorem gJ2_charAt_3b067_J2_checkIndex_2214a : GoodIn wsJ2_charAt_3b067 (va_wsS RJ2 67 yJ2_checkIndex_2214a wsJ2_checkIndex_2214a) := goodIn_app (goodIn_of _ (by decide +kernel)) ggJ2_charAt_3b067_J2_checkIndex_2214a
set_option maxRecDepth 20000 in
theorem ggJ2_charAt_3b067_J2_getChar_3b067 : GoodIn wsJ2_charAt_3b067 wsJ2_getChar_3b067 := goodIn_r _ [19, 20, 21, 22, 5, 6, 3, 7] (by decide +kernel) (by decide +kernel)
set_option maxRecDepth 20000 in
theorem gJ2_charAt_3b067_J2_getChar_3b067 : GoodIn wsJ2_charAt_3b067 (va_wsS RJ2 71 yJ2_getChar_3b067 wsJ2_getChar_3b067) := goodIn_app (goodIn_of _ (by decide +kernel)) ggJ2_charAt_3b067_J2_getChar_3b067
theorem dJ2_charAt_3b067_0 : decode cJ2_charAt_3b067 0 = .ok (.iload_n 1, 1) := by decide +kernel
theorem dJ2_charAt_3b067_1 : decode cJ2_charAt_3b067 1 = .ok (.aload_n 0, 1) := by decide +kernel
theorem dJ2_charAt_3b067_2 : decode cJ2_charAt_3b067 2 = .ok (.invokestatic 67, 3) := by decide +kernel
theorem dJ2_charAt_3b067_5 : decode cJ2_charAt_3b067 5 = .ok (.aload_n 0, 1) := by decide +kernel
theorem dJ2_charAt_3b067_6 : decode cJ2_charAt_3b067 6 = .ok (.iload_n 1, 1) := by decide +kernel
theorem dJ2_charAt_3b067_7 : decode cJ2_charAt_3b067 7 = .ok (.invokestatic 71, 3) := by decide +kernel
theorem dJ2_charAt_3b067_10 : decode cJ2_charAt_3b067 10 = .ok (.ireturn, 1) := by decide +kernel
set_option maxRecDepth 20000 in
theorem ggJ2_checkIndex_2214a_J2_length_9d52b : GoodIn wsJ2_checkIndex_2214a wsJ2_length_9d52b := goodIn_r _ [4] (by decide +kernel) (by decide +kernel)
set_option maxRecDepth 20000 in
theorem gJ2_checkIndex_2214a_J2_length_9d52b : GoodIn wsJ2_checkIndex_2214a (va_wsS RJ2 48 yJ2_length_9d52b wsJ2_length_9d52b) := goodIn_app (goodIn_of _ (by decide +kernel)) ggJ2_checkIndex_2214a_J2_length_9d52b
set_option maxRecDepth 20000 in
theorem ggJ2_checkIndex_2214a_J0_checkIndex_df160 : GoodIn wsJ2_checkIndex_2214a wsJ0_checkIndex_df160 := goodIn_r _ [8, 9, 10, 11, 12, 13] (by decide +kernel) (by decide +kernel)
set_option maxRecDepth 20000 in
theorem gJ2_checkIndex_2214a_J0_checkIndex_df160 : GoodIn wsJ2_checkIndex_2214a (va_wsS RJ2 414 yJ0_checkIndex_df160 wsJ0_checkIndex_df160) := goodIn_app (goodIn_of _ (by decide +kernel)) ggJ2_checkIndex_2214a_J0_checkIndex_df160
theorem dJ2_checkIndex_2214a_0 : decode cJ2_checkIndex_2214a 0 = .ok (.iload_n 0, 1) := by decide +kernel
theorem dJ2_checkIndex_2214a_1 : decode cJ2_checkIndex_2214a 1 = .ok (.aload_n 1, 1) := by decide +kernel
theorem dJ2_checkIndex_2214a_2 : decode cJ2_checkIndex_2214a 2 = .ok (.invokestatic 48, 3) := by decide +kernel
theorem dJ2_checkIndex_2214a_5 : decode cJ2_checkIndex_2214a 5 = .ok (.invokestatic 414, 3) := by decide +kernel
theorem dJ2_checkIndex_2214a_8 : decode cJ2_checkIndex_2214a 8 = .ok (.return_, 1) := by decide +kernel
theorem dJ3_checkIndex_8e157_0 : decode cJ3_checkIndex_8e157 0 = .ok (.iload_n 0, 1) := by decide +kernel
theorem dJ3_checkIndex_8e157_1 : decode cJ3_checkIndex_8e157 1 = .ok (.ifCond .lt 8, 3) := by decide +kernel
theorem dJ3_checkIndex_8e157_4 : decode cJ3_checkIndex_8e157 4 = .ok (.iload_n 0, 1) := by decide +kernel
theorem dJ3_checkIndex_8e157_5 : decode cJ3_checkIndex_8e157 5 = .ok (.iload_n 1, 1) := by decide +kernel
theorem dJ3_checkIndex_8e157_6 : decode cJ3_checkIndex_8e157 6 = .ok (.if_icmp .lt 10, 3) := by decide +kernel
theorem dJ3_checkIndex_8e157_9 : decode cJ3_checkIndex_8e157 9 = .ok (.aload_n 2, 1) := by decide +kernel
theorem dJ3_checkIndex_8e157_10 : decode cJ3_checkIndex_8e157 10 = .ok (.iload_n 0, 1) := by decide +kernel
theorem dJ3_checkIndex_8e157_11 : decode cJ3_checkIndex_8e157 11 = .ok (.iload_n 1, 1) := by decide +kernel
theorem dJ3_checkIndex_8e157_12 : decode cJ3_checkIndex_8e157 12 = .ok (.invokestatic 95, 3) := by decide +kernel
theorem dJ3_checkIndex_8e157_15 : decode cJ3_checkIndex_8e157 15 = .ok (.athrow, 1) := by decide +kernel
theorem dJ3_checkIndex_8e157_16 : decode cJ3_checkIndex_8e157 16 = .ok (.iload_n 0, 1) := by decide +kernel
theorem dJ3_checkIndex_8e157_17 : decode cJ3_checkIndex_8e157 17 = .ok (.ireturn, 1) := by decide +kernel
