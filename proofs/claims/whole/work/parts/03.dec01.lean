theorem dX4_compare_0 : decode cX4_compare 0 = .ok (.aload_n 0, 1) := by decide +kernel
theorem dX4_compare_1 : decode cX4_compare 1 = .ok (.getfield 16, 3) := by decide +kernel
theorem dX4_compare_4 : decode cX4_compare 4 = .ok (.getfield 30, 3) := by decide +kernel
theorem dX4_compare_7 : decode cX4_compare 7 = .ok (.iload_n 1, 1) := by decide +kernel
theorem dX4_compare_8 : decode cX4_compare 8 = .ok (.iaload, 1) := by decide +kernel
theorem dX4_compare_9 : decode cX4_compare 9 = .ok (.istore_n 3, 1) := by decide +kernel
theorem dX4_compare_10 : decode cX4_compare 10 = .ok (.aload_n 0, 1) := by decide +kernel
theorem dX4_compare_11 : decode cX4_compare 11 = .ok (.getfield 16, 3) := by decide +kernel
theorem dX4_compare_14 : decode cX4_compare 14 = .ok (.getfield 30, 3) := by decide +kernel
theorem dX4_compare_17 : decode cX4_compare 17 = .ok (.iload_n 2, 1) := by decide +kernel
theorem dX4_compare_18 : decode cX4_compare 18 = .ok (.iaload, 1) := by decide +kernel
theorem dX4_compare_19 : decode cX4_compare 19 = .ok (.istore 4, 2) := by decide +kernel
theorem dX4_compare_21 : decode cX4_compare 21 = .ok (.iload_n 3, 1) := by decide +kernel
theorem dX4_compare_22 : decode cX4_compare 22 = .ok (.iload 4, 2) := by decide +kernel
theorem dX4_compare_24 : decode cX4_compare 24 = .ok (.if_icmp .eq 18, 3) := by decide +kernel
theorem dX4_compare_27 : decode cX4_compare 27 = .ok (.aload_n 0, 1) := by decide +kernel
theorem dX4_compare_28 : decode cX4_compare 28 = .ok (.getfield 11, 3) := by decide +kernel
theorem dX4_compare_31 : decode cX4_compare 31 = .ok (.iload_n 3, 1) := by decide +kernel
theorem dX4_compare_32 : decode cX4_compare 32 = .ok (.aaload, 1) := by decide +kernel
theorem dX4_compare_33 : decode cX4_compare 33 = .ok (.iload 4, 2) := by decide +kernel
theorem dX4_compare_35 : decode cX4_compare 35 = .ok (.iaload, 1) := by decide +kernel
theorem dX4_compare_36 : decode cX4_compare 36 = .ok (.sipush (-1002), 3) := by decide +kernel
theorem dX4_compare_39 : decode cX4_compare 39 = .ok (.if_icmp .ne 4, 3) := by decide +kernel
theorem dX4_compare_42 : decode cX4_compare 42 = .ok (.return_, 1) := by decide +kernel
theorem dX4_compare_43 : decode cX4_compare 43 = .ok (.sipush (-1002), 3) := by decide +kernel
theorem dX4_compare_46 : decode cX4_compare 46 = .ok (.istore 5, 2) := by decide +kernel
theorem dX4_compare_48 : decode cX4_compare 48 = .ok (.aload_n 0, 1) := by decide +kernel
theorem dX4_compare_49 : decode cX4_compare 49 = .ok (.getfield 16, 3) := by decide +kernel
theorem dX4_compare_52 : decode cX4_compare 52 = .ok (.getfield 34, 3) := by decide +kernel
theorem dX4_compare_55 : decode cX4_compare 55 = .ok (.iload_n 1, 1) := by decide +kernel
theorem dX4_compare_56 : decode cX4_compare 56 = .ok (.iaload, 1) := by decide +kernel
theorem dX4_compare_57 : decode cX4_compare 57 = .ok (.aload_n 0, 1) := by decide +kernel
theorem dX4_compare_58 : decode cX4_compare 58 = .ok (.getfield 16, 3) := by decide +kernel
theorem dX4_compare_61 : decode cX4_compare 61 = .ok (.getfield 37, 3) := by decide +kernel
theorem dX4_compare_64 : decode cX4_compare 64 = .ok (.iload_n 2, 1) := by decide +kernel
theorem dX4_compare_65 : decode cX4_compare 65 = .ok (.iaload, 1) := by decide +kernel
theorem dX4_compare_66 : decode cX4_compare 66 = .ok (.if_icmp .gt 26, 3) := by decide +kernel
theorem dX4_compare_69 : decode cX4_compare 69 = .ok (.aload_n 0, 1) := by decide +kernel
theorem dX4_compare_70 : decode cX4_compare 70 = .ok (.getfield 11, 3) := by decide +kernel
theorem dX4_compare_73 : decode cX4_compare 73 = .ok (.iload_n 3, 1) := by decide +kernel
theorem dX4_compare_74 : decode cX4_compare 74 = .ok (.aaload, 1) := by decide +kernel
theorem dX4_compare_75 : decode cX4_compare 75 = .ok (.iload 4, 2) := by decide +kernel
theorem dX4_compare_77 : decode cX4_compare 77 = .ok (.iaload, 1) := by decide +kernel
theorem dX4_compare_78 : decode cX4_compare 78 = .ok (.aload_n 0, 1) := by decide +kernel
theorem dX4_compare_79 : decode cX4_compare 79 = .ok (.iload_n 1, 1) := by decide +kernel
theorem dX4_compare_80 : decode cX4_compare 80 = .ok (.iload_n 2, 1) := by decide +kernel
theorem dX4_compare_81 : decode cX4_compare 81 = .ok (.invokevirtual 40, 3) := by decide +kernel
theorem dX4_compare_84 : decode cX4_compare 84 = .ok (.invokestatic 44, 3) := by decide +kernel
theorem dX4_compare_87 : decode cX4_compare 87 = .ok (.istore 5, 2) := by decide +kernel
theorem dX4_compare_89 : decode cX4_compare 89 = .ok (.goto 44, 3) := by decide +kernel
theorem dX4_compare_92 : decode cX4_compare 92 = .ok (.aload_n 0, 1) := by decide +kernel
theorem dX4_compare_93 : decode cX4_compare 93 = .ok (.getfield 16, 3) := by decide +kernel
theorem dX4_compare_96 : decode cX4_compare 96 = .ok (.getfield 34, 3) := by decide +kernel
theorem dX4_compare_99 : decode cX4_compare 99 = .ok (.iload_n 2, 1) := by decide +kernel
theorem dX4_compare_100 : decode cX4_compare 100 = .ok (.iaload, 1) := by decide +kernel
theorem dX4_compare_101 : decode cX4_compare 101 = .ok (.aload_n 0, 1) := by decide +kernel
theorem dX4_compare_102 : decode cX4_compare 102 = .ok (.getfield 16, 3) := by decide +kernel
theorem dX4_compare_105 : decode cX4_compare 105 = .ok (.getfield 37, 3) := by decide +kernel
theorem dX4_compare_108 : decode cX4_compare 108 = .ok (.iload_n 1, 1) := by decide +kernel
theorem dX4_compare_109 : decode cX4_compare 109 = .ok (.iaload, 1) := by decide +kernel
theorem dX4_compare_110 : decode cX4_compare 110 = .ok (.if_icmp .gt 23, 3) := by decide +kernel
theorem dX4_compare_113 : decode cX4_compare 113 = .ok (.aload_n 0, 1) := by decide +kernel
theorem dX4_compare_114 : decode cX4_compare 114 = .ok (.getfield 11, 3) := by decide +kernel
theorem dX4_compare_117 : decode cX4_compare 117 = .ok (.iload_n 3, 1) := by decide +kernel
theorem dX4_compare_118 : decode cX4_compare 118 = .ok (.aaload, 1) := by decide +kernel
theorem dX4_compare_119 : decode cX4_compare 119 = .ok (.iload 4, 2) := by decide +kernel
theorem dX4_compare_121 : decode cX4_compare 121 = .ok (.iaload, 1) := by decide +kernel
theorem dX4_compare_122 : decode cX4_compare 122 = .ok (.aload_n 0, 1) := by decide +kernel
theorem dX4_compare_123 : decode cX4_compare 123 = .ok (.iload_n 2, 1) := by decide +kernel
theorem dX4_compare_124 : decode cX4_compare 124 = .ok (.iload_n 1, 1) := by decide +kernel
theorem dX4_compare_125 : decode cX4_compare 125 = .ok (.invokevirtual 40, 3) := by decide +kernel
theorem dX4_compare_128 : decode cX4_compare 128 = .ok (.invokestatic 44, 3) := by decide +kernel
theorem dX4_compare_131 : decode cX4_compare 131 = .ok (.istore 5, 2) := by decide +kernel
theorem dX4_compare_133 : decode cX4_compare 133 = .ok (.aload_n 0, 1) := by decide +kernel
theorem dX4_compare_134 : decode cX4_compare 134 = .ok (.getfield 11, 3) := by decide +kernel
theorem dX4_compare_137 : decode cX4_compare 137 = .ok (.iload_n 3, 1) := by decide +kernel
theorem dX4_compare_138 : decode cX4_compare 138 = .ok (.aaload, 1) := by decide +kernel
theorem dX4_compare_139 : decode cX4_compare 139 = .ok (.iload 4, 2) := by decide +kernel
theorem dX4_compare_141 : decode cX4_compare 141 = .ok (.iload 5, 2) := by decide +kernel
theorem dX4_compare_143 : decode cX4_compare 143 = .ok (.iastore, 1) := by decide +kernel
theorem dX4_compare_144 : decode cX4_compare 144 = .ok (.aload_n 0, 1) := by decide +kernel
theorem dX4_compare_145 : decode cX4_compare 145 = .ok (.getfield 11, 3) := by decide +kernel
theorem dX4_compare_148 : decode cX4_compare 148 = .ok (.iload 4, 2) := by decide +kernel
theorem dX4_compare_150 : decode cX4_compare 150 = .ok (.aaload, 1) := by decide +kernel
theorem dX4_compare_151 : decode cX4_compare 151 = .ok (.iload_n 3, 1) := by decide +kernel
theorem dX4_compare_152 : decode cX4_compare 152 = .ok (.iload 5, 2) := by decide +kernel
theorem dX4_compare_154 : decode cX4_compare 154 = .ok (.iastore, 1) := by decide +kernel
theorem dX4_compare_155 : decode cX4_compare 155 = .ok (.return_, 1) := by decide +kernel
theorem dX4_slackFrom_0 : decode cX4_slackFrom 0 = .ok (.aload_n 0, 1) := by decide +kernel
theorem dX4_slackFrom_1 : decode cX4_slackFrom 1 = .ok (.getfield 16, 3) := by decide +kernel
theorem dX4_slackFrom_4 : decode cX4_slackFrom 4 = .ok (.getfield 47, 3) := by decide +kernel
theorem dX4_slackFrom_7 : decode cX4_slackFrom 7 = .ok (.aload_n 0, 1) := by decide +kernel
theorem dX4_slackFrom_8 : decode cX4_slackFrom 8 = .ok (.getfield 16, 3) := by decide +kernel
theorem dX4_slackFrom_11 : decode cX4_slackFrom 11 = .ok (.getfield 30, 3) := by decide +kernel
theorem dX4_slackFrom_14 : decode cX4_slackFrom 14 = .ok (.iload_n 1, 1) := by decide +kernel
theorem dX4_slackFrom_15 : decode cX4_slackFrom 15 = .ok (.iaload, 1) := by decide +kernel
theorem dX4_slackFrom_16 : decode cX4_slackFrom 16 = .ok (.iaload, 1) := by decide +kernel
theorem dX4_slackFrom_17 : decode cX4_slackFrom 17 = .ok (.aload_n 0, 1) := by decide +kernel
theorem dX4_slackFrom_18 : decode cX4_slackFrom 18 = .ok (.getfield 16, 3) := by decide +kernel
theorem dX4_slackFrom_21 : decode cX4_slackFrom 21 = .ok (.getfield 50, 3) := by decide +kernel
theorem dX4_slackFrom_24 : decode cX4_slackFrom 24 = .ok (.aload_n 0, 1) := by decide +kernel
theorem dX4_slackFrom_25 : decode cX4_slackFrom 25 = .ok (.getfield 16, 3) := by decide +kernel
theorem dX4_slackFrom_28 : decode cX4_slackFrom 28 = .ok (.getfield 30, 3) := by decide +kernel
theorem dX4_slackFrom_31 : decode cX4_slackFrom 31 = .ok (.iload_n 2, 1) := by decide +kernel
theorem dX4_slackFrom_32 : decode cX4_slackFrom 32 = .ok (.iaload, 1) := by decide +kernel
theorem dX4_slackFrom_33 : decode cX4_slackFrom 33 = .ok (.iaload, 1) := by decide +kernel
theorem dX4_slackFrom_34 : decode cX4_slackFrom 34 = .ok (.iadd, 1) := by decide +kernel
theorem dX4_slackFrom_35 : decode cX4_slackFrom 35 = .ok (.istore_n 3, 1) := by decide +kernel
theorem dX4_slackFrom_36 : decode cX4_slackFrom 36 = .ok (.aload_n 0, 1) := by decide +kernel
theorem dX4_slackFrom_37 : decode cX4_slackFrom 37 = .ok (.getfield 16, 3) := by decide +kernel
theorem dX4_slackFrom_40 : decode cX4_slackFrom 40 = .ok (.getfield 37, 3) := by decide +kernel
theorem dX4_slackFrom_43 : decode cX4_slackFrom 43 = .ok (.iload_n 2, 1) := by decide +kernel
theorem dX4_slackFrom_44 : decode cX4_slackFrom 44 = .ok (.iaload, 1) := by decide +kernel
theorem dX4_slackFrom_45 : decode cX4_slackFrom 45 = .ok (.aload_n 0, 1) := by decide +kernel
theorem dX4_slackFrom_46 : decode cX4_slackFrom 46 = .ok (.getfield 16, 3) := by decide +kernel
theorem dX4_slackFrom_49 : decode cX4_slackFrom 49 = .ok (.getfield 34, 3) := by decide +kernel
theorem dX4_slackFrom_52 : decode cX4_slackFrom 52 = .ok (.iload_n 1, 1) := by decide +kernel
theorem dX4_slackFrom_53 : decode cX4_slackFrom 53 = .ok (.iaload, 1) := by decide +kernel
theorem dX4_slackFrom_54 : decode cX4_slackFrom 54 = .ok (.isub, 1) := by decide +kernel
theorem dX4_slackFrom_55 : decode cX4_slackFrom 55 = .ok (.iload_n 3, 1) := by decide +kernel
theorem dX4_slackFrom_56 : decode cX4_slackFrom 56 = .ok (.isub, 1) := by decide +kernel
theorem dX4_slackFrom_57 : decode cX4_slackFrom 57 = .ok (.ireturn, 1) := by decide +kernel
theorem dX4_reason_0 : decode cX4_reason 0 = .ok (.aload_n 0, 1) := by decide +kernel
theorem dX4_reason_1 : decode cX4_reason 1 = .ok (.getfield 16, 3) := by decide +kernel
theorem dX4_reason_4 : decode cX4_reason 4 = .ok (.getfield 53, 3) := by decide +kernel
theorem dX4_reason_7 : decode cX4_reason 7 = .ok (.iload_n 1, 1) := by decide +kernel
theorem dX4_reason_8 : decode cX4_reason 8 = .ok (.iaload, 1) := by decide +kernel
theorem dX4_reason_9 : decode cX4_reason 9 = .ok (.aload_n 0, 1) := by decide +kernel
theorem dX4_reason_10 : decode cX4_reason 10 = .ok (.getfield 16, 3) := by decide +kernel
theorem dX4_reason_13 : decode cX4_reason 13 = .ok (.getfield 53, 3) := by decide +kernel
theorem dX4_reason_16 : decode cX4_reason 16 = .ok (.iload_n 2, 1) := by decide +kernel
theorem dX4_reason_17 : decode cX4_reason 17 = .ok (.iaload, 1) := by decide +kernel
theorem dX4_reason_18 : decode cX4_reason 18 = .ok (.if_icmp .eq 5, 3) := by decide +kernel
theorem dX4_reason_21 : decode cX4_reason 21 = .ok (.iconst 1, 1) := by decide +kernel
theorem dX4_reason_22 : decode cX4_reason 22 = .ok (.ireturn, 1) := by decide +kernel
theorem dX4_reason_23 : decode cX4_reason 23 = .ok (.aload_n 0, 1) := by decide +kernel
theorem dX4_reason_24 : decode cX4_reason 24 = .ok (.getfield 11, 3) := by decide +kernel
theorem dX4_reason_27 : decode cX4_reason 27 = .ok (.iload_n 1, 1) := by decide +kernel
theorem dX4_reason_28 : decode cX4_reason 28 = .ok (.aaload, 1) := by decide +kernel
theorem dX4_reason_29 : decode cX4_reason 29 = .ok (.iload_n 2, 1) := by decide +kernel
theorem dX4_reason_30 : decode cX4_reason 30 = .ok (.iaload, 1) := by decide +kernel
theorem dX4_reason_31 : decode cX4_reason 31 = .ok (.istore 4, 2) := by decide +kernel
theorem dX4_reason_33 : decode cX4_reason 33 = .ok (.iload 4, 2) := by decide +kernel
theorem dX4_reason_35 : decode cX4_reason 35 = .ok (.sipush (-1002), 3) := by decide +kernel
theorem dX4_reason_38 : decode cX4_reason 38 = .ok (.if_icmp .ne 5, 3) := by decide +kernel
theorem dX4_reason_41 : decode cX4_reason 41 = .ok (.iconst 2, 1) := by decide +kernel
theorem dX4_reason_42 : decode cX4_reason 42 = .ok (.ireturn, 1) := by decide +kernel
theorem dX4_reason_43 : decode cX4_reason 43 = .ok (.iload 4, 2) := by decide +kernel
theorem dX4_reason_45 : decode cX4_reason 45 = .ok (.sipush (-1004), 3) := by decide +kernel
theorem dX4_reason_48 : decode cX4_reason 48 = .ok (.if_icmp .ne 5, 3) := by decide +kernel
theorem dX4_reason_51 : decode cX4_reason 51 = .ok (.iconst 0, 1) := by decide +kernel
theorem dX4_reason_52 : decode cX4_reason 52 = .ok (.ireturn, 1) := by decide +kernel
theorem dX4_reason_53 : decode cX4_reason 53 = .ok (.iload 4, 2) := by decide +kernel
theorem dX4_reason_55 : decode cX4_reason 55 = .ok (.iload_n 3, 1) := by decide +kernel
theorem dX4_reason_56 : decode cX4_reason 56 = .ok (.iadd, 1) := by decide +kernel
theorem dX4_reason_57 : decode cX4_reason 57 = .ok (.ifCond .ge 7, 3) := by decide +kernel
theorem dX4_reason_60 : decode cX4_reason 60 = .ok (.iconst 3, 1) := by decide +kernel
theorem dX4_reason_61 : decode cX4_reason 61 = .ok (.goto 4, 3) := by decide +kernel
theorem dX4_reason_64 : decode cX4_reason 64 = .ok (.iconst 0, 1) := by decide +kernel
theorem dX4_reason_65 : decode cX4_reason 65 = .ok (.ireturn, 1) := by decide +kernel
set_option maxRecDepth 20000 in
theorem ggX5_init_X3_init : GoodIn wsX5_init wsX3_init := goodIn_r _ [27, 28, 2, 3, 29, 30, 31, 32, 248, 249, 250, 251, 252, 253, 254] (by decide +kernel) (by decide +kernel)
set_option maxRecDepth 20000 in
theorem gX5_init_X3_init_n11 : GoodIn wsX5_init (wsX3_init) := ggX5_init_X3_init
set_option maxRecDepth 20000 in
theorem ggX5_init_X2_init : GoodIn wsX5_init wsX2_init := goodIn_r _ [34, 35, 2, 3, 31, 36, 37, 38, 39, 40, 41, 42, 43, 44, 261, 262, 263, 264, 265, 266, 267, 268, 269, 270, 271, 272] (by decide +kernel) (by decide +kernel)
set_option maxRecDepth 20000 in
theorem gX5_init_X2_init_n18 : GoodIn wsX5_init (wsX2_init) := ggX5_init_X2_init
set_option maxRecDepth 20000 in
theorem ggX5_init_X4_init : GoodIn wsX5_init wsX4_init := goodIn_r _ [47, 48, 2, 3, 49, 31, 50, 51, 273, 274] (by decide +kernel) (by decide +kernel)
set_option maxRecDepth 20000 in
theorem gX5_init_X4_init : GoodIn wsX5_init (wsX4_init) := ggX5_init_X4_init
set_option maxRecDepth 20000 in
theorem ggX5_init_X0_init : GoodIn wsX5_init wsX0_init := goodIn_r _ [53, 54, 2, 3, 31, 55, 56, 275, 276, 277] (by decide +kernel) (by decide +kernel)
set_option maxRecDepth 20000 in
theorem gX5_init_X0_init_n37 : GoodIn wsX5_init (wsX0_init) := ggX5_init_X0_init
set_option maxRecDepth 20000 in
theorem ggX5_init_X1_init : GoodIn wsX5_init wsX1_init := goodIn_r _ [59, 60, 2, 3, 61, 62, 9, 10, 33, 34, 35, 31, 36, 37, 38, 39, 40, 41, 42, 43, 44, 278, 279, 261, 262, 263, 264, 265, 266, 267, 268, 269, 270, 271, 272] (by decide +kernel) (by decide +kernel)
set_option maxRecDepth 20000 in
theorem gX5_init_X1_init : GoodIn wsX5_init (wsX1_init) := ggX5_init_X1_init
set_option maxRecDepth 20000 in
theorem ggX5_init_X3_putAll : GoodIn wsX5_init wsX3_putAll := goodIn_r _ [66, 67, 68, 69, 70, 71, 72, 73, 74, 75, 76, 77, 78, 79, 80, 81, 82, 83, 84, 85, 86, 87, 88, 89, 90, 91, 92, 93, 94, 95, 96, 97, 98, 99, 100, 101, 102, 103, 104, 105, 106, 107, 108, 109, 110, 111, 112, 113, 114, 115, 116, 117, 118, 6, 119, 120, 30, 248, 249, 250, 251, 252, 253, 254] (by decide +kernel) (by decide +kernel)
set_option maxRecDepth 20000 in
theorem gX5_init_X3_putAll : GoodIn wsX5_init (wsV RX5 51 RX3 yX3_putAll wsX3_putAll) := goodIn_app (goodIn_of _ (by decide +kernel)) ggX5_init_X3_putAll
set_option maxRecDepth 20000 in
theorem ggX5_init_X3_readInto : GoodIn wsX5_init wsX3_readInto := goodIn_r _ [124, 125, 126, 120, 127, 128, 129, 130, 10, 131, 132, 133, 134, 135, 136, 137, 6, 138, 139, 140, 141, 142, 143, 30, 144, 145, 146, 147, 67, 68, 69, 70, 71, 72, 73, 74, 75, 76, 77, 78, 79, 80, 81, 82, 83, 84, 85, 86, 87, 88, 89, 90, 91, 92, 93, 94, 95, 96, 97, 98, 99, 100, 101, 102, 103, 104, 105, 106, 107, 108, 109, 110, 111, 112, 113, 114, 115, 148, 149, 150, 151, 32, 152, 153, 154, 155, 156, 157, 158, 159, 160, 161, 162, 163, 164, 165, 166, 167, 36, 168, 169, 170, 171, 172, 173, 174, 175, 176, 177, 178, 179, 37, 38, 39, 40, 180, 181, 182, 183, 184, 185, 186, 187, 188, 189, 190, 191, 192, 193, 194, 195, 196, 197, 198, 199, 200, 201, 202, 203, 204, 205, 206, 41, 42, 43, 44, 207, 208, 209, 210, 248, 249, 250, 251, 252, 253, 254, 261, 262, 263, 264, 265, 266, 267, 268, 269, 270, 271, 272] (by decide +kernel) (by decide +kernel)
set_option maxRecDepth 20000 in
theorem gX5_init_X3_readInto : GoodIn wsX5_init (wsV RX5 63 RX3 yX3_readInto wsX3_readInto) := goodIn_app (goodIn_of _ (by decide +kernel)) ggX5_init_X3_readInto
set_option maxRecDepth 20000 in
theorem ggX5_init_X5_startStatedPlay : GoodIn wsX5_init wsX5_startStatedPlay := goodIn_r _ [214, 12, 11, 24, 215, 16, 216, 217, 218, 10, 219, 132, 133, 134, 36, 220, 221, 222, 223, 37, 38, 39, 40, 41, 42, 43, 44, 224, 225, 226, 15, 227, 50, 51, 228, 229, 230, 231, 232, 233, 234, 235, 236, 237, 238, 239, 240, 241, 242, 181, 243, 244, 245, 246, 247, 255, 256, 257, 258, 259, 260, 278, 279, 261, 262, 263, 264, 265, 266, 267, 268, 269, 270, 271, 272, 273, 274] (by decide +kernel) (by decide +kernel)
set_option maxRecDepth 20000 in
theorem gX5_init_X5_startStatedPlay : GoodIn wsX5_init (wsV RX5 66 RX5 yX5_startStatedPlay wsX5_startStatedPlay) := goodIn_app (goodIn_of _ (by decide +kernel)) ggX5_init_X5_startStatedPlay
theorem dX5_init_0 : decode cX5_init 0 = .ok (.aload_n 0, 1) := by decide +kernel
theorem dX5_init_1 : decode cX5_init 1 = .ok (.invokespecial 3, 3) := by decide +kernel
theorem dX5_init_4 : decode cX5_init 4 = .ok (.aload_n 0, 1) := by decide +kernel
theorem dX5_init_5 : decode cX5_init 5 = .ok (.new 9, 3) := by decide +kernel
theorem dX5_init_8 : decode cX5_init 8 = .ok (.dup, 1) := by decide +kernel
theorem dX5_init_9 : decode cX5_init 9 = .ok (.invokespecial 11, 3) := by decide +kernel
theorem dX5_init_12 : decode cX5_init 12 = .ok (.putfield 12, 3) := by decide +kernel
theorem dX5_init_15 : decode cX5_init 15 = .ok (.aload_n 0, 1) := by decide +kernel
theorem dX5_init_16 : decode cX5_init 16 = .ok (.new 16, 3) := by decide +kernel
theorem dX5_init_19 : decode cX5_init 19 = .ok (.dup, 1) := by decide +kernel
theorem dX5_init_20 : decode cX5_init 20 = .ok (.invokespecial 18, 3) := by decide +kernel
theorem dX5_init_23 : decode cX5_init 23 = .ok (.putfield 19, 3) := by decide +kernel
theorem dX5_init_26 : decode cX5_init 26 = .ok (.aload_n 0, 1) := by decide +kernel
theorem dX5_init_27 : decode cX5_init 27 = .ok (.new 16, 3) := by decide +kernel
theorem dX5_init_30 : decode cX5_init 30 = .ok (.dup, 1) := by decide +kernel
theorem dX5_init_31 : decode cX5_init 31 = .ok (.invokespecial 18, 3) := by decide +kernel
theorem dX5_init_34 : decode cX5_init 34 = .ok (.putfield 23, 3) := by decide +kernel
theorem dX5_init_37 : decode cX5_init 37 = .ok (.aload_n 0, 1) := by decide +kernel
theorem dX5_init_38 : decode cX5_init 38 = .ok (.new 26, 3) := by decide +kernel
theorem dX5_init_41 : decode cX5_init 41 = .ok (.dup, 1) := by decide +kernel
theorem dX5_init_42 : decode cX5_init 42 = .ok (.aload_n 0, 1) := by decide +kernel
theorem dX5_init_43 : decode cX5_init 43 = .ok (.getfield 23, 3) := by decide +kernel
theorem dX5_init_46 : decode cX5_init 46 = .ok (.invokespecial 28, 3) := by decide +kernel
theorem dX5_init_49 : decode cX5_init 49 = .ok (.putfield 31, 3) := by decide +kernel
theorem dX5_init_52 : decode cX5_init 52 = .ok (.aload_n 0, 1) := by decide +kernel
theorem dX5_init_53 : decode cX5_init 53 = .ok (.new 35, 3) := by decide +kernel
theorem dX5_init_56 : decode cX5_init 56 = .ok (.dup, 1) := by decide +kernel
theorem dX5_init_57 : decode cX5_init 57 = .ok (.invokespecial 37, 3) := by decide +kernel
theorem dX5_init_60 : decode cX5_init 60 = .ok (.putfield 38, 3) := by decide +kernel
theorem dX5_init_63 : decode cX5_init 63 = .ok (.aload_n 0, 1) := by decide +kernel
theorem dX5_init_64 : decode cX5_init 64 = .ok (.new 42, 3) := by decide +kernel
theorem dX5_init_67 : decode cX5_init 67 = .ok (.dup, 1) := by decide +kernel
theorem dX5_init_68 : decode cX5_init 68 = .ok (.invokespecial 44, 3) := by decide +kernel
theorem dX5_init_71 : decode cX5_init 71 = .ok (.putfield 45, 3) := by decide +kernel
theorem dX5_init_74 : decode cX5_init 74 = .ok (.aload_n 0, 1) := by decide +kernel
theorem dX5_init_75 : decode cX5_init 75 = .ok (.getfield 12, 3) := by decide +kernel
theorem dX5_init_78 : decode cX5_init 78 = .ok (.ldc 49, 2) := by decide +kernel
theorem dX5_init_80 : decode cX5_init 80 = .ok (.invokevirtual 51, 3) := by decide +kernel
theorem dX5_init_83 : decode cX5_init 83 = .ok (.aload_n 0, 1) := by decide +kernel
theorem dX5_init_84 : decode cX5_init 84 = .ok (.getfield 12, 3) := by decide +kernel
theorem dX5_init_87 : decode cX5_init 87 = .ok (.ldc 55, 2) := by decide +kernel
theorem dX5_init_89 : decode cX5_init 89 = .ok (.invokevirtual 51, 3) := by decide +kernel
theorem dX5_init_92 : decode cX5_init 92 = .ok (.aload_n 0, 1) := by decide +kernel
theorem dX5_init_93 : decode cX5_init 93 = .ok (.getfield 12, 3) := by decide +kernel
theorem dX5_init_96 : decode cX5_init 96 = .ok (.ldc 57, 2) := by decide +kernel
theorem dX5_init_98 : decode cX5_init 98 = .ok (.invokevirtual 51, 3) := by decide +kernel
theorem dX5_init_101 : decode cX5_init 101 = .ok (.aload_n 0, 1) := by decide +kernel
theorem dX5_init_102 : decode cX5_init 102 = .ok (.getfield 12, 3) := by decide +kernel
theorem dX5_init_105 : decode cX5_init 105 = .ok (.ldc 59, 2) := by decide +kernel
theorem dX5_init_107 : decode cX5_init 107 = .ok (.invokevirtual 51, 3) := by decide +kernel
theorem dX5_init_110 : decode cX5_init 110 = .ok (.aload_n 0, 1) := by decide +kernel
theorem dX5_init_111 : decode cX5_init 111 = .ok (.getfield 12, 3) := by decide +kernel
theorem dX5_init_114 : decode cX5_init 114 = .ok (.ldc 61, 2) := by decide +kernel
theorem dX5_init_116 : decode cX5_init 116 = .ok (.invokevirtual 51, 3) := by decide +kernel
theorem dX5_init_119 : decode cX5_init 119 = .ok (.aload_n 0, 1) := by decide +kernel
theorem dX5_init_120 : decode cX5_init 120 = .ok (.getfield 12, 3) := by decide +kernel
theorem dX5_init_123 : decode cX5_init 123 = .ok (.aload_n 0, 1) := by decide +kernel
theorem dX5_init_124 : decode cX5_init 124 = .ok (.getfield 19, 3) := by decide +kernel
theorem dX5_init_127 : decode cX5_init 127 = .ok (.invokevirtual 63, 3) := by decide +kernel
theorem dX5_init_130 : decode cX5_init 130 = .ok (.aload_n 0, 1) := by decide +kernel
theorem dX5_init_131 : decode cX5_init 131 = .ok (.invokevirtual 66, 3) := by decide +kernel
theorem dX5_init_134 : decode cX5_init 134 = .ok (.aload_n 0, 1) := by decide +kernel
theorem dX5_init_135 : decode cX5_init 135 = .ok (.getfield 12, 3) := by decide +kernel
theorem dX5_init_138 : decode cX5_init 138 = .ok (.iconst 0, 1) := by decide +kernel
theorem dX5_init_139 : decode cX5_init 139 = .ok (.putfield 69, 3) := by decide +kernel
theorem dX5_init_142 : decode cX5_init 142 = .ok (.return_, 1) := by decide +kernel
set_option maxRecDepth 20000 in
theorem ggX5_append_X3_put : GoodIn wsX5_append wsX3_put := goodIn_r _ [7, 8, 9, 16, 17, 18, 19, 20, 21, 22] (by decide +kernel) (by decide +kernel)
set_option maxRecDepth 20000 in
theorem gX5_append_X3_put : GoodIn wsX5_append (wsV RX5 73 RX3 yX3_put wsX3_put) := goodIn_app (goodIn_of _ (by decide +kernel)) ggX5_append_X3_put
theorem dX5_append_0 : decode cX5_append 0 = .ok (.iload_n 1, 1) := by decide +kernel
theorem dX5_append_1 : decode cX5_append 1 = .ok (.bipush 32, 2) := by decide +kernel
theorem dX5_append_3 : decode cX5_append 3 = .ok (.if_icmp .lt 9, 3) := by decide +kernel
theorem dX5_append_6 : decode cX5_append 6 = .ok (.iload_n 1, 1) := by decide +kernel
theorem dX5_append_7 : decode cX5_append 7 = .ok (.bipush 126, 2) := by decide +kernel
theorem dX5_append_9 : decode cX5_append 9 = .ok (.if_icmp .le 7, 3) := by decide +kernel
theorem dX5_append_12 : decode cX5_append 12 = .ok (.sipush (-1001), 3) := by decide +kernel
theorem dX5_append_15 : decode cX5_append 15 = .ok (.ireturn, 1) := by decide +kernel
theorem dX5_append_16 : decode cX5_append 16 = .ok (.aload_n 0, 1) := by decide +kernel
theorem dX5_append_17 : decode cX5_append 17 = .ok (.getfield 12, 3) := by decide +kernel
theorem dX5_append_20 : decode cX5_append 20 = .ok (.getfield 69, 3) := by decide +kernel
theorem dX5_append_23 : decode cX5_append 23 = .ok (.sipush 400, 3) := by decide +kernel
theorem dX5_append_26 : decode cX5_append 26 = .ok (.if_icmp .lt 7, 3) := by decide +kernel
theorem dX5_append_29 : decode cX5_append 29 = .ok (.sipush (-1003), 3) := by decide +kernel
theorem dX5_append_32 : decode cX5_append 32 = .ok (.ireturn, 1) := by decide +kernel
theorem dX5_append_33 : decode cX5_append 33 = .ok (.aload_n 0, 1) := by decide +kernel
theorem dX5_append_34 : decode cX5_append 34 = .ok (.getfield 12, 3) := by decide +kernel
theorem dX5_append_37 : decode cX5_append 37 = .ok (.iload_n 1, 1) := by decide +kernel
theorem dX5_append_38 : decode cX5_append 38 = .ok (.i2c, 1) := by decide +kernel
theorem dX5_append_39 : decode cX5_append 39 = .ok (.invokevirtual 73, 3) := by decide +kernel
theorem dX5_append_42 : decode cX5_append 42 = .ok (.aload_n 0, 1) := by decide +kernel
theorem dX5_append_43 : decode cX5_append 43 = .ok (.getfield 12, 3) := by decide +kernel
theorem dX5_append_46 : decode cX5_append 46 = .ok (.getfield 69, 3) := by decide +kernel
theorem dX5_append_49 : decode cX5_append 49 = .ok (.ireturn, 1) := by decide +kernel
theorem dX5_clearText_0 : decode cX5_clearText 0 = .ok (.aload_n 0, 1) := by decide +kernel
theorem dX5_clearText_1 : decode cX5_clearText 1 = .ok (.getfield 12, 3) := by decide +kernel
theorem dX5_clearText_4 : decode cX5_clearText 4 = .ok (.getfield 69, 3) := by decide +kernel
theorem dX5_clearText_7 : decode cX5_clearText 7 = .ok (.istore_n 1, 1) := by decide +kernel
theorem dX5_clearText_8 : decode cX5_clearText 8 = .ok (.aload_n 0, 1) := by decide +kernel
theorem dX5_clearText_9 : decode cX5_clearText 9 = .ok (.getfield 12, 3) := by decide +kernel
theorem dX5_clearText_12 : decode cX5_clearText 12 = .ok (.iconst 0, 1) := by decide +kernel
theorem dX5_clearText_13 : decode cX5_clearText 13 = .ok (.putfield 69, 3) := by decide +kernel
theorem dX5_clearText_16 : decode cX5_clearText 16 = .ok (.iload_n 1, 1) := by decide +kernel
theorem dX5_clearText_17 : decode cX5_clearText 17 = .ok (.ireturn, 1) := by decide +kernel
set_option maxRecDepth 20000 in
theorem ggX5_firstError_X3_readInto : GoodIn wsX5_firstError wsX3_readInto := goodIn_r _ [9, 10, 11, 12, 13, 14, 15, 16, 17, 18, 19, 20, 21, 22, 23, 24, 8, 25, 26, 27, 28, 29, 30, 31, 32, 33, 34, 35, 36, 37, 38, 39, 40, 41, 42, 43, 44, 45, 46, 47, 48, 49, 50, 51, 52, 53, 54, 55, 56, 57, 58, 59, 60, 61, 62, 63, 64, 65, 66, 67, 68, 69, 70, 71, 72, 73, 74, 75, 76, 77, 78, 79, 80, 81, 82, 83, 84, 85, 86, 87, 88, 89, 90, 91, 92, 93, 94, 95, 96, 97, 98, 99, 100, 101, 102, 103, 104, 105, 106, 107, 108, 109, 110, 111, 112, 113, 114, 115, 116, 117, 118, 119, 120, 121, 122, 123, 124, 125, 126, 127, 128, 129, 130, 131, 132, 133, 134, 135, 136, 137, 138, 139, 140, 141, 142, 143, 144, 145, 146, 147, 148, 149, 150, 151, 152, 153, 154, 155, 156, 157, 164, 165, 166, 167, 168, 169, 170, 171, 172, 173, 174, 175, 176, 177, 178, 179, 180, 181, 182] (by decide +kernel) (by decide +kernel)
set_option maxRecDepth 20000 in
theorem gX5_firstError_X3_readInto : GoodIn wsX5_firstError (wsV RX5 63 RX3 yX3_readInto wsX3_readInto) := goodIn_app (goodIn_of _ (by decide +kernel)) ggX5_firstError_X3_readInto
theorem dX5_firstError_0 : decode cX5_firstError 0 = .ok (.aload_n 0, 1) := by decide +kernel
theorem dX5_firstError_1 : decode cX5_firstError 1 = .ok (.getfield 12, 3) := by decide +kernel
theorem dX5_firstError_4 : decode cX5_firstError 4 = .ok (.aload_n 0, 1) := by decide +kernel
theorem dX5_firstError_5 : decode cX5_firstError 5 = .ok (.getfield 19, 3) := by decide +kernel
theorem dX5_firstError_8 : decode cX5_firstError 8 = .ok (.invokevirtual 63, 3) := by decide +kernel
theorem dX5_firstError_11 : decode cX5_firstError 11 = .ok (.aload_n 0, 1) := by decide +kernel
theorem dX5_firstError_12 : decode cX5_firstError 12 = .ok (.getfield 12, 3) := by decide +kernel
theorem dX5_firstError_15 : decode cX5_firstError 15 = .ok (.getfield 77, 3) := by decide +kernel
theorem dX5_firstError_18 : decode cX5_firstError 18 = .ok (.ifCond .ne 9, 3) := by decide +kernel
theorem dX5_firstError_21 : decode cX5_firstError 21 = .ok (.sipush (-1004), 3) := by decide +kernel
theorem dX5_firstError_24 : decode cX5_firstError 24 = .ok (.goto 10, 3) := by decide +kernel
theorem dX5_firstError_27 : decode cX5_firstError 27 = .ok (.aload_n 0, 1) := by decide +kernel
theorem dX5_firstError_28 : decode cX5_firstError 28 = .ok (.getfield 12, 3) := by decide +kernel
theorem dX5_firstError_31 : decode cX5_firstError 31 = .ok (.getfield 80, 3) := by decide +kernel
theorem dX5_firstError_34 : decode cX5_firstError 34 = .ok (.ireturn, 1) := by decide +kernel
set_option maxRecDepth 20000 in
theorem ggX5_errorReason_X3_readInto : GoodIn wsX5_errorReason wsX3_readInto := goodIn_r _ [8, 9, 10, 11, 12, 13, 14, 15, 16, 17, 18, 19, 20, 21, 22, 23, 7, 24, 25, 26, 27, 28, 29, 30, 31, 32, 33, 34, 35, 36, 37, 38, 39, 40, 41, 42, 43, 44, 45, 46, 47, 48, 49, 50, 51, 52, 53, 54, 55, 56, 57, 58, 59, 60, 61, 62, 63, 64, 65, 66, 67, 68, 69, 70, 71, 72, 73, 74, 75, 76, 77, 78, 79, 80, 81, 82, 83, 84, 85, 86, 87, 88, 89, 90, 91, 92, 93, 94, 95, 96, 97, 98, 99, 100, 101, 102, 103, 104, 105, 106, 107, 108, 109, 110, 111, 112, 113, 114, 115, 116, 117, 118, 119, 120, 121, 122, 123, 124, 125, 126, 127, 128, 129, 130, 131, 132, 133, 134, 135, 136, 137, 138, 139, 140, 141, 142, 143, 144, 145, 146, 147, 148, 149, 150, 151, 152, 153, 154, 155, 156, 163, 164, 165, 166, 167, 168, 169, 170, 171, 172, 173, 174, 175, 176, 177, 178, 179, 180, 181] (by decide +kernel) (by decide +kernel)
set_option maxRecDepth 20000 in
theorem gX5_errorReason_X3_readInto : GoodIn wsX5_errorReason (wsV RX5 63 RX3 yX3_readInto wsX3_readInto) := goodIn_app (goodIn_of _ (by decide +kernel)) ggX5_errorReason_X3_readInto
theorem dX5_errorReason_0 : decode cX5_errorReason 0 = .ok (.aload_n 0, 1) := by decide +kernel
theorem dX5_errorReason_1 : decode cX5_errorReason 1 = .ok (.getfield 12, 3) := by decide +kernel
theorem dX5_errorReason_4 : decode cX5_errorReason 4 = .ok (.aload_n 0, 1) := by decide +kernel
theorem dX5_errorReason_5 : decode cX5_errorReason 5 = .ok (.getfield 19, 3) := by decide +kernel
theorem dX5_errorReason_8 : decode cX5_errorReason 8 = .ok (.invokevirtual 63, 3) := by decide +kernel
theorem dX5_errorReason_11 : decode cX5_errorReason 11 = .ok (.aload_n 0, 1) := by decide +kernel
theorem dX5_errorReason_12 : decode cX5_errorReason 12 = .ok (.getfield 12, 3) := by decide +kernel
theorem dX5_errorReason_15 : decode cX5_errorReason 15 = .ok (.getfield 77, 3) := by decide +kernel
theorem dX5_errorReason_18 : decode cX5_errorReason 18 = .ok (.ifCond .ne 9, 3) := by decide +kernel
theorem dX5_errorReason_21 : decode cX5_errorReason 21 = .ok (.sipush (-1004), 3) := by decide +kernel
theorem dX5_errorReason_24 : decode cX5_errorReason 24 = .ok (.goto 10, 3) := by decide +kernel
theorem dX5_errorReason_27 : decode cX5_errorReason 27 = .ok (.aload_n 0, 1) := by decide +kernel
theorem dX5_errorReason_28 : decode cX5_errorReason 28 = .ok (.getfield 12, 3) := by decide +kernel
theorem dX5_errorReason_31 : decode cX5_errorReason 31 = .ok (.getfield 77, 3) := by decide +kernel
theorem dX5_errorReason_34 : decode cX5_errorReason 34 = .ok (.ireturn, 1) := by decide +kernel
set_option maxRecDepth 20000 in
theorem ggX5_configure_X3_readInto : GoodIn wsX5_configure wsX3_readInto := goodIn_r _ [11, 12, 13, 14, 15, 16, 17, 18, 19, 20, 21, 22, 23, 24, 25, 26, 10, 27, 28, 29, 30, 31, 32, 33, 34, 35, 36, 37, 38, 39, 40, 41, 42, 43, 44, 45, 46, 47, 48, 49, 50, 51, 52, 53, 54, 55, 56, 57, 58, 59, 60, 61, 62, 63, 64, 65, 66, 67, 68, 69, 70, 71, 72, 73, 74, 75, 76, 77, 78, 79, 80, 81, 82, 83, 84, 85, 86, 87, 88, 89, 90, 91, 92, 93, 94, 95, 96, 97, 98, 99, 100, 101, 102, 103, 104, 105, 106, 107, 108, 109, 110, 111, 112, 113, 114, 115, 116, 117, 118, 119, 120, 121, 122, 123, 124, 125, 126, 127, 128, 129, 130, 131, 132, 133, 134, 135, 136, 137, 138, 139, 140, 141, 142, 143, 144, 145, 146, 147, 148, 149, 150, 151, 152, 153, 154, 155, 156, 157, 158, 159, 208, 209, 210, 211, 212, 213, 214, 215, 216, 217, 218, 219, 220, 221, 222, 223, 224, 225, 226] (by decide +kernel) (by decide +kernel)
set_option maxRecDepth 20000 in
theorem gX5_configure_X3_readInto : GoodIn wsX5_configure (wsV RX5 63 RX3 yX3_readInto wsX3_readInto) := goodIn_app (goodIn_of _ (by decide +kernel)) ggX5_configure_X3_readInto
set_option maxRecDepth 20000 in
theorem ggX5_configure_X5_startStatedPlay : GoodIn wsX5_configure wsX5_startStatedPlay := goodIn_r _ [163, 6, 2, 164, 165, 166, 167, 168, 169, 19, 170, 21, 22, 23, 108, 171, 172, 173, 174, 121, 122, 123, 124, 152, 153, 154, 155, 175, 176, 177, 178, 179, 180, 181, 182, 183, 184, 185, 186, 187, 188, 189, 190, 191, 192, 193, 194, 195, 196, 126, 197, 198, 199, 200, 201, 202, 203, 204, 205, 206, 207, 227, 228, 215, 216, 217, 218, 219, 220, 221, 222, 223, 224, 225, 226, 229, 230] (by decide +kernel) (by decide +kernel)
set_option maxRecDepth 20000 in
theorem gX5_configure_X5_startStatedPlay : GoodIn wsX5_configure (wsV RX5 66 RX5 yX5_startStatedPlay wsX5_startStatedPlay) := goodIn_app (goodIn_of _ (by decide +kernel)) ggX5_configure_X5_startStatedPlay
theorem dX5_configure_0 : decode cX5_configure 0 = .ok (.aload_n 0, 1) := by decide +kernel
theorem dX5_configure_1 : decode cX5_configure 1 = .ok (.getfield 12, 3) := by decide +kernel
theorem dX5_configure_4 : decode cX5_configure 4 = .ok (.aload_n 0, 1) := by decide +kernel
theorem dX5_configure_5 : decode cX5_configure 5 = .ok (.getfield 19, 3) := by decide +kernel
theorem dX5_configure_8 : decode cX5_configure 8 = .ok (.invokevirtual 63, 3) := by decide +kernel
theorem dX5_configure_11 : decode cX5_configure 11 = .ok (.aload_n 0, 1) := by decide +kernel
theorem dX5_configure_12 : decode cX5_configure 12 = .ok (.getfield 12, 3) := by decide +kernel
theorem dX5_configure_15 : decode cX5_configure 15 = .ok (.getfield 77, 3) := by decide +kernel
theorem dX5_configure_18 : decode cX5_configure 18 = .ok (.ifCond .ne 23, 3) := by decide +kernel
theorem dX5_configure_21 : decode cX5_configure 21 = .ok (.aload_n 0, 1) := by decide +kernel
theorem dX5_configure_22 : decode cX5_configure 22 = .ok (.getfield 19, 3) := by decide +kernel
theorem dX5_configure_25 : decode cX5_configure 25 = .ok (.getfield 83, 3) := by decide +kernel
theorem dX5_configure_28 : decode cX5_configure 28 = .ok (.ifCond .eq 13, 3) := by decide +kernel
theorem dX5_configure_31 : decode cX5_configure 31 = .ok (.aload_n 0, 1) := by decide +kernel
theorem dX5_configure_32 : decode cX5_configure 32 = .ok (.getfield 19, 3) := by decide +kernel
theorem dX5_configure_35 : decode cX5_configure 35 = .ok (.getfield 86, 3) := by decide +kernel
theorem dX5_configure_38 : decode cX5_configure 38 = .ok (.ifCond .ne 7, 3) := by decide +kernel
theorem dX5_configure_41 : decode cX5_configure 41 = .ok (.sipush (-1002), 3) := by decide +kernel
theorem dX5_configure_44 : decode cX5_configure 44 = .ok (.ireturn, 1) := by decide +kernel
theorem dX5_configure_45 : decode cX5_configure 45 = .ok (.aload_n 0, 1) := by decide +kernel
theorem dX5_configure_46 : decode cX5_configure 46 = .ok (.invokevirtual 66, 3) := by decide +kernel
theorem dX5_configure_49 : decode cX5_configure 49 = .ok (.aload_n 0, 1) := by decide +kernel
theorem dX5_configure_50 : decode cX5_configure 50 = .ok (.getfield 23, 3) := by decide +kernel
theorem dX5_configure_53 : decode cX5_configure 53 = .ok (.getfield 86, 3) := by decide +kernel
theorem dX5_configure_56 : decode cX5_configure 56 = .ok (.ireturn, 1) := by decide +kernel
set_option maxRecDepth 20000 in
theorem ggX5_addAppearance_X2_admits : GoodIn wsX5_addAppearance wsX2_admits := goodIn_r _ [9, 10, 11, 12, 13, 8, 14, 15, 16, 17, 18, 19, 20, 106, 107, 108, 109, 110, 111, 112, 113, 114, 115, 116, 117] (by decide +kernel) (by decide +kernel)
set_option maxRecDepth 20000 in
theorem gX5_addAppearance_X2_admits : GoodIn wsX5_addAppearance (wsV RX5 89 RX2 yX2_admits wsX2_admits) := goodIn_app (goodIn_of _ (by decide +kernel)) ggX5_addAppearance_X2_admits
set_option maxRecDepth 20000 in
theorem ggX5_addAppearance_X1_remember : GoodIn wsX5_addAppearance wsX1_remember := goodIn_r _ [25, 26, 27, 28, 29, 30, 24, 31, 32, 33, 34, 8, 35, 20, 15, 36, 10, 37, 38, 39, 40, 41, 42, 43, 44, 45, 46, 47, 48, 118, 119, 106, 107, 108, 109, 110, 111, 112, 113, 114, 115, 116, 117] (by decide +kernel) (by decide +kernel)
set_option maxRecDepth 20000 in
theorem gX5_addAppearance_X1_remember : GoodIn wsX5_addAppearance (wsV RX5 96 RX1 yX1_remember wsX1_remember) := goodIn_app (goodIn_of _ (by decide +kernel)) ggX5_addAppearance_X1_remember
set_option maxRecDepth 20000 in
theorem ggX5_addAppearance_X2_putAppearance : GoodIn wsX5_addAppearance wsX2_putAppearance := goodIn_r _ [52, 45, 36, 46, 47, 48, 53, 54, 55, 8, 56, 20, 10, 106, 107, 108, 109, 110, 111, 112, 113, 114, 115, 116, 117] (by decide +kernel) (by decide +kernel)
set_option maxRecDepth 20000 in
theorem gX5_addAppearance_X2_putAppearance : GoodIn wsX5_addAppearance (wsV RX5 99 RX2 yX2_putAppearance wsX2_putAppearance) := goodIn_app (goodIn_of _ (by decide +kernel)) ggX5_addAppearance_X2_putAppearance
set_option maxRecDepth 20000 in
theorem ggX5_addAppearance_X4_measure : GoodIn wsX5_addAppearance wsX4_measure := goodIn_r _ [61, 62, 63, 64, 65, 66, 67, 60, 68, 69, 70, 71, 72, 73, 74, 75, 76, 77, 78, 79, 80, 81, 82, 83, 84, 120, 121, 106, 107, 108, 109, 110, 111, 112, 113, 114, 115, 116, 117] (by decide +kernel) (by decide +kernel)
set_option maxRecDepth 20000 in
theorem gX5_addAppearance_X4_measure : GoodIn wsX5_addAppearance (wsV RX5 103 RX4 yX4_measure wsX4_measure) := goodIn_app (goodIn_of _ (by decide +kernel)) ggX5_addAppearance_X4_measure
set_option maxRecDepth 20000 in
theorem ggX5_addAppearance_X5_freeRivals : GoodIn wsX5_addAppearance wsX5_freeRivals := goodIn_r _ [88, 1, 89, 90, 91, 92, 93, 79, 94, 4, 95, 96, 97, 60, 98, 63, 99, 62, 100, 101, 102, 103, 104, 105, 106, 107, 108, 109, 110, 111, 112, 113, 114, 115, 116, 117, 120, 121] (by decide +kernel) (by decide +kernel)
set_option maxRecDepth 20000 in
theorem gX5_addAppearance_X5_freeRivals : GoodIn wsX5_addAppearance (wsV RX5 106 RX5 yX5_freeRivals wsX5_freeRivals) := goodIn_app (goodIn_of _ (by decide +kernel)) ggX5_addAppearance_X5_freeRivals
theorem dX5_addAppearance_0 : decode cX5_addAppearance 0 = .ok (.aload_n 0, 1) := by decide +kernel
theorem dX5_addAppearance_1 : decode cX5_addAppearance 1 = .ok (.getfield 23, 3) := by decide +kernel
theorem dX5_addAppearance_4 : decode cX5_addAppearance 4 = .ok (.iload_n 1, 1) := by decide +kernel
theorem dX5_addAppearance_5 : decode cX5_addAppearance 5 = .ok (.iload_n 2, 1) := by decide +kernel
theorem dX5_addAppearance_6 : decode cX5_addAppearance 6 = .ok (.iload_n 3, 1) := by decide +kernel
theorem dX5_addAppearance_7 : decode cX5_addAppearance 7 = .ok (.iload 4, 2) := by decide +kernel
theorem dX5_addAppearance_9 : decode cX5_addAppearance 9 = .ok (.invokevirtual 89, 3) := by decide +kernel
theorem dX5_addAppearance_12 : decode cX5_addAppearance 12 = .ok (.ifCond .ne 7, 3) := by decide +kernel
theorem dX5_addAppearance_15 : decode cX5_addAppearance 15 = .ok (.sipush (-1001), 3) := by decide +kernel
theorem dX5_addAppearance_18 : decode cX5_addAppearance 18 = .ok (.ireturn, 1) := by decide +kernel
theorem dX5_addAppearance_19 : decode cX5_addAppearance 19 = .ok (.aload_n 0, 1) := by decide +kernel
theorem dX5_addAppearance_20 : decode cX5_addAppearance 20 = .ok (.getfield 23, 3) := by decide +kernel
theorem dX5_addAppearance_23 : decode cX5_addAppearance 23 = .ok (.getfield 93, 3) := by decide +kernel
theorem dX5_addAppearance_26 : decode cX5_addAppearance 26 = .ok (.bipush 20, 2) := by decide +kernel
theorem dX5_addAppearance_28 : decode cX5_addAppearance 28 = .ok (.if_icmp .lt 7, 3) := by decide +kernel
theorem dX5_addAppearance_31 : decode cX5_addAppearance 31 = .ok (.sipush (-1003), 3) := by decide +kernel
theorem dX5_addAppearance_34 : decode cX5_addAppearance 34 = .ok (.ireturn, 1) := by decide +kernel
theorem dX5_addAppearance_35 : decode cX5_addAppearance 35 = .ok (.aload_n 0, 1) := by decide +kernel
theorem dX5_addAppearance_36 : decode cX5_addAppearance 36 = .ok (.getfield 45, 3) := by decide +kernel
theorem dX5_addAppearance_39 : decode cX5_addAppearance 39 = .ok (.aload_n 0, 1) := by decide +kernel
theorem dX5_addAppearance_40 : decode cX5_addAppearance 40 = .ok (.getfield 23, 3) := by decide +kernel
theorem dX5_addAppearance_43 : decode cX5_addAppearance 43 = .ok (.invokevirtual 96, 3) := by decide +kernel
theorem dX5_addAppearance_46 : decode cX5_addAppearance 46 = .ok (.aload_n 0, 1) := by decide +kernel
theorem dX5_addAppearance_47 : decode cX5_addAppearance 47 = .ok (.getfield 23, 3) := by decide +kernel
theorem dX5_addAppearance_50 : decode cX5_addAppearance 50 = .ok (.iload_n 1, 1) := by decide +kernel
theorem dX5_addAppearance_51 : decode cX5_addAppearance 51 = .ok (.iload_n 2, 1) := by decide +kernel
theorem dX5_addAppearance_52 : decode cX5_addAppearance 52 = .ok (.iload_n 3, 1) := by decide +kernel
theorem dX5_addAppearance_53 : decode cX5_addAppearance 53 = .ok (.iload 4, 2) := by decide +kernel
theorem dX5_addAppearance_55 : decode cX5_addAppearance 55 = .ok (.invokevirtual 99, 3) := by decide +kernel
theorem dX5_addAppearance_58 : decode cX5_addAppearance 58 = .ok (.aload_n 0, 1) := by decide +kernel
theorem dX5_addAppearance_59 : decode cX5_addAppearance 59 = .ok (.getfield 31, 3) := by decide +kernel
theorem dX5_addAppearance_62 : decode cX5_addAppearance 62 = .ok (.invokevirtual 103, 3) := by decide +kernel
theorem dX5_addAppearance_65 : decode cX5_addAppearance 65 = .ok (.aload_n 0, 1) := by decide +kernel
theorem dX5_addAppearance_66 : decode cX5_addAppearance 66 = .ok (.invokevirtual 106, 3) := by decide +kernel
theorem dX5_addAppearance_69 : decode cX5_addAppearance 69 = .ok (.pop, 1) := by decide +kernel
theorem dX5_addAppearance_70 : decode cX5_addAppearance 70 = .ok (.aload_n 0, 1) := by decide +kernel
theorem dX5_addAppearance_71 : decode cX5_addAppearance 71 = .ok (.getfield 23, 3) := by decide +kernel
theorem dX5_addAppearance_74 : decode cX5_addAppearance 74 = .ok (.getfield 93, 3) := by decide +kernel
theorem dX5_addAppearance_77 : decode cX5_addAppearance 77 = .ok (.ireturn, 1) := by decide +kernel
set_option maxRecDepth 20000 in
theorem ggX5_removeAppearance_X1_remember : GoodIn wsX5_removeAppearance wsX1_remember := goodIn_r _ [9, 10, 11, 12, 13, 14, 8, 15, 16, 17, 18, 19, 20, 21, 22, 23, 24, 25, 26, 27, 28, 29, 30, 31, 32, 33, 34, 35, 36, 87, 88, 75, 76, 77, 78, 79, 80, 81, 82, 83, 84, 85, 86] (by decide +kernel) (by decide +kernel)
set_option maxRecDepth 20000 in
theorem gX5_removeAppearance_X1_remember : GoodIn wsX5_removeAppearance (wsV RX5 96 RX1 yX1_remember wsX1_remember) := goodIn_app (goodIn_of _ (by decide +kernel)) ggX5_removeAppearance_X1_remember
set_option maxRecDepth 20000 in
theorem ggX5_removeAppearance_X2_dropAppearance : GoodIn wsX5_removeAppearance wsX2_dropAppearance := goodIn_r _ [40, 23, 33, 34, 35, 36, 75, 76, 77, 78, 79, 80, 81, 82, 83, 84, 85, 86] (by decide +kernel) (by decide +kernel)
set_option maxRecDepth 20000 in
theorem gX5_removeAppearance_X2_dropAppearance : GoodIn wsX5_removeAppearance (wsV RX5 110 RX2 yX2_dropAppearance wsX2_dropAppearance) := goodIn_app (goodIn_of _ (by decide +kernel)) ggX5_removeAppearance_X2_dropAppearance
set_option maxRecDepth 20000 in
theorem ggX5_removeAppearance_X4_measure : GoodIn wsX5_removeAppearance wsX4_measure := goodIn_r _ [45, 46, 47, 48, 49, 50, 51, 44, 52, 53, 54, 55, 56, 57, 58, 59, 60, 61, 62, 63, 64, 65, 66, 67, 68, 89, 90, 75, 76, 77, 78, 79, 80, 81, 82, 83, 84, 85, 86] (by decide +kernel) (by decide +kernel)
set_option maxRecDepth 20000 in
theorem gX5_removeAppearance_X4_measure : GoodIn wsX5_removeAppearance (wsV RX5 103 RX4 yX4_measure wsX4_measure) := goodIn_app (goodIn_of _ (by decide +kernel)) ggX5_removeAppearance_X4_measure
theorem dX5_removeAppearance_0 : decode cX5_removeAppearance 0 = .ok (.iload_n 1, 1) := by decide +kernel
theorem dX5_removeAppearance_1 : decode cX5_removeAppearance 1 = .ok (.ifCond .lt 14, 3) := by decide +kernel
theorem dX5_removeAppearance_4 : decode cX5_removeAppearance 4 = .ok (.iload_n 1, 1) := by decide +kernel
theorem dX5_removeAppearance_5 : decode cX5_removeAppearance 5 = .ok (.aload_n 0, 1) := by decide +kernel
theorem dX5_removeAppearance_6 : decode cX5_removeAppearance 6 = .ok (.getfield 23, 3) := by decide +kernel
theorem dX5_removeAppearance_9 : decode cX5_removeAppearance 9 = .ok (.getfield 93, 3) := by decide +kernel
theorem dX5_removeAppearance_12 : decode cX5_removeAppearance 12 = .ok (.if_icmp .lt 7, 3) := by decide +kernel
theorem dX5_removeAppearance_15 : decode cX5_removeAppearance 15 = .ok (.sipush (-1001), 3) := by decide +kernel
theorem dX5_removeAppearance_18 : decode cX5_removeAppearance 18 = .ok (.ireturn, 1) := by decide +kernel
theorem dX5_removeAppearance_19 : decode cX5_removeAppearance 19 = .ok (.aload_n 0, 1) := by decide +kernel
theorem dX5_removeAppearance_20 : decode cX5_removeAppearance 20 = .ok (.getfield 45, 3) := by decide +kernel
theorem dX5_removeAppearance_23 : decode cX5_removeAppearance 23 = .ok (.aload_n 0, 1) := by decide +kernel
theorem dX5_removeAppearance_24 : decode cX5_removeAppearance 24 = .ok (.getfield 23, 3) := by decide +kernel
theorem dX5_removeAppearance_27 : decode cX5_removeAppearance 27 = .ok (.invokevirtual 96, 3) := by decide +kernel
theorem dX5_removeAppearance_30 : decode cX5_removeAppearance 30 = .ok (.aload_n 0, 1) := by decide +kernel
theorem dX5_removeAppearance_31 : decode cX5_removeAppearance 31 = .ok (.getfield 23, 3) := by decide +kernel
theorem dX5_removeAppearance_34 : decode cX5_removeAppearance 34 = .ok (.iload_n 1, 1) := by decide +kernel
theorem dX5_removeAppearance_35 : decode cX5_removeAppearance 35 = .ok (.invokevirtual 110, 3) := by decide +kernel
theorem dX5_removeAppearance_38 : decode cX5_removeAppearance 38 = .ok (.aload_n 0, 1) := by decide +kernel
theorem dX5_removeAppearance_39 : decode cX5_removeAppearance 39 = .ok (.getfield 31, 3) := by decide +kernel
theorem dX5_removeAppearance_42 : decode cX5_removeAppearance 42 = .ok (.invokevirtual 103, 3) := by decide +kernel
theorem dX5_removeAppearance_45 : decode cX5_removeAppearance 45 = .ok (.aload_n 0, 1) := by decide +kernel
theorem dX5_removeAppearance_46 : decode cX5_removeAppearance 46 = .ok (.getfield 23, 3) := by decide +kernel
theorem dX5_removeAppearance_49 : decode cX5_removeAppearance 49 = .ok (.getfield 93, 3) := by decide +kernel
theorem dX5_removeAppearance_52 : decode cX5_removeAppearance 52 = .ok (.ireturn, 1) := by decide +kernel
set_option maxRecDepth 20000 in
theorem ggX5_setChangeTimes_X2_hasRole : GoodIn wsX5_setChangeTimes wsX2_hasRole := goodIn_r _ [10, 11, 94, 95, 96, 97, 98, 99, 100, 101, 102, 103, 104, 105] (by decide +kernel) (by decide +kernel)
set_option maxRecDepth 20000 in
theorem gX5_setChangeTimes_X2_hasRole : GoodIn wsX5_setChangeTimes (wsV RX5 114 RX2 yX2_hasRole wsX2_hasRole) := goodIn_app (goodIn_of _ (by decide +kernel)) ggX5_setChangeTimes_X2_hasRole
set_option maxRecDepth 20000 in
theorem ggX5_setChangeTimes_X5_isCostumeTime : GoodIn wsX5_setChangeTimes wsX5_isCostumeTime := goodIn_r _ [15] (by decide +kernel) (by decide +kernel)
set_option maxRecDepth 20000 in
theorem gX5_setChangeTimes_X5_isCostumeTime : GoodIn wsX5_setChangeTimes (va_wsS RX5 118 yX5_isCostumeTime wsX5_isCostumeTime) := goodIn_app (goodIn_of _ (by decide +kernel)) ggX5_setChangeTimes_X5_isCostumeTime
set_option maxRecDepth 20000 in
theorem ggX5_setChangeTimes_X1_remember : GoodIn wsX5_setChangeTimes wsX1_remember := goodIn_r _ [20, 21, 22, 23, 24, 25, 19, 26, 27, 28, 29, 9, 30, 31, 11, 32, 33, 34, 35, 36, 37, 38, 39, 40, 41, 42, 43, 44, 45, 106, 107, 94, 95, 96, 97, 98, 99, 100, 101, 102, 103, 104, 105] (by decide +kernel) (by decide +kernel)
set_option maxRecDepth 20000 in
theorem gX5_setChangeTimes_X1_remember : GoodIn wsX5_setChangeTimes (wsV RX5 96 RX1 yX1_remember wsX1_remember) := goodIn_app (goodIn_of _ (by decide +kernel)) ggX5_setChangeTimes_X1_remember
set_option maxRecDepth 20000 in
theorem ggX5_setChangeTimes_X4_measure : GoodIn wsX5_setChangeTimes wsX4_measure := goodIn_r _ [50, 51, 52, 53, 54, 55, 56, 49, 57, 58, 59, 60, 61, 62, 63, 64, 65, 66, 67, 14, 68, 69, 70, 71, 72, 108, 109, 94, 95, 96, 97, 98, 99, 100, 101, 102, 103, 104, 105] (by decide +kernel) (by decide +kernel)
set_option maxRecDepth 20000 in
theorem gX5_setChangeTimes_X4_measure : GoodIn wsX5_setChangeTimes (wsV RX5 103 RX4 yX4_measure wsX4_measure) := goodIn_app (goodIn_of _ (by decide +kernel)) ggX5_setChangeTimes_X4_measure
set_option maxRecDepth 20000 in
theorem ggX5_setChangeTimes_X5_freeRivals : GoodIn wsX5_setChangeTimes wsX5_freeRivals := goodIn_r _ [76, 1, 77, 78, 79, 80, 81, 14, 82, 5, 83, 84, 85, 49, 86, 52, 87, 51, 88, 89, 90, 91, 92, 93, 94, 95, 96, 97, 98, 99, 100, 101, 102, 103, 104, 105, 108, 109] (by decide +kernel) (by decide +kernel)
set_option maxRecDepth 20000 in
theorem gX5_setChangeTimes_X5_freeRivals : GoodIn wsX5_setChangeTimes (wsV RX5 106 RX5 yX5_freeRivals wsX5_freeRivals) := goodIn_app (goodIn_of _ (by decide +kernel)) ggX5_setChangeTimes_X5_freeRivals
theorem dX5_setChangeTimes_0 : decode cX5_setChangeTimes 0 = .ok (.aload_n 0, 1) := by decide +kernel
theorem dX5_setChangeTimes_1 : decode cX5_setChangeTimes 1 = .ok (.getfield 23, 3) := by decide +kernel
theorem dX5_setChangeTimes_4 : decode cX5_setChangeTimes 4 = .ok (.iload_n 1, 1) := by decide +kernel
theorem dX5_setChangeTimes_5 : decode cX5_setChangeTimes 5 = .ok (.invokevirtual 114, 3) := by decide +kernel
theorem dX5_setChangeTimes_8 : decode cX5_setChangeTimes 8 = .ok (.ifCond .eq 17, 3) := by decide +kernel
theorem dX5_setChangeTimes_11 : decode cX5_setChangeTimes 11 = .ok (.iload_n 2, 1) := by decide +kernel
theorem dX5_setChangeTimes_12 : decode cX5_setChangeTimes 12 = .ok (.invokestatic 118, 3) := by decide +kernel
theorem dX5_setChangeTimes_15 : decode cX5_setChangeTimes 15 = .ok (.ifCond .eq 10, 3) := by decide +kernel
theorem dX5_setChangeTimes_18 : decode cX5_setChangeTimes 18 = .ok (.iload_n 3, 1) := by decide +kernel
theorem dX5_setChangeTimes_19 : decode cX5_setChangeTimes 19 = .ok (.invokestatic 118, 3) := by decide +kernel
theorem dX5_setChangeTimes_22 : decode cX5_setChangeTimes 22 = .ok (.ifCond .ne 7, 3) := by decide +kernel
theorem dX5_setChangeTimes_25 : decode cX5_setChangeTimes 25 = .ok (.sipush (-1001), 3) := by decide +kernel
theorem dX5_setChangeTimes_28 : decode cX5_setChangeTimes 28 = .ok (.ireturn, 1) := by decide +kernel
theorem dX5_setChangeTimes_29 : decode cX5_setChangeTimes 29 = .ok (.aload_n 0, 1) := by decide +kernel
theorem dX5_setChangeTimes_30 : decode cX5_setChangeTimes 30 = .ok (.getfield 45, 3) := by decide +kernel
theorem dX5_setChangeTimes_33 : decode cX5_setChangeTimes 33 = .ok (.aload_n 0, 1) := by decide +kernel
theorem dX5_setChangeTimes_34 : decode cX5_setChangeTimes 34 = .ok (.getfield 23, 3) := by decide +kernel
theorem dX5_setChangeTimes_37 : decode cX5_setChangeTimes 37 = .ok (.invokevirtual 96, 3) := by decide +kernel
theorem dX5_setChangeTimes_40 : decode cX5_setChangeTimes 40 = .ok (.aload_n 0, 1) := by decide +kernel
theorem dX5_setChangeTimes_41 : decode cX5_setChangeTimes 41 = .ok (.getfield 23, 3) := by decide +kernel
theorem dX5_setChangeTimes_44 : decode cX5_setChangeTimes 44 = .ok (.getfield 121, 3) := by decide +kernel
theorem dX5_setChangeTimes_47 : decode cX5_setChangeTimes 47 = .ok (.iload_n 1, 1) := by decide +kernel
theorem dX5_setChangeTimes_48 : decode cX5_setChangeTimes 48 = .ok (.iload_n 2, 1) := by decide +kernel
theorem dX5_setChangeTimes_49 : decode cX5_setChangeTimes 49 = .ok (.iastore, 1) := by decide +kernel
theorem dX5_setChangeTimes_50 : decode cX5_setChangeTimes 50 = .ok (.aload_n 0, 1) := by decide +kernel
theorem dX5_setChangeTimes_51 : decode cX5_setChangeTimes 51 = .ok (.getfield 23, 3) := by decide +kernel
theorem dX5_setChangeTimes_54 : decode cX5_setChangeTimes 54 = .ok (.getfield 125, 3) := by decide +kernel
theorem dX5_setChangeTimes_57 : decode cX5_setChangeTimes 57 = .ok (.iload_n 1, 1) := by decide +kernel
theorem dX5_setChangeTimes_58 : decode cX5_setChangeTimes 58 = .ok (.iload_n 3, 1) := by decide +kernel
theorem dX5_setChangeTimes_59 : decode cX5_setChangeTimes 59 = .ok (.iastore, 1) := by decide +kernel
theorem dX5_setChangeTimes_60 : decode cX5_setChangeTimes 60 = .ok (.aload_n 0, 1) := by decide +kernel
theorem dX5_setChangeTimes_61 : decode cX5_setChangeTimes 61 = .ok (.getfield 31, 3) := by decide +kernel
theorem dX5_setChangeTimes_64 : decode cX5_setChangeTimes 64 = .ok (.invokevirtual 103, 3) := by decide +kernel
theorem dX5_setChangeTimes_67 : decode cX5_setChangeTimes 67 = .ok (.aload_n 0, 1) := by decide +kernel
theorem dX5_setChangeTimes_68 : decode cX5_setChangeTimes 68 = .ok (.invokevirtual 106, 3) := by decide +kernel
theorem dX5_setChangeTimes_71 : decode cX5_setChangeTimes 71 = .ok (.ireturn, 1) := by decide +kernel
set_option maxRecDepth 20000 in
theorem ggX5_cast_X2_hasRole : GoodIn wsX5_cast wsX2_hasRole := goodIn_r _ [9, 10, 75, 76, 77, 78, 79, 80, 81, 82, 83, 84, 85, 86] (by decide +kernel) (by decide +kernel)
set_option maxRecDepth 20000 in
theorem gX5_cast_X2_hasRole : GoodIn wsX5_cast (wsV RX5 114 RX2 yX2_hasRole wsX2_hasRole) := goodIn_app (goodIn_of _ (by decide +kernel)) ggX5_cast_X2_hasRole
set_option maxRecDepth 20000 in
theorem ggX5_cast_X5_isActor : GoodIn wsX5_cast wsX5_isActor := goodIn_r _ [14] (by decide +kernel) (by decide +kernel)
set_option maxRecDepth 20000 in
theorem gX5_cast_X5_isActor : GoodIn wsX5_cast (va_wsS RX5 128 yX5_isActor wsX5_isActor) := goodIn_app (goodIn_of _ (by decide +kernel)) ggX5_cast_X5_isActor
set_option maxRecDepth 20000 in
theorem ggX5_cast_X5_hasRivalOf : GoodIn wsX5_cast wsX5_hasRivalOf := goodIn_r _ [18, 1, 4, 19, 20, 21, 22, 23, 24, 25, 26, 27, 69, 70, 71, 72, 73, 74, 75, 76, 77, 78, 79, 80, 81, 82, 83, 84, 85, 86, 87, 88] (by decide +kernel) (by decide +kernel)
set_option maxRecDepth 20000 in
theorem gX5_cast_X5_hasRivalOf : GoodIn wsX5_cast (wsV RX5 131 RX5 yX5_hasRivalOf wsX5_hasRivalOf) := goodIn_app (goodIn_of _ (by decide +kernel)) ggX5_cast_X5_hasRivalOf
set_option maxRecDepth 20000 in
theorem ggX5_cast_X1_remember : GoodIn wsX5_cast wsX1_remember := goodIn_r _ [32, 33, 34, 35, 36, 37, 31, 38, 39, 40, 41, 8, 42, 43, 10, 44, 45, 46, 47, 48, 49, 50, 51, 52, 53, 54, 55, 56, 57, 89, 90, 75, 76, 77, 78, 79, 80, 81, 82, 83, 84, 85, 86] (by decide +kernel) (by decide +kernel)
set_option maxRecDepth 20000 in
theorem gX5_cast_X1_remember : GoodIn wsX5_cast (wsV RX5 96 RX1 yX1_remember wsX1_remember) := goodIn_app (goodIn_of _ (by decide +kernel)) ggX5_cast_X1_remember
set_option maxRecDepth 20000 in
theorem ggX5_cast_X2_rolesWith : GoodIn wsX5_cast wsX2_rolesWith := goodIn_r _ [61, 10, 53, 75, 76, 77, 78, 79, 80, 81, 82, 83, 84, 85, 86] (by decide +kernel) (by decide +kernel)
set_option maxRecDepth 20000 in
theorem gX5_cast_X2_rolesWith : GoodIn wsX5_cast (wsV RX5 138 RX2 yX2_rolesWith wsX2_rolesWith) := goodIn_app (goodIn_of _ (by decide +kernel)) ggX5_cast_X2_rolesWith
set_option maxRecDepth 20000 in
theorem ggX5_cast_J6_bitCount_0f7a4 : GoodIn wsX5_cast wsJ6_bitCount_0f7a4 := goodIn_r _ [65, 66, 67, 68] (by decide +kernel) (by decide +kernel)
set_option maxRecDepth 20000 in
theorem gX5_cast_J6_bitCount_0f7a4 : GoodIn wsX5_cast (va_wsS RX5 142 yJ6_bitCount_0f7a4 wsJ6_bitCount_0f7a4) := goodIn_app (goodIn_of _ (by decide +kernel)) ggX5_cast_J6_bitCount_0f7a4
theorem dX5_cast_0 : decode cX5_cast 0 = .ok (.aload_n 0, 1) := by decide +kernel
theorem dX5_cast_1 : decode cX5_cast 1 = .ok (.getfield 23, 3) := by decide +kernel
theorem dX5_cast_4 : decode cX5_cast 4 = .ok (.iload_n 1, 1) := by decide +kernel
theorem dX5_cast_5 : decode cX5_cast 5 = .ok (.invokevirtual 114, 3) := by decide +kernel
theorem dX5_cast_8 : decode cX5_cast 8 = .ok (.ifCond .eq 10, 3) := by decide +kernel
theorem dX5_cast_11 : decode cX5_cast 11 = .ok (.iload_n 2, 1) := by decide +kernel
theorem dX5_cast_12 : decode cX5_cast 12 = .ok (.invokestatic 128, 3) := by decide +kernel
theorem dX5_cast_15 : decode cX5_cast 15 = .ok (.ifCond .ne 7, 3) := by decide +kernel
theorem dX5_cast_18 : decode cX5_cast 18 = .ok (.sipush (-1001), 3) := by decide +kernel
theorem dX5_cast_21 : decode cX5_cast 21 = .ok (.ireturn, 1) := by decide +kernel
theorem dX5_cast_22 : decode cX5_cast 22 = .ok (.aload_n 0, 1) := by decide +kernel
theorem dX5_cast_23 : decode cX5_cast 23 = .ok (.iload_n 2, 1) := by decide +kernel
theorem dX5_cast_24 : decode cX5_cast 24 = .ok (.iload_n 1, 1) := by decide +kernel
theorem dX5_cast_25 : decode cX5_cast 25 = .ok (.aload_n 0, 1) := by decide +kernel
theorem dX5_cast_26 : decode cX5_cast 26 = .ok (.getfield 23, 3) := by decide +kernel
theorem dX5_cast_29 : decode cX5_cast 29 = .ok (.getfield 86, 3) := by decide +kernel
theorem dX5_cast_32 : decode cX5_cast 32 = .ok (.invokevirtual 131, 3) := by decide +kernel
theorem dX5_cast_35 : decode cX5_cast 35 = .ok (.ifCond .eq 7, 3) := by decide +kernel
theorem dX5_cast_38 : decode cX5_cast 38 = .ok (.sipush (-1002), 3) := by decide +kernel
theorem dX5_cast_41 : decode cX5_cast 41 = .ok (.ireturn, 1) := by decide +kernel
theorem dX5_cast_42 : decode cX5_cast 42 = .ok (.aload_n 0, 1) := by decide +kernel
theorem dX5_cast_43 : decode cX5_cast 43 = .ok (.getfield 45, 3) := by decide +kernel
theorem dX5_cast_46 : decode cX5_cast 46 = .ok (.aload_n 0, 1) := by decide +kernel
theorem dX5_cast_47 : decode cX5_cast 47 = .ok (.getfield 23, 3) := by decide +kernel
theorem dX5_cast_50 : decode cX5_cast 50 = .ok (.invokevirtual 96, 3) := by decide +kernel
theorem dX5_cast_53 : decode cX5_cast 53 = .ok (.aload_n 0, 1) := by decide +kernel
theorem dX5_cast_54 : decode cX5_cast 54 = .ok (.getfield 23, 3) := by decide +kernel
theorem dX5_cast_57 : decode cX5_cast 57 = .ok (.getfield 135, 3) := by decide +kernel
theorem dX5_cast_60 : decode cX5_cast 60 = .ok (.iload_n 1, 1) := by decide +kernel
theorem dX5_cast_61 : decode cX5_cast 61 = .ok (.iload_n 2, 1) := by decide +kernel
theorem dX5_cast_62 : decode cX5_cast 62 = .ok (.iastore, 1) := by decide +kernel
theorem dX5_cast_63 : decode cX5_cast 63 = .ok (.aload_n 0, 1) := by decide +kernel
theorem dX5_cast_64 : decode cX5_cast 64 = .ok (.getfield 23, 3) := by decide +kernel
theorem dX5_cast_67 : decode cX5_cast 67 = .ok (.iload_n 2, 1) := by decide +kernel
theorem dX5_cast_68 : decode cX5_cast 68 = .ok (.invokevirtual 138, 3) := by decide +kernel
theorem dX5_cast_71 : decode cX5_cast 71 = .ok (.invokestatic 142, 3) := by decide +kernel
theorem dX5_cast_74 : decode cX5_cast 74 = .ok (.ireturn, 1) := by decide +kernel
set_option maxRecDepth 20000 in
theorem ggX5_uncast_X2_hasRole : GoodIn wsX5_uncast wsX2_hasRole := goodIn_r _ [8, 9, 46, 47, 48, 49, 50, 51, 52, 53, 54, 55, 56, 57] (by decide +kernel) (by decide +kernel)
set_option maxRecDepth 20000 in
theorem gX5_uncast_X2_hasRole : GoodIn wsX5_uncast (wsV RX5 114 RX2 yX2_hasRole wsX2_hasRole) := goodIn_app (goodIn_of _ (by decide +kernel)) ggX5_uncast_X2_hasRole
set_option maxRecDepth 20000 in
theorem ggX5_uncast_X1_remember : GoodIn wsX5_uncast wsX1_remember := goodIn_r _ [14, 15, 16, 17, 18, 19, 13, 20, 21, 22, 23, 7, 24, 25, 9, 26, 27, 28, 29, 30, 31, 32, 33, 34, 35, 36, 37, 38, 39, 58, 59, 46, 47, 48, 49, 50, 51, 52, 53, 54, 55, 56, 57] (by decide +kernel) (by decide +kernel)
set_option maxRecDepth 20000 in
theorem gX5_uncast_X1_remember : GoodIn wsX5_uncast (wsV RX5 96 RX1 yX1_remember wsX1_remember) := goodIn_app (goodIn_of _ (by decide +kernel)) ggX5_uncast_X1_remember
theorem dX5_uncast_0 : decode cX5_uncast 0 = .ok (.aload_n 0, 1) := by decide +kernel
theorem dX5_uncast_1 : decode cX5_uncast 1 = .ok (.getfield 23, 3) := by decide +kernel
theorem dX5_uncast_4 : decode cX5_uncast 4 = .ok (.iload_n 1, 1) := by decide +kernel
theorem dX5_uncast_5 : decode cX5_uncast 5 = .ok (.invokevirtual 114, 3) := by decide +kernel
theorem dX5_uncast_8 : decode cX5_uncast 8 = .ok (.ifCond .ne 7, 3) := by decide +kernel
theorem dX5_uncast_11 : decode cX5_uncast 11 = .ok (.sipush (-1001), 3) := by decide +kernel
theorem dX5_uncast_14 : decode cX5_uncast 14 = .ok (.ireturn, 1) := by decide +kernel
theorem dX5_uncast_15 : decode cX5_uncast 15 = .ok (.aload_n 0, 1) := by decide +kernel
theorem dX5_uncast_16 : decode cX5_uncast 16 = .ok (.getfield 23, 3) := by decide +kernel
theorem dX5_uncast_19 : decode cX5_uncast 19 = .ok (.getfield 135, 3) := by decide +kernel
theorem dX5_uncast_22 : decode cX5_uncast 22 = .ok (.iload_n 1, 1) := by decide +kernel
theorem dX5_uncast_23 : decode cX5_uncast 23 = .ok (.iaload, 1) := by decide +kernel
theorem dX5_uncast_24 : decode cX5_uncast 24 = .ok (.istore_n 2, 1) := by decide +kernel
theorem dX5_uncast_25 : decode cX5_uncast 25 = .ok (.iload_n 2, 1) := by decide +kernel
theorem dX5_uncast_26 : decode cX5_uncast 26 = .ok (.iconst (-1), 1) := by decide +kernel
theorem dX5_uncast_27 : decode cX5_uncast 27 = .ok (.if_icmp .ne 7, 3) := by decide +kernel
theorem dX5_uncast_30 : decode cX5_uncast 30 = .ok (.sipush (-1002), 3) := by decide +kernel
theorem dX5_uncast_33 : decode cX5_uncast 33 = .ok (.ireturn, 1) := by decide +kernel
theorem dX5_uncast_34 : decode cX5_uncast 34 = .ok (.aload_n 0, 1) := by decide +kernel
theorem dX5_uncast_35 : decode cX5_uncast 35 = .ok (.getfield 45, 3) := by decide +kernel
theorem dX5_uncast_38 : decode cX5_uncast 38 = .ok (.aload_n 0, 1) := by decide +kernel
theorem dX5_uncast_39 : decode cX5_uncast 39 = .ok (.getfield 23, 3) := by decide +kernel
theorem dX5_uncast_42 : decode cX5_uncast 42 = .ok (.invokevirtual 96, 3) := by decide +kernel
theorem dX5_uncast_45 : decode cX5_uncast 45 = .ok (.aload_n 0, 1) := by decide +kernel
theorem dX5_uncast_46 : decode cX5_uncast 46 = .ok (.getfield 23, 3) := by decide +kernel
theorem dX5_uncast_49 : decode cX5_uncast 49 = .ok (.getfield 135, 3) := by decide +kernel
theorem dX5_uncast_52 : decode cX5_uncast 52 = .ok (.iload_n 1, 1) := by decide +kernel
theorem dX5_uncast_53 : decode cX5_uncast 53 = .ok (.iconst (-1), 1) := by decide +kernel
theorem dX5_uncast_54 : decode cX5_uncast 54 = .ok (.iastore, 1) := by decide +kernel
theorem dX5_uncast_55 : decode cX5_uncast 55 = .ok (.iload_n 2, 1) := by decide +kernel
theorem dX5_uncast_56 : decode cX5_uncast 56 = .ok (.ireturn, 1) := by decide +kernel
set_option maxRecDepth 20000 in
theorem ggX5_adoptFirstCast_X1_remember : GoodIn wsX5_adoptFirstCast wsX1_remember := goodIn_r _ [11, 12, 13, 14, 15, 16, 10, 17, 18, 19, 20, 21, 22, 23, 24, 25, 26, 27, 28, 29, 30, 31, 32, 33, 34, 35, 36, 37, 38, 105, 106, 93, 94, 95, 96, 97, 98, 99, 100, 101, 102, 103, 104] (by decide +kernel) (by decide +kernel)
set_option maxRecDepth 20000 in
theorem gX5_adoptFirstCast_X1_remember : GoodIn wsX5_adoptFirstCast (wsV RX5 96 RX1 yX1_remember wsX1_remember) := goodIn_app (goodIn_of _ (by decide +kernel)) ggX5_adoptFirstCast_X1_remember
set_option maxRecDepth 20000 in
theorem ggX5_adoptFirstCast_X0_lookAt : GoodIn wsX5_adoptFirstCast wsX0_lookAt := goodIn_r _ [43, 44, 45, 46, 47, 48, 49, 50, 51, 52, 53, 54, 55, 107, 108, 93, 94, 95, 96, 97, 98, 99, 100, 101, 102, 103, 104, 109, 110, 111] (by decide +kernel) (by decide +kernel)
set_option maxRecDepth 20000 in
theorem gX5_adoptFirstCast_X0_lookAt : GoodIn wsX5_adoptFirstCast (wsV RX5 147 RX0 yX0_lookAt wsX0_lookAt) := goodIn_app (goodIn_of _ (by decide +kernel)) ggX5_adoptFirstCast_X0_lookAt
set_option maxRecDepth 20000 in
theorem ggX5_adoptFirstCast_X0_findFirstCast : GoodIn wsX5_adoptFirstCast wsX0_findFirstCast := goodIn_r _ [59, 46, 60, 61, 62, 42, 63, 64, 65, 66, 67, 68, 69, 70, 71, 72, 73, 74, 75, 76, 77, 78, 79, 80, 81, 82, 47, 109, 110, 111] (by decide +kernel) (by decide +kernel)
set_option maxRecDepth 20000 in
theorem gX5_adoptFirstCast_X0_findFirstCast : GoodIn wsX5_adoptFirstCast (wsV RX5 151 RX0 yX0_findFirstCast wsX0_findFirstCast) := goodIn_app (goodIn_of _ (by decide +kernel)) ggX5_adoptFirstCast_X0_findFirstCast
set_option maxRecDepth 20000 in
theorem ggX5_adoptFirstCast_X0_foundActor : GoodIn wsX5_adoptFirstCast wsX0_foundActor := goodIn_r _ [86, 72, 109, 110, 111] (by decide +kernel) (by decide +kernel)
set_option maxRecDepth 20000 in
theorem gX5_adoptFirstCast_X0_foundActor : GoodIn wsX5_adoptFirstCast (wsV RX5 154 RX0 yX0_foundActor wsX0_foundActor) := goodIn_app (goodIn_of _ (by decide +kernel)) ggX5_adoptFirstCast_X0_foundActor
theorem dX5_adoptFirstCast_0 : decode cX5_adoptFirstCast 0 = .ok (.aload_n 0, 1) := by decide +kernel
theorem dX5_adoptFirstCast_1 : decode cX5_adoptFirstCast 1 = .ok (.getfield 45, 3) := by decide +kernel
theorem dX5_adoptFirstCast_4 : decode cX5_adoptFirstCast 4 = .ok (.aload_n 0, 1) := by decide +kernel
theorem dX5_adoptFirstCast_5 : decode cX5_adoptFirstCast 5 = .ok (.getfield 23, 3) := by decide +kernel
theorem dX5_adoptFirstCast_8 : decode cX5_adoptFirstCast 8 = .ok (.invokevirtual 96, 3) := by decide +kernel
theorem dX5_adoptFirstCast_11 : decode cX5_adoptFirstCast 11 = .ok (.aload_n 0, 1) := by decide +kernel
theorem dX5_adoptFirstCast_12 : decode cX5_adoptFirstCast 12 = .ok (.getfield 38, 3) := by decide +kernel
theorem dX5_adoptFirstCast_15 : decode cX5_adoptFirstCast 15 = .ok (.aload_n 0, 1) := by decide +kernel
theorem dX5_adoptFirstCast_16 : decode cX5_adoptFirstCast 16 = .ok (.getfield 31, 3) := by decide +kernel
theorem dX5_adoptFirstCast_19 : decode cX5_adoptFirstCast 19 = .ok (.iconst 0, 1) := by decide +kernel
theorem dX5_adoptFirstCast_20 : decode cX5_adoptFirstCast 20 = .ok (.invokevirtual 147, 3) := by decide +kernel
theorem dX5_adoptFirstCast_23 : decode cX5_adoptFirstCast 23 = .ok (.aload_n 0, 1) := by decide +kernel
theorem dX5_adoptFirstCast_24 : decode cX5_adoptFirstCast 24 = .ok (.getfield 38, 3) := by decide +kernel
theorem dX5_adoptFirstCast_27 : decode cX5_adoptFirstCast 27 = .ok (.invokevirtual 151, 3) := by decide +kernel
theorem dX5_adoptFirstCast_30 : decode cX5_adoptFirstCast 30 = .ok (.istore_n 1, 1) := by decide +kernel
theorem dX5_adoptFirstCast_31 : decode cX5_adoptFirstCast 31 = .ok (.iconst 0, 1) := by decide +kernel
theorem dX5_adoptFirstCast_32 : decode cX5_adoptFirstCast 32 = .ok (.istore_n 2, 1) := by decide +kernel
theorem dX5_adoptFirstCast_33 : decode cX5_adoptFirstCast 33 = .ok (.iload_n 2, 1) := by decide +kernel
theorem dX5_adoptFirstCast_34 : decode cX5_adoptFirstCast 34 = .ok (.aload_n 0, 1) := by decide +kernel
theorem dX5_adoptFirstCast_35 : decode cX5_adoptFirstCast 35 = .ok (.getfield 23, 3) := by decide +kernel
theorem dX5_adoptFirstCast_38 : decode cX5_adoptFirstCast 38 = .ok (.getfield 86, 3) := by decide +kernel
theorem dX5_adoptFirstCast_41 : decode cX5_adoptFirstCast 41 = .ok (.if_icmp .ge 26, 3) := by decide +kernel
theorem dX5_adoptFirstCast_44 : decode cX5_adoptFirstCast 44 = .ok (.aload_n 0, 1) := by decide +kernel
theorem dX5_adoptFirstCast_45 : decode cX5_adoptFirstCast 45 = .ok (.getfield 23, 3) := by decide +kernel
theorem dX5_adoptFirstCast_48 : decode cX5_adoptFirstCast 48 = .ok (.getfield 135, 3) := by decide +kernel
theorem dX5_adoptFirstCast_51 : decode cX5_adoptFirstCast 51 = .ok (.iload_n 2, 1) := by decide +kernel
theorem dX5_adoptFirstCast_52 : decode cX5_adoptFirstCast 52 = .ok (.aload_n 0, 1) := by decide +kernel
theorem dX5_adoptFirstCast_53 : decode cX5_adoptFirstCast 53 = .ok (.getfield 38, 3) := by decide +kernel
theorem dX5_adoptFirstCast_56 : decode cX5_adoptFirstCast 56 = .ok (.iload_n 2, 1) := by decide +kernel
theorem dX5_adoptFirstCast_57 : decode cX5_adoptFirstCast 57 = .ok (.invokevirtual 154, 3) := by decide +kernel
theorem dX5_adoptFirstCast_60 : decode cX5_adoptFirstCast 60 = .ok (.iastore, 1) := by decide +kernel
theorem dX5_adoptFirstCast_61 : decode cX5_adoptFirstCast 61 = .ok (.iinc 2 1, 3) := by decide +kernel
theorem dX5_adoptFirstCast_64 : decode cX5_adoptFirstCast 64 = .ok (.goto (-31), 3) := by decide +kernel
theorem dX5_adoptFirstCast_67 : decode cX5_adoptFirstCast 67 = .ok (.iload_n 1, 1) := by decide +kernel
theorem dX5_adoptFirstCast_68 : decode cX5_adoptFirstCast 68 = .ok (.ireturn, 1) := by decide +kernel
set_option maxRecDepth 20000 in
theorem ggX5_undo_X1_bringBack : GoodIn wsX5_undo wsX1_bringBack := goodIn_r _ [9, 10, 11, 12, 13, 14, 15, 16, 17, 18, 19, 20, 21, 22, 23, 24, 25, 26, 27, 28, 29, 30, 31, 32, 67, 68, 69, 70, 71, 72, 73, 74, 75, 76, 77, 78, 79, 80] (by decide +kernel) (by decide +kernel)
set_option maxRecDepth 20000 in
theorem gX5_undo_X1_bringBack : GoodIn wsX5_undo (wsV RX5 160 RX1 yX1_bringBack wsX1_bringBack) := goodIn_app (goodIn_of _ (by decide +kernel)) ggX5_undo_X1_bringBack
set_option maxRecDepth 20000 in
theorem ggX5_undo_X4_measure : GoodIn wsX5_undo wsX4_measure := goodIn_r _ [37, 38, 39, 40, 41, 42, 43, 36, 44, 45, 46, 47, 48, 49, 50, 51, 52, 53, 54, 55, 56, 57, 58, 59, 60, 81, 82, 69, 70, 71, 72, 73, 74, 75, 76, 77, 78, 79, 80] (by decide +kernel) (by decide +kernel)
set_option maxRecDepth 20000 in
theorem gX5_undo_X4_measure : GoodIn wsX5_undo (wsV RX5 103 RX4 yX4_measure wsX4_measure) := goodIn_app (goodIn_of _ (by decide +kernel)) ggX5_undo_X4_measure
theorem dX5_undo_0 : decode cX5_undo 0 = .ok (.aload_n 0, 1) := by decide +kernel
theorem dX5_undo_1 : decode cX5_undo 1 = .ok (.getfield 45, 3) := by decide +kernel
theorem dX5_undo_4 : decode cX5_undo 4 = .ok (.getfield 157, 3) := by decide +kernel
theorem dX5_undo_7 : decode cX5_undo 7 = .ok (.ifCond .ne 7, 3) := by decide +kernel
theorem dX5_undo_10 : decode cX5_undo 10 = .ok (.sipush (-1002), 3) := by decide +kernel
theorem dX5_undo_13 : decode cX5_undo 13 = .ok (.ireturn, 1) := by decide +kernel
theorem dX5_undo_14 : decode cX5_undo 14 = .ok (.aload_n 0, 1) := by decide +kernel
theorem dX5_undo_15 : decode cX5_undo 15 = .ok (.getfield 45, 3) := by decide +kernel
theorem dX5_undo_18 : decode cX5_undo 18 = .ok (.aload_n 0, 1) := by decide +kernel
theorem dX5_undo_19 : decode cX5_undo 19 = .ok (.getfield 23, 3) := by decide +kernel
theorem dX5_undo_22 : decode cX5_undo 22 = .ok (.invokevirtual 160, 3) := by decide +kernel
theorem dX5_undo_25 : decode cX5_undo 25 = .ok (.aload_n 0, 1) := by decide +kernel
theorem dX5_undo_26 : decode cX5_undo 26 = .ok (.getfield 31, 3) := by decide +kernel
theorem dX5_undo_29 : decode cX5_undo 29 = .ok (.invokevirtual 103, 3) := by decide +kernel
theorem dX5_undo_32 : decode cX5_undo 32 = .ok (.aload_n 0, 1) := by decide +kernel
theorem dX5_undo_33 : decode cX5_undo 33 = .ok (.getfield 45, 3) := by decide +kernel
theorem dX5_undo_36 : decode cX5_undo 36 = .ok (.getfield 157, 3) := by decide +kernel
theorem dX5_undo_39 : decode cX5_undo 39 = .ok (.ireturn, 1) := by decide +kernel
theorem dX5_roleCount_0 : decode cX5_roleCount 0 = .ok (.aload_n 0, 1) := by decide +kernel
theorem dX5_roleCount_1 : decode cX5_roleCount 1 = .ok (.getfield 23, 3) := by decide +kernel
theorem dX5_roleCount_4 : decode cX5_roleCount 4 = .ok (.getfield 86, 3) := by decide +kernel
theorem dX5_roleCount_7 : decode cX5_roleCount 7 = .ok (.ireturn, 1) := by decide +kernel
theorem dX5_appearanceCount_0 : decode cX5_appearanceCount 0 = .ok (.aload_n 0, 1) := by decide +kernel
theorem dX5_appearanceCount_1 : decode cX5_appearanceCount 1 = .ok (.getfield 23, 3) := by decide +kernel
theorem dX5_appearanceCount_4 : decode cX5_appearanceCount 4 = .ok (.getfield 93, 3) := by decide +kernel
theorem dX5_appearanceCount_7 : decode cX5_appearanceCount 7 = .ok (.ireturn, 1) := by decide +kernel
set_option maxRecDepth 20000 in
theorem ggX5_playLength_X2_startOf : GoodIn wsX5_playLength wsX2_startOf := goodIn_r _ [7, 8, 9, 16, 17, 18, 19, 20, 21, 22, 23, 24, 25, 26, 27] (by decide +kernel) (by decide +kernel)
set_option maxRecDepth 20000 in
theorem gX5_playLength_X2_startOf : GoodIn wsX5_playLength (wsV RX5 163 RX2 yX2_startOf wsX2_startOf) := goodIn_app (goodIn_of _ (by decide +kernel)) ggX5_playLength_X2_startOf
theorem dX5_playLength_0 : decode cX5_playLength 0 = .ok (.aload_n 0, 1) := by decide +kernel
theorem dX5_playLength_1 : decode cX5_playLength 1 = .ok (.getfield 23, 3) := by decide +kernel
theorem dX5_playLength_4 : decode cX5_playLength 4 = .ok (.aload_n 0, 1) := by decide +kernel
theorem dX5_playLength_5 : decode cX5_playLength 5 = .ok (.getfield 23, 3) := by decide +kernel
theorem dX5_playLength_8 : decode cX5_playLength 8 = .ok (.getfield 83, 3) := by decide +kernel
theorem dX5_playLength_11 : decode cX5_playLength 11 = .ok (.invokevirtual 163, 3) := by decide +kernel
theorem dX5_playLength_14 : decode cX5_playLength 14 = .ok (.ireturn, 1) := by decide +kernel
set_option maxRecDepth 20000 in
theorem ggX5_onStage_X2_startOf : GoodIn wsX5_onStage wsX2_startOf := goodIn_r _ [7, 8, 9, 24, 25, 26, 27, 28, 29, 30, 31, 32, 33, 34, 35] (by decide +kernel) (by decide +kernel)
set_option maxRecDepth 20000 in
theorem gX5_onStage_X2_startOf : GoodIn wsX5_onStage (wsV RX5 163 RX2 yX2_startOf wsX2_startOf) := goodIn_app (goodIn_of _ (by decide +kernel)) ggX5_onStage_X2_startOf
set_option maxRecDepth 20000 in
theorem ggX5_onStage_X2_rolesAt : GoodIn wsX5_onStage wsX2_rolesAt := goodIn_r _ [13, 14, 15, 16, 17, 24, 25, 26, 27, 28, 29, 30, 31, 32, 33, 34, 35] (by decide +kernel) (by decide +kernel)
set_option maxRecDepth 20000 in
theorem gX5_onStage_X2_rolesAt : GoodIn wsX5_onStage (wsV RX5 166 RX2 yX2_rolesAt wsX2_rolesAt) := goodIn_app (goodIn_of _ (by decide +kernel)) ggX5_onStage_X2_rolesAt
theorem dX5_onStage_0 : decode cX5_onStage 0 = .ok (.iload_n 1, 1) := by decide +kernel
theorem dX5_onStage_1 : decode cX5_onStage 1 = .ok (.ifCond .lt 21, 3) := by decide +kernel
theorem dX5_onStage_4 : decode cX5_onStage 4 = .ok (.iload_n 1, 1) := by decide +kernel
theorem dX5_onStage_5 : decode cX5_onStage 5 = .ok (.aload_n 0, 1) := by decide +kernel
theorem dX5_onStage_6 : decode cX5_onStage 6 = .ok (.getfield 23, 3) := by decide +kernel
theorem dX5_onStage_9 : decode cX5_onStage 9 = .ok (.aload_n 0, 1) := by decide +kernel
theorem dX5_onStage_10 : decode cX5_onStage 10 = .ok (.getfield 23, 3) := by decide +kernel
theorem dX5_onStage_13 : decode cX5_onStage 13 = .ok (.getfield 83, 3) := by decide +kernel
theorem dX5_onStage_16 : decode cX5_onStage 16 = .ok (.invokevirtual 163, 3) := by decide +kernel
theorem dX5_onStage_19 : decode cX5_onStage 19 = .ok (.if_icmp .lt 7, 3) := by decide +kernel
theorem dX5_onStage_22 : decode cX5_onStage 22 = .ok (.sipush (-1001), 3) := by decide +kernel
theorem dX5_onStage_25 : decode cX5_onStage 25 = .ok (.ireturn, 1) := by decide +kernel
theorem dX5_onStage_26 : decode cX5_onStage 26 = .ok (.aload_n 0, 1) := by decide +kernel
theorem dX5_onStage_27 : decode cX5_onStage 27 = .ok (.getfield 23, 3) := by decide +kernel
theorem dX5_onStage_30 : decode cX5_onStage 30 = .ok (.iload_n 1, 1) := by decide +kernel
theorem dX5_onStage_31 : decode cX5_onStage 31 = .ok (.invokevirtual 166, 3) := by decide +kernel
theorem dX5_onStage_34 : decode cX5_onStage 34 = .ok (.ireturn, 1) := by decide +kernel
set_option maxRecDepth 20000 in
theorem ggX5_peak_X2_rolesAt : GoodIn wsX5_peak wsX2_rolesAt := goodIn_r _ [12, 13, 14, 15, 16, 30, 31, 32, 33, 34, 35, 36, 37, 38, 39, 40, 41] (by decide +kernel) (by decide +kernel)
set_option maxRecDepth 20000 in
theorem gX5_peak_X2_rolesAt : GoodIn wsX5_peak (wsV RX5 166 RX2 yX2_rolesAt wsX2_rolesAt) := goodIn_app (goodIn_of _ (by decide +kernel)) ggX5_peak_X2_rolesAt
set_option maxRecDepth 20000 in
theorem ggX5_peak_J6_bitCount_0f7a4 : GoodIn wsX5_peak wsJ6_bitCount_0f7a4 := goodIn_r _ [20, 21, 22, 23] (by decide +kernel) (by decide +kernel)
set_option maxRecDepth 20000 in
theorem gX5_peak_J6_bitCount_0f7a4 : GoodIn wsX5_peak (va_wsS RX5 142 yJ6_bitCount_0f7a4 wsJ6_bitCount_0f7a4) := goodIn_app (goodIn_of _ (by decide +kernel)) ggX5_peak_J6_bitCount_0f7a4
theorem dX5_peak_0 : decode cX5_peak 0 = .ok (.iconst 0, 1) := by decide +kernel
theorem dX5_peak_1 : decode cX5_peak 1 = .ok (.istore_n 1, 1) := by decide +kernel
theorem dX5_peak_2 : decode cX5_peak 2 = .ok (.iconst 0, 1) := by decide +kernel
theorem dX5_peak_3 : decode cX5_peak 3 = .ok (.istore_n 2, 1) := by decide +kernel
theorem dX5_peak_4 : decode cX5_peak 4 = .ok (.iload_n 2, 1) := by decide +kernel
theorem dX5_peak_5 : decode cX5_peak 5 = .ok (.aload_n 0, 1) := by decide +kernel
theorem dX5_peak_6 : decode cX5_peak 6 = .ok (.getfield 23, 3) := by decide +kernel
theorem dX5_peak_9 : decode cX5_peak 9 = .ok (.getfield 93, 3) := by decide +kernel
theorem dX5_peak_12 : decode cX5_peak 12 = .ok (.if_icmp .ge 33, 3) := by decide +kernel
theorem dX5_peak_15 : decode cX5_peak 15 = .ok (.iload_n 1, 1) := by decide +kernel
theorem dX5_peak_16 : decode cX5_peak 16 = .ok (.aload_n 0, 1) := by decide +kernel
theorem dX5_peak_17 : decode cX5_peak 17 = .ok (.getfield 23, 3) := by decide +kernel
theorem dX5_peak_20 : decode cX5_peak 20 = .ok (.aload_n 0, 1) := by decide +kernel
theorem dX5_peak_21 : decode cX5_peak 21 = .ok (.getfield 23, 3) := by decide +kernel
theorem dX5_peak_24 : decode cX5_peak 24 = .ok (.getfield 169, 3) := by decide +kernel
theorem dX5_peak_27 : decode cX5_peak 27 = .ok (.iload_n 2, 1) := by decide +kernel
theorem dX5_peak_28 : decode cX5_peak 28 = .ok (.iaload, 1) := by decide +kernel
theorem dX5_peak_29 : decode cX5_peak 29 = .ok (.invokevirtual 166, 3) := by decide +kernel
theorem dX5_peak_32 : decode cX5_peak 32 = .ok (.invokestatic 142, 3) := by decide +kernel
theorem dX5_peak_35 : decode cX5_peak 35 = .ok (.invokestatic 172, 3) := by decide +kernel
theorem dX5_peak_38 : decode cX5_peak 38 = .ok (.istore_n 1, 1) := by decide +kernel
theorem dX5_peak_39 : decode cX5_peak 39 = .ok (.iinc 2 1, 3) := by decide +kernel
theorem dX5_peak_42 : decode cX5_peak 42 = .ok (.goto (-38), 3) := by decide +kernel
theorem dX5_peak_45 : decode cX5_peak 45 = .ok (.iload_n 1, 1) := by decide +kernel
theorem dX5_peak_46 : decode cX5_peak 46 = .ok (.ireturn, 1) := by decide +kernel
set_option maxRecDepth 20000 in
theorem ggX5_rolesInScene_X2_hasScene : GoodIn wsX5_rolesInScene wsX2_hasScene := goodIn_r _ [9, 10, 17, 18, 19, 20, 21, 22, 23, 24, 25, 26, 27, 28] (by decide +kernel) (by decide +kernel)
set_option maxRecDepth 20000 in
theorem gX5_rolesInScene_X2_hasScene : GoodIn wsX5_rolesInScene (wsV RX5 178 RX2 yX2_hasScene wsX2_hasScene) := goodIn_app (goodIn_of _ (by decide +kernel)) ggX5_rolesInScene_X2_hasScene
theorem dX5_rolesInScene_0 : decode cX5_rolesInScene 0 = .ok (.aload_n 0, 1) := by decide +kernel
theorem dX5_rolesInScene_1 : decode cX5_rolesInScene 1 = .ok (.getfield 23, 3) := by decide +kernel
theorem dX5_rolesInScene_4 : decode cX5_rolesInScene 4 = .ok (.iload_n 1, 1) := by decide +kernel
theorem dX5_rolesInScene_5 : decode cX5_rolesInScene 5 = .ok (.invokevirtual 178, 3) := by decide +kernel
theorem dX5_rolesInScene_8 : decode cX5_rolesInScene 8 = .ok (.ifCond .ne 7, 3) := by decide +kernel
theorem dX5_rolesInScene_11 : decode cX5_rolesInScene 11 = .ok (.sipush (-1001), 3) := by decide +kernel
theorem dX5_rolesInScene_14 : decode cX5_rolesInScene 14 = .ok (.ireturn, 1) := by decide +kernel
theorem dX5_rolesInScene_15 : decode cX5_rolesInScene 15 = .ok (.iconst 0, 1) := by decide +kernel
theorem dX5_rolesInScene_16 : decode cX5_rolesInScene 16 = .ok (.istore_n 2, 1) := by decide +kernel
theorem dX5_rolesInScene_17 : decode cX5_rolesInScene 17 = .ok (.iconst 0, 1) := by decide +kernel
theorem dX5_rolesInScene_18 : decode cX5_rolesInScene 18 = .ok (.istore_n 3, 1) := by decide +kernel
theorem dX5_rolesInScene_19 : decode cX5_rolesInScene 19 = .ok (.iload_n 3, 1) := by decide +kernel
theorem dX5_rolesInScene_20 : decode cX5_rolesInScene 20 = .ok (.aload_n 0, 1) := by decide +kernel
theorem dX5_rolesInScene_21 : decode cX5_rolesInScene 21 = .ok (.getfield 23, 3) := by decide +kernel
theorem dX5_rolesInScene_24 : decode cX5_rolesInScene 24 = .ok (.getfield 93, 3) := by decide +kernel
theorem dX5_rolesInScene_27 : decode cX5_rolesInScene 27 = .ok (.if_icmp .ge 36, 3) := by decide +kernel
theorem dX5_rolesInScene_30 : decode cX5_rolesInScene 30 = .ok (.aload_n 0, 1) := by decide +kernel
theorem dX5_rolesInScene_31 : decode cX5_rolesInScene 31 = .ok (.getfield 23, 3) := by decide +kernel
theorem dX5_rolesInScene_34 : decode cX5_rolesInScene 34 = .ok (.getfield 181, 3) := by decide +kernel
theorem dX5_rolesInScene_37 : decode cX5_rolesInScene 37 = .ok (.iload_n 3, 1) := by decide +kernel
theorem dX5_rolesInScene_38 : decode cX5_rolesInScene 38 = .ok (.iaload, 1) := by decide +kernel
theorem dX5_rolesInScene_39 : decode cX5_rolesInScene 39 = .ok (.iload_n 1, 1) := by decide +kernel
theorem dX5_rolesInScene_40 : decode cX5_rolesInScene 40 = .ok (.if_icmp .ne 17, 3) := by decide +kernel
theorem dX5_rolesInScene_43 : decode cX5_rolesInScene 43 = .ok (.iload_n 2, 1) := by decide +kernel
theorem dX5_rolesInScene_44 : decode cX5_rolesInScene 44 = .ok (.iconst 1, 1) := by decide +kernel
theorem dX5_rolesInScene_45 : decode cX5_rolesInScene 45 = .ok (.aload_n 0, 1) := by decide +kernel
theorem dX5_rolesInScene_46 : decode cX5_rolesInScene 46 = .ok (.getfield 23, 3) := by decide +kernel
theorem dX5_rolesInScene_49 : decode cX5_rolesInScene 49 = .ok (.getfield 184, 3) := by decide +kernel
theorem dX5_rolesInScene_52 : decode cX5_rolesInScene 52 = .ok (.iload_n 3, 1) := by decide +kernel
theorem dX5_rolesInScene_53 : decode cX5_rolesInScene 53 = .ok (.iaload, 1) := by decide +kernel
theorem dX5_rolesInScene_54 : decode cX5_rolesInScene 54 = .ok (.ishl, 1) := by decide +kernel
theorem dX5_rolesInScene_55 : decode cX5_rolesInScene 55 = .ok (.ior, 1) := by decide +kernel
theorem dX5_rolesInScene_56 : decode cX5_rolesInScene 56 = .ok (.istore_n 2, 1) := by decide +kernel
theorem dX5_rolesInScene_57 : decode cX5_rolesInScene 57 = .ok (.iinc 3 1, 3) := by decide +kernel
theorem dX5_rolesInScene_60 : decode cX5_rolesInScene 60 = .ok (.goto (-41), 3) := by decide +kernel
theorem dX5_rolesInScene_63 : decode cX5_rolesInScene 63 = .ok (.iload_n 2, 1) := by decide +kernel
theorem dX5_rolesInScene_64 : decode cX5_rolesInScene 64 = .ok (.ireturn, 1) := by decide +kernel
set_option maxRecDepth 20000 in
theorem ggX5_conflict_X5_areTwoRoles : GoodIn wsX5_conflict wsX5_areTwoRoles := goodIn_r _ [6, 7, 8, 9, 10, 11, 12, 13, 22, 23, 24, 25, 26, 27, 28, 29, 30, 31, 32, 33, 34, 35, 36, 37, 38, 39] (by decide +kernel) (by decide +kernel)
set_option maxRecDepth 20000 in
theorem gX5_conflict_X5_areTwoRoles : GoodIn wsX5_conflict (wsV RX5 187 RX5 yX5_areTwoRoles wsX5_areTwoRoles) := goodIn_app (goodIn_of _ (by decide +kernel)) ggX5_conflict_X5_areTwoRoles
set_option maxRecDepth 20000 in
theorem ggX5_conflict_X4_reason : GoodIn wsX5_conflict wsX4_reason := goodIn_r _ [18, 19, 20, 21, 40, 41, 28, 29, 30, 31, 32, 33, 34, 35, 36, 37, 38, 39] (by decide +kernel) (by decide +kernel)
set_option maxRecDepth 20000 in
theorem gX5_conflict_X4_reason : GoodIn wsX5_conflict (wsV RX5 191 RX4 yX4_reason wsX4_reason) := goodIn_app (goodIn_of _ (by decide +kernel)) ggX5_conflict_X4_reason
theorem dX5_conflict_0 : decode cX5_conflict 0 = .ok (.aload_n 0, 1) := by decide +kernel
theorem dX5_conflict_1 : decode cX5_conflict 1 = .ok (.iload_n 1, 1) := by decide +kernel
theorem dX5_conflict_2 : decode cX5_conflict 2 = .ok (.iload_n 2, 1) := by decide +kernel
theorem dX5_conflict_3 : decode cX5_conflict 3 = .ok (.invokevirtual 187, 3) := by decide +kernel
theorem dX5_conflict_6 : decode cX5_conflict 6 = .ok (.ifCond .ne 7, 3) := by decide +kernel
theorem dX5_conflict_9 : decode cX5_conflict 9 = .ok (.sipush (-1001), 3) := by decide +kernel
theorem dX5_conflict_12 : decode cX5_conflict 12 = .ok (.ireturn, 1) := by decide +kernel
theorem dX5_conflict_13 : decode cX5_conflict 13 = .ok (.aload_n 0, 1) := by decide +kernel
theorem dX5_conflict_14 : decode cX5_conflict 14 = .ok (.getfield 31, 3) := by decide +kernel
theorem dX5_conflict_17 : decode cX5_conflict 17 = .ok (.iload_n 1, 1) := by decide +kernel
theorem dX5_conflict_18 : decode cX5_conflict 18 = .ok (.iload_n 2, 1) := by decide +kernel
theorem dX5_conflict_19 : decode cX5_conflict 19 = .ok (.iconst 0, 1) := by decide +kernel
theorem dX5_conflict_20 : decode cX5_conflict 20 = .ok (.invokevirtual 191, 3) := by decide +kernel
theorem dX5_conflict_23 : decode cX5_conflict 23 = .ok (.ireturn, 1) := by decide +kernel
set_option maxRecDepth 20000 in
theorem ggX5_conflictCount_X4_reason : GoodIn wsX5_conflictCount wsX4_reason := goodIn_r _ [8, 9, 10, 11, 30, 31, 18, 19, 20, 21, 22, 23, 24, 25, 26, 27, 28, 29] (by decide +kernel) (by decide +kernel)
set_option maxRecDepth 20000 in
theorem gX5_conflictCount_X4_reason : GoodIn wsX5_conflictCount (wsV RX5 191 RX4 yX4_reason wsX4_reason) := goodIn_app (goodIn_of _ (by decide +kernel)) ggX5_conflictCount_X4_reason
theorem dX5_conflictCount_0 : decode cX5_conflictCount 0 = .ok (.iconst 0, 1) := by decide +kernel
theorem dX5_conflictCount_1 : decode cX5_conflictCount 1 = .ok (.istore_n 1, 1) := by decide +kernel
theorem dX5_conflictCount_2 : decode cX5_conflictCount 2 = .ok (.iconst 1, 1) := by decide +kernel
theorem dX5_conflictCount_3 : decode cX5_conflictCount 3 = .ok (.istore_n 2, 1) := by decide +kernel
theorem dX5_conflictCount_4 : decode cX5_conflictCount 4 = .ok (.iload_n 2, 1) := by decide +kernel
theorem dX5_conflictCount_5 : decode cX5_conflictCount 5 = .ok (.aload_n 0, 1) := by decide +kernel
theorem dX5_conflictCount_6 : decode cX5_conflictCount 6 = .ok (.getfield 23, 3) := by decide +kernel
theorem dX5_conflictCount_9 : decode cX5_conflictCount 9 = .ok (.getfield 86, 3) := by decide +kernel
theorem dX5_conflictCount_12 : decode cX5_conflictCount 12 = .ok (.if_icmp .ge 38, 3) := by decide +kernel
theorem dX5_conflictCount_15 : decode cX5_conflictCount 15 = .ok (.iconst 0, 1) := by decide +kernel
theorem dX5_conflictCount_16 : decode cX5_conflictCount 16 = .ok (.istore_n 3, 1) := by decide +kernel
theorem dX5_conflictCount_17 : decode cX5_conflictCount 17 = .ok (.iload_n 3, 1) := by decide +kernel
theorem dX5_conflictCount_18 : decode cX5_conflictCount 18 = .ok (.iload_n 2, 1) := by decide +kernel
theorem dX5_conflictCount_19 : decode cX5_conflictCount 19 = .ok (.if_icmp .ge 25, 3) := by decide +kernel
theorem dX5_conflictCount_22 : decode cX5_conflictCount 22 = .ok (.aload_n 0, 1) := by decide +kernel
theorem dX5_conflictCount_23 : decode cX5_conflictCount 23 = .ok (.getfield 31, 3) := by decide +kernel
theorem dX5_conflictCount_26 : decode cX5_conflictCount 26 = .ok (.iload_n 2, 1) := by decide +kernel
theorem dX5_conflictCount_27 : decode cX5_conflictCount 27 = .ok (.iload_n 3, 1) := by decide +kernel
theorem dX5_conflictCount_28 : decode cX5_conflictCount 28 = .ok (.iconst 0, 1) := by decide +kernel
theorem dX5_conflictCount_29 : decode cX5_conflictCount 29 = .ok (.invokevirtual 191, 3) := by decide +kernel
theorem dX5_conflictCount_32 : decode cX5_conflictCount 32 = .ok (.ifCond .eq 6, 3) := by decide +kernel
theorem dX5_conflictCount_35 : decode cX5_conflictCount 35 = .ok (.iinc 1 1, 3) := by decide +kernel
theorem dX5_conflictCount_38 : decode cX5_conflictCount 38 = .ok (.iinc 3 1, 3) := by decide +kernel
theorem dX5_conflictCount_41 : decode cX5_conflictCount 41 = .ok (.goto (-24), 3) := by decide +kernel
theorem dX5_conflictCount_44 : decode cX5_conflictCount 44 = .ok (.iinc 2 1, 3) := by decide +kernel
theorem dX5_conflictCount_47 : decode cX5_conflictCount 47 = .ok (.goto (-43), 3) := by decide +kernel
theorem dX5_conflictCount_50 : decode cX5_conflictCount 50 = .ok (.iload_n 1, 1) := by decide +kernel
theorem dX5_conflictCount_51 : decode cX5_conflictCount 51 = .ok (.ireturn, 1) := by decide +kernel
set_option maxRecDepth 20000 in
theorem ggX5_slack_X5_areTwoRoles : GoodIn wsX5_slack wsX5_areTwoRoles := goodIn_r _ [7, 8, 9, 10, 11, 12, 13, 14, 15, 16, 17, 18, 19, 20, 23, 24, 25, 26, 27, 28, 29, 30, 31, 32, 33, 34] (by decide +kernel) (by decide +kernel)
set_option maxRecDepth 20000 in
theorem gX5_slack_X5_areTwoRoles : GoodIn wsX5_slack (wsV RX5 187 RX5 yX5_areTwoRoles wsX5_areTwoRoles) := goodIn_app (goodIn_of _ (by decide +kernel)) ggX5_slack_X5_areTwoRoles
theorem dX5_slack_0 : decode cX5_slack 0 = .ok (.aload_n 0, 1) := by decide +kernel
theorem dX5_slack_1 : decode cX5_slack 1 = .ok (.iload_n 1, 1) := by decide +kernel
theorem dX5_slack_2 : decode cX5_slack 2 = .ok (.iload_n 2, 1) := by decide +kernel
theorem dX5_slack_3 : decode cX5_slack 3 = .ok (.invokevirtual 187, 3) := by decide +kernel
theorem dX5_slack_6 : decode cX5_slack 6 = .ok (.ifCond .ne 7, 3) := by decide +kernel
theorem dX5_slack_9 : decode cX5_slack 9 = .ok (.sipush (-1001), 3) := by decide +kernel
theorem dX5_slack_12 : decode cX5_slack 12 = .ok (.ireturn, 1) := by decide +kernel
theorem dX5_slack_13 : decode cX5_slack 13 = .ok (.aload_n 0, 1) := by decide +kernel
theorem dX5_slack_14 : decode cX5_slack 14 = .ok (.getfield 31, 3) := by decide +kernel
theorem dX5_slack_17 : decode cX5_slack 17 = .ok (.getfield 194, 3) := by decide +kernel
theorem dX5_slack_20 : decode cX5_slack 20 = .ok (.iload_n 1, 1) := by decide +kernel
theorem dX5_slack_21 : decode cX5_slack 21 = .ok (.aaload, 1) := by decide +kernel
theorem dX5_slack_22 : decode cX5_slack 22 = .ok (.iload_n 2, 1) := by decide +kernel
theorem dX5_slack_23 : decode cX5_slack 23 = .ok (.iaload, 1) := by decide +kernel
theorem dX5_slack_24 : decode cX5_slack 24 = .ok (.ireturn, 1) := by decide +kernel
set_option maxRecDepth 20000 in
theorem ggX5_actorOf_X2_hasRole : GoodIn wsX5_actorOf wsX2_hasRole := goodIn_r _ [7, 8, 15, 16, 17, 18, 19, 20, 21, 22, 23, 24, 25, 26] (by decide +kernel) (by decide +kernel)
set_option maxRecDepth 20000 in
theorem gX5_actorOf_X2_hasRole : GoodIn wsX5_actorOf (wsV RX5 114 RX2 yX2_hasRole wsX2_hasRole) := goodIn_app (goodIn_of _ (by decide +kernel)) ggX5_actorOf_X2_hasRole
theorem dX5_actorOf_0 : decode cX5_actorOf 0 = .ok (.aload_n 0, 1) := by decide +kernel
theorem dX5_actorOf_1 : decode cX5_actorOf 1 = .ok (.getfield 23, 3) := by decide +kernel
theorem dX5_actorOf_4 : decode cX5_actorOf 4 = .ok (.iload_n 1, 1) := by decide +kernel
theorem dX5_actorOf_5 : decode cX5_actorOf 5 = .ok (.invokevirtual 114, 3) := by decide +kernel
theorem dX5_actorOf_8 : decode cX5_actorOf 8 = .ok (.ifCond .ne 7, 3) := by decide +kernel
theorem dX5_actorOf_11 : decode cX5_actorOf 11 = .ok (.sipush (-1001), 3) := by decide +kernel
theorem dX5_actorOf_14 : decode cX5_actorOf 14 = .ok (.ireturn, 1) := by decide +kernel
theorem dX5_actorOf_15 : decode cX5_actorOf 15 = .ok (.aload_n 0, 1) := by decide +kernel
theorem dX5_actorOf_16 : decode cX5_actorOf 16 = .ok (.getfield 23, 3) := by decide +kernel
theorem dX5_actorOf_19 : decode cX5_actorOf 19 = .ok (.getfield 135, 3) := by decide +kernel
theorem dX5_actorOf_22 : decode cX5_actorOf 22 = .ok (.iload_n 1, 1) := by decide +kernel
theorem dX5_actorOf_23 : decode cX5_actorOf 23 = .ok (.iaload, 1) := by decide +kernel
theorem dX5_actorOf_24 : decode cX5_actorOf 24 = .ok (.istore_n 2, 1) := by decide +kernel
theorem dX5_actorOf_25 : decode cX5_actorOf 25 = .ok (.iload_n 2, 1) := by decide +kernel
theorem dX5_actorOf_26 : decode cX5_actorOf 26 = .ok (.iconst (-1), 1) := by decide +kernel
theorem dX5_actorOf_27 : decode cX5_actorOf 27 = .ok (.if_icmp .ne 9, 3) := by decide +kernel
theorem dX5_actorOf_30 : decode cX5_actorOf 30 = .ok (.sipush (-1004), 3) := by decide +kernel
theorem dX5_actorOf_33 : decode cX5_actorOf 33 = .ok (.goto 4, 3) := by decide +kernel
theorem dX5_actorOf_36 : decode cX5_actorOf 36 = .ok (.iload_n 2, 1) := by decide +kernel
theorem dX5_actorOf_37 : decode cX5_actorOf 37 = .ok (.ireturn, 1) := by decide +kernel
set_option maxRecDepth 20000 in
theorem ggX5_rolesOf_X5_isActor : GoodIn wsX5_rolesOf wsX5_isActor := goodIn_r _ [5] (by decide +kernel) (by decide +kernel)
set_option maxRecDepth 20000 in
theorem gX5_rolesOf_X5_isActor : GoodIn wsX5_rolesOf (va_wsS RX5 128 yX5_isActor wsX5_isActor) := goodIn_app (goodIn_of _ (by decide +kernel)) ggX5_rolesOf_X5_isActor
set_option maxRecDepth 20000 in
theorem ggX5_rolesOf_X2_rolesWith : GoodIn wsX5_rolesOf wsX2_rolesWith := goodIn_r _ [10, 11, 12, 19, 20, 21, 22, 23, 24, 25, 26, 27, 28, 29, 30] (by decide +kernel) (by decide +kernel)
set_option maxRecDepth 20000 in
theorem gX5_rolesOf_X2_rolesWith : GoodIn wsX5_rolesOf (wsV RX5 138 RX2 yX2_rolesWith wsX2_rolesWith) := goodIn_app (goodIn_of _ (by decide +kernel)) ggX5_rolesOf_X2_rolesWith
theorem dX5_rolesOf_0 : decode cX5_rolesOf 0 = .ok (.iload_n 1, 1) := by decide +kernel
theorem dX5_rolesOf_1 : decode cX5_rolesOf 1 = .ok (.invokestatic 128, 3) := by decide +kernel
theorem dX5_rolesOf_4 : decode cX5_rolesOf 4 = .ok (.ifCond .eq 14, 3) := by decide +kernel
theorem dX5_rolesOf_7 : decode cX5_rolesOf 7 = .ok (.aload_n 0, 1) := by decide +kernel
theorem dX5_rolesOf_8 : decode cX5_rolesOf 8 = .ok (.getfield 23, 3) := by decide +kernel
theorem dX5_rolesOf_11 : decode cX5_rolesOf 11 = .ok (.iload_n 1, 1) := by decide +kernel
theorem dX5_rolesOf_12 : decode cX5_rolesOf 12 = .ok (.invokevirtual 138, 3) := by decide +kernel
theorem dX5_rolesOf_15 : decode cX5_rolesOf 15 = .ok (.goto 6, 3) := by decide +kernel
theorem dX5_rolesOf_18 : decode cX5_rolesOf 18 = .ok (.sipush (-1001), 3) := by decide +kernel
theorem dX5_rolesOf_21 : decode cX5_rolesOf 21 = .ok (.ireturn, 1) := by decide +kernel
set_option maxRecDepth 20000 in
theorem ggX5_tightestChange_X5_isActor : GoodIn wsX5_tightestChange wsX5_isActor := goodIn_r _ [9] (by decide +kernel) (by decide +kernel)
set_option maxRecDepth 20000 in
theorem gX5_tightestChange_X5_isActor : GoodIn wsX5_tightestChange (va_wsS RX5 128 yX5_isActor wsX5_isActor) := goodIn_app (goodIn_of _ (by decide +kernel)) ggX5_tightestChange_X5_isActor
set_option maxRecDepth 20000 in
theorem ggX5_tightestChange_X5_lesserSlack : GoodIn wsX5_tightestChange wsX5_lesserSlack := goodIn_r _ [12, 13, 14, 15, 16] (by decide +kernel) (by decide +kernel)
set_option maxRecDepth 20000 in
theorem gX5_tightestChange_X5_lesserSlack : GoodIn wsX5_tightestChange (va_wsS RX5 198 yX5_lesserSlack wsX5_lesserSlack) := goodIn_app (goodIn_of _ (by decide +kernel)) ggX5_tightestChange_X5_lesserSlack
theorem dX5_tightestChange_0 : decode cX5_tightestChange 0 = .ok (.iload_n 1, 1) := by decide +kernel
theorem dX5_tightestChange_1 : decode cX5_tightestChange 1 = .ok (.invokestatic 128, 3) := by decide +kernel
theorem dX5_tightestChange_4 : decode cX5_tightestChange 4 = .ok (.ifCond .ne 7, 3) := by decide +kernel
theorem dX5_tightestChange_7 : decode cX5_tightestChange 7 = .ok (.sipush (-1001), 3) := by decide +kernel
theorem dX5_tightestChange_10 : decode cX5_tightestChange 10 = .ok (.ireturn, 1) := by decide +kernel
theorem dX5_tightestChange_11 : decode cX5_tightestChange 11 = .ok (.sipush (-1004), 3) := by decide +kernel
theorem dX5_tightestChange_14 : decode cX5_tightestChange 14 = .ok (.istore_n 2, 1) := by decide +kernel
theorem dX5_tightestChange_15 : decode cX5_tightestChange 15 = .ok (.iconst 1, 1) := by decide +kernel
theorem dX5_tightestChange_16 : decode cX5_tightestChange 16 = .ok (.istore_n 3, 1) := by decide +kernel
theorem dX5_tightestChange_17 : decode cX5_tightestChange 17 = .ok (.iload_n 3, 1) := by decide +kernel
theorem dX5_tightestChange_18 : decode cX5_tightestChange 18 = .ok (.aload_n 0, 1) := by decide +kernel
theorem dX5_tightestChange_19 : decode cX5_tightestChange 19 = .ok (.getfield 23, 3) := by decide +kernel
theorem dX5_tightestChange_22 : decode cX5_tightestChange 22 = .ok (.getfield 86, 3) := by decide +kernel
theorem dX5_tightestChange_25 : decode cX5_tightestChange 25 = .ok (.if_icmp .ge 68, 3) := by decide +kernel
theorem dX5_tightestChange_28 : decode cX5_tightestChange 28 = .ok (.iconst 0, 1) := by decide +kernel
theorem dX5_tightestChange_29 : decode cX5_tightestChange 29 = .ok (.istore 4, 2) := by decide +kernel
theorem dX5_tightestChange_31 : decode cX5_tightestChange 31 = .ok (.iload 4, 2) := by decide +kernel
theorem dX5_tightestChange_33 : decode cX5_tightestChange 33 = .ok (.iload_n 3, 1) := by decide +kernel
theorem dX5_tightestChange_34 : decode cX5_tightestChange 34 = .ok (.if_icmp .ge 53, 3) := by decide +kernel
theorem dX5_tightestChange_37 : decode cX5_tightestChange 37 = .ok (.aload_n 0, 1) := by decide +kernel
theorem dX5_tightestChange_38 : decode cX5_tightestChange 38 = .ok (.getfield 23, 3) := by decide +kernel
theorem dX5_tightestChange_41 : decode cX5_tightestChange 41 = .ok (.getfield 135, 3) := by decide +kernel
theorem dX5_tightestChange_44 : decode cX5_tightestChange 44 = .ok (.iload_n 3, 1) := by decide +kernel
theorem dX5_tightestChange_45 : decode cX5_tightestChange 45 = .ok (.iaload, 1) := by decide +kernel
theorem dX5_tightestChange_46 : decode cX5_tightestChange 46 = .ok (.iload_n 1, 1) := by decide +kernel
theorem dX5_tightestChange_47 : decode cX5_tightestChange 47 = .ok (.if_icmp .ne 34, 3) := by decide +kernel
theorem dX5_tightestChange_50 : decode cX5_tightestChange 50 = .ok (.aload_n 0, 1) := by decide +kernel
theorem dX5_tightestChange_51 : decode cX5_tightestChange 51 = .ok (.getfield 23, 3) := by decide +kernel
theorem dX5_tightestChange_54 : decode cX5_tightestChange 54 = .ok (.getfield 135, 3) := by decide +kernel
theorem dX5_tightestChange_57 : decode cX5_tightestChange 57 = .ok (.iload 4, 2) := by decide +kernel
theorem dX5_tightestChange_59 : decode cX5_tightestChange 59 = .ok (.iaload, 1) := by decide +kernel
theorem dX5_tightestChange_60 : decode cX5_tightestChange 60 = .ok (.iload_n 1, 1) := by decide +kernel
theorem dX5_tightestChange_61 : decode cX5_tightestChange 61 = .ok (.if_icmp .ne 20, 3) := by decide +kernel
theorem dX5_tightestChange_64 : decode cX5_tightestChange 64 = .ok (.iload_n 2, 1) := by decide +kernel
theorem dX5_tightestChange_65 : decode cX5_tightestChange 65 = .ok (.aload_n 0, 1) := by decide +kernel
theorem dX5_tightestChange_66 : decode cX5_tightestChange 66 = .ok (.getfield 31, 3) := by decide +kernel
theorem dX5_tightestChange_69 : decode cX5_tightestChange 69 = .ok (.getfield 194, 3) := by decide +kernel
theorem dX5_tightestChange_72 : decode cX5_tightestChange 72 = .ok (.iload_n 3, 1) := by decide +kernel
theorem dX5_tightestChange_73 : decode cX5_tightestChange 73 = .ok (.aaload, 1) := by decide +kernel
theorem dX5_tightestChange_74 : decode cX5_tightestChange 74 = .ok (.iload 4, 2) := by decide +kernel
theorem dX5_tightestChange_76 : decode cX5_tightestChange 76 = .ok (.iaload, 1) := by decide +kernel
theorem dX5_tightestChange_77 : decode cX5_tightestChange 77 = .ok (.invokestatic 198, 3) := by decide +kernel
theorem dX5_tightestChange_80 : decode cX5_tightestChange 80 = .ok (.istore_n 2, 1) := by decide +kernel
theorem dX5_tightestChange_81 : decode cX5_tightestChange 81 = .ok (.iinc 4 1, 3) := by decide +kernel
theorem dX5_tightestChange_84 : decode cX5_tightestChange 84 = .ok (.goto (-53), 3) := by decide +kernel
theorem dX5_tightestChange_87 : decode cX5_tightestChange 87 = .ok (.iinc 3 1, 3) := by decide +kernel
theorem dX5_tightestChange_90 : decode cX5_tightestChange 90 = .ok (.goto (-73), 3) := by decide +kernel
theorem dX5_tightestChange_93 : decode cX5_tightestChange 93 = .ok (.iload_n 2, 1) := by decide +kernel
theorem dX5_tightestChange_94 : decode cX5_tightestChange 94 = .ok (.ireturn, 1) := by decide +kernel
set_option maxRecDepth 20000 in
theorem ggX5_cliqueNumber_X0_lookAt : GoodIn wsX5_cliqueNumber wsX0_lookAt := goodIn_r _ [7, 8, 9, 10, 11, 12, 13, 14, 15, 16, 17, 18, 19, 45, 46, 47, 48, 49, 50, 51, 52, 53, 54, 55, 56, 57, 58, 59, 60, 61] (by decide +kernel) (by decide +kernel)
set_option maxRecDepth 20000 in
theorem gX5_cliqueNumber_X0_lookAt : GoodIn wsX5_cliqueNumber (wsV RX5 147 RX0 yX0_lookAt wsX0_lookAt) := goodIn_app (goodIn_of _ (by decide +kernel)) ggX5_cliqueNumber_X0_lookAt
set_option maxRecDepth 20000 in
theorem ggX5_cliqueNumber_X0_largestClique : GoodIn wsX5_cliqueNumber wsX0_largestClique := goodIn_r _ [23, 10, 24, 25, 26, 27, 28, 29, 30, 6, 31, 11, 32, 33, 34, 35, 36, 37, 38, 59, 60, 61] (by decide +kernel) (by decide +kernel)
set_option maxRecDepth 20000 in
theorem gX5_cliqueNumber_X0_largestClique : GoodIn wsX5_cliqueNumber (wsV RX5 201 RX0 yX0_largestClique wsX0_largestClique) := goodIn_app (goodIn_of _ (by decide +kernel)) ggX5_cliqueNumber_X0_largestClique
theorem dX5_cliqueNumber_0 : decode cX5_cliqueNumber 0 = .ok (.aload_n 0, 1) := by decide +kernel
theorem dX5_cliqueNumber_1 : decode cX5_cliqueNumber 1 = .ok (.getfield 38, 3) := by decide +kernel
theorem dX5_cliqueNumber_4 : decode cX5_cliqueNumber 4 = .ok (.aload_n 0, 1) := by decide +kernel
theorem dX5_cliqueNumber_5 : decode cX5_cliqueNumber 5 = .ok (.getfield 31, 3) := by decide +kernel
theorem dX5_cliqueNumber_8 : decode cX5_cliqueNumber 8 = .ok (.iconst 0, 1) := by decide +kernel
theorem dX5_cliqueNumber_9 : decode cX5_cliqueNumber 9 = .ok (.invokevirtual 147, 3) := by decide +kernel
theorem dX5_cliqueNumber_12 : decode cX5_cliqueNumber 12 = .ok (.aload_n 0, 1) := by decide +kernel
theorem dX5_cliqueNumber_13 : decode cX5_cliqueNumber 13 = .ok (.getfield 38, 3) := by decide +kernel
theorem dX5_cliqueNumber_16 : decode cX5_cliqueNumber 16 = .ok (.invokevirtual 201, 3) := by decide +kernel
theorem dX5_cliqueNumber_19 : decode cX5_cliqueNumber 19 = .ok (.ireturn, 1) := by decide +kernel
set_option maxRecDepth 20000 in
theorem ggX5_leastCast_X0_lookAt : GoodIn wsX5_leastCast wsX0_lookAt := goodIn_r _ [7, 8, 9, 10, 11, 12, 13, 14, 15, 16, 17, 18, 19, 53, 54, 55, 56, 57, 58, 59, 60, 61, 62, 63, 64, 65, 66, 67, 68, 69] (by decide +kernel) (by decide +kernel)
set_option maxRecDepth 20000 in
theorem gX5_leastCast_X0_lookAt : GoodIn wsX5_leastCast (wsV RX5 147 RX0 yX0_lookAt wsX0_lookAt) := goodIn_app (goodIn_of _ (by decide +kernel)) ggX5_leastCast_X0_lookAt
set_option maxRecDepth 20000 in
theorem ggX5_leastCast_X0_findFirstCast : GoodIn wsX5_leastCast wsX0_findFirstCast := goodIn_r _ [23, 10, 24, 25, 26, 6, 27, 28, 29, 30, 31, 32, 33, 34, 35, 36, 37, 38, 39, 40, 41, 42, 43, 44, 45, 46, 11, 67, 68, 69] (by decide +kernel) (by decide +kernel)
set_option maxRecDepth 20000 in
theorem gX5_leastCast_X0_findFirstCast : GoodIn wsX5_leastCast (wsV RX5 151 RX0 yX0_findFirstCast wsX0_findFirstCast) := goodIn_app (goodIn_of _ (by decide +kernel)) ggX5_leastCast_X0_findFirstCast
theorem dX5_leastCast_0 : decode cX5_leastCast 0 = .ok (.aload_n 0, 1) := by decide +kernel
theorem dX5_leastCast_1 : decode cX5_leastCast 1 = .ok (.getfield 38, 3) := by decide +kernel
theorem dX5_leastCast_4 : decode cX5_leastCast 4 = .ok (.aload_n 0, 1) := by decide +kernel
theorem dX5_leastCast_5 : decode cX5_leastCast 5 = .ok (.getfield 31, 3) := by decide +kernel
theorem dX5_leastCast_8 : decode cX5_leastCast 8 = .ok (.iconst 0, 1) := by decide +kernel
theorem dX5_leastCast_9 : decode cX5_leastCast 9 = .ok (.invokevirtual 147, 3) := by decide +kernel
theorem dX5_leastCast_12 : decode cX5_leastCast 12 = .ok (.aload_n 0, 1) := by decide +kernel
theorem dX5_leastCast_13 : decode cX5_leastCast 13 = .ok (.getfield 38, 3) := by decide +kernel
theorem dX5_leastCast_16 : decode cX5_leastCast 16 = .ok (.invokevirtual 151, 3) := by decide +kernel
theorem dX5_leastCast_19 : decode cX5_leastCast 19 = .ok (.ireturn, 1) := by decide +kernel
set_option maxRecDepth 20000 in
theorem ggX5_firstCastActor_X2_hasRole : GoodIn wsX5_firstCastActor wsX2_hasRole := goodIn_r _ [8, 9, 64, 65, 66, 67, 68, 69, 70, 71, 72, 73, 74, 75] (by decide +kernel) (by decide +kernel)
set_option maxRecDepth 20000 in
theorem gX5_firstCastActor_X2_hasRole : GoodIn wsX5_firstCastActor (wsV RX5 114 RX2 yX2_hasRole wsX2_hasRole) := goodIn_app (goodIn_of _ (by decide +kernel)) ggX5_firstCastActor_X2_hasRole
set_option maxRecDepth 20000 in
theorem ggX5_firstCastActor_X0_lookAt : GoodIn wsX5_firstCastActor wsX0_lookAt := goodIn_r _ [14, 15, 16, 17, 18, 19, 20, 21, 22, 23, 24, 25, 26, 76, 77, 64, 65, 66, 67, 68, 69, 70, 71, 72, 73, 74, 75, 78, 79, 80] (by decide +kernel) (by decide +kernel)
set_option maxRecDepth 20000 in
theorem gX5_firstCastActor_X0_lookAt : GoodIn wsX5_firstCastActor (wsV RX5 147 RX0 yX0_lookAt wsX0_lookAt) := goodIn_app (goodIn_of _ (by decide +kernel)) ggX5_firstCastActor_X0_lookAt
set_option maxRecDepth 20000 in
theorem ggX5_firstCastActor_X0_findFirstCast : GoodIn wsX5_firstCastActor wsX0_findFirstCast := goodIn_r _ [30, 17, 31, 32, 33, 13, 34, 35, 36, 37, 38, 39, 40, 41, 42, 43, 44, 45, 46, 47, 48, 49, 50, 51, 52, 53, 18, 78, 79, 80] (by decide +kernel) (by decide +kernel)
set_option maxRecDepth 20000 in
theorem gX5_firstCastActor_X0_findFirstCast : GoodIn wsX5_firstCastActor (wsV RX5 151 RX0 yX0_findFirstCast wsX0_findFirstCast) := goodIn_app (goodIn_of _ (by decide +kernel)) ggX5_firstCastActor_X0_findFirstCast
set_option maxRecDepth 20000 in
theorem ggX5_firstCastActor_X0_foundActor : GoodIn wsX5_firstCastActor wsX0_foundActor := goodIn_r _ [57, 43, 78, 79, 80] (by decide +kernel) (by decide +kernel)
set_option maxRecDepth 20000 in
theorem gX5_firstCastActor_X0_foundActor : GoodIn wsX5_firstCastActor (wsV RX5 154 RX0 yX0_foundActor wsX0_foundActor) := goodIn_app (goodIn_of _ (by decide +kernel)) ggX5_firstCastActor_X0_foundActor
theorem dX5_firstCastActor_0 : decode cX5_firstCastActor 0 = .ok (.aload_n 0, 1) := by decide +kernel
theorem dX5_firstCastActor_1 : decode cX5_firstCastActor 1 = .ok (.getfield 23, 3) := by decide +kernel
theorem dX5_firstCastActor_4 : decode cX5_firstCastActor 4 = .ok (.iload_n 1, 1) := by decide +kernel
theorem dX5_firstCastActor_5 : decode cX5_firstCastActor 5 = .ok (.invokevirtual 114, 3) := by decide +kernel
theorem dX5_firstCastActor_8 : decode cX5_firstCastActor 8 = .ok (.ifCond .ne 7, 3) := by decide +kernel
theorem dX5_firstCastActor_11 : decode cX5_firstCastActor 11 = .ok (.sipush (-1001), 3) := by decide +kernel
theorem dX5_firstCastActor_14 : decode cX5_firstCastActor 14 = .ok (.ireturn, 1) := by decide +kernel
theorem dX5_firstCastActor_15 : decode cX5_firstCastActor 15 = .ok (.aload_n 0, 1) := by decide +kernel
theorem dX5_firstCastActor_16 : decode cX5_firstCastActor 16 = .ok (.getfield 38, 3) := by decide +kernel
theorem dX5_firstCastActor_19 : decode cX5_firstCastActor 19 = .ok (.aload_n 0, 1) := by decide +kernel
theorem dX5_firstCastActor_20 : decode cX5_firstCastActor 20 = .ok (.getfield 31, 3) := by decide +kernel
theorem dX5_firstCastActor_23 : decode cX5_firstCastActor 23 = .ok (.iconst 0, 1) := by decide +kernel
theorem dX5_firstCastActor_24 : decode cX5_firstCastActor 24 = .ok (.invokevirtual 147, 3) := by decide +kernel
theorem dX5_firstCastActor_27 : decode cX5_firstCastActor 27 = .ok (.aload_n 0, 1) := by decide +kernel
theorem dX5_firstCastActor_28 : decode cX5_firstCastActor 28 = .ok (.getfield 38, 3) := by decide +kernel
theorem dX5_firstCastActor_31 : decode cX5_firstCastActor 31 = .ok (.invokevirtual 151, 3) := by decide +kernel
theorem dX5_firstCastActor_34 : decode cX5_firstCastActor 34 = .ok (.pop, 1) := by decide +kernel
theorem dX5_firstCastActor_35 : decode cX5_firstCastActor 35 = .ok (.aload_n 0, 1) := by decide +kernel
theorem dX5_firstCastActor_36 : decode cX5_firstCastActor 36 = .ok (.getfield 38, 3) := by decide +kernel
theorem dX5_firstCastActor_39 : decode cX5_firstCastActor 39 = .ok (.iload_n 1, 1) := by decide +kernel
theorem dX5_firstCastActor_40 : decode cX5_firstCastActor 40 = .ok (.invokevirtual 154, 3) := by decide +kernel
theorem dX5_firstCastActor_43 : decode cX5_firstCastActor 43 = .ok (.ireturn, 1) := by decide +kernel
set_option maxRecDepth 20000 in
theorem ggX5_greedyCast_X0_lookAt : GoodIn wsX5_greedyCast wsX0_lookAt := goodIn_r _ [7, 8, 9, 10, 11, 12, 13, 14, 15, 16, 17, 18, 19, 43, 44, 45, 46, 47, 48, 49, 50, 51, 52, 53, 54, 55, 56, 57, 58, 59] (by decide +kernel) (by decide +kernel)
set_option maxRecDepth 20000 in
theorem gX5_greedyCast_X0_lookAt : GoodIn wsX5_greedyCast (wsV RX5 147 RX0 yX0_lookAt wsX0_lookAt) := goodIn_app (goodIn_of _ (by decide +kernel)) ggX5_greedyCast_X0_lookAt
set_option maxRecDepth 20000 in
theorem ggX5_greedyCast_X0_greedySize : GoodIn wsX5_greedyCast wsX0_greedySize := goodIn_r _ [23, 10, 24, 25, 26, 27, 28, 29, 30, 31, 6, 32, 33, 34, 35, 36, 11, 57, 58, 59] (by decide +kernel) (by decide +kernel)
set_option maxRecDepth 20000 in
theorem gX5_greedyCast_X0_greedySize : GoodIn wsX5_greedyCast (wsV RX5 204 RX0 yX0_greedySize wsX0_greedySize) := goodIn_app (goodIn_of _ (by decide +kernel)) ggX5_greedyCast_X0_greedySize
theorem dX5_greedyCast_0 : decode cX5_greedyCast 0 = .ok (.aload_n 0, 1) := by decide +kernel
theorem dX5_greedyCast_1 : decode cX5_greedyCast 1 = .ok (.getfield 38, 3) := by decide +kernel
theorem dX5_greedyCast_4 : decode cX5_greedyCast 4 = .ok (.aload_n 0, 1) := by decide +kernel
theorem dX5_greedyCast_5 : decode cX5_greedyCast 5 = .ok (.getfield 31, 3) := by decide +kernel
theorem dX5_greedyCast_8 : decode cX5_greedyCast 8 = .ok (.iconst 0, 1) := by decide +kernel
theorem dX5_greedyCast_9 : decode cX5_greedyCast 9 = .ok (.invokevirtual 147, 3) := by decide +kernel
theorem dX5_greedyCast_12 : decode cX5_greedyCast 12 = .ok (.aload_n 0, 1) := by decide +kernel
theorem dX5_greedyCast_13 : decode cX5_greedyCast 13 = .ok (.getfield 38, 3) := by decide +kernel
theorem dX5_greedyCast_16 : decode cX5_greedyCast 16 = .ok (.invokevirtual 204, 3) := by decide +kernel
theorem dX5_greedyCast_19 : decode cX5_greedyCast 19 = .ok (.ireturn, 1) := by decide +kernel
set_option maxRecDepth 20000 in
theorem ggX5_leastCastIfFaster_X0_lookAt : GoodIn wsX5_leastCastIfFaster wsX0_lookAt := goodIn_r _ [7, 8, 9, 10, 11, 12, 13, 14, 15, 16, 17, 18, 19, 53, 54, 55, 56, 57, 58, 59, 60, 61, 62, 63, 64, 65, 66, 67, 68, 69] (by decide +kernel) (by decide +kernel)
set_option maxRecDepth 20000 in
theorem gX5_leastCastIfFaster_X0_lookAt : GoodIn wsX5_leastCastIfFaster (wsV RX5 147 RX0 yX0_lookAt wsX0_lookAt) := goodIn_app (goodIn_of _ (by decide +kernel)) ggX5_leastCastIfFaster_X0_lookAt
set_option maxRecDepth 20000 in
theorem ggX5_leastCastIfFaster_X0_findFirstCast : GoodIn wsX5_leastCastIfFaster wsX0_findFirstCast := goodIn_r _ [23, 10, 24, 25, 26, 6, 27, 28, 29, 30, 31, 32, 33, 34, 35, 36, 37, 38, 39, 40, 41, 42, 43, 44, 45, 46, 11, 67, 68, 69] (by decide +kernel) (by decide +kernel)
set_option maxRecDepth 20000 in
theorem gX5_leastCastIfFaster_X0_findFirstCast : GoodIn wsX5_leastCastIfFaster (wsV RX5 151 RX0 yX0_findFirstCast wsX0_findFirstCast) := goodIn_app (goodIn_of _ (by decide +kernel)) ggX5_leastCastIfFaster_X0_findFirstCast
theorem dX5_leastCastIfFaster_0 : decode cX5_leastCastIfFaster 0 = .ok (.iload_n 1, 1) := by decide +kernel
theorem dX5_leastCastIfFaster_1 : decode cX5_leastCastIfFaster 1 = .ok (.ifCond .lt 9, 3) := by decide +kernel
theorem dX5_leastCastIfFaster_4 : decode cX5_leastCastIfFaster 4 = .ok (.iload_n 1, 1) := by decide +kernel
theorem dX5_leastCastIfFaster_5 : decode cX5_leastCastIfFaster 5 = .ok (.bipush 120, 2) := by decide +kernel
theorem dX5_leastCastIfFaster_7 : decode cX5_leastCastIfFaster 7 = .ok (.if_icmp .le 7, 3) := by decide +kernel
theorem dX5_leastCastIfFaster_10 : decode cX5_leastCastIfFaster 10 = .ok (.sipush (-1001), 3) := by decide +kernel
theorem dX5_leastCastIfFaster_13 : decode cX5_leastCastIfFaster 13 = .ok (.ireturn, 1) := by decide +kernel
theorem dX5_leastCastIfFaster_14 : decode cX5_leastCastIfFaster 14 = .ok (.aload_n 0, 1) := by decide +kernel
theorem dX5_leastCastIfFaster_15 : decode cX5_leastCastIfFaster 15 = .ok (.getfield 38, 3) := by decide +kernel
theorem dX5_leastCastIfFaster_18 : decode cX5_leastCastIfFaster 18 = .ok (.aload_n 0, 1) := by decide +kernel
theorem dX5_leastCastIfFaster_19 : decode cX5_leastCastIfFaster 19 = .ok (.getfield 31, 3) := by decide +kernel
theorem dX5_leastCastIfFaster_22 : decode cX5_leastCastIfFaster 22 = .ok (.iload_n 1, 1) := by decide +kernel
theorem dX5_leastCastIfFaster_23 : decode cX5_leastCastIfFaster 23 = .ok (.invokevirtual 147, 3) := by decide +kernel
theorem dX5_leastCastIfFaster_26 : decode cX5_leastCastIfFaster 26 = .ok (.aload_n 0, 1) := by decide +kernel
theorem dX5_leastCastIfFaster_27 : decode cX5_leastCastIfFaster 27 = .ok (.getfield 38, 3) := by decide +kernel
theorem dX5_leastCastIfFaster_30 : decode cX5_leastCastIfFaster 30 = .ok (.invokevirtual 151, 3) := by decide +kernel
theorem dX5_leastCastIfFaster_33 : decode cX5_leastCastIfFaster 33 = .ok (.ireturn, 1) := by decide +kernel
set_option maxRecDepth 20000 in
theorem ggX5_speedUpFor_X5_sizeIsEnough : GoodIn wsX5_speedUpFor wsX5_sizeIsEnough := goodIn_r _ [5, 6, 7, 8, 9, 10, 11, 12, 13, 14, 15, 16, 17, 18, 19, 20, 21, 22, 23, 24, 25, 26, 27, 28, 29, 30, 31, 32, 33, 34, 35, 36, 37, 38, 39, 40, 41, 42, 43, 44, 45, 46, 47, 48, 49, 50, 51, 52, 53, 54, 55, 56, 57, 58, 59, 60, 61, 62, 63, 64, 65, 66, 67, 68, 69, 70] (by decide +kernel) (by decide +kernel)
set_option maxRecDepth 20000 in
theorem gX5_speedUpFor_X5_sizeIsEnough : GoodIn wsX5_speedUpFor (wsV RX5 207 RX5 yX5_sizeIsEnough wsX5_sizeIsEnough) := goodIn_app (goodIn_of _ (by decide +kernel)) ggX5_speedUpFor_X5_sizeIsEnough
theorem dX5_speedUpFor_0 : decode cX5_speedUpFor 0 = .ok (.iload_n 1, 1) := by decide +kernel
theorem dX5_speedUpFor_1 : decode cX5_speedUpFor 1 = .ok (.iconst 1, 1) := by decide +kernel
theorem dX5_speedUpFor_2 : decode cX5_speedUpFor 2 = .ok (.if_icmp .lt 9, 3) := by decide +kernel
theorem dX5_speedUpFor_5 : decode cX5_speedUpFor 5 = .ok (.iload_n 1, 1) := by decide +kernel
theorem dX5_speedUpFor_6 : decode cX5_speedUpFor 6 = .ok (.bipush 8, 2) := by decide +kernel
theorem dX5_speedUpFor_8 : decode cX5_speedUpFor 8 = .ok (.if_icmp .le 7, 3) := by decide +kernel
theorem dX5_speedUpFor_11 : decode cX5_speedUpFor 11 = .ok (.sipush (-1001), 3) := by decide +kernel
theorem dX5_speedUpFor_14 : decode cX5_speedUpFor 14 = .ok (.ireturn, 1) := by decide +kernel
theorem dX5_speedUpFor_15 : decode cX5_speedUpFor 15 = .ok (.aload_n 0, 1) := by decide +kernel
theorem dX5_speedUpFor_16 : decode cX5_speedUpFor 16 = .ok (.iload_n 1, 1) := by decide +kernel
theorem dX5_speedUpFor_17 : decode cX5_speedUpFor 17 = .ok (.bipush 120, 2) := by decide +kernel
theorem dX5_speedUpFor_19 : decode cX5_speedUpFor 19 = .ok (.invokevirtual 207, 3) := by decide +kernel
theorem dX5_speedUpFor_22 : decode cX5_speedUpFor 22 = .ok (.ifCond .ne 7, 3) := by decide +kernel
theorem dX5_speedUpFor_25 : decode cX5_speedUpFor 25 = .ok (.sipush (-1004), 3) := by decide +kernel
theorem dX5_speedUpFor_28 : decode cX5_speedUpFor 28 = .ok (.ireturn, 1) := by decide +kernel
theorem dX5_speedUpFor_29 : decode cX5_speedUpFor 29 = .ok (.iconst 0, 1) := by decide +kernel
theorem dX5_speedUpFor_30 : decode cX5_speedUpFor 30 = .ok (.istore_n 2, 1) := by decide +kernel
theorem dX5_speedUpFor_31 : decode cX5_speedUpFor 31 = .ok (.bipush 120, 2) := by decide +kernel
theorem dX5_speedUpFor_33 : decode cX5_speedUpFor 33 = .ok (.istore_n 3, 1) := by decide +kernel
theorem dX5_speedUpFor_34 : decode cX5_speedUpFor 34 = .ok (.iconst 0, 1) := by decide +kernel
theorem dX5_speedUpFor_35 : decode cX5_speedUpFor 35 = .ok (.istore 4, 2) := by decide +kernel
theorem dX5_speedUpFor_37 : decode cX5_speedUpFor 37 = .ok (.iload 4, 2) := by decide +kernel
theorem dX5_speedUpFor_39 : decode cX5_speedUpFor 39 = .ok (.bipush 7, 2) := by decide +kernel
theorem dX5_speedUpFor_41 : decode cX5_speedUpFor 41 = .ok (.if_icmp .ge 42, 3) := by decide +kernel
theorem dX5_speedUpFor_44 : decode cX5_speedUpFor 44 = .ok (.iload_n 2, 1) := by decide +kernel
theorem dX5_speedUpFor_45 : decode cX5_speedUpFor 45 = .ok (.iload_n 3, 1) := by decide +kernel
theorem dX5_speedUpFor_46 : decode cX5_speedUpFor 46 = .ok (.if_icmp .ge 37, 3) := by decide +kernel
theorem dX5_speedUpFor_49 : decode cX5_speedUpFor 49 = .ok (.iload_n 2, 1) := by decide +kernel
theorem dX5_speedUpFor_50 : decode cX5_speedUpFor 50 = .ok (.iload_n 3, 1) := by decide +kernel
theorem dX5_speedUpFor_51 : decode cX5_speedUpFor 51 = .ok (.iadd, 1) := by decide +kernel
theorem dX5_speedUpFor_52 : decode cX5_speedUpFor 52 = .ok (.iconst 2, 1) := by decide +kernel
theorem dX5_speedUpFor_53 : decode cX5_speedUpFor 53 = .ok (.idiv, 1) := by decide +kernel
theorem dX5_speedUpFor_54 : decode cX5_speedUpFor 54 = .ok (.istore 5, 2) := by decide +kernel
theorem dX5_speedUpFor_56 : decode cX5_speedUpFor 56 = .ok (.aload_n 0, 1) := by decide +kernel
theorem dX5_speedUpFor_57 : decode cX5_speedUpFor 57 = .ok (.iload_n 1, 1) := by decide +kernel
theorem dX5_speedUpFor_58 : decode cX5_speedUpFor 58 = .ok (.iload 5, 2) := by decide +kernel
theorem dX5_speedUpFor_60 : decode cX5_speedUpFor 60 = .ok (.invokevirtual 207, 3) := by decide +kernel
theorem dX5_speedUpFor_63 : decode cX5_speedUpFor 63 = .ok (.ifCond .eq 9, 3) := by decide +kernel
theorem dX5_speedUpFor_66 : decode cX5_speedUpFor 66 = .ok (.iload 5, 2) := by decide +kernel
theorem dX5_speedUpFor_68 : decode cX5_speedUpFor 68 = .ok (.istore_n 3, 1) := by decide +kernel
theorem dX5_speedUpFor_69 : decode cX5_speedUpFor 69 = .ok (.goto 8, 3) := by decide +kernel
theorem dX5_speedUpFor_72 : decode cX5_speedUpFor 72 = .ok (.iload 5, 2) := by decide +kernel
theorem dX5_speedUpFor_74 : decode cX5_speedUpFor 74 = .ok (.iconst 1, 1) := by decide +kernel
theorem dX5_speedUpFor_75 : decode cX5_speedUpFor 75 = .ok (.iadd, 1) := by decide +kernel
theorem dX5_speedUpFor_76 : decode cX5_speedUpFor 76 = .ok (.istore_n 2, 1) := by decide +kernel
theorem dX5_speedUpFor_77 : decode cX5_speedUpFor 77 = .ok (.iinc 4 1, 3) := by decide +kernel
theorem dX5_speedUpFor_80 : decode cX5_speedUpFor 80 = .ok (.goto (-43), 3) := by decide +kernel
theorem dX5_speedUpFor_83 : decode cX5_speedUpFor 83 = .ok (.iload_n 2, 1) := by decide +kernel
theorem dX5_speedUpFor_84 : decode cX5_speedUpFor 84 = .ok (.ireturn, 1) := by decide +kernel
set_option maxRecDepth 20000 in
theorem ggX5_startStatedPlay_X2_copyFrom : GoodIn wsX5_startStatedPlay wsX2_copyFrom := goodIn_r _ [10, 11, 12, 13, 14, 15, 16, 17, 18, 19, 20, 21, 22, 23, 24, 25, 26, 63, 64, 65, 66, 67, 68, 69, 70, 71, 72, 73, 74] (by decide +kernel) (by decide +kernel)
set_option maxRecDepth 20000 in
theorem gX5_startStatedPlay_X2_copyFrom : GoodIn wsX5_startStatedPlay (wsV RX5 210 RX2 yX2_copyFrom wsX2_copyFrom) := goodIn_app (goodIn_of _ (by decide +kernel)) ggX5_startStatedPlay_X2_copyFrom
set_option maxRecDepth 20000 in
theorem ggX5_startStatedPlay_X4_measure : GoodIn wsX5_startStatedPlay wsX4_measure := goodIn_r _ [31, 32, 33, 34, 35, 36, 37, 30, 38, 39, 40, 41, 42, 43, 44, 45, 46, 47, 48, 49, 50, 51, 52, 53, 54, 75, 76, 63, 64, 65, 66, 67, 68, 69, 70, 71, 72, 73, 74] (by decide +kernel) (by decide +kernel)
set_option maxRecDepth 20000 in
theorem gX5_startStatedPlay_X4_measure : GoodIn wsX5_startStatedPlay (wsV RX5 103 RX4 yX4_measure wsX4_measure) := goodIn_app (goodIn_of _ (by decide +kernel)) ggX5_startStatedPlay_X4_measure
theorem dX5_startStatedPlay_0 : decode cX5_startStatedPlay 0 = .ok (.aload_n 0, 1) := by decide +kernel
theorem dX5_startStatedPlay_1 : decode cX5_startStatedPlay 1 = .ok (.getfield 23, 3) := by decide +kernel
theorem dX5_startStatedPlay_4 : decode cX5_startStatedPlay 4 = .ok (.aload_n 0, 1) := by decide +kernel
theorem dX5_startStatedPlay_5 : decode cX5_startStatedPlay 5 = .ok (.getfield 19, 3) := by decide +kernel
theorem dX5_startStatedPlay_8 : decode cX5_startStatedPlay 8 = .ok (.invokevirtual 210, 3) := by decide +kernel
theorem dX5_startStatedPlay_11 : decode cX5_startStatedPlay 11 = .ok (.aload_n 0, 1) := by decide +kernel
theorem dX5_startStatedPlay_12 : decode cX5_startStatedPlay 12 = .ok (.getfield 45, 3) := by decide +kernel
theorem dX5_startStatedPlay_15 : decode cX5_startStatedPlay 15 = .ok (.iconst 0, 1) := by decide +kernel
theorem dX5_startStatedPlay_16 : decode cX5_startStatedPlay 16 = .ok (.putfield 157, 3) := by decide +kernel
theorem dX5_startStatedPlay_19 : decode cX5_startStatedPlay 19 = .ok (.aload_n 0, 1) := by decide +kernel
theorem dX5_startStatedPlay_20 : decode cX5_startStatedPlay 20 = .ok (.getfield 31, 3) := by decide +kernel
theorem dX5_startStatedPlay_23 : decode cX5_startStatedPlay 23 = .ok (.invokevirtual 103, 3) := by decide +kernel
theorem dX5_startStatedPlay_26 : decode cX5_startStatedPlay 26 = .ok (.return_, 1) := by decide +kernel
set_option maxRecDepth 20000 in
theorem ggX5_areTwoRoles_X2_hasRole : GoodIn wsX5_areTwoRoles wsX2_hasRole := goodIn_r _ [6, 7, 14, 15, 16, 17, 18, 19, 20, 21, 22, 23, 24, 25] (by decide +kernel) (by decide +kernel)
set_option maxRecDepth 20000 in
theorem gX5_areTwoRoles_X2_hasRole : GoodIn wsX5_areTwoRoles (wsV RX5 114 RX2 yX2_hasRole wsX2_hasRole) := goodIn_app (goodIn_of _ (by decide +kernel)) ggX5_areTwoRoles_X2_hasRole
theorem dX5_areTwoRoles_0 : decode cX5_areTwoRoles 0 = .ok (.aload_n 0, 1) := by decide +kernel
theorem dX5_areTwoRoles_1 : decode cX5_areTwoRoles 1 = .ok (.getfield 23, 3) := by decide +kernel
theorem dX5_areTwoRoles_4 : decode cX5_areTwoRoles 4 = .ok (.iload_n 1, 1) := by decide +kernel
theorem dX5_areTwoRoles_5 : decode cX5_areTwoRoles 5 = .ok (.invokevirtual 114, 3) := by decide +kernel
theorem dX5_areTwoRoles_8 : decode cX5_areTwoRoles 8 = .ok (.ifCond .eq 23, 3) := by decide +kernel
theorem dX5_areTwoRoles_11 : decode cX5_areTwoRoles 11 = .ok (.aload_n 0, 1) := by decide +kernel
theorem dX5_areTwoRoles_12 : decode cX5_areTwoRoles 12 = .ok (.getfield 23, 3) := by decide +kernel
theorem dX5_areTwoRoles_15 : decode cX5_areTwoRoles 15 = .ok (.iload_n 2, 1) := by decide +kernel
theorem dX5_areTwoRoles_16 : decode cX5_areTwoRoles 16 = .ok (.invokevirtual 114, 3) := by decide +kernel
theorem dX5_areTwoRoles_19 : decode cX5_areTwoRoles 19 = .ok (.ifCond .eq 12, 3) := by decide +kernel
theorem dX5_areTwoRoles_22 : decode cX5_areTwoRoles 22 = .ok (.iload_n 1, 1) := by decide +kernel
theorem dX5_areTwoRoles_23 : decode cX5_areTwoRoles 23 = .ok (.iload_n 2, 1) := by decide +kernel
theorem dX5_areTwoRoles_24 : decode cX5_areTwoRoles 24 = .ok (.if_icmp .eq 7, 3) := by decide +kernel
theorem dX5_areTwoRoles_27 : decode cX5_areTwoRoles 27 = .ok (.iconst 1, 1) := by decide +kernel
theorem dX5_areTwoRoles_28 : decode cX5_areTwoRoles 28 = .ok (.goto 4, 3) := by decide +kernel
theorem dX5_areTwoRoles_31 : decode cX5_areTwoRoles 31 = .ok (.iconst 0, 1) := by decide +kernel
theorem dX5_areTwoRoles_32 : decode cX5_areTwoRoles 32 = .ok (.ireturn, 1) := by decide +kernel
set_option maxRecDepth 20000 in
theorem ggX5_hasRivalOf_X4_reason : GoodIn wsX5_hasRivalOf wsX4_reason := goodIn_r _ [8, 9, 10, 11, 30, 31, 18, 19, 20, 21, 22, 23, 24, 25, 26, 27, 28, 29] (by decide +kernel) (by decide +kernel)
set_option maxRecDepth 20000 in
theorem gX5_hasRivalOf_X4_reason : GoodIn wsX5_hasRivalOf (wsV RX5 191 RX4 yX4_reason wsX4_reason) := goodIn_app (goodIn_of _ (by decide +kernel)) ggX5_hasRivalOf_X4_reason
theorem dX5_hasRivalOf_0 : decode cX5_hasRivalOf 0 = .ok (.iconst 0, 1) := by decide +kernel
theorem dX5_hasRivalOf_1 : decode cX5_hasRivalOf 1 = .ok (.istore 4, 2) := by decide +kernel
theorem dX5_hasRivalOf_3 : decode cX5_hasRivalOf 3 = .ok (.iload 4, 2) := by decide +kernel
theorem dX5_hasRivalOf_5 : decode cX5_hasRivalOf 5 = .ok (.iload_n 3, 1) := by decide +kernel
theorem dX5_hasRivalOf_6 : decode cX5_hasRivalOf 6 = .ok (.if_icmp .ge 45, 3) := by decide +kernel
theorem dX5_hasRivalOf_9 : decode cX5_hasRivalOf 9 = .ok (.iload 4, 2) := by decide +kernel
theorem dX5_hasRivalOf_11 : decode cX5_hasRivalOf 11 = .ok (.iload_n 2, 1) := by decide +kernel
theorem dX5_hasRivalOf_12 : decode cX5_hasRivalOf 12 = .ok (.if_icmp .eq 33, 3) := by decide +kernel
theorem dX5_hasRivalOf_15 : decode cX5_hasRivalOf 15 = .ok (.aload_n 0, 1) := by decide +kernel
theorem dX5_hasRivalOf_16 : decode cX5_hasRivalOf 16 = .ok (.getfield 23, 3) := by decide +kernel
theorem dX5_hasRivalOf_19 : decode cX5_hasRivalOf 19 = .ok (.getfield 135, 3) := by decide +kernel
theorem dX5_hasRivalOf_22 : decode cX5_hasRivalOf 22 = .ok (.iload 4, 2) := by decide +kernel
theorem dX5_hasRivalOf_24 : decode cX5_hasRivalOf 24 = .ok (.iaload, 1) := by decide +kernel
theorem dX5_hasRivalOf_25 : decode cX5_hasRivalOf 25 = .ok (.iload_n 1, 1) := by decide +kernel
theorem dX5_hasRivalOf_26 : decode cX5_hasRivalOf 26 = .ok (.if_icmp .ne 19, 3) := by decide +kernel
theorem dX5_hasRivalOf_29 : decode cX5_hasRivalOf 29 = .ok (.aload_n 0, 1) := by decide +kernel
theorem dX5_hasRivalOf_30 : decode cX5_hasRivalOf 30 = .ok (.getfield 31, 3) := by decide +kernel
theorem dX5_hasRivalOf_33 : decode cX5_hasRivalOf 33 = .ok (.iload_n 2, 1) := by decide +kernel
theorem dX5_hasRivalOf_34 : decode cX5_hasRivalOf 34 = .ok (.iload 4, 2) := by decide +kernel
theorem dX5_hasRivalOf_36 : decode cX5_hasRivalOf 36 = .ok (.iconst 0, 1) := by decide +kernel
theorem dX5_hasRivalOf_37 : decode cX5_hasRivalOf 37 = .ok (.invokevirtual 191, 3) := by decide +kernel
theorem dX5_hasRivalOf_40 : decode cX5_hasRivalOf 40 = .ok (.ifCond .eq 5, 3) := by decide +kernel
theorem dX5_hasRivalOf_43 : decode cX5_hasRivalOf 43 = .ok (.iconst 1, 1) := by decide +kernel
theorem dX5_hasRivalOf_44 : decode cX5_hasRivalOf 44 = .ok (.ireturn, 1) := by decide +kernel
theorem dX5_hasRivalOf_45 : decode cX5_hasRivalOf 45 = .ok (.iinc 4 1, 3) := by decide +kernel
theorem dX5_hasRivalOf_48 : decode cX5_hasRivalOf 48 = .ok (.goto (-45), 3) := by decide +kernel
theorem dX5_hasRivalOf_51 : decode cX5_hasRivalOf 51 = .ok (.iconst 0, 1) := by decide +kernel
theorem dX5_hasRivalOf_52 : decode cX5_hasRivalOf 52 = .ok (.ireturn, 1) := by decide +kernel
set_option maxRecDepth 20000 in
theorem ggX5_freeRivals_X5_hasRivalOf : GoodIn wsX5_freeRivals wsX5_hasRivalOf := goodIn_r _ [8, 1, 3, 9, 10, 11, 12, 13, 14, 15, 16, 17, 18, 19, 20, 21, 22, 23, 24, 25, 26, 27, 28, 29, 30, 31, 32, 33, 34, 35, 36, 37] (by decide +kernel) (by decide +kernel)
set_option maxRecDepth 20000 in
theorem gX5_freeRivals_X5_hasRivalOf : GoodIn wsX5_freeRivals (wsV RX5 131 RX5 yX5_hasRivalOf wsX5_hasRivalOf) := goodIn_app (goodIn_of _ (by decide +kernel)) ggX5_freeRivals_X5_hasRivalOf
theorem dX5_freeRivals_0 : decode cX5_freeRivals 0 = .ok (.iconst 0, 1) := by decide +kernel
theorem dX5_freeRivals_1 : decode cX5_freeRivals 1 = .ok (.istore_n 1, 1) := by decide +kernel
theorem dX5_freeRivals_2 : decode cX5_freeRivals 2 = .ok (.iconst 1, 1) := by decide +kernel
theorem dX5_freeRivals_3 : decode cX5_freeRivals 3 = .ok (.istore_n 2, 1) := by decide +kernel
theorem dX5_freeRivals_4 : decode cX5_freeRivals 4 = .ok (.iload_n 2, 1) := by decide +kernel
theorem dX5_freeRivals_5 : decode cX5_freeRivals 5 = .ok (.aload_n 0, 1) := by decide +kernel
theorem dX5_freeRivals_6 : decode cX5_freeRivals 6 = .ok (.getfield 23, 3) := by decide +kernel
theorem dX5_freeRivals_9 : decode cX5_freeRivals 9 = .ok (.getfield 86, 3) := by decide +kernel
theorem dX5_freeRivals_12 : decode cX5_freeRivals 12 = .ok (.if_icmp .ge 47, 3) := by decide +kernel
theorem dX5_freeRivals_15 : decode cX5_freeRivals 15 = .ok (.aload_n 0, 1) := by decide +kernel
theorem dX5_freeRivals_16 : decode cX5_freeRivals 16 = .ok (.getfield 23, 3) := by decide +kernel
theorem dX5_freeRivals_19 : decode cX5_freeRivals 19 = .ok (.getfield 135, 3) := by decide +kernel
theorem dX5_freeRivals_22 : decode cX5_freeRivals 22 = .ok (.iload_n 2, 1) := by decide +kernel
theorem dX5_freeRivals_23 : decode cX5_freeRivals 23 = .ok (.iaload, 1) := by decide +kernel
theorem dX5_freeRivals_24 : decode cX5_freeRivals 24 = .ok (.istore_n 3, 1) := by decide +kernel
theorem dX5_freeRivals_25 : decode cX5_freeRivals 25 = .ok (.iload_n 3, 1) := by decide +kernel
theorem dX5_freeRivals_26 : decode cX5_freeRivals 26 = .ok (.iconst (-1), 1) := by decide +kernel
theorem dX5_freeRivals_27 : decode cX5_freeRivals 27 = .ok (.if_icmp .eq 26, 3) := by decide +kernel
theorem dX5_freeRivals_30 : decode cX5_freeRivals 30 = .ok (.aload_n 0, 1) := by decide +kernel
theorem dX5_freeRivals_31 : decode cX5_freeRivals 31 = .ok (.iload_n 3, 1) := by decide +kernel
theorem dX5_freeRivals_32 : decode cX5_freeRivals 32 = .ok (.iload_n 2, 1) := by decide +kernel
theorem dX5_freeRivals_33 : decode cX5_freeRivals 33 = .ok (.iload_n 2, 1) := by decide +kernel
theorem dX5_freeRivals_34 : decode cX5_freeRivals 34 = .ok (.invokevirtual 131, 3) := by decide +kernel
theorem dX5_freeRivals_37 : decode cX5_freeRivals 37 = .ok (.ifCond .eq 16, 3) := by decide +kernel
theorem dX5_freeRivals_40 : decode cX5_freeRivals 40 = .ok (.aload_n 0, 1) := by decide +kernel
theorem dX5_freeRivals_41 : decode cX5_freeRivals 41 = .ok (.getfield 23, 3) := by decide +kernel
theorem dX5_freeRivals_44 : decode cX5_freeRivals 44 = .ok (.getfield 135, 3) := by decide +kernel
theorem dX5_freeRivals_47 : decode cX5_freeRivals 47 = .ok (.iload_n 2, 1) := by decide +kernel
theorem dX5_freeRivals_48 : decode cX5_freeRivals 48 = .ok (.iconst (-1), 1) := by decide +kernel
theorem dX5_freeRivals_49 : decode cX5_freeRivals 49 = .ok (.iastore, 1) := by decide +kernel
theorem dX5_freeRivals_50 : decode cX5_freeRivals 50 = .ok (.iinc 1 1, 3) := by decide +kernel
theorem dX5_freeRivals_53 : decode cX5_freeRivals 53 = .ok (.iinc 2 1, 3) := by decide +kernel
theorem dX5_freeRivals_56 : decode cX5_freeRivals 56 = .ok (.goto (-52), 3) := by decide +kernel
theorem dX5_freeRivals_59 : decode cX5_freeRivals 59 = .ok (.iload_n 1, 1) := by decide +kernel
theorem dX5_freeRivals_60 : decode cX5_freeRivals 60 = .ok (.ireturn, 1) := by decide +kernel
set_option maxRecDepth 20000 in
theorem ggX5_sizeIsEnough_X0_lookAt : GoodIn wsX5_sizeIsEnough wsX0_lookAt := goodIn_r _ [7, 8, 9, 10, 11, 12, 13, 14, 15, 16, 17, 18, 19, 49, 50, 51, 52, 53, 54, 55, 56, 57, 58, 59, 60, 61, 62, 63, 64, 65] (by decide +kernel) (by decide +kernel)
set_option maxRecDepth 20000 in
theorem gX5_sizeIsEnough_X0_lookAt : GoodIn wsX5_sizeIsEnough (wsV RX5 147 RX0 yX0_lookAt wsX0_lookAt) := goodIn_app (goodIn_of _ (by decide +kernel)) ggX5_sizeIsEnough_X0_lookAt
set_option maxRecDepth 20000 in
theorem ggX5_sizeIsEnough_X0_findCast : GoodIn wsX5_sizeIsEnough wsX0_findCast := goodIn_r _ [23, 24, 25, 26, 27, 28, 29, 30, 6, 31, 32, 33, 34, 35, 10, 36, 37, 38, 39, 40, 41, 42, 11, 63, 64, 65] (by decide +kernel) (by decide +kernel)
set_option maxRecDepth 20000 in
theorem gX5_sizeIsEnough_X0_findCast : GoodIn wsX5_sizeIsEnough (wsV RX5 213 RX0 yX0_findCast wsX0_findCast) := goodIn_app (goodIn_of _ (by decide +kernel)) ggX5_sizeIsEnough_X0_findCast
theorem dX5_sizeIsEnough_0 : decode cX5_sizeIsEnough 0 = .ok (.aload_n 0, 1) := by decide +kernel
theorem dX5_sizeIsEnough_1 : decode cX5_sizeIsEnough 1 = .ok (.getfield 38, 3) := by decide +kernel
theorem dX5_sizeIsEnough_4 : decode cX5_sizeIsEnough 4 = .ok (.aload_n 0, 1) := by decide +kernel
theorem dX5_sizeIsEnough_5 : decode cX5_sizeIsEnough 5 = .ok (.getfield 31, 3) := by decide +kernel
theorem dX5_sizeIsEnough_8 : decode cX5_sizeIsEnough 8 = .ok (.iload_n 2, 1) := by decide +kernel
theorem dX5_sizeIsEnough_9 : decode cX5_sizeIsEnough 9 = .ok (.invokevirtual 147, 3) := by decide +kernel
theorem dX5_sizeIsEnough_12 : decode cX5_sizeIsEnough 12 = .ok (.aload_n 0, 1) := by decide +kernel
theorem dX5_sizeIsEnough_13 : decode cX5_sizeIsEnough 13 = .ok (.getfield 38, 3) := by decide +kernel
theorem dX5_sizeIsEnough_16 : decode cX5_sizeIsEnough 16 = .ok (.iload_n 1, 1) := by decide +kernel
theorem dX5_sizeIsEnough_17 : decode cX5_sizeIsEnough 17 = .ok (.invokevirtual 213, 3) := by decide +kernel
theorem dX5_sizeIsEnough_20 : decode cX5_sizeIsEnough 20 = .ok (.ireturn, 1) := by decide +kernel
theorem dX5_isActor_0 : decode cX5_isActor 0 = .ok (.iload_n 0, 1) := by decide +kernel
theorem dX5_isActor_1 : decode cX5_isActor 1 = .ok (.ifCond .lt 13, 3) := by decide +kernel
theorem dX5_isActor_4 : decode cX5_isActor 4 = .ok (.iload_n 0, 1) := by decide +kernel
theorem dX5_isActor_5 : decode cX5_isActor 5 = .ok (.bipush 8, 2) := by decide +kernel
theorem dX5_isActor_7 : decode cX5_isActor 7 = .ok (.if_icmp .ge 7, 3) := by decide +kernel
theorem dX5_isActor_10 : decode cX5_isActor 10 = .ok (.iconst 1, 1) := by decide +kernel
theorem dX5_isActor_11 : decode cX5_isActor 11 = .ok (.goto 4, 3) := by decide +kernel
theorem dX5_isActor_14 : decode cX5_isActor 14 = .ok (.iconst 0, 1) := by decide +kernel
theorem dX5_isActor_15 : decode cX5_isActor 15 = .ok (.ireturn, 1) := by decide +kernel
theorem dX5_isCostumeTime_0 : decode cX5_isCostumeTime 0 = .ok (.iload_n 0, 1) := by decide +kernel
theorem dX5_isCostumeTime_1 : decode cX5_isCostumeTime 1 = .ok (.ifCond .lt 13, 3) := by decide +kernel
theorem dX5_isCostumeTime_4 : decode cX5_isCostumeTime 4 = .ok (.iload_n 0, 1) := by decide +kernel
theorem dX5_isCostumeTime_5 : decode cX5_isCostumeTime 5 = .ok (.bipush 60, 2) := by decide +kernel
theorem dX5_isCostumeTime_7 : decode cX5_isCostumeTime 7 = .ok (.if_icmp .gt 7, 3) := by decide +kernel
theorem dX5_isCostumeTime_10 : decode cX5_isCostumeTime 10 = .ok (.iconst 1, 1) := by decide +kernel
theorem dX5_isCostumeTime_11 : decode cX5_isCostumeTime 11 = .ok (.goto 4, 3) := by decide +kernel
theorem dX5_isCostumeTime_14 : decode cX5_isCostumeTime 14 = .ok (.iconst 0, 1) := by decide +kernel
theorem dX5_isCostumeTime_15 : decode cX5_isCostumeTime 15 = .ok (.ireturn, 1) := by decide +kernel
theorem dX5_lesserSlack_0 : decode cX5_lesserSlack 0 = .ok (.iload_n 0, 1) := by decide +kernel
theorem dX5_lesserSlack_1 : decode cX5_lesserSlack 1 = .ok (.sipush (-1004), 3) := by decide +kernel
theorem dX5_lesserSlack_4 : decode cX5_lesserSlack 4 = .ok (.if_icmp .ne 5, 3) := by decide +kernel
theorem dX5_lesserSlack_7 : decode cX5_lesserSlack 7 = .ok (.iload_n 1, 1) := by decide +kernel
theorem dX5_lesserSlack_8 : decode cX5_lesserSlack 8 = .ok (.ireturn, 1) := by decide +kernel
theorem dX5_lesserSlack_9 : decode cX5_lesserSlack 9 = .ok (.iload_n 1, 1) := by decide +kernel
theorem dX5_lesserSlack_10 : decode cX5_lesserSlack 10 = .ok (.sipush (-1004), 3) := by decide +kernel
theorem dX5_lesserSlack_13 : decode cX5_lesserSlack 13 = .ok (.if_icmp .ne 7, 3) := by decide +kernel
theorem dX5_lesserSlack_16 : decode cX5_lesserSlack 16 = .ok (.iload_n 0, 1) := by decide +kernel
theorem dX5_lesserSlack_17 : decode cX5_lesserSlack 17 = .ok (.goto 8, 3) := by decide +kernel
theorem dX5_lesserSlack_20 : decode cX5_lesserSlack 20 = .ok (.iload_n 0, 1) := by decide +kernel
theorem dX5_lesserSlack_21 : decode cX5_lesserSlack 21 = .ok (.iload_n 1, 1) := by decide +kernel
theorem dX5_lesserSlack_22 : decode cX5_lesserSlack 22 = .ok (.invokestatic 216, 3) := by decide +kernel
theorem dX5_lesserSlack_25 : decode cX5_lesserSlack 25 = .ok (.ireturn, 1) := by decide +kernel
set_option maxRecDepth 20000 in
theorem ggX6_init_X6_empty : GoodIn wsX6_init wsX6_empty := goodIn_r _ [14] (by decide +kernel) (by decide +kernel)
set_option maxRecDepth 20000 in
theorem gX6_init_X6_empty : GoodIn wsX6_init (va_wsS RX6 28 yX6_empty wsX6_empty) := goodIn_app (goodIn_of _ (by decide +kernel)) ggX6_init_X6_empty
set_option maxRecDepth 20000 in
theorem ggX6_init_X6_role : GoodIn wsX6_init wsX6_role := goodIn_r _ [17] (by decide +kernel) (by decide +kernel)
set_option maxRecDepth 20000 in
theorem gX6_init_X6_role : GoodIn wsX6_init (va_wsS RX6 32 yX6_role wsX6_role) := goodIn_app (goodIn_of _ (by decide +kernel)) ggX6_init_X6_role
set_option maxRecDepth 20000 in
theorem ggX6_init_X6_appear : GoodIn wsX6_init wsX6_appear := goodIn_r _ [20] (by decide +kernel) (by decide +kernel)
set_option maxRecDepth 20000 in
theorem gX6_init_X6_appear : GoodIn wsX6_init (va_wsS RX6 36 yX6_appear wsX6_appear) := goodIn_app (goodIn_of _ (by decide +kernel)) ggX6_init_X6_appear
theorem dX6_init_0 : decode cX6_init 0 = .ok (.aload_n 0, 1) := by decide +kernel
theorem dX6_init_1 : decode cX6_init 1 = .ok (.invokespecial 1, 3) := by decide +kernel
theorem dX6_init_4 : decode cX6_init 4 = .ok (.aload_n 0, 1) := by decide +kernel
theorem dX6_init_5 : decode cX6_init 5 = .ok (.bipush 125, 2) := by decide +kernel
theorem dX6_init_7 : decode cX6_init 7 = .ok (.newarray .int, 2) := by decide +kernel
theorem dX6_init_9 : decode cX6_init 9 = .ok (.putfield 7, 3) := by decide +kernel
theorem dX6_init_12 : decode cX6_init 12 = .ok (.aload_n 0, 1) := by decide +kernel
theorem dX6_init_13 : decode cX6_init 13 = .ok (.bipush 125, 2) := by decide +kernel
theorem dX6_init_15 : decode cX6_init 15 = .ok (.newarray .int, 2) := by decide +kernel
theorem dX6_init_17 : decode cX6_init 17 = .ok (.putfield 13, 3) := by decide +kernel
theorem dX6_init_20 : decode cX6_init 20 = .ok (.aload_n 0, 1) := by decide +kernel
theorem dX6_init_21 : decode cX6_init 21 = .ok (.sipush 625, 3) := by decide +kernel
theorem dX6_init_24 : decode cX6_init 24 = .ok (.newarray .int, 2) := by decide +kernel
theorem dX6_init_26 : decode cX6_init 26 = .ok (.putfield 16, 3) := by decide +kernel
theorem dX6_init_29 : decode cX6_init 29 = .ok (.aload_n 0, 1) := by decide +kernel
theorem dX6_init_30 : decode cX6_init 30 = .ok (.sipush 400, 3) := by decide +kernel
theorem dX6_init_33 : decode cX6_init 33 = .ok (.newarray .int, 2) := by decide +kernel
theorem dX6_init_35 : decode cX6_init 35 = .ok (.putfield 19, 3) := by decide +kernel
theorem dX6_init_38 : decode cX6_init 38 = .ok (.aload_n 0, 1) := by decide +kernel
theorem dX6_init_39 : decode cX6_init 39 = .ok (.bipush 8, 2) := by decide +kernel
theorem dX6_init_41 : decode cX6_init 41 = .ok (.newarray .int, 2) := by decide +kernel
theorem dX6_init_43 : decode cX6_init 43 = .ok (.putfield 22, 3) := by decide +kernel
theorem dX6_init_46 : decode cX6_init 46 = .ok (.aload_n 0, 1) := by decide +kernel
theorem dX6_init_47 : decode cX6_init 47 = .ok (.bipush 8, 2) := by decide +kernel
theorem dX6_init_49 : decode cX6_init 49 = .ok (.newarray .int, 2) := by decide +kernel
theorem dX6_init_51 : decode cX6_init 51 = .ok (.putfield 25, 3) := by decide +kernel
theorem dX6_init_54 : decode cX6_init 54 = .ok (.aload_n 0, 1) := by decide +kernel
theorem dX6_init_55 : decode cX6_init 55 = .ok (.getfield 7, 3) := by decide +kernel
theorem dX6_init_58 : decode cX6_init 58 = .ok (.invokestatic 28, 3) := by decide +kernel
theorem dX6_init_61 : decode cX6_init 61 = .ok (.aload_n 0, 1) := by decide +kernel
theorem dX6_init_62 : decode cX6_init 62 = .ok (.getfield 7, 3) := by decide +kernel
theorem dX6_init_65 : decode cX6_init 65 = .ok (.iconst 0, 1) := by decide +kernel
theorem dX6_init_66 : decode cX6_init 66 = .ok (.iconst 3, 1) := by decide +kernel
theorem dX6_init_67 : decode cX6_init 67 = .ok (.iastore, 1) := by decide +kernel
theorem dX6_init_68 : decode cX6_init 68 = .ok (.aload_n 0, 1) := by decide +kernel
theorem dX6_init_69 : decode cX6_init 69 = .ok (.getfield 7, 3) := by decide +kernel
theorem dX6_init_72 : decode cX6_init 72 = .ok (.iconst 1, 1) := by decide +kernel
theorem dX6_init_73 : decode cX6_init 73 = .ok (.bipush 30, 2) := by decide +kernel
theorem dX6_init_75 : decode cX6_init 75 = .ok (.iastore, 1) := by decide +kernel
theorem dX6_init_76 : decode cX6_init 76 = .ok (.aload_n 0, 1) := by decide +kernel
theorem dX6_init_77 : decode cX6_init 77 = .ok (.getfield 7, 3) := by decide +kernel
theorem dX6_init_80 : decode cX6_init 80 = .ok (.iconst 2, 1) := by decide +kernel
theorem dX6_init_81 : decode cX6_init 81 = .ok (.bipush 20, 2) := by decide +kernel
theorem dX6_init_83 : decode cX6_init 83 = .ok (.iastore, 1) := by decide +kernel
theorem dX6_init_84 : decode cX6_init 84 = .ok (.aload_n 0, 1) := by decide +kernel
theorem dX6_init_85 : decode cX6_init 85 = .ok (.getfield 7, 3) := by decide +kernel
theorem dX6_init_88 : decode cX6_init 88 = .ok (.iconst 3, 1) := by decide +kernel
theorem dX6_init_89 : decode cX6_init 89 = .ok (.bipush 40, 2) := by decide +kernel
theorem dX6_init_91 : decode cX6_init 91 = .ok (.iastore, 1) := by decide +kernel
theorem dX6_init_92 : decode cX6_init 92 = .ok (.aload_n 0, 1) := by decide +kernel
theorem dX6_init_93 : decode cX6_init 93 = .ok (.getfield 7, 3) := by decide +kernel
theorem dX6_init_96 : decode cX6_init 96 = .ok (.iconst 0, 1) := by decide +kernel
theorem dX6_init_97 : decode cX6_init 97 = .ok (.iconst 4, 1) := by decide +kernel
theorem dX6_init_98 : decode cX6_init 98 = .ok (.iconst 3, 1) := by decide +kernel
theorem dX6_init_99 : decode cX6_init 99 = .ok (.invokestatic 32, 3) := by decide +kernel
theorem dX6_init_102 : decode cX6_init 102 = .ok (.aload_n 0, 1) := by decide +kernel
theorem dX6_init_103 : decode cX6_init 103 = .ok (.getfield 7, 3) := by decide +kernel
theorem dX6_init_106 : decode cX6_init 106 = .ok (.iconst 0, 1) := by decide +kernel
theorem dX6_init_107 : decode cX6_init 107 = .ok (.iconst 2, 1) := by decide +kernel
theorem dX6_init_108 : decode cX6_init 108 = .ok (.bipush 6, 2) := by decide +kernel
theorem dX6_init_110 : decode cX6_init 110 = .ok (.invokestatic 32, 3) := by decide +kernel
theorem dX6_init_113 : decode cX6_init 113 = .ok (.aload_n 0, 1) := by decide +kernel
theorem dX6_init_114 : decode cX6_init 114 = .ok (.getfield 7, 3) := by decide +kernel
theorem dX6_init_117 : decode cX6_init 117 = .ok (.iconst 1, 1) := by decide +kernel
theorem dX6_init_118 : decode cX6_init 118 = .ok (.iconst 5, 1) := by decide +kernel
theorem dX6_init_119 : decode cX6_init 119 = .ok (.iconst 5, 1) := by decide +kernel
theorem dX6_init_120 : decode cX6_init 120 = .ok (.invokestatic 32, 3) := by decide +kernel
theorem dX6_init_123 : decode cX6_init 123 = .ok (.aload_n 0, 1) := by decide +kernel
theorem dX6_init_124 : decode cX6_init 124 = .ok (.getfield 7, 3) := by decide +kernel
theorem dX6_init_127 : decode cX6_init 127 = .ok (.iconst 0, 1) := by decide +kernel
theorem dX6_init_128 : decode cX6_init 128 = .ok (.iconst 0, 1) := by decide +kernel
theorem dX6_init_129 : decode cX6_init 129 = .ok (.iconst 2, 1) := by decide +kernel
theorem dX6_init_130 : decode cX6_init 130 = .ok (.invokestatic 32, 3) := by decide +kernel
theorem dX6_init_133 : decode cX6_init 133 = .ok (.aload_n 0, 1) := by decide +kernel
theorem dX6_init_134 : decode cX6_init 134 = .ok (.getfield 7, 3) := by decide +kernel
theorem dX6_init_137 : decode cX6_init 137 = .ok (.iconst 1, 1) := by decide +kernel
theorem dX6_init_138 : decode cX6_init 138 = .ok (.iconst 3, 1) := by decide +kernel
theorem dX6_init_139 : decode cX6_init 139 = .ok (.iconst 1, 1) := by decide +kernel
theorem dX6_init_140 : decode cX6_init 140 = .ok (.invokestatic 32, 3) := by decide +kernel
theorem dX6_init_143 : decode cX6_init 143 = .ok (.aload_n 0, 1) := by decide +kernel
theorem dX6_init_144 : decode cX6_init 144 = .ok (.getfield 7, 3) := by decide +kernel
theorem dX6_init_147 : decode cX6_init 147 = .ok (.iconst 0, 1) := by decide +kernel
theorem dX6_init_148 : decode cX6_init 148 = .ok (.iconst 0, 1) := by decide +kernel
theorem dX6_init_149 : decode cX6_init 149 = .ok (.iconst 0, 1) := by decide +kernel
theorem dX6_init_150 : decode cX6_init 150 = .ok (.bipush 12, 2) := by decide +kernel
theorem dX6_init_152 : decode cX6_init 152 = .ok (.invokestatic 36, 3) := by decide +kernel
theorem dX6_init_155 : decode cX6_init 155 = .ok (.aload_n 0, 1) := by decide +kernel
theorem dX6_init_156 : decode cX6_init 156 = .ok (.getfield 7, 3) := by decide +kernel
theorem dX6_init_159 : decode cX6_init 159 = .ok (.iconst 1, 1) := by decide +kernel
theorem dX6_init_160 : decode cX6_init 160 = .ok (.iconst 0, 1) := by decide +kernel
theorem dX6_init_161 : decode cX6_init 161 = .ok (.bipush 18, 2) := by decide +kernel
theorem dX6_init_163 : decode cX6_init 163 = .ok (.bipush 30, 2) := by decide +kernel
theorem dX6_init_165 : decode cX6_init 165 = .ok (.invokestatic 36, 3) := by decide +kernel
theorem dX6_init_168 : decode cX6_init 168 = .ok (.aload_n 0, 1) := by decide +kernel
theorem dX6_init_169 : decode cX6_init 169 = .ok (.getfield 7, 3) := by decide +kernel
theorem dX6_init_172 : decode cX6_init 172 = .ok (.iconst 2, 1) := by decide +kernel
theorem dX6_init_173 : decode cX6_init 173 = .ok (.iconst 0, 1) := by decide +kernel
theorem dX6_init_174 : decode cX6_init 174 = .ok (.iconst 5, 1) := by decide +kernel
theorem dX6_init_175 : decode cX6_init 175 = .ok (.bipush 25, 2) := by decide +kernel
theorem dX6_init_177 : decode cX6_init 177 = .ok (.invokestatic 36, 3) := by decide +kernel
theorem dX6_init_180 : decode cX6_init 180 = .ok (.aload_n 0, 1) := by decide +kernel
theorem dX6_init_181 : decode cX6_init 181 = .ok (.getfield 7, 3) := by decide +kernel
theorem dX6_init_184 : decode cX6_init 184 = .ok (.iconst 3, 1) := by decide +kernel
theorem dX6_init_185 : decode cX6_init 185 = .ok (.iconst 1, 1) := by decide +kernel
theorem dX6_init_186 : decode cX6_init 186 = .ok (.iconst 0, 1) := by decide +kernel
theorem dX6_init_187 : decode cX6_init 187 = .ok (.bipush 9, 2) := by decide +kernel
theorem dX6_init_189 : decode cX6_init 189 = .ok (.invokestatic 36, 3) := by decide +kernel
theorem dX6_init_192 : decode cX6_init 192 = .ok (.aload_n 0, 1) := by decide +kernel
theorem dX6_init_193 : decode cX6_init 193 = .ok (.getfield 7, 3) := by decide +kernel
theorem dX6_init_196 : decode cX6_init 196 = .ok (.iconst 0, 1) := by decide +kernel
theorem dX6_init_197 : decode cX6_init 197 = .ok (.iconst 1, 1) := by decide +kernel
theorem dX6_init_198 : decode cX6_init 198 = .ok (.bipush 10, 2) := by decide +kernel
theorem dX6_init_200 : decode cX6_init 200 = .ok (.bipush 20, 2) := by decide +kernel
theorem dX6_init_202 : decode cX6_init 202 = .ok (.invokestatic 36, 3) := by decide +kernel
theorem dX6_init_205 : decode cX6_init 205 = .ok (.aload_n 0, 1) := by decide +kernel
theorem dX6_init_206 : decode cX6_init 206 = .ok (.getfield 7, 3) := by decide +kernel
theorem dX6_init_209 : decode cX6_init 209 = .ok (.iconst 4, 1) := by decide +kernel
theorem dX6_init_210 : decode cX6_init 210 = .ok (.iconst 1, 1) := by decide +kernel
