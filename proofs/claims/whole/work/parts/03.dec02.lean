theorem dX6_init_211 : decode cX6_init 211 = .ok (.iconst 3, 1) := by decide +kernel
theorem dX6_init_212 : decode cX6_init 212 = .ok (.bipush 20, 2) := by decide +kernel
theorem dX6_init_214 : decode cX6_init 214 = .ok (.invokestatic 36, 3) := by decide +kernel
theorem dX6_init_217 : decode cX6_init 217 = .ok (.aload_n 0, 1) := by decide +kernel
theorem dX6_init_218 : decode cX6_init 218 = .ok (.getfield 7, 3) := by decide +kernel
theorem dX6_init_221 : decode cX6_init 221 = .ok (.iconst 1, 1) := by decide +kernel
theorem dX6_init_222 : decode cX6_init 222 = .ok (.iconst 2, 1) := by decide +kernel
theorem dX6_init_223 : decode cX6_init 223 = .ok (.iconst 2, 1) := by decide +kernel
theorem dX6_init_224 : decode cX6_init 224 = .ok (.bipush 15, 2) := by decide +kernel
theorem dX6_init_226 : decode cX6_init 226 = .ok (.invokestatic 36, 3) := by decide +kernel
theorem dX6_init_229 : decode cX6_init 229 = .ok (.aload_n 0, 1) := by decide +kernel
theorem dX6_init_230 : decode cX6_init 230 = .ok (.getfield 7, 3) := by decide +kernel
theorem dX6_init_233 : decode cX6_init 233 = .ok (.iconst 3, 1) := by decide +kernel
theorem dX6_init_234 : decode cX6_init 234 = .ok (.iconst 2, 1) := by decide +kernel
theorem dX6_init_235 : decode cX6_init 235 = .ok (.bipush 20, 2) := by decide +kernel
theorem dX6_init_237 : decode cX6_init 237 = .ok (.bipush 40, 2) := by decide +kernel
theorem dX6_init_239 : decode cX6_init 239 = .ok (.invokestatic 36, 3) := by decide +kernel
theorem dX6_init_242 : decode cX6_init 242 = .ok (.aload_n 0, 1) := by decide +kernel
theorem dX6_init_243 : decode cX6_init 243 = .ok (.getfield 7, 3) := by decide +kernel
theorem dX6_init_246 : decode cX6_init 246 = .ok (.iconst 2, 1) := by decide +kernel
theorem dX6_init_247 : decode cX6_init 247 = .ok (.iconst 2, 1) := by decide +kernel
theorem dX6_init_248 : decode cX6_init 248 = .ok (.bipush 30, 2) := by decide +kernel
theorem dX6_init_250 : decode cX6_init 250 = .ok (.bipush 40, 2) := by decide +kernel
theorem dX6_init_252 : decode cX6_init 252 = .ok (.invokestatic 36, 3) := by decide +kernel
theorem dX6_init_255 : decode cX6_init 255 = .ok (.return_, 1) := by decide +kernel
theorem dX6_in_0 : decode cX6_in 0 = .ok (.lload_n 0, 1) := by decide +kernel
theorem dX6_in_1 : decode cX6_in 1 = .ok (.lload_n 2, 1) := by decide +kernel
theorem dX6_in_2 : decode cX6_in 2 = .ok (.lcmp, 1) := by decide +kernel
theorem dX6_in_3 : decode cX6_in 3 = .ok (.ifCond .lt 14, 3) := by decide +kernel
theorem dX6_in_6 : decode cX6_in 6 = .ok (.lload_n 0, 1) := by decide +kernel
theorem dX6_in_7 : decode cX6_in 7 = .ok (.lload 4, 2) := by decide +kernel
theorem dX6_in_9 : decode cX6_in 9 = .ok (.lcmp, 1) := by decide +kernel
theorem dX6_in_10 : decode cX6_in 10 = .ok (.ifCond .gt 7, 3) := by decide +kernel
theorem dX6_in_13 : decode cX6_in 13 = .ok (.iconst 1, 1) := by decide +kernel
theorem dX6_in_14 : decode cX6_in 14 = .ok (.goto 4, 3) := by decide +kernel
theorem dX6_in_17 : decode cX6_in 17 = .ok (.iconst 0, 1) := by decide +kernel
theorem dX6_in_18 : decode cX6_in 18 = .ok (.ireturn, 1) := by decide +kernel
theorem dX6_empty_0 : decode cX6_empty 0 = .ok (.iconst 0, 1) := by decide +kernel
theorem dX6_empty_1 : decode cX6_empty 1 = .ok (.istore_n 1, 1) := by decide +kernel
theorem dX6_empty_2 : decode cX6_empty 2 = .ok (.iload_n 1, 1) := by decide +kernel
theorem dX6_empty_3 : decode cX6_empty 3 = .ok (.bipush 125, 2) := by decide +kernel
theorem dX6_empty_5 : decode cX6_empty 5 = .ok (.if_icmp .ge 13, 3) := by decide +kernel
theorem dX6_empty_8 : decode cX6_empty 8 = .ok (.aload_n 0, 1) := by decide +kernel
theorem dX6_empty_9 : decode cX6_empty 9 = .ok (.iload_n 1, 1) := by decide +kernel
theorem dX6_empty_10 : decode cX6_empty 10 = .ok (.iconst 0, 1) := by decide +kernel
theorem dX6_empty_11 : decode cX6_empty 11 = .ok (.iastore, 1) := by decide +kernel
theorem dX6_empty_12 : decode cX6_empty 12 = .ok (.iinc 1 1, 3) := by decide +kernel
theorem dX6_empty_15 : decode cX6_empty 15 = .ok (.goto (-13), 3) := by decide +kernel
theorem dX6_empty_18 : decode cX6_empty 18 = .ok (.iconst 0, 1) := by decide +kernel
theorem dX6_empty_19 : decode cX6_empty 19 = .ok (.istore_n 1, 1) := by decide +kernel
theorem dX6_empty_20 : decode cX6_empty 20 = .ok (.iload_n 1, 1) := by decide +kernel
theorem dX6_empty_21 : decode cX6_empty 21 = .ok (.bipush 8, 2) := by decide +kernel
theorem dX6_empty_23 : decode cX6_empty 23 = .ok (.if_icmp .ge 16, 3) := by decide +kernel
theorem dX6_empty_26 : decode cX6_empty 26 = .ok (.aload_n 0, 1) := by decide +kernel
theorem dX6_empty_27 : decode cX6_empty 27 = .ok (.bipush 36, 2) := by decide +kernel
theorem dX6_empty_29 : decode cX6_empty 29 = .ok (.iload_n 1, 1) := by decide +kernel
theorem dX6_empty_30 : decode cX6_empty 30 = .ok (.iadd, 1) := by decide +kernel
theorem dX6_empty_31 : decode cX6_empty 31 = .ok (.iconst (-1), 1) := by decide +kernel
theorem dX6_empty_32 : decode cX6_empty 32 = .ok (.iastore, 1) := by decide +kernel
theorem dX6_empty_33 : decode cX6_empty 33 = .ok (.iinc 1 1, 3) := by decide +kernel
theorem dX6_empty_36 : decode cX6_empty 36 = .ok (.goto (-16), 3) := by decide +kernel
theorem dX6_empty_39 : decode cX6_empty 39 = .ok (.return_, 1) := by decide +kernel
theorem dX6_role_0 : decode cX6_role 0 = .ok (.aload_n 0, 1) := by decide +kernel
theorem dX6_role_1 : decode cX6_role 1 = .ok (.bipush 12, 2) := by decide +kernel
theorem dX6_role_3 : decode cX6_role 3 = .ok (.aload_n 0, 1) := by decide +kernel
theorem dX6_role_4 : decode cX6_role 4 = .ok (.bipush 11, 2) := by decide +kernel
theorem dX6_role_6 : decode cX6_role 6 = .ok (.iaload, 1) := by decide +kernel
theorem dX6_role_7 : decode cX6_role 7 = .ok (.iadd, 1) := by decide +kernel
theorem dX6_role_8 : decode cX6_role 8 = .ok (.iload_n 1, 1) := by decide +kernel
theorem dX6_role_9 : decode cX6_role 9 = .ok (.iastore, 1) := by decide +kernel
theorem dX6_role_10 : decode cX6_role 10 = .ok (.aload_n 0, 1) := by decide +kernel
theorem dX6_role_11 : decode cX6_role 11 = .ok (.bipush 20, 2) := by decide +kernel
theorem dX6_role_13 : decode cX6_role 13 = .ok (.aload_n 0, 1) := by decide +kernel
theorem dX6_role_14 : decode cX6_role 14 = .ok (.bipush 11, 2) := by decide +kernel
theorem dX6_role_16 : decode cX6_role 16 = .ok (.iaload, 1) := by decide +kernel
theorem dX6_role_17 : decode cX6_role 17 = .ok (.iadd, 1) := by decide +kernel
theorem dX6_role_18 : decode cX6_role 18 = .ok (.iload_n 2, 1) := by decide +kernel
theorem dX6_role_19 : decode cX6_role 19 = .ok (.iastore, 1) := by decide +kernel
theorem dX6_role_20 : decode cX6_role 20 = .ok (.aload_n 0, 1) := by decide +kernel
theorem dX6_role_21 : decode cX6_role 21 = .ok (.bipush 28, 2) := by decide +kernel
theorem dX6_role_23 : decode cX6_role 23 = .ok (.aload_n 0, 1) := by decide +kernel
theorem dX6_role_24 : decode cX6_role 24 = .ok (.bipush 11, 2) := by decide +kernel
theorem dX6_role_26 : decode cX6_role 26 = .ok (.iaload, 1) := by decide +kernel
theorem dX6_role_27 : decode cX6_role 27 = .ok (.iadd, 1) := by decide +kernel
theorem dX6_role_28 : decode cX6_role 28 = .ok (.iload_n 3, 1) := by decide +kernel
theorem dX6_role_29 : decode cX6_role 29 = .ok (.iastore, 1) := by decide +kernel
theorem dX6_role_30 : decode cX6_role 30 = .ok (.aload_n 0, 1) := by decide +kernel
theorem dX6_role_31 : decode cX6_role 31 = .ok (.bipush 11, 2) := by decide +kernel
theorem dX6_role_33 : decode cX6_role 33 = .ok (.dup2, 1) := by decide +kernel
theorem dX6_role_34 : decode cX6_role 34 = .ok (.iaload, 1) := by decide +kernel
theorem dX6_role_35 : decode cX6_role 35 = .ok (.iconst 1, 1) := by decide +kernel
theorem dX6_role_36 : decode cX6_role 36 = .ok (.iadd, 1) := by decide +kernel
theorem dX6_role_37 : decode cX6_role 37 = .ok (.iastore, 1) := by decide +kernel
theorem dX6_role_38 : decode cX6_role 38 = .ok (.return_, 1) := by decide +kernel
theorem dX6_appear_0 : decode cX6_appear 0 = .ok (.bipush 45, 2) := by decide +kernel
theorem dX6_appear_2 : decode cX6_appear 2 = .ok (.iconst 4, 1) := by decide +kernel
theorem dX6_appear_3 : decode cX6_appear 3 = .ok (.aload_n 0, 1) := by decide +kernel
theorem dX6_appear_4 : decode cX6_appear 4 = .ok (.bipush 44, 2) := by decide +kernel
theorem dX6_appear_6 : decode cX6_appear 6 = .ok (.iaload, 1) := by decide +kernel
theorem dX6_appear_7 : decode cX6_appear 7 = .ok (.imul, 1) := by decide +kernel
theorem dX6_appear_8 : decode cX6_appear 8 = .ok (.iadd, 1) := by decide +kernel
theorem dX6_appear_9 : decode cX6_appear 9 = .ok (.istore 5, 2) := by decide +kernel
theorem dX6_appear_11 : decode cX6_appear 11 = .ok (.aload_n 0, 1) := by decide +kernel
theorem dX6_appear_12 : decode cX6_appear 12 = .ok (.iload 5, 2) := by decide +kernel
theorem dX6_appear_14 : decode cX6_appear 14 = .ok (.iload_n 1, 1) := by decide +kernel
theorem dX6_appear_15 : decode cX6_appear 15 = .ok (.iastore, 1) := by decide +kernel
theorem dX6_appear_16 : decode cX6_appear 16 = .ok (.aload_n 0, 1) := by decide +kernel
theorem dX6_appear_17 : decode cX6_appear 17 = .ok (.iload 5, 2) := by decide +kernel
theorem dX6_appear_19 : decode cX6_appear 19 = .ok (.iconst 1, 1) := by decide +kernel
theorem dX6_appear_20 : decode cX6_appear 20 = .ok (.iadd, 1) := by decide +kernel
theorem dX6_appear_21 : decode cX6_appear 21 = .ok (.iload_n 2, 1) := by decide +kernel
theorem dX6_appear_22 : decode cX6_appear 22 = .ok (.iastore, 1) := by decide +kernel
theorem dX6_appear_23 : decode cX6_appear 23 = .ok (.aload_n 0, 1) := by decide +kernel
theorem dX6_appear_24 : decode cX6_appear 24 = .ok (.iload 5, 2) := by decide +kernel
theorem dX6_appear_26 : decode cX6_appear 26 = .ok (.iconst 2, 1) := by decide +kernel
theorem dX6_appear_27 : decode cX6_appear 27 = .ok (.iadd, 1) := by decide +kernel
theorem dX6_appear_28 : decode cX6_appear 28 = .ok (.iload_n 3, 1) := by decide +kernel
theorem dX6_appear_29 : decode cX6_appear 29 = .ok (.iastore, 1) := by decide +kernel
theorem dX6_appear_30 : decode cX6_appear 30 = .ok (.aload_n 0, 1) := by decide +kernel
theorem dX6_appear_31 : decode cX6_appear 31 = .ok (.iload 5, 2) := by decide +kernel
theorem dX6_appear_33 : decode cX6_appear 33 = .ok (.iconst 3, 1) := by decide +kernel
theorem dX6_appear_34 : decode cX6_appear 34 = .ok (.iadd, 1) := by decide +kernel
theorem dX6_appear_35 : decode cX6_appear 35 = .ok (.iload 4, 2) := by decide +kernel
theorem dX6_appear_37 : decode cX6_appear 37 = .ok (.iastore, 1) := by decide +kernel
theorem dX6_appear_38 : decode cX6_appear 38 = .ok (.aload_n 0, 1) := by decide +kernel
theorem dX6_appear_39 : decode cX6_appear 39 = .ok (.bipush 44, 2) := by decide +kernel
theorem dX6_appear_41 : decode cX6_appear 41 = .ok (.dup2, 1) := by decide +kernel
theorem dX6_appear_42 : decode cX6_appear 42 = .ok (.iaload, 1) := by decide +kernel
theorem dX6_appear_43 : decode cX6_appear 43 = .ok (.iconst 1, 1) := by decide +kernel
theorem dX6_appear_44 : decode cX6_appear 44 = .ok (.iadd, 1) := by decide +kernel
theorem dX6_appear_45 : decode cX6_appear 45 = .ok (.iastore, 1) := by decide +kernel
theorem dX6_appear_46 : decode cX6_appear 46 = .ok (.return_, 1) := by decide +kernel
set_option maxRecDepth 20000 in
theorem ggX6_append_X6_in : GoodIn wsX6_append wsX6_in := goodIn_r _ [8] (by decide +kernel) (by decide +kernel)
set_option maxRecDepth 20000 in
theorem gX6_append_X6_in : GoodIn wsX6_append (va_wsS RX6 44 yX6_in wsX6_in) := goodIn_app (goodIn_of _ (by decide +kernel)) ggX6_append_X6_in
theorem dX6_append_0 : decode cX6_append 0 = .ok (.iload_n 1, 1) := by decide +kernel
theorem dX6_append_1 : decode cX6_append 1 = .ok (.i2l, 1) := by decide +kernel
theorem dX6_append_2 : decode cX6_append 2 = .ok (.ldc2_w 40, 3) := by decide +kernel
theorem dX6_append_5 : decode cX6_append 5 = .ok (.ldc2_w 42, 3) := by decide +kernel
theorem dX6_append_8 : decode cX6_append 8 = .ok (.invokestatic 44, 3) := by decide +kernel
theorem dX6_append_11 : decode cX6_append 11 = .ok (.ifCond .ne 7, 3) := by decide +kernel
theorem dX6_append_14 : decode cX6_append 14 = .ok (.sipush (-1001), 3) := by decide +kernel
theorem dX6_append_17 : decode cX6_append 17 = .ok (.ireturn, 1) := by decide +kernel
theorem dX6_append_18 : decode cX6_append 18 = .ok (.aload_n 0, 1) := by decide +kernel
theorem dX6_append_19 : decode cX6_append 19 = .ok (.getfield 48, 3) := by decide +kernel
theorem dX6_append_22 : decode cX6_append 22 = .ok (.sipush 400, 3) := by decide +kernel
theorem dX6_append_25 : decode cX6_append 25 = .ok (.if_icmp .ne 7, 3) := by decide +kernel
theorem dX6_append_28 : decode cX6_append 28 = .ok (.sipush (-1003), 3) := by decide +kernel
theorem dX6_append_31 : decode cX6_append 31 = .ok (.ireturn, 1) := by decide +kernel
theorem dX6_append_32 : decode cX6_append 32 = .ok (.aload_n 0, 1) := by decide +kernel
theorem dX6_append_33 : decode cX6_append 33 = .ok (.getfield 19, 3) := by decide +kernel
theorem dX6_append_36 : decode cX6_append 36 = .ok (.aload_n 0, 1) := by decide +kernel
theorem dX6_append_37 : decode cX6_append 37 = .ok (.getfield 48, 3) := by decide +kernel
theorem dX6_append_40 : decode cX6_append 40 = .ok (.iload_n 1, 1) := by decide +kernel
theorem dX6_append_41 : decode cX6_append 41 = .ok (.iastore, 1) := by decide +kernel
theorem dX6_append_42 : decode cX6_append 42 = .ok (.aload_n 0, 1) := by decide +kernel
theorem dX6_append_43 : decode cX6_append 43 = .ok (.dup, 1) := by decide +kernel
theorem dX6_append_44 : decode cX6_append 44 = .ok (.getfield 48, 3) := by decide +kernel
theorem dX6_append_47 : decode cX6_append 47 = .ok (.iconst 1, 1) := by decide +kernel
theorem dX6_append_48 : decode cX6_append 48 = .ok (.iadd, 1) := by decide +kernel
theorem dX6_append_49 : decode cX6_append 49 = .ok (.putfield 48, 3) := by decide +kernel
theorem dX6_append_52 : decode cX6_append 52 = .ok (.aload_n 0, 1) := by decide +kernel
theorem dX6_append_53 : decode cX6_append 53 = .ok (.getfield 48, 3) := by decide +kernel
theorem dX6_append_56 : decode cX6_append 56 = .ok (.ireturn, 1) := by decide +kernel
theorem dX6_clearText_0 : decode cX6_clearText 0 = .ok (.aload_n 0, 1) := by decide +kernel
theorem dX6_clearText_1 : decode cX6_clearText 1 = .ok (.getfield 48, 3) := by decide +kernel
theorem dX6_clearText_4 : decode cX6_clearText 4 = .ok (.istore_n 1, 1) := by decide +kernel
theorem dX6_clearText_5 : decode cX6_clearText 5 = .ok (.aload_n 0, 1) := by decide +kernel
theorem dX6_clearText_6 : decode cX6_clearText 6 = .ok (.iconst 0, 1) := by decide +kernel
theorem dX6_clearText_7 : decode cX6_clearText 7 = .ok (.putfield 48, 3) := by decide +kernel
theorem dX6_clearText_10 : decode cX6_clearText 10 = .ok (.iload_n 1, 1) := by decide +kernel
theorem dX6_clearText_11 : decode cX6_clearText 11 = .ok (.ireturn, 1) := by decide +kernel
theorem dX6_here_0 : decode cX6_here 0 = .ok (.aload_n 0, 1) := by decide +kernel
theorem dX6_here_1 : decode cX6_here 1 = .ok (.getfield 52, 3) := by decide +kernel
theorem dX6_here_4 : decode cX6_here 4 = .ok (.aload_n 0, 1) := by decide +kernel
theorem dX6_here_5 : decode cX6_here 5 = .ok (.getfield 48, 3) := by decide +kernel
theorem dX6_here_8 : decode cX6_here 8 = .ok (.if_icmp .ge 15, 3) := by decide +kernel
theorem dX6_here_11 : decode cX6_here 11 = .ok (.aload_n 0, 1) := by decide +kernel
theorem dX6_here_12 : decode cX6_here 12 = .ok (.getfield 19, 3) := by decide +kernel
theorem dX6_here_15 : decode cX6_here 15 = .ok (.aload_n 0, 1) := by decide +kernel
theorem dX6_here_16 : decode cX6_here 16 = .ok (.getfield 52, 3) := by decide +kernel
theorem dX6_here_19 : decode cX6_here 19 = .ok (.iaload, 1) := by decide +kernel
theorem dX6_here_20 : decode cX6_here 20 = .ok (.goto 4, 3) := by decide +kernel
theorem dX6_here_23 : decode cX6_here 23 = .ok (.iconst 0, 1) := by decide +kernel
theorem dX6_here_24 : decode cX6_here 24 = .ok (.ireturn, 1) := by decide +kernel
set_option maxRecDepth 20000 in
theorem ggX6_word_X6_in : GoodIn wsX6_word wsX6_in := goodIn_r _ [9] (by decide +kernel) (by decide +kernel)
set_option maxRecDepth 20000 in
theorem gX6_word_X6_in : GoodIn wsX6_word (va_wsS RX6 44 yX6_in wsX6_in) := goodIn_app (goodIn_of _ (by decide +kernel)) ggX6_word_X6_in
theorem dX6_word_0 : decode cX6_word 0 = .ok (.iconst 0, 1) := by decide +kernel
theorem dX6_word_1 : decode cX6_word 1 = .ok (.istore_n 1, 1) := by decide +kernel
theorem dX6_word_2 : decode cX6_word 2 = .ok (.iconst 0, 1) := by decide +kernel
theorem dX6_word_3 : decode cX6_word 3 = .ok (.istore_n 2, 1) := by decide +kernel
theorem dX6_word_4 : decode cX6_word 4 = .ok (.iconst 1, 1) := by decide +kernel
theorem dX6_word_5 : decode cX6_word 5 = .ok (.istore_n 3, 1) := by decide +kernel
theorem dX6_word_6 : decode cX6_word 6 = .ok (.aload_n 0, 1) := by decide +kernel
theorem dX6_word_7 : decode cX6_word 7 = .ok (.getfield 52, 3) := by decide +kernel
theorem dX6_word_10 : decode cX6_word 10 = .ok (.aload_n 0, 1) := by decide +kernel
theorem dX6_word_11 : decode cX6_word 11 = .ok (.getfield 48, 3) := by decide +kernel
theorem dX6_word_14 : decode cX6_word 14 = .ok (.if_icmp .ge 112, 3) := by decide +kernel
theorem dX6_word_17 : decode cX6_word 17 = .ok (.aload_n 0, 1) := by decide +kernel
theorem dX6_word_18 : decode cX6_word 18 = .ok (.getfield 19, 3) := by decide +kernel
theorem dX6_word_21 : decode cX6_word 21 = .ok (.aload_n 0, 1) := by decide +kernel
theorem dX6_word_22 : decode cX6_word 22 = .ok (.getfield 52, 3) := by decide +kernel
theorem dX6_word_25 : decode cX6_word 25 = .ok (.iaload, 1) := by decide +kernel
theorem dX6_word_26 : decode cX6_word 26 = .ok (.bipush 32, 2) := by decide +kernel
theorem dX6_word_28 : decode cX6_word 28 = .ok (.if_icmp .eq 98, 3) := by decide +kernel
theorem dX6_word_31 : decode cX6_word 31 = .ok (.aload_n 0, 1) := by decide +kernel
theorem dX6_word_32 : decode cX6_word 32 = .ok (.getfield 19, 3) := by decide +kernel
theorem dX6_word_35 : decode cX6_word 35 = .ok (.aload_n 0, 1) := by decide +kernel
theorem dX6_word_36 : decode cX6_word 36 = .ok (.getfield 52, 3) := by decide +kernel
theorem dX6_word_39 : decode cX6_word 39 = .ok (.iaload, 1) := by decide +kernel
theorem dX6_word_40 : decode cX6_word 40 = .ok (.bipush 59, 2) := by decide +kernel
theorem dX6_word_42 : decode cX6_word 42 = .ok (.if_icmp .eq 84, 3) := by decide +kernel
theorem dX6_word_45 : decode cX6_word 45 = .ok (.iload_n 3, 1) := by decide +kernel
theorem dX6_word_46 : decode cX6_word 46 = .ok (.ifCond .eq 34, 3) := by decide +kernel
theorem dX6_word_49 : decode cX6_word 49 = .ok (.aload_n 0, 1) := by decide +kernel
theorem dX6_word_50 : decode cX6_word 50 = .ok (.getfield 19, 3) := by decide +kernel
theorem dX6_word_53 : decode cX6_word 53 = .ok (.aload_n 0, 1) := by decide +kernel
theorem dX6_word_54 : decode cX6_word 54 = .ok (.getfield 52, 3) := by decide +kernel
theorem dX6_word_57 : decode cX6_word 57 = .ok (.iaload, 1) := by decide +kernel
theorem dX6_word_58 : decode cX6_word 58 = .ok (.i2l, 1) := by decide +kernel
theorem dX6_word_59 : decode cX6_word 59 = .ok (.ldc2_w 55, 3) := by decide +kernel
theorem dX6_word_62 : decode cX6_word 62 = .ok (.ldc2_w 57, 3) := by decide +kernel
theorem dX6_word_65 : decode cX6_word 65 = .ok (.invokestatic 44, 3) := by decide +kernel
theorem dX6_word_68 : decode cX6_word 68 = .ok (.ifCond .eq 12, 3) := by decide +kernel
theorem dX6_word_71 : decode cX6_word 71 = .ok (.iload_n 2, 1) := by decide +kernel
theorem dX6_word_72 : decode cX6_word 72 = .ok (.iconst 5, 1) := by decide +kernel
theorem dX6_word_73 : decode cX6_word 73 = .ok (.if_icmp .ge 7, 3) := by decide +kernel
theorem dX6_word_76 : decode cX6_word 76 = .ok (.iconst 1, 1) := by decide +kernel
theorem dX6_word_77 : decode cX6_word 77 = .ok (.goto 4, 3) := by decide +kernel
theorem dX6_word_80 : decode cX6_word 80 = .ok (.iconst 0, 1) := by decide +kernel
theorem dX6_word_81 : decode cX6_word 81 = .ok (.istore_n 3, 1) := by decide +kernel
theorem dX6_word_82 : decode cX6_word 82 = .ok (.iload_n 3, 1) := by decide +kernel
theorem dX6_word_83 : decode cX6_word 83 = .ok (.ifCond .eq 25, 3) := by decide +kernel
theorem dX6_word_86 : decode cX6_word 86 = .ok (.bipush 32, 2) := by decide +kernel
theorem dX6_word_88 : decode cX6_word 88 = .ok (.iload_n 1, 1) := by decide +kernel
theorem dX6_word_89 : decode cX6_word 89 = .ok (.imul, 1) := by decide +kernel
theorem dX6_word_90 : decode cX6_word 90 = .ok (.aload_n 0, 1) := by decide +kernel
theorem dX6_word_91 : decode cX6_word 91 = .ok (.getfield 19, 3) := by decide +kernel
theorem dX6_word_94 : decode cX6_word 94 = .ok (.aload_n 0, 1) := by decide +kernel
theorem dX6_word_95 : decode cX6_word 95 = .ok (.getfield 52, 3) := by decide +kernel
theorem dX6_word_98 : decode cX6_word 98 = .ok (.iaload, 1) := by decide +kernel
theorem dX6_word_99 : decode cX6_word 99 = .ok (.iadd, 1) := by decide +kernel
theorem dX6_word_100 : decode cX6_word 100 = .ok (.bipush 97, 2) := by decide +kernel
theorem dX6_word_102 : decode cX6_word 102 = .ok (.isub, 1) := by decide +kernel
theorem dX6_word_103 : decode cX6_word 103 = .ok (.iconst 1, 1) := by decide +kernel
theorem dX6_word_104 : decode cX6_word 104 = .ok (.iadd, 1) := by decide +kernel
theorem dX6_word_105 : decode cX6_word 105 = .ok (.goto 4, 3) := by decide +kernel
theorem dX6_word_108 : decode cX6_word 108 = .ok (.iload_n 1, 1) := by decide +kernel
theorem dX6_word_109 : decode cX6_word 109 = .ok (.istore_n 1, 1) := by decide +kernel
theorem dX6_word_110 : decode cX6_word 110 = .ok (.iinc 2 1, 3) := by decide +kernel
theorem dX6_word_113 : decode cX6_word 113 = .ok (.aload_n 0, 1) := by decide +kernel
theorem dX6_word_114 : decode cX6_word 114 = .ok (.dup, 1) := by decide +kernel
theorem dX6_word_115 : decode cX6_word 115 = .ok (.getfield 52, 3) := by decide +kernel
theorem dX6_word_118 : decode cX6_word 118 = .ok (.iconst 1, 1) := by decide +kernel
theorem dX6_word_119 : decode cX6_word 119 = .ok (.iadd, 1) := by decide +kernel
theorem dX6_word_120 : decode cX6_word 120 = .ok (.putfield 52, 3) := by decide +kernel
theorem dX6_word_123 : decode cX6_word 123 = .ok (.goto (-117), 3) := by decide +kernel
theorem dX6_word_126 : decode cX6_word 126 = .ok (.iload_n 3, 1) := by decide +kernel
theorem dX6_word_127 : decode cX6_word 127 = .ok (.ifCond .eq 11, 3) := by decide +kernel
theorem dX6_word_130 : decode cX6_word 130 = .ok (.iload_n 2, 1) := by decide +kernel
theorem dX6_word_131 : decode cX6_word 131 = .ok (.ifCond .le 7, 3) := by decide +kernel
theorem dX6_word_134 : decode cX6_word 134 = .ok (.iload_n 1, 1) := by decide +kernel
theorem dX6_word_135 : decode cX6_word 135 = .ok (.goto 4, 3) := by decide +kernel
theorem dX6_word_138 : decode cX6_word 138 = .ok (.iconst (-1), 1) := by decide +kernel
theorem dX6_word_139 : decode cX6_word 139 = .ok (.ireturn, 1) := by decide +kernel
theorem dX6_named_0 : decode cX6_named 0 = .ok (.iload_n 0, 1) := by decide +kernel
theorem dX6_named_1 : decode cX6_named 1 = .ok (.bipush 96, 2) := by decide +kernel
theorem dX6_named_3 : decode cX6_named 3 = .ok (.isub, 1) := by decide +kernel
theorem dX6_named_4 : decode cX6_named 4 = .ok (.bipush 32, 2) := by decide +kernel
theorem dX6_named_6 : decode cX6_named 6 = .ok (.imul, 1) := by decide +kernel
theorem dX6_named_7 : decode cX6_named 7 = .ok (.iload_n 1, 1) := by decide +kernel
theorem dX6_named_8 : decode cX6_named 8 = .ok (.iadd, 1) := by decide +kernel
theorem dX6_named_9 : decode cX6_named 9 = .ok (.bipush 96, 2) := by decide +kernel
theorem dX6_named_11 : decode cX6_named 11 = .ok (.isub, 1) := by decide +kernel
theorem dX6_named_12 : decode cX6_named 12 = .ok (.bipush 32, 2) := by decide +kernel
theorem dX6_named_14 : decode cX6_named 14 = .ok (.imul, 1) := by decide +kernel
theorem dX6_named_15 : decode cX6_named 15 = .ok (.iload_n 2, 1) := by decide +kernel
theorem dX6_named_16 : decode cX6_named 16 = .ok (.iadd, 1) := by decide +kernel
theorem dX6_named_17 : decode cX6_named 17 = .ok (.bipush 96, 2) := by decide +kernel
theorem dX6_named_19 : decode cX6_named 19 = .ok (.isub, 1) := by decide +kernel
theorem dX6_named_20 : decode cX6_named 20 = .ok (.istore 5, 2) := by decide +kernel
theorem dX6_named_22 : decode cX6_named 22 = .ok (.iload_n 3, 1) := by decide +kernel
theorem dX6_named_23 : decode cX6_named 23 = .ok (.ifCond .ne 8, 3) := by decide +kernel
theorem dX6_named_26 : decode cX6_named 26 = .ok (.iload 5, 2) := by decide +kernel
theorem dX6_named_28 : decode cX6_named 28 = .ok (.goto 13, 3) := by decide +kernel
theorem dX6_named_31 : decode cX6_named 31 = .ok (.bipush 32, 2) := by decide +kernel
theorem dX6_named_33 : decode cX6_named 33 = .ok (.iload 5, 2) := by decide +kernel
theorem dX6_named_35 : decode cX6_named 35 = .ok (.imul, 1) := by decide +kernel
theorem dX6_named_36 : decode cX6_named 36 = .ok (.iload_n 3, 1) := by decide +kernel
theorem dX6_named_37 : decode cX6_named 37 = .ok (.iadd, 1) := by decide +kernel
theorem dX6_named_38 : decode cX6_named 38 = .ok (.bipush 96, 2) := by decide +kernel
theorem dX6_named_40 : decode cX6_named 40 = .ok (.isub, 1) := by decide +kernel
theorem dX6_named_41 : decode cX6_named 41 = .ok (.istore 5, 2) := by decide +kernel
theorem dX6_named_43 : decode cX6_named 43 = .ok (.iload 4, 2) := by decide +kernel
theorem dX6_named_45 : decode cX6_named 45 = .ok (.ifCond .ne 8, 3) := by decide +kernel
theorem dX6_named_48 : decode cX6_named 48 = .ok (.iload 5, 2) := by decide +kernel
theorem dX6_named_50 : decode cX6_named 50 = .ok (.goto 14, 3) := by decide +kernel
theorem dX6_named_53 : decode cX6_named 53 = .ok (.bipush 32, 2) := by decide +kernel
theorem dX6_named_55 : decode cX6_named 55 = .ok (.iload 5, 2) := by decide +kernel
theorem dX6_named_57 : decode cX6_named 57 = .ok (.imul, 1) := by decide +kernel
theorem dX6_named_58 : decode cX6_named 58 = .ok (.iload 4, 2) := by decide +kernel
theorem dX6_named_60 : decode cX6_named 60 = .ok (.iadd, 1) := by decide +kernel
theorem dX6_named_61 : decode cX6_named 61 = .ok (.bipush 96, 2) := by decide +kernel
theorem dX6_named_63 : decode cX6_named 63 = .ok (.isub, 1) := by decide +kernel
theorem dX6_named_64 : decode cX6_named 64 = .ok (.ireturn, 1) := by decide +kernel
set_option maxRecDepth 20000 in
theorem ggX6_wants_X6_here : GoodIn wsX6_wants wsX6_here := goodIn_r _ [7, 2, 8, 9, 10, 11, 12, 13, 14, 15, 16, 17, 18, 19] (by decide +kernel) (by decide +kernel)
set_option maxRecDepth 20000 in
theorem gX6_wants_X6_here : GoodIn wsX6_wants (wsV RX6 62 RX6 yX6_here wsX6_here) := goodIn_app (goodIn_of _ (by decide +kernel)) ggX6_wants_X6_here
theorem dX6_wants_0 : decode cX6_wants 0 = .ok (.aload_n 0, 1) := by decide +kernel
theorem dX6_wants_1 : decode cX6_wants 1 = .ok (.getfield 59, 3) := by decide +kernel
theorem dX6_wants_4 : decode cX6_wants 4 = .ok (.ifCond .ne 30, 3) := by decide +kernel
theorem dX6_wants_7 : decode cX6_wants 7 = .ok (.aload_n 0, 1) := by decide +kernel
theorem dX6_wants_8 : decode cX6_wants 8 = .ok (.aload_n 0, 1) := by decide +kernel
theorem dX6_wants_9 : decode cX6_wants 9 = .ok (.invokevirtual 62, 3) := by decide +kernel
theorem dX6_wants_12 : decode cX6_wants 12 = .ok (.iload_n 1, 1) := by decide +kernel
theorem dX6_wants_13 : decode cX6_wants 13 = .ok (.if_icmp .ne 7, 3) := by decide +kernel
theorem dX6_wants_16 : decode cX6_wants 16 = .ok (.iconst 0, 1) := by decide +kernel
theorem dX6_wants_17 : decode cX6_wants 17 = .ok (.goto 4, 3) := by decide +kernel
theorem dX6_wants_20 : decode cX6_wants 20 = .ok (.iconst 2, 1) := by decide +kernel
theorem dX6_wants_21 : decode cX6_wants 21 = .ok (.putfield 59, 3) := by decide +kernel
theorem dX6_wants_24 : decode cX6_wants 24 = .ok (.aload_n 0, 1) := by decide +kernel
theorem dX6_wants_25 : decode cX6_wants 25 = .ok (.dup, 1) := by decide +kernel
theorem dX6_wants_26 : decode cX6_wants 26 = .ok (.getfield 52, 3) := by decide +kernel
theorem dX6_wants_29 : decode cX6_wants 29 = .ok (.iconst 1, 1) := by decide +kernel
theorem dX6_wants_30 : decode cX6_wants 30 = .ok (.iadd, 1) := by decide +kernel
theorem dX6_wants_31 : decode cX6_wants 31 = .ok (.putfield 52, 3) := by decide +kernel
theorem dX6_wants_34 : decode cX6_wants 34 = .ok (.return_, 1) := by decide +kernel
set_option maxRecDepth 20000 in
theorem ggX6_number_X6_wants : GoodIn wsX6_number wsX6_wants := goodIn_r _ [12, 1, 2, 13, 14, 15, 11, 16, 3, 4, 20, 21, 22, 23, 24, 25, 26, 27, 28, 29] (by decide +kernel) (by decide +kernel)
set_option maxRecDepth 20000 in
theorem gX6_number_X6_wants : GoodIn wsX6_number (wsV RX6 66 RX6 yX6_wants wsX6_wants) := goodIn_app (goodIn_of _ (by decide +kernel)) ggX6_number_X6_wants
set_option maxRecDepth 20000 in
theorem ggX6_number_X6_in : GoodIn wsX6_number wsX6_in := goodIn_r _ [19] (by decide +kernel) (by decide +kernel)
set_option maxRecDepth 20000 in
theorem gX6_number_X6_in : GoodIn wsX6_number (va_wsS RX6 44 yX6_in wsX6_in) := goodIn_app (goodIn_of _ (by decide +kernel)) ggX6_number_X6_in
theorem dX6_number_0 : decode cX6_number 0 = .ok (.aload_n 0, 1) := by decide +kernel
theorem dX6_number_1 : decode cX6_number 1 = .ok (.bipush 32, 2) := by decide +kernel
theorem dX6_number_3 : decode cX6_number 3 = .ok (.invokevirtual 66, 3) := by decide +kernel
theorem dX6_number_6 : decode cX6_number 6 = .ok (.iconst 0, 1) := by decide +kernel
theorem dX6_number_7 : decode cX6_number 7 = .ok (.istore_n 1, 1) := by decide +kernel
theorem dX6_number_8 : decode cX6_number 8 = .ok (.iconst 0, 1) := by decide +kernel
theorem dX6_number_9 : decode cX6_number 9 = .ok (.istore_n 2, 1) := by decide +kernel
theorem dX6_number_10 : decode cX6_number 10 = .ok (.aload_n 0, 1) := by decide +kernel
theorem dX6_number_11 : decode cX6_number 11 = .ok (.getfield 59, 3) := by decide +kernel
theorem dX6_number_14 : decode cX6_number 14 = .ok (.ifCond .ne 113, 3) := by decide +kernel
theorem dX6_number_17 : decode cX6_number 17 = .ok (.aload_n 0, 1) := by decide +kernel
theorem dX6_number_18 : decode cX6_number 18 = .ok (.getfield 52, 3) := by decide +kernel
theorem dX6_number_21 : decode cX6_number 21 = .ok (.aload_n 0, 1) := by decide +kernel
theorem dX6_number_22 : decode cX6_number 22 = .ok (.getfield 48, 3) := by decide +kernel
theorem dX6_number_25 : decode cX6_number 25 = .ok (.if_icmp .ge 102, 3) := by decide +kernel
theorem dX6_number_28 : decode cX6_number 28 = .ok (.aload_n 0, 1) := by decide +kernel
theorem dX6_number_29 : decode cX6_number 29 = .ok (.getfield 19, 3) := by decide +kernel
theorem dX6_number_32 : decode cX6_number 32 = .ok (.aload_n 0, 1) := by decide +kernel
theorem dX6_number_33 : decode cX6_number 33 = .ok (.getfield 52, 3) := by decide +kernel
theorem dX6_number_36 : decode cX6_number 36 = .ok (.iaload, 1) := by decide +kernel
theorem dX6_number_37 : decode cX6_number 37 = .ok (.bipush 32, 2) := by decide +kernel
theorem dX6_number_39 : decode cX6_number 39 = .ok (.if_icmp .eq 88, 3) := by decide +kernel
theorem dX6_number_42 : decode cX6_number 42 = .ok (.aload_n 0, 1) := by decide +kernel
theorem dX6_number_43 : decode cX6_number 43 = .ok (.getfield 19, 3) := by decide +kernel
theorem dX6_number_46 : decode cX6_number 46 = .ok (.aload_n 0, 1) := by decide +kernel
theorem dX6_number_47 : decode cX6_number 47 = .ok (.getfield 52, 3) := by decide +kernel
theorem dX6_number_50 : decode cX6_number 50 = .ok (.iaload, 1) := by decide +kernel
theorem dX6_number_51 : decode cX6_number 51 = .ok (.bipush 59, 2) := by decide +kernel
theorem dX6_number_53 : decode cX6_number 53 = .ok (.if_icmp .eq 74, 3) := by decide +kernel
theorem dX6_number_56 : decode cX6_number 56 = .ok (.aload_n 0, 1) := by decide +kernel
theorem dX6_number_57 : decode cX6_number 57 = .ok (.getfield 19, 3) := by decide +kernel
theorem dX6_number_60 : decode cX6_number 60 = .ok (.aload_n 0, 1) := by decide +kernel
theorem dX6_number_61 : decode cX6_number 61 = .ok (.getfield 52, 3) := by decide +kernel
theorem dX6_number_64 : decode cX6_number 64 = .ok (.iaload, 1) := by decide +kernel
theorem dX6_number_65 : decode cX6_number 65 = .ok (.i2l, 1) := by decide +kernel
theorem dX6_number_66 : decode cX6_number 66 = .ok (.ldc2_w 70, 3) := by decide +kernel
theorem dX6_number_69 : decode cX6_number 69 = .ok (.ldc2_w 72, 3) := by decide +kernel
theorem dX6_number_72 : decode cX6_number 72 = .ok (.invokestatic 44, 3) := by decide +kernel
theorem dX6_number_75 : decode cX6_number 75 = .ok (.ifCond .eq 9, 3) := by decide +kernel
theorem dX6_number_78 : decode cX6_number 78 = .ok (.iload_n 2, 1) := by decide +kernel
theorem dX6_number_79 : decode cX6_number 79 = .ok (.iconst 1, 1) := by decide +kernel
theorem dX6_number_80 : decode cX6_number 80 = .ok (.iadd, 1) := by decide +kernel
theorem dX6_number_81 : decode cX6_number 81 = .ok (.goto 5, 3) := by decide +kernel
theorem dX6_number_84 : decode cX6_number 84 = .ok (.bipush 9, 2) := by decide +kernel
theorem dX6_number_86 : decode cX6_number 86 = .ok (.istore_n 2, 1) := by decide +kernel
theorem dX6_number_87 : decode cX6_number 87 = .ok (.iload_n 2, 1) := by decide +kernel
theorem dX6_number_88 : decode cX6_number 88 = .ok (.iconst 4, 1) := by decide +kernel
theorem dX6_number_89 : decode cX6_number 89 = .ok (.if_icmp .ge 23, 3) := by decide +kernel
theorem dX6_number_92 : decode cX6_number 92 = .ok (.bipush 10, 2) := by decide +kernel
theorem dX6_number_94 : decode cX6_number 94 = .ok (.iload_n 1, 1) := by decide +kernel
theorem dX6_number_95 : decode cX6_number 95 = .ok (.imul, 1) := by decide +kernel
theorem dX6_number_96 : decode cX6_number 96 = .ok (.aload_n 0, 1) := by decide +kernel
theorem dX6_number_97 : decode cX6_number 97 = .ok (.getfield 19, 3) := by decide +kernel
theorem dX6_number_100 : decode cX6_number 100 = .ok (.aload_n 0, 1) := by decide +kernel
theorem dX6_number_101 : decode cX6_number 101 = .ok (.getfield 52, 3) := by decide +kernel
theorem dX6_number_104 : decode cX6_number 104 = .ok (.iaload, 1) := by decide +kernel
theorem dX6_number_105 : decode cX6_number 105 = .ok (.iadd, 1) := by decide +kernel
theorem dX6_number_106 : decode cX6_number 106 = .ok (.bipush 48, 2) := by decide +kernel
theorem dX6_number_108 : decode cX6_number 108 = .ok (.isub, 1) := by decide +kernel
theorem dX6_number_109 : decode cX6_number 109 = .ok (.goto 4, 3) := by decide +kernel
theorem dX6_number_112 : decode cX6_number 112 = .ok (.iload_n 1, 1) := by decide +kernel
theorem dX6_number_113 : decode cX6_number 113 = .ok (.istore_n 1, 1) := by decide +kernel
theorem dX6_number_114 : decode cX6_number 114 = .ok (.aload_n 0, 1) := by decide +kernel
theorem dX6_number_115 : decode cX6_number 115 = .ok (.dup, 1) := by decide +kernel
theorem dX6_number_116 : decode cX6_number 116 = .ok (.getfield 52, 3) := by decide +kernel
theorem dX6_number_119 : decode cX6_number 119 = .ok (.iconst 1, 1) := by decide +kernel
theorem dX6_number_120 : decode cX6_number 120 = .ok (.iadd, 1) := by decide +kernel
theorem dX6_number_121 : decode cX6_number 121 = .ok (.putfield 52, 3) := by decide +kernel
theorem dX6_number_124 : decode cX6_number 124 = .ok (.goto (-114), 3) := by decide +kernel
theorem dX6_number_127 : decode cX6_number 127 = .ok (.aload_n 0, 1) := by decide +kernel
theorem dX6_number_128 : decode cX6_number 128 = .ok (.getfield 59, 3) := by decide +kernel
theorem dX6_number_131 : decode cX6_number 131 = .ok (.ifCond .ne 20, 3) := by decide +kernel
theorem dX6_number_134 : decode cX6_number 134 = .ok (.iload_n 2, 1) := by decide +kernel
theorem dX6_number_135 : decode cX6_number 135 = .ok (.i2l, 1) := by decide +kernel
theorem dX6_number_136 : decode cX6_number 136 = .ok (.lconst 1, 1) := by decide +kernel
theorem dX6_number_137 : decode cX6_number 137 = .ok (.ldc2_w 74, 3) := by decide +kernel
theorem dX6_number_140 : decode cX6_number 140 = .ok (.invokestatic 44, 3) := by decide +kernel
theorem dX6_number_143 : decode cX6_number 143 = .ok (.ifCond .ne 8, 3) := by decide +kernel
theorem dX6_number_146 : decode cX6_number 146 = .ok (.aload_n 0, 1) := by decide +kernel
theorem dX6_number_147 : decode cX6_number 147 = .ok (.iconst 2, 1) := by decide +kernel
theorem dX6_number_148 : decode cX6_number 148 = .ok (.putfield 59, 3) := by decide +kernel
theorem dX6_number_151 : decode cX6_number 151 = .ok (.iload_n 1, 1) := by decide +kernel
theorem dX6_number_152 : decode cX6_number 152 = .ok (.ireturn, 1) := by decide +kernel
set_option maxRecDepth 20000 in
theorem ggX6_voice_X6_wants : GoodIn wsX6_voice wsX6_wants := goodIn_r _ [6, 1, 7, 8, 9, 10, 5, 11, 12, 13, 26, 27, 28, 29, 30, 31, 32, 33, 34, 35] (by decide +kernel) (by decide +kernel)
set_option maxRecDepth 20000 in
theorem gX6_voice_X6_wants : GoodIn wsX6_voice (wsV RX6 66 RX6 yX6_wants wsX6_wants) := goodIn_app (goodIn_of _ (by decide +kernel)) ggX6_voice_X6_wants
set_option maxRecDepth 20000 in
theorem ggX6_voice_X6_word : GoodIn wsX6_voice wsX6_word := goodIn_r _ [17, 7, 12, 13, 18, 19, 20, 21, 5, 22, 26, 27, 28, 29, 30, 31, 32, 33, 34, 35] (by decide +kernel) (by decide +kernel)
set_option maxRecDepth 20000 in
theorem gX6_voice_X6_word : GoodIn wsX6_voice (wsV RX6 76 RX6 yX6_word wsX6_word) := goodIn_app (goodIn_of _ (by decide +kernel)) ggX6_voice_X6_word
set_option maxRecDepth 20000 in
theorem ggX6_voice_X6_named : GoodIn wsX6_voice wsX6_named := goodIn_r _ [25] (by decide +kernel) (by decide +kernel)
set_option maxRecDepth 20000 in
theorem gX6_voice_X6_named : GoodIn wsX6_voice (va_wsS RX6 79 yX6_named wsX6_named) := goodIn_app (goodIn_of _ (by decide +kernel)) ggX6_voice_X6_named
theorem dX6_voice_0 : decode cX6_voice 0 = .ok (.aload_n 0, 1) := by decide +kernel
theorem dX6_voice_1 : decode cX6_voice 1 = .ok (.bipush 32, 2) := by decide +kernel
theorem dX6_voice_3 : decode cX6_voice 3 = .ok (.invokevirtual 66, 3) := by decide +kernel
theorem dX6_voice_6 : decode cX6_voice 6 = .ok (.aload_n 0, 1) := by decide +kernel
theorem dX6_voice_7 : decode cX6_voice 7 = .ok (.getfield 59, 3) := by decide +kernel
theorem dX6_voice_10 : decode cX6_voice 10 = .ok (.ifCond .eq 5, 3) := by decide +kernel
theorem dX6_voice_13 : decode cX6_voice 13 = .ok (.iconst 0, 1) := by decide +kernel
theorem dX6_voice_14 : decode cX6_voice 14 = .ok (.ireturn, 1) := by decide +kernel
theorem dX6_voice_15 : decode cX6_voice 15 = .ok (.aload_n 0, 1) := by decide +kernel
theorem dX6_voice_16 : decode cX6_voice 16 = .ok (.invokevirtual 76, 3) := by decide +kernel
theorem dX6_voice_19 : decode cX6_voice 19 = .ok (.istore_n 1, 1) := by decide +kernel
theorem dX6_voice_20 : decode cX6_voice 20 = .ok (.iload_n 1, 1) := by decide +kernel
theorem dX6_voice_21 : decode cX6_voice 21 = .ok (.bipush 108, 2) := by decide +kernel
theorem dX6_voice_23 : decode cX6_voice 23 = .ok (.bipush 111, 2) := by decide +kernel
theorem dX6_voice_25 : decode cX6_voice 25 = .ok (.bipush 119, 2) := by decide +kernel
theorem dX6_voice_27 : decode cX6_voice 27 = .ok (.iconst 0, 1) := by decide +kernel
theorem dX6_voice_28 : decode cX6_voice 28 = .ok (.iconst 0, 1) := by decide +kernel
theorem dX6_voice_29 : decode cX6_voice 29 = .ok (.invokestatic 79, 3) := by decide +kernel
theorem dX6_voice_32 : decode cX6_voice 32 = .ok (.if_icmp .ne 7, 3) := by decide +kernel
theorem dX6_voice_35 : decode cX6_voice 35 = .ok (.iconst 0, 1) := by decide +kernel
theorem dX6_voice_36 : decode cX6_voice 36 = .ok (.goto 45, 3) := by decide +kernel
theorem dX6_voice_39 : decode cX6_voice 39 = .ok (.iload_n 1, 1) := by decide +kernel
theorem dX6_voice_40 : decode cX6_voice 40 = .ok (.bipush 104, 2) := by decide +kernel
theorem dX6_voice_42 : decode cX6_voice 42 = .ok (.bipush 105, 2) := by decide +kernel
theorem dX6_voice_44 : decode cX6_voice 44 = .ok (.bipush 103, 2) := by decide +kernel
theorem dX6_voice_46 : decode cX6_voice 46 = .ok (.bipush 104, 2) := by decide +kernel
theorem dX6_voice_48 : decode cX6_voice 48 = .ok (.iconst 0, 1) := by decide +kernel
theorem dX6_voice_49 : decode cX6_voice 49 = .ok (.invokestatic 79, 3) := by decide +kernel
theorem dX6_voice_52 : decode cX6_voice 52 = .ok (.if_icmp .ne 7, 3) := by decide +kernel
theorem dX6_voice_55 : decode cX6_voice 55 = .ok (.iconst 1, 1) := by decide +kernel
theorem dX6_voice_56 : decode cX6_voice 56 = .ok (.goto 25, 3) := by decide +kernel
theorem dX6_voice_59 : decode cX6_voice 59 = .ok (.iload_n 1, 1) := by decide +kernel
theorem dX6_voice_60 : decode cX6_voice 60 = .ok (.bipush 99, 2) := by decide +kernel
theorem dX6_voice_62 : decode cX6_voice 62 = .ok (.bipush 104, 2) := by decide +kernel
theorem dX6_voice_64 : decode cX6_voice 64 = .ok (.bipush 105, 2) := by decide +kernel
theorem dX6_voice_66 : decode cX6_voice 66 = .ok (.bipush 108, 2) := by decide +kernel
theorem dX6_voice_68 : decode cX6_voice 68 = .ok (.bipush 100, 2) := by decide +kernel
theorem dX6_voice_70 : decode cX6_voice 70 = .ok (.invokestatic 79, 3) := by decide +kernel
theorem dX6_voice_73 : decode cX6_voice 73 = .ok (.if_icmp .ne 7, 3) := by decide +kernel
theorem dX6_voice_76 : decode cX6_voice 76 = .ok (.iconst 2, 1) := by decide +kernel
theorem dX6_voice_77 : decode cX6_voice 77 = .ok (.goto 4, 3) := by decide +kernel
theorem dX6_voice_80 : decode cX6_voice 80 = .ok (.iconst (-1), 1) := by decide +kernel
theorem dX6_voice_81 : decode cX6_voice 81 = .ok (.istore_n 2, 1) := by decide +kernel
theorem dX6_voice_82 : decode cX6_voice 82 = .ok (.aload_n 0, 1) := by decide +kernel
theorem dX6_voice_83 : decode cX6_voice 83 = .ok (.iload_n 2, 1) := by decide +kernel
theorem dX6_voice_84 : decode cX6_voice 84 = .ok (.iconst (-1), 1) := by decide +kernel
theorem dX6_voice_85 : decode cX6_voice 85 = .ok (.if_icmp .ne 7, 3) := by decide +kernel
theorem dX6_voice_88 : decode cX6_voice 88 = .ok (.iconst 1, 1) := by decide +kernel
theorem dX6_voice_89 : decode cX6_voice 89 = .ok (.goto 4, 3) := by decide +kernel
theorem dX6_voice_92 : decode cX6_voice 92 = .ok (.iconst 0, 1) := by decide +kernel
theorem dX6_voice_93 : decode cX6_voice 93 = .ok (.putfield 59, 3) := by decide +kernel
theorem dX6_voice_96 : decode cX6_voice 96 = .ok (.iload_n 2, 1) := by decide +kernel
theorem dX6_voice_97 : decode cX6_voice 97 = .ok (.ireturn, 1) := by decide +kernel
theorem dX6_checked_0 : decode cX6_checked 0 = .ok (.aload_n 0, 1) := by decide +kernel
theorem dX6_checked_1 : decode cX6_checked 1 = .ok (.getfield 59, 3) := by decide +kernel
theorem dX6_checked_4 : decode cX6_checked 4 = .ok (.ifCond .ne 24, 3) := by decide +kernel
theorem dX6_checked_7 : decode cX6_checked 7 = .ok (.aload_n 0, 1) := by decide +kernel
theorem dX6_checked_8 : decode cX6_checked 8 = .ok (.iload_n 1, 1) := by decide +kernel
theorem dX6_checked_9 : decode cX6_checked 9 = .ok (.ifCond .ne 7, 3) := by decide +kernel
theorem dX6_checked_12 : decode cX6_checked 12 = .ok (.iconst 3, 1) := by decide +kernel
theorem dX6_checked_13 : decode cX6_checked 13 = .ok (.goto 12, 3) := by decide +kernel
theorem dX6_checked_16 : decode cX6_checked 16 = .ok (.iload_n 2, 1) := by decide +kernel
theorem dX6_checked_17 : decode cX6_checked 17 = .ok (.ifCond .ne 7, 3) := by decide +kernel
theorem dX6_checked_20 : decode cX6_checked 20 = .ok (.iconst 4, 1) := by decide +kernel
theorem dX6_checked_21 : decode cX6_checked 21 = .ok (.goto 4, 3) := by decide +kernel
theorem dX6_checked_24 : decode cX6_checked 24 = .ok (.iconst 0, 1) := by decide +kernel
theorem dX6_checked_25 : decode cX6_checked 25 = .ok (.putfield 59, 3) := by decide +kernel
theorem dX6_checked_28 : decode cX6_checked 28 = .ok (.return_, 1) := by decide +kernel
set_option maxRecDepth 20000 in
theorem ggX6_statement_X6_word : GoodIn wsX6_statement wsX6_word := goodIn_r _ [8, 9, 10, 11, 12, 13, 14, 15, 7, 16, 49, 50, 51, 52, 53, 54, 55, 56, 57, 58] (by decide +kernel) (by decide +kernel)
set_option maxRecDepth 20000 in
theorem gX6_statement_X6_word : GoodIn wsX6_statement (wsV RX6 76 RX6 yX6_word wsX6_word) := goodIn_app (goodIn_of _ (by decide +kernel)) ggX6_statement_X6_word
set_option maxRecDepth 20000 in
theorem ggX6_statement_X6_named : GoodIn wsX6_statement wsX6_named := goodIn_r _ [19] (by decide +kernel) (by decide +kernel)
set_option maxRecDepth 20000 in
theorem gX6_statement_X6_named : GoodIn wsX6_statement (va_wsS RX6 79 yX6_named wsX6_named) := goodIn_app (goodIn_of _ (by decide +kernel)) ggX6_statement_X6_named
set_option maxRecDepth 20000 in
theorem ggX6_statement_X6_number : GoodIn wsX6_statement wsX6_number := goodIn_r _ [23, 3, 9, 10, 11, 24, 25, 26, 27, 28, 29, 7, 30, 31, 32, 33, 34, 14, 15, 16, 49, 50, 51, 52, 53, 54, 55, 56, 57, 58] (by decide +kernel) (by decide +kernel)
set_option maxRecDepth 20000 in
theorem gX6_statement_X6_number : GoodIn wsX6_statement (wsV RX6 83 RX6 yX6_number wsX6_number) := goodIn_app (goodIn_of _ (by decide +kernel)) ggX6_statement_X6_number
set_option maxRecDepth 20000 in
theorem ggX6_statement_X6_wants : GoodIn wsX6_statement wsX6_wants := goodIn_r _ [30, 3, 9, 31, 32, 33, 7, 34, 10, 11, 49, 50, 51, 52, 53, 54, 55, 56, 57, 58] (by decide +kernel) (by decide +kernel)
set_option maxRecDepth 20000 in
theorem gX6_statement_X6_wants : GoodIn wsX6_statement (wsV RX6 66 RX6 yX6_wants wsX6_wants) := goodIn_app (goodIn_of _ (by decide +kernel)) ggX6_statement_X6_wants
set_option maxRecDepth 20000 in
theorem ggX6_statement_X6_in : GoodIn wsX6_statement wsX6_in := goodIn_r _ [16] (by decide +kernel) (by decide +kernel)
set_option maxRecDepth 20000 in
theorem gX6_statement_X6_in : GoodIn wsX6_statement (va_wsS RX6 44 yX6_in wsX6_in) := goodIn_app (goodIn_of _ (by decide +kernel)) ggX6_statement_X6_in
set_option maxRecDepth 20000 in
theorem ggX6_statement_X6_checked : GoodIn wsX6_statement wsX6_checked := goodIn_r _ [38, 3, 49, 50, 51, 52, 53, 54, 55, 56, 57, 58] (by decide +kernel) (by decide +kernel)
set_option maxRecDepth 20000 in
theorem gX6_statement_X6_checked : GoodIn wsX6_statement (wsV RX6 88 RX6 yX6_checked wsX6_checked) := goodIn_app (goodIn_of _ (by decide +kernel)) ggX6_statement_X6_checked
set_option maxRecDepth 20000 in
theorem ggX6_statement_X6_voice : GoodIn wsX6_statement wsX6_voice := goodIn_r _ [42, 3, 27, 28, 29, 7, 30, 9, 31, 32, 33, 34, 10, 11, 4, 5, 6, 8, 12, 13, 14, 15, 16, 17, 18, 19, 49, 50, 51, 52, 53, 54, 55, 56, 57, 58] (by decide +kernel) (by decide +kernel)
set_option maxRecDepth 20000 in
theorem gX6_statement_X6_voice : GoodIn wsX6_statement (wsV RX6 92 RX6 yX6_voice wsX6_voice) := goodIn_app (goodIn_of _ (by decide +kernel)) ggX6_statement_X6_voice
set_option maxRecDepth 20000 in
theorem ggX6_statement_X6_role : GoodIn wsX6_statement wsX6_role := goodIn_r _ [45] (by decide +kernel) (by decide +kernel)
set_option maxRecDepth 20000 in
theorem gX6_statement_X6_role : GoodIn wsX6_statement (va_wsS RX6 32 yX6_role wsX6_role) := goodIn_app (goodIn_of _ (by decide +kernel)) ggX6_statement_X6_role
set_option maxRecDepth 20000 in
theorem ggX6_statement_X6_appear : GoodIn wsX6_statement wsX6_appear := goodIn_r _ [48] (by decide +kernel) (by decide +kernel)
set_option maxRecDepth 20000 in
theorem gX6_statement_X6_appear : GoodIn wsX6_statement (va_wsS RX6 36 yX6_appear wsX6_appear) := goodIn_app (goodIn_of _ (by decide +kernel)) ggX6_statement_X6_appear
theorem dX6_statement_0 : decode cX6_statement 0 = .ok (.aload_n 0, 1) := by decide +kernel
theorem dX6_statement_1 : decode cX6_statement 1 = .ok (.invokevirtual 76, 3) := by decide +kernel
theorem dX6_statement_4 : decode cX6_statement 4 = .ok (.istore_n 1, 1) := by decide +kernel
theorem dX6_statement_5 : decode cX6_statement 5 = .ok (.iload_n 1, 1) := by decide +kernel
theorem dX6_statement_6 : decode cX6_statement 6 = .ok (.bipush 115, 2) := by decide +kernel
theorem dX6_statement_8 : decode cX6_statement 8 = .ok (.bipush 99, 2) := by decide +kernel
theorem dX6_statement_10 : decode cX6_statement 10 = .ok (.bipush 101, 2) := by decide +kernel
theorem dX6_statement_12 : decode cX6_statement 12 = .ok (.bipush 110, 2) := by decide +kernel
theorem dX6_statement_14 : decode cX6_statement 14 = .ok (.bipush 101, 2) := by decide +kernel
theorem dX6_statement_16 : decode cX6_statement 16 = .ok (.invokestatic 79, 3) := by decide +kernel
theorem dX6_statement_19 : decode cX6_statement 19 = .ok (.if_icmp .ne 77, 3) := by decide +kernel
theorem dX6_statement_22 : decode cX6_statement 22 = .ok (.aload_n 0, 1) := by decide +kernel
theorem dX6_statement_23 : decode cX6_statement 23 = .ok (.invokevirtual 83, 3) := by decide +kernel
theorem dX6_statement_26 : decode cX6_statement 26 = .ok (.istore_n 2, 1) := by decide +kernel
theorem dX6_statement_27 : decode cX6_statement 27 = .ok (.aload_n 0, 1) := by decide +kernel
theorem dX6_statement_28 : decode cX6_statement 28 = .ok (.bipush 59, 2) := by decide +kernel
theorem dX6_statement_30 : decode cX6_statement 30 = .ok (.invokevirtual 66, 3) := by decide +kernel
theorem dX6_statement_33 : decode cX6_statement 33 = .ok (.aload_n 0, 1) := by decide +kernel
theorem dX6_statement_34 : decode cX6_statement 34 = .ok (.iload_n 2, 1) := by decide +kernel
theorem dX6_statement_35 : decode cX6_statement 35 = .ok (.i2l, 1) := by decide +kernel
theorem dX6_statement_36 : decode cX6_statement 36 = .ok (.lconst 1, 1) := by decide +kernel
theorem dX6_statement_37 : decode cX6_statement 37 = .ok (.ldc2_w 86, 3) := by decide +kernel
theorem dX6_statement_40 : decode cX6_statement 40 = .ok (.invokestatic 44, 3) := by decide +kernel
theorem dX6_statement_43 : decode cX6_statement 43 = .ok (.aload_n 0, 1) := by decide +kernel
theorem dX6_statement_44 : decode cX6_statement 44 = .ok (.getfield 13, 3) := by decide +kernel
theorem dX6_statement_47 : decode cX6_statement 47 = .ok (.iconst 0, 1) := by decide +kernel
theorem dX6_statement_48 : decode cX6_statement 48 = .ok (.iaload, 1) := by decide +kernel
theorem dX6_statement_49 : decode cX6_statement 49 = .ok (.bipush 10, 2) := by decide +kernel
theorem dX6_statement_51 : decode cX6_statement 51 = .ok (.if_icmp .ge 7, 3) := by decide +kernel
theorem dX6_statement_54 : decode cX6_statement 54 = .ok (.iconst 1, 1) := by decide +kernel
theorem dX6_statement_55 : decode cX6_statement 55 = .ok (.goto 4, 3) := by decide +kernel
theorem dX6_statement_58 : decode cX6_statement 58 = .ok (.iconst 0, 1) := by decide +kernel
theorem dX6_statement_59 : decode cX6_statement 59 = .ok (.invokevirtual 88, 3) := by decide +kernel
theorem dX6_statement_62 : decode cX6_statement 62 = .ok (.aload_n 0, 1) := by decide +kernel
theorem dX6_statement_63 : decode cX6_statement 63 = .ok (.getfield 59, 3) := by decide +kernel
theorem dX6_statement_66 : decode cX6_statement 66 = .ok (.ifCond .ne 27, 3) := by decide +kernel
theorem dX6_statement_69 : decode cX6_statement 69 = .ok (.aload_n 0, 1) := by decide +kernel
theorem dX6_statement_70 : decode cX6_statement 70 = .ok (.getfield 13, 3) := by decide +kernel
theorem dX6_statement_73 : decode cX6_statement 73 = .ok (.iconst 1, 1) := by decide +kernel
theorem dX6_statement_74 : decode cX6_statement 74 = .ok (.aload_n 0, 1) := by decide +kernel
theorem dX6_statement_75 : decode cX6_statement 75 = .ok (.getfield 13, 3) := by decide +kernel
theorem dX6_statement_78 : decode cX6_statement 78 = .ok (.iconst 0, 1) := by decide +kernel
theorem dX6_statement_79 : decode cX6_statement 79 = .ok (.iaload, 1) := by decide +kernel
theorem dX6_statement_80 : decode cX6_statement 80 = .ok (.iadd, 1) := by decide +kernel
theorem dX6_statement_81 : decode cX6_statement 81 = .ok (.iload_n 2, 1) := by decide +kernel
theorem dX6_statement_82 : decode cX6_statement 82 = .ok (.iastore, 1) := by decide +kernel
theorem dX6_statement_83 : decode cX6_statement 83 = .ok (.aload_n 0, 1) := by decide +kernel
theorem dX6_statement_84 : decode cX6_statement 84 = .ok (.getfield 13, 3) := by decide +kernel
theorem dX6_statement_87 : decode cX6_statement 87 = .ok (.iconst 0, 1) := by decide +kernel
theorem dX6_statement_88 : decode cX6_statement 88 = .ok (.dup2, 1) := by decide +kernel
theorem dX6_statement_89 : decode cX6_statement 89 = .ok (.iaload, 1) := by decide +kernel
theorem dX6_statement_90 : decode cX6_statement 90 = .ok (.iconst 1, 1) := by decide +kernel
theorem dX6_statement_91 : decode cX6_statement 91 = .ok (.iadd, 1) := by decide +kernel
theorem dX6_statement_92 : decode cX6_statement 92 = .ok (.iastore, 1) := by decide +kernel
theorem dX6_statement_93 : decode cX6_statement 93 = .ok (.goto 251, 3) := by decide +kernel
theorem dX6_statement_96 : decode cX6_statement 96 = .ok (.iload_n 1, 1) := by decide +kernel
theorem dX6_statement_97 : decode cX6_statement 97 = .ok (.bipush 114, 2) := by decide +kernel
theorem dX6_statement_99 : decode cX6_statement 99 = .ok (.bipush 111, 2) := by decide +kernel
theorem dX6_statement_101 : decode cX6_statement 101 = .ok (.bipush 108, 2) := by decide +kernel
theorem dX6_statement_103 : decode cX6_statement 103 = .ok (.bipush 101, 2) := by decide +kernel
theorem dX6_statement_105 : decode cX6_statement 105 = .ok (.iconst 0, 1) := by decide +kernel
theorem dX6_statement_106 : decode cX6_statement 106 = .ok (.invokestatic 79, 3) := by decide +kernel
theorem dX6_statement_109 : decode cX6_statement 109 = .ok (.if_icmp .ne 85, 3) := by decide +kernel
theorem dX6_statement_112 : decode cX6_statement 112 = .ok (.aload_n 0, 1) := by decide +kernel
theorem dX6_statement_113 : decode cX6_statement 113 = .ok (.invokevirtual 92, 3) := by decide +kernel
theorem dX6_statement_116 : decode cX6_statement 116 = .ok (.istore_n 2, 1) := by decide +kernel
theorem dX6_statement_117 : decode cX6_statement 117 = .ok (.aload_n 0, 1) := by decide +kernel
theorem dX6_statement_118 : decode cX6_statement 118 = .ok (.invokevirtual 83, 3) := by decide +kernel
theorem dX6_statement_121 : decode cX6_statement 121 = .ok (.istore_n 3, 1) := by decide +kernel
theorem dX6_statement_122 : decode cX6_statement 122 = .ok (.aload_n 0, 1) := by decide +kernel
theorem dX6_statement_123 : decode cX6_statement 123 = .ok (.invokevirtual 83, 3) := by decide +kernel
theorem dX6_statement_126 : decode cX6_statement 126 = .ok (.istore 4, 2) := by decide +kernel
theorem dX6_statement_128 : decode cX6_statement 128 = .ok (.aload_n 0, 1) := by decide +kernel
theorem dX6_statement_129 : decode cX6_statement 129 = .ok (.bipush 59, 2) := by decide +kernel
theorem dX6_statement_131 : decode cX6_statement 131 = .ok (.invokevirtual 66, 3) := by decide +kernel
theorem dX6_statement_134 : decode cX6_statement 134 = .ok (.aload_n 0, 1) := by decide +kernel
theorem dX6_statement_135 : decode cX6_statement 135 = .ok (.iload_n 3, 1) := by decide +kernel
theorem dX6_statement_136 : decode cX6_statement 136 = .ok (.bipush 60, 2) := by decide +kernel
theorem dX6_statement_138 : decode cX6_statement 138 = .ok (.if_icmp .gt 14, 3) := by decide +kernel
theorem dX6_statement_141 : decode cX6_statement 141 = .ok (.iload 4, 2) := by decide +kernel
theorem dX6_statement_143 : decode cX6_statement 143 = .ok (.bipush 60, 2) := by decide +kernel
theorem dX6_statement_145 : decode cX6_statement 145 = .ok (.if_icmp .gt 7, 3) := by decide +kernel
theorem dX6_statement_148 : decode cX6_statement 148 = .ok (.iconst 1, 1) := by decide +kernel
theorem dX6_statement_149 : decode cX6_statement 149 = .ok (.goto 4, 3) := by decide +kernel
theorem dX6_statement_152 : decode cX6_statement 152 = .ok (.iconst 0, 1) := by decide +kernel
theorem dX6_statement_153 : decode cX6_statement 153 = .ok (.aload_n 0, 1) := by decide +kernel
theorem dX6_statement_154 : decode cX6_statement 154 = .ok (.getfield 13, 3) := by decide +kernel
theorem dX6_statement_157 : decode cX6_statement 157 = .ok (.bipush 11, 2) := by decide +kernel
theorem dX6_statement_159 : decode cX6_statement 159 = .ok (.iaload, 1) := by decide +kernel
theorem dX6_statement_160 : decode cX6_statement 160 = .ok (.bipush 8, 2) := by decide +kernel
theorem dX6_statement_162 : decode cX6_statement 162 = .ok (.if_icmp .ge 7, 3) := by decide +kernel
theorem dX6_statement_165 : decode cX6_statement 165 = .ok (.iconst 1, 1) := by decide +kernel
theorem dX6_statement_166 : decode cX6_statement 166 = .ok (.goto 4, 3) := by decide +kernel
theorem dX6_statement_169 : decode cX6_statement 169 = .ok (.iconst 0, 1) := by decide +kernel
theorem dX6_statement_170 : decode cX6_statement 170 = .ok (.invokevirtual 88, 3) := by decide +kernel
theorem dX6_statement_173 : decode cX6_statement 173 = .ok (.aload_n 0, 1) := by decide +kernel
theorem dX6_statement_174 : decode cX6_statement 174 = .ok (.getfield 59, 3) := by decide +kernel
theorem dX6_statement_177 : decode cX6_statement 177 = .ok (.ifCond .ne 14, 3) := by decide +kernel
theorem dX6_statement_180 : decode cX6_statement 180 = .ok (.aload_n 0, 1) := by decide +kernel
theorem dX6_statement_181 : decode cX6_statement 181 = .ok (.getfield 13, 3) := by decide +kernel
theorem dX6_statement_184 : decode cX6_statement 184 = .ok (.iload_n 2, 1) := by decide +kernel
theorem dX6_statement_185 : decode cX6_statement 185 = .ok (.iload_n 3, 1) := by decide +kernel
theorem dX6_statement_186 : decode cX6_statement 186 = .ok (.iload 4, 2) := by decide +kernel
theorem dX6_statement_188 : decode cX6_statement 188 = .ok (.invokestatic 32, 3) := by decide +kernel
theorem dX6_statement_191 : decode cX6_statement 191 = .ok (.goto 153, 3) := by decide +kernel
theorem dX6_statement_194 : decode cX6_statement 194 = .ok (.iload_n 1, 1) := by decide +kernel
theorem dX6_statement_195 : decode cX6_statement 195 = .ok (.bipush 101, 2) := by decide +kernel
theorem dX6_statement_197 : decode cX6_statement 197 = .ok (.bipush 110, 2) := by decide +kernel
theorem dX6_statement_199 : decode cX6_statement 199 = .ok (.bipush 116, 2) := by decide +kernel
theorem dX6_statement_201 : decode cX6_statement 201 = .ok (.bipush 101, 2) := by decide +kernel
theorem dX6_statement_203 : decode cX6_statement 203 = .ok (.bipush 114, 2) := by decide +kernel
theorem dX6_statement_205 : decode cX6_statement 205 = .ok (.invokestatic 79, 3) := by decide +kernel
theorem dX6_statement_208 : decode cX6_statement 208 = .ok (.if_icmp .ne 131, 3) := by decide +kernel
theorem dX6_statement_211 : decode cX6_statement 211 = .ok (.aload_n 0, 1) := by decide +kernel
theorem dX6_statement_212 : decode cX6_statement 212 = .ok (.invokevirtual 83, 3) := by decide +kernel
theorem dX6_statement_215 : decode cX6_statement 215 = .ok (.istore_n 2, 1) := by decide +kernel
theorem dX6_statement_216 : decode cX6_statement 216 = .ok (.aload_n 0, 1) := by decide +kernel
theorem dX6_statement_217 : decode cX6_statement 217 = .ok (.invokevirtual 83, 3) := by decide +kernel
theorem dX6_statement_220 : decode cX6_statement 220 = .ok (.istore_n 3, 1) := by decide +kernel
theorem dX6_statement_221 : decode cX6_statement 221 = .ok (.aload_n 0, 1) := by decide +kernel
theorem dX6_statement_222 : decode cX6_statement 222 = .ok (.invokevirtual 83, 3) := by decide +kernel
theorem dX6_statement_225 : decode cX6_statement 225 = .ok (.istore 4, 2) := by decide +kernel
theorem dX6_statement_227 : decode cX6_statement 227 = .ok (.aload_n 0, 1) := by decide +kernel
theorem dX6_statement_228 : decode cX6_statement 228 = .ok (.invokevirtual 83, 3) := by decide +kernel
theorem dX6_statement_231 : decode cX6_statement 231 = .ok (.istore 5, 2) := by decide +kernel
theorem dX6_statement_233 : decode cX6_statement 233 = .ok (.aload_n 0, 1) := by decide +kernel
theorem dX6_statement_234 : decode cX6_statement 234 = .ok (.bipush 59, 2) := by decide +kernel
theorem dX6_statement_236 : decode cX6_statement 236 = .ok (.invokevirtual 66, 3) := by decide +kernel
theorem dX6_statement_239 : decode cX6_statement 239 = .ok (.aload_n 0, 1) := by decide +kernel
theorem dX6_statement_240 : decode cX6_statement 240 = .ok (.iload_n 2, 1) := by decide +kernel
theorem dX6_statement_241 : decode cX6_statement 241 = .ok (.aload_n 0, 1) := by decide +kernel
theorem dX6_statement_242 : decode cX6_statement 242 = .ok (.getfield 13, 3) := by decide +kernel
theorem dX6_statement_245 : decode cX6_statement 245 = .ok (.bipush 11, 2) := by decide +kernel
theorem dX6_statement_247 : decode cX6_statement 247 = .ok (.iaload, 1) := by decide +kernel
theorem dX6_statement_248 : decode cX6_statement 248 = .ok (.if_icmp .ge 47, 3) := by decide +kernel
theorem dX6_statement_251 : decode cX6_statement 251 = .ok (.iload_n 3, 1) := by decide +kernel
theorem dX6_statement_252 : decode cX6_statement 252 = .ok (.aload_n 0, 1) := by decide +kernel
theorem dX6_statement_253 : decode cX6_statement 253 = .ok (.getfield 13, 3) := by decide +kernel
theorem dX6_statement_256 : decode cX6_statement 256 = .ok (.iconst 0, 1) := by decide +kernel
theorem dX6_statement_257 : decode cX6_statement 257 = .ok (.iaload, 1) := by decide +kernel
theorem dX6_statement_258 : decode cX6_statement 258 = .ok (.if_icmp .ge 37, 3) := by decide +kernel
theorem dX6_statement_261 : decode cX6_statement 261 = .ok (.iload 4, 2) := by decide +kernel
theorem dX6_statement_263 : decode cX6_statement 263 = .ok (.iload 5, 2) := by decide +kernel
theorem dX6_statement_265 : decode cX6_statement 265 = .ok (.if_icmp .ge 30, 3) := by decide +kernel
theorem dX6_statement_268 : decode cX6_statement 268 = .ok (.iload 5, 2) := by decide +kernel
theorem dX6_statement_270 : decode cX6_statement 270 = .ok (.aload_n 0, 1) := by decide +kernel
theorem dX6_statement_271 : decode cX6_statement 271 = .ok (.getfield 13, 3) := by decide +kernel
theorem dX6_statement_274 : decode cX6_statement 274 = .ok (.iconst 1, 1) := by decide +kernel
theorem dX6_statement_275 : decode cX6_statement 275 = .ok (.iload_n 3, 1) := by decide +kernel
theorem dX6_statement_276 : decode cX6_statement 276 = .ok (.bipush 10, 2) := by decide +kernel
theorem dX6_statement_278 : decode cX6_statement 278 = .ok (.if_icmp .ge 7, 3) := by decide +kernel
theorem dX6_statement_281 : decode cX6_statement 281 = .ok (.iload_n 3, 1) := by decide +kernel
theorem dX6_statement_282 : decode cX6_statement 282 = .ok (.goto 4, 3) := by decide +kernel
theorem dX6_statement_285 : decode cX6_statement 285 = .ok (.iconst 0, 1) := by decide +kernel
theorem dX6_statement_286 : decode cX6_statement 286 = .ok (.iadd, 1) := by decide +kernel
theorem dX6_statement_287 : decode cX6_statement 287 = .ok (.iaload, 1) := by decide +kernel
theorem dX6_statement_288 : decode cX6_statement 288 = .ok (.if_icmp .gt 7, 3) := by decide +kernel
theorem dX6_statement_291 : decode cX6_statement 291 = .ok (.iconst 1, 1) := by decide +kernel
theorem dX6_statement_292 : decode cX6_statement 292 = .ok (.goto 4, 3) := by decide +kernel
theorem dX6_statement_295 : decode cX6_statement 295 = .ok (.iconst 0, 1) := by decide +kernel
theorem dX6_statement_296 : decode cX6_statement 296 = .ok (.aload_n 0, 1) := by decide +kernel
theorem dX6_statement_297 : decode cX6_statement 297 = .ok (.getfield 13, 3) := by decide +kernel
theorem dX6_statement_300 : decode cX6_statement 300 = .ok (.bipush 44, 2) := by decide +kernel
theorem dX6_statement_302 : decode cX6_statement 302 = .ok (.iaload, 1) := by decide +kernel
theorem dX6_statement_303 : decode cX6_statement 303 = .ok (.bipush 20, 2) := by decide +kernel
theorem dX6_statement_305 : decode cX6_statement 305 = .ok (.if_icmp .ge 7, 3) := by decide +kernel
theorem dX6_statement_308 : decode cX6_statement 308 = .ok (.iconst 1, 1) := by decide +kernel
theorem dX6_statement_309 : decode cX6_statement 309 = .ok (.goto 4, 3) := by decide +kernel
theorem dX6_statement_312 : decode cX6_statement 312 = .ok (.iconst 0, 1) := by decide +kernel
theorem dX6_statement_313 : decode cX6_statement 313 = .ok (.invokevirtual 88, 3) := by decide +kernel
theorem dX6_statement_316 : decode cX6_statement 316 = .ok (.aload_n 0, 1) := by decide +kernel
theorem dX6_statement_317 : decode cX6_statement 317 = .ok (.getfield 59, 3) := by decide +kernel
theorem dX6_statement_320 : decode cX6_statement 320 = .ok (.ifCond .ne 16, 3) := by decide +kernel
theorem dX6_statement_323 : decode cX6_statement 323 = .ok (.aload_n 0, 1) := by decide +kernel
theorem dX6_statement_324 : decode cX6_statement 324 = .ok (.getfield 13, 3) := by decide +kernel
theorem dX6_statement_327 : decode cX6_statement 327 = .ok (.iload_n 2, 1) := by decide +kernel
theorem dX6_statement_328 : decode cX6_statement 328 = .ok (.iload_n 3, 1) := by decide +kernel
theorem dX6_statement_329 : decode cX6_statement 329 = .ok (.iload 4, 2) := by decide +kernel
theorem dX6_statement_331 : decode cX6_statement 331 = .ok (.iload 5, 2) := by decide +kernel
theorem dX6_statement_333 : decode cX6_statement 333 = .ok (.invokestatic 36, 3) := by decide +kernel
theorem dX6_statement_336 : decode cX6_statement 336 = .ok (.goto 8, 3) := by decide +kernel
theorem dX6_statement_339 : decode cX6_statement 339 = .ok (.aload_n 0, 1) := by decide +kernel
theorem dX6_statement_340 : decode cX6_statement 340 = .ok (.iconst 1, 1) := by decide +kernel
theorem dX6_statement_341 : decode cX6_statement 341 = .ok (.putfield 59, 3) := by decide +kernel
theorem dX6_statement_344 : decode cX6_statement 344 = .ok (.return_, 1) := by decide +kernel
set_option maxRecDepth 20000 in
theorem ggX6_readAll_X6_empty : GoodIn wsX6_readAll wsX6_empty := goodIn_r _ [8] (by decide +kernel) (by decide +kernel)
set_option maxRecDepth 20000 in
theorem gX6_readAll_X6_empty : GoodIn wsX6_readAll (va_wsS RX6 28 yX6_empty wsX6_empty) := goodIn_app (goodIn_of _ (by decide +kernel)) ggX6_readAll_X6_empty
set_option maxRecDepth 20000 in
theorem ggX6_readAll_X6_statement : GoodIn wsX6_readAll wsX6_statement := goodIn_r _ [12, 13, 1, 3, 14, 15, 16, 7, 17, 2, 4, 18, 19, 20, 21, 22, 23, 24, 25, 26, 27, 28, 29, 30, 31, 32, 33, 34, 35, 36, 37, 38, 39, 40, 41, 42, 43, 44, 45, 46, 47, 48, 49, 50, 51, 52, 53, 54, 55, 56, 57, 58, 59, 60, 61, 62, 63, 64, 65] (by decide +kernel) (by decide +kernel)
set_option maxRecDepth 20000 in
theorem gX6_readAll_X6_statement : GoodIn wsX6_readAll (wsV RX6 95 RX6 yX6_statement wsX6_statement) := goodIn_app (goodIn_of _ (by decide +kernel)) ggX6_readAll_X6_statement
theorem dX6_readAll_0 : decode cX6_readAll 0 = .ok (.aload_n 0, 1) := by decide +kernel
theorem dX6_readAll_1 : decode cX6_readAll 1 = .ok (.getfield 13, 3) := by decide +kernel
theorem dX6_readAll_4 : decode cX6_readAll 4 = .ok (.invokestatic 28, 3) := by decide +kernel
theorem dX6_readAll_7 : decode cX6_readAll 7 = .ok (.aload_n 0, 1) := by decide +kernel
theorem dX6_readAll_8 : decode cX6_readAll 8 = .ok (.iconst 0, 1) := by decide +kernel
theorem dX6_readAll_9 : decode cX6_readAll 9 = .ok (.putfield 52, 3) := by decide +kernel
theorem dX6_readAll_12 : decode cX6_readAll 12 = .ok (.aload_n 0, 1) := by decide +kernel
theorem dX6_readAll_13 : decode cX6_readAll 13 = .ok (.iconst 0, 1) := by decide +kernel
theorem dX6_readAll_14 : decode cX6_readAll 14 = .ok (.putfield 59, 3) := by decide +kernel
theorem dX6_readAll_17 : decode cX6_readAll 17 = .ok (.aload_n 0, 1) := by decide +kernel
theorem dX6_readAll_18 : decode cX6_readAll 18 = .ok (.getfield 52, 3) := by decide +kernel
theorem dX6_readAll_21 : decode cX6_readAll 21 = .ok (.aload_n 0, 1) := by decide +kernel
theorem dX6_readAll_22 : decode cX6_readAll 22 = .ok (.getfield 48, 3) := by decide +kernel
theorem dX6_readAll_25 : decode cX6_readAll 25 = .ok (.if_icmp .ge 24, 3) := by decide +kernel
theorem dX6_readAll_28 : decode cX6_readAll 28 = .ok (.aload_n 0, 1) := by decide +kernel
theorem dX6_readAll_29 : decode cX6_readAll 29 = .ok (.getfield 52, 3) := by decide +kernel
theorem dX6_readAll_32 : decode cX6_readAll 32 = .ok (.istore_n 1, 1) := by decide +kernel
theorem dX6_readAll_33 : decode cX6_readAll 33 = .ok (.aload_n 0, 1) := by decide +kernel
theorem dX6_readAll_34 : decode cX6_readAll 34 = .ok (.invokevirtual 95, 3) := by decide +kernel
theorem dX6_readAll_37 : decode cX6_readAll 37 = .ok (.aload_n 0, 1) := by decide +kernel
theorem dX6_readAll_38 : decode cX6_readAll 38 = .ok (.getfield 59, 3) := by decide +kernel
theorem dX6_readAll_41 : decode cX6_readAll 41 = .ok (.ifCond .eq 5, 3) := by decide +kernel
theorem dX6_readAll_44 : decode cX6_readAll 44 = .ok (.iload_n 1, 1) := by decide +kernel
theorem dX6_readAll_45 : decode cX6_readAll 45 = .ok (.ireturn, 1) := by decide +kernel
theorem dX6_readAll_46 : decode cX6_readAll 46 = .ok (.goto (-29), 3) := by decide +kernel
theorem dX6_readAll_49 : decode cX6_readAll 49 = .ok (.sipush (-1004), 3) := by decide +kernel
theorem dX6_readAll_52 : decode cX6_readAll 52 = .ok (.ireturn, 1) := by decide +kernel
set_option maxRecDepth 20000 in
theorem ggX6_firstError_X6_readAll : GoodIn wsX6_firstError wsX6_readAll := goodIn_r _ [5, 6, 7, 8, 9, 10, 11, 4, 12, 13, 14, 15, 16, 17, 18, 19, 20, 21, 22, 23, 24, 25, 26, 27, 28, 29, 30, 31, 32, 33, 34, 35, 36, 37, 38, 39, 40, 41, 42, 43, 44, 45, 46, 47, 48, 49, 50, 51, 52, 53, 54, 55, 56, 57, 58, 59, 60, 61, 62, 63, 64, 65, 66, 67, 68, 69] (by decide +kernel) (by decide +kernel)
set_option maxRecDepth 20000 in
theorem gX6_firstError_X6_readAll : GoodIn wsX6_firstError (wsV RX6 98 RX6 yX6_readAll wsX6_readAll) := goodIn_app (goodIn_of _ (by decide +kernel)) ggX6_firstError_X6_readAll
theorem dX6_firstError_0 : decode cX6_firstError 0 = .ok (.aload_n 0, 1) := by decide +kernel
theorem dX6_firstError_1 : decode cX6_firstError 1 = .ok (.invokevirtual 98, 3) := by decide +kernel
theorem dX6_firstError_4 : decode cX6_firstError 4 = .ok (.ireturn, 1) := by decide +kernel
set_option maxRecDepth 20000 in
theorem ggX6_errorReason_X6_readAll : GoodIn wsX6_errorReason wsX6_readAll := goodIn_r _ [6, 7, 8, 1, 9, 10, 11, 5, 12, 13, 14, 15, 16, 17, 18, 19, 20, 21, 22, 23, 24, 25, 26, 27, 28, 29, 30, 31, 32, 33, 34, 35, 36, 37, 38, 39, 40, 41, 42, 43, 44, 45, 46, 47, 48, 49, 50, 51, 52, 53, 54, 55, 56, 57, 58, 59, 60, 61, 62, 63, 64, 65, 66, 67, 68, 69] (by decide +kernel) (by decide +kernel)
set_option maxRecDepth 20000 in
theorem gX6_errorReason_X6_readAll : GoodIn wsX6_errorReason (wsV RX6 98 RX6 yX6_readAll wsX6_readAll) := goodIn_app (goodIn_of _ (by decide +kernel)) ggX6_errorReason_X6_readAll
theorem dX6_errorReason_0 : decode cX6_errorReason 0 = .ok (.aload_n 0, 1) := by decide +kernel
theorem dX6_errorReason_1 : decode cX6_errorReason 1 = .ok (.invokevirtual 98, 3) := by decide +kernel
theorem dX6_errorReason_4 : decode cX6_errorReason 4 = .ok (.sipush (-1004), 3) := by decide +kernel
theorem dX6_errorReason_7 : decode cX6_errorReason 7 = .ok (.if_icmp .ne 9, 3) := by decide +kernel
theorem dX6_errorReason_10 : decode cX6_errorReason 10 = .ok (.sipush (-1004), 3) := by decide +kernel
theorem dX6_errorReason_13 : decode cX6_errorReason 13 = .ok (.goto 7, 3) := by decide +kernel
theorem dX6_errorReason_16 : decode cX6_errorReason 16 = .ok (.aload_n 0, 1) := by decide +kernel
theorem dX6_errorReason_17 : decode cX6_errorReason 17 = .ok (.getfield 59, 3) := by decide +kernel
theorem dX6_errorReason_20 : decode cX6_errorReason 20 = .ok (.ireturn, 1) := by decide +kernel
set_option maxRecDepth 20000 in
theorem ggX6_configure_X6_readAll : GoodIn wsX6_configure wsX6_readAll := goodIn_r _ [8, 1, 9, 10, 11, 12, 13, 7, 14, 15, 16, 17, 18, 19, 20, 21, 22, 23, 24, 25, 26, 27, 28, 29, 30, 31, 32, 33, 34, 35, 36, 37, 38, 39, 40, 41, 42, 43, 44, 45, 46, 47, 48, 49, 50, 51, 52, 53, 54, 55, 56, 57, 58, 59, 60, 61, 62, 63, 64, 65, 66, 67, 68, 69, 70, 71] (by decide +kernel) (by decide +kernel)
set_option maxRecDepth 20000 in
theorem gX6_configure_X6_readAll : GoodIn wsX6_configure (wsV RX6 98 RX6 yX6_readAll wsX6_readAll) := goodIn_app (goodIn_of _ (by decide +kernel)) ggX6_configure_X6_readAll
theorem dX6_configure_0 : decode cX6_configure 0 = .ok (.aload_n 0, 1) := by decide +kernel
theorem dX6_configure_1 : decode cX6_configure 1 = .ok (.invokevirtual 98, 3) := by decide +kernel
theorem dX6_configure_4 : decode cX6_configure 4 = .ok (.sipush (-1004), 3) := by decide +kernel
theorem dX6_configure_7 : decode cX6_configure 7 = .ok (.if_icmp .ne 22, 3) := by decide +kernel
theorem dX6_configure_10 : decode cX6_configure 10 = .ok (.aload_n 0, 1) := by decide +kernel
theorem dX6_configure_11 : decode cX6_configure 11 = .ok (.getfield 13, 3) := by decide +kernel
theorem dX6_configure_14 : decode cX6_configure 14 = .ok (.iconst 0, 1) := by decide +kernel
theorem dX6_configure_15 : decode cX6_configure 15 = .ok (.iaload, 1) := by decide +kernel
theorem dX6_configure_16 : decode cX6_configure 16 = .ok (.ifCond .eq 13, 3) := by decide +kernel
theorem dX6_configure_19 : decode cX6_configure 19 = .ok (.aload_n 0, 1) := by decide +kernel
theorem dX6_configure_20 : decode cX6_configure 20 = .ok (.getfield 13, 3) := by decide +kernel
theorem dX6_configure_23 : decode cX6_configure 23 = .ok (.bipush 11, 2) := by decide +kernel
theorem dX6_configure_25 : decode cX6_configure 25 = .ok (.iaload, 1) := by decide +kernel
theorem dX6_configure_26 : decode cX6_configure 26 = .ok (.ifCond .ne 7, 3) := by decide +kernel
theorem dX6_configure_29 : decode cX6_configure 29 = .ok (.sipush (-1002), 3) := by decide +kernel
theorem dX6_configure_32 : decode cX6_configure 32 = .ok (.ireturn, 1) := by decide +kernel
theorem dX6_configure_33 : decode cX6_configure 33 = .ok (.iconst 0, 1) := by decide +kernel
theorem dX6_configure_34 : decode cX6_configure 34 = .ok (.istore_n 1, 1) := by decide +kernel
theorem dX6_configure_35 : decode cX6_configure 35 = .ok (.iload_n 1, 1) := by decide +kernel
theorem dX6_configure_36 : decode cX6_configure 36 = .ok (.bipush 125, 2) := by decide +kernel
theorem dX6_configure_38 : decode cX6_configure 38 = .ok (.if_icmp .ge 21, 3) := by decide +kernel
theorem dX6_configure_41 : decode cX6_configure 41 = .ok (.aload_n 0, 1) := by decide +kernel
theorem dX6_configure_42 : decode cX6_configure 42 = .ok (.getfield 7, 3) := by decide +kernel
theorem dX6_configure_45 : decode cX6_configure 45 = .ok (.iload_n 1, 1) := by decide +kernel
theorem dX6_configure_46 : decode cX6_configure 46 = .ok (.aload_n 0, 1) := by decide +kernel
theorem dX6_configure_47 : decode cX6_configure 47 = .ok (.getfield 13, 3) := by decide +kernel
theorem dX6_configure_50 : decode cX6_configure 50 = .ok (.iload_n 1, 1) := by decide +kernel
theorem dX6_configure_51 : decode cX6_configure 51 = .ok (.iaload, 1) := by decide +kernel
theorem dX6_configure_52 : decode cX6_configure 52 = .ok (.iastore, 1) := by decide +kernel
theorem dX6_configure_53 : decode cX6_configure 53 = .ok (.iinc 1 1, 3) := by decide +kernel
theorem dX6_configure_56 : decode cX6_configure 56 = .ok (.goto (-21), 3) := by decide +kernel
theorem dX6_configure_59 : decode cX6_configure 59 = .ok (.aload_n 0, 1) := by decide +kernel
theorem dX6_configure_60 : decode cX6_configure 60 = .ok (.iconst 0, 1) := by decide +kernel
theorem dX6_configure_61 : decode cX6_configure 61 = .ok (.putfield 101, 3) := by decide +kernel
theorem dX6_configure_64 : decode cX6_configure 64 = .ok (.aload_n 0, 1) := by decide +kernel
theorem dX6_configure_65 : decode cX6_configure 65 = .ok (.getfield 7, 3) := by decide +kernel
theorem dX6_configure_68 : decode cX6_configure 68 = .ok (.bipush 11, 2) := by decide +kernel
theorem dX6_configure_70 : decode cX6_configure 70 = .ok (.iaload, 1) := by decide +kernel
theorem dX6_configure_71 : decode cX6_configure 71 = .ok (.ireturn, 1) := by decide +kernel
theorem dX6_keeps_0 : decode cX6_keeps 0 = .ok (.aload_n 0, 1) := by decide +kernel
theorem dX6_keeps_1 : decode cX6_keeps 1 = .ok (.getfield 101, 3) := by decide +kernel
theorem dX6_keeps_4 : decode cX6_keeps 4 = .ok (.iconst 5, 1) := by decide +kernel
theorem dX6_keeps_5 : decode cX6_keeps 5 = .ok (.if_icmp .ne 43, 3) := by decide +kernel
theorem dX6_keeps_8 : decode cX6_keeps 8 = .ok (.iconst 0, 1) := by decide +kernel
theorem dX6_keeps_9 : decode cX6_keeps 9 = .ok (.istore_n 1, 1) := by decide +kernel
theorem dX6_keeps_10 : decode cX6_keeps 10 = .ok (.iload_n 1, 1) := by decide +kernel
theorem dX6_keeps_11 : decode cX6_keeps 11 = .ok (.sipush 500, 3) := by decide +kernel
theorem dX6_keeps_14 : decode cX6_keeps 14 = .ok (.if_icmp .ge 24, 3) := by decide +kernel
theorem dX6_keeps_17 : decode cX6_keeps 17 = .ok (.aload_n 0, 1) := by decide +kernel
theorem dX6_keeps_18 : decode cX6_keeps 18 = .ok (.getfield 16, 3) := by decide +kernel
theorem dX6_keeps_21 : decode cX6_keeps 21 = .ok (.iload_n 1, 1) := by decide +kernel
theorem dX6_keeps_22 : decode cX6_keeps 22 = .ok (.aload_n 0, 1) := by decide +kernel
theorem dX6_keeps_23 : decode cX6_keeps 23 = .ok (.getfield 16, 3) := by decide +kernel
theorem dX6_keeps_26 : decode cX6_keeps 26 = .ok (.bipush 125, 2) := by decide +kernel
theorem dX6_keeps_28 : decode cX6_keeps 28 = .ok (.iload_n 1, 1) := by decide +kernel
theorem dX6_keeps_29 : decode cX6_keeps 29 = .ok (.iadd, 1) := by decide +kernel
theorem dX6_keeps_30 : decode cX6_keeps 30 = .ok (.iaload, 1) := by decide +kernel
theorem dX6_keeps_31 : decode cX6_keeps 31 = .ok (.iastore, 1) := by decide +kernel
theorem dX6_keeps_32 : decode cX6_keeps 32 = .ok (.iinc 1 1, 3) := by decide +kernel
theorem dX6_keeps_35 : decode cX6_keeps 35 = .ok (.goto (-25), 3) := by decide +kernel
theorem dX6_keeps_38 : decode cX6_keeps 38 = .ok (.aload_n 0, 1) := by decide +kernel
theorem dX6_keeps_39 : decode cX6_keeps 39 = .ok (.dup, 1) := by decide +kernel
theorem dX6_keeps_40 : decode cX6_keeps 40 = .ok (.getfield 101, 3) := by decide +kernel
theorem dX6_keeps_43 : decode cX6_keeps 43 = .ok (.iconst 1, 1) := by decide +kernel
theorem dX6_keeps_44 : decode cX6_keeps 44 = .ok (.isub, 1) := by decide +kernel
theorem dX6_keeps_45 : decode cX6_keeps 45 = .ok (.putfield 101, 3) := by decide +kernel
theorem dX6_keeps_48 : decode cX6_keeps 48 = .ok (.iconst 0, 1) := by decide +kernel
theorem dX6_keeps_49 : decode cX6_keeps 49 = .ok (.istore_n 1, 1) := by decide +kernel
theorem dX6_keeps_50 : decode cX6_keeps 50 = .ok (.iload_n 1, 1) := by decide +kernel
theorem dX6_keeps_51 : decode cX6_keeps 51 = .ok (.bipush 125, 2) := by decide +kernel
theorem dX6_keeps_53 : decode cX6_keeps 53 = .ok (.if_icmp .ge 29, 3) := by decide +kernel
theorem dX6_keeps_56 : decode cX6_keeps 56 = .ok (.aload_n 0, 1) := by decide +kernel
theorem dX6_keeps_57 : decode cX6_keeps 57 = .ok (.getfield 16, 3) := by decide +kernel
theorem dX6_keeps_60 : decode cX6_keeps 60 = .ok (.bipush 125, 2) := by decide +kernel
theorem dX6_keeps_62 : decode cX6_keeps 62 = .ok (.aload_n 0, 1) := by decide +kernel
theorem dX6_keeps_63 : decode cX6_keeps 63 = .ok (.getfield 101, 3) := by decide +kernel
theorem dX6_keeps_66 : decode cX6_keeps 66 = .ok (.imul, 1) := by decide +kernel
theorem dX6_keeps_67 : decode cX6_keeps 67 = .ok (.iload_n 1, 1) := by decide +kernel
theorem dX6_keeps_68 : decode cX6_keeps 68 = .ok (.iadd, 1) := by decide +kernel
theorem dX6_keeps_69 : decode cX6_keeps 69 = .ok (.aload_n 0, 1) := by decide +kernel
theorem dX6_keeps_70 : decode cX6_keeps 70 = .ok (.getfield 7, 3) := by decide +kernel
theorem dX6_keeps_73 : decode cX6_keeps 73 = .ok (.iload_n 1, 1) := by decide +kernel
theorem dX6_keeps_74 : decode cX6_keeps 74 = .ok (.iaload, 1) := by decide +kernel
theorem dX6_keeps_75 : decode cX6_keeps 75 = .ok (.iastore, 1) := by decide +kernel
theorem dX6_keeps_76 : decode cX6_keeps 76 = .ok (.iinc 1 1, 3) := by decide +kernel
theorem dX6_keeps_79 : decode cX6_keeps 79 = .ok (.goto (-29), 3) := by decide +kernel
theorem dX6_keeps_82 : decode cX6_keeps 82 = .ok (.aload_n 0, 1) := by decide +kernel
theorem dX6_keeps_83 : decode cX6_keeps 83 = .ok (.dup, 1) := by decide +kernel
theorem dX6_keeps_84 : decode cX6_keeps 84 = .ok (.getfield 101, 3) := by decide +kernel
theorem dX6_keeps_87 : decode cX6_keeps 87 = .ok (.iconst 1, 1) := by decide +kernel
theorem dX6_keeps_88 : decode cX6_keeps 88 = .ok (.iadd, 1) := by decide +kernel
theorem dX6_keeps_89 : decode cX6_keeps 89 = .ok (.putfield 101, 3) := by decide +kernel
theorem dX6_keeps_92 : decode cX6_keeps 92 = .ok (.return_, 1) := by decide +kernel
theorem dX6_undo_0 : decode cX6_undo 0 = .ok (.aload_n 0, 1) := by decide +kernel
theorem dX6_undo_1 : decode cX6_undo 1 = .ok (.getfield 101, 3) := by decide +kernel
theorem dX6_undo_4 : decode cX6_undo 4 = .ok (.ifCond .ne 7, 3) := by decide +kernel
theorem dX6_undo_7 : decode cX6_undo 7 = .ok (.sipush (-1002), 3) := by decide +kernel
theorem dX6_undo_10 : decode cX6_undo 10 = .ok (.ireturn, 1) := by decide +kernel
theorem dX6_undo_11 : decode cX6_undo 11 = .ok (.aload_n 0, 1) := by decide +kernel
theorem dX6_undo_12 : decode cX6_undo 12 = .ok (.dup, 1) := by decide +kernel
theorem dX6_undo_13 : decode cX6_undo 13 = .ok (.getfield 101, 3) := by decide +kernel
theorem dX6_undo_16 : decode cX6_undo 16 = .ok (.iconst 1, 1) := by decide +kernel
theorem dX6_undo_17 : decode cX6_undo 17 = .ok (.isub, 1) := by decide +kernel
theorem dX6_undo_18 : decode cX6_undo 18 = .ok (.putfield 101, 3) := by decide +kernel
theorem dX6_undo_21 : decode cX6_undo 21 = .ok (.iconst 0, 1) := by decide +kernel
theorem dX6_undo_22 : decode cX6_undo 22 = .ok (.istore_n 1, 1) := by decide +kernel
theorem dX6_undo_23 : decode cX6_undo 23 = .ok (.iload_n 1, 1) := by decide +kernel
theorem dX6_undo_24 : decode cX6_undo 24 = .ok (.bipush 125, 2) := by decide +kernel
theorem dX6_undo_26 : decode cX6_undo 26 = .ok (.if_icmp .ge 29, 3) := by decide +kernel
theorem dX6_undo_29 : decode cX6_undo 29 = .ok (.aload_n 0, 1) := by decide +kernel
theorem dX6_undo_30 : decode cX6_undo 30 = .ok (.getfield 7, 3) := by decide +kernel
theorem dX6_undo_33 : decode cX6_undo 33 = .ok (.iload_n 1, 1) := by decide +kernel
theorem dX6_undo_34 : decode cX6_undo 34 = .ok (.aload_n 0, 1) := by decide +kernel
theorem dX6_undo_35 : decode cX6_undo 35 = .ok (.getfield 16, 3) := by decide +kernel
theorem dX6_undo_38 : decode cX6_undo 38 = .ok (.bipush 125, 2) := by decide +kernel
theorem dX6_undo_40 : decode cX6_undo 40 = .ok (.aload_n 0, 1) := by decide +kernel
theorem dX6_undo_41 : decode cX6_undo 41 = .ok (.getfield 101, 3) := by decide +kernel
theorem dX6_undo_44 : decode cX6_undo 44 = .ok (.imul, 1) := by decide +kernel
theorem dX6_undo_45 : decode cX6_undo 45 = .ok (.iload_n 1, 1) := by decide +kernel
theorem dX6_undo_46 : decode cX6_undo 46 = .ok (.iadd, 1) := by decide +kernel
theorem dX6_undo_47 : decode cX6_undo 47 = .ok (.iaload, 1) := by decide +kernel
theorem dX6_undo_48 : decode cX6_undo 48 = .ok (.iastore, 1) := by decide +kernel
theorem dX6_undo_49 : decode cX6_undo 49 = .ok (.iinc 1 1, 3) := by decide +kernel
theorem dX6_undo_52 : decode cX6_undo 52 = .ok (.goto (-29), 3) := by decide +kernel
theorem dX6_undo_55 : decode cX6_undo 55 = .ok (.aload_n 0, 1) := by decide +kernel
theorem dX6_undo_56 : decode cX6_undo 56 = .ok (.getfield 101, 3) := by decide +kernel
theorem dX6_undo_59 : decode cX6_undo 59 = .ok (.ireturn, 1) := by decide +kernel
set_option maxRecDepth 20000 in
theorem ggX6_isRole_X6_in : GoodIn wsX6_isRole wsX6_in := goodIn_r _ [5] (by decide +kernel) (by decide +kernel)
set_option maxRecDepth 20000 in
theorem gX6_isRole_X6_in : GoodIn wsX6_isRole (va_wsS RX6 44 yX6_in wsX6_in) := goodIn_app (goodIn_of _ (by decide +kernel)) ggX6_isRole_X6_in
theorem dX6_isRole_0 : decode cX6_isRole 0 = .ok (.iload_n 1, 1) := by decide +kernel
theorem dX6_isRole_1 : decode cX6_isRole 1 = .ok (.i2l, 1) := by decide +kernel
theorem dX6_isRole_2 : decode cX6_isRole 2 = .ok (.lconst 0, 1) := by decide +kernel
theorem dX6_isRole_3 : decode cX6_isRole 3 = .ok (.aload_n 0, 1) := by decide +kernel
theorem dX6_isRole_4 : decode cX6_isRole 4 = .ok (.getfield 7, 3) := by decide +kernel
theorem dX6_isRole_7 : decode cX6_isRole 7 = .ok (.bipush 11, 2) := by decide +kernel
theorem dX6_isRole_9 : decode cX6_isRole 9 = .ok (.iaload, 1) := by decide +kernel
theorem dX6_isRole_10 : decode cX6_isRole 10 = .ok (.iconst 1, 1) := by decide +kernel
theorem dX6_isRole_11 : decode cX6_isRole 11 = .ok (.isub, 1) := by decide +kernel
theorem dX6_isRole_12 : decode cX6_isRole 12 = .ok (.i2l, 1) := by decide +kernel
theorem dX6_isRole_13 : decode cX6_isRole 13 = .ok (.invokestatic 44, 3) := by decide +kernel
theorem dX6_isRole_16 : decode cX6_isRole 16 = .ok (.ireturn, 1) := by decide +kernel
set_option maxRecDepth 20000 in
theorem ggX6_isScene_X6_in : GoodIn wsX6_isScene wsX6_in := goodIn_r _ [5] (by decide +kernel) (by decide +kernel)
set_option maxRecDepth 20000 in
theorem gX6_isScene_X6_in : GoodIn wsX6_isScene (va_wsS RX6 44 yX6_in wsX6_in) := goodIn_app (goodIn_of _ (by decide +kernel)) ggX6_isScene_X6_in
theorem dX6_isScene_0 : decode cX6_isScene 0 = .ok (.iload_n 1, 1) := by decide +kernel
theorem dX6_isScene_1 : decode cX6_isScene 1 = .ok (.i2l, 1) := by decide +kernel
theorem dX6_isScene_2 : decode cX6_isScene 2 = .ok (.lconst 0, 1) := by decide +kernel
theorem dX6_isScene_3 : decode cX6_isScene 3 = .ok (.aload_n 0, 1) := by decide +kernel
theorem dX6_isScene_4 : decode cX6_isScene 4 = .ok (.getfield 7, 3) := by decide +kernel
theorem dX6_isScene_7 : decode cX6_isScene 7 = .ok (.iconst 0, 1) := by decide +kernel
theorem dX6_isScene_8 : decode cX6_isScene 8 = .ok (.iaload, 1) := by decide +kernel
theorem dX6_isScene_9 : decode cX6_isScene 9 = .ok (.iconst 1, 1) := by decide +kernel
theorem dX6_isScene_10 : decode cX6_isScene 10 = .ok (.isub, 1) := by decide +kernel
theorem dX6_isScene_11 : decode cX6_isScene 11 = .ok (.i2l, 1) := by decide +kernel
theorem dX6_isScene_12 : decode cX6_isScene 12 = .ok (.invokestatic 44, 3) := by decide +kernel
theorem dX6_isScene_15 : decode cX6_isScene 15 = .ok (.ireturn, 1) := by decide +kernel
set_option maxRecDepth 20000 in
theorem ggX6_isActor_X6_in : GoodIn wsX6_isActor wsX6_in := goodIn_r _ [5] (by decide +kernel) (by decide +kernel)
set_option maxRecDepth 20000 in
theorem gX6_isActor_X6_in : GoodIn wsX6_isActor (va_wsS RX6 44 yX6_in wsX6_in) := goodIn_app (goodIn_of _ (by decide +kernel)) ggX6_isActor_X6_in
theorem dX6_isActor_0 : decode cX6_isActor 0 = .ok (.iload_n 0, 1) := by decide +kernel
theorem dX6_isActor_1 : decode cX6_isActor 1 = .ok (.i2l, 1) := by decide +kernel
theorem dX6_isActor_2 : decode cX6_isActor 2 = .ok (.lconst 0, 1) := by decide +kernel
theorem dX6_isActor_3 : decode cX6_isActor 3 = .ok (.ldc2_w 104, 3) := by decide +kernel
theorem dX6_isActor_6 : decode cX6_isActor 6 = .ok (.invokestatic 44, 3) := by decide +kernel
theorem dX6_isActor_9 : decode cX6_isActor 9 = .ok (.ireturn, 1) := by decide +kernel
set_option maxRecDepth 20000 in
theorem ggX6_repairs_X6_layConflicts : GoodIn wsX6_repairs wsX6_layConflicts := goodIn_r _ [7, 1, 2, 8, 9, 10, 6, 11, 12, 13, 14, 15, 16, 17, 18, 19, 20, 21, 22, 23, 24, 25, 26, 27, 28, 29, 30, 31, 32, 33, 34, 35, 36, 37, 38, 39, 40, 41, 42, 43, 44, 45, 46, 47, 48, 49, 50] (by decide +kernel) (by decide +kernel)
set_option maxRecDepth 20000 in
theorem gX6_repairs_X6_layConflicts : GoodIn wsX6_repairs (wsV RX6 106 RX6 yX6_layConflicts wsX6_layConflicts) := goodIn_app (goodIn_of _ (by decide +kernel)) ggX6_repairs_X6_layConflicts
theorem dX6_repairs_0 : decode cX6_repairs 0 = .ok (.aload_n 0, 1) := by decide +kernel
theorem dX6_repairs_1 : decode cX6_repairs 1 = .ok (.iconst 0, 1) := by decide +kernel
theorem dX6_repairs_2 : decode cX6_repairs 2 = .ok (.invokevirtual 106, 3) := by decide +kernel
theorem dX6_repairs_5 : decode cX6_repairs 5 = .ok (.iconst 0, 1) := by decide +kernel
theorem dX6_repairs_6 : decode cX6_repairs 6 = .ok (.istore_n 1, 1) := by decide +kernel
theorem dX6_repairs_7 : decode cX6_repairs 7 = .ok (.iconst 1, 1) := by decide +kernel
theorem dX6_repairs_8 : decode cX6_repairs 8 = .ok (.istore_n 2, 1) := by decide +kernel
theorem dX6_repairs_9 : decode cX6_repairs 9 = .ok (.iload_n 2, 1) := by decide +kernel
theorem dX6_repairs_10 : decode cX6_repairs 10 = .ok (.aload_n 0, 1) := by decide +kernel
theorem dX6_repairs_11 : decode cX6_repairs 11 = .ok (.getfield 7, 3) := by decide +kernel
theorem dX6_repairs_14 : decode cX6_repairs 14 = .ok (.bipush 11, 2) := by decide +kernel
theorem dX6_repairs_16 : decode cX6_repairs 16 = .ok (.iaload, 1) := by decide +kernel
theorem dX6_repairs_17 : decode cX6_repairs 17 = .ok (.if_icmp .ge 102, 3) := by decide +kernel
theorem dX6_repairs_20 : decode cX6_repairs 20 = .ok (.iconst 1, 1) := by decide +kernel
theorem dX6_repairs_21 : decode cX6_repairs 21 = .ok (.istore_n 3, 1) := by decide +kernel
theorem dX6_repairs_22 : decode cX6_repairs 22 = .ok (.iconst 0, 1) := by decide +kernel
theorem dX6_repairs_23 : decode cX6_repairs 23 = .ok (.istore 4, 2) := by decide +kernel
theorem dX6_repairs_25 : decode cX6_repairs 25 = .ok (.iload 4, 2) := by decide +kernel
theorem dX6_repairs_27 : decode cX6_repairs 27 = .ok (.iload_n 2, 1) := by decide +kernel
theorem dX6_repairs_28 : decode cX6_repairs 28 = .ok (.if_icmp .ge 68, 3) := by decide +kernel
theorem dX6_repairs_31 : decode cX6_repairs 31 = .ok (.iload_n 3, 1) := by decide +kernel
theorem dX6_repairs_32 : decode cX6_repairs 32 = .ok (.ifCond .eq 56, 3) := by decide +kernel
theorem dX6_repairs_35 : decode cX6_repairs 35 = .ok (.aload_n 0, 1) := by decide +kernel
theorem dX6_repairs_36 : decode cX6_repairs 36 = .ok (.getfield 7, 3) := by decide +kernel
theorem dX6_repairs_39 : decode cX6_repairs 39 = .ok (.bipush 36, 2) := by decide +kernel
theorem dX6_repairs_41 : decode cX6_repairs 41 = .ok (.iload_n 2, 1) := by decide +kernel
theorem dX6_repairs_42 : decode cX6_repairs 42 = .ok (.iadd, 1) := by decide +kernel
theorem dX6_repairs_43 : decode cX6_repairs 43 = .ok (.iaload, 1) := by decide +kernel
theorem dX6_repairs_44 : decode cX6_repairs 44 = .ok (.iconst (-1), 1) := by decide +kernel
theorem dX6_repairs_45 : decode cX6_repairs 45 = .ok (.if_icmp .eq 39, 3) := by decide +kernel
theorem dX6_repairs_48 : decode cX6_repairs 48 = .ok (.aload_n 0, 1) := by decide +kernel
theorem dX6_repairs_49 : decode cX6_repairs 49 = .ok (.getfield 7, 3) := by decide +kernel
theorem dX6_repairs_52 : decode cX6_repairs 52 = .ok (.bipush 36, 2) := by decide +kernel
theorem dX6_repairs_54 : decode cX6_repairs 54 = .ok (.iload 4, 2) := by decide +kernel
theorem dX6_repairs_56 : decode cX6_repairs 56 = .ok (.iadd, 1) := by decide +kernel
theorem dX6_repairs_57 : decode cX6_repairs 57 = .ok (.iaload, 1) := by decide +kernel
theorem dX6_repairs_58 : decode cX6_repairs 58 = .ok (.aload_n 0, 1) := by decide +kernel
theorem dX6_repairs_59 : decode cX6_repairs 59 = .ok (.getfield 7, 3) := by decide +kernel
theorem dX6_repairs_62 : decode cX6_repairs 62 = .ok (.bipush 36, 2) := by decide +kernel
theorem dX6_repairs_64 : decode cX6_repairs 64 = .ok (.iload_n 2, 1) := by decide +kernel
theorem dX6_repairs_65 : decode cX6_repairs 65 = .ok (.iadd, 1) := by decide +kernel
theorem dX6_repairs_66 : decode cX6_repairs 66 = .ok (.iaload, 1) := by decide +kernel
theorem dX6_repairs_67 : decode cX6_repairs 67 = .ok (.if_icmp .ne 17, 3) := by decide +kernel
theorem dX6_repairs_70 : decode cX6_repairs 70 = .ok (.aload_n 0, 1) := by decide +kernel
theorem dX6_repairs_71 : decode cX6_repairs 71 = .ok (.getfield 22, 3) := by decide +kernel
theorem dX6_repairs_74 : decode cX6_repairs 74 = .ok (.iload_n 2, 1) := by decide +kernel
theorem dX6_repairs_75 : decode cX6_repairs 75 = .ok (.iaload, 1) := by decide +kernel
theorem dX6_repairs_76 : decode cX6_repairs 76 = .ok (.iload 4, 2) := by decide +kernel
theorem dX6_repairs_78 : decode cX6_repairs 78 = .ok (.ishr, 1) := by decide +kernel
theorem dX6_repairs_79 : decode cX6_repairs 79 = .ok (.iconst 1, 1) := by decide +kernel
theorem dX6_repairs_80 : decode cX6_repairs 80 = .ok (.iand, 1) := by decide +kernel
theorem dX6_repairs_81 : decode cX6_repairs 81 = .ok (.ifCond .ne 7, 3) := by decide +kernel
theorem dX6_repairs_84 : decode cX6_repairs 84 = .ok (.iconst 1, 1) := by decide +kernel
theorem dX6_repairs_85 : decode cX6_repairs 85 = .ok (.goto 4, 3) := by decide +kernel
theorem dX6_repairs_88 : decode cX6_repairs 88 = .ok (.iconst 0, 1) := by decide +kernel
theorem dX6_repairs_89 : decode cX6_repairs 89 = .ok (.istore_n 3, 1) := by decide +kernel
theorem dX6_repairs_90 : decode cX6_repairs 90 = .ok (.iinc 4 1, 3) := by decide +kernel
theorem dX6_repairs_93 : decode cX6_repairs 93 = .ok (.goto (-68), 3) := by decide +kernel
theorem dX6_repairs_96 : decode cX6_repairs 96 = .ok (.iload_n 3, 1) := by decide +kernel
theorem dX6_repairs_97 : decode cX6_repairs 97 = .ok (.ifCond .ne 16, 3) := by decide +kernel
theorem dX6_repairs_100 : decode cX6_repairs 100 = .ok (.aload_n 0, 1) := by decide +kernel
theorem dX6_repairs_101 : decode cX6_repairs 101 = .ok (.getfield 7, 3) := by decide +kernel
theorem dX6_repairs_104 : decode cX6_repairs 104 = .ok (.bipush 36, 2) := by decide +kernel
theorem dX6_repairs_106 : decode cX6_repairs 106 = .ok (.iload_n 2, 1) := by decide +kernel
theorem dX6_repairs_107 : decode cX6_repairs 107 = .ok (.iadd, 1) := by decide +kernel
theorem dX6_repairs_108 : decode cX6_repairs 108 = .ok (.iconst (-1), 1) := by decide +kernel
theorem dX6_repairs_109 : decode cX6_repairs 109 = .ok (.iastore, 1) := by decide +kernel
theorem dX6_repairs_110 : decode cX6_repairs 110 = .ok (.iinc 1 1, 3) := by decide +kernel
theorem dX6_repairs_113 : decode cX6_repairs 113 = .ok (.iinc 2 1, 3) := by decide +kernel
theorem dX6_repairs_116 : decode cX6_repairs 116 = .ok (.goto (-107), 3) := by decide +kernel
theorem dX6_repairs_119 : decode cX6_repairs 119 = .ok (.iload_n 1, 1) := by decide +kernel
theorem dX6_repairs_120 : decode cX6_repairs 120 = .ok (.ireturn, 1) := by decide +kernel
set_option maxRecDepth 20000 in
theorem ggX6_addAppearance_X6_isRole : GoodIn wsX6_addAppearance wsX6_isRole := goodIn_r _ [6, 1, 7, 8, 5, 9, 65, 66, 67, 68, 69, 70, 71, 72, 73, 74] (by decide +kernel) (by decide +kernel)
set_option maxRecDepth 20000 in
theorem gX6_addAppearance_X6_isRole : GoodIn wsX6_addAppearance (wsV RX6 109 RX6 yX6_isRole wsX6_isRole) := goodIn_app (goodIn_of _ (by decide +kernel)) ggX6_addAppearance_X6_isRole
set_option maxRecDepth 20000 in
theorem ggX6_addAppearance_X6_isScene : GoodIn wsX6_addAppearance wsX6_isScene := goodIn_r _ [13, 1, 7, 8, 5, 9, 65, 66, 67, 68, 69, 70, 71, 72, 73, 74] (by decide +kernel) (by decide +kernel)
set_option maxRecDepth 20000 in
theorem gX6_addAppearance_X6_isScene : GoodIn wsX6_addAppearance (wsV RX6 113 RX6 yX6_isScene wsX6_isScene) := goodIn_app (goodIn_of _ (by decide +kernel)) ggX6_addAppearance_X6_isScene
set_option maxRecDepth 20000 in
theorem ggX6_addAppearance_X6_keeps : GoodIn wsX6_addAppearance wsX6_keeps := goodIn_r _ [17, 18, 19, 1, 65, 66, 67, 68, 69, 70, 71, 72, 73, 74] (by decide +kernel) (by decide +kernel)
set_option maxRecDepth 20000 in
theorem gX6_addAppearance_X6_keeps : GoodIn wsX6_addAppearance (wsV RX6 116 RX6 yX6_keeps wsX6_keeps) := goodIn_app (goodIn_of _ (by decide +kernel)) ggX6_addAppearance_X6_keeps
set_option maxRecDepth 20000 in
theorem ggX6_addAppearance_X6_appear : GoodIn wsX6_addAppearance wsX6_appear := goodIn_r _ [22] (by decide +kernel) (by decide +kernel)
set_option maxRecDepth 20000 in
theorem gX6_addAppearance_X6_appear : GoodIn wsX6_addAppearance (va_wsS RX6 36 yX6_appear wsX6_appear) := goodIn_app (goodIn_of _ (by decide +kernel)) ggX6_addAppearance_X6_appear
set_option maxRecDepth 20000 in
theorem ggX6_addAppearance_X6_repairs : GoodIn wsX6_addAppearance wsX6_repairs := goodIn_r _ [26, 1, 27, 28, 29, 30, 5, 31, 32, 33, 34, 35, 36, 37, 38, 39, 40, 41, 42, 43, 44, 45, 46, 47, 48, 49, 50, 51, 52, 53, 54, 55, 56, 57, 58, 59, 60, 61, 62, 63, 64, 65, 66, 67, 68, 69, 70, 71, 72, 73, 74] (by decide +kernel) (by decide +kernel)
set_option maxRecDepth 20000 in
theorem gX6_addAppearance_X6_repairs : GoodIn wsX6_addAppearance (wsV RX6 119 RX6 yX6_repairs wsX6_repairs) := goodIn_app (goodIn_of _ (by decide +kernel)) ggX6_addAppearance_X6_repairs
theorem dX6_addAppearance_0 : decode cX6_addAppearance 0 = .ok (.aload_n 0, 1) := by decide +kernel
theorem dX6_addAppearance_1 : decode cX6_addAppearance 1 = .ok (.iload_n 1, 1) := by decide +kernel
theorem dX6_addAppearance_2 : decode cX6_addAppearance 2 = .ok (.invokevirtual 109, 3) := by decide +kernel
theorem dX6_addAppearance_5 : decode cX6_addAppearance 5 = .ok (.ifCond .eq 34, 3) := by decide +kernel
theorem dX6_addAppearance_8 : decode cX6_addAppearance 8 = .ok (.aload_n 0, 1) := by decide +kernel
theorem dX6_addAppearance_9 : decode cX6_addAppearance 9 = .ok (.iload_n 2, 1) := by decide +kernel
theorem dX6_addAppearance_10 : decode cX6_addAppearance 10 = .ok (.invokevirtual 113, 3) := by decide +kernel
theorem dX6_addAppearance_13 : decode cX6_addAppearance 13 = .ok (.ifCond .eq 26, 3) := by decide +kernel
theorem dX6_addAppearance_16 : decode cX6_addAppearance 16 = .ok (.iload_n 3, 1) := by decide +kernel
theorem dX6_addAppearance_17 : decode cX6_addAppearance 17 = .ok (.ifCond .lt 22, 3) := by decide +kernel
theorem dX6_addAppearance_20 : decode cX6_addAppearance 20 = .ok (.iload_n 3, 1) := by decide +kernel
theorem dX6_addAppearance_21 : decode cX6_addAppearance 21 = .ok (.iload 4, 2) := by decide +kernel
theorem dX6_addAppearance_23 : decode cX6_addAppearance 23 = .ok (.if_icmp .ge 16, 3) := by decide +kernel
theorem dX6_addAppearance_26 : decode cX6_addAppearance 26 = .ok (.iload 4, 2) := by decide +kernel
theorem dX6_addAppearance_28 : decode cX6_addAppearance 28 = .ok (.aload_n 0, 1) := by decide +kernel
theorem dX6_addAppearance_29 : decode cX6_addAppearance 29 = .ok (.getfield 7, 3) := by decide +kernel
theorem dX6_addAppearance_32 : decode cX6_addAppearance 32 = .ok (.iconst 1, 1) := by decide +kernel
theorem dX6_addAppearance_33 : decode cX6_addAppearance 33 = .ok (.iload_n 2, 1) := by decide +kernel
theorem dX6_addAppearance_34 : decode cX6_addAppearance 34 = .ok (.iadd, 1) := by decide +kernel
theorem dX6_addAppearance_35 : decode cX6_addAppearance 35 = .ok (.iaload, 1) := by decide +kernel
theorem dX6_addAppearance_36 : decode cX6_addAppearance 36 = .ok (.if_icmp .le 7, 3) := by decide +kernel
theorem dX6_addAppearance_39 : decode cX6_addAppearance 39 = .ok (.sipush (-1001), 3) := by decide +kernel
theorem dX6_addAppearance_42 : decode cX6_addAppearance 42 = .ok (.ireturn, 1) := by decide +kernel
theorem dX6_addAppearance_43 : decode cX6_addAppearance 43 = .ok (.aload_n 0, 1) := by decide +kernel
theorem dX6_addAppearance_44 : decode cX6_addAppearance 44 = .ok (.getfield 7, 3) := by decide +kernel
theorem dX6_addAppearance_47 : decode cX6_addAppearance 47 = .ok (.bipush 44, 2) := by decide +kernel
theorem dX6_addAppearance_49 : decode cX6_addAppearance 49 = .ok (.iaload, 1) := by decide +kernel
theorem dX6_addAppearance_50 : decode cX6_addAppearance 50 = .ok (.bipush 20, 2) := by decide +kernel
theorem dX6_addAppearance_52 : decode cX6_addAppearance 52 = .ok (.if_icmp .ne 7, 3) := by decide +kernel
theorem dX6_addAppearance_55 : decode cX6_addAppearance 55 = .ok (.sipush (-1003), 3) := by decide +kernel
theorem dX6_addAppearance_58 : decode cX6_addAppearance 58 = .ok (.ireturn, 1) := by decide +kernel
theorem dX6_addAppearance_59 : decode cX6_addAppearance 59 = .ok (.aload_n 0, 1) := by decide +kernel
theorem dX6_addAppearance_60 : decode cX6_addAppearance 60 = .ok (.invokevirtual 116, 3) := by decide +kernel
theorem dX6_addAppearance_63 : decode cX6_addAppearance 63 = .ok (.aload_n 0, 1) := by decide +kernel
theorem dX6_addAppearance_64 : decode cX6_addAppearance 64 = .ok (.getfield 7, 3) := by decide +kernel
theorem dX6_addAppearance_67 : decode cX6_addAppearance 67 = .ok (.iload_n 1, 1) := by decide +kernel
theorem dX6_addAppearance_68 : decode cX6_addAppearance 68 = .ok (.iload_n 2, 1) := by decide +kernel
theorem dX6_addAppearance_69 : decode cX6_addAppearance 69 = .ok (.iload_n 3, 1) := by decide +kernel
theorem dX6_addAppearance_70 : decode cX6_addAppearance 70 = .ok (.iload 4, 2) := by decide +kernel
theorem dX6_addAppearance_72 : decode cX6_addAppearance 72 = .ok (.invokestatic 36, 3) := by decide +kernel
theorem dX6_addAppearance_75 : decode cX6_addAppearance 75 = .ok (.aload_n 0, 1) := by decide +kernel
theorem dX6_addAppearance_76 : decode cX6_addAppearance 76 = .ok (.invokevirtual 119, 3) := by decide +kernel
theorem dX6_addAppearance_79 : decode cX6_addAppearance 79 = .ok (.pop, 1) := by decide +kernel
theorem dX6_addAppearance_80 : decode cX6_addAppearance 80 = .ok (.aload_n 0, 1) := by decide +kernel
theorem dX6_addAppearance_81 : decode cX6_addAppearance 81 = .ok (.getfield 7, 3) := by decide +kernel
theorem dX6_addAppearance_84 : decode cX6_addAppearance 84 = .ok (.bipush 44, 2) := by decide +kernel
theorem dX6_addAppearance_86 : decode cX6_addAppearance 86 = .ok (.iaload, 1) := by decide +kernel
theorem dX6_addAppearance_87 : decode cX6_addAppearance 87 = .ok (.ireturn, 1) := by decide +kernel
set_option maxRecDepth 20000 in
theorem ggX6_removeAppearance_X6_in : GoodIn wsX6_removeAppearance wsX6_in := goodIn_r _ [5] (by decide +kernel) (by decide +kernel)
set_option maxRecDepth 20000 in
theorem gX6_removeAppearance_X6_in : GoodIn wsX6_removeAppearance (va_wsS RX6 44 yX6_in wsX6_in) := goodIn_app (goodIn_of _ (by decide +kernel)) ggX6_removeAppearance_X6_in
set_option maxRecDepth 20000 in
theorem ggX6_removeAppearance_X6_keeps : GoodIn wsX6_removeAppearance wsX6_keeps := goodIn_r _ [9, 10, 11, 1, 12, 13, 14, 15, 16, 17, 18, 19, 20, 21] (by decide +kernel) (by decide +kernel)
set_option maxRecDepth 20000 in
theorem gX6_removeAppearance_X6_keeps : GoodIn wsX6_removeAppearance (wsV RX6 116 RX6 yX6_keeps wsX6_keeps) := goodIn_app (goodIn_of _ (by decide +kernel)) ggX6_removeAppearance_X6_keeps
theorem dX6_removeAppearance_0 : decode cX6_removeAppearance 0 = .ok (.iload_n 1, 1) := by decide +kernel
theorem dX6_removeAppearance_1 : decode cX6_removeAppearance 1 = .ok (.i2l, 1) := by decide +kernel
theorem dX6_removeAppearance_2 : decode cX6_removeAppearance 2 = .ok (.lconst 0, 1) := by decide +kernel
theorem dX6_removeAppearance_3 : decode cX6_removeAppearance 3 = .ok (.aload_n 0, 1) := by decide +kernel
theorem dX6_removeAppearance_4 : decode cX6_removeAppearance 4 = .ok (.getfield 7, 3) := by decide +kernel
theorem dX6_removeAppearance_7 : decode cX6_removeAppearance 7 = .ok (.bipush 44, 2) := by decide +kernel
theorem dX6_removeAppearance_9 : decode cX6_removeAppearance 9 = .ok (.iaload, 1) := by decide +kernel
theorem dX6_removeAppearance_10 : decode cX6_removeAppearance 10 = .ok (.iconst 1, 1) := by decide +kernel
theorem dX6_removeAppearance_11 : decode cX6_removeAppearance 11 = .ok (.isub, 1) := by decide +kernel
theorem dX6_removeAppearance_12 : decode cX6_removeAppearance 12 = .ok (.i2l, 1) := by decide +kernel
theorem dX6_removeAppearance_13 : decode cX6_removeAppearance 13 = .ok (.invokestatic 44, 3) := by decide +kernel
theorem dX6_removeAppearance_16 : decode cX6_removeAppearance 16 = .ok (.ifCond .ne 7, 3) := by decide +kernel
theorem dX6_removeAppearance_19 : decode cX6_removeAppearance 19 = .ok (.sipush (-1001), 3) := by decide +kernel
theorem dX6_removeAppearance_22 : decode cX6_removeAppearance 22 = .ok (.ireturn, 1) := by decide +kernel
theorem dX6_removeAppearance_23 : decode cX6_removeAppearance 23 = .ok (.aload_n 0, 1) := by decide +kernel
theorem dX6_removeAppearance_24 : decode cX6_removeAppearance 24 = .ok (.invokevirtual 116, 3) := by decide +kernel
theorem dX6_removeAppearance_27 : decode cX6_removeAppearance 27 = .ok (.aload_n 0, 1) := by decide +kernel
theorem dX6_removeAppearance_28 : decode cX6_removeAppearance 28 = .ok (.getfield 7, 3) := by decide +kernel
theorem dX6_removeAppearance_31 : decode cX6_removeAppearance 31 = .ok (.bipush 44, 2) := by decide +kernel
theorem dX6_removeAppearance_33 : decode cX6_removeAppearance 33 = .ok (.dup2, 1) := by decide +kernel
theorem dX6_removeAppearance_34 : decode cX6_removeAppearance 34 = .ok (.iaload, 1) := by decide +kernel
theorem dX6_removeAppearance_35 : decode cX6_removeAppearance 35 = .ok (.iconst 1, 1) := by decide +kernel
theorem dX6_removeAppearance_36 : decode cX6_removeAppearance 36 = .ok (.isub, 1) := by decide +kernel
theorem dX6_removeAppearance_37 : decode cX6_removeAppearance 37 = .ok (.iastore, 1) := by decide +kernel
theorem dX6_removeAppearance_38 : decode cX6_removeAppearance 38 = .ok (.bipush 45, 2) := by decide +kernel
theorem dX6_removeAppearance_40 : decode cX6_removeAppearance 40 = .ok (.iconst 4, 1) := by decide +kernel
theorem dX6_removeAppearance_41 : decode cX6_removeAppearance 41 = .ok (.iload_n 1, 1) := by decide +kernel
theorem dX6_removeAppearance_42 : decode cX6_removeAppearance 42 = .ok (.imul, 1) := by decide +kernel
theorem dX6_removeAppearance_43 : decode cX6_removeAppearance 43 = .ok (.iadd, 1) := by decide +kernel
theorem dX6_removeAppearance_44 : decode cX6_removeAppearance 44 = .ok (.istore_n 2, 1) := by decide +kernel
theorem dX6_removeAppearance_45 : decode cX6_removeAppearance 45 = .ok (.iload_n 2, 1) := by decide +kernel
theorem dX6_removeAppearance_46 : decode cX6_removeAppearance 46 = .ok (.bipush 45, 2) := by decide +kernel
theorem dX6_removeAppearance_48 : decode cX6_removeAppearance 48 = .ok (.iconst 4, 1) := by decide +kernel
theorem dX6_removeAppearance_49 : decode cX6_removeAppearance 49 = .ok (.aload_n 0, 1) := by decide +kernel
theorem dX6_removeAppearance_50 : decode cX6_removeAppearance 50 = .ok (.getfield 7, 3) := by decide +kernel
theorem dX6_removeAppearance_53 : decode cX6_removeAppearance 53 = .ok (.bipush 44, 2) := by decide +kernel
theorem dX6_removeAppearance_55 : decode cX6_removeAppearance 55 = .ok (.iaload, 1) := by decide +kernel
theorem dX6_removeAppearance_56 : decode cX6_removeAppearance 56 = .ok (.imul, 1) := by decide +kernel
theorem dX6_removeAppearance_57 : decode cX6_removeAppearance 57 = .ok (.iadd, 1) := by decide +kernel
theorem dX6_removeAppearance_58 : decode cX6_removeAppearance 58 = .ok (.if_icmp .ge 23, 3) := by decide +kernel
theorem dX6_removeAppearance_61 : decode cX6_removeAppearance 61 = .ok (.aload_n 0, 1) := by decide +kernel
theorem dX6_removeAppearance_62 : decode cX6_removeAppearance 62 = .ok (.getfield 7, 3) := by decide +kernel
theorem dX6_removeAppearance_65 : decode cX6_removeAppearance 65 = .ok (.iload_n 2, 1) := by decide +kernel
theorem dX6_removeAppearance_66 : decode cX6_removeAppearance 66 = .ok (.aload_n 0, 1) := by decide +kernel
theorem dX6_removeAppearance_67 : decode cX6_removeAppearance 67 = .ok (.getfield 7, 3) := by decide +kernel
theorem dX6_removeAppearance_70 : decode cX6_removeAppearance 70 = .ok (.iload_n 2, 1) := by decide +kernel
theorem dX6_removeAppearance_71 : decode cX6_removeAppearance 71 = .ok (.iconst 4, 1) := by decide +kernel
theorem dX6_removeAppearance_72 : decode cX6_removeAppearance 72 = .ok (.iadd, 1) := by decide +kernel
theorem dX6_removeAppearance_73 : decode cX6_removeAppearance 73 = .ok (.iaload, 1) := by decide +kernel
theorem dX6_removeAppearance_74 : decode cX6_removeAppearance 74 = .ok (.iastore, 1) := by decide +kernel
theorem dX6_removeAppearance_75 : decode cX6_removeAppearance 75 = .ok (.iinc 2 1, 3) := by decide +kernel
theorem dX6_removeAppearance_78 : decode cX6_removeAppearance 78 = .ok (.goto (-33), 3) := by decide +kernel
theorem dX6_removeAppearance_81 : decode cX6_removeAppearance 81 = .ok (.aload_n 0, 1) := by decide +kernel
theorem dX6_removeAppearance_82 : decode cX6_removeAppearance 82 = .ok (.getfield 7, 3) := by decide +kernel
theorem dX6_removeAppearance_85 : decode cX6_removeAppearance 85 = .ok (.bipush 44, 2) := by decide +kernel
theorem dX6_removeAppearance_87 : decode cX6_removeAppearance 87 = .ok (.iaload, 1) := by decide +kernel
theorem dX6_removeAppearance_88 : decode cX6_removeAppearance 88 = .ok (.ireturn, 1) := by decide +kernel
set_option maxRecDepth 20000 in
theorem ggX6_setChangeTimes_X6_isRole : GoodIn wsX6_setChangeTimes wsX6_isRole := goodIn_r _ [7, 2, 8, 9, 6, 10, 59, 60, 61, 62, 63, 64, 65, 66, 67, 68] (by decide +kernel) (by decide +kernel)
set_option maxRecDepth 20000 in
theorem gX6_setChangeTimes_X6_isRole : GoodIn wsX6_setChangeTimes (wsV RX6 109 RX6 yX6_isRole wsX6_isRole) := goodIn_app (goodIn_of _ (by decide +kernel)) ggX6_setChangeTimes_X6_isRole
set_option maxRecDepth 20000 in
theorem ggX6_setChangeTimes_X6_in : GoodIn wsX6_setChangeTimes wsX6_in := goodIn_r _ [10] (by decide +kernel) (by decide +kernel)
set_option maxRecDepth 20000 in
theorem gX6_setChangeTimes_X6_in : GoodIn wsX6_setChangeTimes (va_wsS RX6 44 yX6_in wsX6_in) := goodIn_app (goodIn_of _ (by decide +kernel)) ggX6_setChangeTimes_X6_in
set_option maxRecDepth 20000 in
theorem ggX6_setChangeTimes_X6_keeps : GoodIn wsX6_setChangeTimes wsX6_keeps := goodIn_r _ [14, 15, 16, 2, 59, 60, 61, 62, 63, 64, 65, 66, 67, 68] (by decide +kernel) (by decide +kernel)
set_option maxRecDepth 20000 in
theorem gX6_setChangeTimes_X6_keeps : GoodIn wsX6_setChangeTimes (wsV RX6 116 RX6 yX6_keeps wsX6_keeps) := goodIn_app (goodIn_of _ (by decide +kernel)) ggX6_setChangeTimes_X6_keeps
set_option maxRecDepth 20000 in
theorem ggX6_setChangeTimes_X6_repairs : GoodIn wsX6_setChangeTimes wsX6_repairs := goodIn_r _ [20, 2, 21, 22, 23, 24, 6, 25, 26, 27, 28, 29, 30, 31, 32, 33, 34, 35, 36, 37, 38, 39, 40, 41, 42, 43, 44, 45, 46, 47, 48, 49, 50, 51, 52, 53, 54, 55, 56, 57, 58, 59, 60, 61, 62, 63, 64, 65, 66, 67, 68] (by decide +kernel) (by decide +kernel)
set_option maxRecDepth 20000 in
theorem gX6_setChangeTimes_X6_repairs : GoodIn wsX6_setChangeTimes (wsV RX6 119 RX6 yX6_repairs wsX6_repairs) := goodIn_app (goodIn_of _ (by decide +kernel)) ggX6_setChangeTimes_X6_repairs
theorem dX6_setChangeTimes_0 : decode cX6_setChangeTimes 0 = .ok (.aload_n 0, 1) := by decide +kernel
theorem dX6_setChangeTimes_1 : decode cX6_setChangeTimes 1 = .ok (.iload_n 1, 1) := by decide +kernel
theorem dX6_setChangeTimes_2 : decode cX6_setChangeTimes 2 = .ok (.invokevirtual 109, 3) := by decide +kernel
theorem dX6_setChangeTimes_5 : decode cX6_setChangeTimes 5 = .ok (.ifCond .eq 27, 3) := by decide +kernel
theorem dX6_setChangeTimes_8 : decode cX6_setChangeTimes 8 = .ok (.iload_n 2, 1) := by decide +kernel
theorem dX6_setChangeTimes_9 : decode cX6_setChangeTimes 9 = .ok (.i2l, 1) := by decide +kernel
theorem dX6_setChangeTimes_10 : decode cX6_setChangeTimes 10 = .ok (.lconst 0, 1) := by decide +kernel
theorem dX6_setChangeTimes_11 : decode cX6_setChangeTimes 11 = .ok (.ldc2_w 122, 3) := by decide +kernel
theorem dX6_setChangeTimes_14 : decode cX6_setChangeTimes 14 = .ok (.invokestatic 44, 3) := by decide +kernel
theorem dX6_setChangeTimes_17 : decode cX6_setChangeTimes 17 = .ok (.ifCond .eq 15, 3) := by decide +kernel
theorem dX6_setChangeTimes_20 : decode cX6_setChangeTimes 20 = .ok (.iload_n 3, 1) := by decide +kernel
theorem dX6_setChangeTimes_21 : decode cX6_setChangeTimes 21 = .ok (.i2l, 1) := by decide +kernel
theorem dX6_setChangeTimes_22 : decode cX6_setChangeTimes 22 = .ok (.lconst 0, 1) := by decide +kernel
theorem dX6_setChangeTimes_23 : decode cX6_setChangeTimes 23 = .ok (.ldc2_w 122, 3) := by decide +kernel
theorem dX6_setChangeTimes_26 : decode cX6_setChangeTimes 26 = .ok (.invokestatic 44, 3) := by decide +kernel
theorem dX6_setChangeTimes_29 : decode cX6_setChangeTimes 29 = .ok (.ifCond .ne 7, 3) := by decide +kernel
theorem dX6_setChangeTimes_32 : decode cX6_setChangeTimes 32 = .ok (.sipush (-1001), 3) := by decide +kernel
theorem dX6_setChangeTimes_35 : decode cX6_setChangeTimes 35 = .ok (.ireturn, 1) := by decide +kernel
theorem dX6_setChangeTimes_36 : decode cX6_setChangeTimes 36 = .ok (.aload_n 0, 1) := by decide +kernel
theorem dX6_setChangeTimes_37 : decode cX6_setChangeTimes 37 = .ok (.invokevirtual 116, 3) := by decide +kernel
theorem dX6_setChangeTimes_40 : decode cX6_setChangeTimes 40 = .ok (.aload_n 0, 1) := by decide +kernel
theorem dX6_setChangeTimes_41 : decode cX6_setChangeTimes 41 = .ok (.getfield 7, 3) := by decide +kernel
theorem dX6_setChangeTimes_44 : decode cX6_setChangeTimes 44 = .ok (.bipush 20, 2) := by decide +kernel
theorem dX6_setChangeTimes_46 : decode cX6_setChangeTimes 46 = .ok (.iload_n 1, 1) := by decide +kernel
theorem dX6_setChangeTimes_47 : decode cX6_setChangeTimes 47 = .ok (.iadd, 1) := by decide +kernel
theorem dX6_setChangeTimes_48 : decode cX6_setChangeTimes 48 = .ok (.iload_n 2, 1) := by decide +kernel
theorem dX6_setChangeTimes_49 : decode cX6_setChangeTimes 49 = .ok (.iastore, 1) := by decide +kernel
theorem dX6_setChangeTimes_50 : decode cX6_setChangeTimes 50 = .ok (.aload_n 0, 1) := by decide +kernel
theorem dX6_setChangeTimes_51 : decode cX6_setChangeTimes 51 = .ok (.getfield 7, 3) := by decide +kernel
theorem dX6_setChangeTimes_54 : decode cX6_setChangeTimes 54 = .ok (.bipush 28, 2) := by decide +kernel
theorem dX6_setChangeTimes_56 : decode cX6_setChangeTimes 56 = .ok (.iload_n 1, 1) := by decide +kernel
theorem dX6_setChangeTimes_57 : decode cX6_setChangeTimes 57 = .ok (.iadd, 1) := by decide +kernel
theorem dX6_setChangeTimes_58 : decode cX6_setChangeTimes 58 = .ok (.iload_n 3, 1) := by decide +kernel
theorem dX6_setChangeTimes_59 : decode cX6_setChangeTimes 59 = .ok (.iastore, 1) := by decide +kernel
theorem dX6_setChangeTimes_60 : decode cX6_setChangeTimes 60 = .ok (.aload_n 0, 1) := by decide +kernel
theorem dX6_setChangeTimes_61 : decode cX6_setChangeTimes 61 = .ok (.invokevirtual 119, 3) := by decide +kernel
theorem dX6_setChangeTimes_64 : decode cX6_setChangeTimes 64 = .ok (.ireturn, 1) := by decide +kernel
theorem dX6_castBy_0 : decode cX6_castBy 0 = .ok (.iconst 0, 1) := by decide +kernel
theorem dX6_castBy_1 : decode cX6_castBy 1 = .ok (.istore_n 2, 1) := by decide +kernel
theorem dX6_castBy_2 : decode cX6_castBy 2 = .ok (.iconst 0, 1) := by decide +kernel
theorem dX6_castBy_3 : decode cX6_castBy 3 = .ok (.istore_n 3, 1) := by decide +kernel
theorem dX6_castBy_4 : decode cX6_castBy 4 = .ok (.iload_n 3, 1) := by decide +kernel
theorem dX6_castBy_5 : decode cX6_castBy 5 = .ok (.aload_n 0, 1) := by decide +kernel
theorem dX6_castBy_6 : decode cX6_castBy 6 = .ok (.getfield 7, 3) := by decide +kernel
theorem dX6_castBy_9 : decode cX6_castBy 9 = .ok (.bipush 11, 2) := by decide +kernel
theorem dX6_castBy_11 : decode cX6_castBy 11 = .ok (.iaload, 1) := by decide +kernel
theorem dX6_castBy_12 : decode cX6_castBy 12 = .ok (.if_icmp .ge 32, 3) := by decide +kernel
theorem dX6_castBy_15 : decode cX6_castBy 15 = .ok (.iload_n 2, 1) := by decide +kernel
theorem dX6_castBy_16 : decode cX6_castBy 16 = .ok (.aload_n 0, 1) := by decide +kernel
theorem dX6_castBy_17 : decode cX6_castBy 17 = .ok (.getfield 7, 3) := by decide +kernel
theorem dX6_castBy_20 : decode cX6_castBy 20 = .ok (.bipush 36, 2) := by decide +kernel
theorem dX6_castBy_22 : decode cX6_castBy 22 = .ok (.iload_n 3, 1) := by decide +kernel
theorem dX6_castBy_23 : decode cX6_castBy 23 = .ok (.iadd, 1) := by decide +kernel
theorem dX6_castBy_24 : decode cX6_castBy 24 = .ok (.iaload, 1) := by decide +kernel
theorem dX6_castBy_25 : decode cX6_castBy 25 = .ok (.iload_n 1, 1) := by decide +kernel
theorem dX6_castBy_26 : decode cX6_castBy 26 = .ok (.if_icmp .ne 9, 3) := by decide +kernel
theorem dX6_castBy_29 : decode cX6_castBy 29 = .ok (.iconst 1, 1) := by decide +kernel
theorem dX6_castBy_30 : decode cX6_castBy 30 = .ok (.iload_n 3, 1) := by decide +kernel
theorem dX6_castBy_31 : decode cX6_castBy 31 = .ok (.ishl, 1) := by decide +kernel
theorem dX6_castBy_32 : decode cX6_castBy 32 = .ok (.goto 4, 3) := by decide +kernel
theorem dX6_castBy_35 : decode cX6_castBy 35 = .ok (.iconst 0, 1) := by decide +kernel
theorem dX6_castBy_36 : decode cX6_castBy 36 = .ok (.ior, 1) := by decide +kernel
theorem dX6_castBy_37 : decode cX6_castBy 37 = .ok (.istore_n 2, 1) := by decide +kernel
theorem dX6_castBy_38 : decode cX6_castBy 38 = .ok (.iinc 3 1, 3) := by decide +kernel
theorem dX6_castBy_41 : decode cX6_castBy 41 = .ok (.goto (-37), 3) := by decide +kernel
theorem dX6_castBy_44 : decode cX6_castBy 44 = .ok (.iload_n 2, 1) := by decide +kernel
theorem dX6_castBy_45 : decode cX6_castBy 45 = .ok (.ireturn, 1) := by decide +kernel
theorem dX6_ones_0 : decode cX6_ones 0 = .ok (.iconst 0, 1) := by decide +kernel
theorem dX6_ones_1 : decode cX6_ones 1 = .ok (.istore_n 1, 1) := by decide +kernel
theorem dX6_ones_2 : decode cX6_ones 2 = .ok (.iload_n 0, 1) := by decide +kernel
theorem dX6_ones_3 : decode cX6_ones 3 = .ok (.istore_n 2, 1) := by decide +kernel
theorem dX6_ones_4 : decode cX6_ones 4 = .ok (.iload_n 2, 1) := by decide +kernel
theorem dX6_ones_5 : decode cX6_ones 5 = .ok (.ifCond .eq 15, 3) := by decide +kernel
theorem dX6_ones_8 : decode cX6_ones 8 = .ok (.iinc 1 1, 3) := by decide +kernel
theorem dX6_ones_11 : decode cX6_ones 11 = .ok (.iload_n 2, 1) := by decide +kernel
theorem dX6_ones_12 : decode cX6_ones 12 = .ok (.iload_n 2, 1) := by decide +kernel
theorem dX6_ones_13 : decode cX6_ones 13 = .ok (.iconst 1, 1) := by decide +kernel
theorem dX6_ones_14 : decode cX6_ones 14 = .ok (.isub, 1) := by decide +kernel
theorem dX6_ones_15 : decode cX6_ones 15 = .ok (.iand, 1) := by decide +kernel
theorem dX6_ones_16 : decode cX6_ones 16 = .ok (.istore_n 2, 1) := by decide +kernel
theorem dX6_ones_17 : decode cX6_ones 17 = .ok (.goto (-13), 3) := by decide +kernel
theorem dX6_ones_20 : decode cX6_ones 20 = .ok (.iload_n 1, 1) := by decide +kernel
theorem dX6_ones_21 : decode cX6_ones 21 = .ok (.ireturn, 1) := by decide +kernel
set_option maxRecDepth 20000 in
theorem ggX6_cast_X6_isRole : GoodIn wsX6_cast wsX6_isRole := goodIn_r _ [7, 2, 8, 9, 6, 10, 65, 66, 67, 68, 69, 70, 71, 72, 73, 74] (by decide +kernel) (by decide +kernel)
set_option maxRecDepth 20000 in
theorem gX6_cast_X6_isRole : GoodIn wsX6_cast (wsV RX6 109 RX6 yX6_isRole wsX6_isRole) := goodIn_app (goodIn_of _ (by decide +kernel)) ggX6_cast_X6_isRole
set_option maxRecDepth 20000 in
theorem ggX6_cast_X6_isActor : GoodIn wsX6_cast wsX6_isActor := goodIn_r _ [13, 14, 8, 9, 6, 10] (by decide +kernel) (by decide +kernel)
set_option maxRecDepth 20000 in
theorem gX6_cast_X6_isActor : GoodIn wsX6_cast (va_wsS RX6 124 yX6_isActor wsX6_isActor) := goodIn_app (goodIn_of _ (by decide +kernel)) ggX6_cast_X6_isActor
set_option maxRecDepth 20000 in
theorem ggX6_cast_X6_layConflicts : GoodIn wsX6_cast wsX6_layConflicts := goodIn_r _ [18, 2, 1, 19, 20, 21, 6, 22, 23, 24, 25, 26, 27, 28, 29, 30, 31, 32, 33, 34, 35, 36, 37, 38, 39, 40, 41, 42, 43, 44, 45, 46, 47, 48, 49, 50, 51, 65, 66, 67, 68, 69, 70, 71, 72, 73, 74] (by decide +kernel) (by decide +kernel)
set_option maxRecDepth 20000 in
theorem gX6_cast_X6_layConflicts : GoodIn wsX6_cast (wsV RX6 106 RX6 yX6_layConflicts wsX6_layConflicts) := goodIn_app (goodIn_of _ (by decide +kernel)) ggX6_cast_X6_layConflicts
set_option maxRecDepth 20000 in
theorem ggX6_cast_X6_castBy : GoodIn wsX6_cast wsX6_castBy := goodIn_r _ [55, 2, 65, 66, 67, 68, 69, 70, 71, 72, 73, 74] (by decide +kernel) (by decide +kernel)
set_option maxRecDepth 20000 in
theorem gX6_cast_X6_castBy : GoodIn wsX6_cast (wsV RX6 127 RX6 yX6_castBy wsX6_castBy) := goodIn_app (goodIn_of _ (by decide +kernel)) ggX6_cast_X6_castBy
set_option maxRecDepth 20000 in
theorem ggX6_cast_X6_keeps : GoodIn wsX6_cast wsX6_keeps := goodIn_r _ [59, 60, 61, 2, 65, 66, 67, 68, 69, 70, 71, 72, 73, 74] (by decide +kernel) (by decide +kernel)
set_option maxRecDepth 20000 in
theorem gX6_cast_X6_keeps : GoodIn wsX6_cast (wsV RX6 116 RX6 yX6_keeps wsX6_keeps) := goodIn_app (goodIn_of _ (by decide +kernel)) ggX6_cast_X6_keeps
set_option maxRecDepth 20000 in
theorem ggX6_cast_X6_ones : GoodIn wsX6_cast wsX6_ones := goodIn_r _ [64] (by decide +kernel) (by decide +kernel)
set_option maxRecDepth 20000 in
theorem gX6_cast_X6_ones : GoodIn wsX6_cast (va_wsS RX6 131 yX6_ones wsX6_ones) := goodIn_app (goodIn_of _ (by decide +kernel)) ggX6_cast_X6_ones
theorem dX6_cast_0 : decode cX6_cast 0 = .ok (.aload_n 0, 1) := by decide +kernel
theorem dX6_cast_1 : decode cX6_cast 1 = .ok (.iload_n 1, 1) := by decide +kernel
theorem dX6_cast_2 : decode cX6_cast 2 = .ok (.invokevirtual 109, 3) := by decide +kernel
theorem dX6_cast_5 : decode cX6_cast 5 = .ok (.ifCond .eq 10, 3) := by decide +kernel
theorem dX6_cast_8 : decode cX6_cast 8 = .ok (.iload_n 2, 1) := by decide +kernel
theorem dX6_cast_9 : decode cX6_cast 9 = .ok (.invokestatic 124, 3) := by decide +kernel
theorem dX6_cast_12 : decode cX6_cast 12 = .ok (.ifCond .ne 7, 3) := by decide +kernel
theorem dX6_cast_15 : decode cX6_cast 15 = .ok (.sipush (-1001), 3) := by decide +kernel
theorem dX6_cast_18 : decode cX6_cast 18 = .ok (.ireturn, 1) := by decide +kernel
theorem dX6_cast_19 : decode cX6_cast 19 = .ok (.aload_n 0, 1) := by decide +kernel
theorem dX6_cast_20 : decode cX6_cast 20 = .ok (.iconst 0, 1) := by decide +kernel
theorem dX6_cast_21 : decode cX6_cast 21 = .ok (.invokevirtual 106, 3) := by decide +kernel
theorem dX6_cast_24 : decode cX6_cast 24 = .ok (.aload_n 0, 1) := by decide +kernel
theorem dX6_cast_25 : decode cX6_cast 25 = .ok (.getfield 22, 3) := by decide +kernel
theorem dX6_cast_28 : decode cX6_cast 28 = .ok (.iload_n 1, 1) := by decide +kernel
theorem dX6_cast_29 : decode cX6_cast 29 = .ok (.iaload, 1) := by decide +kernel
theorem dX6_cast_30 : decode cX6_cast 30 = .ok (.aload_n 0, 1) := by decide +kernel
theorem dX6_cast_31 : decode cX6_cast 31 = .ok (.iload_n 2, 1) := by decide +kernel
theorem dX6_cast_32 : decode cX6_cast 32 = .ok (.invokevirtual 127, 3) := by decide +kernel
theorem dX6_cast_35 : decode cX6_cast 35 = .ok (.iand, 1) := by decide +kernel
theorem dX6_cast_36 : decode cX6_cast 36 = .ok (.ifCond .eq 7, 3) := by decide +kernel
theorem dX6_cast_39 : decode cX6_cast 39 = .ok (.sipush (-1002), 3) := by decide +kernel
theorem dX6_cast_42 : decode cX6_cast 42 = .ok (.ireturn, 1) := by decide +kernel
theorem dX6_cast_43 : decode cX6_cast 43 = .ok (.aload_n 0, 1) := by decide +kernel
theorem dX6_cast_44 : decode cX6_cast 44 = .ok (.invokevirtual 116, 3) := by decide +kernel
theorem dX6_cast_47 : decode cX6_cast 47 = .ok (.aload_n 0, 1) := by decide +kernel
theorem dX6_cast_48 : decode cX6_cast 48 = .ok (.getfield 7, 3) := by decide +kernel
theorem dX6_cast_51 : decode cX6_cast 51 = .ok (.bipush 36, 2) := by decide +kernel
theorem dX6_cast_53 : decode cX6_cast 53 = .ok (.iload_n 1, 1) := by decide +kernel
theorem dX6_cast_54 : decode cX6_cast 54 = .ok (.iadd, 1) := by decide +kernel
theorem dX6_cast_55 : decode cX6_cast 55 = .ok (.iload_n 2, 1) := by decide +kernel
theorem dX6_cast_56 : decode cX6_cast 56 = .ok (.iastore, 1) := by decide +kernel
theorem dX6_cast_57 : decode cX6_cast 57 = .ok (.aload_n 0, 1) := by decide +kernel
theorem dX6_cast_58 : decode cX6_cast 58 = .ok (.iload_n 2, 1) := by decide +kernel
theorem dX6_cast_59 : decode cX6_cast 59 = .ok (.invokevirtual 127, 3) := by decide +kernel
theorem dX6_cast_62 : decode cX6_cast 62 = .ok (.invokestatic 131, 3) := by decide +kernel
theorem dX6_cast_65 : decode cX6_cast 65 = .ok (.ireturn, 1) := by decide +kernel
set_option maxRecDepth 20000 in
theorem ggX6_uncast_X6_isRole : GoodIn wsX6_uncast wsX6_isRole := goodIn_r _ [6, 1, 7, 8, 5, 9, 16, 17, 18, 19, 20, 21, 22, 23, 24, 25] (by decide +kernel) (by decide +kernel)
set_option maxRecDepth 20000 in
theorem gX6_uncast_X6_isRole : GoodIn wsX6_uncast (wsV RX6 109 RX6 yX6_isRole wsX6_isRole) := goodIn_app (goodIn_of _ (by decide +kernel)) ggX6_uncast_X6_isRole
set_option maxRecDepth 20000 in
theorem ggX6_uncast_X6_keeps : GoodIn wsX6_uncast wsX6_keeps := goodIn_r _ [13, 14, 15, 1, 16, 17, 18, 19, 20, 21, 22, 23, 24, 25] (by decide +kernel) (by decide +kernel)
set_option maxRecDepth 20000 in
theorem gX6_uncast_X6_keeps : GoodIn wsX6_uncast (wsV RX6 116 RX6 yX6_keeps wsX6_keeps) := goodIn_app (goodIn_of _ (by decide +kernel)) ggX6_uncast_X6_keeps
theorem dX6_uncast_0 : decode cX6_uncast 0 = .ok (.aload_n 0, 1) := by decide +kernel
theorem dX6_uncast_1 : decode cX6_uncast 1 = .ok (.iload_n 1, 1) := by decide +kernel
theorem dX6_uncast_2 : decode cX6_uncast 2 = .ok (.invokevirtual 109, 3) := by decide +kernel
theorem dX6_uncast_5 : decode cX6_uncast 5 = .ok (.ifCond .ne 7, 3) := by decide +kernel
theorem dX6_uncast_8 : decode cX6_uncast 8 = .ok (.sipush (-1001), 3) := by decide +kernel
theorem dX6_uncast_11 : decode cX6_uncast 11 = .ok (.ireturn, 1) := by decide +kernel
theorem dX6_uncast_12 : decode cX6_uncast 12 = .ok (.aload_n 0, 1) := by decide +kernel
theorem dX6_uncast_13 : decode cX6_uncast 13 = .ok (.getfield 7, 3) := by decide +kernel
theorem dX6_uncast_16 : decode cX6_uncast 16 = .ok (.bipush 36, 2) := by decide +kernel
theorem dX6_uncast_18 : decode cX6_uncast 18 = .ok (.iload_n 1, 1) := by decide +kernel
theorem dX6_uncast_19 : decode cX6_uncast 19 = .ok (.iadd, 1) := by decide +kernel
theorem dX6_uncast_20 : decode cX6_uncast 20 = .ok (.iaload, 1) := by decide +kernel
theorem dX6_uncast_21 : decode cX6_uncast 21 = .ok (.istore_n 2, 1) := by decide +kernel
theorem dX6_uncast_22 : decode cX6_uncast 22 = .ok (.iload_n 2, 1) := by decide +kernel
theorem dX6_uncast_23 : decode cX6_uncast 23 = .ok (.iconst (-1), 1) := by decide +kernel
theorem dX6_uncast_24 : decode cX6_uncast 24 = .ok (.if_icmp .ne 7, 3) := by decide +kernel
theorem dX6_uncast_27 : decode cX6_uncast 27 = .ok (.sipush (-1002), 3) := by decide +kernel
theorem dX6_uncast_30 : decode cX6_uncast 30 = .ok (.ireturn, 1) := by decide +kernel
theorem dX6_uncast_31 : decode cX6_uncast 31 = .ok (.aload_n 0, 1) := by decide +kernel
theorem dX6_uncast_32 : decode cX6_uncast 32 = .ok (.invokevirtual 116, 3) := by decide +kernel
theorem dX6_uncast_35 : decode cX6_uncast 35 = .ok (.aload_n 0, 1) := by decide +kernel
theorem dX6_uncast_36 : decode cX6_uncast 36 = .ok (.getfield 7, 3) := by decide +kernel
theorem dX6_uncast_39 : decode cX6_uncast 39 = .ok (.bipush 36, 2) := by decide +kernel
theorem dX6_uncast_41 : decode cX6_uncast 41 = .ok (.iload_n 1, 1) := by decide +kernel
theorem dX6_uncast_42 : decode cX6_uncast 42 = .ok (.iadd, 1) := by decide +kernel
theorem dX6_uncast_43 : decode cX6_uncast 43 = .ok (.iconst (-1), 1) := by decide +kernel
theorem dX6_uncast_44 : decode cX6_uncast 44 = .ok (.iastore, 1) := by decide +kernel
theorem dX6_uncast_45 : decode cX6_uncast 45 = .ok (.iload_n 2, 1) := by decide +kernel
theorem dX6_uncast_46 : decode cX6_uncast 46 = .ok (.ireturn, 1) := by decide +kernel
set_option maxRecDepth 20000 in
theorem ggX6_adoptFirstCast_X6_keeps : GoodIn wsX6_adoptFirstCast wsX6_keeps := goodIn_r _ [7, 8, 9, 1, 60, 61, 62, 63, 64, 65, 66, 67, 68, 69] (by decide +kernel) (by decide +kernel)
set_option maxRecDepth 20000 in
theorem gX6_adoptFirstCast_X6_keeps : GoodIn wsX6_adoptFirstCast (wsV RX6 116 RX6 yX6_keeps wsX6_keeps) := goodIn_app (goodIn_of _ (by decide +kernel)) ggX6_adoptFirstCast_X6_keeps
set_option maxRecDepth 20000 in
theorem ggX6_adoptFirstCast_X6_leastFor : GoodIn wsX6_adoptFirstCast wsX6_leastFor := goodIn_r _ [13, 14, 15, 16, 6, 17, 1, 18, 19, 20, 21, 22, 23, 24, 25, 26, 27, 28, 29, 30, 31, 32, 33, 34, 35, 36, 37, 38, 39, 40, 41, 42, 43, 44, 45, 46, 47, 48, 49, 50, 51, 52, 53, 54, 55, 2, 56, 57, 58, 59, 60, 61, 62, 63, 64, 65, 66, 67, 68, 69] (by decide +kernel) (by decide +kernel)
set_option maxRecDepth 20000 in
theorem gX6_adoptFirstCast_X6_leastFor : GoodIn wsX6_adoptFirstCast (wsV RX6 134 RX6 yX6_leastFor wsX6_leastFor) := goodIn_app (goodIn_of _ (by decide +kernel)) ggX6_adoptFirstCast_X6_leastFor
theorem dX6_adoptFirstCast_0 : decode cX6_adoptFirstCast 0 = .ok (.aload_n 0, 1) := by decide +kernel
theorem dX6_adoptFirstCast_1 : decode cX6_adoptFirstCast 1 = .ok (.invokevirtual 116, 3) := by decide +kernel
theorem dX6_adoptFirstCast_4 : decode cX6_adoptFirstCast 4 = .ok (.aload_n 0, 1) := by decide +kernel
theorem dX6_adoptFirstCast_5 : decode cX6_adoptFirstCast 5 = .ok (.iconst 0, 1) := by decide +kernel
theorem dX6_adoptFirstCast_6 : decode cX6_adoptFirstCast 6 = .ok (.invokevirtual 134, 3) := by decide +kernel
theorem dX6_adoptFirstCast_9 : decode cX6_adoptFirstCast 9 = .ok (.istore_n 1, 1) := by decide +kernel
theorem dX6_adoptFirstCast_10 : decode cX6_adoptFirstCast 10 = .ok (.iconst 0, 1) := by decide +kernel
theorem dX6_adoptFirstCast_11 : decode cX6_adoptFirstCast 11 = .ok (.istore_n 2, 1) := by decide +kernel
theorem dX6_adoptFirstCast_12 : decode cX6_adoptFirstCast 12 = .ok (.iload_n 2, 1) := by decide +kernel
theorem dX6_adoptFirstCast_13 : decode cX6_adoptFirstCast 13 = .ok (.aload_n 0, 1) := by decide +kernel
theorem dX6_adoptFirstCast_14 : decode cX6_adoptFirstCast 14 = .ok (.getfield 7, 3) := by decide +kernel
theorem dX6_adoptFirstCast_17 : decode cX6_adoptFirstCast 17 = .ok (.bipush 11, 2) := by decide +kernel
theorem dX6_adoptFirstCast_19 : decode cX6_adoptFirstCast 19 = .ok (.iaload, 1) := by decide +kernel
theorem dX6_adoptFirstCast_20 : decode cX6_adoptFirstCast 20 = .ok (.if_icmp .ge 24, 3) := by decide +kernel
theorem dX6_adoptFirstCast_23 : decode cX6_adoptFirstCast 23 = .ok (.aload_n 0, 1) := by decide +kernel
theorem dX6_adoptFirstCast_24 : decode cX6_adoptFirstCast 24 = .ok (.getfield 7, 3) := by decide +kernel
theorem dX6_adoptFirstCast_27 : decode cX6_adoptFirstCast 27 = .ok (.bipush 36, 2) := by decide +kernel
theorem dX6_adoptFirstCast_29 : decode cX6_adoptFirstCast 29 = .ok (.iload_n 2, 1) := by decide +kernel
theorem dX6_adoptFirstCast_30 : decode cX6_adoptFirstCast 30 = .ok (.iadd, 1) := by decide +kernel
theorem dX6_adoptFirstCast_31 : decode cX6_adoptFirstCast 31 = .ok (.aload_n 0, 1) := by decide +kernel
theorem dX6_adoptFirstCast_32 : decode cX6_adoptFirstCast 32 = .ok (.getfield 25, 3) := by decide +kernel
theorem dX6_adoptFirstCast_35 : decode cX6_adoptFirstCast 35 = .ok (.iload_n 2, 1) := by decide +kernel
theorem dX6_adoptFirstCast_36 : decode cX6_adoptFirstCast 36 = .ok (.iaload, 1) := by decide +kernel
theorem dX6_adoptFirstCast_37 : decode cX6_adoptFirstCast 37 = .ok (.iastore, 1) := by decide +kernel
theorem dX6_adoptFirstCast_38 : decode cX6_adoptFirstCast 38 = .ok (.iinc 2 1, 3) := by decide +kernel
theorem dX6_adoptFirstCast_41 : decode cX6_adoptFirstCast 41 = .ok (.goto (-29), 3) := by decide +kernel
theorem dX6_adoptFirstCast_44 : decode cX6_adoptFirstCast 44 = .ok (.iload_n 1, 1) := by decide +kernel
theorem dX6_adoptFirstCast_45 : decode cX6_adoptFirstCast 45 = .ok (.ireturn, 1) := by decide +kernel
theorem dX6_roleCount_0 : decode cX6_roleCount 0 = .ok (.aload_n 0, 1) := by decide +kernel
theorem dX6_roleCount_1 : decode cX6_roleCount 1 = .ok (.getfield 7, 3) := by decide +kernel
theorem dX6_roleCount_4 : decode cX6_roleCount 4 = .ok (.bipush 11, 2) := by decide +kernel
theorem dX6_roleCount_6 : decode cX6_roleCount 6 = .ok (.iaload, 1) := by decide +kernel
theorem dX6_roleCount_7 : decode cX6_roleCount 7 = .ok (.ireturn, 1) := by decide +kernel
theorem dX6_appearanceCount_0 : decode cX6_appearanceCount 0 = .ok (.aload_n 0, 1) := by decide +kernel
theorem dX6_appearanceCount_1 : decode cX6_appearanceCount 1 = .ok (.getfield 7, 3) := by decide +kernel
theorem dX6_appearanceCount_4 : decode cX6_appearanceCount 4 = .ok (.bipush 44, 2) := by decide +kernel
theorem dX6_appearanceCount_6 : decode cX6_appearanceCount 6 = .ok (.iaload, 1) := by decide +kernel
theorem dX6_appearanceCount_7 : decode cX6_appearanceCount 7 = .ok (.ireturn, 1) := by decide +kernel
theorem dX6_sceneStart_0 : decode cX6_sceneStart 0 = .ok (.iconst 0, 1) := by decide +kernel
theorem dX6_sceneStart_1 : decode cX6_sceneStart 1 = .ok (.istore_n 2, 1) := by decide +kernel
theorem dX6_sceneStart_2 : decode cX6_sceneStart 2 = .ok (.iconst 0, 1) := by decide +kernel
theorem dX6_sceneStart_3 : decode cX6_sceneStart 3 = .ok (.istore_n 3, 1) := by decide +kernel
theorem dX6_sceneStart_4 : decode cX6_sceneStart 4 = .ok (.iload_n 3, 1) := by decide +kernel
theorem dX6_sceneStart_5 : decode cX6_sceneStart 5 = .ok (.iload_n 1, 1) := by decide +kernel
theorem dX6_sceneStart_6 : decode cX6_sceneStart 6 = .ok (.if_icmp .ge 20, 3) := by decide +kernel
theorem dX6_sceneStart_9 : decode cX6_sceneStart 9 = .ok (.iload_n 2, 1) := by decide +kernel
theorem dX6_sceneStart_10 : decode cX6_sceneStart 10 = .ok (.aload_n 0, 1) := by decide +kernel
theorem dX6_sceneStart_11 : decode cX6_sceneStart 11 = .ok (.getfield 7, 3) := by decide +kernel
theorem dX6_sceneStart_14 : decode cX6_sceneStart 14 = .ok (.iconst 1, 1) := by decide +kernel
theorem dX6_sceneStart_15 : decode cX6_sceneStart 15 = .ok (.iload_n 3, 1) := by decide +kernel
theorem dX6_sceneStart_16 : decode cX6_sceneStart 16 = .ok (.iadd, 1) := by decide +kernel
theorem dX6_sceneStart_17 : decode cX6_sceneStart 17 = .ok (.iaload, 1) := by decide +kernel
theorem dX6_sceneStart_18 : decode cX6_sceneStart 18 = .ok (.iadd, 1) := by decide +kernel
theorem dX6_sceneStart_19 : decode cX6_sceneStart 19 = .ok (.istore_n 2, 1) := by decide +kernel
theorem dX6_sceneStart_20 : decode cX6_sceneStart 20 = .ok (.iinc 3 1, 3) := by decide +kernel
theorem dX6_sceneStart_23 : decode cX6_sceneStart 23 = .ok (.goto (-19), 3) := by decide +kernel
theorem dX6_sceneStart_26 : decode cX6_sceneStart 26 = .ok (.iload_n 2, 1) := by decide +kernel
theorem dX6_sceneStart_27 : decode cX6_sceneStart 27 = .ok (.ireturn, 1) := by decide +kernel
set_option maxRecDepth 20000 in
theorem ggX6_playLength_X6_sceneStart : GoodIn wsX6_playLength wsX6_sceneStart := goodIn_r _ [6, 1, 7, 8, 9, 10, 11, 12, 13, 14, 15, 16] (by decide +kernel) (by decide +kernel)
set_option maxRecDepth 20000 in
theorem gX6_playLength_X6_sceneStart : GoodIn wsX6_playLength (wsV RX6 137 RX6 yX6_sceneStart wsX6_sceneStart) := goodIn_app (goodIn_of _ (by decide +kernel)) ggX6_playLength_X6_sceneStart
theorem dX6_playLength_0 : decode cX6_playLength 0 = .ok (.aload_n 0, 1) := by decide +kernel
theorem dX6_playLength_1 : decode cX6_playLength 1 = .ok (.aload_n 0, 1) := by decide +kernel
theorem dX6_playLength_2 : decode cX6_playLength 2 = .ok (.getfield 7, 3) := by decide +kernel
theorem dX6_playLength_5 : decode cX6_playLength 5 = .ok (.iconst 0, 1) := by decide +kernel
theorem dX6_playLength_6 : decode cX6_playLength 6 = .ok (.iaload, 1) := by decide +kernel
theorem dX6_playLength_7 : decode cX6_playLength 7 = .ok (.invokevirtual 137, 3) := by decide +kernel
theorem dX6_playLength_10 : decode cX6_playLength 10 = .ok (.ireturn, 1) := by decide +kernel
theorem dX6_roleOf_0 : decode cX6_roleOf 0 = .ok (.aload_n 0, 1) := by decide +kernel
theorem dX6_roleOf_1 : decode cX6_roleOf 1 = .ok (.getfield 7, 3) := by decide +kernel
theorem dX6_roleOf_4 : decode cX6_roleOf 4 = .ok (.bipush 45, 2) := by decide +kernel
theorem dX6_roleOf_6 : decode cX6_roleOf 6 = .ok (.iconst 4, 1) := by decide +kernel
theorem dX6_roleOf_7 : decode cX6_roleOf 7 = .ok (.iload_n 1, 1) := by decide +kernel
theorem dX6_roleOf_8 : decode cX6_roleOf 8 = .ok (.imul, 1) := by decide +kernel
theorem dX6_roleOf_9 : decode cX6_roleOf 9 = .ok (.iadd, 1) := by decide +kernel
theorem dX6_roleOf_10 : decode cX6_roleOf 10 = .ok (.iaload, 1) := by decide +kernel
theorem dX6_roleOf_11 : decode cX6_roleOf 11 = .ok (.ireturn, 1) := by decide +kernel
set_option maxRecDepth 20000 in
theorem ggX6_enters_X6_sceneStart : GoodIn wsX6_enters wsX6_sceneStart := goodIn_r _ [6, 1, 7, 8, 9, 10, 11, 12, 13, 14, 15, 16] (by decide +kernel) (by decide +kernel)
set_option maxRecDepth 20000 in
theorem gX6_enters_X6_sceneStart : GoodIn wsX6_enters (wsV RX6 137 RX6 yX6_sceneStart wsX6_sceneStart) := goodIn_app (goodIn_of _ (by decide +kernel)) ggX6_enters_X6_sceneStart
theorem dX6_enters_0 : decode cX6_enters 0 = .ok (.aload_n 0, 1) := by decide +kernel
theorem dX6_enters_1 : decode cX6_enters 1 = .ok (.aload_n 0, 1) := by decide +kernel
theorem dX6_enters_2 : decode cX6_enters 2 = .ok (.getfield 7, 3) := by decide +kernel
