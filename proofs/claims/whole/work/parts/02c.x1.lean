theorem dX1_init_0 : decode cX1_init 0 = .ok (.aload_n 0, 1) := by decide +kernel
theorem dX1_init_1 : decode cX1_init 1 = .ok (.invokespecial 3, 3) := by decide +kernel
theorem dX1_init_4 : decode cX1_init 4 = .ok (.aload_n 0, 1) := by decide +kernel
theorem dX1_init_5 : decode cX1_init 5 = .ok (.iconst 0, 1) := by decide +kernel
theorem dX1_init_6 : decode cX1_init 6 = .ok (.putfield 9, 3) := by decide +kernel
theorem dX1_init_9 : decode cX1_init 9 = .ok (.aload_n 0, 1) := by decide +kernel
theorem dX1_init_10 : decode cX1_init 10 = .ok (.bipush 16, 2) := by decide +kernel
theorem dX1_init_12 : decode cX1_init 12 = .ok (.newarray .long, 2) := by decide +kernel
theorem dX1_init_14 : decode cX1_init 14 = .ok (.putfield 15, 3) := by decide +kernel
theorem dX1_init_17 : decode cX1_init 17 = .ok (.aload_n 0, 1) := by decide +kernel
theorem dX1_init_18 : decode cX1_init 18 = .ok (.bipush 16, 2) := by decide +kernel
theorem dX1_init_20 : decode cX1_init 20 = .ok (.newarray .long, 2) := by decide +kernel
theorem dX1_init_22 : decode cX1_init 22 = .ok (.putfield 19, 3) := by decide +kernel
theorem dX1_init_25 : decode cX1_init 25 = .ok (.return_, 1) := by decide +kernel
theorem dX1_clear_0 : decode cX1_clear 0 = .ok (.aload_n 0, 1) := by decide +kernel
theorem dX1_clear_1 : decode cX1_clear 1 = .ok (.iconst 0, 1) := by decide +kernel
theorem dX1_clear_2 : decode cX1_clear 2 = .ok (.putfield 9, 3) := by decide +kernel
theorem dX1_clear_5 : decode cX1_clear 5 = .ok (.return_, 1) := by decide +kernel
theorem dX1_add_0 : decode cX1_add 0 = .ok (.aload_n 0, 1) := by decide +kernel
theorem dX1_add_1 : decode cX1_add 1 = .ok (.getfield 9, 3) := by decide +kernel
theorem dX1_add_4 : decode cX1_add 4 = .ok (.bipush 16, 2) := by decide +kernel
theorem dX1_add_6 : decode cX1_add 6 = .ok (.if_icmp .ge 33, 3) := by decide +kernel
theorem dX1_add_9 : decode cX1_add 9 = .ok (.aload_n 0, 1) := by decide +kernel
theorem dX1_add_10 : decode cX1_add 10 = .ok (.getfield 15, 3) := by decide +kernel
theorem dX1_add_13 : decode cX1_add 13 = .ok (.aload_n 0, 1) := by decide +kernel
theorem dX1_add_14 : decode cX1_add 14 = .ok (.getfield 9, 3) := by decide +kernel
theorem dX1_add_17 : decode cX1_add 17 = .ok (.lload_n 1, 1) := by decide +kernel
theorem dX1_add_18 : decode cX1_add 18 = .ok (.lastore, 1) := by decide +kernel
theorem dX1_add_19 : decode cX1_add 19 = .ok (.aload_n 0, 1) := by decide +kernel
theorem dX1_add_20 : decode cX1_add 20 = .ok (.getfield 19, 3) := by decide +kernel
theorem dX1_add_23 : decode cX1_add 23 = .ok (.aload_n 0, 1) := by decide +kernel
theorem dX1_add_24 : decode cX1_add 24 = .ok (.getfield 9, 3) := by decide +kernel
theorem dX1_add_27 : decode cX1_add 27 = .ok (.lload_n 3, 1) := by decide +kernel
theorem dX1_add_28 : decode cX1_add 28 = .ok (.lastore, 1) := by decide +kernel
theorem dX1_add_29 : decode cX1_add 29 = .ok (.aload_n 0, 1) := by decide +kernel
theorem dX1_add_30 : decode cX1_add 30 = .ok (.dup, 1) := by decide +kernel
theorem dX1_add_31 : decode cX1_add 31 = .ok (.getfield 9, 3) := by decide +kernel
theorem dX1_add_34 : decode cX1_add 34 = .ok (.iconst 1, 1) := by decide +kernel
theorem dX1_add_35 : decode cX1_add 35 = .ok (.iadd, 1) := by decide +kernel
theorem dX1_add_36 : decode cX1_add 36 = .ok (.putfield 9, 3) := by decide +kernel
theorem dX1_add_39 : decode cX1_add 39 = .ok (.return_, 1) := by decide +kernel
set_option maxRecDepth 20000 in
theorem ggX1_nearest_X1_firstAtMost : GoodIn wsX1_nearest wsX1_firstAtMost := goodIn_r _ [5, 6, 7, 8, 4, 9, 10, 11, 12, 13, 14, 15] (by decide +kernel) (by decide +kernel)
set_option maxRecDepth 20000 in
theorem gX1_nearest_X1_firstAtMost : GoodIn wsX1_nearest (wsV RX1 22 RX1 yX1_firstAtMost wsX1_firstAtMost) := goodIn_app (goodIn_of _ (by decide +kernel)) ggX1_nearest_X1_firstAtMost
set_option maxRecDepth 20000 in
theorem ggX1_nearest_X1_sum : GoodIn wsX1_nearest wsX1_sum := goodIn_r _ [9, 10, 11, 12, 13, 14, 15] (by decide +kernel) (by decide +kernel)
set_option maxRecDepth 20000 in
theorem gX1_nearest_X1_sum : GoodIn wsX1_nearest (wsV RX1 26 RX1 yX1_sum wsX1_sum) := goodIn_app (goodIn_of _ (by decide +kernel)) ggX1_nearest_X1_sum
theorem dX1_nearest_0 : decode cX1_nearest 0 = .ok (.aload_n 0, 1) := by decide +kernel
theorem dX1_nearest_1 : decode cX1_nearest 1 = .ok (.iload_n 1, 1) := by decide +kernel
theorem dX1_nearest_2 : decode cX1_nearest 2 = .ok (.iload_n 2, 1) := by decide +kernel
theorem dX1_nearest_3 : decode cX1_nearest 3 = .ok (.lload_n 3, 1) := by decide +kernel
theorem dX1_nearest_4 : decode cX1_nearest 4 = .ok (.invokevirtual 22, 3) := by decide +kernel
theorem dX1_nearest_7 : decode cX1_nearest 7 = .ok (.istore 5, 2) := by decide +kernel
theorem dX1_nearest_9 : decode cX1_nearest 9 = .ok (.iload 5, 2) := by decide +kernel
theorem dX1_nearest_11 : decode cX1_nearest 11 = .ok (.iload_n 1, 1) := by decide +kernel
theorem dX1_nearest_12 : decode cX1_nearest 12 = .ok (.if_icmp .ne 5, 3) := by decide +kernel
theorem dX1_nearest_15 : decode cX1_nearest 15 = .ok (.iload_n 1, 1) := by decide +kernel
theorem dX1_nearest_16 : decode cX1_nearest 16 = .ok (.ireturn, 1) := by decide +kernel
theorem dX1_nearest_17 : decode cX1_nearest 17 = .ok (.aload_n 0, 1) := by decide +kernel
theorem dX1_nearest_18 : decode cX1_nearest 18 = .ok (.iload 5, 2) := by decide +kernel
theorem dX1_nearest_20 : decode cX1_nearest 20 = .ok (.iconst 1, 1) := by decide +kernel
theorem dX1_nearest_21 : decode cX1_nearest 21 = .ok (.isub, 1) := by decide +kernel
theorem dX1_nearest_22 : decode cX1_nearest 22 = .ok (.invokevirtual 26, 3) := by decide +kernel
theorem dX1_nearest_25 : decode cX1_nearest 25 = .ok (.lstore 6, 2) := by decide +kernel
theorem dX1_nearest_27 : decode cX1_nearest 27 = .ok (.iload 5, 2) := by decide +kernel
theorem dX1_nearest_29 : decode cX1_nearest 29 = .ok (.iload_n 2, 1) := by decide +kernel
theorem dX1_nearest_30 : decode cX1_nearest 30 = .ok (.if_icmp .gt 22, 3) := by decide +kernel
theorem dX1_nearest_33 : decode cX1_nearest 33 = .ok (.lload_n 3, 1) := by decide +kernel
theorem dX1_nearest_34 : decode cX1_nearest 34 = .ok (.aload_n 0, 1) := by decide +kernel
theorem dX1_nearest_35 : decode cX1_nearest 35 = .ok (.iload 5, 2) := by decide +kernel
theorem dX1_nearest_37 : decode cX1_nearest 37 = .ok (.invokevirtual 26, 3) := by decide +kernel
theorem dX1_nearest_40 : decode cX1_nearest 40 = .ok (.lsub, 1) := by decide +kernel
theorem dX1_nearest_41 : decode cX1_nearest 41 = .ok (.lload 6, 2) := by decide +kernel
theorem dX1_nearest_43 : decode cX1_nearest 43 = .ok (.lload_n 3, 1) := by decide +kernel
theorem dX1_nearest_44 : decode cX1_nearest 44 = .ok (.lsub, 1) := by decide +kernel
theorem dX1_nearest_45 : decode cX1_nearest 45 = .ok (.lcmp, 1) := by decide +kernel
theorem dX1_nearest_46 : decode cX1_nearest 46 = .ok (.ifCond .ge 6, 3) := by decide +kernel
theorem dX1_nearest_49 : decode cX1_nearest 49 = .ok (.iload 5, 2) := by decide +kernel
theorem dX1_nearest_51 : decode cX1_nearest 51 = .ok (.ireturn, 1) := by decide +kernel
theorem dX1_nearest_52 : decode cX1_nearest 52 = .ok (.aload_n 0, 1) := by decide +kernel
theorem dX1_nearest_53 : decode cX1_nearest 53 = .ok (.iload_n 1, 1) := by decide +kernel
theorem dX1_nearest_54 : decode cX1_nearest 54 = .ok (.iload_n 2, 1) := by decide +kernel
theorem dX1_nearest_55 : decode cX1_nearest 55 = .ok (.lload 6, 2) := by decide +kernel
theorem dX1_nearest_57 : decode cX1_nearest 57 = .ok (.invokevirtual 22, 3) := by decide +kernel
theorem dX1_nearest_60 : decode cX1_nearest 60 = .ok (.ireturn, 1) := by decide +kernel
set_option maxRecDepth 20000 in
theorem ggX1_firstAtMost_X1_sum : GoodIn wsX1_firstAtMost wsX1_sum := goodIn_r _ [5, 6, 7, 8, 9, 10, 11] (by decide +kernel) (by decide +kernel)
set_option maxRecDepth 20000 in
theorem gX1_firstAtMost_X1_sum : GoodIn wsX1_firstAtMost (wsV RX1 26 RX1 yX1_sum wsX1_sum) := goodIn_app (goodIn_of _ (by decide +kernel)) ggX1_firstAtMost_X1_sum
theorem dX1_firstAtMost_0 : decode cX1_firstAtMost 0 = .ok (.iload_n 1, 1) := by decide +kernel
theorem dX1_firstAtMost_1 : decode cX1_firstAtMost 1 = .ok (.iconst 1, 1) := by decide +kernel
theorem dX1_firstAtMost_2 : decode cX1_firstAtMost 2 = .ok (.isub, 1) := by decide +kernel
theorem dX1_firstAtMost_3 : decode cX1_firstAtMost 3 = .ok (.istore 5, 2) := by decide +kernel
theorem dX1_firstAtMost_5 : decode cX1_firstAtMost 5 = .ok (.sipush 4096, 3) := by decide +kernel
theorem dX1_firstAtMost_8 : decode cX1_firstAtMost 8 = .ok (.istore 6, 2) := by decide +kernel
theorem dX1_firstAtMost_10 : decode cX1_firstAtMost 10 = .ok (.iload 6, 2) := by decide +kernel
theorem dX1_firstAtMost_12 : decode cX1_firstAtMost 12 = .ok (.ifCond .le 42, 3) := by decide +kernel
theorem dX1_firstAtMost_15 : decode cX1_firstAtMost 15 = .ok (.iload 5, 2) := by decide +kernel
theorem dX1_firstAtMost_17 : decode cX1_firstAtMost 17 = .ok (.iload 6, 2) := by decide +kernel
theorem dX1_firstAtMost_19 : decode cX1_firstAtMost 19 = .ok (.iadd, 1) := by decide +kernel
theorem dX1_firstAtMost_20 : decode cX1_firstAtMost 20 = .ok (.iload_n 2, 1) := by decide +kernel
theorem dX1_firstAtMost_21 : decode cX1_firstAtMost 21 = .ok (.if_icmp .gt 24, 3) := by decide +kernel
theorem dX1_firstAtMost_24 : decode cX1_firstAtMost 24 = .ok (.aload_n 0, 1) := by decide +kernel
theorem dX1_firstAtMost_25 : decode cX1_firstAtMost 25 = .ok (.iload 5, 2) := by decide +kernel
theorem dX1_firstAtMost_27 : decode cX1_firstAtMost 27 = .ok (.iload 6, 2) := by decide +kernel
theorem dX1_firstAtMost_29 : decode cX1_firstAtMost 29 = .ok (.iadd, 1) := by decide +kernel
theorem dX1_firstAtMost_30 : decode cX1_firstAtMost 30 = .ok (.invokevirtual 26, 3) := by decide +kernel
theorem dX1_firstAtMost_33 : decode cX1_firstAtMost 33 = .ok (.lload_n 3, 1) := by decide +kernel
theorem dX1_firstAtMost_34 : decode cX1_firstAtMost 34 = .ok (.lcmp, 1) := by decide +kernel
theorem dX1_firstAtMost_35 : decode cX1_firstAtMost 35 = .ok (.ifCond .le 10, 3) := by decide +kernel
theorem dX1_firstAtMost_38 : decode cX1_firstAtMost 38 = .ok (.iload 5, 2) := by decide +kernel
theorem dX1_firstAtMost_40 : decode cX1_firstAtMost 40 = .ok (.iload 6, 2) := by decide +kernel
theorem dX1_firstAtMost_42 : decode cX1_firstAtMost 42 = .ok (.iadd, 1) := by decide +kernel
theorem dX1_firstAtMost_43 : decode cX1_firstAtMost 43 = .ok (.istore 5, 2) := by decide +kernel
theorem dX1_firstAtMost_45 : decode cX1_firstAtMost 45 = .ok (.iload 6, 2) := by decide +kernel
theorem dX1_firstAtMost_47 : decode cX1_firstAtMost 47 = .ok (.iconst 2, 1) := by decide +kernel
theorem dX1_firstAtMost_48 : decode cX1_firstAtMost 48 = .ok (.idiv, 1) := by decide +kernel
theorem dX1_firstAtMost_49 : decode cX1_firstAtMost 49 = .ok (.istore 6, 2) := by decide +kernel
theorem dX1_firstAtMost_51 : decode cX1_firstAtMost 51 = .ok (.goto (-41), 3) := by decide +kernel
theorem dX1_firstAtMost_54 : decode cX1_firstAtMost 54 = .ok (.iload 5, 2) := by decide +kernel
theorem dX1_firstAtMost_56 : decode cX1_firstAtMost 56 = .ok (.iconst 1, 1) := by decide +kernel
theorem dX1_firstAtMost_57 : decode cX1_firstAtMost 57 = .ok (.iadd, 1) := by decide +kernel
theorem dX1_firstAtMost_58 : decode cX1_firstAtMost 58 = .ok (.ireturn, 1) := by decide +kernel
theorem dX1_sum_0 : decode cX1_sum 0 = .ok (.lconst 0, 1) := by decide +kernel
theorem dX1_sum_1 : decode cX1_sum 1 = .ok (.lstore_n 2, 1) := by decide +kernel
theorem dX1_sum_2 : decode cX1_sum 2 = .ok (.iconst 0, 1) := by decide +kernel
theorem dX1_sum_3 : decode cX1_sum 3 = .ok (.istore 4, 2) := by decide +kernel
theorem dX1_sum_5 : decode cX1_sum 5 = .ok (.iload 4, 2) := by decide +kernel
theorem dX1_sum_7 : decode cX1_sum 7 = .ok (.aload_n 0, 1) := by decide +kernel
theorem dX1_sum_8 : decode cX1_sum 8 = .ok (.getfield 9, 3) := by decide +kernel
theorem dX1_sum_11 : decode cX1_sum 11 = .ok (.if_icmp .ge 41, 3) := by decide +kernel
theorem dX1_sum_14 : decode cX1_sum 14 = .ok (.aload_n 0, 1) := by decide +kernel
theorem dX1_sum_15 : decode cX1_sum 15 = .ok (.getfield 19, 3) := by decide +kernel
theorem dX1_sum_18 : decode cX1_sum 18 = .ok (.iload 4, 2) := by decide +kernel
theorem dX1_sum_20 : decode cX1_sum 20 = .ok (.laload, 1) := by decide +kernel
theorem dX1_sum_21 : decode cX1_sum 21 = .ok (.iload_n 1, 1) := by decide +kernel
theorem dX1_sum_22 : decode cX1_sum 22 = .ok (.i2l, 1) := by decide +kernel
theorem dX1_sum_23 : decode cX1_sum 23 = .ok (.lmul, 1) := by decide +kernel
theorem dX1_sum_24 : decode cX1_sum 24 = .ok (.lstore 5, 2) := by decide +kernel
theorem dX1_sum_26 : decode cX1_sum 26 = .ok (.lload 5, 2) := by decide +kernel
theorem dX1_sum_28 : decode cX1_sum 28 = .ok (.lconst 0, 1) := by decide +kernel
theorem dX1_sum_29 : decode cX1_sum 29 = .ok (.lcmp, 1) := by decide +kernel
theorem dX1_sum_30 : decode cX1_sum 30 = .ok (.ifCond .le 16, 3) := by decide +kernel
theorem dX1_sum_33 : decode cX1_sum 33 = .ok (.lload_n 2, 1) := by decide +kernel
theorem dX1_sum_34 : decode cX1_sum 34 = .ok (.aload_n 0, 1) := by decide +kernel
theorem dX1_sum_35 : decode cX1_sum 35 = .ok (.getfield 15, 3) := by decide +kernel
theorem dX1_sum_38 : decode cX1_sum 38 = .ok (.iload 4, 2) := by decide +kernel
theorem dX1_sum_40 : decode cX1_sum 40 = .ok (.laload, 1) := by decide +kernel
theorem dX1_sum_41 : decode cX1_sum 41 = .ok (.lload 5, 2) := by decide +kernel
theorem dX1_sum_43 : decode cX1_sum 43 = .ok (.ldiv, 1) := by decide +kernel
theorem dX1_sum_44 : decode cX1_sum 44 = .ok (.ladd, 1) := by decide +kernel
theorem dX1_sum_45 : decode cX1_sum 45 = .ok (.lstore_n 2, 1) := by decide +kernel
theorem dX1_sum_46 : decode cX1_sum 46 = .ok (.iinc 4 1, 3) := by decide +kernel
theorem dX1_sum_49 : decode cX1_sum 49 = .ok (.goto (-44), 3) := by decide +kernel
theorem dX1_sum_52 : decode cX1_sum 52 = .ok (.lload_n 2, 1) := by decide +kernel
theorem dX1_sum_53 : decode cX1_sum 53 = .ok (.lreturn, 1) := by decide +kernel
set_option maxRecDepth 20000 in
theorem ggX2_init_X0_init : GoodIn wsX2_init wsX0_init := goodIn_r _ [11, 12, 2, 3, 13, 14, 15, 16, 17, 18, 19, 20, 21, 22, 23, 24, 25, 26, 30, 31, 32, 33, 34, 35, 36, 37, 38, 39, 40, 41] (by decide +kernel) (by decide +kernel)
set_option maxRecDepth 20000 in
theorem gX2_init_X0_init_n24 : GoodIn wsX2_init (wsX0_init) := ggX2_init_X0_init
theorem dX2_init_0 : decode cX2_init 0 = .ok (.aload_n 0, 1) := by decide +kernel
theorem dX2_init_1 : decode cX2_init 1 = .ok (.invokespecial 3, 3) := by decide +kernel
theorem dX2_init_4 : decode cX2_init 4 = .ok (.aload_n 0, 1) := by decide +kernel
theorem dX2_init_5 : decode cX2_init 5 = .ok (.bipush 9, 2) := by decide +kernel
theorem dX2_init_7 : decode cX2_init 7 = .ok (.anewarray 11, 3) := by decide +kernel
theorem dX2_init_10 : decode cX2_init 10 = .ok (.putfield 13, 3) := by decide +kernel
theorem dX2_init_13 : decode cX2_init 13 = .ok (.aload_n 0, 1) := by decide +kernel
theorem dX2_init_14 : decode cX2_init 14 = .ok (.iconst 0, 1) := by decide +kernel
theorem dX2_init_15 : decode cX2_init 15 = .ok (.putfield 17, 3) := by decide +kernel
theorem dX2_init_18 : decode cX2_init 18 = .ok (.aload_n 0, 1) := by decide +kernel
theorem dX2_init_19 : decode cX2_init 19 = .ok (.iconst 0, 1) := by decide +kernel
theorem dX2_init_20 : decode cX2_init 20 = .ok (.putfield 21, 3) := by decide +kernel
theorem dX2_init_23 : decode cX2_init 23 = .ok (.iconst 0, 1) := by decide +kernel
theorem dX2_init_24 : decode cX2_init 24 = .ok (.istore_n 1, 1) := by decide +kernel
theorem dX2_init_25 : decode cX2_init 25 = .ok (.iload_n 1, 1) := by decide +kernel
theorem dX2_init_26 : decode cX2_init 26 = .ok (.bipush 9, 2) := by decide +kernel
theorem dX2_init_28 : decode cX2_init 28 = .ok (.if_icmp .ge 22, 3) := by decide +kernel
theorem dX2_init_31 : decode cX2_init 31 = .ok (.aload_n 0, 1) := by decide +kernel
theorem dX2_init_32 : decode cX2_init 32 = .ok (.getfield 13, 3) := by decide +kernel
theorem dX2_init_35 : decode cX2_init 35 = .ok (.iload_n 1, 1) := by decide +kernel
theorem dX2_init_36 : decode cX2_init 36 = .ok (.new 11, 3) := by decide +kernel
theorem dX2_init_39 : decode cX2_init 39 = .ok (.dup, 1) := by decide +kernel
theorem dX2_init_40 : decode cX2_init 40 = .ok (.invokespecial 24, 3) := by decide +kernel
theorem dX2_init_43 : decode cX2_init 43 = .ok (.aastore, 1) := by decide +kernel
theorem dX2_init_44 : decode cX2_init 44 = .ok (.iinc 1 1, 3) := by decide +kernel
theorem dX2_init_47 : decode cX2_init 47 = .ok (.goto (-22), 3) := by decide +kernel
theorem dX2_init_50 : decode cX2_init 50 = .ok (.return_, 1) := by decide +kernel
set_option maxRecDepth 20000 in
theorem ggX2_prepare_X0_copyFrom : GoodIn wsX2_prepare wsX0_copyFrom := goodIn_r _ [8, 9, 10, 11, 12, 13, 14, 15, 16, 17, 18, 19, 20, 21, 22, 23, 24, 28, 29, 30, 31, 32, 33, 34, 35, 36, 37, 38, 39] (by decide +kernel) (by decide +kernel)
set_option maxRecDepth 20000 in
theorem gX2_prepare_X0_copyFrom : GoodIn wsX2_prepare (wsV RX2 25 RX0 yX0_copyFrom wsX0_copyFrom) := goodIn_app (goodIn_of _ (by decide +kernel)) ggX2_prepare_X0_copyFrom
theorem dX2_prepare_0 : decode cX2_prepare 0 = .ok (.aload_n 0, 1) := by decide +kernel
theorem dX2_prepare_1 : decode cX2_prepare 1 = .ok (.getfield 13, 3) := by decide +kernel
theorem dX2_prepare_4 : decode cX2_prepare 4 = .ok (.aload_n 0, 1) := by decide +kernel
theorem dX2_prepare_5 : decode cX2_prepare 5 = .ok (.getfield 17, 3) := by decide +kernel
theorem dX2_prepare_8 : decode cX2_prepare 8 = .ok (.aload_n 0, 1) := by decide +kernel
theorem dX2_prepare_9 : decode cX2_prepare 9 = .ok (.getfield 21, 3) := by decide +kernel
theorem dX2_prepare_12 : decode cX2_prepare 12 = .ok (.iadd, 1) := by decide +kernel
theorem dX2_prepare_13 : decode cX2_prepare 13 = .ok (.bipush 9, 2) := by decide +kernel
theorem dX2_prepare_15 : decode cX2_prepare 15 = .ok (.irem, 1) := by decide +kernel
theorem dX2_prepare_16 : decode cX2_prepare 16 = .ok (.aaload, 1) := by decide +kernel
theorem dX2_prepare_17 : decode cX2_prepare 17 = .ok (.astore_n 2, 1) := by decide +kernel
theorem dX2_prepare_18 : decode cX2_prepare 18 = .ok (.aload_n 2, 1) := by decide +kernel
theorem dX2_prepare_19 : decode cX2_prepare 19 = .ok (.ifnull 8, 3) := by decide +kernel
theorem dX2_prepare_22 : decode cX2_prepare 22 = .ok (.aload_n 2, 1) := by decide +kernel
theorem dX2_prepare_23 : decode cX2_prepare 23 = .ok (.aload_n 1, 1) := by decide +kernel
theorem dX2_prepare_24 : decode cX2_prepare 24 = .ok (.invokevirtual 25, 3) := by decide +kernel
theorem dX2_prepare_27 : decode cX2_prepare 27 = .ok (.return_, 1) := by decide +kernel
theorem dX2_keep_0 : decode cX2_keep 0 = .ok (.aload_n 0, 1) := by decide +kernel
theorem dX2_keep_1 : decode cX2_keep 1 = .ok (.getfield 21, 3) := by decide +kernel
theorem dX2_keep_4 : decode cX2_keep 4 = .ok (.bipush 8, 2) := by decide +kernel
theorem dX2_keep_6 : decode cX2_keep 6 = .ok (.if_icmp .ge 16, 3) := by decide +kernel
theorem dX2_keep_9 : decode cX2_keep 9 = .ok (.aload_n 0, 1) := by decide +kernel
theorem dX2_keep_10 : decode cX2_keep 10 = .ok (.dup, 1) := by decide +kernel
theorem dX2_keep_11 : decode cX2_keep 11 = .ok (.getfield 21, 3) := by decide +kernel
theorem dX2_keep_14 : decode cX2_keep 14 = .ok (.iconst 1, 1) := by decide +kernel
theorem dX2_keep_15 : decode cX2_keep 15 = .ok (.iadd, 1) := by decide +kernel
theorem dX2_keep_16 : decode cX2_keep 16 = .ok (.putfield 21, 3) := by decide +kernel
theorem dX2_keep_19 : decode cX2_keep 19 = .ok (.goto 16, 3) := by decide +kernel
theorem dX2_keep_22 : decode cX2_keep 22 = .ok (.aload_n 0, 1) := by decide +kernel
theorem dX2_keep_23 : decode cX2_keep 23 = .ok (.aload_n 0, 1) := by decide +kernel
theorem dX2_keep_24 : decode cX2_keep 24 = .ok (.getfield 17, 3) := by decide +kernel
theorem dX2_keep_27 : decode cX2_keep 27 = .ok (.iconst 1, 1) := by decide +kernel
theorem dX2_keep_28 : decode cX2_keep 28 = .ok (.iadd, 1) := by decide +kernel
theorem dX2_keep_29 : decode cX2_keep 29 = .ok (.bipush 9, 2) := by decide +kernel
theorem dX2_keep_31 : decode cX2_keep 31 = .ok (.irem, 1) := by decide +kernel
theorem dX2_keep_32 : decode cX2_keep 32 = .ok (.putfield 17, 3) := by decide +kernel
theorem dX2_keep_35 : decode cX2_keep 35 = .ok (.return_, 1) := by decide +kernel
set_option maxRecDepth 20000 in
theorem ggX2_restore_X0_copyFrom : GoodIn wsX2_restore wsX0_copyFrom := goodIn_r _ [9, 10, 11, 12, 13, 14, 15, 16, 17, 18, 19, 20, 21, 22, 23, 24, 25, 29, 30, 31, 32, 33, 34, 35, 36, 37, 38, 39, 40] (by decide +kernel) (by decide +kernel)
set_option maxRecDepth 20000 in
theorem gX2_restore_X0_copyFrom : GoodIn wsX2_restore (wsV RX2 25 RX0 yX0_copyFrom wsX0_copyFrom) := goodIn_app (goodIn_of _ (by decide +kernel)) ggX2_restore_X0_copyFrom
theorem dX2_restore_0 : decode cX2_restore 0 = .ok (.aload_n 0, 1) := by decide +kernel
theorem dX2_restore_1 : decode cX2_restore 1 = .ok (.getfield 21, 3) := by decide +kernel
theorem dX2_restore_4 : decode cX2_restore 4 = .ok (.ifCond .ne 6, 3) := by decide +kernel
theorem dX2_restore_7 : decode cX2_restore 7 = .ok (.ldc 29, 2) := by decide +kernel
theorem dX2_restore_9 : decode cX2_restore 9 = .ok (.ireturn, 1) := by decide +kernel
theorem dX2_restore_10 : decode cX2_restore 10 = .ok (.aload_n 0, 1) := by decide +kernel
theorem dX2_restore_11 : decode cX2_restore 11 = .ok (.dup, 1) := by decide +kernel
theorem dX2_restore_12 : decode cX2_restore 12 = .ok (.getfield 21, 3) := by decide +kernel
theorem dX2_restore_15 : decode cX2_restore 15 = .ok (.iconst 1, 1) := by decide +kernel
theorem dX2_restore_16 : decode cX2_restore 16 = .ok (.isub, 1) := by decide +kernel
theorem dX2_restore_17 : decode cX2_restore 17 = .ok (.putfield 21, 3) := by decide +kernel
theorem dX2_restore_20 : decode cX2_restore 20 = .ok (.aload_n 0, 1) := by decide +kernel
theorem dX2_restore_21 : decode cX2_restore 21 = .ok (.getfield 13, 3) := by decide +kernel
theorem dX2_restore_24 : decode cX2_restore 24 = .ok (.aload_n 0, 1) := by decide +kernel
theorem dX2_restore_25 : decode cX2_restore 25 = .ok (.getfield 17, 3) := by decide +kernel
theorem dX2_restore_28 : decode cX2_restore 28 = .ok (.aload_n 0, 1) := by decide +kernel
theorem dX2_restore_29 : decode cX2_restore 29 = .ok (.getfield 21, 3) := by decide +kernel
theorem dX2_restore_32 : decode cX2_restore 32 = .ok (.iadd, 1) := by decide +kernel
theorem dX2_restore_33 : decode cX2_restore 33 = .ok (.bipush 9, 2) := by decide +kernel
theorem dX2_restore_35 : decode cX2_restore 35 = .ok (.irem, 1) := by decide +kernel
theorem dX2_restore_36 : decode cX2_restore 36 = .ok (.aaload, 1) := by decide +kernel
theorem dX2_restore_37 : decode cX2_restore 37 = .ok (.astore_n 2, 1) := by decide +kernel
theorem dX2_restore_38 : decode cX2_restore 38 = .ok (.aload_n 2, 1) := by decide +kernel
theorem dX2_restore_39 : decode cX2_restore 39 = .ok (.ifnull 8, 3) := by decide +kernel
theorem dX2_restore_42 : decode cX2_restore 42 = .ok (.aload_n 1, 1) := by decide +kernel
theorem dX2_restore_43 : decode cX2_restore 43 = .ok (.aload_n 2, 1) := by decide +kernel
theorem dX2_restore_44 : decode cX2_restore 44 = .ok (.invokevirtual 25, 3) := by decide +kernel
theorem dX2_restore_47 : decode cX2_restore 47 = .ok (.aload_n 0, 1) := by decide +kernel
theorem dX2_restore_48 : decode cX2_restore 48 = .ok (.getfield 21, 3) := by decide +kernel
theorem dX2_restore_51 : decode cX2_restore 51 = .ok (.ireturn, 1) := by decide +kernel
theorem dX3_init_0 : decode cX3_init 0 = .ok (.aload_n 0, 1) := by decide +kernel
theorem dX3_init_1 : decode cX3_init 1 = .ok (.invokespecial 3, 3) := by decide +kernel
theorem dX3_init_4 : decode cX3_init 4 = .ok (.aload_n 0, 1) := by decide +kernel
theorem dX3_init_5 : decode cX3_init 5 = .ok (.iconst 0, 1) := by decide +kernel
theorem dX3_init_6 : decode cX3_init 6 = .ok (.putfield 9, 3) := by decide +kernel
theorem dX3_init_9 : decode cX3_init 9 = .ok (.aload_n 0, 1) := by decide +kernel
theorem dX3_init_10 : decode cX3_init 10 = .ok (.iconst 0, 1) := by decide +kernel
theorem dX3_init_11 : decode cX3_init 11 = .ok (.putfield 15, 3) := by decide +kernel
theorem dX3_init_14 : decode cX3_init 14 = .ok (.aload_n 0, 1) := by decide +kernel
theorem dX3_init_15 : decode cX3_init 15 = .ok (.bipush 80, 2) := by decide +kernel
theorem dX3_init_17 : decode cX3_init 17 = .ok (.newarray .char, 2) := by decide +kernel
theorem dX3_init_19 : decode cX3_init 19 = .ok (.putfield 18, 3) := by decide +kernel
theorem dX3_init_22 : decode cX3_init 22 = .ok (.aload_n 0, 1) := by decide +kernel
theorem dX3_init_23 : decode cX3_init 23 = .ok (.iconst 4, 1) := by decide +kernel
theorem dX3_init_24 : decode cX3_init 24 = .ok (.newarray .int, 2) := by decide +kernel
theorem dX3_init_26 : decode cX3_init 26 = .ok (.putfield 22, 3) := by decide +kernel
theorem dX3_init_29 : decode cX3_init 29 = .ok (.aload_n 0, 1) := by decide +kernel
theorem dX3_init_30 : decode cX3_init 30 = .ok (.iconst 4, 1) := by decide +kernel
theorem dX3_init_31 : decode cX3_init 31 = .ok (.newarray .int, 2) := by decide +kernel
theorem dX3_init_33 : decode cX3_init 33 = .ok (.putfield 26, 3) := by decide +kernel
theorem dX3_init_36 : decode cX3_init 36 = .ok (.return_, 1) := by decide +kernel
set_option maxRecDepth 20000 in
theorem ggX3_append_X4_isBetween : GoodIn wsX3_append wsX4_isBetween := goodIn_r _ [7] (by decide +kernel) (by decide +kernel)
set_option maxRecDepth 20000 in
theorem gX3_append_X4_isBetween_n29 : GoodIn wsX3_append (wsX4_isBetween) := ggX3_append_X4_isBetween
theorem dX3_append_0 : decode cX3_append 0 = .ok (.iload_n 1, 1) := by decide +kernel
theorem dX3_append_1 : decode cX3_append 1 = .ok (.bipush 32, 2) := by decide +kernel
theorem dX3_append_3 : decode cX3_append 3 = .ok (.bipush 126, 2) := by decide +kernel
theorem dX3_append_5 : decode cX3_append 5 = .ok (.invokestatic 29, 3) := by decide +kernel
theorem dX3_append_8 : decode cX3_append 8 = .ok (.ifCond .ne 6, 3) := by decide +kernel
theorem dX3_append_11 : decode cX3_append 11 = .ok (.ldc 33, 2) := by decide +kernel
theorem dX3_append_13 : decode cX3_append 13 = .ok (.ireturn, 1) := by decide +kernel
theorem dX3_append_14 : decode cX3_append 14 = .ok (.aload_n 0, 1) := by decide +kernel
theorem dX3_append_15 : decode cX3_append 15 = .ok (.getfield 9, 3) := by decide +kernel
theorem dX3_append_18 : decode cX3_append 18 = .ok (.bipush 80, 2) := by decide +kernel
theorem dX3_append_20 : decode cX3_append 20 = .ok (.if_icmp .lt 6, 3) := by decide +kernel
theorem dX3_append_23 : decode cX3_append 23 = .ok (.ldc 34, 2) := by decide +kernel
theorem dX3_append_25 : decode cX3_append 25 = .ok (.ireturn, 1) := by decide +kernel
theorem dX3_append_26 : decode cX3_append 26 = .ok (.aload_n 0, 1) := by decide +kernel
theorem dX3_append_27 : decode cX3_append 27 = .ok (.getfield 18, 3) := by decide +kernel
theorem dX3_append_30 : decode cX3_append 30 = .ok (.aload_n 0, 1) := by decide +kernel
theorem dX3_append_31 : decode cX3_append 31 = .ok (.getfield 9, 3) := by decide +kernel
theorem dX3_append_34 : decode cX3_append 34 = .ok (.iload_n 1, 1) := by decide +kernel
theorem dX3_append_35 : decode cX3_append 35 = .ok (.i2c, 1) := by decide +kernel
theorem dX3_append_36 : decode cX3_append 36 = .ok (.castore, 1) := by decide +kernel
theorem dX3_append_37 : decode cX3_append 37 = .ok (.aload_n 0, 1) := by decide +kernel
theorem dX3_append_38 : decode cX3_append 38 = .ok (.dup, 1) := by decide +kernel
theorem dX3_append_39 : decode cX3_append 39 = .ok (.getfield 9, 3) := by decide +kernel
theorem dX3_append_42 : decode cX3_append 42 = .ok (.iconst 1, 1) := by decide +kernel
theorem dX3_append_43 : decode cX3_append 43 = .ok (.iadd, 1) := by decide +kernel
theorem dX3_append_44 : decode cX3_append 44 = .ok (.putfield 9, 3) := by decide +kernel
theorem dX3_append_47 : decode cX3_append 47 = .ok (.aload_n 0, 1) := by decide +kernel
theorem dX3_append_48 : decode cX3_append 48 = .ok (.getfield 9, 3) := by decide +kernel
theorem dX3_append_51 : decode cX3_append 51 = .ok (.ireturn, 1) := by decide +kernel
theorem dX3_empty_0 : decode cX3_empty 0 = .ok (.aload_n 0, 1) := by decide +kernel
theorem dX3_empty_1 : decode cX3_empty 1 = .ok (.getfield 9, 3) := by decide +kernel
theorem dX3_empty_4 : decode cX3_empty 4 = .ok (.istore_n 1, 1) := by decide +kernel
theorem dX3_empty_5 : decode cX3_empty 5 = .ok (.aload_n 0, 1) := by decide +kernel
theorem dX3_empty_6 : decode cX3_empty 6 = .ok (.iconst 0, 1) := by decide +kernel
theorem dX3_empty_7 : decode cX3_empty 7 = .ok (.putfield 9, 3) := by decide +kernel
theorem dX3_empty_10 : decode cX3_empty 10 = .ok (.iload_n 1, 1) := by decide +kernel
theorem dX3_empty_11 : decode cX3_empty 11 = .ok (.ireturn, 1) := by decide +kernel
theorem dX3_at_0 : decode cX3_at 0 = .ok (.iload_n 1, 1) := by decide +kernel
theorem dX3_at_1 : decode cX3_at 1 = .ok (.ifCond .lt 20, 3) := by decide +kernel
theorem dX3_at_4 : decode cX3_at 4 = .ok (.iload_n 1, 1) := by decide +kernel
theorem dX3_at_5 : decode cX3_at 5 = .ok (.aload_n 0, 1) := by decide +kernel
theorem dX3_at_6 : decode cX3_at 6 = .ok (.getfield 9, 3) := by decide +kernel
theorem dX3_at_9 : decode cX3_at 9 = .ok (.if_icmp .ge 12, 3) := by decide +kernel
theorem dX3_at_12 : decode cX3_at 12 = .ok (.aload_n 0, 1) := by decide +kernel
theorem dX3_at_13 : decode cX3_at 13 = .ok (.getfield 18, 3) := by decide +kernel
theorem dX3_at_16 : decode cX3_at 16 = .ok (.iload_n 1, 1) := by decide +kernel
theorem dX3_at_17 : decode cX3_at 17 = .ok (.caload, 1) := by decide +kernel
theorem dX3_at_18 : decode cX3_at 18 = .ok (.goto 5, 3) := by decide +kernel
theorem dX3_at_21 : decode cX3_at 21 = .ok (.bipush 32, 2) := by decide +kernel
theorem dX3_at_23 : decode cX3_at 23 = .ok (.ireturn, 1) := by decide +kernel
set_option maxRecDepth 20000 in
theorem ggX3_readCommand_X3_at : GoodIn wsX3_readCommand wsX3_at := goodIn_r _ [6, 7, 8, 19, 20, 21, 22, 23] (by decide +kernel) (by decide +kernel)
set_option maxRecDepth 20000 in
theorem gX3_readCommand_X3_at : GoodIn wsX3_readCommand (wsV RX3 35 RX3 yX3_at wsX3_at) := goodIn_app (goodIn_of _ (by decide +kernel)) ggX3_readCommand_X3_at
set_option maxRecDepth 20000 in
theorem ggX3_readCommand_X3_markStart : GoodIn wsX3_readCommand wsX3_markStart := goodIn_r _ [12, 1, 13, 19, 20, 21, 22, 23] (by decide +kernel) (by decide +kernel)
set_option maxRecDepth 20000 in
theorem gX3_readCommand_X3_markStart : GoodIn wsX3_readCommand (wsV RX3 39 RX3 yX3_markStart wsX3_markStart) := goodIn_app (goodIn_of _ (by decide +kernel)) ggX3_readCommand_X3_markStart
set_option maxRecDepth 20000 in
theorem ggX3_readCommand_X3_markEnd : GoodIn wsX3_readCommand wsX3_markEnd := goodIn_r _ [17, 1, 18, 19, 20, 21, 22, 23] (by decide +kernel) (by decide +kernel)
set_option maxRecDepth 20000 in
theorem gX3_readCommand_X3_markEnd : GoodIn wsX3_readCommand (wsV RX3 43 RX3 yX3_markEnd wsX3_markEnd) := goodIn_app (goodIn_of _ (by decide +kernel)) ggX3_readCommand_X3_markEnd
theorem dX3_readCommand_0 : decode cX3_readCommand 0 = .ok (.aload_n 0, 1) := by decide +kernel
theorem dX3_readCommand_1 : decode cX3_readCommand 1 = .ok (.iconst 0, 1) := by decide +kernel
theorem dX3_readCommand_2 : decode cX3_readCommand 2 = .ok (.putfield 15, 3) := by decide +kernel
theorem dX3_readCommand_5 : decode cX3_readCommand 5 = .ok (.iconst 0, 1) := by decide +kernel
theorem dX3_readCommand_6 : decode cX3_readCommand 6 = .ok (.istore_n 3, 1) := by decide +kernel
theorem dX3_readCommand_7 : decode cX3_readCommand 7 = .ok (.iload_n 1, 1) := by decide +kernel
theorem dX3_readCommand_8 : decode cX3_readCommand 8 = .ok (.istore 4, 2) := by decide +kernel
theorem dX3_readCommand_10 : decode cX3_readCommand 10 = .ok (.iload 4, 2) := by decide +kernel
theorem dX3_readCommand_12 : decode cX3_readCommand 12 = .ok (.iload_n 2, 1) := by decide +kernel
theorem dX3_readCommand_13 : decode cX3_readCommand 13 = .ok (.if_icmp .ge 76, 3) := by decide +kernel
theorem dX3_readCommand_16 : decode cX3_readCommand 16 = .ok (.aload_n 0, 1) := by decide +kernel
theorem dX3_readCommand_17 : decode cX3_readCommand 17 = .ok (.iload 4, 2) := by decide +kernel
theorem dX3_readCommand_19 : decode cX3_readCommand 19 = .ok (.invokevirtual 35, 3) := by decide +kernel
theorem dX3_readCommand_22 : decode cX3_readCommand 22 = .ok (.bipush 32, 2) := by decide +kernel
theorem dX3_readCommand_24 : decode cX3_readCommand 24 = .ok (.if_icmp .ne 7, 3) := by decide +kernel
theorem dX3_readCommand_27 : decode cX3_readCommand 27 = .ok (.iconst 1, 1) := by decide +kernel
theorem dX3_readCommand_28 : decode cX3_readCommand 28 = .ok (.goto 4, 3) := by decide +kernel
theorem dX3_readCommand_31 : decode cX3_readCommand 31 = .ok (.iconst 0, 1) := by decide +kernel
theorem dX3_readCommand_32 : decode cX3_readCommand 32 = .ok (.istore 5, 2) := by decide +kernel
theorem dX3_readCommand_34 : decode cX3_readCommand 34 = .ok (.iload 5, 2) := by decide +kernel
theorem dX3_readCommand_36 : decode cX3_readCommand 36 = .ok (.ifCond .ne 23, 3) := by decide +kernel
theorem dX3_readCommand_39 : decode cX3_readCommand 39 = .ok (.iload_n 3, 1) := by decide +kernel
theorem dX3_readCommand_40 : decode cX3_readCommand 40 = .ok (.ifCond .ne 19, 3) := by decide +kernel
theorem dX3_readCommand_43 : decode cX3_readCommand 43 = .ok (.aload_n 0, 1) := by decide +kernel
theorem dX3_readCommand_44 : decode cX3_readCommand 44 = .ok (.dup, 1) := by decide +kernel
theorem dX3_readCommand_45 : decode cX3_readCommand 45 = .ok (.getfield 15, 3) := by decide +kernel
theorem dX3_readCommand_48 : decode cX3_readCommand 48 = .ok (.iconst 1, 1) := by decide +kernel
theorem dX3_readCommand_49 : decode cX3_readCommand 49 = .ok (.iadd, 1) := by decide +kernel
theorem dX3_readCommand_50 : decode cX3_readCommand 50 = .ok (.putfield 15, 3) := by decide +kernel
theorem dX3_readCommand_53 : decode cX3_readCommand 53 = .ok (.aload_n 0, 1) := by decide +kernel
theorem dX3_readCommand_54 : decode cX3_readCommand 54 = .ok (.iload 4, 2) := by decide +kernel
theorem dX3_readCommand_56 : decode cX3_readCommand 56 = .ok (.invokevirtual 39, 3) := by decide +kernel
theorem dX3_readCommand_59 : decode cX3_readCommand 59 = .ok (.iload 5, 2) := by decide +kernel
theorem dX3_readCommand_61 : decode cX3_readCommand 61 = .ok (.ifCond .ne 11, 3) := by decide +kernel
theorem dX3_readCommand_64 : decode cX3_readCommand 64 = .ok (.aload_n 0, 1) := by decide +kernel
theorem dX3_readCommand_65 : decode cX3_readCommand 65 = .ok (.iload 4, 2) := by decide +kernel
theorem dX3_readCommand_67 : decode cX3_readCommand 67 = .ok (.iconst 1, 1) := by decide +kernel
theorem dX3_readCommand_68 : decode cX3_readCommand 68 = .ok (.iadd, 1) := by decide +kernel
theorem dX3_readCommand_69 : decode cX3_readCommand 69 = .ok (.invokevirtual 43, 3) := by decide +kernel
theorem dX3_readCommand_72 : decode cX3_readCommand 72 = .ok (.iload 5, 2) := by decide +kernel
theorem dX3_readCommand_74 : decode cX3_readCommand 74 = .ok (.ifCond .ne 7, 3) := by decide +kernel
theorem dX3_readCommand_77 : decode cX3_readCommand 77 = .ok (.iconst 1, 1) := by decide +kernel
theorem dX3_readCommand_78 : decode cX3_readCommand 78 = .ok (.goto 4, 3) := by decide +kernel
theorem dX3_readCommand_81 : decode cX3_readCommand 81 = .ok (.iconst 0, 1) := by decide +kernel
theorem dX3_readCommand_82 : decode cX3_readCommand 82 = .ok (.istore_n 3, 1) := by decide +kernel
theorem dX3_readCommand_83 : decode cX3_readCommand 83 = .ok (.iinc 4 1, 3) := by decide +kernel
theorem dX3_readCommand_86 : decode cX3_readCommand 86 = .ok (.goto (-76), 3) := by decide +kernel
theorem dX3_readCommand_89 : decode cX3_readCommand 89 = .ok (.return_, 1) := by decide +kernel
theorem dX3_markStart_0 : decode cX3_markStart 0 = .ok (.aload_n 0, 1) := by decide +kernel
theorem dX3_markStart_1 : decode cX3_markStart 1 = .ok (.getfield 15, 3) := by decide +kernel
theorem dX3_markStart_4 : decode cX3_markStart 4 = .ok (.iconst 1, 1) := by decide +kernel
theorem dX3_markStart_5 : decode cX3_markStart 5 = .ok (.if_icmp .lt 23, 3) := by decide +kernel
theorem dX3_markStart_8 : decode cX3_markStart 8 = .ok (.aload_n 0, 1) := by decide +kernel
theorem dX3_markStart_9 : decode cX3_markStart 9 = .ok (.getfield 15, 3) := by decide +kernel
theorem dX3_markStart_12 : decode cX3_markStart 12 = .ok (.iconst 4, 1) := by decide +kernel
theorem dX3_markStart_13 : decode cX3_markStart 13 = .ok (.if_icmp .gt 15, 3) := by decide +kernel
theorem dX3_markStart_16 : decode cX3_markStart 16 = .ok (.aload_n 0, 1) := by decide +kernel
theorem dX3_markStart_17 : decode cX3_markStart 17 = .ok (.getfield 22, 3) := by decide +kernel
theorem dX3_markStart_20 : decode cX3_markStart 20 = .ok (.aload_n 0, 1) := by decide +kernel
theorem dX3_markStart_21 : decode cX3_markStart 21 = .ok (.getfield 15, 3) := by decide +kernel
theorem dX3_markStart_24 : decode cX3_markStart 24 = .ok (.iconst 1, 1) := by decide +kernel
theorem dX3_markStart_25 : decode cX3_markStart 25 = .ok (.isub, 1) := by decide +kernel
theorem dX3_markStart_26 : decode cX3_markStart 26 = .ok (.iload_n 1, 1) := by decide +kernel
theorem dX3_markStart_27 : decode cX3_markStart 27 = .ok (.iastore, 1) := by decide +kernel
theorem dX3_markStart_28 : decode cX3_markStart 28 = .ok (.return_, 1) := by decide +kernel
theorem dX3_markEnd_0 : decode cX3_markEnd 0 = .ok (.aload_n 0, 1) := by decide +kernel
theorem dX3_markEnd_1 : decode cX3_markEnd 1 = .ok (.getfield 15, 3) := by decide +kernel
theorem dX3_markEnd_4 : decode cX3_markEnd 4 = .ok (.iconst 1, 1) := by decide +kernel
theorem dX3_markEnd_5 : decode cX3_markEnd 5 = .ok (.if_icmp .lt 23, 3) := by decide +kernel
theorem dX3_markEnd_8 : decode cX3_markEnd 8 = .ok (.aload_n 0, 1) := by decide +kernel
theorem dX3_markEnd_9 : decode cX3_markEnd 9 = .ok (.getfield 15, 3) := by decide +kernel
theorem dX3_markEnd_12 : decode cX3_markEnd 12 = .ok (.iconst 4, 1) := by decide +kernel
theorem dX3_markEnd_13 : decode cX3_markEnd 13 = .ok (.if_icmp .gt 15, 3) := by decide +kernel
theorem dX3_markEnd_16 : decode cX3_markEnd 16 = .ok (.aload_n 0, 1) := by decide +kernel
theorem dX3_markEnd_17 : decode cX3_markEnd 17 = .ok (.getfield 26, 3) := by decide +kernel
theorem dX3_markEnd_20 : decode cX3_markEnd 20 = .ok (.aload_n 0, 1) := by decide +kernel
theorem dX3_markEnd_21 : decode cX3_markEnd 21 = .ok (.getfield 15, 3) := by decide +kernel
theorem dX3_markEnd_24 : decode cX3_markEnd 24 = .ok (.iconst 1, 1) := by decide +kernel
theorem dX3_markEnd_25 : decode cX3_markEnd 25 = .ok (.isub, 1) := by decide +kernel
theorem dX3_markEnd_26 : decode cX3_markEnd 26 = .ok (.iload_n 1, 1) := by decide +kernel
theorem dX3_markEnd_27 : decode cX3_markEnd 27 = .ok (.iastore, 1) := by decide +kernel
theorem dX3_markEnd_28 : decode cX3_markEnd 28 = .ok (.return_, 1) := by decide +kernel
theorem dX3_hasWord_0 : decode cX3_hasWord 0 = .ok (.iload_n 1, 1) := by decide +kernel
theorem dX3_hasWord_1 : decode cX3_hasWord 1 = .ok (.ifCond .lt 20, 3) := by decide +kernel
theorem dX3_hasWord_4 : decode cX3_hasWord 4 = .ok (.iload_n 1, 1) := by decide +kernel
theorem dX3_hasWord_5 : decode cX3_hasWord 5 = .ok (.aload_n 0, 1) := by decide +kernel
theorem dX3_hasWord_6 : decode cX3_hasWord 6 = .ok (.getfield 15, 3) := by decide +kernel
theorem dX3_hasWord_9 : decode cX3_hasWord 9 = .ok (.if_icmp .ge 12, 3) := by decide +kernel
theorem dX3_hasWord_12 : decode cX3_hasWord 12 = .ok (.iload_n 1, 1) := by decide +kernel
theorem dX3_hasWord_13 : decode cX3_hasWord 13 = .ok (.iconst 4, 1) := by decide +kernel
theorem dX3_hasWord_14 : decode cX3_hasWord 14 = .ok (.if_icmp .ge 7, 3) := by decide +kernel
theorem dX3_hasWord_17 : decode cX3_hasWord 17 = .ok (.iconst 1, 1) := by decide +kernel
theorem dX3_hasWord_18 : decode cX3_hasWord 18 = .ok (.goto 4, 3) := by decide +kernel
theorem dX3_hasWord_21 : decode cX3_hasWord 21 = .ok (.iconst 0, 1) := by decide +kernel
theorem dX3_hasWord_22 : decode cX3_hasWord 22 = .ok (.ireturn, 1) := by decide +kernel
set_option maxRecDepth 20000 in
theorem ggX3_isCommand_X3_isWord : GoodIn wsX3_isCommand wsX3_isWord := goodIn_r _ [6, 7, 8, 9, 10, 11, 5, 12, 1, 13, 14, 15, 16, 17, 18, 19, 20, 21, 22, 23, 24, 25, 26, 27, 28, 29, 30, 31, 32, 33, 34, 35, 36, 37, 38, 39, 40, 41, 42, 43, 44, 45, 46, 47, 48, 49, 50, 51, 52, 53, 54, 55, 56, 57, 58, 59, 60, 61, 62, 63, 64, 65, 66, 67, 72, 73, 74, 75, 76] (by decide +kernel) (by decide +kernel)
set_option maxRecDepth 20000 in
theorem gX3_isCommand_X3_isWord : GoodIn wsX3_isCommand (wsV RX3 46 RX3 yX3_isWord wsX3_isWord) := goodIn_app (goodIn_of _ (by decide +kernel)) ggX3_isCommand_X3_isWord
set_option maxRecDepth 20000 in
theorem ggX3_isCommand_X3_isNumber : GoodIn wsX3_isCommand wsX3_isNumber := goodIn_r _ [71, 7, 8, 9, 10, 11, 5, 12, 1, 25, 26, 27, 28, 29, 30, 72, 73, 74, 75, 76] (by decide +kernel) (by decide +kernel)
set_option maxRecDepth 20000 in
theorem gX3_isCommand_X3_isNumber : GoodIn wsX3_isCommand (wsV RX3 50 RX3 yX3_isNumber wsX3_isNumber) := goodIn_app (goodIn_of _ (by decide +kernel)) ggX3_isCommand_X3_isNumber
theorem dX3_isCommand_0 : decode cX3_isCommand 0 = .ok (.aload_n 0, 1) := by decide +kernel
theorem dX3_isCommand_1 : decode cX3_isCommand 1 = .ok (.getfield 15, 3) := by decide +kernel
theorem dX3_isCommand_4 : decode cX3_isCommand 4 = .ok (.iload_n 2, 1) := by decide +kernel
theorem dX3_isCommand_5 : decode cX3_isCommand 5 = .ok (.iconst 1, 1) := by decide +kernel
theorem dX3_isCommand_6 : decode cX3_isCommand 6 = .ok (.iadd, 1) := by decide +kernel
theorem dX3_isCommand_7 : decode cX3_isCommand 7 = .ok (.if_icmp .ne 12, 3) := by decide +kernel
theorem dX3_isCommand_10 : decode cX3_isCommand 10 = .ok (.aload_n 0, 1) := by decide +kernel
theorem dX3_isCommand_11 : decode cX3_isCommand 11 = .ok (.iconst 0, 1) := by decide +kernel
theorem dX3_isCommand_12 : decode cX3_isCommand 12 = .ok (.aload_n 1, 1) := by decide +kernel
theorem dX3_isCommand_13 : decode cX3_isCommand 13 = .ok (.invokevirtual 46, 3) := by decide +kernel
theorem dX3_isCommand_16 : decode cX3_isCommand 16 = .ok (.ifCond .ne 5, 3) := by decide +kernel
theorem dX3_isCommand_19 : decode cX3_isCommand 19 = .ok (.iconst 0, 1) := by decide +kernel
theorem dX3_isCommand_20 : decode cX3_isCommand 20 = .ok (.ireturn, 1) := by decide +kernel
theorem dX3_isCommand_21 : decode cX3_isCommand 21 = .ok (.iconst 1, 1) := by decide +kernel
theorem dX3_isCommand_22 : decode cX3_isCommand 22 = .ok (.istore_n 3, 1) := by decide +kernel
theorem dX3_isCommand_23 : decode cX3_isCommand 23 = .ok (.iload_n 3, 1) := by decide +kernel
theorem dX3_isCommand_24 : decode cX3_isCommand 24 = .ok (.iload_n 2, 1) := by decide +kernel
theorem dX3_isCommand_25 : decode cX3_isCommand 25 = .ok (.if_icmp .gt 19, 3) := by decide +kernel
theorem dX3_isCommand_28 : decode cX3_isCommand 28 = .ok (.aload_n 0, 1) := by decide +kernel
theorem dX3_isCommand_29 : decode cX3_isCommand 29 = .ok (.iload_n 3, 1) := by decide +kernel
theorem dX3_isCommand_30 : decode cX3_isCommand 30 = .ok (.invokevirtual 50, 3) := by decide +kernel
theorem dX3_isCommand_33 : decode cX3_isCommand 33 = .ok (.ifCond .ne 5, 3) := by decide +kernel
theorem dX3_isCommand_36 : decode cX3_isCommand 36 = .ok (.iconst 0, 1) := by decide +kernel
theorem dX3_isCommand_37 : decode cX3_isCommand 37 = .ok (.ireturn, 1) := by decide +kernel
theorem dX3_isCommand_38 : decode cX3_isCommand 38 = .ok (.iinc 3 1, 3) := by decide +kernel
theorem dX3_isCommand_41 : decode cX3_isCommand 41 = .ok (.goto (-18), 3) := by decide +kernel
theorem dX3_isCommand_44 : decode cX3_isCommand 44 = .ok (.iconst 1, 1) := by decide +kernel
theorem dX3_isCommand_45 : decode cX3_isCommand 45 = .ok (.ireturn, 1) := by decide +kernel
set_option maxRecDepth 20000 in
theorem ggX3_isWord_X3_hasWord : GoodIn wsX3_isWord wsX3_hasWord := goodIn_r _ [7, 8, 64, 65, 66, 67, 68] (by decide +kernel) (by decide +kernel)
set_option maxRecDepth 20000 in
theorem gX3_isWord_X3_hasWord : GoodIn wsX3_isWord (wsV RX3 54 RX3 yX3_hasWord wsX3_hasWord) := goodIn_app (goodIn_of _ (by decide +kernel)) ggX3_isWord_X3_hasWord
set_option maxRecDepth 20000 in
theorem ggX3_isWord_J0_length_8abf5 : GoodIn wsX3_isWord wsJ0_length_8abf5 := goodIn_r _ [13, 14, 15, 16, 17, 12, 18, 19, 20] (by decide +kernel) (by decide +kernel)
set_option maxRecDepth 20000 in
theorem gX3_isWord_J0_length_8abf5 : GoodIn wsX3_isWord (wsV RX3 57 RJ0 yJ0_length_8abf5 wsJ0_length_8abf5) := goodIn_app (goodIn_of _ (by decide +kernel)) ggX3_isWord_J0_length_8abf5
set_option maxRecDepth 20000 in
theorem ggX3_isWord_X3_at : GoodIn wsX3_isWord wsX3_at := goodIn_r _ [24, 25, 26, 64, 65, 66, 67, 68] (by decide +kernel) (by decide +kernel)
set_option maxRecDepth 20000 in
theorem gX3_isWord_X3_at : GoodIn wsX3_isWord (wsV RX3 35 RX3 yX3_at wsX3_at) := goodIn_app (goodIn_of _ (by decide +kernel)) ggX3_isWord_X3_at
set_option maxRecDepth 20000 in
theorem ggX3_isWord_J0_charAt_5068e : GoodIn wsX3_isWord wsJ0_charAt_5068e := goodIn_r _ [30, 14, 31, 32, 33, 12, 34, 19, 20, 35, 36, 37, 38, 39, 40, 41, 42, 43, 44, 45, 46, 47, 48, 49, 50, 51, 52, 53, 54, 55, 56, 57, 58, 59, 60, 61, 62, 63] (by decide +kernel) (by decide +kernel)
set_option maxRecDepth 20000 in
theorem gX3_isWord_J0_charAt_5068e : GoodIn wsX3_isWord (wsV RX3 62 RJ0 yJ0_charAt_5068e wsJ0_charAt_5068e) := goodIn_app (goodIn_of _ (by decide +kernel)) ggX3_isWord_J0_charAt_5068e
theorem dX3_isWord_0 : decode cX3_isWord 0 = .ok (.aload_n 0, 1) := by decide +kernel
theorem dX3_isWord_1 : decode cX3_isWord 1 = .ok (.iload_n 1, 1) := by decide +kernel
theorem dX3_isWord_2 : decode cX3_isWord 2 = .ok (.invokevirtual 54, 3) := by decide +kernel
theorem dX3_isWord_5 : decode cX3_isWord 5 = .ok (.ifCond .eq 23, 3) := by decide +kernel
theorem dX3_isWord_8 : decode cX3_isWord 8 = .ok (.aload_n 0, 1) := by decide +kernel
theorem dX3_isWord_9 : decode cX3_isWord 9 = .ok (.getfield 26, 3) := by decide +kernel
theorem dX3_isWord_12 : decode cX3_isWord 12 = .ok (.iload_n 1, 1) := by decide +kernel
theorem dX3_isWord_13 : decode cX3_isWord 13 = .ok (.iaload, 1) := by decide +kernel
theorem dX3_isWord_14 : decode cX3_isWord 14 = .ok (.aload_n 0, 1) := by decide +kernel
theorem dX3_isWord_15 : decode cX3_isWord 15 = .ok (.getfield 22, 3) := by decide +kernel
theorem dX3_isWord_18 : decode cX3_isWord 18 = .ok (.iload_n 1, 1) := by decide +kernel
theorem dX3_isWord_19 : decode cX3_isWord 19 = .ok (.iaload, 1) := by decide +kernel
theorem dX3_isWord_20 : decode cX3_isWord 20 = .ok (.isub, 1) := by decide +kernel
theorem dX3_isWord_21 : decode cX3_isWord 21 = .ok (.aload_n 2, 1) := by decide +kernel
theorem dX3_isWord_22 : decode cX3_isWord 22 = .ok (.invokevirtual 57, 3) := by decide +kernel
theorem dX3_isWord_25 : decode cX3_isWord 25 = .ok (.if_icmp .eq 5, 3) := by decide +kernel
theorem dX3_isWord_28 : decode cX3_isWord 28 = .ok (.iconst 0, 1) := by decide +kernel
theorem dX3_isWord_29 : decode cX3_isWord 29 = .ok (.ireturn, 1) := by decide +kernel
theorem dX3_isWord_30 : decode cX3_isWord 30 = .ok (.iconst 0, 1) := by decide +kernel
theorem dX3_isWord_31 : decode cX3_isWord 31 = .ok (.istore_n 3, 1) := by decide +kernel
theorem dX3_isWord_32 : decode cX3_isWord 32 = .ok (.iload_n 3, 1) := by decide +kernel
theorem dX3_isWord_33 : decode cX3_isWord 33 = .ok (.aload_n 2, 1) := by decide +kernel
theorem dX3_isWord_34 : decode cX3_isWord 34 = .ok (.invokevirtual 57, 3) := by decide +kernel
theorem dX3_isWord_37 : decode cX3_isWord 37 = .ok (.if_icmp .ge 31, 3) := by decide +kernel
theorem dX3_isWord_40 : decode cX3_isWord 40 = .ok (.aload_n 0, 1) := by decide +kernel
theorem dX3_isWord_41 : decode cX3_isWord 41 = .ok (.aload_n 0, 1) := by decide +kernel
theorem dX3_isWord_42 : decode cX3_isWord 42 = .ok (.getfield 22, 3) := by decide +kernel
theorem dX3_isWord_45 : decode cX3_isWord 45 = .ok (.iload_n 1, 1) := by decide +kernel
theorem dX3_isWord_46 : decode cX3_isWord 46 = .ok (.iaload, 1) := by decide +kernel
theorem dX3_isWord_47 : decode cX3_isWord 47 = .ok (.iload_n 3, 1) := by decide +kernel
theorem dX3_isWord_48 : decode cX3_isWord 48 = .ok (.iadd, 1) := by decide +kernel
theorem dX3_isWord_49 : decode cX3_isWord 49 = .ok (.invokevirtual 35, 3) := by decide +kernel
theorem dX3_isWord_52 : decode cX3_isWord 52 = .ok (.aload_n 2, 1) := by decide +kernel
theorem dX3_isWord_53 : decode cX3_isWord 53 = .ok (.iload_n 3, 1) := by decide +kernel
theorem dX3_isWord_54 : decode cX3_isWord 54 = .ok (.invokevirtual 62, 3) := by decide +kernel
theorem dX3_isWord_57 : decode cX3_isWord 57 = .ok (.if_icmp .eq 5, 3) := by decide +kernel
theorem dX3_isWord_60 : decode cX3_isWord 60 = .ok (.iconst 0, 1) := by decide +kernel
theorem dX3_isWord_61 : decode cX3_isWord 61 = .ok (.ireturn, 1) := by decide +kernel
theorem dX3_isWord_62 : decode cX3_isWord 62 = .ok (.iinc 3 1, 3) := by decide +kernel
theorem dX3_isWord_65 : decode cX3_isWord 65 = .ok (.goto (-33), 3) := by decide +kernel
theorem dX3_isWord_68 : decode cX3_isWord 68 = .ok (.iconst 1, 1) := by decide +kernel
theorem dX3_isWord_69 : decode cX3_isWord 69 = .ok (.ireturn, 1) := by decide +kernel
set_option maxRecDepth 20000 in
theorem ggX3_isNumber_X3_hasWord : GoodIn wsX3_isNumber wsX3_hasWord := goodIn_r _ [7, 8, 15, 16, 17, 18, 19] (by decide +kernel) (by decide +kernel)
set_option maxRecDepth 20000 in
theorem gX3_isNumber_X3_hasWord : GoodIn wsX3_isNumber (wsV RX3 54 RX3 yX3_hasWord wsX3_hasWord) := goodIn_app (goodIn_of _ (by decide +kernel)) ggX3_isNumber_X3_hasWord
set_option maxRecDepth 20000 in
theorem ggX3_isNumber_X3_at : GoodIn wsX3_isNumber wsX3_at := goodIn_r _ [12, 13, 14, 15, 16, 17, 18, 19] (by decide +kernel) (by decide +kernel)
set_option maxRecDepth 20000 in
theorem gX3_isNumber_X3_at : GoodIn wsX3_isNumber (wsV RX3 35 RX3 yX3_at wsX3_at) := goodIn_app (goodIn_of _ (by decide +kernel)) ggX3_isNumber_X3_at
theorem dX3_isNumber_0 : decode cX3_isNumber 0 = .ok (.aload_n 0, 1) := by decide +kernel
theorem dX3_isNumber_1 : decode cX3_isNumber 1 = .ok (.iload_n 1, 1) := by decide +kernel
theorem dX3_isNumber_2 : decode cX3_isNumber 2 = .ok (.invokevirtual 54, 3) := by decide +kernel
theorem dX3_isNumber_5 : decode cX3_isNumber 5 = .ok (.ifCond .eq 21, 3) := by decide +kernel
theorem dX3_isNumber_8 : decode cX3_isNumber 8 = .ok (.aload_n 0, 1) := by decide +kernel
theorem dX3_isNumber_9 : decode cX3_isNumber 9 = .ok (.getfield 26, 3) := by decide +kernel
theorem dX3_isNumber_12 : decode cX3_isNumber 12 = .ok (.iload_n 1, 1) := by decide +kernel
theorem dX3_isNumber_13 : decode cX3_isNumber 13 = .ok (.iaload, 1) := by decide +kernel
theorem dX3_isNumber_14 : decode cX3_isNumber 14 = .ok (.aload_n 0, 1) := by decide +kernel
theorem dX3_isNumber_15 : decode cX3_isNumber 15 = .ok (.getfield 22, 3) := by decide +kernel
theorem dX3_isNumber_18 : decode cX3_isNumber 18 = .ok (.iload_n 1, 1) := by decide +kernel
theorem dX3_isNumber_19 : decode cX3_isNumber 19 = .ok (.iaload, 1) := by decide +kernel
theorem dX3_isNumber_20 : decode cX3_isNumber 20 = .ok (.isub, 1) := by decide +kernel
theorem dX3_isNumber_21 : decode cX3_isNumber 21 = .ok (.bipush 9, 2) := by decide +kernel
theorem dX3_isNumber_23 : decode cX3_isNumber 23 = .ok (.if_icmp .le 5, 3) := by decide +kernel
theorem dX3_isNumber_26 : decode cX3_isNumber 26 = .ok (.iconst 0, 1) := by decide +kernel
theorem dX3_isNumber_27 : decode cX3_isNumber 27 = .ok (.ireturn, 1) := by decide +kernel
theorem dX3_isNumber_28 : decode cX3_isNumber 28 = .ok (.aload_n 0, 1) := by decide +kernel
theorem dX3_isNumber_29 : decode cX3_isNumber 29 = .ok (.getfield 22, 3) := by decide +kernel
theorem dX3_isNumber_32 : decode cX3_isNumber 32 = .ok (.iload_n 1, 1) := by decide +kernel
theorem dX3_isNumber_33 : decode cX3_isNumber 33 = .ok (.iaload, 1) := by decide +kernel
theorem dX3_isNumber_34 : decode cX3_isNumber 34 = .ok (.istore_n 2, 1) := by decide +kernel
theorem dX3_isNumber_35 : decode cX3_isNumber 35 = .ok (.iload_n 2, 1) := by decide +kernel
theorem dX3_isNumber_36 : decode cX3_isNumber 36 = .ok (.aload_n 0, 1) := by decide +kernel
theorem dX3_isNumber_37 : decode cX3_isNumber 37 = .ok (.getfield 26, 3) := by decide +kernel
theorem dX3_isNumber_40 : decode cX3_isNumber 40 = .ok (.iload_n 1, 1) := by decide +kernel
theorem dX3_isNumber_41 : decode cX3_isNumber 41 = .ok (.iaload, 1) := by decide +kernel
theorem dX3_isNumber_42 : decode cX3_isNumber 42 = .ok (.if_icmp .ge 31, 3) := by decide +kernel
theorem dX3_isNumber_45 : decode cX3_isNumber 45 = .ok (.aload_n 0, 1) := by decide +kernel
theorem dX3_isNumber_46 : decode cX3_isNumber 46 = .ok (.iload_n 2, 1) := by decide +kernel
theorem dX3_isNumber_47 : decode cX3_isNumber 47 = .ok (.invokevirtual 35, 3) := by decide +kernel
theorem dX3_isNumber_50 : decode cX3_isNumber 50 = .ok (.bipush 48, 2) := by decide +kernel
theorem dX3_isNumber_52 : decode cX3_isNumber 52 = .ok (.if_icmp .lt 13, 3) := by decide +kernel
theorem dX3_isNumber_55 : decode cX3_isNumber 55 = .ok (.aload_n 0, 1) := by decide +kernel
theorem dX3_isNumber_56 : decode cX3_isNumber 56 = .ok (.iload_n 2, 1) := by decide +kernel
theorem dX3_isNumber_57 : decode cX3_isNumber 57 = .ok (.invokevirtual 35, 3) := by decide +kernel
theorem dX3_isNumber_60 : decode cX3_isNumber 60 = .ok (.bipush 57, 2) := by decide +kernel
theorem dX3_isNumber_62 : decode cX3_isNumber 62 = .ok (.if_icmp .le 5, 3) := by decide +kernel
theorem dX3_isNumber_65 : decode cX3_isNumber 65 = .ok (.iconst 0, 1) := by decide +kernel
theorem dX3_isNumber_66 : decode cX3_isNumber 66 = .ok (.ireturn, 1) := by decide +kernel
theorem dX3_isNumber_67 : decode cX3_isNumber 67 = .ok (.iinc 2 1, 3) := by decide +kernel
theorem dX3_isNumber_70 : decode cX3_isNumber 70 = .ok (.goto (-35), 3) := by decide +kernel
theorem dX3_isNumber_73 : decode cX3_isNumber 73 = .ok (.iconst 1, 1) := by decide +kernel
theorem dX3_isNumber_74 : decode cX3_isNumber 74 = .ok (.ireturn, 1) := by decide +kernel
set_option maxRecDepth 20000 in
theorem ggX3_number_X3_hasWord : GoodIn wsX3_number wsX3_hasWord := goodIn_r _ [7, 8, 15, 16, 17, 18, 19] (by decide +kernel) (by decide +kernel)
set_option maxRecDepth 20000 in
theorem gX3_number_X3_hasWord : GoodIn wsX3_number (wsV RX3 54 RX3 yX3_hasWord wsX3_hasWord) := goodIn_app (goodIn_of _ (by decide +kernel)) ggX3_number_X3_hasWord
set_option maxRecDepth 20000 in
theorem ggX3_number_X3_at : GoodIn wsX3_number wsX3_at := goodIn_r _ [12, 13, 14, 15, 16, 17, 18, 19] (by decide +kernel) (by decide +kernel)
set_option maxRecDepth 20000 in
theorem gX3_number_X3_at : GoodIn wsX3_number (wsV RX3 35 RX3 yX3_at wsX3_at) := goodIn_app (goodIn_of _ (by decide +kernel)) ggX3_number_X3_at
theorem dX3_number_0 : decode cX3_number 0 = .ok (.aload_n 0, 1) := by decide +kernel
theorem dX3_number_1 : decode cX3_number 1 = .ok (.iload_n 1, 1) := by decide +kernel
theorem dX3_number_2 : decode cX3_number 2 = .ok (.invokevirtual 54, 3) := by decide +kernel
theorem dX3_number_5 : decode cX3_number 5 = .ok (.ifCond .ne 5, 3) := by decide +kernel
theorem dX3_number_8 : decode cX3_number 8 = .ok (.iconst 0, 1) := by decide +kernel
theorem dX3_number_9 : decode cX3_number 9 = .ok (.ireturn, 1) := by decide +kernel
theorem dX3_number_10 : decode cX3_number 10 = .ok (.iconst 0, 1) := by decide +kernel
theorem dX3_number_11 : decode cX3_number 11 = .ok (.istore_n 2, 1) := by decide +kernel
theorem dX3_number_12 : decode cX3_number 12 = .ok (.aload_n 0, 1) := by decide +kernel
theorem dX3_number_13 : decode cX3_number 13 = .ok (.getfield 22, 3) := by decide +kernel
theorem dX3_number_16 : decode cX3_number 16 = .ok (.iload_n 1, 1) := by decide +kernel
theorem dX3_number_17 : decode cX3_number 17 = .ok (.iaload, 1) := by decide +kernel
theorem dX3_number_18 : decode cX3_number 18 = .ok (.istore_n 3, 1) := by decide +kernel
theorem dX3_number_19 : decode cX3_number 19 = .ok (.iload_n 3, 1) := by decide +kernel
theorem dX3_number_20 : decode cX3_number 20 = .ok (.aload_n 0, 1) := by decide +kernel
theorem dX3_number_21 : decode cX3_number 21 = .ok (.getfield 26, 3) := by decide +kernel
theorem dX3_number_24 : decode cX3_number 24 = .ok (.iload_n 1, 1) := by decide +kernel
theorem dX3_number_25 : decode cX3_number 25 = .ok (.iaload, 1) := by decide +kernel
theorem dX3_number_26 : decode cX3_number 26 = .ok (.if_icmp .ge 23, 3) := by decide +kernel
theorem dX3_number_29 : decode cX3_number 29 = .ok (.bipush 10, 2) := by decide +kernel
theorem dX3_number_31 : decode cX3_number 31 = .ok (.iload_n 2, 1) := by decide +kernel
theorem dX3_number_32 : decode cX3_number 32 = .ok (.imul, 1) := by decide +kernel
theorem dX3_number_33 : decode cX3_number 33 = .ok (.aload_n 0, 1) := by decide +kernel
theorem dX3_number_34 : decode cX3_number 34 = .ok (.iload_n 3, 1) := by decide +kernel
theorem dX3_number_35 : decode cX3_number 35 = .ok (.invokevirtual 35, 3) := by decide +kernel
theorem dX3_number_38 : decode cX3_number 38 = .ok (.bipush 48, 2) := by decide +kernel
theorem dX3_number_40 : decode cX3_number 40 = .ok (.isub, 1) := by decide +kernel
theorem dX3_number_41 : decode cX3_number 41 = .ok (.iadd, 1) := by decide +kernel
theorem dX3_number_42 : decode cX3_number 42 = .ok (.istore_n 2, 1) := by decide +kernel
theorem dX3_number_43 : decode cX3_number 43 = .ok (.iinc 3 1, 3) := by decide +kernel
theorem dX3_number_46 : decode cX3_number 46 = .ok (.goto (-27), 3) := by decide +kernel
theorem dX3_number_49 : decode cX3_number 49 = .ok (.iload_n 2, 1) := by decide +kernel
theorem dX3_number_50 : decode cX3_number 50 = .ok (.ireturn, 1) := by decide +kernel
set_option maxRecDepth 20000 in
theorem ggX4_init_X0_init : GoodIn wsX4_init wsX0_init := goodIn_r _ [24, 25, 2, 3, 26, 27, 28, 29, 30, 31, 32, 33, 34, 35, 36, 37, 38, 39, 64, 65, 66, 67, 68, 69, 70, 71, 72, 73, 74, 75] (by decide +kernel) (by decide +kernel)
set_option maxRecDepth 20000 in
theorem gX4_init_X0_init_n9 : GoodIn wsX4_init (wsX0_init) := ggX4_init_X0_init
set_option maxRecDepth 20000 in
theorem ggX4_init_X2_init : GoodIn wsX4_init wsX2_init := goodIn_r _ [42, 43, 2, 3, 44, 45, 46, 47, 5, 6, 23, 24, 25, 26, 27, 28, 29, 30, 31, 32, 33, 34, 35, 36, 37, 38, 39, 82, 83, 84, 64, 65, 66, 67, 68, 69, 70, 71, 72, 73, 74, 75] (by decide +kernel) (by decide +kernel)
set_option maxRecDepth 20000 in
theorem gX4_init_X2_init : GoodIn wsX4_init (wsX2_init) := ggX4_init_X2_init
set_option maxRecDepth 20000 in
theorem ggX4_init_X1_init : GoodIn wsX4_init wsX1_init := goodIn_r _ [49, 50, 2, 3, 51, 52, 53, 54, 85, 86, 87] (by decide +kernel) (by decide +kernel)
set_option maxRecDepth 20000 in
theorem gX4_init_X1_init_n25 : GoodIn wsX4_init (wsX1_init) := ggX4_init_X1_init
set_option maxRecDepth 20000 in
theorem ggX4_init_X3_init : GoodIn wsX4_init wsX3_init := goodIn_r _ [56, 57, 2, 3, 58, 59, 60, 61, 32, 62, 63, 88, 89, 90, 91, 92] (by decide +kernel) (by decide +kernel)
set_option maxRecDepth 20000 in
theorem gX4_init_X3_init_n32 : GoodIn wsX4_init (wsX3_init) := ggX4_init_X3_init
