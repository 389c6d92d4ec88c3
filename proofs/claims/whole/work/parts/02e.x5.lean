theorem dX5_init_0 : decode cX5_init 0 = .ok (.aload_n 0, 1) := by decide +kernel
theorem dX5_init_1 : decode cX5_init 1 = .ok (.invokespecial 1, 3) := by decide +kernel
theorem dX5_init_4 : decode cX5_init 4 = .ok (.aload_n 0, 1) := by decide +kernel
theorem dX5_init_5 : decode cX5_init 5 = .ok (.sipush 133, 3) := by decide +kernel
theorem dX5_init_8 : decode cX5_init 8 = .ok (.newarray .int, 2) := by decide +kernel
theorem dX5_init_10 : decode cX5_init 10 = .ok (.putfield 7, 3) := by decide +kernel
theorem dX5_init_13 : decode cX5_init 13 = .ok (.aload_n 0, 1) := by decide +kernel
theorem dX5_init_14 : decode cX5_init 14 = .ok (.sipush 1064, 3) := by decide +kernel
theorem dX5_init_17 : decode cX5_init 17 = .ok (.newarray .int, 2) := by decide +kernel
theorem dX5_init_19 : decode cX5_init 19 = .ok (.putfield 13, 3) := by decide +kernel
theorem dX5_init_22 : decode cX5_init 22 = .ok (.aload_n 0, 1) := by decide +kernel
theorem dX5_init_23 : decode cX5_init 23 = .ok (.bipush 16, 2) := by decide +kernel
theorem dX5_init_25 : decode cX5_init 25 = .ok (.newarray .int, 2) := by decide +kernel
theorem dX5_init_27 : decode cX5_init 27 = .ok (.putfield 16, 3) := by decide +kernel
theorem dX5_init_30 : decode cX5_init 30 = .ok (.aload_n 0, 1) := by decide +kernel
theorem dX5_init_31 : decode cX5_init 31 = .ok (.bipush 80, 2) := by decide +kernel
theorem dX5_init_33 : decode cX5_init 33 = .ok (.newarray .int, 2) := by decide +kernel
theorem dX5_init_35 : decode cX5_init 35 = .ok (.putfield 19, 3) := by decide +kernel
theorem dX5_init_38 : decode cX5_init 38 = .ok (.aload_n 0, 1) := by decide +kernel
theorem dX5_init_39 : decode cX5_init 39 = .ok (.ldc 22, 2) := by decide +kernel
theorem dX5_init_41 : decode cX5_init 41 = .ok (.putfield 23, 3) := by decide +kernel
theorem dX5_init_44 : decode cX5_init 44 = .ok (.aload_n 0, 1) := by decide +kernel
theorem dX5_init_45 : decode cX5_init 45 = .ok (.bipush 40, 2) := by decide +kernel
theorem dX5_init_47 : decode cX5_init 47 = .ok (.newarray .long, 2) := by decide +kernel
theorem dX5_init_49 : decode cX5_init 49 = .ok (.putfield 27, 3) := by decide +kernel
theorem dX5_init_52 : decode cX5_init 52 = .ok (.aload_n 0, 1) := by decide +kernel
theorem dX5_init_53 : decode cX5_init 53 = .ok (.bipush 40, 2) := by decide +kernel
theorem dX5_init_55 : decode cX5_init 55 = .ok (.newarray .int, 2) := by decide +kernel
theorem dX5_init_57 : decode cX5_init 57 = .ok (.putfield 31, 3) := by decide +kernel
theorem dX5_init_60 : decode cX5_init 60 = .ok (.aload_n 0, 1) := by decide +kernel
theorem dX5_init_61 : decode cX5_init 61 = .ok (.getfield 7, 3) := by decide +kernel
theorem dX5_init_64 : decode cX5_init 64 = .ok (.iconst 1, 1) := by decide +kernel
theorem dX5_init_65 : decode cX5_init 65 = .ok (.ldc 34, 2) := by decide +kernel
theorem dX5_init_67 : decode cX5_init 67 = .ok (.iastore, 1) := by decide +kernel
theorem dX5_init_68 : decode cX5_init 68 = .ok (.aload_n 0, 1) := by decide +kernel
theorem dX5_init_69 : decode cX5_init 69 = .ok (.getfield 7, 3) := by decide +kernel
theorem dX5_init_72 : decode cX5_init 72 = .ok (.iconst 3, 1) := by decide +kernel
theorem dX5_init_73 : decode cX5_init 73 = .ok (.sipush 300, 3) := by decide +kernel
theorem dX5_init_76 : decode cX5_init 76 = .ok (.iastore, 1) := by decide +kernel
theorem dX5_init_77 : decode cX5_init 77 = .ok (.aload_n 0, 1) := by decide +kernel
theorem dX5_init_78 : decode cX5_init 78 = .ok (.getfield 7, 3) := by decide +kernel
theorem dX5_init_81 : decode cX5_init 81 = .ok (.iconst 4, 1) := by decide +kernel
theorem dX5_init_82 : decode cX5_init 82 = .ok (.sipush 7000, 3) := by decide +kernel
theorem dX5_init_85 : decode cX5_init 85 = .ok (.iastore, 1) := by decide +kernel
theorem dX5_init_86 : decode cX5_init 86 = .ok (.return_, 1) := by decide +kernel
theorem dX5_in_0 : decode cX5_in 0 = .ok (.iload_n 0, 1) := by decide +kernel
theorem dX5_in_1 : decode cX5_in 1 = .ok (.iload_n 1, 1) := by decide +kernel
theorem dX5_in_2 : decode cX5_in 2 = .ok (.if_icmp .lt 12, 3) := by decide +kernel
theorem dX5_in_5 : decode cX5_in 5 = .ok (.iload_n 0, 1) := by decide +kernel
theorem dX5_in_6 : decode cX5_in 6 = .ok (.iload_n 2, 1) := by decide +kernel
theorem dX5_in_7 : decode cX5_in 7 = .ok (.if_icmp .gt 7, 3) := by decide +kernel
theorem dX5_in_10 : decode cX5_in 10 = .ok (.iconst 1, 1) := by decide +kernel
theorem dX5_in_11 : decode cX5_in 11 = .ok (.goto 4, 3) := by decide +kernel
theorem dX5_in_14 : decode cX5_in 14 = .ok (.iconst 0, 1) := by decide +kernel
theorem dX5_in_15 : decode cX5_in 15 = .ok (.ireturn, 1) := by decide +kernel
set_option maxRecDepth 20000 in
theorem ggX5_isLayer_X5_in : GoodIn wsX5_isLayer wsX5_in := goodIn_r _ [5] (by decide +kernel) (by decide +kernel)
set_option maxRecDepth 20000 in
theorem gX5_isLayer_X5_in : GoodIn wsX5_isLayer (va_wsS RX5 35 yX5_in wsX5_in) := goodIn_app (goodIn_of _ (by decide +kernel)) ggX5_isLayer_X5_in
theorem dX5_isLayer_0 : decode cX5_isLayer 0 = .ok (.iload_n 1, 1) := by decide +kernel
theorem dX5_isLayer_1 : decode cX5_isLayer 1 = .ok (.iconst 0, 1) := by decide +kernel
theorem dX5_isLayer_2 : decode cX5_isLayer 2 = .ok (.aload_n 0, 1) := by decide +kernel
theorem dX5_isLayer_3 : decode cX5_isLayer 3 = .ok (.getfield 7, 3) := by decide +kernel
theorem dX5_isLayer_6 : decode cX5_isLayer 6 = .ok (.iconst 0, 1) := by decide +kernel
theorem dX5_isLayer_7 : decode cX5_isLayer 7 = .ok (.iaload, 1) := by decide +kernel
theorem dX5_isLayer_8 : decode cX5_isLayer 8 = .ok (.iconst 1, 1) := by decide +kernel
theorem dX5_isLayer_9 : decode cX5_isLayer 9 = .ok (.isub, 1) := by decide +kernel
theorem dX5_isLayer_10 : decode cX5_isLayer 10 = .ok (.invokestatic 35, 3) := by decide +kernel
theorem dX5_isLayer_13 : decode cX5_isLayer 13 = .ok (.ireturn, 1) := by decide +kernel
theorem dX5_of_0 : decode cX5_of 0 = .ok (.aload_n 0, 1) := by decide +kernel
theorem dX5_of_1 : decode cX5_of 1 = .ok (.getfield 7, 3) := by decide +kernel
theorem dX5_of_4 : decode cX5_of 4 = .ok (.bipush 8, 2) := by decide +kernel
theorem dX5_of_6 : decode cX5_of 6 = .ok (.iload_n 1, 1) := by decide +kernel
theorem dX5_of_7 : decode cX5_of 7 = .ok (.imul, 1) := by decide +kernel
theorem dX5_of_8 : decode cX5_of 8 = .ok (.iload_n 2, 1) := by decide +kernel
theorem dX5_of_9 : decode cX5_of 9 = .ok (.iadd, 1) := by decide +kernel
theorem dX5_of_10 : decode cX5_of 10 = .ok (.iaload, 1) := by decide +kernel
theorem dX5_of_11 : decode cX5_of 11 = .ok (.ireturn, 1) := by decide +kernel
theorem dX5_size_0 : decode cX5_size 0 = .ok (.lload_n 0, 1) := by decide +kernel
theorem dX5_size_1 : decode cX5_size 1 = .ok (.lconst 0, 1) := by decide +kernel
theorem dX5_size_2 : decode cX5_size 2 = .ok (.lcmp, 1) := by decide +kernel
theorem dX5_size_3 : decode cX5_size 3 = .ok (.ifCond .ge 8, 3) := by decide +kernel
theorem dX5_size_6 : decode cX5_size 6 = .ok (.lload_n 0, 1) := by decide +kernel
theorem dX5_size_7 : decode cX5_size 7 = .ok (.lneg, 1) := by decide +kernel
theorem dX5_size_8 : decode cX5_size 8 = .ok (.goto 4, 3) := by decide +kernel
theorem dX5_size_11 : decode cX5_size 11 = .ok (.lload_n 0, 1) := by decide +kernel
theorem dX5_size_12 : decode cX5_size 12 = .ok (.lreturn, 1) := by decide +kernel
theorem dX5_record_0 : decode cX5_record 0 = .ok (.aload_n 0, 1) := by decide +kernel
theorem dX5_record_1 : decode cX5_record 1 = .ok (.getfield 39, 3) := by decide +kernel
theorem dX5_record_4 : decode cX5_record 4 = .ok (.ifCond .eq 4, 3) := by decide +kernel
theorem dX5_record_7 : decode cX5_record 7 = .ok (.return_, 1) := by decide +kernel
theorem dX5_record_8 : decode cX5_record 8 = .ok (.aload_n 0, 1) := by decide +kernel
theorem dX5_record_9 : decode cX5_record 9 = .ok (.dup, 1) := by decide +kernel
theorem dX5_record_10 : decode cX5_record 10 = .ok (.getfield 43, 3) := by decide +kernel
theorem dX5_record_13 : decode cX5_record 13 = .ok (.iconst 1, 1) := by decide +kernel
theorem dX5_record_14 : decode cX5_record 14 = .ok (.iadd, 1) := by decide +kernel
theorem dX5_record_15 : decode cX5_record 15 = .ok (.putfield 43, 3) := by decide +kernel
theorem dX5_record_18 : decode cX5_record 18 = .ok (.aload_n 0, 1) := by decide +kernel
theorem dX5_record_19 : decode cX5_record 19 = .ok (.getfield 46, 3) := by decide +kernel
theorem dX5_record_22 : decode cX5_record 22 = .ok (.bipush 8, 2) := by decide +kernel
theorem dX5_record_24 : decode cX5_record 24 = .ok (.if_icmp .ne 46, 3) := by decide +kernel
theorem dX5_record_27 : decode cX5_record 27 = .ok (.sipush 133, 3) := by decide +kernel
theorem dX5_record_30 : decode cX5_record 30 = .ok (.istore_n 1, 1) := by decide +kernel
theorem dX5_record_31 : decode cX5_record 31 = .ok (.iload_n 1, 1) := by decide +kernel
theorem dX5_record_32 : decode cX5_record 32 = .ok (.sipush 1064, 3) := by decide +kernel
theorem dX5_record_35 : decode cX5_record 35 = .ok (.if_icmp .ge 25, 3) := by decide +kernel
theorem dX5_record_38 : decode cX5_record 38 = .ok (.aload_n 0, 1) := by decide +kernel
theorem dX5_record_39 : decode cX5_record 39 = .ok (.getfield 13, 3) := by decide +kernel
theorem dX5_record_42 : decode cX5_record 42 = .ok (.iload_n 1, 1) := by decide +kernel
theorem dX5_record_43 : decode cX5_record 43 = .ok (.sipush 133, 3) := by decide +kernel
theorem dX5_record_46 : decode cX5_record 46 = .ok (.isub, 1) := by decide +kernel
theorem dX5_record_47 : decode cX5_record 47 = .ok (.aload_n 0, 1) := by decide +kernel
theorem dX5_record_48 : decode cX5_record 48 = .ok (.getfield 13, 3) := by decide +kernel
theorem dX5_record_51 : decode cX5_record 51 = .ok (.iload_n 1, 1) := by decide +kernel
theorem dX5_record_52 : decode cX5_record 52 = .ok (.iaload, 1) := by decide +kernel
theorem dX5_record_53 : decode cX5_record 53 = .ok (.iastore, 1) := by decide +kernel
theorem dX5_record_54 : decode cX5_record 54 = .ok (.iinc 1 1, 3) := by decide +kernel
theorem dX5_record_57 : decode cX5_record 57 = .ok (.goto (-26), 3) := by decide +kernel
theorem dX5_record_60 : decode cX5_record 60 = .ok (.aload_n 0, 1) := by decide +kernel
theorem dX5_record_61 : decode cX5_record 61 = .ok (.dup, 1) := by decide +kernel
theorem dX5_record_62 : decode cX5_record 62 = .ok (.getfield 46, 3) := by decide +kernel
theorem dX5_record_65 : decode cX5_record 65 = .ok (.iconst 1, 1) := by decide +kernel
theorem dX5_record_66 : decode cX5_record 66 = .ok (.isub, 1) := by decide +kernel
theorem dX5_record_67 : decode cX5_record 67 = .ok (.putfield 46, 3) := by decide +kernel
theorem dX5_record_70 : decode cX5_record 70 = .ok (.iconst 0, 1) := by decide +kernel
theorem dX5_record_71 : decode cX5_record 71 = .ok (.istore_n 1, 1) := by decide +kernel
theorem dX5_record_72 : decode cX5_record 72 = .ok (.iload_n 1, 1) := by decide +kernel
theorem dX5_record_73 : decode cX5_record 73 = .ok (.sipush 133, 3) := by decide +kernel
theorem dX5_record_76 : decode cX5_record 76 = .ok (.if_icmp .ge 30, 3) := by decide +kernel
theorem dX5_record_79 : decode cX5_record 79 = .ok (.aload_n 0, 1) := by decide +kernel
theorem dX5_record_80 : decode cX5_record 80 = .ok (.getfield 13, 3) := by decide +kernel
theorem dX5_record_83 : decode cX5_record 83 = .ok (.sipush 133, 3) := by decide +kernel
theorem dX5_record_86 : decode cX5_record 86 = .ok (.aload_n 0, 1) := by decide +kernel
theorem dX5_record_87 : decode cX5_record 87 = .ok (.getfield 46, 3) := by decide +kernel
theorem dX5_record_90 : decode cX5_record 90 = .ok (.imul, 1) := by decide +kernel
theorem dX5_record_91 : decode cX5_record 91 = .ok (.iload_n 1, 1) := by decide +kernel
theorem dX5_record_92 : decode cX5_record 92 = .ok (.iadd, 1) := by decide +kernel
theorem dX5_record_93 : decode cX5_record 93 = .ok (.aload_n 0, 1) := by decide +kernel
theorem dX5_record_94 : decode cX5_record 94 = .ok (.getfield 7, 3) := by decide +kernel
theorem dX5_record_97 : decode cX5_record 97 = .ok (.iload_n 1, 1) := by decide +kernel
theorem dX5_record_98 : decode cX5_record 98 = .ok (.iaload, 1) := by decide +kernel
theorem dX5_record_99 : decode cX5_record 99 = .ok (.iastore, 1) := by decide +kernel
theorem dX5_record_100 : decode cX5_record 100 = .ok (.iinc 1 1, 3) := by decide +kernel
theorem dX5_record_103 : decode cX5_record 103 = .ok (.goto (-31), 3) := by decide +kernel
theorem dX5_record_106 : decode cX5_record 106 = .ok (.aload_n 0, 1) := by decide +kernel
theorem dX5_record_107 : decode cX5_record 107 = .ok (.dup, 1) := by decide +kernel
theorem dX5_record_108 : decode cX5_record 108 = .ok (.getfield 46, 3) := by decide +kernel
theorem dX5_record_111 : decode cX5_record 111 = .ok (.iconst 1, 1) := by decide +kernel
theorem dX5_record_112 : decode cX5_record 112 = .ok (.iadd, 1) := by decide +kernel
theorem dX5_record_113 : decode cX5_record 113 = .ok (.putfield 46, 3) := by decide +kernel
theorem dX5_record_116 : decode cX5_record 116 = .ok (.return_, 1) := by decide +kernel
theorem dX5_undo_0 : decode cX5_undo 0 = .ok (.aload_n 0, 1) := by decide +kernel
theorem dX5_undo_1 : decode cX5_undo 1 = .ok (.getfield 46, 3) := by decide +kernel
theorem dX5_undo_4 : decode cX5_undo 4 = .ok (.ifCond .ne 6, 3) := by decide +kernel
theorem dX5_undo_7 : decode cX5_undo 7 = .ok (.ldc 22, 2) := by decide +kernel
theorem dX5_undo_9 : decode cX5_undo 9 = .ok (.ireturn, 1) := by decide +kernel
theorem dX5_undo_10 : decode cX5_undo 10 = .ok (.aload_n 0, 1) := by decide +kernel
theorem dX5_undo_11 : decode cX5_undo 11 = .ok (.dup, 1) := by decide +kernel
theorem dX5_undo_12 : decode cX5_undo 12 = .ok (.getfield 46, 3) := by decide +kernel
theorem dX5_undo_15 : decode cX5_undo 15 = .ok (.iconst 1, 1) := by decide +kernel
theorem dX5_undo_16 : decode cX5_undo 16 = .ok (.isub, 1) := by decide +kernel
theorem dX5_undo_17 : decode cX5_undo 17 = .ok (.putfield 46, 3) := by decide +kernel
theorem dX5_undo_20 : decode cX5_undo 20 = .ok (.iconst 0, 1) := by decide +kernel
theorem dX5_undo_21 : decode cX5_undo 21 = .ok (.istore_n 1, 1) := by decide +kernel
theorem dX5_undo_22 : decode cX5_undo 22 = .ok (.iload_n 1, 1) := by decide +kernel
theorem dX5_undo_23 : decode cX5_undo 23 = .ok (.sipush 133, 3) := by decide +kernel
theorem dX5_undo_26 : decode cX5_undo 26 = .ok (.if_icmp .ge 30, 3) := by decide +kernel
theorem dX5_undo_29 : decode cX5_undo 29 = .ok (.aload_n 0, 1) := by decide +kernel
theorem dX5_undo_30 : decode cX5_undo 30 = .ok (.getfield 7, 3) := by decide +kernel
theorem dX5_undo_33 : decode cX5_undo 33 = .ok (.iload_n 1, 1) := by decide +kernel
theorem dX5_undo_34 : decode cX5_undo 34 = .ok (.aload_n 0, 1) := by decide +kernel
theorem dX5_undo_35 : decode cX5_undo 35 = .ok (.getfield 13, 3) := by decide +kernel
theorem dX5_undo_38 : decode cX5_undo 38 = .ok (.sipush 133, 3) := by decide +kernel
theorem dX5_undo_41 : decode cX5_undo 41 = .ok (.aload_n 0, 1) := by decide +kernel
theorem dX5_undo_42 : decode cX5_undo 42 = .ok (.getfield 46, 3) := by decide +kernel
theorem dX5_undo_45 : decode cX5_undo 45 = .ok (.imul, 1) := by decide +kernel
theorem dX5_undo_46 : decode cX5_undo 46 = .ok (.iload_n 1, 1) := by decide +kernel
theorem dX5_undo_47 : decode cX5_undo 47 = .ok (.iadd, 1) := by decide +kernel
theorem dX5_undo_48 : decode cX5_undo 48 = .ok (.iaload, 1) := by decide +kernel
theorem dX5_undo_49 : decode cX5_undo 49 = .ok (.iastore, 1) := by decide +kernel
theorem dX5_undo_50 : decode cX5_undo 50 = .ok (.iinc 1 1, 3) := by decide +kernel
theorem dX5_undo_53 : decode cX5_undo 53 = .ok (.goto (-31), 3) := by decide +kernel
theorem dX5_undo_56 : decode cX5_undo 56 = .ok (.aload_n 0, 1) := by decide +kernel
theorem dX5_undo_57 : decode cX5_undo 57 = .ok (.getfield 46, 3) := by decide +kernel
theorem dX5_undo_60 : decode cX5_undo 60 = .ok (.ireturn, 1) := by decide +kernel
set_option maxRecDepth 20000 in
theorem ggX5_top_X5_of : GoodIn wsX5_top wsX5_of := goodIn_r _ [5, 6, 7, 8, 9, 10, 11, 12, 13, 14, 15, 16, 17, 18] (by decide +kernel) (by decide +kernel)
set_option maxRecDepth 20000 in
theorem gX5_top_X5_of : GoodIn wsX5_top (wsV RX5 49 RX5 yX5_of wsX5_of) := goodIn_app (goodIn_of _ (by decide +kernel)) ggX5_top_X5_of
theorem dX5_top_0 : decode cX5_top 0 = .ok (.iconst 0, 1) := by decide +kernel
theorem dX5_top_1 : decode cX5_top 1 = .ok (.istore_n 2, 1) := by decide +kernel
theorem dX5_top_2 : decode cX5_top 2 = .ok (.iconst 0, 1) := by decide +kernel
theorem dX5_top_3 : decode cX5_top 3 = .ok (.istore_n 3, 1) := by decide +kernel
theorem dX5_top_4 : decode cX5_top 4 = .ok (.iload_n 3, 1) := by decide +kernel
theorem dX5_top_5 : decode cX5_top 5 = .ok (.iload_n 1, 1) := by decide +kernel
theorem dX5_top_6 : decode cX5_top 6 = .ok (.if_icmp .ge 18, 3) := by decide +kernel
theorem dX5_top_9 : decode cX5_top 9 = .ok (.iload_n 2, 1) := by decide +kernel
theorem dX5_top_10 : decode cX5_top 10 = .ok (.aload_n 0, 1) := by decide +kernel
theorem dX5_top_11 : decode cX5_top 11 = .ok (.iload_n 3, 1) := by decide +kernel
theorem dX5_top_12 : decode cX5_top 12 = .ok (.iconst 5, 1) := by decide +kernel
theorem dX5_top_13 : decode cX5_top 13 = .ok (.invokevirtual 49, 3) := by decide +kernel
theorem dX5_top_16 : decode cX5_top 16 = .ok (.iadd, 1) := by decide +kernel
theorem dX5_top_17 : decode cX5_top 17 = .ok (.istore_n 2, 1) := by decide +kernel
theorem dX5_top_18 : decode cX5_top 18 = .ok (.iinc 3 1, 3) := by decide +kernel
theorem dX5_top_21 : decode cX5_top 21 = .ok (.goto (-17), 3) := by decide +kernel
theorem dX5_top_24 : decode cX5_top 24 = .ok (.iload_n 2, 1) := by decide +kernel
theorem dX5_top_25 : decode cX5_top 25 = .ok (.ireturn, 1) := by decide +kernel
set_option maxRecDepth 20000 in
theorem ggX5_thinningOf_X5_of : GoodIn wsX5_thinningOf wsX5_of := goodIn_r _ [9, 1, 14, 15, 16, 17, 18, 19, 20, 21, 22, 23, 24, 25] (by decide +kernel) (by decide +kernel)
set_option maxRecDepth 20000 in
theorem gX5_thinningOf_X5_of : GoodIn wsX5_thinningOf (wsV RX5 49 RX5 yX5_of wsX5_of) := goodIn_app (goodIn_of _ (by decide +kernel)) ggX5_thinningOf_X5_of
set_option maxRecDepth 20000 in
theorem ggX5_thinningOf_X5_top : GoodIn wsX5_thinningOf wsX5_top := goodIn_r _ [13, 5, 6, 7, 8, 9, 1, 14, 15, 16, 17, 18, 19, 20, 21, 22, 23, 24, 25] (by decide +kernel) (by decide +kernel)
set_option maxRecDepth 20000 in
theorem gX5_thinningOf_X5_top : GoodIn wsX5_thinningOf (wsV RX5 53 RX5 yX5_top wsX5_top) := goodIn_app (goodIn_of _ (by decide +kernel)) ggX5_thinningOf_X5_top
theorem dX5_thinningOf_0 : decode cX5_thinningOf 0 = .ok (.aload_n 0, 1) := by decide +kernel
theorem dX5_thinningOf_1 : decode cX5_thinningOf 1 = .ok (.getfield 7, 3) := by decide +kernel
theorem dX5_thinningOf_4 : decode cX5_thinningOf 4 = .ok (.iconst 2, 1) := by decide +kernel
theorem dX5_thinningOf_5 : decode cX5_thinningOf 5 = .ok (.iaload, 1) := by decide +kernel
theorem dX5_thinningOf_6 : decode cX5_thinningOf 6 = .ok (.iconst 2, 1) := by decide +kernel
theorem dX5_thinningOf_7 : decode cX5_thinningOf 7 = .ok (.if_icmp .ne 11, 3) := by decide +kernel
theorem dX5_thinningOf_10 : decode cX5_thinningOf 10 = .ok (.aload_n 0, 1) := by decide +kernel
theorem dX5_thinningOf_11 : decode cX5_thinningOf 11 = .ok (.iload_n 1, 1) := by decide +kernel
theorem dX5_thinningOf_12 : decode cX5_thinningOf 12 = .ok (.bipush 8, 2) := by decide +kernel
theorem dX5_thinningOf_14 : decode cX5_thinningOf 14 = .ok (.invokevirtual 49, 3) := by decide +kernel
theorem dX5_thinningOf_17 : decode cX5_thinningOf 17 = .ok (.ireturn, 1) := by decide +kernel
theorem dX5_thinningOf_18 : decode cX5_thinningOf 18 = .ok (.aload_n 0, 1) := by decide +kernel
theorem dX5_thinningOf_19 : decode cX5_thinningOf 19 = .ok (.getfield 7, 3) := by decide +kernel
theorem dX5_thinningOf_22 : decode cX5_thinningOf 22 = .ok (.iconst 1, 1) := by decide +kernel
theorem dX5_thinningOf_23 : decode cX5_thinningOf 23 = .ok (.iaload, 1) := by decide +kernel
theorem dX5_thinningOf_24 : decode cX5_thinningOf 24 = .ok (.i2l, 1) := by decide +kernel
theorem dX5_thinningOf_25 : decode cX5_thinningOf 25 = .ok (.lstore_n 2, 1) := by decide +kernel
theorem dX5_thinningOf_26 : decode cX5_thinningOf 26 = .ok (.lload_n 2, 1) := by decide +kernel
theorem dX5_thinningOf_27 : decode cX5_thinningOf 27 = .ok (.aload_n 0, 1) := by decide +kernel
theorem dX5_thinningOf_28 : decode cX5_thinningOf 28 = .ok (.iload_n 1, 1) := by decide +kernel
theorem dX5_thinningOf_29 : decode cX5_thinningOf 29 = .ok (.invokevirtual 53, 3) := by decide +kernel
theorem dX5_thinningOf_32 : decode cX5_thinningOf 32 = .ok (.i2l, 1) := by decide +kernel
theorem dX5_thinningOf_33 : decode cX5_thinningOf 33 = .ok (.lsub, 1) := by decide +kernel
theorem dX5_thinningOf_34 : decode cX5_thinningOf 34 = .ok (.aload_n 0, 1) := by decide +kernel
theorem dX5_thinningOf_35 : decode cX5_thinningOf 35 = .ok (.iload_n 1, 1) := by decide +kernel
theorem dX5_thinningOf_36 : decode cX5_thinningOf 36 = .ok (.iconst 5, 1) := by decide +kernel
theorem dX5_thinningOf_37 : decode cX5_thinningOf 37 = .ok (.invokevirtual 49, 3) := by decide +kernel
theorem dX5_thinningOf_40 : decode cX5_thinningOf 40 = .ok (.iconst 2, 1) := by decide +kernel
theorem dX5_thinningOf_41 : decode cX5_thinningOf 41 = .ok (.idiv, 1) := by decide +kernel
theorem dX5_thinningOf_42 : decode cX5_thinningOf 42 = .ok (.i2l, 1) := by decide +kernel
theorem dX5_thinningOf_43 : decode cX5_thinningOf 43 = .ok (.lsub, 1) := by decide +kernel
theorem dX5_thinningOf_44 : decode cX5_thinningOf 44 = .ok (.lstore 4, 2) := by decide +kernel
theorem dX5_thinningOf_46 : decode cX5_thinningOf 46 = .ok (.lload_n 2, 1) := by decide +kernel
theorem dX5_thinningOf_47 : decode cX5_thinningOf 47 = .ok (.aload_n 0, 1) := by decide +kernel
theorem dX5_thinningOf_48 : decode cX5_thinningOf 48 = .ok (.getfield 7, 3) := by decide +kernel
theorem dX5_thinningOf_51 : decode cX5_thinningOf 51 = .ok (.iconst 3, 1) := by decide +kernel
theorem dX5_thinningOf_52 : decode cX5_thinningOf 52 = .ok (.iaload, 1) := by decide +kernel
theorem dX5_thinningOf_53 : decode cX5_thinningOf 53 = .ok (.i2l, 1) := by decide +kernel
theorem dX5_thinningOf_54 : decode cX5_thinningOf 54 = .ok (.lmul, 1) := by decide +kernel
theorem dX5_thinningOf_55 : decode cX5_thinningOf 55 = .ok (.ldc2_w 57, 3) := by decide +kernel
theorem dX5_thinningOf_58 : decode cX5_thinningOf 58 = .ok (.ldiv, 1) := by decide +kernel
theorem dX5_thinningOf_59 : decode cX5_thinningOf 59 = .ok (.lstore 6, 2) := by decide +kernel
theorem dX5_thinningOf_61 : decode cX5_thinningOf 61 = .ok (.aload_n 0, 1) := by decide +kernel
theorem dX5_thinningOf_62 : decode cX5_thinningOf 62 = .ok (.getfield 7, 3) := by decide +kernel
theorem dX5_thinningOf_65 : decode cX5_thinningOf 65 = .ok (.iconst 2, 1) := by decide +kernel
theorem dX5_thinningOf_66 : decode cX5_thinningOf 66 = .ok (.iaload, 1) := by decide +kernel
theorem dX5_thinningOf_67 : decode cX5_thinningOf 67 = .ok (.ifCond .ne 14, 3) := by decide +kernel
theorem dX5_thinningOf_70 : decode cX5_thinningOf 70 = .ok (.ldc2_w 57, 3) := by decide +kernel
theorem dX5_thinningOf_73 : decode cX5_thinningOf 73 = .ok (.lload 4, 2) := by decide +kernel
theorem dX5_thinningOf_75 : decode cX5_thinningOf 75 = .ok (.lmul, 1) := by decide +kernel
theorem dX5_thinningOf_76 : decode cX5_thinningOf 76 = .ok (.lload_n 2, 1) := by decide +kernel
theorem dX5_thinningOf_77 : decode cX5_thinningOf 77 = .ok (.ldiv, 1) := by decide +kernel
theorem dX5_thinningOf_78 : decode cX5_thinningOf 78 = .ok (.goto 57, 3) := by decide +kernel
theorem dX5_thinningOf_81 : decode cX5_thinningOf 81 = .ok (.lload 4, 2) := by decide +kernel
theorem dX5_thinningOf_83 : decode cX5_thinningOf 83 = .ok (.lload 6, 2) := by decide +kernel
theorem dX5_thinningOf_85 : decode cX5_thinningOf 85 = .ok (.lcmp, 1) := by decide +kernel
theorem dX5_thinningOf_86 : decode cX5_thinningOf 86 = .ok (.ifCond .lt 28, 3) := by decide +kernel
theorem dX5_thinningOf_89 : decode cX5_thinningOf 89 = .ok (.ldc2_w 57, 3) := by decide +kernel
theorem dX5_thinningOf_92 : decode cX5_thinningOf 92 = .ok (.ldc2_w 59, 3) := by decide +kernel
theorem dX5_thinningOf_95 : decode cX5_thinningOf 95 = .ok (.lload 4, 2) := by decide +kernel
theorem dX5_thinningOf_97 : decode cX5_thinningOf 97 = .ok (.lmul, 1) := by decide +kernel
theorem dX5_thinningOf_98 : decode cX5_thinningOf 98 = .ok (.lload 6, 2) := by decide +kernel
theorem dX5_thinningOf_100 : decode cX5_thinningOf 100 = .ok (.lsub, 1) := by decide +kernel
theorem dX5_thinningOf_101 : decode cX5_thinningOf 101 = .ok (.lmul, 1) := by decide +kernel
theorem dX5_thinningOf_102 : decode cX5_thinningOf 102 = .ok (.ldc2_w 59, 3) := by decide +kernel
theorem dX5_thinningOf_105 : decode cX5_thinningOf 105 = .ok (.lload_n 2, 1) := by decide +kernel
theorem dX5_thinningOf_106 : decode cX5_thinningOf 106 = .ok (.lmul, 1) := by decide +kernel
theorem dX5_thinningOf_107 : decode cX5_thinningOf 107 = .ok (.lload 6, 2) := by decide +kernel
theorem dX5_thinningOf_109 : decode cX5_thinningOf 109 = .ok (.lsub, 1) := by decide +kernel
theorem dX5_thinningOf_110 : decode cX5_thinningOf 110 = .ok (.ldiv, 1) := by decide +kernel
theorem dX5_thinningOf_111 : decode cX5_thinningOf 111 = .ok (.goto 24, 3) := by decide +kernel
theorem dX5_thinningOf_114 : decode cX5_thinningOf 114 = .ok (.ldc2_w 57, 3) := by decide +kernel
theorem dX5_thinningOf_117 : decode cX5_thinningOf 117 = .ok (.lload 4, 2) := by decide +kernel
theorem dX5_thinningOf_119 : decode cX5_thinningOf 119 = .ok (.lmul, 1) := by decide +kernel
theorem dX5_thinningOf_120 : decode cX5_thinningOf 120 = .ok (.lload 4, 2) := by decide +kernel
theorem dX5_thinningOf_122 : decode cX5_thinningOf 122 = .ok (.lmul, 1) := by decide +kernel
theorem dX5_thinningOf_123 : decode cX5_thinningOf 123 = .ok (.lload 6, 2) := by decide +kernel
theorem dX5_thinningOf_125 : decode cX5_thinningOf 125 = .ok (.ldc2_w 59, 3) := by decide +kernel
theorem dX5_thinningOf_128 : decode cX5_thinningOf 128 = .ok (.lload_n 2, 1) := by decide +kernel
theorem dX5_thinningOf_129 : decode cX5_thinningOf 129 = .ok (.lmul, 1) := by decide +kernel
theorem dX5_thinningOf_130 : decode cX5_thinningOf 130 = .ok (.lload 6, 2) := by decide +kernel
theorem dX5_thinningOf_132 : decode cX5_thinningOf 132 = .ok (.lsub, 1) := by decide +kernel
theorem dX5_thinningOf_133 : decode cX5_thinningOf 133 = .ok (.lmul, 1) := by decide +kernel
theorem dX5_thinningOf_134 : decode cX5_thinningOf 134 = .ok (.ldiv, 1) := by decide +kernel
theorem dX5_thinningOf_135 : decode cX5_thinningOf 135 = .ok (.lstore 8, 2) := by decide +kernel
theorem dX5_thinningOf_137 : decode cX5_thinningOf 137 = .ok (.lload 8, 2) := by decide +kernel
theorem dX5_thinningOf_139 : decode cX5_thinningOf 139 = .ok (.ldc2_w 61, 3) := by decide +kernel
theorem dX5_thinningOf_142 : decode cX5_thinningOf 142 = .ok (.lcmp, 1) := by decide +kernel
theorem dX5_thinningOf_143 : decode cX5_thinningOf 143 = .ok (.ifCond .ge 8, 3) := by decide +kernel
theorem dX5_thinningOf_146 : decode cX5_thinningOf 146 = .ok (.bipush 10, 2) := by decide +kernel
theorem dX5_thinningOf_148 : decode cX5_thinningOf 148 = .ok (.goto 6, 3) := by decide +kernel
theorem dX5_thinningOf_151 : decode cX5_thinningOf 151 = .ok (.lload 8, 2) := by decide +kernel
theorem dX5_thinningOf_153 : decode cX5_thinningOf 153 = .ok (.l2i, 1) := by decide +kernel
theorem dX5_thinningOf_154 : decode cX5_thinningOf 154 = .ok (.ireturn, 1) := by decide +kernel
theorem dX5_yearsBy_0 : decode cX5_yearsBy 0 = .ok (.ldc2_w 63, 3) := by decide +kernel
theorem dX5_yearsBy_3 : decode cX5_yearsBy 3 = .ok (.lload_n 0, 1) := by decide +kernel
theorem dX5_yearsBy_4 : decode cX5_yearsBy 4 = .ok (.lmul, 1) := by decide +kernel
theorem dX5_yearsBy_5 : decode cX5_yearsBy 5 = .ok (.lload_n 2, 1) := by decide +kernel
theorem dX5_yearsBy_6 : decode cX5_yearsBy 6 = .ok (.lload 4, 2) := by decide +kernel
theorem dX5_yearsBy_8 : decode cX5_yearsBy 8 = .ok (.lmul, 1) := by decide +kernel
theorem dX5_yearsBy_9 : decode cX5_yearsBy 9 = .ok (.lload 6, 2) := by decide +kernel
theorem dX5_yearsBy_11 : decode cX5_yearsBy 11 = .ok (.lmul, 1) := by decide +kernel
theorem dX5_yearsBy_12 : decode cX5_yearsBy 12 = .ok (.ldiv, 1) := by decide +kernel
theorem dX5_yearsBy_13 : decode cX5_yearsBy 13 = .ok (.l2i, 1) := by decide +kernel
theorem dX5_yearsBy_14 : decode cX5_yearsBy 14 = .ok (.ireturn, 1) := by decide +kernel
set_option maxRecDepth 20000 in
theorem ggX5_yearsOf_X5_of : GoodIn wsX5_yearsOf wsX5_of := goodIn_r _ [5, 6, 22, 23, 24, 25, 26, 27, 28, 29, 30, 31, 32, 33] (by decide +kernel) (by decide +kernel)
set_option maxRecDepth 20000 in
theorem gX5_yearsOf_X5_of : GoodIn wsX5_yearsOf (wsV RX5 49 RX5 yX5_of wsX5_of) := goodIn_app (goodIn_of _ (by decide +kernel)) ggX5_yearsOf_X5_of
set_option maxRecDepth 20000 in
theorem ggX5_yearsOf_X5_thinningOf : GoodIn wsX5_yearsOf wsX5_thinningOf := goodIn_r _ [10, 6, 11, 12, 13, 1, 2, 3, 4, 5, 14, 15, 16, 17, 22, 23, 24, 25, 26, 27, 28, 29, 30, 31, 32, 33] (by decide +kernel) (by decide +kernel)
set_option maxRecDepth 20000 in
theorem gX5_yearsOf_X5_thinningOf : GoodIn wsX5_yearsOf (wsV RX5 65 RX5 yX5_thinningOf wsX5_thinningOf) := goodIn_app (goodIn_of _ (by decide +kernel)) ggX5_yearsOf_X5_thinningOf
set_option maxRecDepth 20000 in
theorem ggX5_yearsOf_X5_yearsBy : GoodIn wsX5_yearsOf wsX5_yearsBy := goodIn_r _ [20, 21] (by decide +kernel) (by decide +kernel)
set_option maxRecDepth 20000 in
theorem gX5_yearsOf_X5_yearsBy : GoodIn wsX5_yearsOf (va_wsS RX5 68 yX5_yearsBy wsX5_yearsBy) := goodIn_app (goodIn_of _ (by decide +kernel)) ggX5_yearsOf_X5_yearsBy
theorem dX5_yearsOf_0 : decode cX5_yearsOf 0 = .ok (.aload_n 0, 1) := by decide +kernel
theorem dX5_yearsOf_1 : decode cX5_yearsOf 1 = .ok (.iload_n 1, 1) := by decide +kernel
theorem dX5_yearsOf_2 : decode cX5_yearsOf 2 = .ok (.iconst 5, 1) := by decide +kernel
theorem dX5_yearsOf_3 : decode cX5_yearsOf 3 = .ok (.invokevirtual 49, 3) := by decide +kernel
theorem dX5_yearsOf_6 : decode cX5_yearsOf 6 = .ok (.i2l, 1) := by decide +kernel
theorem dX5_yearsOf_7 : decode cX5_yearsOf 7 = .ok (.aload_n 0, 1) := by decide +kernel
theorem dX5_yearsOf_8 : decode cX5_yearsOf 8 = .ok (.iload_n 1, 1) := by decide +kernel
theorem dX5_yearsOf_9 : decode cX5_yearsOf 9 = .ok (.bipush 6, 2) := by decide +kernel
theorem dX5_yearsOf_11 : decode cX5_yearsOf 11 = .ok (.invokevirtual 49, 3) := by decide +kernel
theorem dX5_yearsOf_14 : decode cX5_yearsOf 14 = .ok (.i2l, 1) := by decide +kernel
theorem dX5_yearsOf_15 : decode cX5_yearsOf 15 = .ok (.aload_n 0, 1) := by decide +kernel
theorem dX5_yearsOf_16 : decode cX5_yearsOf 16 = .ok (.iload_n 1, 1) := by decide +kernel
theorem dX5_yearsOf_17 : decode cX5_yearsOf 17 = .ok (.bipush 7, 2) := by decide +kernel
theorem dX5_yearsOf_19 : decode cX5_yearsOf 19 = .ok (.invokevirtual 49, 3) := by decide +kernel
theorem dX5_yearsOf_22 : decode cX5_yearsOf 22 = .ok (.i2l, 1) := by decide +kernel
theorem dX5_yearsOf_23 : decode cX5_yearsOf 23 = .ok (.aload_n 0, 1) := by decide +kernel
theorem dX5_yearsOf_24 : decode cX5_yearsOf 24 = .ok (.iload_n 1, 1) := by decide +kernel
theorem dX5_yearsOf_25 : decode cX5_yearsOf 25 = .ok (.invokevirtual 65, 3) := by decide +kernel
theorem dX5_yearsOf_28 : decode cX5_yearsOf 28 = .ok (.i2l, 1) := by decide +kernel
theorem dX5_yearsOf_29 : decode cX5_yearsOf 29 = .ok (.invokestatic 68, 3) := by decide +kernel
theorem dX5_yearsOf_32 : decode cX5_yearsOf 32 = .ok (.ireturn, 1) := by decide +kernel
set_option maxRecDepth 20000 in
theorem ggX5_ageAtTop_X5_yearsOf : GoodIn wsX5_ageAtTop wsX5_yearsOf := goodIn_r _ [5, 6, 7, 8, 4, 9, 10, 11, 12, 13, 14, 15, 16, 17, 18, 19, 20, 21, 22, 23, 24, 25, 26, 27, 28, 29, 30, 31, 32, 33, 34, 35, 36, 37] (by decide +kernel) (by decide +kernel)
set_option maxRecDepth 20000 in
theorem gX5_ageAtTop_X5_yearsOf : GoodIn wsX5_ageAtTop (wsV RX5 72 RX5 yX5_yearsOf wsX5_yearsOf) := goodIn_app (goodIn_of _ (by decide +kernel)) ggX5_ageAtTop_X5_yearsOf
theorem dX5_ageAtTop_0 : decode cX5_ageAtTop 0 = .ok (.iconst 0, 1) := by decide +kernel
theorem dX5_ageAtTop_1 : decode cX5_ageAtTop 1 = .ok (.istore_n 2, 1) := by decide +kernel
theorem dX5_ageAtTop_2 : decode cX5_ageAtTop 2 = .ok (.iconst 0, 1) := by decide +kernel
theorem dX5_ageAtTop_3 : decode cX5_ageAtTop 3 = .ok (.istore_n 3, 1) := by decide +kernel
theorem dX5_ageAtTop_4 : decode cX5_ageAtTop 4 = .ok (.iload_n 3, 1) := by decide +kernel
theorem dX5_ageAtTop_5 : decode cX5_ageAtTop 5 = .ok (.iload_n 1, 1) := by decide +kernel
theorem dX5_ageAtTop_6 : decode cX5_ageAtTop 6 = .ok (.if_icmp .ge 17, 3) := by decide +kernel
theorem dX5_ageAtTop_9 : decode cX5_ageAtTop 9 = .ok (.iload_n 2, 1) := by decide +kernel
theorem dX5_ageAtTop_10 : decode cX5_ageAtTop 10 = .ok (.aload_n 0, 1) := by decide +kernel
theorem dX5_ageAtTop_11 : decode cX5_ageAtTop 11 = .ok (.iload_n 3, 1) := by decide +kernel
theorem dX5_ageAtTop_12 : decode cX5_ageAtTop 12 = .ok (.invokevirtual 72, 3) := by decide +kernel
theorem dX5_ageAtTop_15 : decode cX5_ageAtTop 15 = .ok (.iadd, 1) := by decide +kernel
theorem dX5_ageAtTop_16 : decode cX5_ageAtTop 16 = .ok (.istore_n 2, 1) := by decide +kernel
theorem dX5_ageAtTop_17 : decode cX5_ageAtTop 17 = .ok (.iinc 3 1, 3) := by decide +kernel
theorem dX5_ageAtTop_20 : decode cX5_ageAtTop 20 = .ok (.goto (-16), 3) := by decide +kernel
theorem dX5_ageAtTop_23 : decode cX5_ageAtTop 23 = .ok (.iload_n 2, 1) := by decide +kernel
theorem dX5_ageAtTop_24 : decode cX5_ageAtTop 24 = .ok (.ireturn, 1) := by decide +kernel
set_option maxRecDepth 20000 in
theorem ggX5_delayOf_X5_of : GoodIn wsX5_delayOf wsX5_of := goodIn_r _ [7, 2, 8, 9, 10, 11, 12, 13, 14, 15, 16, 17, 18, 19] (by decide +kernel) (by decide +kernel)
set_option maxRecDepth 20000 in
theorem gX5_delayOf_X5_of : GoodIn wsX5_delayOf (wsV RX5 49 RX5 yX5_of wsX5_of) := goodIn_app (goodIn_of _ (by decide +kernel)) ggX5_delayOf_X5_of
theorem dX5_delayOf_0 : decode cX5_delayOf 0 = .ok (.ldc2_w 75, 3) := by decide +kernel
theorem dX5_delayOf_3 : decode cX5_delayOf 3 = .ok (.aload_n 0, 1) := by decide +kernel
theorem dX5_delayOf_4 : decode cX5_delayOf 4 = .ok (.getfield 7, 3) := by decide +kernel
theorem dX5_delayOf_7 : decode cX5_delayOf 7 = .ok (.iconst 4, 1) := by decide +kernel
theorem dX5_delayOf_8 : decode cX5_delayOf 8 = .ok (.iaload, 1) := by decide +kernel
theorem dX5_delayOf_9 : decode cX5_delayOf 9 = .ok (.i2l, 1) := by decide +kernel
theorem dX5_delayOf_10 : decode cX5_delayOf 10 = .ok (.lmul, 1) := by decide +kernel
theorem dX5_delayOf_11 : decode cX5_delayOf 11 = .ok (.aload_n 0, 1) := by decide +kernel
theorem dX5_delayOf_12 : decode cX5_delayOf 12 = .ok (.iload_n 1, 1) := by decide +kernel
theorem dX5_delayOf_13 : decode cX5_delayOf 13 = .ok (.bipush 6, 2) := by decide +kernel
theorem dX5_delayOf_15 : decode cX5_delayOf 15 = .ok (.invokevirtual 49, 3) := by decide +kernel
theorem dX5_delayOf_18 : decode cX5_delayOf 18 = .ok (.i2l, 1) := by decide +kernel
theorem dX5_delayOf_19 : decode cX5_delayOf 19 = .ok (.aload_n 0, 1) := by decide +kernel
theorem dX5_delayOf_20 : decode cX5_delayOf 20 = .ok (.iload_n 1, 1) := by decide +kernel
theorem dX5_delayOf_21 : decode cX5_delayOf 21 = .ok (.bipush 7, 2) := by decide +kernel
theorem dX5_delayOf_23 : decode cX5_delayOf 23 = .ok (.invokevirtual 49, 3) := by decide +kernel
theorem dX5_delayOf_26 : decode cX5_delayOf 26 = .ok (.i2l, 1) := by decide +kernel
theorem dX5_delayOf_27 : decode cX5_delayOf 27 = .ok (.lmul, 1) := by decide +kernel
theorem dX5_delayOf_28 : decode cX5_delayOf 28 = .ok (.ldiv, 1) := by decide +kernel
theorem dX5_delayOf_29 : decode cX5_delayOf 29 = .ok (.l2i, 1) := by decide +kernel
theorem dX5_delayOf_30 : decode cX5_delayOf 30 = .ok (.ireturn, 1) := by decide +kernel
set_option maxRecDepth 20000 in
theorem ggX5_layerAt_X5_top : GoodIn wsX5_layerAt wsX5_top := goodIn_r _ [5, 6, 7, 8, 4, 9, 10, 11, 12, 13, 14, 15, 16, 17, 18, 19, 20, 21, 22] (by decide +kernel) (by decide +kernel)
set_option maxRecDepth 20000 in
theorem gX5_layerAt_X5_top : GoodIn wsX5_layerAt (wsV RX5 53 RX5 yX5_top wsX5_top) := goodIn_app (goodIn_of _ (by decide +kernel)) ggX5_layerAt_X5_top
theorem dX5_layerAt_0 : decode cX5_layerAt 0 = .ok (.iconst 0, 1) := by decide +kernel
theorem dX5_layerAt_1 : decode cX5_layerAt 1 = .ok (.istore_n 2, 1) := by decide +kernel
theorem dX5_layerAt_2 : decode cX5_layerAt 2 = .ok (.iload_n 1, 1) := by decide +kernel
theorem dX5_layerAt_3 : decode cX5_layerAt 3 = .ok (.aload_n 0, 1) := by decide +kernel
theorem dX5_layerAt_4 : decode cX5_layerAt 4 = .ok (.iload_n 2, 1) := by decide +kernel
theorem dX5_layerAt_5 : decode cX5_layerAt 5 = .ok (.iconst 1, 1) := by decide +kernel
theorem dX5_layerAt_6 : decode cX5_layerAt 6 = .ok (.iadd, 1) := by decide +kernel
theorem dX5_layerAt_7 : decode cX5_layerAt 7 = .ok (.invokevirtual 53, 3) := by decide +kernel
theorem dX5_layerAt_10 : decode cX5_layerAt 10 = .ok (.if_icmp .le 9, 3) := by decide +kernel
theorem dX5_layerAt_13 : decode cX5_layerAt 13 = .ok (.iinc 2 1, 3) := by decide +kernel
theorem dX5_layerAt_16 : decode cX5_layerAt 16 = .ok (.goto (-14), 3) := by decide +kernel
theorem dX5_layerAt_19 : decode cX5_layerAt 19 = .ok (.iload_n 2, 1) := by decide +kernel
theorem dX5_layerAt_20 : decode cX5_layerAt 20 = .ok (.ireturn, 1) := by decide +kernel
theorem dX5_part_0 : decode cX5_part 0 = .ok (.iload_n 0, 1) := by decide +kernel
theorem dX5_part_1 : decode cX5_part 1 = .ok (.i2l, 1) := by decide +kernel
theorem dX5_part_2 : decode cX5_part 2 = .ok (.iload_n 1, 1) := by decide +kernel
theorem dX5_part_3 : decode cX5_part 3 = .ok (.i2l, 1) := by decide +kernel
theorem dX5_part_4 : decode cX5_part 4 = .ok (.lmul, 1) := by decide +kernel
theorem dX5_part_5 : decode cX5_part 5 = .ok (.iload_n 2, 1) := by decide +kernel
theorem dX5_part_6 : decode cX5_part 6 = .ok (.i2l, 1) := by decide +kernel
theorem dX5_part_7 : decode cX5_part 7 = .ok (.ldiv, 1) := by decide +kernel
theorem dX5_part_8 : decode cX5_part 8 = .ok (.l2i, 1) := by decide +kernel
theorem dX5_part_9 : decode cX5_part 9 = .ok (.ireturn, 1) := by decide +kernel
set_option maxRecDepth 20000 in
theorem ggX5_ageAt_X5_layerAt : GoodIn wsX5_ageAt wsX5_layerAt := goodIn_r _ [5, 6, 7, 8, 4, 9, 10, 11, 12, 13, 14, 37, 38, 39, 40, 41, 42, 43, 44, 45, 46, 47, 48] (by decide +kernel) (by decide +kernel)
set_option maxRecDepth 20000 in
theorem gX5_ageAt_X5_layerAt : GoodIn wsX5_ageAt (wsV RX5 77 RX5 yX5_layerAt wsX5_layerAt) := goodIn_app (goodIn_of _ (by decide +kernel)) ggX5_ageAt_X5_layerAt
set_option maxRecDepth 20000 in
theorem ggX5_ageAt_X5_ageAtTop : GoodIn wsX5_ageAt wsX5_ageAtTop := goodIn_r _ [18, 19, 20, 21, 4, 22, 10, 11, 12, 13, 14, 23, 24, 25, 26, 27, 28, 29, 6, 7, 8, 9, 30, 31, 32, 33, 37, 38, 39, 40, 41, 42, 43, 44, 45, 46, 47, 48] (by decide +kernel) (by decide +kernel)
set_option maxRecDepth 20000 in
theorem gX5_ageAt_X5_ageAtTop : GoodIn wsX5_ageAt (wsV RX5 80 RX5 yX5_ageAtTop wsX5_ageAtTop) := goodIn_app (goodIn_of _ (by decide +kernel)) ggX5_ageAt_X5_ageAtTop
set_option maxRecDepth 20000 in
theorem ggX5_ageAt_X5_yearsOf : GoodIn wsX5_ageAt wsX5_yearsOf := goodIn_r _ [22, 10, 11, 12, 4, 13, 14, 23, 24, 25, 26, 27, 28, 29, 6, 7, 8, 9, 30, 31, 32, 33, 37, 38, 39, 40, 41, 42, 43, 44, 45, 46, 47, 48] (by decide +kernel) (by decide +kernel)
set_option maxRecDepth 20000 in
theorem gX5_ageAt_X5_yearsOf : GoodIn wsX5_ageAt (wsV RX5 72 RX5 yX5_yearsOf wsX5_yearsOf) := goodIn_app (goodIn_of _ (by decide +kernel)) ggX5_ageAt_X5_yearsOf
set_option maxRecDepth 20000 in
theorem ggX5_ageAt_X5_top : GoodIn wsX5_ageAt wsX5_top := goodIn_r _ [9, 10, 11, 12, 4, 13, 14, 37, 38, 39, 40, 41, 42, 43, 44, 45, 46, 47, 48] (by decide +kernel) (by decide +kernel)
set_option maxRecDepth 20000 in
theorem gX5_ageAt_X5_top : GoodIn wsX5_ageAt (wsV RX5 53 RX5 yX5_top wsX5_top) := goodIn_app (goodIn_of _ (by decide +kernel)) ggX5_ageAt_X5_top
set_option maxRecDepth 20000 in
theorem ggX5_ageAt_X5_of : GoodIn wsX5_ageAt wsX5_of := goodIn_r _ [13, 14, 37, 38, 39, 40, 41, 42, 43, 44, 45, 46, 47, 48] (by decide +kernel) (by decide +kernel)
set_option maxRecDepth 20000 in
theorem gX5_ageAt_X5_of : GoodIn wsX5_ageAt (wsV RX5 49 RX5 yX5_of wsX5_of) := goodIn_app (goodIn_of _ (by decide +kernel)) ggX5_ageAt_X5_of
set_option maxRecDepth 20000 in
theorem ggX5_ageAt_X5_part : GoodIn wsX5_ageAt wsX5_part := goodIn_r _ [36] (by decide +kernel) (by decide +kernel)
set_option maxRecDepth 20000 in
theorem gX5_ageAt_X5_part : GoodIn wsX5_ageAt (va_wsS RX5 83 yX5_part wsX5_part) := goodIn_app (goodIn_of _ (by decide +kernel)) ggX5_ageAt_X5_part
theorem dX5_ageAt_0 : decode cX5_ageAt 0 = .ok (.aload_n 0, 1) := by decide +kernel
theorem dX5_ageAt_1 : decode cX5_ageAt 1 = .ok (.iload_n 1, 1) := by decide +kernel
theorem dX5_ageAt_2 : decode cX5_ageAt 2 = .ok (.invokevirtual 77, 3) := by decide +kernel
theorem dX5_ageAt_5 : decode cX5_ageAt 5 = .ok (.istore_n 2, 1) := by decide +kernel
theorem dX5_ageAt_6 : decode cX5_ageAt 6 = .ok (.aload_n 0, 1) := by decide +kernel
theorem dX5_ageAt_7 : decode cX5_ageAt 7 = .ok (.iload_n 2, 1) := by decide +kernel
theorem dX5_ageAt_8 : decode cX5_ageAt 8 = .ok (.invokevirtual 80, 3) := by decide +kernel
theorem dX5_ageAt_11 : decode cX5_ageAt 11 = .ok (.aload_n 0, 1) := by decide +kernel
theorem dX5_ageAt_12 : decode cX5_ageAt 12 = .ok (.iload_n 2, 1) := by decide +kernel
theorem dX5_ageAt_13 : decode cX5_ageAt 13 = .ok (.invokevirtual 72, 3) := by decide +kernel
theorem dX5_ageAt_16 : decode cX5_ageAt 16 = .ok (.iload_n 1, 1) := by decide +kernel
theorem dX5_ageAt_17 : decode cX5_ageAt 17 = .ok (.aload_n 0, 1) := by decide +kernel
theorem dX5_ageAt_18 : decode cX5_ageAt 18 = .ok (.iload_n 2, 1) := by decide +kernel
theorem dX5_ageAt_19 : decode cX5_ageAt 19 = .ok (.invokevirtual 53, 3) := by decide +kernel
theorem dX5_ageAt_22 : decode cX5_ageAt 22 = .ok (.isub, 1) := by decide +kernel
theorem dX5_ageAt_23 : decode cX5_ageAt 23 = .ok (.aload_n 0, 1) := by decide +kernel
theorem dX5_ageAt_24 : decode cX5_ageAt 24 = .ok (.iload_n 2, 1) := by decide +kernel
theorem dX5_ageAt_25 : decode cX5_ageAt 25 = .ok (.iconst 5, 1) := by decide +kernel
theorem dX5_ageAt_26 : decode cX5_ageAt 26 = .ok (.invokevirtual 49, 3) := by decide +kernel
theorem dX5_ageAt_29 : decode cX5_ageAt 29 = .ok (.invokestatic 83, 3) := by decide +kernel
theorem dX5_ageAt_32 : decode cX5_ageAt 32 = .ok (.iadd, 1) := by decide +kernel
theorem dX5_ageAt_33 : decode cX5_ageAt 33 = .ok (.ireturn, 1) := by decide +kernel
set_option maxRecDepth 20000 in
theorem ggX5_gasAgeAt_X5_ageAt : GoodIn wsX5_gasAgeAt wsX5_ageAt := goodIn_r _ [5, 6, 7, 8, 4, 9, 10, 11, 12, 13, 14, 15, 16, 17, 18, 19, 20, 21, 22, 23, 24, 25, 26, 27, 28, 29, 30, 31, 32, 33, 34, 35, 36, 37, 38, 39, 40, 46, 47, 48, 49, 50, 51, 52, 53, 54, 55, 56, 57] (by decide +kernel) (by decide +kernel)
set_option maxRecDepth 20000 in
theorem gX5_gasAgeAt_X5_ageAt : GoodIn wsX5_gasAgeAt (wsV RX5 87 RX5 yX5_ageAt wsX5_ageAt) := goodIn_app (goodIn_of _ (by decide +kernel)) ggX5_gasAgeAt_X5_ageAt
set_option maxRecDepth 20000 in
theorem ggX5_gasAgeAt_X5_layerAt : GoodIn wsX5_gasAgeAt wsX5_layerAt := goodIn_r _ [9, 10, 11, 12, 4, 13, 14, 15, 16, 17, 18, 46, 47, 48, 49, 50, 51, 52, 53, 54, 55, 56, 57] (by decide +kernel) (by decide +kernel)
set_option maxRecDepth 20000 in
theorem gX5_gasAgeAt_X5_layerAt : GoodIn wsX5_gasAgeAt (wsV RX5 77 RX5 yX5_layerAt wsX5_layerAt) := goodIn_app (goodIn_of _ (by decide +kernel)) ggX5_gasAgeAt_X5_layerAt
set_option maxRecDepth 20000 in
theorem ggX5_gasAgeAt_X5_delayOf : GoodIn wsX5_gasAgeAt wsX5_delayOf := goodIn_r _ [44, 45, 18, 14, 15, 16, 4, 17, 46, 47, 48, 49, 50, 51, 52, 53, 54, 55, 56, 57] (by decide +kernel) (by decide +kernel)
set_option maxRecDepth 20000 in
theorem gX5_gasAgeAt_X5_delayOf : GoodIn wsX5_gasAgeAt (wsV RX5 90 RX5 yX5_delayOf wsX5_delayOf) := goodIn_app (goodIn_of _ (by decide +kernel)) ggX5_gasAgeAt_X5_delayOf
theorem dX5_gasAgeAt_0 : decode cX5_gasAgeAt 0 = .ok (.aload_n 0, 1) := by decide +kernel
theorem dX5_gasAgeAt_1 : decode cX5_gasAgeAt 1 = .ok (.iload_n 1, 1) := by decide +kernel
theorem dX5_gasAgeAt_2 : decode cX5_gasAgeAt 2 = .ok (.invokevirtual 87, 3) := by decide +kernel
theorem dX5_gasAgeAt_5 : decode cX5_gasAgeAt 5 = .ok (.aload_n 0, 1) := by decide +kernel
theorem dX5_gasAgeAt_6 : decode cX5_gasAgeAt 6 = .ok (.aload_n 0, 1) := by decide +kernel
theorem dX5_gasAgeAt_7 : decode cX5_gasAgeAt 7 = .ok (.iload_n 1, 1) := by decide +kernel
theorem dX5_gasAgeAt_8 : decode cX5_gasAgeAt 8 = .ok (.invokevirtual 77, 3) := by decide +kernel
theorem dX5_gasAgeAt_11 : decode cX5_gasAgeAt 11 = .ok (.invokevirtual 90, 3) := by decide +kernel
theorem dX5_gasAgeAt_14 : decode cX5_gasAgeAt 14 = .ok (.isub, 1) := by decide +kernel
theorem dX5_gasAgeAt_15 : decode cX5_gasAgeAt 15 = .ok (.istore_n 2, 1) := by decide +kernel
theorem dX5_gasAgeAt_16 : decode cX5_gasAgeAt 16 = .ok (.iload_n 2, 1) := by decide +kernel
theorem dX5_gasAgeAt_17 : decode cX5_gasAgeAt 17 = .ok (.ifCond .ge 7, 3) := by decide +kernel
theorem dX5_gasAgeAt_20 : decode cX5_gasAgeAt 20 = .ok (.iconst 0, 1) := by decide +kernel
theorem dX5_gasAgeAt_21 : decode cX5_gasAgeAt 21 = .ok (.goto 4, 3) := by decide +kernel
theorem dX5_gasAgeAt_24 : decode cX5_gasAgeAt 24 = .ok (.iload_n 2, 1) := by decide +kernel
theorem dX5_gasAgeAt_25 : decode cX5_gasAgeAt 25 = .ok (.ireturn, 1) := by decide +kernel
set_option maxRecDepth 20000 in
theorem ggX5_bottom_X5_top : GoodIn wsX5_bottom wsX5_top := goodIn_r _ [6, 7, 8, 9, 5, 10, 1, 11, 12, 13, 14, 15, 16, 17, 18, 19, 20, 21, 22] (by decide +kernel) (by decide +kernel)
set_option maxRecDepth 20000 in
theorem gX5_bottom_X5_top : GoodIn wsX5_bottom (wsV RX5 53 RX5 yX5_top wsX5_top) := goodIn_app (goodIn_of _ (by decide +kernel)) ggX5_bottom_X5_top
theorem dX5_bottom_0 : decode cX5_bottom 0 = .ok (.aload_n 0, 1) := by decide +kernel
theorem dX5_bottom_1 : decode cX5_bottom 1 = .ok (.aload_n 0, 1) := by decide +kernel
theorem dX5_bottom_2 : decode cX5_bottom 2 = .ok (.getfield 7, 3) := by decide +kernel
theorem dX5_bottom_5 : decode cX5_bottom 5 = .ok (.iconst 0, 1) := by decide +kernel
theorem dX5_bottom_6 : decode cX5_bottom 6 = .ok (.iaload, 1) := by decide +kernel
theorem dX5_bottom_7 : decode cX5_bottom 7 = .ok (.invokevirtual 53, 3) := by decide +kernel
theorem dX5_bottom_10 : decode cX5_bottom 10 = .ok (.ireturn, 1) := by decide +kernel
set_option maxRecDepth 20000 in
theorem ggX5_residualOf_X5_ageAtTop : GoodIn wsX5_residualOf wsX5_ageAtTop := goodIn_r _ [5, 6, 7, 8, 4, 9, 10, 11, 12, 13, 14, 15, 16, 17, 18, 19, 20, 21, 22, 23, 24, 25, 26, 27, 28, 29, 30, 31, 32, 33, 34, 35, 36, 37, 38, 39, 40, 41] (by decide +kernel) (by decide +kernel)
set_option maxRecDepth 20000 in
theorem gX5_residualOf_X5_ageAtTop : GoodIn wsX5_residualOf (wsV RX5 80 RX5 yX5_ageAtTop wsX5_ageAtTop) := goodIn_app (goodIn_of _ (by decide +kernel)) ggX5_residualOf_X5_ageAtTop
set_option maxRecDepth 20000 in
theorem ggX5_residualOf_X5_of : GoodIn wsX5_residualOf wsX5_of := goodIn_r _ [13, 14, 30, 31, 32, 33, 34, 35, 36, 37, 38, 39, 40, 41] (by decide +kernel) (by decide +kernel)
set_option maxRecDepth 20000 in
theorem gX5_residualOf_X5_of : GoodIn wsX5_residualOf (wsV RX5 49 RX5 yX5_of wsX5_of) := goodIn_app (goodIn_of _ (by decide +kernel)) ggX5_residualOf_X5_of
theorem dX5_residualOf_0 : decode cX5_residualOf 0 = .ok (.aload_n 0, 1) := by decide +kernel
theorem dX5_residualOf_1 : decode cX5_residualOf 1 = .ok (.iload_n 1, 1) := by decide +kernel
theorem dX5_residualOf_2 : decode cX5_residualOf 2 = .ok (.iconst 1, 1) := by decide +kernel
theorem dX5_residualOf_3 : decode cX5_residualOf 3 = .ok (.iadd, 1) := by decide +kernel
theorem dX5_residualOf_4 : decode cX5_residualOf 4 = .ok (.invokevirtual 80, 3) := by decide +kernel
theorem dX5_residualOf_7 : decode cX5_residualOf 7 = .ok (.aload_n 0, 1) := by decide +kernel
theorem dX5_residualOf_8 : decode cX5_residualOf 8 = .ok (.iload_n 1, 1) := by decide +kernel
theorem dX5_residualOf_9 : decode cX5_residualOf 9 = .ok (.bipush 10, 2) := by decide +kernel
theorem dX5_residualOf_11 : decode cX5_residualOf 11 = .ok (.invokevirtual 49, 3) := by decide +kernel
theorem dX5_residualOf_14 : decode cX5_residualOf 14 = .ok (.isub, 1) := by decide +kernel
theorem dX5_residualOf_15 : decode cX5_residualOf 15 = .ok (.ireturn, 1) := by decide +kernel
set_option maxRecDepth 20000 in
theorem ggX5_ashes_X5_of : GoodIn wsX5_ashes wsX5_of := goodIn_r _ [6, 1, 7, 8, 9, 10, 11, 12, 13, 14, 15, 16, 17, 18] (by decide +kernel) (by decide +kernel)
set_option maxRecDepth 20000 in
theorem gX5_ashes_X5_of : GoodIn wsX5_ashes (wsV RX5 49 RX5 yX5_of wsX5_of) := goodIn_app (goodIn_of _ (by decide +kernel)) ggX5_ashes_X5_of
theorem dX5_ashes_0 : decode cX5_ashes 0 = .ok (.iconst 0, 1) := by decide +kernel
theorem dX5_ashes_1 : decode cX5_ashes 1 = .ok (.istore_n 1, 1) := by decide +kernel
theorem dX5_ashes_2 : decode cX5_ashes 2 = .ok (.iconst 0, 1) := by decide +kernel
theorem dX5_ashes_3 : decode cX5_ashes 3 = .ok (.istore_n 2, 1) := by decide +kernel
theorem dX5_ashes_4 : decode cX5_ashes 4 = .ok (.iload_n 2, 1) := by decide +kernel
theorem dX5_ashes_5 : decode cX5_ashes 5 = .ok (.aload_n 0, 1) := by decide +kernel
theorem dX5_ashes_6 : decode cX5_ashes 6 = .ok (.getfield 7, 3) := by decide +kernel
theorem dX5_ashes_9 : decode cX5_ashes 9 = .ok (.iconst 0, 1) := by decide +kernel
theorem dX5_ashes_10 : decode cX5_ashes 10 = .ok (.iaload, 1) := by decide +kernel
theorem dX5_ashes_11 : decode cX5_ashes 11 = .ok (.if_icmp .ge 19, 3) := by decide +kernel
theorem dX5_ashes_14 : decode cX5_ashes 14 = .ok (.iload_n 1, 1) := by decide +kernel
theorem dX5_ashes_15 : decode cX5_ashes 15 = .ok (.aload_n 0, 1) := by decide +kernel
theorem dX5_ashes_16 : decode cX5_ashes 16 = .ok (.iload_n 2, 1) := by decide +kernel
theorem dX5_ashes_17 : decode cX5_ashes 17 = .ok (.bipush 9, 2) := by decide +kernel
theorem dX5_ashes_19 : decode cX5_ashes 19 = .ok (.invokevirtual 49, 3) := by decide +kernel
theorem dX5_ashes_22 : decode cX5_ashes 22 = .ok (.iadd, 1) := by decide +kernel
theorem dX5_ashes_23 : decode cX5_ashes 23 = .ok (.istore_n 1, 1) := by decide +kernel
theorem dX5_ashes_24 : decode cX5_ashes 24 = .ok (.iinc 2 1, 3) := by decide +kernel
theorem dX5_ashes_27 : decode cX5_ashes 27 = .ok (.goto (-23), 3) := by decide +kernel
theorem dX5_ashes_30 : decode cX5_ashes 30 = .ok (.iload_n 1, 1) := by decide +kernel
theorem dX5_ashes_31 : decode cX5_ashes 31 = .ok (.ireturn, 1) := by decide +kernel
set_option maxRecDepth 20000 in
theorem ggX5_fits_X5_of : GoodIn wsX5_fits wsX5_of := goodIn_r _ [6, 1, 37, 38, 39, 40, 41, 42, 43, 44, 45, 46, 47, 48] (by decide +kernel) (by decide +kernel)
set_option maxRecDepth 20000 in
theorem gX5_fits_X5_of : GoodIn wsX5_fits (wsV RX5 49 RX5 yX5_of wsX5_of) := goodIn_app (goodIn_of _ (by decide +kernel)) ggX5_fits_X5_of
set_option maxRecDepth 20000 in
theorem ggX5_fits_X5_residualOf : GoodIn wsX5_fits wsX5_residualOf := goodIn_r _ [10, 11, 12, 13, 5, 14, 15, 16, 17, 18, 2, 3, 4, 6, 1, 19, 20, 21, 22, 23, 24, 25, 26, 27, 28, 29, 30, 31, 32, 33, 37, 38, 39, 40, 41, 42, 43, 44, 45, 46, 47, 48] (by decide +kernel) (by decide +kernel)
set_option maxRecDepth 20000 in
theorem gX5_fits_X5_residualOf : GoodIn wsX5_fits (wsV RX5 93 RX5 yX5_residualOf wsX5_residualOf) := goodIn_app (goodIn_of _ (by decide +kernel)) ggX5_fits_X5_residualOf
set_option maxRecDepth 20000 in
theorem ggX5_fits_X5_size : GoodIn wsX5_fits wsX5_size := goodIn_r _ [36] (by decide +kernel) (by decide +kernel)
set_option maxRecDepth 20000 in
theorem gX5_fits_X5_size : GoodIn wsX5_fits (va_wsS RX5 96 yX5_size wsX5_size) := goodIn_app (goodIn_of _ (by decide +kernel)) ggX5_fits_X5_size
theorem dX5_fits_0 : decode cX5_fits 0 = .ok (.iconst 0, 1) := by decide +kernel
theorem dX5_fits_1 : decode cX5_fits 1 = .ok (.istore_n 1, 1) := by decide +kernel
theorem dX5_fits_2 : decode cX5_fits 2 = .ok (.iconst 0, 1) := by decide +kernel
theorem dX5_fits_3 : decode cX5_fits 3 = .ok (.istore_n 2, 1) := by decide +kernel
theorem dX5_fits_4 : decode cX5_fits 4 = .ok (.iload_n 2, 1) := by decide +kernel
theorem dX5_fits_5 : decode cX5_fits 5 = .ok (.aload_n 0, 1) := by decide +kernel
theorem dX5_fits_6 : decode cX5_fits 6 = .ok (.getfield 7, 3) := by decide +kernel
theorem dX5_fits_9 : decode cX5_fits 9 = .ok (.iconst 0, 1) := by decide +kernel
theorem dX5_fits_10 : decode cX5_fits 10 = .ok (.iaload, 1) := by decide +kernel
theorem dX5_fits_11 : decode cX5_fits 11 = .ok (.if_icmp .ge 49, 3) := by decide +kernel
theorem dX5_fits_14 : decode cX5_fits 14 = .ok (.iload_n 1, 1) := by decide +kernel
theorem dX5_fits_15 : decode cX5_fits 15 = .ok (.aload_n 0, 1) := by decide +kernel
theorem dX5_fits_16 : decode cX5_fits 16 = .ok (.iload_n 2, 1) := by decide +kernel
theorem dX5_fits_17 : decode cX5_fits 17 = .ok (.bipush 9, 2) := by decide +kernel
theorem dX5_fits_19 : decode cX5_fits 19 = .ok (.invokevirtual 49, 3) := by decide +kernel
theorem dX5_fits_22 : decode cX5_fits 22 = .ok (.iconst 1, 1) := by decide +kernel
theorem dX5_fits_23 : decode cX5_fits 23 = .ok (.if_icmp .ne 28, 3) := by decide +kernel
theorem dX5_fits_26 : decode cX5_fits 26 = .ok (.aload_n 0, 1) := by decide +kernel
theorem dX5_fits_27 : decode cX5_fits 27 = .ok (.iload_n 2, 1) := by decide +kernel
theorem dX5_fits_28 : decode cX5_fits 28 = .ok (.invokevirtual 93, 3) := by decide +kernel
theorem dX5_fits_31 : decode cX5_fits 31 = .ok (.i2l, 1) := by decide +kernel
theorem dX5_fits_32 : decode cX5_fits 32 = .ok (.invokestatic 96, 3) := by decide +kernel
theorem dX5_fits_35 : decode cX5_fits 35 = .ok (.aload_n 0, 1) := by decide +kernel
theorem dX5_fits_36 : decode cX5_fits 36 = .ok (.iload_n 2, 1) := by decide +kernel
theorem dX5_fits_37 : decode cX5_fits 37 = .ok (.bipush 11, 2) := by decide +kernel
theorem dX5_fits_39 : decode cX5_fits 39 = .ok (.invokevirtual 49, 3) := by decide +kernel
theorem dX5_fits_42 : decode cX5_fits 42 = .ok (.i2l, 1) := by decide +kernel
theorem dX5_fits_43 : decode cX5_fits 43 = .ok (.lcmp, 1) := by decide +kernel
theorem dX5_fits_44 : decode cX5_fits 44 = .ok (.ifCond .gt 7, 3) := by decide +kernel
theorem dX5_fits_47 : decode cX5_fits 47 = .ok (.iconst 1, 1) := by decide +kernel
theorem dX5_fits_48 : decode cX5_fits 48 = .ok (.goto 4, 3) := by decide +kernel
theorem dX5_fits_51 : decode cX5_fits 51 = .ok (.iconst 0, 1) := by decide +kernel
theorem dX5_fits_52 : decode cX5_fits 52 = .ok (.iadd, 1) := by decide +kernel
theorem dX5_fits_53 : decode cX5_fits 53 = .ok (.istore_n 1, 1) := by decide +kernel
theorem dX5_fits_54 : decode cX5_fits 54 = .ok (.iinc 2 1, 3) := by decide +kernel
theorem dX5_fits_57 : decode cX5_fits 57 = .ok (.goto (-53), 3) := by decide +kernel
theorem dX5_fits_60 : decode cX5_fits 60 = .ok (.iload_n 1, 1) := by decide +kernel
theorem dX5_fits_61 : decode cX5_fits 61 = .ok (.ireturn, 1) := by decide +kernel
set_option maxRecDepth 20000 in
theorem ggX5_addLayer_X5_in : GoodIn wsX5_addLayer wsX5_in := goodIn_r _ [8] (by decide +kernel) (by decide +kernel)
set_option maxRecDepth 20000 in
theorem gX5_addLayer_X5_in : GoodIn wsX5_addLayer (va_wsS RX5 35 yX5_in wsX5_in) := goodIn_app (goodIn_of _ (by decide +kernel)) ggX5_addLayer_X5_in
set_option maxRecDepth 20000 in
theorem ggX5_addLayer_X5_bottom : GoodIn wsX5_addLayer wsX5_bottom := goodIn_r _ [12, 2, 13, 14, 15, 7, 16, 17, 18, 19, 20, 29, 30, 31, 32, 33, 34, 35, 36, 37, 38, 39, 40] (by decide +kernel) (by decide +kernel)
set_option maxRecDepth 20000 in
theorem gX5_addLayer_X5_bottom : GoodIn wsX5_addLayer (wsV RX5 101 RX5 yX5_bottom wsX5_bottom) := goodIn_app (goodIn_of _ (by decide +kernel)) ggX5_addLayer_X5_bottom
set_option maxRecDepth 20000 in
theorem ggX5_addLayer_X5_record : GoodIn wsX5_addLayer wsX5_record := goodIn_r _ [24, 25, 26, 27, 28, 2, 29, 30, 31, 32, 33, 34, 35, 36, 37, 38, 39, 40] (by decide +kernel) (by decide +kernel)
set_option maxRecDepth 20000 in
theorem gX5_addLayer_X5_record : GoodIn wsX5_addLayer (wsV RX5 107 RX5 yX5_record wsX5_record) := goodIn_app (goodIn_of _ (by decide +kernel)) ggX5_addLayer_X5_record
theorem dX5_addLayer_0 : decode cX5_addLayer 0 = .ok (.iload_n 1, 1) := by decide +kernel
theorem dX5_addLayer_1 : decode cX5_addLayer 1 = .ok (.iconst 1, 1) := by decide +kernel
theorem dX5_addLayer_2 : decode cX5_addLayer 2 = .ok (.sipush 5000, 3) := by decide +kernel
theorem dX5_addLayer_5 : decode cX5_addLayer 5 = .ok (.invokestatic 35, 3) := by decide +kernel
theorem dX5_addLayer_8 : decode cX5_addLayer 8 = .ok (.ifCond .eq 15, 3) := by decide +kernel
theorem dX5_addLayer_11 : decode cX5_addLayer 11 = .ok (.iload_n 2, 1) := by decide +kernel
theorem dX5_addLayer_12 : decode cX5_addLayer 12 = .ok (.bipush 10, 2) := by decide +kernel
theorem dX5_addLayer_14 : decode cX5_addLayer 14 = .ok (.sipush 2000, 3) := by decide +kernel
theorem dX5_addLayer_17 : decode cX5_addLayer 17 = .ok (.invokestatic 35, 3) := by decide +kernel
theorem dX5_addLayer_20 : decode cX5_addLayer 20 = .ok (.ifCond .ne 6, 3) := by decide +kernel
theorem dX5_addLayer_23 : decode cX5_addLayer 23 = .ok (.ldc 100, 2) := by decide +kernel
theorem dX5_addLayer_25 : decode cX5_addLayer 25 = .ok (.ireturn, 1) := by decide +kernel
theorem dX5_addLayer_26 : decode cX5_addLayer 26 = .ok (.aload_n 0, 1) := by decide +kernel
theorem dX5_addLayer_27 : decode cX5_addLayer 27 = .ok (.invokevirtual 101, 3) := by decide +kernel
theorem dX5_addLayer_30 : decode cX5_addLayer 30 = .ok (.iload_n 1, 1) := by decide +kernel
theorem dX5_addLayer_31 : decode cX5_addLayer 31 = .ok (.iadd, 1) := by decide +kernel
theorem dX5_addLayer_32 : decode cX5_addLayer 32 = .ok (.aload_n 0, 1) := by decide +kernel
theorem dX5_addLayer_33 : decode cX5_addLayer 33 = .ok (.getfield 7, 3) := by decide +kernel
theorem dX5_addLayer_36 : decode cX5_addLayer 36 = .ok (.iconst 1, 1) := by decide +kernel
theorem dX5_addLayer_37 : decode cX5_addLayer 37 = .ok (.iaload, 1) := by decide +kernel
theorem dX5_addLayer_38 : decode cX5_addLayer 38 = .ok (.if_icmp .le 6, 3) := by decide +kernel
theorem dX5_addLayer_41 : decode cX5_addLayer 41 = .ok (.ldc 105, 2) := by decide +kernel
theorem dX5_addLayer_43 : decode cX5_addLayer 43 = .ok (.ireturn, 1) := by decide +kernel
theorem dX5_addLayer_44 : decode cX5_addLayer 44 = .ok (.aload_n 0, 1) := by decide +kernel
theorem dX5_addLayer_45 : decode cX5_addLayer 45 = .ok (.getfield 7, 3) := by decide +kernel
theorem dX5_addLayer_48 : decode cX5_addLayer 48 = .ok (.iconst 0, 1) := by decide +kernel
theorem dX5_addLayer_49 : decode cX5_addLayer 49 = .ok (.iaload, 1) := by decide +kernel
theorem dX5_addLayer_50 : decode cX5_addLayer 50 = .ok (.bipush 16, 2) := by decide +kernel
theorem dX5_addLayer_52 : decode cX5_addLayer 52 = .ok (.if_icmp .ne 6, 3) := by decide +kernel
theorem dX5_addLayer_55 : decode cX5_addLayer 55 = .ok (.ldc 106, 2) := by decide +kernel
theorem dX5_addLayer_57 : decode cX5_addLayer 57 = .ok (.ireturn, 1) := by decide +kernel
theorem dX5_addLayer_58 : decode cX5_addLayer 58 = .ok (.aload_n 0, 1) := by decide +kernel
theorem dX5_addLayer_59 : decode cX5_addLayer 59 = .ok (.invokevirtual 107, 3) := by decide +kernel
theorem dX5_addLayer_62 : decode cX5_addLayer 62 = .ok (.bipush 8, 2) := by decide +kernel
theorem dX5_addLayer_64 : decode cX5_addLayer 64 = .ok (.aload_n 0, 1) := by decide +kernel
theorem dX5_addLayer_65 : decode cX5_addLayer 65 = .ok (.getfield 7, 3) := by decide +kernel
theorem dX5_addLayer_68 : decode cX5_addLayer 68 = .ok (.iconst 0, 1) := by decide +kernel
theorem dX5_addLayer_69 : decode cX5_addLayer 69 = .ok (.iaload, 1) := by decide +kernel
theorem dX5_addLayer_70 : decode cX5_addLayer 70 = .ok (.imul, 1) := by decide +kernel
theorem dX5_addLayer_71 : decode cX5_addLayer 71 = .ok (.istore_n 3, 1) := by decide +kernel
theorem dX5_addLayer_72 : decode cX5_addLayer 72 = .ok (.aload_n 0, 1) := by decide +kernel
theorem dX5_addLayer_73 : decode cX5_addLayer 73 = .ok (.getfield 7, 3) := by decide +kernel
theorem dX5_addLayer_76 : decode cX5_addLayer 76 = .ok (.iload_n 3, 1) := by decide +kernel
theorem dX5_addLayer_77 : decode cX5_addLayer 77 = .ok (.iconst 5, 1) := by decide +kernel
theorem dX5_addLayer_78 : decode cX5_addLayer 78 = .ok (.iadd, 1) := by decide +kernel
theorem dX5_addLayer_79 : decode cX5_addLayer 79 = .ok (.iload_n 1, 1) := by decide +kernel
theorem dX5_addLayer_80 : decode cX5_addLayer 80 = .ok (.iastore, 1) := by decide +kernel
theorem dX5_addLayer_81 : decode cX5_addLayer 81 = .ok (.aload_n 0, 1) := by decide +kernel
theorem dX5_addLayer_82 : decode cX5_addLayer 82 = .ok (.getfield 7, 3) := by decide +kernel
theorem dX5_addLayer_85 : decode cX5_addLayer 85 = .ok (.iload_n 3, 1) := by decide +kernel
theorem dX5_addLayer_86 : decode cX5_addLayer 86 = .ok (.bipush 6, 2) := by decide +kernel
theorem dX5_addLayer_88 : decode cX5_addLayer 88 = .ok (.iadd, 1) := by decide +kernel
theorem dX5_addLayer_89 : decode cX5_addLayer 89 = .ok (.iload_n 2, 1) := by decide +kernel
theorem dX5_addLayer_90 : decode cX5_addLayer 90 = .ok (.iastore, 1) := by decide +kernel
theorem dX5_addLayer_91 : decode cX5_addLayer 91 = .ok (.aload_n 0, 1) := by decide +kernel
theorem dX5_addLayer_92 : decode cX5_addLayer 92 = .ok (.getfield 7, 3) := by decide +kernel
theorem dX5_addLayer_95 : decode cX5_addLayer 95 = .ok (.iload_n 3, 1) := by decide +kernel
theorem dX5_addLayer_96 : decode cX5_addLayer 96 = .ok (.bipush 7, 2) := by decide +kernel
theorem dX5_addLayer_98 : decode cX5_addLayer 98 = .ok (.iadd, 1) := by decide +kernel
theorem dX5_addLayer_99 : decode cX5_addLayer 99 = .ok (.sipush 1000, 3) := by decide +kernel
theorem dX5_addLayer_102 : decode cX5_addLayer 102 = .ok (.iastore, 1) := by decide +kernel
theorem dX5_addLayer_103 : decode cX5_addLayer 103 = .ok (.aload_n 0, 1) := by decide +kernel
theorem dX5_addLayer_104 : decode cX5_addLayer 104 = .ok (.getfield 7, 3) := by decide +kernel
theorem dX5_addLayer_107 : decode cX5_addLayer 107 = .ok (.iload_n 3, 1) := by decide +kernel
theorem dX5_addLayer_108 : decode cX5_addLayer 108 = .ok (.bipush 8, 2) := by decide +kernel
theorem dX5_addLayer_110 : decode cX5_addLayer 110 = .ok (.iadd, 1) := by decide +kernel
theorem dX5_addLayer_111 : decode cX5_addLayer 111 = .ok (.sipush 1000, 3) := by decide +kernel
theorem dX5_addLayer_114 : decode cX5_addLayer 114 = .ok (.iastore, 1) := by decide +kernel
theorem dX5_addLayer_115 : decode cX5_addLayer 115 = .ok (.bipush 9, 2) := by decide +kernel
theorem dX5_addLayer_117 : decode cX5_addLayer 117 = .ok (.istore 4, 2) := by decide +kernel
theorem dX5_addLayer_119 : decode cX5_addLayer 119 = .ok (.iload 4, 2) := by decide +kernel
theorem dX5_addLayer_121 : decode cX5_addLayer 121 = .ok (.bipush 12, 2) := by decide +kernel
theorem dX5_addLayer_123 : decode cX5_addLayer 123 = .ok (.if_icmp .gt 19, 3) := by decide +kernel
theorem dX5_addLayer_126 : decode cX5_addLayer 126 = .ok (.aload_n 0, 1) := by decide +kernel
theorem dX5_addLayer_127 : decode cX5_addLayer 127 = .ok (.getfield 7, 3) := by decide +kernel
theorem dX5_addLayer_130 : decode cX5_addLayer 130 = .ok (.iload_n 3, 1) := by decide +kernel
theorem dX5_addLayer_131 : decode cX5_addLayer 131 = .ok (.iload 4, 2) := by decide +kernel
theorem dX5_addLayer_133 : decode cX5_addLayer 133 = .ok (.iadd, 1) := by decide +kernel
theorem dX5_addLayer_134 : decode cX5_addLayer 134 = .ok (.iconst 0, 1) := by decide +kernel
theorem dX5_addLayer_135 : decode cX5_addLayer 135 = .ok (.iastore, 1) := by decide +kernel
theorem dX5_addLayer_136 : decode cX5_addLayer 136 = .ok (.iinc 4 1, 3) := by decide +kernel
theorem dX5_addLayer_139 : decode cX5_addLayer 139 = .ok (.goto (-20), 3) := by decide +kernel
theorem dX5_addLayer_142 : decode cX5_addLayer 142 = .ok (.aload_n 0, 1) := by decide +kernel
theorem dX5_addLayer_143 : decode cX5_addLayer 143 = .ok (.getfield 7, 3) := by decide +kernel
theorem dX5_addLayer_146 : decode cX5_addLayer 146 = .ok (.iconst 0, 1) := by decide +kernel
theorem dX5_addLayer_147 : decode cX5_addLayer 147 = .ok (.dup2, 1) := by decide +kernel
theorem dX5_addLayer_148 : decode cX5_addLayer 148 = .ok (.iaload, 1) := by decide +kernel
theorem dX5_addLayer_149 : decode cX5_addLayer 149 = .ok (.iconst 1, 1) := by decide +kernel
theorem dX5_addLayer_150 : decode cX5_addLayer 150 = .ok (.iadd, 1) := by decide +kernel
theorem dX5_addLayer_151 : decode cX5_addLayer 151 = .ok (.iastore, 1) := by decide +kernel
theorem dX5_addLayer_152 : decode cX5_addLayer 152 = .ok (.aload_n 0, 1) := by decide +kernel
theorem dX5_addLayer_153 : decode cX5_addLayer 153 = .ok (.getfield 7, 3) := by decide +kernel
theorem dX5_addLayer_156 : decode cX5_addLayer 156 = .ok (.iconst 0, 1) := by decide +kernel
theorem dX5_addLayer_157 : decode cX5_addLayer 157 = .ok (.iaload, 1) := by decide +kernel
theorem dX5_addLayer_158 : decode cX5_addLayer 158 = .ok (.iconst 1, 1) := by decide +kernel
theorem dX5_addLayer_159 : decode cX5_addLayer 159 = .ok (.isub, 1) := by decide +kernel
theorem dX5_addLayer_160 : decode cX5_addLayer 160 = .ok (.ireturn, 1) := by decide +kernel
set_option maxRecDepth 20000 in
theorem ggX5_removeLowest_X5_record : GoodIn wsX5_removeLowest wsX5_record := goodIn_r _ [7, 8, 9, 10, 11, 1, 12, 13, 14, 15, 16, 17, 18, 19, 20, 21, 22, 23] (by decide +kernel) (by decide +kernel)
set_option maxRecDepth 20000 in
theorem gX5_removeLowest_X5_record : GoodIn wsX5_removeLowest (wsV RX5 107 RX5 yX5_record wsX5_record) := goodIn_app (goodIn_of _ (by decide +kernel)) ggX5_removeLowest_X5_record
theorem dX5_removeLowest_0 : decode cX5_removeLowest 0 = .ok (.aload_n 0, 1) := by decide +kernel
theorem dX5_removeLowest_1 : decode cX5_removeLowest 1 = .ok (.getfield 7, 3) := by decide +kernel
theorem dX5_removeLowest_4 : decode cX5_removeLowest 4 = .ok (.iconst 0, 1) := by decide +kernel
theorem dX5_removeLowest_5 : decode cX5_removeLowest 5 = .ok (.iaload, 1) := by decide +kernel
theorem dX5_removeLowest_6 : decode cX5_removeLowest 6 = .ok (.ifCond .ne 6, 3) := by decide +kernel
theorem dX5_removeLowest_9 : decode cX5_removeLowest 9 = .ok (.ldc 105, 2) := by decide +kernel
theorem dX5_removeLowest_11 : decode cX5_removeLowest 11 = .ok (.ireturn, 1) := by decide +kernel
theorem dX5_removeLowest_12 : decode cX5_removeLowest 12 = .ok (.aload_n 0, 1) := by decide +kernel
theorem dX5_removeLowest_13 : decode cX5_removeLowest 13 = .ok (.invokevirtual 107, 3) := by decide +kernel
theorem dX5_removeLowest_16 : decode cX5_removeLowest 16 = .ok (.aload_n 0, 1) := by decide +kernel
theorem dX5_removeLowest_17 : decode cX5_removeLowest 17 = .ok (.getfield 7, 3) := by decide +kernel
theorem dX5_removeLowest_20 : decode cX5_removeLowest 20 = .ok (.iconst 0, 1) := by decide +kernel
theorem dX5_removeLowest_21 : decode cX5_removeLowest 21 = .ok (.dup2, 1) := by decide +kernel
theorem dX5_removeLowest_22 : decode cX5_removeLowest 22 = .ok (.iaload, 1) := by decide +kernel
theorem dX5_removeLowest_23 : decode cX5_removeLowest 23 = .ok (.iconst 1, 1) := by decide +kernel
theorem dX5_removeLowest_24 : decode cX5_removeLowest 24 = .ok (.isub, 1) := by decide +kernel
theorem dX5_removeLowest_25 : decode cX5_removeLowest 25 = .ok (.iastore, 1) := by decide +kernel
theorem dX5_removeLowest_26 : decode cX5_removeLowest 26 = .ok (.aload_n 0, 1) := by decide +kernel
theorem dX5_removeLowest_27 : decode cX5_removeLowest 27 = .ok (.getfield 7, 3) := by decide +kernel
theorem dX5_removeLowest_30 : decode cX5_removeLowest 30 = .ok (.iconst 0, 1) := by decide +kernel
theorem dX5_removeLowest_31 : decode cX5_removeLowest 31 = .ok (.iaload, 1) := by decide +kernel
theorem dX5_removeLowest_32 : decode cX5_removeLowest 32 = .ok (.ireturn, 1) := by decide +kernel
set_option maxRecDepth 20000 in
theorem ggX5_divide_X5_isLayer : GoodIn wsX5_divide wsX5_isLayer := goodIn_r _ [9, 3, 10, 11, 8, 12, 25, 26, 27, 28, 29, 30, 31, 32, 33, 34, 35, 36] (by decide +kernel) (by decide +kernel)
set_option maxRecDepth 20000 in
theorem gX5_divide_X5_isLayer : GoodIn wsX5_divide (wsV RX5 110 RX5 yX5_isLayer wsX5_isLayer) := goodIn_app (goodIn_of _ (by decide +kernel)) ggX5_divide_X5_isLayer
set_option maxRecDepth 20000 in
theorem ggX5_divide_X5_of : GoodIn wsX5_divide wsX5_of := goodIn_r _ [16, 3, 25, 26, 27, 28, 29, 30, 31, 32, 33, 34, 35, 36] (by decide +kernel) (by decide +kernel)
set_option maxRecDepth 20000 in
theorem gX5_divide_X5_of : GoodIn wsX5_divide (wsV RX5 49 RX5 yX5_of wsX5_of) := goodIn_app (goodIn_of _ (by decide +kernel)) ggX5_divide_X5_of
set_option maxRecDepth 20000 in
theorem ggX5_divide_X5_in : GoodIn wsX5_divide wsX5_in := goodIn_r _ [12] (by decide +kernel) (by decide +kernel)
set_option maxRecDepth 20000 in
theorem gX5_divide_X5_in : GoodIn wsX5_divide (va_wsS RX5 35 yX5_in wsX5_in) := goodIn_app (goodIn_of _ (by decide +kernel)) ggX5_divide_X5_in
set_option maxRecDepth 20000 in
theorem ggX5_divide_X5_record : GoodIn wsX5_divide wsX5_record := goodIn_r _ [20, 21, 22, 23, 24, 3, 25, 26, 27, 28, 29, 30, 31, 32, 33, 34, 35, 36] (by decide +kernel) (by decide +kernel)
set_option maxRecDepth 20000 in
theorem gX5_divide_X5_record : GoodIn wsX5_divide (wsV RX5 107 RX5 yX5_record wsX5_record) := goodIn_app (goodIn_of _ (by decide +kernel)) ggX5_divide_X5_record
theorem dX5_divide_0 : decode cX5_divide 0 = .ok (.aload_n 0, 1) := by decide +kernel
theorem dX5_divide_1 : decode cX5_divide 1 = .ok (.iload_n 1, 1) := by decide +kernel
theorem dX5_divide_2 : decode cX5_divide 2 = .ok (.invokevirtual 110, 3) := by decide +kernel
theorem dX5_divide_5 : decode cX5_divide 5 = .ok (.ifCond .ne 6, 3) := by decide +kernel
theorem dX5_divide_8 : decode cX5_divide 8 = .ok (.ldc 114, 2) := by decide +kernel
theorem dX5_divide_10 : decode cX5_divide 10 = .ok (.ireturn, 1) := by decide +kernel
theorem dX5_divide_11 : decode cX5_divide 11 = .ok (.iload_n 2, 1) := by decide +kernel
theorem dX5_divide_12 : decode cX5_divide 12 = .ok (.iconst 1, 1) := by decide +kernel
theorem dX5_divide_13 : decode cX5_divide 13 = .ok (.aload_n 0, 1) := by decide +kernel
theorem dX5_divide_14 : decode cX5_divide 14 = .ok (.iload_n 1, 1) := by decide +kernel
theorem dX5_divide_15 : decode cX5_divide 15 = .ok (.iconst 5, 1) := by decide +kernel
theorem dX5_divide_16 : decode cX5_divide 16 = .ok (.invokevirtual 49, 3) := by decide +kernel
theorem dX5_divide_19 : decode cX5_divide 19 = .ok (.iconst 1, 1) := by decide +kernel
theorem dX5_divide_20 : decode cX5_divide 20 = .ok (.isub, 1) := by decide +kernel
theorem dX5_divide_21 : decode cX5_divide 21 = .ok (.invokestatic 35, 3) := by decide +kernel
theorem dX5_divide_24 : decode cX5_divide 24 = .ok (.ifCond .ne 6, 3) := by decide +kernel
theorem dX5_divide_27 : decode cX5_divide 27 = .ok (.ldc 100, 2) := by decide +kernel
theorem dX5_divide_29 : decode cX5_divide 29 = .ok (.ireturn, 1) := by decide +kernel
theorem dX5_divide_30 : decode cX5_divide 30 = .ok (.aload_n 0, 1) := by decide +kernel
theorem dX5_divide_31 : decode cX5_divide 31 = .ok (.getfield 7, 3) := by decide +kernel
theorem dX5_divide_34 : decode cX5_divide 34 = .ok (.iconst 0, 1) := by decide +kernel
theorem dX5_divide_35 : decode cX5_divide 35 = .ok (.iaload, 1) := by decide +kernel
theorem dX5_divide_36 : decode cX5_divide 36 = .ok (.bipush 16, 2) := by decide +kernel
theorem dX5_divide_38 : decode cX5_divide 38 = .ok (.if_icmp .ne 6, 3) := by decide +kernel
theorem dX5_divide_41 : decode cX5_divide 41 = .ok (.ldc 106, 2) := by decide +kernel
theorem dX5_divide_43 : decode cX5_divide 43 = .ok (.ireturn, 1) := by decide +kernel
theorem dX5_divide_44 : decode cX5_divide 44 = .ok (.aload_n 0, 1) := by decide +kernel
theorem dX5_divide_45 : decode cX5_divide 45 = .ok (.invokevirtual 107, 3) := by decide +kernel
theorem dX5_divide_48 : decode cX5_divide 48 = .ok (.sipush 132, 3) := by decide +kernel
theorem dX5_divide_51 : decode cX5_divide 51 = .ok (.istore_n 3, 1) := by decide +kernel
theorem dX5_divide_52 : decode cX5_divide 52 = .ok (.iload_n 3, 1) := by decide +kernel
theorem dX5_divide_53 : decode cX5_divide 53 = .ok (.bipush 8, 2) := by decide +kernel
theorem dX5_divide_55 : decode cX5_divide 55 = .ok (.iload_n 1, 1) := by decide +kernel
theorem dX5_divide_56 : decode cX5_divide 56 = .ok (.imul, 1) := by decide +kernel
theorem dX5_divide_57 : decode cX5_divide 57 = .ok (.bipush 8, 2) := by decide +kernel
theorem dX5_divide_59 : decode cX5_divide 59 = .ok (.iadd, 1) := by decide +kernel
theorem dX5_divide_60 : decode cX5_divide 60 = .ok (.iconst 5, 1) := by decide +kernel
theorem dX5_divide_61 : decode cX5_divide 61 = .ok (.iadd, 1) := by decide +kernel
theorem dX5_divide_62 : decode cX5_divide 62 = .ok (.if_icmp .lt 24, 3) := by decide +kernel
theorem dX5_divide_65 : decode cX5_divide 65 = .ok (.aload_n 0, 1) := by decide +kernel
theorem dX5_divide_66 : decode cX5_divide 66 = .ok (.getfield 7, 3) := by decide +kernel
theorem dX5_divide_69 : decode cX5_divide 69 = .ok (.iload_n 3, 1) := by decide +kernel
theorem dX5_divide_70 : decode cX5_divide 70 = .ok (.aload_n 0, 1) := by decide +kernel
theorem dX5_divide_71 : decode cX5_divide 71 = .ok (.getfield 7, 3) := by decide +kernel
theorem dX5_divide_74 : decode cX5_divide 74 = .ok (.iload_n 3, 1) := by decide +kernel
theorem dX5_divide_75 : decode cX5_divide 75 = .ok (.bipush 8, 2) := by decide +kernel
theorem dX5_divide_77 : decode cX5_divide 77 = .ok (.isub, 1) := by decide +kernel
theorem dX5_divide_78 : decode cX5_divide 78 = .ok (.iaload, 1) := by decide +kernel
theorem dX5_divide_79 : decode cX5_divide 79 = .ok (.iastore, 1) := by decide +kernel
theorem dX5_divide_80 : decode cX5_divide 80 = .ok (.iinc 3 (-1), 3) := by decide +kernel
theorem dX5_divide_83 : decode cX5_divide 83 = .ok (.goto (-31), 3) := by decide +kernel
theorem dX5_divide_86 : decode cX5_divide 86 = .ok (.bipush 8, 2) := by decide +kernel
theorem dX5_divide_88 : decode cX5_divide 88 = .ok (.iload_n 1, 1) := by decide +kernel
theorem dX5_divide_89 : decode cX5_divide 89 = .ok (.imul, 1) := by decide +kernel
theorem dX5_divide_90 : decode cX5_divide 90 = .ok (.istore_n 3, 1) := by decide +kernel
theorem dX5_divide_91 : decode cX5_divide 91 = .ok (.aload_n 0, 1) := by decide +kernel
theorem dX5_divide_92 : decode cX5_divide 92 = .ok (.getfield 7, 3) := by decide +kernel
theorem dX5_divide_95 : decode cX5_divide 95 = .ok (.iload_n 3, 1) := by decide +kernel
theorem dX5_divide_96 : decode cX5_divide 96 = .ok (.bipush 8, 2) := by decide +kernel
theorem dX5_divide_98 : decode cX5_divide 98 = .ok (.iadd, 1) := by decide +kernel
theorem dX5_divide_99 : decode cX5_divide 99 = .ok (.iconst 5, 1) := by decide +kernel
theorem dX5_divide_100 : decode cX5_divide 100 = .ok (.iadd, 1) := by decide +kernel
theorem dX5_divide_101 : decode cX5_divide 101 = .ok (.dup2, 1) := by decide +kernel
theorem dX5_divide_102 : decode cX5_divide 102 = .ok (.iaload, 1) := by decide +kernel
theorem dX5_divide_103 : decode cX5_divide 103 = .ok (.iload_n 2, 1) := by decide +kernel
theorem dX5_divide_104 : decode cX5_divide 104 = .ok (.isub, 1) := by decide +kernel
theorem dX5_divide_105 : decode cX5_divide 105 = .ok (.iastore, 1) := by decide +kernel
theorem dX5_divide_106 : decode cX5_divide 106 = .ok (.aload_n 0, 1) := by decide +kernel
theorem dX5_divide_107 : decode cX5_divide 107 = .ok (.getfield 7, 3) := by decide +kernel
theorem dX5_divide_110 : decode cX5_divide 110 = .ok (.iload_n 3, 1) := by decide +kernel
theorem dX5_divide_111 : decode cX5_divide 111 = .ok (.bipush 8, 2) := by decide +kernel
theorem dX5_divide_113 : decode cX5_divide 113 = .ok (.iadd, 1) := by decide +kernel
theorem dX5_divide_114 : decode cX5_divide 114 = .ok (.bipush 12, 2) := by decide +kernel
theorem dX5_divide_116 : decode cX5_divide 116 = .ok (.iadd, 1) := by decide +kernel
theorem dX5_divide_117 : decode cX5_divide 117 = .ok (.iconst 0, 1) := by decide +kernel
theorem dX5_divide_118 : decode cX5_divide 118 = .ok (.iastore, 1) := by decide +kernel
theorem dX5_divide_119 : decode cX5_divide 119 = .ok (.aload_n 0, 1) := by decide +kernel
theorem dX5_divide_120 : decode cX5_divide 120 = .ok (.getfield 7, 3) := by decide +kernel
theorem dX5_divide_123 : decode cX5_divide 123 = .ok (.iload_n 3, 1) := by decide +kernel
theorem dX5_divide_124 : decode cX5_divide 124 = .ok (.iconst 5, 1) := by decide +kernel
theorem dX5_divide_125 : decode cX5_divide 125 = .ok (.iadd, 1) := by decide +kernel
theorem dX5_divide_126 : decode cX5_divide 126 = .ok (.iload_n 2, 1) := by decide +kernel
theorem dX5_divide_127 : decode cX5_divide 127 = .ok (.iastore, 1) := by decide +kernel
theorem dX5_divide_128 : decode cX5_divide 128 = .ok (.aload_n 0, 1) := by decide +kernel
theorem dX5_divide_129 : decode cX5_divide 129 = .ok (.getfield 7, 3) := by decide +kernel
theorem dX5_divide_132 : decode cX5_divide 132 = .ok (.iload_n 3, 1) := by decide +kernel
theorem dX5_divide_133 : decode cX5_divide 133 = .ok (.bipush 9, 2) := by decide +kernel
theorem dX5_divide_135 : decode cX5_divide 135 = .ok (.iadd, 1) := by decide +kernel
theorem dX5_divide_136 : decode cX5_divide 136 = .ok (.iconst 0, 1) := by decide +kernel
theorem dX5_divide_137 : decode cX5_divide 137 = .ok (.iastore, 1) := by decide +kernel
theorem dX5_divide_138 : decode cX5_divide 138 = .ok (.aload_n 0, 1) := by decide +kernel
theorem dX5_divide_139 : decode cX5_divide 139 = .ok (.getfield 7, 3) := by decide +kernel
theorem dX5_divide_142 : decode cX5_divide 142 = .ok (.iload_n 3, 1) := by decide +kernel
theorem dX5_divide_143 : decode cX5_divide 143 = .ok (.bipush 10, 2) := by decide +kernel
theorem dX5_divide_145 : decode cX5_divide 145 = .ok (.iadd, 1) := by decide +kernel
theorem dX5_divide_146 : decode cX5_divide 146 = .ok (.iconst 0, 1) := by decide +kernel
theorem dX5_divide_147 : decode cX5_divide 147 = .ok (.iastore, 1) := by decide +kernel
theorem dX5_divide_148 : decode cX5_divide 148 = .ok (.aload_n 0, 1) := by decide +kernel
theorem dX5_divide_149 : decode cX5_divide 149 = .ok (.getfield 7, 3) := by decide +kernel
theorem dX5_divide_152 : decode cX5_divide 152 = .ok (.iload_n 3, 1) := by decide +kernel
theorem dX5_divide_153 : decode cX5_divide 153 = .ok (.bipush 11, 2) := by decide +kernel
theorem dX5_divide_155 : decode cX5_divide 155 = .ok (.iadd, 1) := by decide +kernel
theorem dX5_divide_156 : decode cX5_divide 156 = .ok (.iconst 0, 1) := by decide +kernel
theorem dX5_divide_157 : decode cX5_divide 157 = .ok (.iastore, 1) := by decide +kernel
theorem dX5_divide_158 : decode cX5_divide 158 = .ok (.aload_n 0, 1) := by decide +kernel
theorem dX5_divide_159 : decode cX5_divide 159 = .ok (.getfield 7, 3) := by decide +kernel
theorem dX5_divide_162 : decode cX5_divide 162 = .ok (.iload_n 3, 1) := by decide +kernel
theorem dX5_divide_163 : decode cX5_divide 163 = .ok (.bipush 12, 2) := by decide +kernel
theorem dX5_divide_165 : decode cX5_divide 165 = .ok (.iadd, 1) := by decide +kernel
theorem dX5_divide_166 : decode cX5_divide 166 = .ok (.iconst 0, 1) := by decide +kernel
theorem dX5_divide_167 : decode cX5_divide 167 = .ok (.iastore, 1) := by decide +kernel
theorem dX5_divide_168 : decode cX5_divide 168 = .ok (.aload_n 0, 1) := by decide +kernel
theorem dX5_divide_169 : decode cX5_divide 169 = .ok (.getfield 7, 3) := by decide +kernel
theorem dX5_divide_172 : decode cX5_divide 172 = .ok (.iconst 0, 1) := by decide +kernel
theorem dX5_divide_173 : decode cX5_divide 173 = .ok (.dup2, 1) := by decide +kernel
theorem dX5_divide_174 : decode cX5_divide 174 = .ok (.iaload, 1) := by decide +kernel
theorem dX5_divide_175 : decode cX5_divide 175 = .ok (.iconst 1, 1) := by decide +kernel
theorem dX5_divide_176 : decode cX5_divide 176 = .ok (.iadd, 1) := by decide +kernel
theorem dX5_divide_177 : decode cX5_divide 177 = .ok (.iastore, 1) := by decide +kernel
theorem dX5_divide_178 : decode cX5_divide 178 = .ok (.aload_n 0, 1) := by decide +kernel
theorem dX5_divide_179 : decode cX5_divide 179 = .ok (.getfield 7, 3) := by decide +kernel
theorem dX5_divide_182 : decode cX5_divide 182 = .ok (.iconst 0, 1) := by decide +kernel
theorem dX5_divide_183 : decode cX5_divide 183 = .ok (.iaload, 1) := by decide +kernel
theorem dX5_divide_184 : decode cX5_divide 184 = .ok (.ireturn, 1) := by decide +kernel
set_option maxRecDepth 20000 in
theorem ggX5_change_X5_record : GoodIn wsX5_change wsX5_record := goodIn_r _ [6, 7, 8, 9, 10, 1, 11, 12, 13, 14, 15, 16, 17, 18, 19, 20, 21, 22] (by decide +kernel) (by decide +kernel)
set_option maxRecDepth 20000 in
theorem gX5_change_X5_record : GoodIn wsX5_change (wsV RX5 107 RX5 yX5_record wsX5_record) := goodIn_app (goodIn_of _ (by decide +kernel)) ggX5_change_X5_record
theorem dX5_change_0 : decode cX5_change 0 = .ok (.aload_n 0, 1) := by decide +kernel
theorem dX5_change_1 : decode cX5_change 1 = .ok (.invokevirtual 107, 3) := by decide +kernel
theorem dX5_change_4 : decode cX5_change 4 = .ok (.aload_n 0, 1) := by decide +kernel
theorem dX5_change_5 : decode cX5_change 5 = .ok (.getfield 7, 3) := by decide +kernel
theorem dX5_change_8 : decode cX5_change 8 = .ok (.iload_n 1, 1) := by decide +kernel
theorem dX5_change_9 : decode cX5_change 9 = .ok (.iaload, 1) := by decide +kernel
theorem dX5_change_10 : decode cX5_change 10 = .ok (.istore_n 3, 1) := by decide +kernel
theorem dX5_change_11 : decode cX5_change 11 = .ok (.aload_n 0, 1) := by decide +kernel
theorem dX5_change_12 : decode cX5_change 12 = .ok (.getfield 7, 3) := by decide +kernel
theorem dX5_change_15 : decode cX5_change 15 = .ok (.iload_n 1, 1) := by decide +kernel
theorem dX5_change_16 : decode cX5_change 16 = .ok (.iload_n 2, 1) := by decide +kernel
theorem dX5_change_17 : decode cX5_change 17 = .ok (.iastore, 1) := by decide +kernel
theorem dX5_change_18 : decode cX5_change 18 = .ok (.iload_n 3, 1) := by decide +kernel
theorem dX5_change_19 : decode cX5_change 19 = .ok (.ireturn, 1) := by decide +kernel
set_option maxRecDepth 20000 in
theorem ggX5_setBed_X5_in : GoodIn wsX5_setBed wsX5_in := goodIn_r _ [7] (by decide +kernel) (by decide +kernel)
set_option maxRecDepth 20000 in
theorem gX5_setBed_X5_in : GoodIn wsX5_setBed (va_wsS RX5 35 yX5_in wsX5_in) := goodIn_app (goodIn_of _ (by decide +kernel)) ggX5_setBed_X5_in
set_option maxRecDepth 20000 in
theorem ggX5_setBed_X5_bottom : GoodIn wsX5_setBed wsX5_bottom := goodIn_r _ [11, 12, 13, 14, 15, 6, 16, 17, 18, 19, 20, 33, 34, 35, 36, 37, 38, 39, 40, 41, 42, 43, 44] (by decide +kernel) (by decide +kernel)
set_option maxRecDepth 20000 in
theorem gX5_setBed_X5_bottom : GoodIn wsX5_setBed (wsV RX5 101 RX5 yX5_bottom wsX5_bottom) := goodIn_app (goodIn_of _ (by decide +kernel)) ggX5_setBed_X5_bottom
set_option maxRecDepth 20000 in
theorem ggX5_setBed_X5_change : GoodIn wsX5_setBed wsX5_change := goodIn_r _ [24, 12, 25, 26, 27, 6, 28, 29, 30, 31, 32, 33, 34, 35, 36, 37, 38, 39, 40, 41, 42, 43, 44] (by decide +kernel) (by decide +kernel)
set_option maxRecDepth 20000 in
theorem gX5_setBed_X5_change : GoodIn wsX5_setBed (wsV RX5 116 RX5 yX5_change wsX5_change) := goodIn_app (goodIn_of _ (by decide +kernel)) ggX5_setBed_X5_change
theorem dX5_setBed_0 : decode cX5_setBed 0 = .ok (.iload_n 1, 1) := by decide +kernel
theorem dX5_setBed_1 : decode cX5_setBed 1 = .ok (.sipush 1000, 3) := by decide +kernel
theorem dX5_setBed_4 : decode cX5_setBed 4 = .ok (.ldc 115, 2) := by decide +kernel
theorem dX5_setBed_6 : decode cX5_setBed 6 = .ok (.invokestatic 35, 3) := by decide +kernel
theorem dX5_setBed_9 : decode cX5_setBed 9 = .ok (.ifCond .ne 6, 3) := by decide +kernel
theorem dX5_setBed_12 : decode cX5_setBed 12 = .ok (.ldc 100, 2) := by decide +kernel
theorem dX5_setBed_14 : decode cX5_setBed 14 = .ok (.ireturn, 1) := by decide +kernel
theorem dX5_setBed_15 : decode cX5_setBed 15 = .ok (.aload_n 0, 1) := by decide +kernel
theorem dX5_setBed_16 : decode cX5_setBed 16 = .ok (.invokevirtual 101, 3) := by decide +kernel
theorem dX5_setBed_19 : decode cX5_setBed 19 = .ok (.iload_n 1, 1) := by decide +kernel
theorem dX5_setBed_20 : decode cX5_setBed 20 = .ok (.if_icmp .le 8, 3) := by decide +kernel
theorem dX5_setBed_23 : decode cX5_setBed 23 = .ok (.ldc 105, 2) := by decide +kernel
theorem dX5_setBed_25 : decode cX5_setBed 25 = .ok (.goto 9, 3) := by decide +kernel
theorem dX5_setBed_28 : decode cX5_setBed 28 = .ok (.aload_n 0, 1) := by decide +kernel
theorem dX5_setBed_29 : decode cX5_setBed 29 = .ok (.iconst 1, 1) := by decide +kernel
theorem dX5_setBed_30 : decode cX5_setBed 30 = .ok (.iload_n 1, 1) := by decide +kernel
theorem dX5_setBed_31 : decode cX5_setBed 31 = .ok (.invokevirtual 116, 3) := by decide +kernel
theorem dX5_setBed_34 : decode cX5_setBed 34 = .ok (.ireturn, 1) := by decide +kernel
set_option maxRecDepth 20000 in
theorem ggX5_setFunction_X5_in : GoodIn wsX5_setFunction wsX5_in := goodIn_r _ [5] (by decide +kernel) (by decide +kernel)
set_option maxRecDepth 20000 in
theorem gX5_setFunction_X5_in : GoodIn wsX5_setFunction (va_wsS RX5 35 yX5_in wsX5_in) := goodIn_app (goodIn_of _ (by decide +kernel)) ggX5_setFunction_X5_in
set_option maxRecDepth 20000 in
theorem ggX5_setFunction_X5_change : GoodIn wsX5_setFunction wsX5_change := goodIn_r _ [9, 10, 11, 12, 13, 4, 14, 15, 16, 17, 18, 19, 20, 21, 22, 23, 24, 25, 26, 27, 28, 29, 30] (by decide +kernel) (by decide +kernel)
set_option maxRecDepth 20000 in
theorem gX5_setFunction_X5_change : GoodIn wsX5_setFunction (wsV RX5 116 RX5 yX5_change wsX5_change) := goodIn_app (goodIn_of _ (by decide +kernel)) ggX5_setFunction_X5_change
theorem dX5_setFunction_0 : decode cX5_setFunction 0 = .ok (.iload_n 1, 1) := by decide +kernel
theorem dX5_setFunction_1 : decode cX5_setFunction 1 = .ok (.iconst 0, 1) := by decide +kernel
theorem dX5_setFunction_2 : decode cX5_setFunction 2 = .ok (.iconst 2, 1) := by decide +kernel
theorem dX5_setFunction_3 : decode cX5_setFunction 3 = .ok (.invokestatic 35, 3) := by decide +kernel
theorem dX5_setFunction_6 : decode cX5_setFunction 6 = .ok (.ifCond .eq 12, 3) := by decide +kernel
theorem dX5_setFunction_9 : decode cX5_setFunction 9 = .ok (.aload_n 0, 1) := by decide +kernel
theorem dX5_setFunction_10 : decode cX5_setFunction 10 = .ok (.iconst 2, 1) := by decide +kernel
theorem dX5_setFunction_11 : decode cX5_setFunction 11 = .ok (.iload_n 1, 1) := by decide +kernel
theorem dX5_setFunction_12 : decode cX5_setFunction 12 = .ok (.invokevirtual 116, 3) := by decide +kernel
theorem dX5_setFunction_15 : decode cX5_setFunction 15 = .ok (.goto 5, 3) := by decide +kernel
theorem dX5_setFunction_18 : decode cX5_setFunction 18 = .ok (.ldc 100, 2) := by decide +kernel
theorem dX5_setFunction_20 : decode cX5_setFunction 20 = .ok (.ireturn, 1) := by decide +kernel
set_option maxRecDepth 20000 in
theorem ggX5_setKink_X5_in : GoodIn wsX5_setKink wsX5_in := goodIn_r _ [5] (by decide +kernel) (by decide +kernel)
set_option maxRecDepth 20000 in
theorem gX5_setKink_X5_in : GoodIn wsX5_setKink (va_wsS RX5 35 yX5_in wsX5_in) := goodIn_app (goodIn_of _ (by decide +kernel)) ggX5_setKink_X5_in
set_option maxRecDepth 20000 in
theorem ggX5_setKink_X5_change : GoodIn wsX5_setKink wsX5_change := goodIn_r _ [9, 10, 11, 12, 13, 4, 14, 15, 16, 17, 18, 19, 20, 21, 22, 23, 24, 25, 26, 27, 28, 29, 30] (by decide +kernel) (by decide +kernel)
set_option maxRecDepth 20000 in
theorem gX5_setKink_X5_change : GoodIn wsX5_setKink (wsV RX5 116 RX5 yX5_change wsX5_change) := goodIn_app (goodIn_of _ (by decide +kernel)) ggX5_setKink_X5_change
theorem dX5_setKink_0 : decode cX5_setKink 0 = .ok (.iload_n 1, 1) := by decide +kernel
theorem dX5_setKink_1 : decode cX5_setKink 1 = .ok (.iconst 0, 1) := by decide +kernel
theorem dX5_setKink_2 : decode cX5_setKink 2 = .ok (.sipush 900, 3) := by decide +kernel
theorem dX5_setKink_5 : decode cX5_setKink 5 = .ok (.invokestatic 35, 3) := by decide +kernel
theorem dX5_setKink_8 : decode cX5_setKink 8 = .ok (.ifCond .eq 12, 3) := by decide +kernel
theorem dX5_setKink_11 : decode cX5_setKink 11 = .ok (.aload_n 0, 1) := by decide +kernel
theorem dX5_setKink_12 : decode cX5_setKink 12 = .ok (.iconst 3, 1) := by decide +kernel
theorem dX5_setKink_13 : decode cX5_setKink 13 = .ok (.iload_n 1, 1) := by decide +kernel
theorem dX5_setKink_14 : decode cX5_setKink 14 = .ok (.invokevirtual 116, 3) := by decide +kernel
theorem dX5_setKink_17 : decode cX5_setKink 17 = .ok (.goto 5, 3) := by decide +kernel
theorem dX5_setKink_20 : decode cX5_setKink 20 = .ok (.ldc 100, 2) := by decide +kernel
theorem dX5_setKink_22 : decode cX5_setKink 22 = .ok (.ireturn, 1) := by decide +kernel
set_option maxRecDepth 20000 in
theorem ggX5_tellThinning_X5_isLayer : GoodIn wsX5_tellThinning wsX5_isLayer := goodIn_r _ [7, 8, 9, 10, 6, 11, 24, 25, 26, 27, 28, 29, 30, 31, 32, 33, 34, 35] (by decide +kernel) (by decide +kernel)
set_option maxRecDepth 20000 in
theorem gX5_tellThinning_X5_isLayer : GoodIn wsX5_tellThinning (wsV RX5 110 RX5 yX5_isLayer wsX5_isLayer) := goodIn_app (goodIn_of _ (by decide +kernel)) ggX5_tellThinning_X5_isLayer
set_option maxRecDepth 20000 in
theorem ggX5_tellThinning_X5_in : GoodIn wsX5_tellThinning wsX5_in := goodIn_r _ [11] (by decide +kernel) (by decide +kernel)
set_option maxRecDepth 20000 in
theorem gX5_tellThinning_X5_in : GoodIn wsX5_tellThinning (va_wsS RX5 35 yX5_in wsX5_in) := goodIn_app (goodIn_of _ (by decide +kernel)) ggX5_tellThinning_X5_in
set_option maxRecDepth 20000 in
theorem ggX5_tellThinning_X5_change : GoodIn wsX5_tellThinning wsX5_change := goodIn_r _ [15, 8, 16, 17, 18, 6, 19, 20, 21, 22, 23, 24, 25, 26, 27, 28, 29, 30, 31, 32, 33, 34, 35] (by decide +kernel) (by decide +kernel)
set_option maxRecDepth 20000 in
theorem gX5_tellThinning_X5_change : GoodIn wsX5_tellThinning (wsV RX5 116 RX5 yX5_change wsX5_change) := goodIn_app (goodIn_of _ (by decide +kernel)) ggX5_tellThinning_X5_change
theorem dX5_tellThinning_0 : decode cX5_tellThinning 0 = .ok (.aload_n 0, 1) := by decide +kernel
theorem dX5_tellThinning_1 : decode cX5_tellThinning 1 = .ok (.iload_n 1, 1) := by decide +kernel
theorem dX5_tellThinning_2 : decode cX5_tellThinning 2 = .ok (.invokevirtual 110, 3) := by decide +kernel
theorem dX5_tellThinning_5 : decode cX5_tellThinning 5 = .ok (.ifCond .ne 8, 3) := by decide +kernel
theorem dX5_tellThinning_8 : decode cX5_tellThinning 8 = .ok (.ldc 114, 2) := by decide +kernel
theorem dX5_tellThinning_10 : decode cX5_tellThinning 10 = .ok (.goto 32, 3) := by decide +kernel
theorem dX5_tellThinning_13 : decode cX5_tellThinning 13 = .ok (.iload_n 2, 1) := by decide +kernel
theorem dX5_tellThinning_14 : decode cX5_tellThinning 14 = .ok (.bipush 10, 2) := by decide +kernel
theorem dX5_tellThinning_16 : decode cX5_tellThinning 16 = .ok (.sipush 1000, 3) := by decide +kernel
theorem dX5_tellThinning_19 : decode cX5_tellThinning 19 = .ok (.invokestatic 35, 3) := by decide +kernel
theorem dX5_tellThinning_22 : decode cX5_tellThinning 22 = .ok (.ifCond .eq 18, 3) := by decide +kernel
theorem dX5_tellThinning_25 : decode cX5_tellThinning 25 = .ok (.aload_n 0, 1) := by decide +kernel
theorem dX5_tellThinning_26 : decode cX5_tellThinning 26 = .ok (.bipush 8, 2) := by decide +kernel
theorem dX5_tellThinning_28 : decode cX5_tellThinning 28 = .ok (.iload_n 1, 1) := by decide +kernel
theorem dX5_tellThinning_29 : decode cX5_tellThinning 29 = .ok (.imul, 1) := by decide +kernel
theorem dX5_tellThinning_30 : decode cX5_tellThinning 30 = .ok (.bipush 8, 2) := by decide +kernel
theorem dX5_tellThinning_32 : decode cX5_tellThinning 32 = .ok (.iadd, 1) := by decide +kernel
theorem dX5_tellThinning_33 : decode cX5_tellThinning 33 = .ok (.iload_n 2, 1) := by decide +kernel
theorem dX5_tellThinning_34 : decode cX5_tellThinning 34 = .ok (.invokevirtual 116, 3) := by decide +kernel
theorem dX5_tellThinning_37 : decode cX5_tellThinning 37 = .ok (.goto 5, 3) := by decide +kernel
theorem dX5_tellThinning_40 : decode cX5_tellThinning 40 = .ok (.ldc 100, 2) := by decide +kernel
theorem dX5_tellThinning_42 : decode cX5_tellThinning 42 = .ok (.ireturn, 1) := by decide +kernel
set_option maxRecDepth 20000 in
theorem ggX5_correct_X5_isLayer : GoodIn wsX5_correct wsX5_isLayer := goodIn_r _ [7, 8, 9, 10, 6, 11, 24, 25, 26, 27, 28, 29, 30, 31, 32, 33, 34, 35] (by decide +kernel) (by decide +kernel)
set_option maxRecDepth 20000 in
theorem gX5_correct_X5_isLayer : GoodIn wsX5_correct (wsV RX5 110 RX5 yX5_isLayer wsX5_isLayer) := goodIn_app (goodIn_of _ (by decide +kernel)) ggX5_correct_X5_isLayer
set_option maxRecDepth 20000 in
theorem ggX5_correct_X5_in : GoodIn wsX5_correct wsX5_in := goodIn_r _ [11] (by decide +kernel) (by decide +kernel)
set_option maxRecDepth 20000 in
theorem gX5_correct_X5_in : GoodIn wsX5_correct (va_wsS RX5 35 yX5_in wsX5_in) := goodIn_app (goodIn_of _ (by decide +kernel)) ggX5_correct_X5_in
set_option maxRecDepth 20000 in
theorem ggX5_correct_X5_change : GoodIn wsX5_correct wsX5_change := goodIn_r _ [15, 8, 16, 17, 18, 6, 19, 20, 21, 22, 23, 24, 25, 26, 27, 28, 29, 30, 31, 32, 33, 34, 35] (by decide +kernel) (by decide +kernel)
set_option maxRecDepth 20000 in
theorem gX5_correct_X5_change : GoodIn wsX5_correct (wsV RX5 116 RX5 yX5_change wsX5_change) := goodIn_app (goodIn_of _ (by decide +kernel)) ggX5_correct_X5_change
theorem dX5_correct_0 : decode cX5_correct 0 = .ok (.aload_n 0, 1) := by decide +kernel
theorem dX5_correct_1 : decode cX5_correct 1 = .ok (.iload_n 1, 1) := by decide +kernel
theorem dX5_correct_2 : decode cX5_correct 2 = .ok (.invokevirtual 110, 3) := by decide +kernel
theorem dX5_correct_5 : decode cX5_correct 5 = .ok (.ifCond .ne 8, 3) := by decide +kernel
theorem dX5_correct_8 : decode cX5_correct 8 = .ok (.ldc 114, 2) := by decide +kernel
theorem dX5_correct_10 : decode cX5_correct 10 = .ok (.goto 33, 3) := by decide +kernel
theorem dX5_correct_13 : decode cX5_correct 13 = .ok (.iload_n 2, 1) := by decide +kernel
theorem dX5_correct_14 : decode cX5_correct 14 = .ok (.sipush 200, 3) := by decide +kernel
theorem dX5_correct_17 : decode cX5_correct 17 = .ok (.sipush 5000, 3) := by decide +kernel
theorem dX5_correct_20 : decode cX5_correct 20 = .ok (.invokestatic 35, 3) := by decide +kernel
theorem dX5_correct_23 : decode cX5_correct 23 = .ok (.ifCond .eq 18, 3) := by decide +kernel
theorem dX5_correct_26 : decode cX5_correct 26 = .ok (.aload_n 0, 1) := by decide +kernel
theorem dX5_correct_27 : decode cX5_correct 27 = .ok (.bipush 8, 2) := by decide +kernel
theorem dX5_correct_29 : decode cX5_correct 29 = .ok (.iload_n 1, 1) := by decide +kernel
theorem dX5_correct_30 : decode cX5_correct 30 = .ok (.imul, 1) := by decide +kernel
theorem dX5_correct_31 : decode cX5_correct 31 = .ok (.bipush 7, 2) := by decide +kernel
theorem dX5_correct_33 : decode cX5_correct 33 = .ok (.iadd, 1) := by decide +kernel
theorem dX5_correct_34 : decode cX5_correct 34 = .ok (.iload_n 2, 1) := by decide +kernel
theorem dX5_correct_35 : decode cX5_correct 35 = .ok (.invokevirtual 116, 3) := by decide +kernel
theorem dX5_correct_38 : decode cX5_correct 38 = .ok (.goto 5, 3) := by decide +kernel
theorem dX5_correct_41 : decode cX5_correct 41 = .ok (.ldc 100, 2) := by decide +kernel
theorem dX5_correct_43 : decode cX5_correct 43 = .ok (.ireturn, 1) := by decide +kernel
set_option maxRecDepth 20000 in
theorem ggX5_setCloseOff_X5_in : GoodIn wsX5_setCloseOff wsX5_in := goodIn_r _ [5] (by decide +kernel) (by decide +kernel)
set_option maxRecDepth 20000 in
theorem gX5_setCloseOff_X5_in : GoodIn wsX5_setCloseOff (va_wsS RX5 35 yX5_in wsX5_in) := goodIn_app (goodIn_of _ (by decide +kernel)) ggX5_setCloseOff_X5_in
set_option maxRecDepth 20000 in
theorem ggX5_setCloseOff_X5_change : GoodIn wsX5_setCloseOff wsX5_change := goodIn_r _ [9, 10, 11, 12, 13, 4, 14, 15, 16, 17, 18, 19, 20, 21, 22, 23, 24, 25, 26, 27, 28, 29, 30] (by decide +kernel) (by decide +kernel)
set_option maxRecDepth 20000 in
theorem gX5_setCloseOff_X5_change : GoodIn wsX5_setCloseOff (wsV RX5 116 RX5 yX5_change wsX5_change) := goodIn_app (goodIn_of _ (by decide +kernel)) ggX5_setCloseOff_X5_change
theorem dX5_setCloseOff_0 : decode cX5_setCloseOff 0 = .ok (.iload_n 1, 1) := by decide +kernel
theorem dX5_setCloseOff_1 : decode cX5_setCloseOff 1 = .ok (.iconst 0, 1) := by decide +kernel
theorem dX5_setCloseOff_2 : decode cX5_setCloseOff 2 = .ok (.sipush 15000, 3) := by decide +kernel
theorem dX5_setCloseOff_5 : decode cX5_setCloseOff 5 = .ok (.invokestatic 35, 3) := by decide +kernel
theorem dX5_setCloseOff_8 : decode cX5_setCloseOff 8 = .ok (.ifCond .eq 12, 3) := by decide +kernel
theorem dX5_setCloseOff_11 : decode cX5_setCloseOff 11 = .ok (.aload_n 0, 1) := by decide +kernel
theorem dX5_setCloseOff_12 : decode cX5_setCloseOff 12 = .ok (.iconst 4, 1) := by decide +kernel
theorem dX5_setCloseOff_13 : decode cX5_setCloseOff 13 = .ok (.iload_n 1, 1) := by decide +kernel
theorem dX5_setCloseOff_14 : decode cX5_setCloseOff 14 = .ok (.invokevirtual 116, 3) := by decide +kernel
theorem dX5_setCloseOff_17 : decode cX5_setCloseOff 17 = .ok (.goto 5, 3) := by decide +kernel
theorem dX5_setCloseOff_20 : decode cX5_setCloseOff 20 = .ok (.ldc 100, 2) := by decide +kernel
theorem dX5_setCloseOff_22 : decode cX5_setCloseOff 22 = .ok (.ireturn, 1) := by decide +kernel
set_option maxRecDepth 20000 in
theorem ggX5_setAsh_X5_isLayer : GoodIn wsX5_setAsh wsX5_isLayer := goodIn_r _ [9, 4, 10, 11, 8, 12, 29, 30, 31, 32, 33, 34, 35, 36, 37, 38, 39, 40] (by decide +kernel) (by decide +kernel)
set_option maxRecDepth 20000 in
theorem gX5_setAsh_X5_isLayer : GoodIn wsX5_setAsh (wsV RX5 110 RX5 yX5_isLayer wsX5_isLayer) := goodIn_app (goodIn_of _ (by decide +kernel)) ggX5_setAsh_X5_isLayer
set_option maxRecDepth 20000 in
theorem ggX5_setAsh_X5_in : GoodIn wsX5_setAsh wsX5_in := goodIn_r _ [12] (by decide +kernel) (by decide +kernel)
set_option maxRecDepth 20000 in
theorem gX5_setAsh_X5_in : GoodIn wsX5_setAsh (va_wsS RX5 35 yX5_in wsX5_in) := goodIn_app (goodIn_of _ (by decide +kernel)) ggX5_setAsh_X5_in
set_option maxRecDepth 20000 in
theorem ggX5_setAsh_X5_record : GoodIn wsX5_setAsh wsX5_record := goodIn_r _ [16, 17, 18, 19, 20, 4, 29, 30, 31, 32, 33, 34, 35, 36, 37, 38, 39, 40] (by decide +kernel) (by decide +kernel)
set_option maxRecDepth 20000 in
theorem gX5_setAsh_X5_record : GoodIn wsX5_setAsh (wsV RX5 107 RX5 yX5_record wsX5_record) := goodIn_app (goodIn_of _ (by decide +kernel)) ggX5_setAsh_X5_record
set_option maxRecDepth 20000 in
theorem ggX5_setAsh_X5_ashes : GoodIn wsX5_setAsh wsX5_ashes := goodIn_r _ [24, 4, 25, 26, 27, 8, 28, 29, 30, 31, 32, 33, 34, 35, 36, 37, 38, 39, 40] (by decide +kernel) (by decide +kernel)
set_option maxRecDepth 20000 in
theorem gX5_setAsh_X5_ashes : GoodIn wsX5_setAsh (wsV RX5 120 RX5 yX5_ashes wsX5_ashes) := goodIn_app (goodIn_of _ (by decide +kernel)) ggX5_setAsh_X5_ashes
theorem dX5_setAsh_0 : decode cX5_setAsh 0 = .ok (.aload_n 0, 1) := by decide +kernel
theorem dX5_setAsh_1 : decode cX5_setAsh 1 = .ok (.iload_n 1, 1) := by decide +kernel
theorem dX5_setAsh_2 : decode cX5_setAsh 2 = .ok (.invokevirtual 110, 3) := by decide +kernel
theorem dX5_setAsh_5 : decode cX5_setAsh 5 = .ok (.ifCond .ne 6, 3) := by decide +kernel
theorem dX5_setAsh_8 : decode cX5_setAsh 8 = .ok (.ldc 114, 2) := by decide +kernel
theorem dX5_setAsh_10 : decode cX5_setAsh 10 = .ok (.ireturn, 1) := by decide +kernel
theorem dX5_setAsh_11 : decode cX5_setAsh 11 = .ok (.iload_n 2, 1) := by decide +kernel
theorem dX5_setAsh_12 : decode cX5_setAsh 12 = .ok (.iconst 0, 1) := by decide +kernel
theorem dX5_setAsh_13 : decode cX5_setAsh 13 = .ok (.ldc 119, 2) := by decide +kernel
theorem dX5_setAsh_15 : decode cX5_setAsh 15 = .ok (.invokestatic 35, 3) := by decide +kernel
theorem dX5_setAsh_18 : decode cX5_setAsh 18 = .ok (.ifCond .eq 14, 3) := by decide +kernel
theorem dX5_setAsh_21 : decode cX5_setAsh 21 = .ok (.iload_n 3, 1) := by decide +kernel
theorem dX5_setAsh_22 : decode cX5_setAsh 22 = .ok (.iconst 0, 1) := by decide +kernel
theorem dX5_setAsh_23 : decode cX5_setAsh 23 = .ok (.sipush 10000, 3) := by decide +kernel
theorem dX5_setAsh_26 : decode cX5_setAsh 26 = .ok (.invokestatic 35, 3) := by decide +kernel
theorem dX5_setAsh_29 : decode cX5_setAsh 29 = .ok (.ifCond .ne 6, 3) := by decide +kernel
theorem dX5_setAsh_32 : decode cX5_setAsh 32 = .ok (.ldc 100, 2) := by decide +kernel
theorem dX5_setAsh_34 : decode cX5_setAsh 34 = .ok (.ireturn, 1) := by decide +kernel
theorem dX5_setAsh_35 : decode cX5_setAsh 35 = .ok (.aload_n 0, 1) := by decide +kernel
theorem dX5_setAsh_36 : decode cX5_setAsh 36 = .ok (.invokevirtual 107, 3) := by decide +kernel
theorem dX5_setAsh_39 : decode cX5_setAsh 39 = .ok (.bipush 8, 2) := by decide +kernel
theorem dX5_setAsh_41 : decode cX5_setAsh 41 = .ok (.iload_n 1, 1) := by decide +kernel
theorem dX5_setAsh_42 : decode cX5_setAsh 42 = .ok (.imul, 1) := by decide +kernel
theorem dX5_setAsh_43 : decode cX5_setAsh 43 = .ok (.istore 4, 2) := by decide +kernel
theorem dX5_setAsh_45 : decode cX5_setAsh 45 = .ok (.aload_n 0, 1) := by decide +kernel
theorem dX5_setAsh_46 : decode cX5_setAsh 46 = .ok (.getfield 7, 3) := by decide +kernel
theorem dX5_setAsh_49 : decode cX5_setAsh 49 = .ok (.iload 4, 2) := by decide +kernel
theorem dX5_setAsh_51 : decode cX5_setAsh 51 = .ok (.bipush 9, 2) := by decide +kernel
theorem dX5_setAsh_53 : decode cX5_setAsh 53 = .ok (.iadd, 1) := by decide +kernel
theorem dX5_setAsh_54 : decode cX5_setAsh 54 = .ok (.iconst 1, 1) := by decide +kernel
theorem dX5_setAsh_55 : decode cX5_setAsh 55 = .ok (.iastore, 1) := by decide +kernel
theorem dX5_setAsh_56 : decode cX5_setAsh 56 = .ok (.aload_n 0, 1) := by decide +kernel
theorem dX5_setAsh_57 : decode cX5_setAsh 57 = .ok (.getfield 7, 3) := by decide +kernel
theorem dX5_setAsh_60 : decode cX5_setAsh 60 = .ok (.iload 4, 2) := by decide +kernel
theorem dX5_setAsh_62 : decode cX5_setAsh 62 = .ok (.bipush 10, 2) := by decide +kernel
theorem dX5_setAsh_64 : decode cX5_setAsh 64 = .ok (.iadd, 1) := by decide +kernel
theorem dX5_setAsh_65 : decode cX5_setAsh 65 = .ok (.iload_n 2, 1) := by decide +kernel
theorem dX5_setAsh_66 : decode cX5_setAsh 66 = .ok (.iastore, 1) := by decide +kernel
theorem dX5_setAsh_67 : decode cX5_setAsh 67 = .ok (.aload_n 0, 1) := by decide +kernel
theorem dX5_setAsh_68 : decode cX5_setAsh 68 = .ok (.getfield 7, 3) := by decide +kernel
theorem dX5_setAsh_71 : decode cX5_setAsh 71 = .ok (.iload 4, 2) := by decide +kernel
theorem dX5_setAsh_73 : decode cX5_setAsh 73 = .ok (.bipush 11, 2) := by decide +kernel
theorem dX5_setAsh_75 : decode cX5_setAsh 75 = .ok (.iadd, 1) := by decide +kernel
theorem dX5_setAsh_76 : decode cX5_setAsh 76 = .ok (.iload_n 3, 1) := by decide +kernel
theorem dX5_setAsh_77 : decode cX5_setAsh 77 = .ok (.iastore, 1) := by decide +kernel
theorem dX5_setAsh_78 : decode cX5_setAsh 78 = .ok (.aload_n 0, 1) := by decide +kernel
theorem dX5_setAsh_79 : decode cX5_setAsh 79 = .ok (.invokevirtual 120, 3) := by decide +kernel
theorem dX5_setAsh_82 : decode cX5_setAsh 82 = .ok (.ireturn, 1) := by decide +kernel
set_option maxRecDepth 20000 in
theorem ggX5_removeAsh_X5_isLayer : GoodIn wsX5_removeAsh wsX5_isLayer := goodIn_r _ [8, 3, 9, 10, 7, 11, 28, 29, 30, 31, 32, 33, 34, 35, 36, 37, 38, 39] (by decide +kernel) (by decide +kernel)
set_option maxRecDepth 20000 in
theorem gX5_removeAsh_X5_isLayer : GoodIn wsX5_removeAsh (wsV RX5 110 RX5 yX5_isLayer wsX5_isLayer) := goodIn_app (goodIn_of _ (by decide +kernel)) ggX5_removeAsh_X5_isLayer
set_option maxRecDepth 20000 in
theorem ggX5_removeAsh_X5_of : GoodIn wsX5_removeAsh wsX5_of := goodIn_r _ [15, 3, 28, 29, 30, 31, 32, 33, 34, 35, 36, 37, 38, 39] (by decide +kernel) (by decide +kernel)
set_option maxRecDepth 20000 in
theorem gX5_removeAsh_X5_of : GoodIn wsX5_removeAsh (wsV RX5 49 RX5 yX5_of wsX5_of) := goodIn_app (goodIn_of _ (by decide +kernel)) ggX5_removeAsh_X5_of
set_option maxRecDepth 20000 in
theorem ggX5_removeAsh_X5_record : GoodIn wsX5_removeAsh wsX5_record := goodIn_r _ [19, 20, 21, 22, 23, 3, 28, 29, 30, 31, 32, 33, 34, 35, 36, 37, 38, 39] (by decide +kernel) (by decide +kernel)
set_option maxRecDepth 20000 in
theorem gX5_removeAsh_X5_record : GoodIn wsX5_removeAsh (wsV RX5 107 RX5 yX5_record wsX5_record) := goodIn_app (goodIn_of _ (by decide +kernel)) ggX5_removeAsh_X5_record
set_option maxRecDepth 20000 in
theorem ggX5_removeAsh_X5_ashes : GoodIn wsX5_removeAsh wsX5_ashes := goodIn_r _ [27, 3, 12, 13, 14, 7, 15, 28, 29, 30, 31, 32, 33, 34, 35, 36, 37, 38, 39] (by decide +kernel) (by decide +kernel)
set_option maxRecDepth 20000 in
theorem gX5_removeAsh_X5_ashes : GoodIn wsX5_removeAsh (wsV RX5 120 RX5 yX5_ashes wsX5_ashes) := goodIn_app (goodIn_of _ (by decide +kernel)) ggX5_removeAsh_X5_ashes
theorem dX5_removeAsh_0 : decode cX5_removeAsh 0 = .ok (.aload_n 0, 1) := by decide +kernel
theorem dX5_removeAsh_1 : decode cX5_removeAsh 1 = .ok (.iload_n 1, 1) := by decide +kernel
theorem dX5_removeAsh_2 : decode cX5_removeAsh 2 = .ok (.invokevirtual 110, 3) := by decide +kernel
theorem dX5_removeAsh_5 : decode cX5_removeAsh 5 = .ok (.ifCond .ne 6, 3) := by decide +kernel
theorem dX5_removeAsh_8 : decode cX5_removeAsh 8 = .ok (.ldc 114, 2) := by decide +kernel
theorem dX5_removeAsh_10 : decode cX5_removeAsh 10 = .ok (.ireturn, 1) := by decide +kernel
theorem dX5_removeAsh_11 : decode cX5_removeAsh 11 = .ok (.aload_n 0, 1) := by decide +kernel
theorem dX5_removeAsh_12 : decode cX5_removeAsh 12 = .ok (.iload_n 1, 1) := by decide +kernel
theorem dX5_removeAsh_13 : decode cX5_removeAsh 13 = .ok (.bipush 9, 2) := by decide +kernel
theorem dX5_removeAsh_15 : decode cX5_removeAsh 15 = .ok (.invokevirtual 49, 3) := by decide +kernel
theorem dX5_removeAsh_18 : decode cX5_removeAsh 18 = .ok (.ifCond .ne 6, 3) := by decide +kernel
theorem dX5_removeAsh_21 : decode cX5_removeAsh 21 = .ok (.ldc 105, 2) := by decide +kernel
theorem dX5_removeAsh_23 : decode cX5_removeAsh 23 = .ok (.ireturn, 1) := by decide +kernel
theorem dX5_removeAsh_24 : decode cX5_removeAsh 24 = .ok (.aload_n 0, 1) := by decide +kernel
theorem dX5_removeAsh_25 : decode cX5_removeAsh 25 = .ok (.invokevirtual 107, 3) := by decide +kernel
theorem dX5_removeAsh_28 : decode cX5_removeAsh 28 = .ok (.aload_n 0, 1) := by decide +kernel
theorem dX5_removeAsh_29 : decode cX5_removeAsh 29 = .ok (.getfield 7, 3) := by decide +kernel
theorem dX5_removeAsh_32 : decode cX5_removeAsh 32 = .ok (.bipush 8, 2) := by decide +kernel
theorem dX5_removeAsh_34 : decode cX5_removeAsh 34 = .ok (.iload_n 1, 1) := by decide +kernel
theorem dX5_removeAsh_35 : decode cX5_removeAsh 35 = .ok (.imul, 1) := by decide +kernel
theorem dX5_removeAsh_36 : decode cX5_removeAsh 36 = .ok (.bipush 9, 2) := by decide +kernel
theorem dX5_removeAsh_38 : decode cX5_removeAsh 38 = .ok (.iadd, 1) := by decide +kernel
theorem dX5_removeAsh_39 : decode cX5_removeAsh 39 = .ok (.iconst 0, 1) := by decide +kernel
theorem dX5_removeAsh_40 : decode cX5_removeAsh 40 = .ok (.iastore, 1) := by decide +kernel
theorem dX5_removeAsh_41 : decode cX5_removeAsh 41 = .ok (.aload_n 0, 1) := by decide +kernel
theorem dX5_removeAsh_42 : decode cX5_removeAsh 42 = .ok (.invokevirtual 120, 3) := by decide +kernel
theorem dX5_removeAsh_45 : decode cX5_removeAsh 45 = .ok (.ireturn, 1) := by decide +kernel
set_option maxRecDepth 20000 in
theorem ggX5_setCount_X5_isLayer : GoodIn wsX5_setCount wsX5_isLayer := goodIn_r _ [9, 4, 10, 11, 8, 12, 44, 45, 46, 47, 48, 49, 50, 51, 52, 53, 54, 55] (by decide +kernel) (by decide +kernel)
set_option maxRecDepth 20000 in
theorem gX5_setCount_X5_isLayer : GoodIn wsX5_setCount (wsV RX5 110 RX5 yX5_isLayer wsX5_isLayer) := goodIn_app (goodIn_of _ (by decide +kernel)) ggX5_setCount_X5_isLayer
set_option maxRecDepth 20000 in
theorem ggX5_setCount_X5_in : GoodIn wsX5_setCount wsX5_in := goodIn_r _ [12] (by decide +kernel) (by decide +kernel)
set_option maxRecDepth 20000 in
theorem gX5_setCount_X5_in : GoodIn wsX5_setCount (va_wsS RX5 35 yX5_in wsX5_in) := goodIn_app (goodIn_of _ (by decide +kernel)) ggX5_setCount_X5_in
set_option maxRecDepth 20000 in
theorem ggX5_setCount_X5_record : GoodIn wsX5_setCount wsX5_record := goodIn_r _ [16, 17, 18, 19, 20, 4, 44, 45, 46, 47, 48, 49, 50, 51, 52, 53, 54, 55] (by decide +kernel) (by decide +kernel)
set_option maxRecDepth 20000 in
theorem gX5_setCount_X5_record : GoodIn wsX5_setCount (wsV RX5 107 RX5 yX5_record wsX5_record) := goodIn_app (goodIn_of _ (by decide +kernel)) ggX5_setCount_X5_record
set_option maxRecDepth 20000 in
theorem ggX5_setCount_X5_yearsOf : GoodIn wsX5_setCount wsX5_yearsOf := goodIn_r _ [24, 25, 26, 27, 8, 28, 4, 29, 30, 31, 32, 33, 34, 35, 36, 37, 38, 39, 40, 41, 42, 43, 44, 45, 46, 47, 48, 49, 50, 51, 52, 53, 54, 55] (by decide +kernel) (by decide +kernel)
set_option maxRecDepth 20000 in
theorem gX5_setCount_X5_yearsOf : GoodIn wsX5_setCount (wsV RX5 72 RX5 yX5_yearsOf wsX5_yearsOf) := goodIn_app (goodIn_of _ (by decide +kernel)) ggX5_setCount_X5_yearsOf
theorem dX5_setCount_0 : decode cX5_setCount 0 = .ok (.aload_n 0, 1) := by decide +kernel
theorem dX5_setCount_1 : decode cX5_setCount 1 = .ok (.iload_n 1, 1) := by decide +kernel
theorem dX5_setCount_2 : decode cX5_setCount 2 = .ok (.invokevirtual 110, 3) := by decide +kernel
theorem dX5_setCount_5 : decode cX5_setCount 5 = .ok (.ifCond .ne 6, 3) := by decide +kernel
theorem dX5_setCount_8 : decode cX5_setCount 8 = .ok (.ldc 114, 2) := by decide +kernel
theorem dX5_setCount_10 : decode cX5_setCount 10 = .ok (.ireturn, 1) := by decide +kernel
theorem dX5_setCount_11 : decode cX5_setCount 11 = .ok (.iload_n 2, 1) := by decide +kernel
theorem dX5_setCount_12 : decode cX5_setCount 12 = .ok (.iconst 1, 1) := by decide +kernel
theorem dX5_setCount_13 : decode cX5_setCount 13 = .ok (.ldc 123, 2) := by decide +kernel
theorem dX5_setCount_15 : decode cX5_setCount 15 = .ok (.invokestatic 35, 3) := by decide +kernel
theorem dX5_setCount_18 : decode cX5_setCount 18 = .ok (.ifCond .ne 6, 3) := by decide +kernel
theorem dX5_setCount_21 : decode cX5_setCount 21 = .ok (.ldc 100, 2) := by decide +kernel
theorem dX5_setCount_23 : decode cX5_setCount 23 = .ok (.ireturn, 1) := by decide +kernel
theorem dX5_setCount_24 : decode cX5_setCount 24 = .ok (.aload_n 0, 1) := by decide +kernel
theorem dX5_setCount_25 : decode cX5_setCount 25 = .ok (.invokevirtual 107, 3) := by decide +kernel
theorem dX5_setCount_28 : decode cX5_setCount 28 = .ok (.aload_n 0, 1) := by decide +kernel
theorem dX5_setCount_29 : decode cX5_setCount 29 = .ok (.getfield 7, 3) := by decide +kernel
theorem dX5_setCount_32 : decode cX5_setCount 32 = .ok (.bipush 8, 2) := by decide +kernel
theorem dX5_setCount_34 : decode cX5_setCount 34 = .ok (.iload_n 1, 1) := by decide +kernel
theorem dX5_setCount_35 : decode cX5_setCount 35 = .ok (.imul, 1) := by decide +kernel
theorem dX5_setCount_36 : decode cX5_setCount 36 = .ok (.bipush 12, 2) := by decide +kernel
theorem dX5_setCount_38 : decode cX5_setCount 38 = .ok (.iadd, 1) := by decide +kernel
theorem dX5_setCount_39 : decode cX5_setCount 39 = .ok (.iload_n 2, 1) := by decide +kernel
theorem dX5_setCount_40 : decode cX5_setCount 40 = .ok (.iastore, 1) := by decide +kernel
theorem dX5_setCount_41 : decode cX5_setCount 41 = .ok (.aload_n 0, 1) := by decide +kernel
theorem dX5_setCount_42 : decode cX5_setCount 42 = .ok (.iload_n 1, 1) := by decide +kernel
theorem dX5_setCount_43 : decode cX5_setCount 43 = .ok (.invokevirtual 72, 3) := by decide +kernel
theorem dX5_setCount_46 : decode cX5_setCount 46 = .ok (.iload_n 2, 1) := by decide +kernel
theorem dX5_setCount_47 : decode cX5_setCount 47 = .ok (.isub, 1) := by decide +kernel
theorem dX5_setCount_48 : decode cX5_setCount 48 = .ok (.ireturn, 1) := by decide +kernel
set_option maxRecDepth 20000 in
theorem ggX5_yearsWith_X5_of : GoodIn wsX5_yearsWith wsX5_of := goodIn_r _ [6, 7, 12, 13, 14, 15, 16, 17, 18, 19, 20, 21, 22, 23] (by decide +kernel) (by decide +kernel)
set_option maxRecDepth 20000 in
theorem gX5_yearsWith_X5_of : GoodIn wsX5_yearsWith (wsV RX5 49 RX5 yX5_of wsX5_of) := goodIn_app (goodIn_of _ (by decide +kernel)) ggX5_yearsWith_X5_of
set_option maxRecDepth 20000 in
theorem ggX5_yearsWith_X5_yearsBy : GoodIn wsX5_yearsWith wsX5_yearsBy := goodIn_r _ [10, 11] (by decide +kernel) (by decide +kernel)
set_option maxRecDepth 20000 in
theorem gX5_yearsWith_X5_yearsBy : GoodIn wsX5_yearsWith (va_wsS RX5 68 yX5_yearsBy wsX5_yearsBy) := goodIn_app (goodIn_of _ (by decide +kernel)) ggX5_yearsWith_X5_yearsBy
theorem dX5_yearsWith_0 : decode cX5_yearsWith 0 = .ok (.lconst 0, 1) := by decide +kernel
theorem dX5_yearsWith_1 : decode cX5_yearsWith 1 = .ok (.lstore 4, 2) := by decide +kernel
theorem dX5_yearsWith_3 : decode cX5_yearsWith 3 = .ok (.iload_n 1, 1) := by decide +kernel
theorem dX5_yearsWith_4 : decode cX5_yearsWith 4 = .ok (.istore 6, 2) := by decide +kernel
theorem dX5_yearsWith_6 : decode cX5_yearsWith 6 = .ok (.iload 6, 2) := by decide +kernel
theorem dX5_yearsWith_8 : decode cX5_yearsWith 8 = .ok (.iload_n 2, 1) := by decide +kernel
theorem dX5_yearsWith_9 : decode cX5_yearsWith 9 = .ok (.if_icmp .gt 45, 3) := by decide +kernel
theorem dX5_yearsWith_12 : decode cX5_yearsWith 12 = .ok (.lload 4, 2) := by decide +kernel
theorem dX5_yearsWith_14 : decode cX5_yearsWith 14 = .ok (.aload_n 0, 1) := by decide +kernel
theorem dX5_yearsWith_15 : decode cX5_yearsWith 15 = .ok (.iload 6, 2) := by decide +kernel
theorem dX5_yearsWith_17 : decode cX5_yearsWith 17 = .ok (.iconst 5, 1) := by decide +kernel
theorem dX5_yearsWith_18 : decode cX5_yearsWith 18 = .ok (.invokevirtual 49, 3) := by decide +kernel
theorem dX5_yearsWith_21 : decode cX5_yearsWith 21 = .ok (.i2l, 1) := by decide +kernel
theorem dX5_yearsWith_22 : decode cX5_yearsWith 22 = .ok (.aload_n 0, 1) := by decide +kernel
theorem dX5_yearsWith_23 : decode cX5_yearsWith 23 = .ok (.iload 6, 2) := by decide +kernel
theorem dX5_yearsWith_25 : decode cX5_yearsWith 25 = .ok (.bipush 6, 2) := by decide +kernel
theorem dX5_yearsWith_27 : decode cX5_yearsWith 27 = .ok (.invokevirtual 49, 3) := by decide +kernel
theorem dX5_yearsWith_30 : decode cX5_yearsWith 30 = .ok (.i2l, 1) := by decide +kernel
theorem dX5_yearsWith_31 : decode cX5_yearsWith 31 = .ok (.iload_n 3, 1) := by decide +kernel
theorem dX5_yearsWith_32 : decode cX5_yearsWith 32 = .ok (.i2l, 1) := by decide +kernel
theorem dX5_yearsWith_33 : decode cX5_yearsWith 33 = .ok (.aload_n 0, 1) := by decide +kernel
theorem dX5_yearsWith_34 : decode cX5_yearsWith 34 = .ok (.getfield 16, 3) := by decide +kernel
theorem dX5_yearsWith_37 : decode cX5_yearsWith 37 = .ok (.iload 6, 2) := by decide +kernel
theorem dX5_yearsWith_39 : decode cX5_yearsWith 39 = .ok (.iaload, 1) := by decide +kernel
theorem dX5_yearsWith_40 : decode cX5_yearsWith 40 = .ok (.i2l, 1) := by decide +kernel
theorem dX5_yearsWith_41 : decode cX5_yearsWith 41 = .ok (.invokestatic 68, 3) := by decide +kernel
theorem dX5_yearsWith_44 : decode cX5_yearsWith 44 = .ok (.i2l, 1) := by decide +kernel
theorem dX5_yearsWith_45 : decode cX5_yearsWith 45 = .ok (.ladd, 1) := by decide +kernel
theorem dX5_yearsWith_46 : decode cX5_yearsWith 46 = .ok (.lstore 4, 2) := by decide +kernel
theorem dX5_yearsWith_48 : decode cX5_yearsWith 48 = .ok (.iinc 6 1, 3) := by decide +kernel
theorem dX5_yearsWith_51 : decode cX5_yearsWith 51 = .ok (.goto (-45), 3) := by decide +kernel
theorem dX5_yearsWith_54 : decode cX5_yearsWith 54 = .ok (.lload 4, 2) := by decide +kernel
theorem dX5_yearsWith_56 : decode cX5_yearsWith 56 = .ok (.lreturn, 1) := by decide +kernel
set_option maxRecDepth 20000 in
theorem ggX5_tuneSegment_X5_yearsWith : GoodIn wsX5_tuneSegment wsX5_yearsWith := goodIn_r _ [6, 7, 8, 9, 10, 5, 11, 1, 12, 13, 14, 15, 19, 20, 21, 22, 23, 24, 25, 26, 27, 28, 29, 30] (by decide +kernel) (by decide +kernel)
set_option maxRecDepth 20000 in
theorem gX5_tuneSegment_X5_yearsWith : GoodIn wsX5_tuneSegment (wsV RX5 124 RX5 yX5_yearsWith wsX5_yearsWith) := goodIn_app (goodIn_of _ (by decide +kernel)) ggX5_tuneSegment_X5_yearsWith
set_option maxRecDepth 20000 in
theorem ggX5_tuneSegment_X5_size : GoodIn wsX5_tuneSegment wsX5_size := goodIn_r _ [18] (by decide +kernel) (by decide +kernel)
set_option maxRecDepth 20000 in
theorem gX5_tuneSegment_X5_size : GoodIn wsX5_tuneSegment (va_wsS RX5 96 yX5_size wsX5_size) := goodIn_app (goodIn_of _ (by decide +kernel)) ggX5_tuneSegment_X5_size
theorem dX5_tuneSegment_0 : decode cX5_tuneSegment 0 = .ok (.sipush 200, 3) := by decide +kernel
theorem dX5_tuneSegment_3 : decode cX5_tuneSegment 3 = .ok (.istore 5, 2) := by decide +kernel
theorem dX5_tuneSegment_5 : decode cX5_tuneSegment 5 = .ok (.aload_n 0, 1) := by decide +kernel
theorem dX5_tuneSegment_6 : decode cX5_tuneSegment 6 = .ok (.iload_n 1, 1) := by decide +kernel
theorem dX5_tuneSegment_7 : decode cX5_tuneSegment 7 = .ok (.iload_n 2, 1) := by decide +kernel
theorem dX5_tuneSegment_8 : decode cX5_tuneSegment 8 = .ok (.sipush 200, 3) := by decide +kernel
theorem dX5_tuneSegment_11 : decode cX5_tuneSegment 11 = .ok (.invokevirtual 124, 3) := by decide +kernel
theorem dX5_tuneSegment_14 : decode cX5_tuneSegment 14 = .ok (.lload_n 3, 1) := by decide +kernel
theorem dX5_tuneSegment_15 : decode cX5_tuneSegment 15 = .ok (.lsub, 1) := by decide +kernel
theorem dX5_tuneSegment_16 : decode cX5_tuneSegment 16 = .ok (.invokestatic 96, 3) := by decide +kernel
theorem dX5_tuneSegment_19 : decode cX5_tuneSegment 19 = .ok (.lstore 6, 2) := by decide +kernel
theorem dX5_tuneSegment_21 : decode cX5_tuneSegment 21 = .ok (.sipush 201, 3) := by decide +kernel
theorem dX5_tuneSegment_24 : decode cX5_tuneSegment 24 = .ok (.istore 8, 2) := by decide +kernel
theorem dX5_tuneSegment_26 : decode cX5_tuneSegment 26 = .ok (.iload 8, 2) := by decide +kernel
theorem dX5_tuneSegment_28 : decode cX5_tuneSegment 28 = .ok (.sipush 5000, 3) := by decide +kernel
theorem dX5_tuneSegment_31 : decode cX5_tuneSegment 31 = .ok (.if_icmp .gt 58, 3) := by decide +kernel
theorem dX5_tuneSegment_34 : decode cX5_tuneSegment 34 = .ok (.aload_n 0, 1) := by decide +kernel
theorem dX5_tuneSegment_35 : decode cX5_tuneSegment 35 = .ok (.iload_n 1, 1) := by decide +kernel
theorem dX5_tuneSegment_36 : decode cX5_tuneSegment 36 = .ok (.iload_n 2, 1) := by decide +kernel
theorem dX5_tuneSegment_37 : decode cX5_tuneSegment 37 = .ok (.iload 8, 2) := by decide +kernel
theorem dX5_tuneSegment_39 : decode cX5_tuneSegment 39 = .ok (.invokevirtual 124, 3) := by decide +kernel
theorem dX5_tuneSegment_42 : decode cX5_tuneSegment 42 = .ok (.lload_n 3, 1) := by decide +kernel
theorem dX5_tuneSegment_43 : decode cX5_tuneSegment 43 = .ok (.lsub, 1) := by decide +kernel
theorem dX5_tuneSegment_44 : decode cX5_tuneSegment 44 = .ok (.invokestatic 96, 3) := by decide +kernel
theorem dX5_tuneSegment_47 : decode cX5_tuneSegment 47 = .ok (.lstore 9, 2) := by decide +kernel
theorem dX5_tuneSegment_49 : decode cX5_tuneSegment 49 = .ok (.lload 9, 2) := by decide +kernel
theorem dX5_tuneSegment_51 : decode cX5_tuneSegment 51 = .ok (.lload 6, 2) := by decide +kernel
theorem dX5_tuneSegment_53 : decode cX5_tuneSegment 53 = .ok (.lcmp, 1) := by decide +kernel
theorem dX5_tuneSegment_54 : decode cX5_tuneSegment 54 = .ok (.ifCond .ge 8, 3) := by decide +kernel
theorem dX5_tuneSegment_57 : decode cX5_tuneSegment 57 = .ok (.iload 8, 2) := by decide +kernel
theorem dX5_tuneSegment_59 : decode cX5_tuneSegment 59 = .ok (.goto 5, 3) := by decide +kernel
theorem dX5_tuneSegment_62 : decode cX5_tuneSegment 62 = .ok (.iload 5, 2) := by decide +kernel
theorem dX5_tuneSegment_64 : decode cX5_tuneSegment 64 = .ok (.istore 5, 2) := by decide +kernel
theorem dX5_tuneSegment_66 : decode cX5_tuneSegment 66 = .ok (.lload 9, 2) := by decide +kernel
theorem dX5_tuneSegment_68 : decode cX5_tuneSegment 68 = .ok (.lload 6, 2) := by decide +kernel
theorem dX5_tuneSegment_70 : decode cX5_tuneSegment 70 = .ok (.lcmp, 1) := by decide +kernel
theorem dX5_tuneSegment_71 : decode cX5_tuneSegment 71 = .ok (.ifCond .ge 8, 3) := by decide +kernel
theorem dX5_tuneSegment_74 : decode cX5_tuneSegment 74 = .ok (.lload 9, 2) := by decide +kernel
theorem dX5_tuneSegment_76 : decode cX5_tuneSegment 76 = .ok (.goto 5, 3) := by decide +kernel
theorem dX5_tuneSegment_79 : decode cX5_tuneSegment 79 = .ok (.lload 6, 2) := by decide +kernel
theorem dX5_tuneSegment_81 : decode cX5_tuneSegment 81 = .ok (.lstore 6, 2) := by decide +kernel
theorem dX5_tuneSegment_83 : decode cX5_tuneSegment 83 = .ok (.iinc 8 1, 3) := by decide +kernel
theorem dX5_tuneSegment_86 : decode cX5_tuneSegment 86 = .ok (.goto (-60), 3) := by decide +kernel
theorem dX5_tuneSegment_89 : decode cX5_tuneSegment 89 = .ok (.iload_n 1, 1) := by decide +kernel
theorem dX5_tuneSegment_90 : decode cX5_tuneSegment 90 = .ok (.istore 8, 2) := by decide +kernel
theorem dX5_tuneSegment_92 : decode cX5_tuneSegment 92 = .ok (.iload 8, 2) := by decide +kernel
theorem dX5_tuneSegment_94 : decode cX5_tuneSegment 94 = .ok (.iload_n 2, 1) := by decide +kernel
theorem dX5_tuneSegment_95 : decode cX5_tuneSegment 95 = .ok (.if_icmp .gt 24, 3) := by decide +kernel
theorem dX5_tuneSegment_98 : decode cX5_tuneSegment 98 = .ok (.aload_n 0, 1) := by decide +kernel
theorem dX5_tuneSegment_99 : decode cX5_tuneSegment 99 = .ok (.getfield 7, 3) := by decide +kernel
theorem dX5_tuneSegment_102 : decode cX5_tuneSegment 102 = .ok (.bipush 8, 2) := by decide +kernel
theorem dX5_tuneSegment_104 : decode cX5_tuneSegment 104 = .ok (.iload 8, 2) := by decide +kernel
theorem dX5_tuneSegment_106 : decode cX5_tuneSegment 106 = .ok (.imul, 1) := by decide +kernel
theorem dX5_tuneSegment_107 : decode cX5_tuneSegment 107 = .ok (.bipush 7, 2) := by decide +kernel
theorem dX5_tuneSegment_109 : decode cX5_tuneSegment 109 = .ok (.iadd, 1) := by decide +kernel
theorem dX5_tuneSegment_110 : decode cX5_tuneSegment 110 = .ok (.iload 5, 2) := by decide +kernel
theorem dX5_tuneSegment_112 : decode cX5_tuneSegment 112 = .ok (.iastore, 1) := by decide +kernel
theorem dX5_tuneSegment_113 : decode cX5_tuneSegment 113 = .ok (.iinc 8 1, 3) := by decide +kernel
theorem dX5_tuneSegment_116 : decode cX5_tuneSegment 116 = .ok (.goto (-24), 3) := by decide +kernel
theorem dX5_tuneSegment_119 : decode cX5_tuneSegment 119 = .ok (.return_, 1) := by decide +kernel
set_option maxRecDepth 20000 in
theorem ggX5_canTune_X5_of : GoodIn wsX5_canTune wsX5_of := goodIn_r _ [6, 1, 11, 12, 13, 14, 15, 16, 17, 18, 19, 20, 21, 22] (by decide +kernel) (by decide +kernel)
set_option maxRecDepth 20000 in
theorem gX5_canTune_X5_of : GoodIn wsX5_canTune (wsV RX5 49 RX5 yX5_of wsX5_of) := goodIn_app (goodIn_of _ (by decide +kernel)) ggX5_canTune_X5_of
set_option maxRecDepth 20000 in
theorem ggX5_canTune_X5_ashes : GoodIn wsX5_canTune wsX5_ashes := goodIn_r _ [10, 1, 2, 3, 4, 5, 6, 11, 12, 13, 14, 15, 16, 17, 18, 19, 20, 21, 22] (by decide +kernel) (by decide +kernel)
set_option maxRecDepth 20000 in
theorem gX5_canTune_X5_ashes : GoodIn wsX5_canTune (wsV RX5 120 RX5 yX5_ashes wsX5_ashes) := goodIn_app (goodIn_of _ (by decide +kernel)) ggX5_canTune_X5_ashes
theorem dX5_canTune_0 : decode cX5_canTune 0 = .ok (.iconst 0, 1) := by decide +kernel
theorem dX5_canTune_1 : decode cX5_canTune 1 = .ok (.istore_n 1, 1) := by decide +kernel
theorem dX5_canTune_2 : decode cX5_canTune 2 = .ok (.iconst 0, 1) := by decide +kernel
theorem dX5_canTune_3 : decode cX5_canTune 3 = .ok (.istore_n 2, 1) := by decide +kernel
theorem dX5_canTune_4 : decode cX5_canTune 4 = .ok (.iload_n 2, 1) := by decide +kernel
theorem dX5_canTune_5 : decode cX5_canTune 5 = .ok (.aload_n 0, 1) := by decide +kernel
theorem dX5_canTune_6 : decode cX5_canTune 6 = .ok (.getfield 7, 3) := by decide +kernel
theorem dX5_canTune_9 : decode cX5_canTune 9 = .ok (.iconst 0, 1) := by decide +kernel
theorem dX5_canTune_10 : decode cX5_canTune 10 = .ok (.iaload, 1) := by decide +kernel
theorem dX5_canTune_11 : decode cX5_canTune 11 = .ok (.if_icmp .ge 41, 3) := by decide +kernel
theorem dX5_canTune_14 : decode cX5_canTune 14 = .ok (.aload_n 0, 1) := by decide +kernel
theorem dX5_canTune_15 : decode cX5_canTune 15 = .ok (.iload_n 2, 1) := by decide +kernel
theorem dX5_canTune_16 : decode cX5_canTune 16 = .ok (.bipush 9, 2) := by decide +kernel
theorem dX5_canTune_18 : decode cX5_canTune 18 = .ok (.invokevirtual 49, 3) := by decide +kernel
theorem dX5_canTune_21 : decode cX5_canTune 21 = .ok (.iconst 1, 1) := by decide +kernel
theorem dX5_canTune_22 : decode cX5_canTune 22 = .ok (.if_icmp .ne 24, 3) := by decide +kernel
theorem dX5_canTune_25 : decode cX5_canTune 25 = .ok (.aload_n 0, 1) := by decide +kernel
theorem dX5_canTune_26 : decode cX5_canTune 26 = .ok (.iload_n 2, 1) := by decide +kernel
theorem dX5_canTune_27 : decode cX5_canTune 27 = .ok (.bipush 10, 2) := by decide +kernel
theorem dX5_canTune_29 : decode cX5_canTune 29 = .ok (.invokevirtual 49, 3) := by decide +kernel
theorem dX5_canTune_32 : decode cX5_canTune 32 = .ok (.iload_n 1, 1) := by decide +kernel
theorem dX5_canTune_33 : decode cX5_canTune 33 = .ok (.if_icmp .ge 5, 3) := by decide +kernel
theorem dX5_canTune_36 : decode cX5_canTune 36 = .ok (.iconst 0, 1) := by decide +kernel
theorem dX5_canTune_37 : decode cX5_canTune 37 = .ok (.ireturn, 1) := by decide +kernel
theorem dX5_canTune_38 : decode cX5_canTune 38 = .ok (.aload_n 0, 1) := by decide +kernel
theorem dX5_canTune_39 : decode cX5_canTune 39 = .ok (.iload_n 2, 1) := by decide +kernel
theorem dX5_canTune_40 : decode cX5_canTune 40 = .ok (.bipush 10, 2) := by decide +kernel
theorem dX5_canTune_42 : decode cX5_canTune 42 = .ok (.invokevirtual 49, 3) := by decide +kernel
theorem dX5_canTune_45 : decode cX5_canTune 45 = .ok (.istore_n 1, 1) := by decide +kernel
theorem dX5_canTune_46 : decode cX5_canTune 46 = .ok (.iinc 2 1, 3) := by decide +kernel
theorem dX5_canTune_49 : decode cX5_canTune 49 = .ok (.goto (-45), 3) := by decide +kernel
theorem dX5_canTune_52 : decode cX5_canTune 52 = .ok (.aload_n 0, 1) := by decide +kernel
theorem dX5_canTune_53 : decode cX5_canTune 53 = .ok (.invokevirtual 120, 3) := by decide +kernel
theorem dX5_canTune_56 : decode cX5_canTune 56 = .ok (.ifCond .le 7, 3) := by decide +kernel
theorem dX5_canTune_59 : decode cX5_canTune 59 = .ok (.iconst 1, 1) := by decide +kernel
theorem dX5_canTune_60 : decode cX5_canTune 60 = .ok (.goto 4, 3) := by decide +kernel
theorem dX5_canTune_63 : decode cX5_canTune 63 = .ok (.iconst 0, 1) := by decide +kernel
theorem dX5_canTune_64 : decode cX5_canTune 64 = .ok (.ireturn, 1) := by decide +kernel
set_option maxRecDepth 20000 in
theorem ggX5_tune_X5_canTune : GoodIn wsX5_tune wsX5_canTune := goodIn_r _ [8, 2, 9, 10, 11, 7, 12, 13, 14, 15, 16, 67, 68, 69, 70, 71, 72, 73, 74, 75, 76, 77, 78] (by decide +kernel) (by decide +kernel)
set_option maxRecDepth 20000 in
theorem gX5_tune_X5_canTune : GoodIn wsX5_tune (wsV RX5 128 RX5 yX5_canTune wsX5_canTune) := goodIn_app (goodIn_of _ (by decide +kernel)) ggX5_tune_X5_canTune
set_option maxRecDepth 20000 in
theorem ggX5_tune_X5_record : GoodIn wsX5_tune wsX5_record := goodIn_r _ [20, 21, 22, 23, 24, 2, 67, 68, 69, 70, 71, 72, 73, 74, 75, 76, 77, 78] (by decide +kernel) (by decide +kernel)
set_option maxRecDepth 20000 in
theorem gX5_tune_X5_record : GoodIn wsX5_tune (wsV RX5 107 RX5 yX5_record wsX5_record) := goodIn_app (goodIn_of _ (by decide +kernel)) ggX5_tune_X5_record
set_option maxRecDepth 20000 in
theorem ggX5_tune_X5_thinningOf : GoodIn wsX5_tune wsX5_thinningOf := goodIn_r _ [28, 2, 29, 30, 31, 9, 10, 11, 7, 12, 32, 33, 34, 35, 67, 68, 69, 70, 71, 72, 73, 74, 75, 76, 77, 78] (by decide +kernel) (by decide +kernel)
set_option maxRecDepth 20000 in
theorem gX5_tune_X5_thinningOf : GoodIn wsX5_tune (wsV RX5 65 RX5 yX5_thinningOf wsX5_thinningOf) := goodIn_app (goodIn_of _ (by decide +kernel)) ggX5_tune_X5_thinningOf
set_option maxRecDepth 20000 in
theorem ggX5_tune_X5_of : GoodIn wsX5_tune wsX5_of := goodIn_r _ [12, 2, 67, 68, 69, 70, 71, 72, 73, 74, 75, 76, 77, 78] (by decide +kernel) (by decide +kernel)
set_option maxRecDepth 20000 in
theorem gX5_tune_X5_of : GoodIn wsX5_tune (wsV RX5 49 RX5 yX5_of wsX5_of) := goodIn_app (goodIn_of _ (by decide +kernel)) ggX5_tune_X5_of
set_option maxRecDepth 20000 in
theorem ggX5_tune_X5_tuneSegment : GoodIn wsX5_tune wsX5_tuneSegment := goodIn_r _ [39, 2, 40, 41, 42, 7, 43, 3, 9, 10, 11, 12, 44, 45, 46, 47, 48, 49, 50, 67, 68, 69, 70, 71, 72, 73, 74, 75, 76, 77, 78] (by decide +kernel) (by decide +kernel)
set_option maxRecDepth 20000 in
theorem gX5_tune_X5_tuneSegment : GoodIn wsX5_tune (wsV RX5 132 RX5 yX5_tuneSegment wsX5_tuneSegment) := goodIn_app (goodIn_of _ (by decide +kernel)) ggX5_tune_X5_tuneSegment
set_option maxRecDepth 20000 in
theorem ggX5_tune_X5_fits : GoodIn wsX5_tune wsX5_fits := goodIn_r _ [54, 2, 9, 10, 11, 7, 12, 55, 56, 57, 58, 59, 60, 61, 62, 63, 64, 65, 66, 25, 26, 27, 28, 29, 30, 31, 32, 33, 34, 35, 44, 45, 46, 47, 48, 49, 50, 67, 68, 69, 70, 71, 72, 73, 74, 75, 76, 77, 78] (by decide +kernel) (by decide +kernel)
set_option maxRecDepth 20000 in
theorem gX5_tune_X5_fits : GoodIn wsX5_tune (wsV RX5 136 RX5 yX5_fits wsX5_fits) := goodIn_app (goodIn_of _ (by decide +kernel)) ggX5_tune_X5_fits
theorem dX5_tune_0 : decode cX5_tune 0 = .ok (.aload_n 0, 1) := by decide +kernel
theorem dX5_tune_1 : decode cX5_tune 1 = .ok (.invokevirtual 128, 3) := by decide +kernel
theorem dX5_tune_4 : decode cX5_tune 4 = .ok (.ifCond .ne 6, 3) := by decide +kernel
theorem dX5_tune_7 : decode cX5_tune 7 = .ok (.ldc 105, 2) := by decide +kernel
theorem dX5_tune_9 : decode cX5_tune 9 = .ok (.ireturn, 1) := by decide +kernel
theorem dX5_tune_10 : decode cX5_tune 10 = .ok (.aload_n 0, 1) := by decide +kernel
theorem dX5_tune_11 : decode cX5_tune 11 = .ok (.invokevirtual 107, 3) := by decide +kernel
theorem dX5_tune_14 : decode cX5_tune 14 = .ok (.iconst 0, 1) := by decide +kernel
theorem dX5_tune_15 : decode cX5_tune 15 = .ok (.istore_n 1, 1) := by decide +kernel
theorem dX5_tune_16 : decode cX5_tune 16 = .ok (.iload_n 1, 1) := by decide +kernel
theorem dX5_tune_17 : decode cX5_tune 17 = .ok (.aload_n 0, 1) := by decide +kernel
theorem dX5_tune_18 : decode cX5_tune 18 = .ok (.getfield 7, 3) := by decide +kernel
theorem dX5_tune_21 : decode cX5_tune 21 = .ok (.iconst 0, 1) := by decide +kernel
theorem dX5_tune_22 : decode cX5_tune 22 = .ok (.iaload, 1) := by decide +kernel
theorem dX5_tune_23 : decode cX5_tune 23 = .ok (.if_icmp .ge 20, 3) := by decide +kernel
theorem dX5_tune_26 : decode cX5_tune 26 = .ok (.aload_n 0, 1) := by decide +kernel
theorem dX5_tune_27 : decode cX5_tune 27 = .ok (.getfield 16, 3) := by decide +kernel
theorem dX5_tune_30 : decode cX5_tune 30 = .ok (.iload_n 1, 1) := by decide +kernel
theorem dX5_tune_31 : decode cX5_tune 31 = .ok (.aload_n 0, 1) := by decide +kernel
theorem dX5_tune_32 : decode cX5_tune 32 = .ok (.iload_n 1, 1) := by decide +kernel
theorem dX5_tune_33 : decode cX5_tune 33 = .ok (.invokevirtual 65, 3) := by decide +kernel
theorem dX5_tune_36 : decode cX5_tune 36 = .ok (.iastore, 1) := by decide +kernel
theorem dX5_tune_37 : decode cX5_tune 37 = .ok (.iinc 1 1, 3) := by decide +kernel
theorem dX5_tune_40 : decode cX5_tune 40 = .ok (.goto (-24), 3) := by decide +kernel
theorem dX5_tune_43 : decode cX5_tune 43 = .ok (.iconst 0, 1) := by decide +kernel
theorem dX5_tune_44 : decode cX5_tune 44 = .ok (.istore_n 1, 1) := by decide +kernel
theorem dX5_tune_45 : decode cX5_tune 45 = .ok (.iconst 0, 1) := by decide +kernel
theorem dX5_tune_46 : decode cX5_tune 46 = .ok (.istore_n 2, 1) := by decide +kernel
theorem dX5_tune_47 : decode cX5_tune 47 = .ok (.iconst 0, 1) := by decide +kernel
theorem dX5_tune_48 : decode cX5_tune 48 = .ok (.istore_n 3, 1) := by decide +kernel
theorem dX5_tune_49 : decode cX5_tune 49 = .ok (.iload_n 3, 1) := by decide +kernel
theorem dX5_tune_50 : decode cX5_tune 50 = .ok (.aload_n 0, 1) := by decide +kernel
theorem dX5_tune_51 : decode cX5_tune 51 = .ok (.getfield 7, 3) := by decide +kernel
theorem dX5_tune_54 : decode cX5_tune 54 = .ok (.iconst 0, 1) := by decide +kernel
theorem dX5_tune_55 : decode cX5_tune 55 = .ok (.iaload, 1) := by decide +kernel
theorem dX5_tune_56 : decode cX5_tune 56 = .ok (.if_icmp .ge 48, 3) := by decide +kernel
theorem dX5_tune_59 : decode cX5_tune 59 = .ok (.aload_n 0, 1) := by decide +kernel
theorem dX5_tune_60 : decode cX5_tune 60 = .ok (.iload_n 3, 1) := by decide +kernel
theorem dX5_tune_61 : decode cX5_tune 61 = .ok (.bipush 9, 2) := by decide +kernel
theorem dX5_tune_63 : decode cX5_tune 63 = .ok (.invokevirtual 49, 3) := by decide +kernel
theorem dX5_tune_66 : decode cX5_tune 66 = .ok (.iconst 1, 1) := by decide +kernel
theorem dX5_tune_67 : decode cX5_tune 67 = .ok (.if_icmp .ne 31, 3) := by decide +kernel
theorem dX5_tune_70 : decode cX5_tune 70 = .ok (.aload_n 0, 1) := by decide +kernel
theorem dX5_tune_71 : decode cX5_tune 71 = .ok (.iload_n 1, 1) := by decide +kernel
theorem dX5_tune_72 : decode cX5_tune 72 = .ok (.iload_n 3, 1) := by decide +kernel
theorem dX5_tune_73 : decode cX5_tune 73 = .ok (.aload_n 0, 1) := by decide +kernel
theorem dX5_tune_74 : decode cX5_tune 74 = .ok (.iload_n 3, 1) := by decide +kernel
theorem dX5_tune_75 : decode cX5_tune 75 = .ok (.bipush 10, 2) := by decide +kernel
theorem dX5_tune_77 : decode cX5_tune 77 = .ok (.invokevirtual 49, 3) := by decide +kernel
theorem dX5_tune_80 : decode cX5_tune 80 = .ok (.iload_n 2, 1) := by decide +kernel
theorem dX5_tune_81 : decode cX5_tune 81 = .ok (.isub, 1) := by decide +kernel
theorem dX5_tune_82 : decode cX5_tune 82 = .ok (.i2l, 1) := by decide +kernel
theorem dX5_tune_83 : decode cX5_tune 83 = .ok (.invokevirtual 132, 3) := by decide +kernel
theorem dX5_tune_86 : decode cX5_tune 86 = .ok (.iload_n 3, 1) := by decide +kernel
theorem dX5_tune_87 : decode cX5_tune 87 = .ok (.iconst 1, 1) := by decide +kernel
theorem dX5_tune_88 : decode cX5_tune 88 = .ok (.iadd, 1) := by decide +kernel
theorem dX5_tune_89 : decode cX5_tune 89 = .ok (.istore_n 1, 1) := by decide +kernel
theorem dX5_tune_90 : decode cX5_tune 90 = .ok (.aload_n 0, 1) := by decide +kernel
theorem dX5_tune_91 : decode cX5_tune 91 = .ok (.iload_n 3, 1) := by decide +kernel
theorem dX5_tune_92 : decode cX5_tune 92 = .ok (.bipush 10, 2) := by decide +kernel
theorem dX5_tune_94 : decode cX5_tune 94 = .ok (.invokevirtual 49, 3) := by decide +kernel
theorem dX5_tune_97 : decode cX5_tune 97 = .ok (.istore_n 2, 1) := by decide +kernel
theorem dX5_tune_98 : decode cX5_tune 98 = .ok (.iinc 3 1, 3) := by decide +kernel
theorem dX5_tune_101 : decode cX5_tune 101 = .ok (.goto (-52), 3) := by decide +kernel
theorem dX5_tune_104 : decode cX5_tune 104 = .ok (.aload_n 0, 1) := by decide +kernel
theorem dX5_tune_105 : decode cX5_tune 105 = .ok (.invokevirtual 136, 3) := by decide +kernel
theorem dX5_tune_108 : decode cX5_tune 108 = .ok (.ireturn, 1) := by decide +kernel
set_option maxRecDepth 20000 in
theorem ggX5_type_X5_in : GoodIn wsX5_type wsX5_in := goodIn_r _ [8] (by decide +kernel) (by decide +kernel)
set_option maxRecDepth 20000 in
theorem gX5_type_X5_in : GoodIn wsX5_type (va_wsS RX5 35 yX5_in wsX5_in) := goodIn_app (goodIn_of _ (by decide +kernel)) ggX5_type_X5_in
theorem dX5_type_0 : decode cX5_type 0 = .ok (.iload_n 1, 1) := by decide +kernel
theorem dX5_type_1 : decode cX5_type 1 = .ok (.bipush 32, 2) := by decide +kernel
theorem dX5_type_3 : decode cX5_type 3 = .ok (.bipush 126, 2) := by decide +kernel
theorem dX5_type_5 : decode cX5_type 5 = .ok (.invokestatic 35, 3) := by decide +kernel
theorem dX5_type_8 : decode cX5_type 8 = .ok (.ifCond .ne 6, 3) := by decide +kernel
theorem dX5_type_11 : decode cX5_type 11 = .ok (.ldc 100, 2) := by decide +kernel
theorem dX5_type_13 : decode cX5_type 13 = .ok (.ireturn, 1) := by decide +kernel
theorem dX5_type_14 : decode cX5_type 14 = .ok (.aload_n 0, 1) := by decide +kernel
theorem dX5_type_15 : decode cX5_type 15 = .ok (.getfield 139, 3) := by decide +kernel
theorem dX5_type_18 : decode cX5_type 18 = .ok (.bipush 80, 2) := by decide +kernel
theorem dX5_type_20 : decode cX5_type 20 = .ok (.if_icmp .ne 6, 3) := by decide +kernel
theorem dX5_type_23 : decode cX5_type 23 = .ok (.ldc 106, 2) := by decide +kernel
theorem dX5_type_25 : decode cX5_type 25 = .ok (.ireturn, 1) := by decide +kernel
theorem dX5_type_26 : decode cX5_type 26 = .ok (.aload_n 0, 1) := by decide +kernel
theorem dX5_type_27 : decode cX5_type 27 = .ok (.getfield 19, 3) := by decide +kernel
theorem dX5_type_30 : decode cX5_type 30 = .ok (.aload_n 0, 1) := by decide +kernel
theorem dX5_type_31 : decode cX5_type 31 = .ok (.getfield 139, 3) := by decide +kernel
theorem dX5_type_34 : decode cX5_type 34 = .ok (.iload_n 1, 1) := by decide +kernel
theorem dX5_type_35 : decode cX5_type 35 = .ok (.iastore, 1) := by decide +kernel
theorem dX5_type_36 : decode cX5_type 36 = .ok (.aload_n 0, 1) := by decide +kernel
theorem dX5_type_37 : decode cX5_type 37 = .ok (.dup, 1) := by decide +kernel
theorem dX5_type_38 : decode cX5_type 38 = .ok (.getfield 139, 3) := by decide +kernel
theorem dX5_type_41 : decode cX5_type 41 = .ok (.iconst 1, 1) := by decide +kernel
theorem dX5_type_42 : decode cX5_type 42 = .ok (.iadd, 1) := by decide +kernel
theorem dX5_type_43 : decode cX5_type 43 = .ok (.putfield 139, 3) := by decide +kernel
theorem dX5_type_46 : decode cX5_type 46 = .ok (.aload_n 0, 1) := by decide +kernel
theorem dX5_type_47 : decode cX5_type 47 = .ok (.getfield 139, 3) := by decide +kernel
theorem dX5_type_50 : decode cX5_type 50 = .ok (.ireturn, 1) := by decide +kernel
theorem dX5_clearText_0 : decode cX5_clearText 0 = .ok (.aload_n 0, 1) := by decide +kernel
theorem dX5_clearText_1 : decode cX5_clearText 1 = .ok (.getfield 139, 3) := by decide +kernel
theorem dX5_clearText_4 : decode cX5_clearText 4 = .ok (.istore_n 1, 1) := by decide +kernel
theorem dX5_clearText_5 : decode cX5_clearText 5 = .ok (.aload_n 0, 1) := by decide +kernel
theorem dX5_clearText_6 : decode cX5_clearText 6 = .ok (.iconst 0, 1) := by decide +kernel
theorem dX5_clearText_7 : decode cX5_clearText 7 = .ok (.putfield 139, 3) := by decide +kernel
theorem dX5_clearText_10 : decode cX5_clearText 10 = .ok (.iload_n 1, 1) := by decide +kernel
theorem dX5_clearText_11 : decode cX5_clearText 11 = .ok (.ireturn, 1) := by decide +kernel
theorem dX5_word_0 : decode cX5_word 0 = .ok (.iload_n 0, 1) := by decide +kernel
theorem dX5_word_1 : decode cX5_word 1 = .ok (.i2l, 1) := by decide +kernel
theorem dX5_word_2 : decode cX5_word 2 = .ok (.lstore 6, 2) := by decide +kernel
theorem dX5_word_4 : decode cX5_word 4 = .ok (.iload_n 1, 1) := by decide +kernel
theorem dX5_word_5 : decode cX5_word 5 = .ok (.ifCond .ne 8, 3) := by decide +kernel
theorem dX5_word_8 : decode cX5_word 8 = .ok (.lload 6, 2) := by decide +kernel
theorem dX5_word_10 : decode cX5_word 10 = .ok (.goto 12, 3) := by decide +kernel
theorem dX5_word_13 : decode cX5_word 13 = .ok (.ldc2_w 142, 3) := by decide +kernel
theorem dX5_word_16 : decode cX5_word 16 = .ok (.lload 6, 2) := by decide +kernel
theorem dX5_word_18 : decode cX5_word 18 = .ok (.lmul, 1) := by decide +kernel
theorem dX5_word_19 : decode cX5_word 19 = .ok (.iload_n 1, 1) := by decide +kernel
theorem dX5_word_20 : decode cX5_word 20 = .ok (.i2l, 1) := by decide +kernel
theorem dX5_word_21 : decode cX5_word 21 = .ok (.ladd, 1) := by decide +kernel
theorem dX5_word_22 : decode cX5_word 22 = .ok (.lstore 6, 2) := by decide +kernel
theorem dX5_word_24 : decode cX5_word 24 = .ok (.iload_n 2, 1) := by decide +kernel
theorem dX5_word_25 : decode cX5_word 25 = .ok (.ifCond .ne 8, 3) := by decide +kernel
theorem dX5_word_28 : decode cX5_word 28 = .ok (.lload 6, 2) := by decide +kernel
theorem dX5_word_30 : decode cX5_word 30 = .ok (.goto 12, 3) := by decide +kernel
theorem dX5_word_33 : decode cX5_word 33 = .ok (.ldc2_w 142, 3) := by decide +kernel
theorem dX5_word_36 : decode cX5_word 36 = .ok (.lload 6, 2) := by decide +kernel
theorem dX5_word_38 : decode cX5_word 38 = .ok (.lmul, 1) := by decide +kernel
theorem dX5_word_39 : decode cX5_word 39 = .ok (.iload_n 2, 1) := by decide +kernel
theorem dX5_word_40 : decode cX5_word 40 = .ok (.i2l, 1) := by decide +kernel
theorem dX5_word_41 : decode cX5_word 41 = .ok (.ladd, 1) := by decide +kernel
theorem dX5_word_42 : decode cX5_word 42 = .ok (.lstore 6, 2) := by decide +kernel
theorem dX5_word_44 : decode cX5_word 44 = .ok (.iload_n 3, 1) := by decide +kernel
theorem dX5_word_45 : decode cX5_word 45 = .ok (.ifCond .ne 8, 3) := by decide +kernel
theorem dX5_word_48 : decode cX5_word 48 = .ok (.lload 6, 2) := by decide +kernel
theorem dX5_word_50 : decode cX5_word 50 = .ok (.goto 12, 3) := by decide +kernel
theorem dX5_word_53 : decode cX5_word 53 = .ok (.ldc2_w 142, 3) := by decide +kernel
theorem dX5_word_56 : decode cX5_word 56 = .ok (.lload 6, 2) := by decide +kernel
theorem dX5_word_58 : decode cX5_word 58 = .ok (.lmul, 1) := by decide +kernel
theorem dX5_word_59 : decode cX5_word 59 = .ok (.iload_n 3, 1) := by decide +kernel
theorem dX5_word_60 : decode cX5_word 60 = .ok (.i2l, 1) := by decide +kernel
theorem dX5_word_61 : decode cX5_word 61 = .ok (.ladd, 1) := by decide +kernel
theorem dX5_word_62 : decode cX5_word 62 = .ok (.lstore 6, 2) := by decide +kernel
theorem dX5_word_64 : decode cX5_word 64 = .ok (.iload 4, 2) := by decide +kernel
theorem dX5_word_66 : decode cX5_word 66 = .ok (.ifCond .ne 8, 3) := by decide +kernel
theorem dX5_word_69 : decode cX5_word 69 = .ok (.lload 6, 2) := by decide +kernel
theorem dX5_word_71 : decode cX5_word 71 = .ok (.goto 13, 3) := by decide +kernel
theorem dX5_word_74 : decode cX5_word 74 = .ok (.ldc2_w 142, 3) := by decide +kernel
theorem dX5_word_77 : decode cX5_word 77 = .ok (.lload 6, 2) := by decide +kernel
theorem dX5_word_79 : decode cX5_word 79 = .ok (.lmul, 1) := by decide +kernel
theorem dX5_word_80 : decode cX5_word 80 = .ok (.iload 4, 2) := by decide +kernel
theorem dX5_word_82 : decode cX5_word 82 = .ok (.i2l, 1) := by decide +kernel
theorem dX5_word_83 : decode cX5_word 83 = .ok (.ladd, 1) := by decide +kernel
theorem dX5_word_84 : decode cX5_word 84 = .ok (.lstore 6, 2) := by decide +kernel
theorem dX5_word_86 : decode cX5_word 86 = .ok (.iload 5, 2) := by decide +kernel
theorem dX5_word_88 : decode cX5_word 88 = .ok (.ifCond .ne 8, 3) := by decide +kernel
theorem dX5_word_91 : decode cX5_word 91 = .ok (.lload 6, 2) := by decide +kernel
theorem dX5_word_93 : decode cX5_word 93 = .ok (.goto 13, 3) := by decide +kernel
theorem dX5_word_96 : decode cX5_word 96 = .ok (.ldc2_w 142, 3) := by decide +kernel
theorem dX5_word_99 : decode cX5_word 99 = .ok (.lload 6, 2) := by decide +kernel
theorem dX5_word_101 : decode cX5_word 101 = .ok (.lmul, 1) := by decide +kernel
theorem dX5_word_102 : decode cX5_word 102 = .ok (.iload 5, 2) := by decide +kernel
theorem dX5_word_104 : decode cX5_word 104 = .ok (.i2l, 1) := by decide +kernel
theorem dX5_word_105 : decode cX5_word 105 = .ok (.ladd, 1) := by decide +kernel
theorem dX5_word_106 : decode cX5_word 106 = .ok (.lreturn, 1) := by decide +kernel
set_option maxRecDepth 20000 in
theorem ggX5_readWord_X5_in : GoodIn wsX5_readWord wsX5_in := goodIn_r _ [10] (by decide +kernel) (by decide +kernel)
set_option maxRecDepth 20000 in
theorem gX5_readWord_X5_in : GoodIn wsX5_readWord (va_wsS RX5 35 yX5_in wsX5_in) := goodIn_app (goodIn_of _ (by decide +kernel)) ggX5_readWord_X5_in
theorem dX5_readWord_0 : decode cX5_readWord 0 = .ok (.lconst 0, 1) := by decide +kernel
theorem dX5_readWord_1 : decode cX5_readWord 1 = .ok (.lstore_n 3, 1) := by decide +kernel
theorem dX5_readWord_2 : decode cX5_readWord 2 = .ok (.iconst 0, 1) := by decide +kernel
theorem dX5_readWord_3 : decode cX5_readWord 3 = .ok (.istore 5, 2) := by decide +kernel
theorem dX5_readWord_5 : decode cX5_readWord 5 = .ok (.iload_n 2, 1) := by decide +kernel
theorem dX5_readWord_6 : decode cX5_readWord 6 = .ok (.iload_n 1, 1) := by decide +kernel
theorem dX5_readWord_7 : decode cX5_readWord 7 = .ok (.isub, 1) := by decide +kernel
theorem dX5_readWord_8 : decode cX5_readWord 8 = .ok (.bipush 9, 2) := by decide +kernel
theorem dX5_readWord_10 : decode cX5_readWord 10 = .ok (.if_icmp .gt 7, 3) := by decide +kernel
theorem dX5_readWord_13 : decode cX5_readWord 13 = .ok (.iconst 1, 1) := by decide +kernel
theorem dX5_readWord_14 : decode cX5_readWord 14 = .ok (.goto 4, 3) := by decide +kernel
theorem dX5_readWord_17 : decode cX5_readWord 17 = .ok (.iconst 0, 1) := by decide +kernel
theorem dX5_readWord_18 : decode cX5_readWord 18 = .ok (.istore 6, 2) := by decide +kernel
theorem dX5_readWord_20 : decode cX5_readWord 20 = .ok (.iload_n 1, 1) := by decide +kernel
theorem dX5_readWord_21 : decode cX5_readWord 21 = .ok (.istore 7, 2) := by decide +kernel
theorem dX5_readWord_23 : decode cX5_readWord 23 = .ok (.iload 7, 2) := by decide +kernel
theorem dX5_readWord_25 : decode cX5_readWord 25 = .ok (.iload_n 2, 1) := by decide +kernel
theorem dX5_readWord_26 : decode cX5_readWord 26 = .ok (.if_icmp .ge 92, 3) := by decide +kernel
theorem dX5_readWord_29 : decode cX5_readWord 29 = .ok (.iload_n 2, 1) := by decide +kernel
theorem dX5_readWord_30 : decode cX5_readWord 30 = .ok (.iload_n 1, 1) := by decide +kernel
theorem dX5_readWord_31 : decode cX5_readWord 31 = .ok (.isub, 1) := by decide +kernel
theorem dX5_readWord_32 : decode cX5_readWord 32 = .ok (.bipush 8, 2) := by decide +kernel
theorem dX5_readWord_34 : decode cX5_readWord 34 = .ok (.if_icmp .le 7, 3) := by decide +kernel
theorem dX5_readWord_37 : decode cX5_readWord 37 = .ok (.lconst 0, 1) := by decide +kernel
theorem dX5_readWord_38 : decode cX5_readWord 38 = .ok (.goto 17, 3) := by decide +kernel
theorem dX5_readWord_41 : decode cX5_readWord 41 = .ok (.ldc2_w 142, 3) := by decide +kernel
theorem dX5_readWord_44 : decode cX5_readWord 44 = .ok (.lload_n 3, 1) := by decide +kernel
theorem dX5_readWord_45 : decode cX5_readWord 45 = .ok (.lmul, 1) := by decide +kernel
theorem dX5_readWord_46 : decode cX5_readWord 46 = .ok (.aload_n 0, 1) := by decide +kernel
theorem dX5_readWord_47 : decode cX5_readWord 47 = .ok (.getfield 19, 3) := by decide +kernel
theorem dX5_readWord_50 : decode cX5_readWord 50 = .ok (.iload 7, 2) := by decide +kernel
theorem dX5_readWord_52 : decode cX5_readWord 52 = .ok (.iaload, 1) := by decide +kernel
theorem dX5_readWord_53 : decode cX5_readWord 53 = .ok (.i2l, 1) := by decide +kernel
theorem dX5_readWord_54 : decode cX5_readWord 54 = .ok (.ladd, 1) := by decide +kernel
theorem dX5_readWord_55 : decode cX5_readWord 55 = .ok (.lstore_n 3, 1) := by decide +kernel
theorem dX5_readWord_56 : decode cX5_readWord 56 = .ok (.iload 6, 2) := by decide +kernel
theorem dX5_readWord_58 : decode cX5_readWord 58 = .ok (.ifCond .eq 24, 3) := by decide +kernel
theorem dX5_readWord_61 : decode cX5_readWord 61 = .ok (.aload_n 0, 1) := by decide +kernel
theorem dX5_readWord_62 : decode cX5_readWord 62 = .ok (.getfield 19, 3) := by decide +kernel
theorem dX5_readWord_65 : decode cX5_readWord 65 = .ok (.iload 7, 2) := by decide +kernel
theorem dX5_readWord_67 : decode cX5_readWord 67 = .ok (.iaload, 1) := by decide +kernel
theorem dX5_readWord_68 : decode cX5_readWord 68 = .ok (.bipush 48, 2) := by decide +kernel
theorem dX5_readWord_70 : decode cX5_readWord 70 = .ok (.bipush 57, 2) := by decide +kernel
theorem dX5_readWord_72 : decode cX5_readWord 72 = .ok (.invokestatic 35, 3) := by decide +kernel
theorem dX5_readWord_75 : decode cX5_readWord 75 = .ok (.ifCond .eq 7, 3) := by decide +kernel
theorem dX5_readWord_78 : decode cX5_readWord 78 = .ok (.iconst 1, 1) := by decide +kernel
theorem dX5_readWord_79 : decode cX5_readWord 79 = .ok (.goto 4, 3) := by decide +kernel
theorem dX5_readWord_82 : decode cX5_readWord 82 = .ok (.iconst 0, 1) := by decide +kernel
theorem dX5_readWord_83 : decode cX5_readWord 83 = .ok (.istore 6, 2) := by decide +kernel
theorem dX5_readWord_85 : decode cX5_readWord 85 = .ok (.iload 6, 2) := by decide +kernel
theorem dX5_readWord_87 : decode cX5_readWord 87 = .ok (.ifCond .eq 22, 3) := by decide +kernel
theorem dX5_readWord_90 : decode cX5_readWord 90 = .ok (.bipush 10, 2) := by decide +kernel
theorem dX5_readWord_92 : decode cX5_readWord 92 = .ok (.iload 5, 2) := by decide +kernel
theorem dX5_readWord_94 : decode cX5_readWord 94 = .ok (.imul, 1) := by decide +kernel
theorem dX5_readWord_95 : decode cX5_readWord 95 = .ok (.aload_n 0, 1) := by decide +kernel
theorem dX5_readWord_96 : decode cX5_readWord 96 = .ok (.getfield 19, 3) := by decide +kernel
theorem dX5_readWord_99 : decode cX5_readWord 99 = .ok (.iload 7, 2) := by decide +kernel
theorem dX5_readWord_101 : decode cX5_readWord 101 = .ok (.iaload, 1) := by decide +kernel
theorem dX5_readWord_102 : decode cX5_readWord 102 = .ok (.iadd, 1) := by decide +kernel
theorem dX5_readWord_103 : decode cX5_readWord 103 = .ok (.bipush 48, 2) := by decide +kernel
theorem dX5_readWord_105 : decode cX5_readWord 105 = .ok (.isub, 1) := by decide +kernel
theorem dX5_readWord_106 : decode cX5_readWord 106 = .ok (.goto 4, 3) := by decide +kernel
theorem dX5_readWord_109 : decode cX5_readWord 109 = .ok (.iconst 0, 1) := by decide +kernel
theorem dX5_readWord_110 : decode cX5_readWord 110 = .ok (.istore 5, 2) := by decide +kernel
theorem dX5_readWord_112 : decode cX5_readWord 112 = .ok (.iinc 7 1, 3) := by decide +kernel
theorem dX5_readWord_115 : decode cX5_readWord 115 = .ok (.goto (-92), 3) := by decide +kernel
theorem dX5_readWord_118 : decode cX5_readWord 118 = .ok (.aload_n 0, 1) := by decide +kernel
theorem dX5_readWord_119 : decode cX5_readWord 119 = .ok (.getfield 27, 3) := by decide +kernel
theorem dX5_readWord_122 : decode cX5_readWord 122 = .ok (.aload_n 0, 1) := by decide +kernel
theorem dX5_readWord_123 : decode cX5_readWord 123 = .ok (.getfield 144, 3) := by decide +kernel
theorem dX5_readWord_126 : decode cX5_readWord 126 = .ok (.lload_n 3, 1) := by decide +kernel
theorem dX5_readWord_127 : decode cX5_readWord 127 = .ok (.lastore, 1) := by decide +kernel
theorem dX5_readWord_128 : decode cX5_readWord 128 = .ok (.aload_n 0, 1) := by decide +kernel
theorem dX5_readWord_129 : decode cX5_readWord 129 = .ok (.getfield 31, 3) := by decide +kernel
theorem dX5_readWord_132 : decode cX5_readWord 132 = .ok (.aload_n 0, 1) := by decide +kernel
theorem dX5_readWord_133 : decode cX5_readWord 133 = .ok (.getfield 144, 3) := by decide +kernel
theorem dX5_readWord_136 : decode cX5_readWord 136 = .ok (.iload 6, 2) := by decide +kernel
theorem dX5_readWord_138 : decode cX5_readWord 138 = .ok (.ifCond .eq 8, 3) := by decide +kernel
theorem dX5_readWord_141 : decode cX5_readWord 141 = .ok (.iload 5, 2) := by decide +kernel
theorem dX5_readWord_143 : decode cX5_readWord 143 = .ok (.goto 5, 3) := by decide +kernel
theorem dX5_readWord_146 : decode cX5_readWord 146 = .ok (.ldc 22, 2) := by decide +kernel
theorem dX5_readWord_148 : decode cX5_readWord 148 = .ok (.iastore, 1) := by decide +kernel
theorem dX5_readWord_149 : decode cX5_readWord 149 = .ok (.aload_n 0, 1) := by decide +kernel
theorem dX5_readWord_150 : decode cX5_readWord 150 = .ok (.dup, 1) := by decide +kernel
theorem dX5_readWord_151 : decode cX5_readWord 151 = .ok (.getfield 144, 3) := by decide +kernel
theorem dX5_readWord_154 : decode cX5_readWord 154 = .ok (.iconst 1, 1) := by decide +kernel
theorem dX5_readWord_155 : decode cX5_readWord 155 = .ok (.iadd, 1) := by decide +kernel
theorem dX5_readWord_156 : decode cX5_readWord 156 = .ok (.putfield 144, 3) := by decide +kernel
theorem dX5_readWord_159 : decode cX5_readWord 159 = .ok (.return_, 1) := by decide +kernel
set_option maxRecDepth 20000 in
theorem ggX5_readCommand_X5_readWord : GoodIn wsX5_readCommand wsX5_readWord := goodIn_r _ [8, 9, 3, 10, 1, 11, 12, 13, 14, 7, 15, 16, 17, 18, 19, 20, 21, 22, 23, 24, 25, 26, 27] (by decide +kernel) (by decide +kernel)
set_option maxRecDepth 20000 in
theorem gX5_readCommand_X5_readWord : GoodIn wsX5_readCommand (wsV RX5 147 RX5 yX5_readWord wsX5_readWord) := goodIn_app (goodIn_of _ (by decide +kernel)) ggX5_readCommand_X5_readWord
theorem dX5_readCommand_0 : decode cX5_readCommand 0 = .ok (.aload_n 0, 1) := by decide +kernel
theorem dX5_readCommand_1 : decode cX5_readCommand 1 = .ok (.iconst 0, 1) := by decide +kernel
theorem dX5_readCommand_2 : decode cX5_readCommand 2 = .ok (.putfield 144, 3) := by decide +kernel
theorem dX5_readCommand_5 : decode cX5_readCommand 5 = .ok (.iload_n 1, 1) := by decide +kernel
theorem dX5_readCommand_6 : decode cX5_readCommand 6 = .ok (.istore_n 2, 1) := by decide +kernel
theorem dX5_readCommand_7 : decode cX5_readCommand 7 = .ok (.iload_n 2, 1) := by decide +kernel
theorem dX5_readCommand_8 : decode cX5_readCommand 8 = .ok (.aload_n 0, 1) := by decide +kernel
theorem dX5_readCommand_9 : decode cX5_readCommand 9 = .ok (.getfield 139, 3) := by decide +kernel
theorem dX5_readCommand_12 : decode cX5_readCommand 12 = .ok (.if_icmp .ge 80, 3) := by decide +kernel
theorem dX5_readCommand_15 : decode cX5_readCommand 15 = .ok (.aload_n 0, 1) := by decide +kernel
theorem dX5_readCommand_16 : decode cX5_readCommand 16 = .ok (.getfield 19, 3) := by decide +kernel
theorem dX5_readCommand_19 : decode cX5_readCommand 19 = .ok (.iload_n 2, 1) := by decide +kernel
theorem dX5_readCommand_20 : decode cX5_readCommand 20 = .ok (.iaload, 1) := by decide +kernel
theorem dX5_readCommand_21 : decode cX5_readCommand 21 = .ok (.bipush 59, 2) := by decide +kernel
theorem dX5_readCommand_23 : decode cX5_readCommand 23 = .ok (.if_icmp .eq 69, 3) := by decide +kernel
theorem dX5_readCommand_26 : decode cX5_readCommand 26 = .ok (.aload_n 0, 1) := by decide +kernel
theorem dX5_readCommand_27 : decode cX5_readCommand 27 = .ok (.getfield 19, 3) := by decide +kernel
theorem dX5_readCommand_30 : decode cX5_readCommand 30 = .ok (.iload_n 2, 1) := by decide +kernel
theorem dX5_readCommand_31 : decode cX5_readCommand 31 = .ok (.iaload, 1) := by decide +kernel
theorem dX5_readCommand_32 : decode cX5_readCommand 32 = .ok (.bipush 32, 2) := by decide +kernel
theorem dX5_readCommand_34 : decode cX5_readCommand 34 = .ok (.if_icmp .ne 9, 3) := by decide +kernel
theorem dX5_readCommand_37 : decode cX5_readCommand 37 = .ok (.iinc 2 1, 3) := by decide +kernel
theorem dX5_readCommand_40 : decode cX5_readCommand 40 = .ok (.goto (-33), 3) := by decide +kernel
theorem dX5_readCommand_43 : decode cX5_readCommand 43 = .ok (.iload_n 2, 1) := by decide +kernel
theorem dX5_readCommand_44 : decode cX5_readCommand 44 = .ok (.istore_n 3, 1) := by decide +kernel
theorem dX5_readCommand_45 : decode cX5_readCommand 45 = .ok (.iload_n 3, 1) := by decide +kernel
theorem dX5_readCommand_46 : decode cX5_readCommand 46 = .ok (.aload_n 0, 1) := by decide +kernel
theorem dX5_readCommand_47 : decode cX5_readCommand 47 = .ok (.getfield 139, 3) := by decide +kernel
theorem dX5_readCommand_50 : decode cX5_readCommand 50 = .ok (.if_icmp .ge 31, 3) := by decide +kernel
theorem dX5_readCommand_53 : decode cX5_readCommand 53 = .ok (.aload_n 0, 1) := by decide +kernel
theorem dX5_readCommand_54 : decode cX5_readCommand 54 = .ok (.getfield 19, 3) := by decide +kernel
theorem dX5_readCommand_57 : decode cX5_readCommand 57 = .ok (.iload_n 3, 1) := by decide +kernel
theorem dX5_readCommand_58 : decode cX5_readCommand 58 = .ok (.iaload, 1) := by decide +kernel
theorem dX5_readCommand_59 : decode cX5_readCommand 59 = .ok (.bipush 59, 2) := by decide +kernel
theorem dX5_readCommand_61 : decode cX5_readCommand 61 = .ok (.if_icmp .eq 20, 3) := by decide +kernel
theorem dX5_readCommand_64 : decode cX5_readCommand 64 = .ok (.aload_n 0, 1) := by decide +kernel
theorem dX5_readCommand_65 : decode cX5_readCommand 65 = .ok (.getfield 19, 3) := by decide +kernel
theorem dX5_readCommand_68 : decode cX5_readCommand 68 = .ok (.iload_n 3, 1) := by decide +kernel
theorem dX5_readCommand_69 : decode cX5_readCommand 69 = .ok (.iaload, 1) := by decide +kernel
theorem dX5_readCommand_70 : decode cX5_readCommand 70 = .ok (.bipush 32, 2) := by decide +kernel
theorem dX5_readCommand_72 : decode cX5_readCommand 72 = .ok (.if_icmp .eq 9, 3) := by decide +kernel
theorem dX5_readCommand_75 : decode cX5_readCommand 75 = .ok (.iinc 3 1, 3) := by decide +kernel
theorem dX5_readCommand_78 : decode cX5_readCommand 78 = .ok (.goto (-33), 3) := by decide +kernel
theorem dX5_readCommand_81 : decode cX5_readCommand 81 = .ok (.aload_n 0, 1) := by decide +kernel
theorem dX5_readCommand_82 : decode cX5_readCommand 82 = .ok (.iload_n 2, 1) := by decide +kernel
theorem dX5_readCommand_83 : decode cX5_readCommand 83 = .ok (.iload_n 3, 1) := by decide +kernel
theorem dX5_readCommand_84 : decode cX5_readCommand 84 = .ok (.invokevirtual 147, 3) := by decide +kernel
theorem dX5_readCommand_87 : decode cX5_readCommand 87 = .ok (.iload_n 3, 1) := by decide +kernel
theorem dX5_readCommand_88 : decode cX5_readCommand 88 = .ok (.istore_n 2, 1) := by decide +kernel
theorem dX5_readCommand_89 : decode cX5_readCommand 89 = .ok (.goto (-82), 3) := by decide +kernel
theorem dX5_readCommand_92 : decode cX5_readCommand 92 = .ok (.iload_n 2, 1) := by decide +kernel
theorem dX5_readCommand_93 : decode cX5_readCommand 93 = .ok (.ireturn, 1) := by decide +kernel
theorem dX5_hasNumbers_0 : decode cX5_hasNumbers 0 = .ok (.aload_n 0, 1) := by decide +kernel
theorem dX5_hasNumbers_1 : decode cX5_hasNumbers 1 = .ok (.getfield 144, 3) := by decide +kernel
theorem dX5_hasNumbers_4 : decode cX5_hasNumbers 4 = .ok (.iload_n 1, 1) := by decide +kernel
theorem dX5_hasNumbers_5 : decode cX5_hasNumbers 5 = .ok (.iconst 1, 1) := by decide +kernel
theorem dX5_hasNumbers_6 : decode cX5_hasNumbers 6 = .ok (.iadd, 1) := by decide +kernel
theorem dX5_hasNumbers_7 : decode cX5_hasNumbers 7 = .ok (.if_icmp .ne 7, 3) := by decide +kernel
theorem dX5_hasNumbers_10 : decode cX5_hasNumbers 10 = .ok (.iconst 1, 1) := by decide +kernel
theorem dX5_hasNumbers_11 : decode cX5_hasNumbers 11 = .ok (.goto 4, 3) := by decide +kernel
theorem dX5_hasNumbers_14 : decode cX5_hasNumbers 14 = .ok (.iconst 0, 1) := by decide +kernel
theorem dX5_hasNumbers_15 : decode cX5_hasNumbers 15 = .ok (.istore_n 2, 1) := by decide +kernel
theorem dX5_hasNumbers_16 : decode cX5_hasNumbers 16 = .ok (.iconst 1, 1) := by decide +kernel
theorem dX5_hasNumbers_17 : decode cX5_hasNumbers 17 = .ok (.istore_n 3, 1) := by decide +kernel
theorem dX5_hasNumbers_18 : decode cX5_hasNumbers 18 = .ok (.iload_n 3, 1) := by decide +kernel
theorem dX5_hasNumbers_19 : decode cX5_hasNumbers 19 = .ok (.iload_n 1, 1) := by decide +kernel
theorem dX5_hasNumbers_20 : decode cX5_hasNumbers 20 = .ok (.if_icmp .gt 30, 3) := by decide +kernel
theorem dX5_hasNumbers_23 : decode cX5_hasNumbers 23 = .ok (.iload_n 2, 1) := by decide +kernel
theorem dX5_hasNumbers_24 : decode cX5_hasNumbers 24 = .ok (.ifCond .eq 26, 3) := by decide +kernel
theorem dX5_hasNumbers_27 : decode cX5_hasNumbers 27 = .ok (.aload_n 0, 1) := by decide +kernel
theorem dX5_hasNumbers_28 : decode cX5_hasNumbers 28 = .ok (.getfield 31, 3) := by decide +kernel
theorem dX5_hasNumbers_31 : decode cX5_hasNumbers 31 = .ok (.iload_n 3, 1) := by decide +kernel
theorem dX5_hasNumbers_32 : decode cX5_hasNumbers 32 = .ok (.iaload, 1) := by decide +kernel
theorem dX5_hasNumbers_33 : decode cX5_hasNumbers 33 = .ok (.ldc 22, 2) := by decide +kernel
theorem dX5_hasNumbers_35 : decode cX5_hasNumbers 35 = .ok (.if_icmp .eq 7, 3) := by decide +kernel
theorem dX5_hasNumbers_38 : decode cX5_hasNumbers 38 = .ok (.iconst 1, 1) := by decide +kernel
theorem dX5_hasNumbers_39 : decode cX5_hasNumbers 39 = .ok (.goto 4, 3) := by decide +kernel
theorem dX5_hasNumbers_42 : decode cX5_hasNumbers 42 = .ok (.iconst 0, 1) := by decide +kernel
theorem dX5_hasNumbers_43 : decode cX5_hasNumbers 43 = .ok (.istore_n 2, 1) := by decide +kernel
theorem dX5_hasNumbers_44 : decode cX5_hasNumbers 44 = .ok (.iinc 3 1, 3) := by decide +kernel
theorem dX5_hasNumbers_47 : decode cX5_hasNumbers 47 = .ok (.goto (-29), 3) := by decide +kernel
theorem dX5_hasNumbers_50 : decode cX5_hasNumbers 50 = .ok (.iload_n 2, 1) := by decide +kernel
theorem dX5_hasNumbers_51 : decode cX5_hasNumbers 51 = .ok (.ireturn, 1) := by decide +kernel
set_option maxRecDepth 20000 in
theorem ggX5_use_X5_word : GoodIn wsX5_use wsX5_word := goodIn_r _ [7, 8] (by decide +kernel) (by decide +kernel)
set_option maxRecDepth 20000 in
theorem gX5_use_X5_word : GoodIn wsX5_use (va_wsS RX5 151 yX5_word wsX5_word) := goodIn_app (goodIn_of _ (by decide +kernel)) ggX5_use_X5_word
set_option maxRecDepth 20000 in
theorem ggX5_use_X5_setFunction : GoodIn wsX5_use wsX5_setFunction := goodIn_r _ [12, 13, 14, 15, 6, 16, 17, 18, 19, 20, 21, 22, 23, 24, 25, 26, 27, 28, 29, 34, 35, 36, 37, 38, 39, 40, 41, 42, 43, 44, 45] (by decide +kernel) (by decide +kernel)
set_option maxRecDepth 20000 in
theorem gX5_use_X5_setFunction : GoodIn wsX5_use (wsV RX5 155 RX5 yX5_setFunction wsX5_setFunction) := goodIn_app (goodIn_of _ (by decide +kernel)) ggX5_use_X5_setFunction
set_option maxRecDepth 20000 in
theorem ggX5_use_X5_outcome : GoodIn wsX5_use wsX5_outcome := goodIn_r _ [32, 33] (by decide +kernel) (by decide +kernel)
set_option maxRecDepth 20000 in
theorem gX5_use_X5_outcome : GoodIn wsX5_use (va_wsS RX5 158 yX5_outcome wsX5_outcome) := goodIn_app (goodIn_of _ (by decide +kernel)) ggX5_use_X5_outcome
theorem dX5_use_0 : decode cX5_use 0 = .ok (.aload_n 0, 1) := by decide +kernel
theorem dX5_use_1 : decode cX5_use 1 = .ok (.getfield 27, 3) := by decide +kernel
theorem dX5_use_4 : decode cX5_use 4 = .ok (.iconst 1, 1) := by decide +kernel
theorem dX5_use_5 : decode cX5_use 5 = .ok (.laload, 1) := by decide +kernel
theorem dX5_use_6 : decode cX5_use 6 = .ok (.bipush 108, 2) := by decide +kernel
theorem dX5_use_8 : decode cX5_use 8 = .ok (.bipush 105, 2) := by decide +kernel
theorem dX5_use_10 : decode cX5_use 10 = .ok (.bipush 110, 2) := by decide +kernel
theorem dX5_use_12 : decode cX5_use 12 = .ok (.bipush 101, 2) := by decide +kernel
theorem dX5_use_14 : decode cX5_use 14 = .ok (.bipush 97, 2) := by decide +kernel
theorem dX5_use_16 : decode cX5_use 16 = .ok (.bipush 114, 2) := by decide +kernel
theorem dX5_use_18 : decode cX5_use 18 = .ok (.invokestatic 151, 3) := by decide +kernel
theorem dX5_use_21 : decode cX5_use 21 = .ok (.lcmp, 1) := by decide +kernel
theorem dX5_use_22 : decode cX5_use 22 = .ok (.ifCond .ne 7, 3) := by decide +kernel
theorem dX5_use_25 : decode cX5_use 25 = .ok (.iconst 0, 1) := by decide +kernel
theorem dX5_use_26 : decode cX5_use 26 = .ok (.goto 61, 3) := by decide +kernel
theorem dX5_use_29 : decode cX5_use 29 = .ok (.aload_n 0, 1) := by decide +kernel
theorem dX5_use_30 : decode cX5_use 30 = .ok (.getfield 27, 3) := by decide +kernel
theorem dX5_use_33 : decode cX5_use 33 = .ok (.iconst 1, 1) := by decide +kernel
theorem dX5_use_34 : decode cX5_use 34 = .ok (.laload, 1) := by decide +kernel
theorem dX5_use_35 : decode cX5_use 35 = .ok (.bipush 107, 2) := by decide +kernel
theorem dX5_use_37 : decode cX5_use 37 = .ok (.bipush 105, 2) := by decide +kernel
theorem dX5_use_39 : decode cX5_use 39 = .ok (.bipush 110, 2) := by decide +kernel
theorem dX5_use_41 : decode cX5_use 41 = .ok (.bipush 107, 2) := by decide +kernel
theorem dX5_use_43 : decode cX5_use 43 = .ok (.bipush 101, 2) := by decide +kernel
theorem dX5_use_45 : decode cX5_use 45 = .ok (.bipush 100, 2) := by decide +kernel
theorem dX5_use_47 : decode cX5_use 47 = .ok (.invokestatic 151, 3) := by decide +kernel
theorem dX5_use_50 : decode cX5_use 50 = .ok (.lcmp, 1) := by decide +kernel
theorem dX5_use_51 : decode cX5_use 51 = .ok (.ifCond .ne 7, 3) := by decide +kernel
theorem dX5_use_54 : decode cX5_use 54 = .ok (.iconst 1, 1) := by decide +kernel
theorem dX5_use_55 : decode cX5_use 55 = .ok (.goto 32, 3) := by decide +kernel
theorem dX5_use_58 : decode cX5_use 58 = .ok (.aload_n 0, 1) := by decide +kernel
theorem dX5_use_59 : decode cX5_use 59 = .ok (.getfield 27, 3) := by decide +kernel
theorem dX5_use_62 : decode cX5_use 62 = .ok (.iconst 1, 1) := by decide +kernel
theorem dX5_use_63 : decode cX5_use 63 = .ok (.laload, 1) := by decide +kernel
theorem dX5_use_64 : decode cX5_use 64 = .ok (.bipush 116, 2) := by decide +kernel
theorem dX5_use_66 : decode cX5_use 66 = .ok (.bipush 111, 2) := by decide +kernel
theorem dX5_use_68 : decode cX5_use 68 = .ok (.bipush 108, 2) := by decide +kernel
theorem dX5_use_70 : decode cX5_use 70 = .ok (.bipush 100, 2) := by decide +kernel
theorem dX5_use_72 : decode cX5_use 72 = .ok (.iconst 0, 1) := by decide +kernel
theorem dX5_use_73 : decode cX5_use 73 = .ok (.iconst 0, 1) := by decide +kernel
theorem dX5_use_74 : decode cX5_use 74 = .ok (.invokestatic 151, 3) := by decide +kernel
theorem dX5_use_77 : decode cX5_use 77 = .ok (.lcmp, 1) := by decide +kernel
theorem dX5_use_78 : decode cX5_use 78 = .ok (.ifCond .ne 7, 3) := by decide +kernel
theorem dX5_use_81 : decode cX5_use 81 = .ok (.iconst 2, 1) := by decide +kernel
theorem dX5_use_82 : decode cX5_use 82 = .ok (.goto 5, 3) := by decide +kernel
theorem dX5_use_85 : decode cX5_use 85 = .ok (.ldc 22, 2) := by decide +kernel
theorem dX5_use_87 : decode cX5_use 87 = .ok (.istore_n 1, 1) := by decide +kernel
theorem dX5_use_88 : decode cX5_use 88 = .ok (.aload_n 0, 1) := by decide +kernel
theorem dX5_use_89 : decode cX5_use 89 = .ok (.getfield 144, 3) := by decide +kernel
theorem dX5_use_92 : decode cX5_use 92 = .ok (.iconst 2, 1) := by decide +kernel
theorem dX5_use_93 : decode cX5_use 93 = .ok (.if_icmp .ne 9, 3) := by decide +kernel
theorem dX5_use_96 : decode cX5_use 96 = .ok (.iload_n 1, 1) := by decide +kernel
theorem dX5_use_97 : decode cX5_use 97 = .ok (.ldc 22, 2) := by decide +kernel
theorem dX5_use_99 : decode cX5_use 99 = .ok (.if_icmp .ne 7, 3) := by decide +kernel
theorem dX5_use_102 : decode cX5_use 102 = .ok (.iconst 1, 1) := by decide +kernel
theorem dX5_use_103 : decode cX5_use 103 = .ok (.goto 11, 3) := by decide +kernel
theorem dX5_use_106 : decode cX5_use 106 = .ok (.aload_n 0, 1) := by decide +kernel
theorem dX5_use_107 : decode cX5_use 107 = .ok (.iload_n 1, 1) := by decide +kernel
theorem dX5_use_108 : decode cX5_use 108 = .ok (.invokevirtual 155, 3) := by decide +kernel
theorem dX5_use_111 : decode cX5_use 111 = .ok (.invokestatic 158, 3) := by decide +kernel
theorem dX5_use_114 : decode cX5_use 114 = .ok (.ireturn, 1) := by decide +kernel
theorem dX5_outcome_0 : decode cX5_outcome 0 = .ok (.iload_n 0, 1) := by decide +kernel
theorem dX5_outcome_1 : decode cX5_outcome 1 = .ok (.ldc 114, 2) := by decide +kernel
theorem dX5_outcome_3 : decode cX5_outcome 3 = .ok (.if_icmp .gt 7, 3) := by decide +kernel
theorem dX5_outcome_6 : decode cX5_outcome 6 = .ok (.iload_n 0, 1) := by decide +kernel
theorem dX5_outcome_7 : decode cX5_outcome 7 = .ok (.goto 4, 3) := by decide +kernel
theorem dX5_outcome_10 : decode cX5_outcome 10 = .ok (.iconst 0, 1) := by decide +kernel
theorem dX5_outcome_11 : decode cX5_outcome 11 = .ok (.ireturn, 1) := by decide +kernel
set_option maxRecDepth 20000 in
theorem ggX5_perform_X5_word : GoodIn wsX5_perform wsX5_word := goodIn_r _ [7, 8] (by decide +kernel) (by decide +kernel)
set_option maxRecDepth 20000 in
theorem gX5_perform_X5_word : GoodIn wsX5_perform (va_wsS RX5 151 yX5_word wsX5_word) := goodIn_app (goodIn_of _ (by decide +kernel)) ggX5_perform_X5_word
set_option maxRecDepth 20000 in
theorem ggX5_perform_X5_hasNumbers : GoodIn wsX5_perform wsX5_hasNumbers := goodIn_r _ [12, 1, 3, 13, 143, 144, 145, 146, 147, 148, 149, 150, 151, 152, 153, 154] (by decide +kernel) (by decide +kernel)
set_option maxRecDepth 20000 in
theorem gX5_perform_X5_hasNumbers : GoodIn wsX5_perform (wsV RX5 161 RX5 yX5_hasNumbers wsX5_hasNumbers) := goodIn_app (goodIn_of _ (by decide +kernel)) ggX5_perform_X5_hasNumbers
set_option maxRecDepth 20000 in
theorem ggX5_perform_X5_addLayer : GoodIn wsX5_perform wsX5_addLayer := goodIn_r _ [17, 18, 19, 20, 21, 22, 23, 6, 24, 25, 26, 27, 28, 29, 30, 31, 32, 33, 34, 35, 36, 37, 38, 39, 40, 41, 42, 43, 44, 143, 144, 145, 146, 147, 148, 149, 150, 151, 152, 153, 154] (by decide +kernel) (by decide +kernel)
set_option maxRecDepth 20000 in
theorem gX5_perform_X5_addLayer : GoodIn wsX5_perform (wsV RX5 164 RX5 yX5_addLayer wsX5_addLayer) := goodIn_app (goodIn_of _ (by decide +kernel)) ggX5_perform_X5_addLayer
set_option maxRecDepth 20000 in
theorem ggX5_perform_X5_outcome : GoodIn wsX5_perform wsX5_outcome := goodIn_r _ [47, 48] (by decide +kernel) (by decide +kernel)
set_option maxRecDepth 20000 in
theorem gX5_perform_X5_outcome : GoodIn wsX5_perform (va_wsS RX5 158 yX5_outcome wsX5_outcome) := goodIn_app (goodIn_of _ (by decide +kernel)) ggX5_perform_X5_outcome
set_option maxRecDepth 20000 in
theorem ggX5_perform_X5_setAsh : GoodIn wsX5_perform wsX5_setAsh := goodIn_r _ [52, 48, 53, 18, 19, 54, 55, 56, 6, 57, 22, 23, 24, 37, 38, 39, 40, 41, 42, 43, 44, 58, 59, 60, 61, 33, 34, 35, 36, 143, 144, 145, 146, 147, 148, 149, 150, 151, 152, 153, 154] (by decide +kernel) (by decide +kernel)
set_option maxRecDepth 20000 in
theorem gX5_perform_X5_setAsh : GoodIn wsX5_perform (wsV RX5 167 RX5 yX5_setAsh wsX5_setAsh) := goodIn_app (goodIn_of _ (by decide +kernel)) ggX5_perform_X5_setAsh
set_option maxRecDepth 20000 in
theorem ggX5_perform_X5_setCount : GoodIn wsX5_perform wsX5_setCount := goodIn_r _ [65, 48, 66, 18, 19, 54, 55, 56, 6, 57, 22, 23, 24, 37, 38, 39, 40, 41, 42, 43, 44, 67, 68, 69, 70, 33, 34, 35, 36, 71, 72, 73, 74, 75, 76, 77, 29, 30, 31, 32, 78, 79, 80, 81, 143, 144, 145, 146, 147, 148, 149, 150, 151, 152, 153, 154] (by decide +kernel) (by decide +kernel)
set_option maxRecDepth 20000 in
theorem gX5_perform_X5_setCount : GoodIn wsX5_perform (wsV RX5 170 RX5 yX5_setCount wsX5_setCount) := goodIn_app (goodIn_of _ (by decide +kernel)) ggX5_perform_X5_setCount
set_option maxRecDepth 20000 in
theorem ggX5_perform_X5_correct : GoodIn wsX5_perform wsX5_correct := goodIn_r _ [85, 48, 18, 54, 55, 56, 6, 57, 19, 22, 23, 24, 86, 87, 88, 89, 37, 38, 39, 40, 41, 42, 43, 44, 143, 144, 145, 146, 147, 148, 149, 150, 151, 152, 153, 154] (by decide +kernel) (by decide +kernel)
set_option maxRecDepth 20000 in
theorem gX5_perform_X5_correct : GoodIn wsX5_perform (wsV RX5 173 RX5 yX5_correct wsX5_correct) := goodIn_app (goodIn_of _ (by decide +kernel)) ggX5_perform_X5_correct
set_option maxRecDepth 20000 in
theorem ggX5_perform_X5_setBed : GoodIn wsX5_perform wsX5_setBed := goodIn_r _ [93, 94, 18, 20, 22, 23, 6, 24, 25, 26, 27, 28, 19, 29, 30, 31, 32, 33, 34, 35, 36, 86, 87, 88, 89, 37, 38, 39, 40, 41, 42, 43, 44, 143, 144, 145, 146, 147, 148, 149, 150, 151, 152, 153, 154] (by decide +kernel) (by decide +kernel)
set_option maxRecDepth 20000 in
theorem gX5_perform_X5_setBed : GoodIn wsX5_perform (wsV RX5 176 RX5 yX5_setBed wsX5_setBed) := goodIn_app (goodIn_of _ (by decide +kernel)) ggX5_perform_X5_setBed
set_option maxRecDepth 20000 in
theorem ggX5_perform_X5_setKink : GoodIn wsX5_perform wsX5_setKink := goodIn_r _ [98, 18, 22, 23, 6, 24, 86, 87, 88, 89, 19, 37, 38, 39, 40, 41, 42, 43, 44, 143, 144, 145, 146, 147, 148, 149, 150, 151, 152, 153, 154] (by decide +kernel) (by decide +kernel)
set_option maxRecDepth 20000 in
theorem gX5_perform_X5_setKink : GoodIn wsX5_perform (wsV RX5 179 RX5 yX5_setKink wsX5_setKink) := goodIn_app (goodIn_of _ (by decide +kernel)) ggX5_perform_X5_setKink
set_option maxRecDepth 20000 in
theorem ggX5_perform_X5_setCloseOff : GoodIn wsX5_perform wsX5_setCloseOff := goodIn_r _ [102, 18, 22, 23, 6, 24, 86, 87, 88, 89, 19, 37, 38, 39, 40, 41, 42, 43, 44, 143, 144, 145, 146, 147, 148, 149, 150, 151, 152, 153, 154] (by decide +kernel) (by decide +kernel)
set_option maxRecDepth 20000 in
theorem gX5_perform_X5_setCloseOff : GoodIn wsX5_perform (wsV RX5 182 RX5 yX5_setCloseOff wsX5_setCloseOff) := goodIn_app (goodIn_of _ (by decide +kernel)) ggX5_perform_X5_setCloseOff
set_option maxRecDepth 20000 in
theorem ggX5_perform_X5_use : GoodIn wsX5_perform wsX5_use := goodIn_r _ [106, 2, 13, 1, 4, 5, 6, 7, 8, 107, 108, 109, 110, 18, 22, 23, 24, 86, 87, 88, 89, 19, 37, 38, 39, 40, 41, 42, 43, 44, 45, 46, 47, 48, 143, 144, 145, 146, 147, 148, 149, 150, 151, 152, 153, 154] (by decide +kernel) (by decide +kernel)
set_option maxRecDepth 20000 in
theorem gX5_perform_X5_use : GoodIn wsX5_perform (wsV RX5 185 RX5 yX5_use wsX5_use) := goodIn_app (goodIn_of _ (by decide +kernel)) ggX5_perform_X5_use
set_option maxRecDepth 20000 in
theorem ggX5_perform_X5_tune : GoodIn wsX5_perform wsX5_tune := goodIn_r _ [114, 20, 19, 115, 116, 117, 118, 6, 119, 33, 34, 35, 36, 58, 59, 60, 61, 37, 38, 39, 40, 41, 42, 43, 44, 71, 72, 73, 74, 75, 76, 77, 29, 30, 31, 32, 120, 121, 122, 123, 124, 125, 126, 127, 78, 79, 80, 81, 128, 129, 130, 131, 132, 133, 134, 135, 136, 137, 138, 139, 140, 141, 142, 67, 68, 69, 70, 143, 144, 145, 146, 147, 148, 149, 150, 151, 152, 153, 154] (by decide +kernel) (by decide +kernel)
set_option maxRecDepth 20000 in
theorem gX5_perform_X5_tune : GoodIn wsX5_perform (wsV RX5 188 RX5 yX5_tune wsX5_tune) := goodIn_app (goodIn_of _ (by decide +kernel)) ggX5_perform_X5_tune
theorem dX5_perform_0 : decode cX5_perform 0 = .ok (.aload_n 0, 1) := by decide +kernel
theorem dX5_perform_1 : decode cX5_perform 1 = .ok (.getfield 144, 3) := by decide +kernel
theorem dX5_perform_4 : decode cX5_perform 4 = .ok (.ifCond .ne 7, 3) := by decide +kernel
theorem dX5_perform_7 : decode cX5_perform 7 = .ok (.lconst 0, 1) := by decide +kernel
theorem dX5_perform_8 : decode cX5_perform 8 = .ok (.goto 9, 3) := by decide +kernel
theorem dX5_perform_11 : decode cX5_perform 11 = .ok (.aload_n 0, 1) := by decide +kernel
theorem dX5_perform_12 : decode cX5_perform 12 = .ok (.getfield 27, 3) := by decide +kernel
theorem dX5_perform_15 : decode cX5_perform 15 = .ok (.iconst 0, 1) := by decide +kernel
theorem dX5_perform_16 : decode cX5_perform 16 = .ok (.laload, 1) := by decide +kernel
theorem dX5_perform_17 : decode cX5_perform 17 = .ok (.lstore_n 1, 1) := by decide +kernel
theorem dX5_perform_18 : decode cX5_perform 18 = .ok (.lload_n 1, 1) := by decide +kernel
theorem dX5_perform_19 : decode cX5_perform 19 = .ok (.bipush 108, 2) := by decide +kernel
theorem dX5_perform_21 : decode cX5_perform 21 = .ok (.bipush 97, 2) := by decide +kernel
theorem dX5_perform_23 : decode cX5_perform 23 = .ok (.bipush 121, 2) := by decide +kernel
theorem dX5_perform_25 : decode cX5_perform 25 = .ok (.bipush 101, 2) := by decide +kernel
theorem dX5_perform_27 : decode cX5_perform 27 = .ok (.bipush 114, 2) := by decide +kernel
theorem dX5_perform_29 : decode cX5_perform 29 = .ok (.iconst 0, 1) := by decide +kernel
theorem dX5_perform_30 : decode cX5_perform 30 = .ok (.invokestatic 151, 3) := by decide +kernel
theorem dX5_perform_33 : decode cX5_perform 33 = .ok (.lcmp, 1) := by decide +kernel
theorem dX5_perform_34 : decode cX5_perform 34 = .ok (.ifCond .ne 35, 3) := by decide +kernel
theorem dX5_perform_37 : decode cX5_perform 37 = .ok (.aload_n 0, 1) := by decide +kernel
theorem dX5_perform_38 : decode cX5_perform 38 = .ok (.iconst 2, 1) := by decide +kernel
theorem dX5_perform_39 : decode cX5_perform 39 = .ok (.invokevirtual 161, 3) := by decide +kernel
theorem dX5_perform_42 : decode cX5_perform 42 = .ok (.ifCond .eq 25, 3) := by decide +kernel
theorem dX5_perform_45 : decode cX5_perform 45 = .ok (.aload_n 0, 1) := by decide +kernel
theorem dX5_perform_46 : decode cX5_perform 46 = .ok (.aload_n 0, 1) := by decide +kernel
theorem dX5_perform_47 : decode cX5_perform 47 = .ok (.getfield 31, 3) := by decide +kernel
theorem dX5_perform_50 : decode cX5_perform 50 = .ok (.iconst 1, 1) := by decide +kernel
theorem dX5_perform_51 : decode cX5_perform 51 = .ok (.iaload, 1) := by decide +kernel
theorem dX5_perform_52 : decode cX5_perform 52 = .ok (.aload_n 0, 1) := by decide +kernel
theorem dX5_perform_53 : decode cX5_perform 53 = .ok (.getfield 31, 3) := by decide +kernel
theorem dX5_perform_56 : decode cX5_perform 56 = .ok (.iconst 2, 1) := by decide +kernel
theorem dX5_perform_57 : decode cX5_perform 57 = .ok (.iaload, 1) := by decide +kernel
theorem dX5_perform_58 : decode cX5_perform 58 = .ok (.invokevirtual 164, 3) := by decide +kernel
theorem dX5_perform_61 : decode cX5_perform 61 = .ok (.invokestatic 158, 3) := by decide +kernel
theorem dX5_perform_64 : decode cX5_perform 64 = .ok (.goto 4, 3) := by decide +kernel
theorem dX5_perform_67 : decode cX5_perform 67 = .ok (.iconst 1, 1) := by decide +kernel
theorem dX5_perform_68 : decode cX5_perform 68 = .ok (.ireturn, 1) := by decide +kernel
theorem dX5_perform_69 : decode cX5_perform 69 = .ok (.lload_n 1, 1) := by decide +kernel
theorem dX5_perform_70 : decode cX5_perform 70 = .ok (.bipush 97, 2) := by decide +kernel
theorem dX5_perform_72 : decode cX5_perform 72 = .ok (.bipush 115, 2) := by decide +kernel
theorem dX5_perform_74 : decode cX5_perform 74 = .ok (.bipush 104, 2) := by decide +kernel
theorem dX5_perform_76 : decode cX5_perform 76 = .ok (.iconst 0, 1) := by decide +kernel
theorem dX5_perform_77 : decode cX5_perform 77 = .ok (.iconst 0, 1) := by decide +kernel
theorem dX5_perform_78 : decode cX5_perform 78 = .ok (.iconst 0, 1) := by decide +kernel
theorem dX5_perform_79 : decode cX5_perform 79 = .ok (.invokestatic 151, 3) := by decide +kernel
theorem dX5_perform_82 : decode cX5_perform 82 = .ok (.lcmp, 1) := by decide +kernel
theorem dX5_perform_83 : decode cX5_perform 83 = .ok (.ifCond .ne 41, 3) := by decide +kernel
theorem dX5_perform_86 : decode cX5_perform 86 = .ok (.aload_n 0, 1) := by decide +kernel
theorem dX5_perform_87 : decode cX5_perform 87 = .ok (.iconst 3, 1) := by decide +kernel
theorem dX5_perform_88 : decode cX5_perform 88 = .ok (.invokevirtual 161, 3) := by decide +kernel
theorem dX5_perform_91 : decode cX5_perform 91 = .ok (.ifCond .eq 31, 3) := by decide +kernel
theorem dX5_perform_94 : decode cX5_perform 94 = .ok (.aload_n 0, 1) := by decide +kernel
theorem dX5_perform_95 : decode cX5_perform 95 = .ok (.aload_n 0, 1) := by decide +kernel
theorem dX5_perform_96 : decode cX5_perform 96 = .ok (.getfield 31, 3) := by decide +kernel
theorem dX5_perform_99 : decode cX5_perform 99 = .ok (.iconst 1, 1) := by decide +kernel
theorem dX5_perform_100 : decode cX5_perform 100 = .ok (.iaload, 1) := by decide +kernel
theorem dX5_perform_101 : decode cX5_perform 101 = .ok (.aload_n 0, 1) := by decide +kernel
theorem dX5_perform_102 : decode cX5_perform 102 = .ok (.getfield 31, 3) := by decide +kernel
theorem dX5_perform_105 : decode cX5_perform 105 = .ok (.iconst 2, 1) := by decide +kernel
theorem dX5_perform_106 : decode cX5_perform 106 = .ok (.iaload, 1) := by decide +kernel
theorem dX5_perform_107 : decode cX5_perform 107 = .ok (.aload_n 0, 1) := by decide +kernel
theorem dX5_perform_108 : decode cX5_perform 108 = .ok (.getfield 31, 3) := by decide +kernel
theorem dX5_perform_111 : decode cX5_perform 111 = .ok (.iconst 3, 1) := by decide +kernel
theorem dX5_perform_112 : decode cX5_perform 112 = .ok (.iaload, 1) := by decide +kernel
theorem dX5_perform_113 : decode cX5_perform 113 = .ok (.invokevirtual 167, 3) := by decide +kernel
theorem dX5_perform_116 : decode cX5_perform 116 = .ok (.invokestatic 158, 3) := by decide +kernel
theorem dX5_perform_119 : decode cX5_perform 119 = .ok (.goto 4, 3) := by decide +kernel
theorem dX5_perform_122 : decode cX5_perform 122 = .ok (.iconst 1, 1) := by decide +kernel
theorem dX5_perform_123 : decode cX5_perform 123 = .ok (.ireturn, 1) := by decide +kernel
theorem dX5_perform_124 : decode cX5_perform 124 = .ok (.lload_n 1, 1) := by decide +kernel
theorem dX5_perform_125 : decode cX5_perform 125 = .ok (.bipush 99, 2) := by decide +kernel
theorem dX5_perform_127 : decode cX5_perform 127 = .ok (.bipush 111, 2) := by decide +kernel
theorem dX5_perform_129 : decode cX5_perform 129 = .ok (.bipush 117, 2) := by decide +kernel
theorem dX5_perform_131 : decode cX5_perform 131 = .ok (.bipush 110, 2) := by decide +kernel
theorem dX5_perform_133 : decode cX5_perform 133 = .ok (.bipush 116, 2) := by decide +kernel
theorem dX5_perform_135 : decode cX5_perform 135 = .ok (.iconst 0, 1) := by decide +kernel
theorem dX5_perform_136 : decode cX5_perform 136 = .ok (.invokestatic 151, 3) := by decide +kernel
theorem dX5_perform_139 : decode cX5_perform 139 = .ok (.lcmp, 1) := by decide +kernel
theorem dX5_perform_140 : decode cX5_perform 140 = .ok (.ifCond .ne 35, 3) := by decide +kernel
theorem dX5_perform_143 : decode cX5_perform 143 = .ok (.aload_n 0, 1) := by decide +kernel
theorem dX5_perform_144 : decode cX5_perform 144 = .ok (.iconst 2, 1) := by decide +kernel
theorem dX5_perform_145 : decode cX5_perform 145 = .ok (.invokevirtual 161, 3) := by decide +kernel
theorem dX5_perform_148 : decode cX5_perform 148 = .ok (.ifCond .eq 25, 3) := by decide +kernel
theorem dX5_perform_151 : decode cX5_perform 151 = .ok (.aload_n 0, 1) := by decide +kernel
theorem dX5_perform_152 : decode cX5_perform 152 = .ok (.aload_n 0, 1) := by decide +kernel
theorem dX5_perform_153 : decode cX5_perform 153 = .ok (.getfield 31, 3) := by decide +kernel
theorem dX5_perform_156 : decode cX5_perform 156 = .ok (.iconst 1, 1) := by decide +kernel
theorem dX5_perform_157 : decode cX5_perform 157 = .ok (.iaload, 1) := by decide +kernel
theorem dX5_perform_158 : decode cX5_perform 158 = .ok (.aload_n 0, 1) := by decide +kernel
theorem dX5_perform_159 : decode cX5_perform 159 = .ok (.getfield 31, 3) := by decide +kernel
theorem dX5_perform_162 : decode cX5_perform 162 = .ok (.iconst 2, 1) := by decide +kernel
theorem dX5_perform_163 : decode cX5_perform 163 = .ok (.iaload, 1) := by decide +kernel
theorem dX5_perform_164 : decode cX5_perform 164 = .ok (.invokevirtual 170, 3) := by decide +kernel
theorem dX5_perform_167 : decode cX5_perform 167 = .ok (.invokestatic 158, 3) := by decide +kernel
theorem dX5_perform_170 : decode cX5_perform 170 = .ok (.goto 4, 3) := by decide +kernel
theorem dX5_perform_173 : decode cX5_perform 173 = .ok (.iconst 1, 1) := by decide +kernel
theorem dX5_perform_174 : decode cX5_perform 174 = .ok (.ireturn, 1) := by decide +kernel
theorem dX5_perform_175 : decode cX5_perform 175 = .ok (.lload_n 1, 1) := by decide +kernel
theorem dX5_perform_176 : decode cX5_perform 176 = .ok (.bipush 102, 2) := by decide +kernel
theorem dX5_perform_178 : decode cX5_perform 178 = .ok (.bipush 105, 2) := by decide +kernel
theorem dX5_perform_180 : decode cX5_perform 180 = .ok (.bipush 120, 2) := by decide +kernel
theorem dX5_perform_182 : decode cX5_perform 182 = .ok (.iconst 0, 1) := by decide +kernel
theorem dX5_perform_183 : decode cX5_perform 183 = .ok (.iconst 0, 1) := by decide +kernel
theorem dX5_perform_184 : decode cX5_perform 184 = .ok (.iconst 0, 1) := by decide +kernel
theorem dX5_perform_185 : decode cX5_perform 185 = .ok (.invokestatic 151, 3) := by decide +kernel
theorem dX5_perform_188 : decode cX5_perform 188 = .ok (.lcmp, 1) := by decide +kernel
theorem dX5_perform_189 : decode cX5_perform 189 = .ok (.ifCond .ne 35, 3) := by decide +kernel
theorem dX5_perform_192 : decode cX5_perform 192 = .ok (.aload_n 0, 1) := by decide +kernel
theorem dX5_perform_193 : decode cX5_perform 193 = .ok (.iconst 2, 1) := by decide +kernel
theorem dX5_perform_194 : decode cX5_perform 194 = .ok (.invokevirtual 161, 3) := by decide +kernel
theorem dX5_perform_197 : decode cX5_perform 197 = .ok (.ifCond .eq 25, 3) := by decide +kernel
theorem dX5_perform_200 : decode cX5_perform 200 = .ok (.aload_n 0, 1) := by decide +kernel
theorem dX5_perform_201 : decode cX5_perform 201 = .ok (.aload_n 0, 1) := by decide +kernel
theorem dX5_perform_202 : decode cX5_perform 202 = .ok (.getfield 31, 3) := by decide +kernel
theorem dX5_perform_205 : decode cX5_perform 205 = .ok (.iconst 1, 1) := by decide +kernel
theorem dX5_perform_206 : decode cX5_perform 206 = .ok (.iaload, 1) := by decide +kernel
theorem dX5_perform_207 : decode cX5_perform 207 = .ok (.aload_n 0, 1) := by decide +kernel
theorem dX5_perform_208 : decode cX5_perform 208 = .ok (.getfield 31, 3) := by decide +kernel
theorem dX5_perform_211 : decode cX5_perform 211 = .ok (.iconst 2, 1) := by decide +kernel
theorem dX5_perform_212 : decode cX5_perform 212 = .ok (.iaload, 1) := by decide +kernel
theorem dX5_perform_213 : decode cX5_perform 213 = .ok (.invokevirtual 173, 3) := by decide +kernel
theorem dX5_perform_216 : decode cX5_perform 216 = .ok (.invokestatic 158, 3) := by decide +kernel
theorem dX5_perform_219 : decode cX5_perform 219 = .ok (.goto 4, 3) := by decide +kernel
theorem dX5_perform_222 : decode cX5_perform 222 = .ok (.iconst 1, 1) := by decide +kernel
theorem dX5_perform_223 : decode cX5_perform 223 = .ok (.ireturn, 1) := by decide +kernel
theorem dX5_perform_224 : decode cX5_perform 224 = .ok (.lload_n 1, 1) := by decide +kernel
theorem dX5_perform_225 : decode cX5_perform 225 = .ok (.bipush 98, 2) := by decide +kernel
theorem dX5_perform_227 : decode cX5_perform 227 = .ok (.bipush 101, 2) := by decide +kernel
theorem dX5_perform_229 : decode cX5_perform 229 = .ok (.bipush 100, 2) := by decide +kernel
theorem dX5_perform_231 : decode cX5_perform 231 = .ok (.iconst 0, 1) := by decide +kernel
theorem dX5_perform_232 : decode cX5_perform 232 = .ok (.iconst 0, 1) := by decide +kernel
theorem dX5_perform_233 : decode cX5_perform 233 = .ok (.iconst 0, 1) := by decide +kernel
theorem dX5_perform_234 : decode cX5_perform 234 = .ok (.invokestatic 151, 3) := by decide +kernel
theorem dX5_perform_237 : decode cX5_perform 237 = .ok (.lcmp, 1) := by decide +kernel
theorem dX5_perform_238 : decode cX5_perform 238 = .ok (.ifCond .ne 29, 3) := by decide +kernel
theorem dX5_perform_241 : decode cX5_perform 241 = .ok (.aload_n 0, 1) := by decide +kernel
theorem dX5_perform_242 : decode cX5_perform 242 = .ok (.iconst 1, 1) := by decide +kernel
theorem dX5_perform_243 : decode cX5_perform 243 = .ok (.invokevirtual 161, 3) := by decide +kernel
theorem dX5_perform_246 : decode cX5_perform 246 = .ok (.ifCond .eq 19, 3) := by decide +kernel
theorem dX5_perform_249 : decode cX5_perform 249 = .ok (.aload_n 0, 1) := by decide +kernel
theorem dX5_perform_250 : decode cX5_perform 250 = .ok (.aload_n 0, 1) := by decide +kernel
theorem dX5_perform_251 : decode cX5_perform 251 = .ok (.getfield 31, 3) := by decide +kernel
theorem dX5_perform_254 : decode cX5_perform 254 = .ok (.iconst 1, 1) := by decide +kernel
theorem dX5_perform_255 : decode cX5_perform 255 = .ok (.iaload, 1) := by decide +kernel
theorem dX5_perform_256 : decode cX5_perform 256 = .ok (.invokevirtual 176, 3) := by decide +kernel
theorem dX5_perform_259 : decode cX5_perform 259 = .ok (.invokestatic 158, 3) := by decide +kernel
theorem dX5_perform_262 : decode cX5_perform 262 = .ok (.goto 4, 3) := by decide +kernel
theorem dX5_perform_265 : decode cX5_perform 265 = .ok (.iconst 1, 1) := by decide +kernel
theorem dX5_perform_266 : decode cX5_perform 266 = .ok (.ireturn, 1) := by decide +kernel
theorem dX5_perform_267 : decode cX5_perform 267 = .ok (.lload_n 1, 1) := by decide +kernel
theorem dX5_perform_268 : decode cX5_perform 268 = .ok (.bipush 107, 2) := by decide +kernel
theorem dX5_perform_270 : decode cX5_perform 270 = .ok (.bipush 105, 2) := by decide +kernel
theorem dX5_perform_272 : decode cX5_perform 272 = .ok (.bipush 110, 2) := by decide +kernel
theorem dX5_perform_274 : decode cX5_perform 274 = .ok (.bipush 107, 2) := by decide +kernel
theorem dX5_perform_276 : decode cX5_perform 276 = .ok (.iconst 0, 1) := by decide +kernel
theorem dX5_perform_277 : decode cX5_perform 277 = .ok (.iconst 0, 1) := by decide +kernel
theorem dX5_perform_278 : decode cX5_perform 278 = .ok (.invokestatic 151, 3) := by decide +kernel
theorem dX5_perform_281 : decode cX5_perform 281 = .ok (.lcmp, 1) := by decide +kernel
theorem dX5_perform_282 : decode cX5_perform 282 = .ok (.ifCond .ne 29, 3) := by decide +kernel
theorem dX5_perform_285 : decode cX5_perform 285 = .ok (.aload_n 0, 1) := by decide +kernel
theorem dX5_perform_286 : decode cX5_perform 286 = .ok (.iconst 1, 1) := by decide +kernel
theorem dX5_perform_287 : decode cX5_perform 287 = .ok (.invokevirtual 161, 3) := by decide +kernel
theorem dX5_perform_290 : decode cX5_perform 290 = .ok (.ifCond .eq 19, 3) := by decide +kernel
theorem dX5_perform_293 : decode cX5_perform 293 = .ok (.aload_n 0, 1) := by decide +kernel
theorem dX5_perform_294 : decode cX5_perform 294 = .ok (.aload_n 0, 1) := by decide +kernel
theorem dX5_perform_295 : decode cX5_perform 295 = .ok (.getfield 31, 3) := by decide +kernel
theorem dX5_perform_298 : decode cX5_perform 298 = .ok (.iconst 1, 1) := by decide +kernel
theorem dX5_perform_299 : decode cX5_perform 299 = .ok (.iaload, 1) := by decide +kernel
theorem dX5_perform_300 : decode cX5_perform 300 = .ok (.invokevirtual 179, 3) := by decide +kernel
theorem dX5_perform_303 : decode cX5_perform 303 = .ok (.invokestatic 158, 3) := by decide +kernel
theorem dX5_perform_306 : decode cX5_perform 306 = .ok (.goto 4, 3) := by decide +kernel
theorem dX5_perform_309 : decode cX5_perform 309 = .ok (.iconst 1, 1) := by decide +kernel
theorem dX5_perform_310 : decode cX5_perform 310 = .ok (.ireturn, 1) := by decide +kernel
theorem dX5_perform_311 : decode cX5_perform 311 = .ok (.lload_n 1, 1) := by decide +kernel
theorem dX5_perform_312 : decode cX5_perform 312 = .ok (.bipush 99, 2) := by decide +kernel
theorem dX5_perform_314 : decode cX5_perform 314 = .ok (.bipush 108, 2) := by decide +kernel
theorem dX5_perform_316 : decode cX5_perform 316 = .ok (.bipush 111, 2) := by decide +kernel
theorem dX5_perform_318 : decode cX5_perform 318 = .ok (.bipush 115, 2) := by decide +kernel
theorem dX5_perform_320 : decode cX5_perform 320 = .ok (.bipush 101, 2) := by decide +kernel
theorem dX5_perform_322 : decode cX5_perform 322 = .ok (.iconst 0, 1) := by decide +kernel
theorem dX5_perform_323 : decode cX5_perform 323 = .ok (.invokestatic 151, 3) := by decide +kernel
theorem dX5_perform_326 : decode cX5_perform 326 = .ok (.lcmp, 1) := by decide +kernel
theorem dX5_perform_327 : decode cX5_perform 327 = .ok (.ifCond .ne 29, 3) := by decide +kernel
theorem dX5_perform_330 : decode cX5_perform 330 = .ok (.aload_n 0, 1) := by decide +kernel
theorem dX5_perform_331 : decode cX5_perform 331 = .ok (.iconst 1, 1) := by decide +kernel
theorem dX5_perform_332 : decode cX5_perform 332 = .ok (.invokevirtual 161, 3) := by decide +kernel
theorem dX5_perform_335 : decode cX5_perform 335 = .ok (.ifCond .eq 19, 3) := by decide +kernel
theorem dX5_perform_338 : decode cX5_perform 338 = .ok (.aload_n 0, 1) := by decide +kernel
theorem dX5_perform_339 : decode cX5_perform 339 = .ok (.aload_n 0, 1) := by decide +kernel
theorem dX5_perform_340 : decode cX5_perform 340 = .ok (.getfield 31, 3) := by decide +kernel
theorem dX5_perform_343 : decode cX5_perform 343 = .ok (.iconst 1, 1) := by decide +kernel
theorem dX5_perform_344 : decode cX5_perform 344 = .ok (.iaload, 1) := by decide +kernel
theorem dX5_perform_345 : decode cX5_perform 345 = .ok (.invokevirtual 182, 3) := by decide +kernel
theorem dX5_perform_348 : decode cX5_perform 348 = .ok (.invokestatic 158, 3) := by decide +kernel
theorem dX5_perform_351 : decode cX5_perform 351 = .ok (.goto 4, 3) := by decide +kernel
theorem dX5_perform_354 : decode cX5_perform 354 = .ok (.iconst 1, 1) := by decide +kernel
theorem dX5_perform_355 : decode cX5_perform 355 = .ok (.ireturn, 1) := by decide +kernel
theorem dX5_perform_356 : decode cX5_perform 356 = .ok (.lload_n 1, 1) := by decide +kernel
theorem dX5_perform_357 : decode cX5_perform 357 = .ok (.bipush 117, 2) := by decide +kernel
theorem dX5_perform_359 : decode cX5_perform 359 = .ok (.bipush 115, 2) := by decide +kernel
theorem dX5_perform_361 : decode cX5_perform 361 = .ok (.bipush 101, 2) := by decide +kernel
theorem dX5_perform_363 : decode cX5_perform 363 = .ok (.iconst 0, 1) := by decide +kernel
theorem dX5_perform_364 : decode cX5_perform 364 = .ok (.iconst 0, 1) := by decide +kernel
theorem dX5_perform_365 : decode cX5_perform 365 = .ok (.iconst 0, 1) := by decide +kernel
theorem dX5_perform_366 : decode cX5_perform 366 = .ok (.invokestatic 151, 3) := by decide +kernel
theorem dX5_perform_369 : decode cX5_perform 369 = .ok (.lcmp, 1) := by decide +kernel
theorem dX5_perform_370 : decode cX5_perform 370 = .ok (.ifCond .ne 8, 3) := by decide +kernel
theorem dX5_perform_373 : decode cX5_perform 373 = .ok (.aload_n 0, 1) := by decide +kernel
theorem dX5_perform_374 : decode cX5_perform 374 = .ok (.invokevirtual 185, 3) := by decide +kernel
theorem dX5_perform_377 : decode cX5_perform 377 = .ok (.ireturn, 1) := by decide +kernel
theorem dX5_perform_378 : decode cX5_perform 378 = .ok (.lload_n 1, 1) := by decide +kernel
theorem dX5_perform_379 : decode cX5_perform 379 = .ok (.bipush 116, 2) := by decide +kernel
theorem dX5_perform_381 : decode cX5_perform 381 = .ok (.bipush 117, 2) := by decide +kernel
theorem dX5_perform_383 : decode cX5_perform 383 = .ok (.bipush 110, 2) := by decide +kernel
theorem dX5_perform_385 : decode cX5_perform 385 = .ok (.bipush 101, 2) := by decide +kernel
theorem dX5_perform_387 : decode cX5_perform 387 = .ok (.iconst 0, 1) := by decide +kernel
theorem dX5_perform_388 : decode cX5_perform 388 = .ok (.iconst 0, 1) := by decide +kernel
theorem dX5_perform_389 : decode cX5_perform 389 = .ok (.invokestatic 151, 3) := by decide +kernel
theorem dX5_perform_392 : decode cX5_perform 392 = .ok (.lcmp, 1) := by decide +kernel
theorem dX5_perform_393 : decode cX5_perform 393 = .ok (.ifCond .ne 21, 3) := by decide +kernel
theorem dX5_perform_396 : decode cX5_perform 396 = .ok (.aload_n 0, 1) := by decide +kernel
theorem dX5_perform_397 : decode cX5_perform 397 = .ok (.getfield 144, 3) := by decide +kernel
theorem dX5_perform_400 : decode cX5_perform 400 = .ok (.iconst 1, 1) := by decide +kernel
theorem dX5_perform_401 : decode cX5_perform 401 = .ok (.if_icmp .ne 13, 3) := by decide +kernel
theorem dX5_perform_404 : decode cX5_perform 404 = .ok (.aload_n 0, 1) := by decide +kernel
theorem dX5_perform_405 : decode cX5_perform 405 = .ok (.invokevirtual 188, 3) := by decide +kernel
theorem dX5_perform_408 : decode cX5_perform 408 = .ok (.invokestatic 158, 3) := by decide +kernel
theorem dX5_perform_411 : decode cX5_perform 411 = .ok (.goto 4, 3) := by decide +kernel
theorem dX5_perform_414 : decode cX5_perform 414 = .ok (.iconst 1, 1) := by decide +kernel
theorem dX5_perform_415 : decode cX5_perform 415 = .ok (.ireturn, 1) := by decide +kernel
set_option maxRecDepth 20000 in
theorem ggX5_run_X5_record : GoodIn wsX5_run wsX5_record := goodIn_r _ [8, 1, 9, 10, 11, 12, 158, 159, 160, 161, 162, 163, 164, 165, 166, 167, 168, 169] (by decide +kernel) (by decide +kernel)
set_option maxRecDepth 20000 in
theorem gX5_run_X5_record : GoodIn wsX5_run (wsV RX5 107 RX5 yX5_record wsX5_record) := goodIn_app (goodIn_of _ (by decide +kernel)) ggX5_run_X5_record
set_option maxRecDepth 20000 in
theorem ggX5_run_X5_readCommand : GoodIn wsX5_run wsX5_readCommand := goodIn_r _ [16, 17, 3, 18, 19, 20, 21, 7, 22, 23, 24, 25, 26, 27, 28, 29, 158, 159, 160, 161, 162, 163, 164, 165, 166, 167, 168, 169] (by decide +kernel) (by decide +kernel)
set_option maxRecDepth 20000 in
theorem gX5_run_X5_readCommand : GoodIn wsX5_run (wsV RX5 191 RX5 yX5_readCommand wsX5_readCommand) := goodIn_app (goodIn_of _ (by decide +kernel)) ggX5_run_X5_readCommand
set_option maxRecDepth 20000 in
theorem ggX5_run_X5_perform : GoodIn wsX5_run wsX5_perform := goodIn_r _ [33, 17, 24, 25, 34, 35, 7, 36, 23, 37, 38, 39, 40, 26, 41, 42, 43, 44, 45, 12, 46, 47, 27, 28, 29, 48, 49, 50, 51, 52, 53, 54, 55, 56, 57, 58, 59, 4, 5, 6, 8, 1, 9, 10, 11, 60, 61, 62, 63, 64, 65, 66, 67, 68, 69, 70, 71, 72, 73, 74, 75, 76, 77, 78, 79, 80, 81, 82, 83, 84, 85, 86, 87, 88, 89, 90, 91, 92, 93, 94, 95, 96, 97, 98, 99, 100, 101, 102, 103, 104, 105, 106, 107, 108, 109, 110, 111, 112, 113, 114, 115, 116, 117, 118, 119, 120, 121, 122, 123, 124, 125, 126, 127, 128, 129, 130, 131, 132, 133, 134, 135, 136, 137, 138, 139, 140, 141, 142, 143, 144, 145, 146, 147, 148, 149, 150, 151, 152, 153, 154, 155, 156, 157, 158, 159, 160, 161, 162, 163, 164, 165, 166, 167, 168, 169] (by decide +kernel) (by decide +kernel)
set_option maxRecDepth 20000 in
theorem gX5_run_X5_perform : GoodIn wsX5_run (wsV RX5 194 RX5 yX5_perform wsX5_perform) := goodIn_app (goodIn_of _ (by decide +kernel)) ggX5_run_X5_perform
theorem dX5_run_0 : decode cX5_run 0 = .ok (.aload_n 0, 1) := by decide +kernel
theorem dX5_run_1 : decode cX5_run 1 = .ok (.invokevirtual 107, 3) := by decide +kernel
theorem dX5_run_4 : decode cX5_run 4 = .ok (.aload_n 0, 1) := by decide +kernel
theorem dX5_run_5 : decode cX5_run 5 = .ok (.iconst 1, 1) := by decide +kernel
theorem dX5_run_6 : decode cX5_run 6 = .ok (.putfield 39, 3) := by decide +kernel
theorem dX5_run_9 : decode cX5_run 9 = .ok (.iconst 0, 1) := by decide +kernel
theorem dX5_run_10 : decode cX5_run 10 = .ok (.istore_n 1, 1) := by decide +kernel
theorem dX5_run_11 : decode cX5_run 11 = .ok (.iconst 0, 1) := by decide +kernel
theorem dX5_run_12 : decode cX5_run 12 = .ok (.istore_n 2, 1) := by decide +kernel
theorem dX5_run_13 : decode cX5_run 13 = .ok (.iconst 1, 1) := by decide +kernel
theorem dX5_run_14 : decode cX5_run 14 = .ok (.istore_n 3, 1) := by decide +kernel
theorem dX5_run_15 : decode cX5_run 15 = .ok (.aload_n 0, 1) := by decide +kernel
theorem dX5_run_16 : decode cX5_run 16 = .ok (.iconst 0, 1) := by decide +kernel
theorem dX5_run_17 : decode cX5_run 17 = .ok (.putfield 23, 3) := by decide +kernel
theorem dX5_run_20 : decode cX5_run 20 = .ok (.iload_n 3, 1) := by decide +kernel
theorem dX5_run_21 : decode cX5_run 21 = .ok (.ifCond .eq 59, 3) := by decide +kernel
theorem dX5_run_24 : decode cX5_run 24 = .ok (.aload_n 0, 1) := by decide +kernel
theorem dX5_run_25 : decode cX5_run 25 = .ok (.getfield 23, 3) := by decide +kernel
theorem dX5_run_28 : decode cX5_run 28 = .ok (.ifCond .ne 52, 3) := by decide +kernel
theorem dX5_run_31 : decode cX5_run 31 = .ok (.aload_n 0, 1) := by decide +kernel
theorem dX5_run_32 : decode cX5_run 32 = .ok (.iload_n 2, 1) := by decide +kernel
theorem dX5_run_33 : decode cX5_run 33 = .ok (.invokevirtual 191, 3) := by decide +kernel
theorem dX5_run_36 : decode cX5_run 36 = .ok (.istore_n 2, 1) := by decide +kernel
theorem dX5_run_37 : decode cX5_run 37 = .ok (.aload_n 0, 1) := by decide +kernel
theorem dX5_run_38 : decode cX5_run 38 = .ok (.aload_n 0, 1) := by decide +kernel
theorem dX5_run_39 : decode cX5_run 39 = .ok (.invokevirtual 194, 3) := by decide +kernel
theorem dX5_run_42 : decode cX5_run 42 = .ok (.putfield 23, 3) := by decide +kernel
theorem dX5_run_45 : decode cX5_run 45 = .ok (.iload_n 1, 1) := by decide +kernel
theorem dX5_run_46 : decode cX5_run 46 = .ok (.aload_n 0, 1) := by decide +kernel
theorem dX5_run_47 : decode cX5_run 47 = .ok (.getfield 23, 3) := by decide +kernel
theorem dX5_run_50 : decode cX5_run 50 = .ok (.ifCond .ne 7, 3) := by decide +kernel
theorem dX5_run_53 : decode cX5_run 53 = .ok (.iconst 1, 1) := by decide +kernel
theorem dX5_run_54 : decode cX5_run 54 = .ok (.goto 4, 3) := by decide +kernel
theorem dX5_run_57 : decode cX5_run 57 = .ok (.iconst 0, 1) := by decide +kernel
theorem dX5_run_58 : decode cX5_run 58 = .ok (.iadd, 1) := by decide +kernel
theorem dX5_run_59 : decode cX5_run 59 = .ok (.istore_n 1, 1) := by decide +kernel
theorem dX5_run_60 : decode cX5_run 60 = .ok (.iload_n 2, 1) := by decide +kernel
theorem dX5_run_61 : decode cX5_run 61 = .ok (.aload_n 0, 1) := by decide +kernel
theorem dX5_run_62 : decode cX5_run 62 = .ok (.getfield 139, 3) := by decide +kernel
theorem dX5_run_65 : decode cX5_run 65 = .ok (.if_icmp .ge 7, 3) := by decide +kernel
theorem dX5_run_68 : decode cX5_run 68 = .ok (.iconst 1, 1) := by decide +kernel
theorem dX5_run_69 : decode cX5_run 69 = .ok (.goto 4, 3) := by decide +kernel
theorem dX5_run_72 : decode cX5_run 72 = .ok (.iconst 0, 1) := by decide +kernel
theorem dX5_run_73 : decode cX5_run 73 = .ok (.istore_n 3, 1) := by decide +kernel
theorem dX5_run_74 : decode cX5_run 74 = .ok (.iinc 2 1, 3) := by decide +kernel
theorem dX5_run_77 : decode cX5_run 77 = .ok (.goto (-57), 3) := by decide +kernel
theorem dX5_run_80 : decode cX5_run 80 = .ok (.aload_n 0, 1) := by decide +kernel
theorem dX5_run_81 : decode cX5_run 81 = .ok (.iconst 0, 1) := by decide +kernel
theorem dX5_run_82 : decode cX5_run 82 = .ok (.putfield 39, 3) := by decide +kernel
theorem dX5_run_85 : decode cX5_run 85 = .ok (.aload_n 0, 1) := by decide +kernel
theorem dX5_run_86 : decode cX5_run 86 = .ok (.iconst 0, 1) := by decide +kernel
theorem dX5_run_87 : decode cX5_run 87 = .ok (.putfield 139, 3) := by decide +kernel
theorem dX5_run_90 : decode cX5_run 90 = .ok (.iload_n 1, 1) := by decide +kernel
theorem dX5_run_91 : decode cX5_run 91 = .ok (.ireturn, 1) := by decide +kernel
theorem dX5_failure_0 : decode cX5_failure 0 = .ok (.aload_n 0, 1) := by decide +kernel
theorem dX5_failure_1 : decode cX5_failure 1 = .ok (.getfield 23, 3) := by decide +kernel
theorem dX5_failure_4 : decode cX5_failure 4 = .ok (.ireturn, 1) := by decide +kernel
theorem dX5_layers_0 : decode cX5_layers 0 = .ok (.aload_n 0, 1) := by decide +kernel
theorem dX5_layers_1 : decode cX5_layers 1 = .ok (.getfield 7, 3) := by decide +kernel
theorem dX5_layers_4 : decode cX5_layers 4 = .ok (.iconst 0, 1) := by decide +kernel
theorem dX5_layers_5 : decode cX5_layers 5 = .ok (.iaload, 1) := by decide +kernel
theorem dX5_layers_6 : decode cX5_layers 6 = .ok (.ireturn, 1) := by decide +kernel
set_option maxRecDepth 20000 in
theorem ggX5_depth_X5_bottom : GoodIn wsX5_depth wsX5_bottom := goodIn_r _ [5, 6, 7, 8, 9, 4, 10, 11, 12, 13, 14, 15, 16, 17, 18, 19, 20, 21, 22, 23, 24, 25, 26] (by decide +kernel) (by decide +kernel)
set_option maxRecDepth 20000 in
theorem gX5_depth_X5_bottom : GoodIn wsX5_depth (wsV RX5 101 RX5 yX5_bottom wsX5_bottom) := goodIn_app (goodIn_of _ (by decide +kernel)) ggX5_depth_X5_bottom
theorem dX5_depth_0 : decode cX5_depth 0 = .ok (.aload_n 0, 1) := by decide +kernel
theorem dX5_depth_1 : decode cX5_depth 1 = .ok (.invokevirtual 101, 3) := by decide +kernel
theorem dX5_depth_4 : decode cX5_depth 4 = .ok (.ireturn, 1) := by decide +kernel
set_option maxRecDepth 20000 in
theorem ggX5_told_X5_isLayer : GoodIn wsX5_told wsX5_isLayer := goodIn_r _ [6, 7, 8, 9, 5, 10, 15, 16, 17, 18, 19, 20, 21, 22, 23, 24, 25, 26] (by decide +kernel) (by decide +kernel)
set_option maxRecDepth 20000 in
theorem gX5_told_X5_isLayer : GoodIn wsX5_told (wsV RX5 110 RX5 yX5_isLayer wsX5_isLayer) := goodIn_app (goodIn_of _ (by decide +kernel)) ggX5_told_X5_isLayer
set_option maxRecDepth 20000 in
theorem ggX5_told_X5_of : GoodIn wsX5_told wsX5_of := goodIn_r _ [14, 7, 15, 16, 17, 18, 19, 20, 21, 22, 23, 24, 25, 26] (by decide +kernel) (by decide +kernel)
set_option maxRecDepth 20000 in
theorem gX5_told_X5_of : GoodIn wsX5_told (wsV RX5 49 RX5 yX5_of wsX5_of) := goodIn_app (goodIn_of _ (by decide +kernel)) ggX5_told_X5_of
theorem dX5_told_0 : decode cX5_told 0 = .ok (.aload_n 0, 1) := by decide +kernel
theorem dX5_told_1 : decode cX5_told 1 = .ok (.iload_n 1, 1) := by decide +kernel
theorem dX5_told_2 : decode cX5_told 2 = .ok (.invokevirtual 110, 3) := by decide +kernel
theorem dX5_told_5 : decode cX5_told 5 = .ok (.ifCond .eq 12, 3) := by decide +kernel
theorem dX5_told_8 : decode cX5_told 8 = .ok (.aload_n 0, 1) := by decide +kernel
theorem dX5_told_9 : decode cX5_told 9 = .ok (.iload_n 1, 1) := by decide +kernel
theorem dX5_told_10 : decode cX5_told 10 = .ok (.iload_n 2, 1) := by decide +kernel
theorem dX5_told_11 : decode cX5_told 11 = .ok (.invokevirtual 49, 3) := by decide +kernel
theorem dX5_told_14 : decode cX5_told 14 = .ok (.goto 5, 3) := by decide +kernel
theorem dX5_told_17 : decode cX5_told 17 = .ok (.ldc 114, 2) := by decide +kernel
theorem dX5_told_19 : decode cX5_told 19 = .ok (.ireturn, 1) := by decide +kernel
set_option maxRecDepth 20000 in
theorem ggX5_thickness_X5_told : GoodIn wsX5_thickness wsX5_told := goodIn_r _ [5, 6, 7, 8, 9, 4, 10, 11, 12, 13, 14, 15, 16, 17, 18, 19, 20, 21, 22, 23, 24, 25, 26, 27, 28, 29, 30] (by decide +kernel) (by decide +kernel)
set_option maxRecDepth 20000 in
theorem gX5_thickness_X5_told : GoodIn wsX5_thickness (wsV RX5 197 RX5 yX5_told wsX5_told) := goodIn_app (goodIn_of _ (by decide +kernel)) ggX5_thickness_X5_told
theorem dX5_thickness_0 : decode cX5_thickness 0 = .ok (.aload_n 0, 1) := by decide +kernel
theorem dX5_thickness_1 : decode cX5_thickness 1 = .ok (.iload_n 1, 1) := by decide +kernel
theorem dX5_thickness_2 : decode cX5_thickness 2 = .ok (.iconst 5, 1) := by decide +kernel
theorem dX5_thickness_3 : decode cX5_thickness 3 = .ok (.invokevirtual 197, 3) := by decide +kernel
theorem dX5_thickness_6 : decode cX5_thickness 6 = .ok (.ireturn, 1) := by decide +kernel
set_option maxRecDepth 20000 in
theorem ggX5_accumulation_X5_told : GoodIn wsX5_accumulation wsX5_told := goodIn_r _ [5, 6, 7, 8, 9, 4, 10, 11, 12, 13, 14, 15, 16, 17, 18, 19, 20, 21, 22, 23, 24, 25, 26, 27, 28, 29, 30] (by decide +kernel) (by decide +kernel)
set_option maxRecDepth 20000 in
theorem gX5_accumulation_X5_told : GoodIn wsX5_accumulation (wsV RX5 197 RX5 yX5_told wsX5_told) := goodIn_app (goodIn_of _ (by decide +kernel)) ggX5_accumulation_X5_told
theorem dX5_accumulation_0 : decode cX5_accumulation 0 = .ok (.aload_n 0, 1) := by decide +kernel
theorem dX5_accumulation_1 : decode cX5_accumulation 1 = .ok (.iload_n 1, 1) := by decide +kernel
theorem dX5_accumulation_2 : decode cX5_accumulation 2 = .ok (.bipush 6, 2) := by decide +kernel
theorem dX5_accumulation_4 : decode cX5_accumulation 4 = .ok (.invokevirtual 197, 3) := by decide +kernel
theorem dX5_accumulation_7 : decode cX5_accumulation 7 = .ok (.ireturn, 1) := by decide +kernel
set_option maxRecDepth 20000 in
theorem ggX5_correction_X5_told : GoodIn wsX5_correction wsX5_told := goodIn_r _ [5, 6, 7, 8, 9, 4, 10, 11, 12, 13, 14, 15, 16, 17, 18, 19, 20, 21, 22, 23, 24, 25, 26, 27, 28, 29, 30] (by decide +kernel) (by decide +kernel)
set_option maxRecDepth 20000 in
theorem gX5_correction_X5_told : GoodIn wsX5_correction (wsV RX5 197 RX5 yX5_told wsX5_told) := goodIn_app (goodIn_of _ (by decide +kernel)) ggX5_correction_X5_told
theorem dX5_correction_0 : decode cX5_correction 0 = .ok (.aload_n 0, 1) := by decide +kernel
theorem dX5_correction_1 : decode cX5_correction 1 = .ok (.iload_n 1, 1) := by decide +kernel
theorem dX5_correction_2 : decode cX5_correction 2 = .ok (.bipush 7, 2) := by decide +kernel
theorem dX5_correction_4 : decode cX5_correction 4 = .ok (.invokevirtual 197, 3) := by decide +kernel
theorem dX5_correction_7 : decode cX5_correction 7 = .ok (.ireturn, 1) := by decide +kernel
set_option maxRecDepth 20000 in
theorem ggX5_thinning_X5_isLayer : GoodIn wsX5_thinning wsX5_isLayer := goodIn_r _ [6, 7, 8, 9, 5, 10, 26, 27, 28, 29, 30, 31, 32, 33, 34, 35, 36, 37] (by decide +kernel) (by decide +kernel)
set_option maxRecDepth 20000 in
theorem gX5_thinning_X5_isLayer : GoodIn wsX5_thinning (wsV RX5 110 RX5 yX5_isLayer wsX5_isLayer) := goodIn_app (goodIn_of _ (by decide +kernel)) ggX5_thinning_X5_isLayer
set_option maxRecDepth 20000 in
theorem ggX5_thinning_X5_thinningOf : GoodIn wsX5_thinning wsX5_thinningOf := goodIn_r _ [14, 7, 15, 16, 17, 18, 19, 20, 5, 21, 22, 23, 24, 25, 26, 27, 28, 29, 30, 31, 32, 33, 34, 35, 36, 37] (by decide +kernel) (by decide +kernel)
set_option maxRecDepth 20000 in
theorem gX5_thinning_X5_thinningOf : GoodIn wsX5_thinning (wsV RX5 65 RX5 yX5_thinningOf wsX5_thinningOf) := goodIn_app (goodIn_of _ (by decide +kernel)) ggX5_thinning_X5_thinningOf
theorem dX5_thinning_0 : decode cX5_thinning 0 = .ok (.aload_n 0, 1) := by decide +kernel
theorem dX5_thinning_1 : decode cX5_thinning 1 = .ok (.iload_n 1, 1) := by decide +kernel
theorem dX5_thinning_2 : decode cX5_thinning 2 = .ok (.invokevirtual 110, 3) := by decide +kernel
theorem dX5_thinning_5 : decode cX5_thinning 5 = .ok (.ifCond .eq 11, 3) := by decide +kernel
theorem dX5_thinning_8 : decode cX5_thinning 8 = .ok (.aload_n 0, 1) := by decide +kernel
theorem dX5_thinning_9 : decode cX5_thinning 9 = .ok (.iload_n 1, 1) := by decide +kernel
theorem dX5_thinning_10 : decode cX5_thinning 10 = .ok (.invokevirtual 65, 3) := by decide +kernel
theorem dX5_thinning_13 : decode cX5_thinning 13 = .ok (.goto 5, 3) := by decide +kernel
theorem dX5_thinning_16 : decode cX5_thinning 16 = .ok (.ldc 114, 2) := by decide +kernel
theorem dX5_thinning_18 : decode cX5_thinning 18 = .ok (.ireturn, 1) := by decide +kernel
set_option maxRecDepth 20000 in
theorem ggX5_years_X5_isLayer : GoodIn wsX5_years wsX5_isLayer := goodIn_r _ [6, 7, 8, 9, 5, 10, 34, 35, 36, 37, 38, 39, 40, 41, 42, 43, 44, 45] (by decide +kernel) (by decide +kernel)
set_option maxRecDepth 20000 in
theorem gX5_years_X5_isLayer : GoodIn wsX5_years (wsV RX5 110 RX5 yX5_isLayer wsX5_isLayer) := goodIn_app (goodIn_of _ (by decide +kernel)) ggX5_years_X5_isLayer
set_option maxRecDepth 20000 in
theorem ggX5_years_X5_yearsOf : GoodIn wsX5_years wsX5_yearsOf := goodIn_r _ [14, 15, 16, 17, 5, 18, 7, 19, 20, 21, 22, 23, 24, 25, 26, 27, 28, 29, 30, 31, 32, 33, 34, 35, 36, 37, 38, 39, 40, 41, 42, 43, 44, 45] (by decide +kernel) (by decide +kernel)
set_option maxRecDepth 20000 in
theorem gX5_years_X5_yearsOf : GoodIn wsX5_years (wsV RX5 72 RX5 yX5_yearsOf wsX5_yearsOf) := goodIn_app (goodIn_of _ (by decide +kernel)) ggX5_years_X5_yearsOf
theorem dX5_years_0 : decode cX5_years 0 = .ok (.aload_n 0, 1) := by decide +kernel
theorem dX5_years_1 : decode cX5_years 1 = .ok (.iload_n 1, 1) := by decide +kernel
theorem dX5_years_2 : decode cX5_years 2 = .ok (.invokevirtual 110, 3) := by decide +kernel
theorem dX5_years_5 : decode cX5_years 5 = .ok (.ifCond .eq 11, 3) := by decide +kernel
theorem dX5_years_8 : decode cX5_years 8 = .ok (.aload_n 0, 1) := by decide +kernel
theorem dX5_years_9 : decode cX5_years 9 = .ok (.iload_n 1, 1) := by decide +kernel
theorem dX5_years_10 : decode cX5_years 10 = .ok (.invokevirtual 72, 3) := by decide +kernel
theorem dX5_years_13 : decode cX5_years 13 = .ok (.goto 5, 3) := by decide +kernel
theorem dX5_years_16 : decode cX5_years 16 = .ok (.ldc 114, 2) := by decide +kernel
theorem dX5_years_18 : decode cX5_years 18 = .ok (.ireturn, 1) := by decide +kernel
set_option maxRecDepth 20000 in
theorem ggX5_delay_X5_isLayer : GoodIn wsX5_delay wsX5_isLayer := goodIn_r _ [6, 7, 8, 9, 5, 10, 20, 21, 22, 23, 24, 25, 26, 27, 28, 29, 30, 31] (by decide +kernel) (by decide +kernel)
set_option maxRecDepth 20000 in
theorem gX5_delay_X5_isLayer : GoodIn wsX5_delay (wsV RX5 110 RX5 yX5_isLayer wsX5_isLayer) := goodIn_app (goodIn_of _ (by decide +kernel)) ggX5_delay_X5_isLayer
set_option maxRecDepth 20000 in
theorem ggX5_delay_X5_delayOf : GoodIn wsX5_delay wsX5_delayOf := goodIn_r _ [14, 15, 7, 16, 17, 18, 5, 19, 20, 21, 22, 23, 24, 25, 26, 27, 28, 29, 30, 31] (by decide +kernel) (by decide +kernel)
set_option maxRecDepth 20000 in
theorem gX5_delay_X5_delayOf : GoodIn wsX5_delay (wsV RX5 90 RX5 yX5_delayOf wsX5_delayOf) := goodIn_app (goodIn_of _ (by decide +kernel)) ggX5_delay_X5_delayOf
theorem dX5_delay_0 : decode cX5_delay 0 = .ok (.aload_n 0, 1) := by decide +kernel
theorem dX5_delay_1 : decode cX5_delay 1 = .ok (.iload_n 1, 1) := by decide +kernel
theorem dX5_delay_2 : decode cX5_delay 2 = .ok (.invokevirtual 110, 3) := by decide +kernel
theorem dX5_delay_5 : decode cX5_delay 5 = .ok (.ifCond .eq 11, 3) := by decide +kernel
theorem dX5_delay_8 : decode cX5_delay 8 = .ok (.aload_n 0, 1) := by decide +kernel
theorem dX5_delay_9 : decode cX5_delay 9 = .ok (.iload_n 1, 1) := by decide +kernel
theorem dX5_delay_10 : decode cX5_delay 10 = .ok (.invokevirtual 90, 3) := by decide +kernel
theorem dX5_delay_13 : decode cX5_delay 13 = .ok (.goto 5, 3) := by decide +kernel
theorem dX5_delay_16 : decode cX5_delay 16 = .ok (.ldc 114, 2) := by decide +kernel
theorem dX5_delay_18 : decode cX5_delay 18 = .ok (.ireturn, 1) := by decide +kernel
set_option maxRecDepth 20000 in
theorem ggX5_residual_X5_isLayer : GoodIn wsX5_residual wsX5_isLayer := goodIn_r _ [7, 8, 9, 10, 6, 11, 43, 44, 45, 46, 47, 48, 49, 50, 51, 52, 53, 54] (by decide +kernel) (by decide +kernel)
set_option maxRecDepth 20000 in
theorem gX5_residual_X5_isLayer : GoodIn wsX5_residual (wsV RX5 110 RX5 yX5_isLayer wsX5_isLayer) := goodIn_app (goodIn_of _ (by decide +kernel)) ggX5_residual_X5_isLayer
set_option maxRecDepth 20000 in
theorem ggX5_residual_X5_of : GoodIn wsX5_residual wsX5_of := goodIn_r _ [15, 8, 43, 44, 45, 46, 47, 48, 49, 50, 51, 52, 53, 54] (by decide +kernel) (by decide +kernel)
set_option maxRecDepth 20000 in
theorem gX5_residual_X5_of : GoodIn wsX5_residual (wsV RX5 49 RX5 yX5_of wsX5_of) := goodIn_app (goodIn_of _ (by decide +kernel)) ggX5_residual_X5_of
set_option maxRecDepth 20000 in
theorem ggX5_residual_X5_residualOf : GoodIn wsX5_residual wsX5_residualOf := goodIn_r _ [19, 20, 21, 22, 6, 23, 24, 25, 26, 27, 12, 13, 14, 15, 8, 28, 29, 30, 31, 32, 33, 34, 35, 36, 37, 38, 39, 40, 41, 42, 43, 44, 45, 46, 47, 48, 49, 50, 51, 52, 53, 54] (by decide +kernel) (by decide +kernel)
set_option maxRecDepth 20000 in
theorem gX5_residual_X5_residualOf : GoodIn wsX5_residual (wsV RX5 93 RX5 yX5_residualOf wsX5_residualOf) := goodIn_app (goodIn_of _ (by decide +kernel)) ggX5_residual_X5_residualOf
theorem dX5_residual_0 : decode cX5_residual 0 = .ok (.aload_n 0, 1) := by decide +kernel
theorem dX5_residual_1 : decode cX5_residual 1 = .ok (.iload_n 1, 1) := by decide +kernel
theorem dX5_residual_2 : decode cX5_residual 2 = .ok (.invokevirtual 110, 3) := by decide +kernel
theorem dX5_residual_5 : decode cX5_residual 5 = .ok (.ifCond .ne 8, 3) := by decide +kernel
theorem dX5_residual_8 : decode cX5_residual 8 = .ok (.ldc 114, 2) := by decide +kernel
theorem dX5_residual_10 : decode cX5_residual 10 = .ok (.goto 24, 3) := by decide +kernel
theorem dX5_residual_13 : decode cX5_residual 13 = .ok (.aload_n 0, 1) := by decide +kernel
theorem dX5_residual_14 : decode cX5_residual 14 = .ok (.iload_n 1, 1) := by decide +kernel
theorem dX5_residual_15 : decode cX5_residual 15 = .ok (.bipush 9, 2) := by decide +kernel
theorem dX5_residual_17 : decode cX5_residual 17 = .ok (.invokevirtual 49, 3) := by decide +kernel
theorem dX5_residual_20 : decode cX5_residual 20 = .ok (.iconst 1, 1) := by decide +kernel
theorem dX5_residual_21 : decode cX5_residual 21 = .ok (.if_icmp .ne 11, 3) := by decide +kernel
theorem dX5_residual_24 : decode cX5_residual 24 = .ok (.aload_n 0, 1) := by decide +kernel
theorem dX5_residual_25 : decode cX5_residual 25 = .ok (.iload_n 1, 1) := by decide +kernel
theorem dX5_residual_26 : decode cX5_residual 26 = .ok (.invokevirtual 93, 3) := by decide +kernel
theorem dX5_residual_29 : decode cX5_residual 29 = .ok (.goto 5, 3) := by decide +kernel
theorem dX5_residual_32 : decode cX5_residual 32 = .ok (.ldc 22, 2) := by decide +kernel
theorem dX5_residual_34 : decode cX5_residual 34 = .ok (.ireturn, 1) := by decide +kernel
set_option maxRecDepth 20000 in
theorem ggX5_countError_X5_isLayer : GoodIn wsX5_countError wsX5_isLayer := goodIn_r _ [7, 8, 9, 10, 6, 11, 35, 36, 37, 38, 39, 40, 41, 42, 43, 44, 45, 46] (by decide +kernel) (by decide +kernel)
set_option maxRecDepth 20000 in
theorem gX5_countError_X5_isLayer : GoodIn wsX5_countError (wsV RX5 110 RX5 yX5_isLayer wsX5_isLayer) := goodIn_app (goodIn_of _ (by decide +kernel)) ggX5_countError_X5_isLayer
set_option maxRecDepth 20000 in
theorem ggX5_countError_X5_of : GoodIn wsX5_countError wsX5_of := goodIn_r _ [15, 8, 35, 36, 37, 38, 39, 40, 41, 42, 43, 44, 45, 46] (by decide +kernel) (by decide +kernel)
set_option maxRecDepth 20000 in
theorem gX5_countError_X5_of : GoodIn wsX5_countError (wsV RX5 49 RX5 yX5_of wsX5_of) := goodIn_app (goodIn_of _ (by decide +kernel)) ggX5_countError_X5_of
set_option maxRecDepth 20000 in
theorem ggX5_countError_X5_yearsOf : GoodIn wsX5_countError wsX5_yearsOf := goodIn_r _ [19, 12, 13, 14, 6, 15, 8, 20, 21, 22, 23, 24, 25, 26, 27, 28, 29, 30, 31, 32, 33, 34, 35, 36, 37, 38, 39, 40, 41, 42, 43, 44, 45, 46] (by decide +kernel) (by decide +kernel)
set_option maxRecDepth 20000 in
theorem gX5_countError_X5_yearsOf : GoodIn wsX5_countError (wsV RX5 72 RX5 yX5_yearsOf wsX5_yearsOf) := goodIn_app (goodIn_of _ (by decide +kernel)) ggX5_countError_X5_yearsOf
theorem dX5_countError_0 : decode cX5_countError 0 = .ok (.aload_n 0, 1) := by decide +kernel
theorem dX5_countError_1 : decode cX5_countError 1 = .ok (.iload_n 1, 1) := by decide +kernel
theorem dX5_countError_2 : decode cX5_countError 2 = .ok (.invokevirtual 110, 3) := by decide +kernel
theorem dX5_countError_5 : decode cX5_countError 5 = .ok (.ifCond .ne 8, 3) := by decide +kernel
theorem dX5_countError_8 : decode cX5_countError 8 = .ok (.ldc 114, 2) := by decide +kernel
theorem dX5_countError_10 : decode cX5_countError 10 = .ok (.goto 31, 3) := by decide +kernel
theorem dX5_countError_13 : decode cX5_countError 13 = .ok (.aload_n 0, 1) := by decide +kernel
theorem dX5_countError_14 : decode cX5_countError 14 = .ok (.iload_n 1, 1) := by decide +kernel
theorem dX5_countError_15 : decode cX5_countError 15 = .ok (.bipush 12, 2) := by decide +kernel
theorem dX5_countError_17 : decode cX5_countError 17 = .ok (.invokevirtual 49, 3) := by decide +kernel
theorem dX5_countError_20 : decode cX5_countError 20 = .ok (.ifCond .le 19, 3) := by decide +kernel
theorem dX5_countError_23 : decode cX5_countError 23 = .ok (.aload_n 0, 1) := by decide +kernel
theorem dX5_countError_24 : decode cX5_countError 24 = .ok (.iload_n 1, 1) := by decide +kernel
theorem dX5_countError_25 : decode cX5_countError 25 = .ok (.invokevirtual 72, 3) := by decide +kernel
theorem dX5_countError_28 : decode cX5_countError 28 = .ok (.aload_n 0, 1) := by decide +kernel
theorem dX5_countError_29 : decode cX5_countError 29 = .ok (.iload_n 1, 1) := by decide +kernel
theorem dX5_countError_30 : decode cX5_countError 30 = .ok (.bipush 12, 2) := by decide +kernel
theorem dX5_countError_32 : decode cX5_countError 32 = .ok (.invokevirtual 49, 3) := by decide +kernel
theorem dX5_countError_35 : decode cX5_countError 35 = .ok (.isub, 1) := by decide +kernel
theorem dX5_countError_36 : decode cX5_countError 36 = .ok (.goto 5, 3) := by decide +kernel
theorem dX5_countError_39 : decode cX5_countError 39 = .ok (.ldc 22, 2) := by decide +kernel
theorem dX5_countError_41 : decode cX5_countError 41 = .ok (.ireturn, 1) := by decide +kernel
set_option maxRecDepth 20000 in
theorem ggX5_fitting_X5_fits : GoodIn wsX5_fitting wsX5_fits := goodIn_r _ [5, 6, 7, 8, 9, 4, 10, 11, 12, 13, 14, 15, 16, 17, 18, 19, 20, 21, 22, 23, 24, 25, 26, 27, 28, 29, 30, 31, 32, 33, 34, 35, 36, 37, 38, 39, 40, 41, 42, 43, 44, 45, 46, 47, 48, 49, 50, 51, 52] (by decide +kernel) (by decide +kernel)
set_option maxRecDepth 20000 in
theorem gX5_fitting_X5_fits : GoodIn wsX5_fitting (wsV RX5 136 RX5 yX5_fits wsX5_fits) := goodIn_app (goodIn_of _ (by decide +kernel)) ggX5_fitting_X5_fits
theorem dX5_fitting_0 : decode cX5_fitting 0 = .ok (.aload_n 0, 1) := by decide +kernel
theorem dX5_fitting_1 : decode cX5_fitting 1 = .ok (.invokevirtual 136, 3) := by decide +kernel
theorem dX5_fitting_4 : decode cX5_fitting 4 = .ok (.ireturn, 1) := by decide +kernel
set_option maxRecDepth 20000 in
theorem ggX5_depthRefused_X5_bottom : GoodIn wsX5_depthRefused wsX5_bottom := goodIn_r _ [8, 2, 9, 10, 11, 7, 12, 13, 14, 15, 16, 20, 21, 22, 23, 24, 25, 26, 27, 28, 29, 30, 31] (by decide +kernel) (by decide +kernel)
set_option maxRecDepth 20000 in
theorem gX5_depthRefused_X5_bottom : GoodIn wsX5_depthRefused (wsV RX5 101 RX5 yX5_bottom wsX5_bottom) := goodIn_app (goodIn_of _ (by decide +kernel)) ggX5_depthRefused_X5_bottom
set_option maxRecDepth 20000 in
theorem ggX5_depthRefused_X5_in : GoodIn wsX5_depthRefused wsX5_in := goodIn_r _ [19] (by decide +kernel) (by decide +kernel)
set_option maxRecDepth 20000 in
theorem gX5_depthRefused_X5_in : GoodIn wsX5_depthRefused (va_wsS RX5 35 yX5_in wsX5_in) := goodIn_app (goodIn_of _ (by decide +kernel)) ggX5_depthRefused_X5_in
theorem dX5_depthRefused_0 : decode cX5_depthRefused 0 = .ok (.iload_n 1, 1) := by decide +kernel
theorem dX5_depthRefused_1 : decode cX5_depthRefused 1 = .ok (.iconst 0, 1) := by decide +kernel
theorem dX5_depthRefused_2 : decode cX5_depthRefused 2 = .ok (.aload_n 0, 1) := by decide +kernel
theorem dX5_depthRefused_3 : decode cX5_depthRefused 3 = .ok (.invokevirtual 101, 3) := by decide +kernel
theorem dX5_depthRefused_6 : decode cX5_depthRefused 6 = .ok (.invokestatic 35, 3) := by decide +kernel
theorem dX5_depthRefused_9 : decode cX5_depthRefused 9 = .ok (.ifCond .ne 8, 3) := by decide +kernel
theorem dX5_depthRefused_12 : decode cX5_depthRefused 12 = .ok (.ldc 100, 2) := by decide +kernel
theorem dX5_depthRefused_14 : decode cX5_depthRefused 14 = .ok (.goto 18, 3) := by decide +kernel
theorem dX5_depthRefused_17 : decode cX5_depthRefused 17 = .ok (.aload_n 0, 1) := by decide +kernel
theorem dX5_depthRefused_18 : decode cX5_depthRefused 18 = .ok (.getfield 7, 3) := by decide +kernel
theorem dX5_depthRefused_21 : decode cX5_depthRefused 21 = .ok (.iconst 0, 1) := by decide +kernel
theorem dX5_depthRefused_22 : decode cX5_depthRefused 22 = .ok (.iaload, 1) := by decide +kernel
theorem dX5_depthRefused_23 : decode cX5_depthRefused 23 = .ok (.ifCond .ne 8, 3) := by decide +kernel
theorem dX5_depthRefused_26 : decode cX5_depthRefused 26 = .ok (.ldc 105, 2) := by decide +kernel
theorem dX5_depthRefused_28 : decode cX5_depthRefused 28 = .ok (.goto 4, 3) := by decide +kernel
theorem dX5_depthRefused_31 : decode cX5_depthRefused 31 = .ok (.iconst 0, 1) := by decide +kernel
theorem dX5_depthRefused_32 : decode cX5_depthRefused 32 = .ok (.ireturn, 1) := by decide +kernel
set_option maxRecDepth 20000 in
theorem ggX5_age_X5_depthRefused : GoodIn wsX5_age wsX5_depthRefused := goodIn_r _ [5, 6, 7, 8, 9, 10, 11, 4, 12, 13, 14, 15, 16, 17, 18, 19, 20, 21, 22, 23, 54, 55, 56, 57, 58, 59, 60, 61, 62, 63, 64, 65] (by decide +kernel) (by decide +kernel)
set_option maxRecDepth 20000 in
theorem gX5_age_X5_depthRefused : GoodIn wsX5_age (wsV RX5 200 RX5 yX5_depthRefused wsX5_depthRefused) := goodIn_app (goodIn_of _ (by decide +kernel)) ggX5_age_X5_depthRefused
set_option maxRecDepth 20000 in
theorem ggX5_age_X5_ageAt : GoodIn wsX5_age wsX5_ageAt := goodIn_r _ [27, 28, 29, 30, 4, 31, 13, 14, 15, 16, 17, 18, 19, 20, 7, 32, 33, 34, 35, 36, 37, 38, 39, 40, 41, 42, 43, 44, 45, 46, 47, 48, 49, 50, 51, 52, 53, 54, 55, 56, 57, 58, 59, 60, 61, 62, 63, 64, 65] (by decide +kernel) (by decide +kernel)
set_option maxRecDepth 20000 in
theorem gX5_age_X5_ageAt : GoodIn wsX5_age (wsV RX5 87 RX5 yX5_ageAt wsX5_ageAt) := goodIn_app (goodIn_of _ (by decide +kernel)) ggX5_age_X5_ageAt
theorem dX5_age_0 : decode cX5_age 0 = .ok (.aload_n 0, 1) := by decide +kernel
theorem dX5_age_1 : decode cX5_age 1 = .ok (.iload_n 1, 1) := by decide +kernel
theorem dX5_age_2 : decode cX5_age 2 = .ok (.invokevirtual 200, 3) := by decide +kernel
theorem dX5_age_5 : decode cX5_age 5 = .ok (.istore_n 2, 1) := by decide +kernel
theorem dX5_age_6 : decode cX5_age 6 = .ok (.iload_n 2, 1) := by decide +kernel
theorem dX5_age_7 : decode cX5_age 7 = .ok (.ifCond .eq 7, 3) := by decide +kernel
theorem dX5_age_10 : decode cX5_age 10 = .ok (.iload_n 2, 1) := by decide +kernel
theorem dX5_age_11 : decode cX5_age 11 = .ok (.goto 8, 3) := by decide +kernel
theorem dX5_age_14 : decode cX5_age 14 = .ok (.aload_n 0, 1) := by decide +kernel
theorem dX5_age_15 : decode cX5_age 15 = .ok (.iload_n 1, 1) := by decide +kernel
theorem dX5_age_16 : decode cX5_age 16 = .ok (.invokevirtual 87, 3) := by decide +kernel
theorem dX5_age_19 : decode cX5_age 19 = .ok (.ireturn, 1) := by decide +kernel
set_option maxRecDepth 20000 in
theorem ggX5_gasAge_X5_depthRefused : GoodIn wsX5_gasAge wsX5_depthRefused := goodIn_r _ [5, 6, 7, 8, 9, 10, 11, 4, 12, 13, 14, 15, 16, 17, 18, 19, 20, 21, 22, 23, 63, 64, 65, 66, 67, 68, 69, 70, 71, 72, 73, 74] (by decide +kernel) (by decide +kernel)
set_option maxRecDepth 20000 in
theorem gX5_gasAge_X5_depthRefused : GoodIn wsX5_gasAge (wsV RX5 200 RX5 yX5_depthRefused wsX5_depthRefused) := goodIn_app (goodIn_of _ (by decide +kernel)) ggX5_gasAge_X5_depthRefused
set_option maxRecDepth 20000 in
theorem ggX5_gasAge_X5_gasAgeAt : GoodIn wsX5_gasAge wsX5_gasAgeAt := goodIn_r _ [27, 28, 29, 30, 4, 31, 32, 33, 34, 35, 13, 14, 15, 16, 17, 18, 19, 20, 7, 36, 37, 38, 39, 40, 41, 42, 43, 44, 45, 46, 47, 48, 49, 50, 51, 52, 53, 54, 55, 56, 57, 58, 59, 60, 61, 62, 63, 64, 65, 66, 67, 68, 69, 70, 71, 72, 73, 74] (by decide +kernel) (by decide +kernel)
set_option maxRecDepth 20000 in
theorem gX5_gasAge_X5_gasAgeAt : GoodIn wsX5_gasAge (wsV RX5 203 RX5 yX5_gasAgeAt wsX5_gasAgeAt) := goodIn_app (goodIn_of _ (by decide +kernel)) ggX5_gasAge_X5_gasAgeAt
theorem dX5_gasAge_0 : decode cX5_gasAge 0 = .ok (.aload_n 0, 1) := by decide +kernel
theorem dX5_gasAge_1 : decode cX5_gasAge 1 = .ok (.iload_n 1, 1) := by decide +kernel
theorem dX5_gasAge_2 : decode cX5_gasAge 2 = .ok (.invokevirtual 200, 3) := by decide +kernel
theorem dX5_gasAge_5 : decode cX5_gasAge 5 = .ok (.istore_n 2, 1) := by decide +kernel
theorem dX5_gasAge_6 : decode cX5_gasAge 6 = .ok (.iload_n 2, 1) := by decide +kernel
theorem dX5_gasAge_7 : decode cX5_gasAge 7 = .ok (.ifCond .eq 7, 3) := by decide +kernel
theorem dX5_gasAge_10 : decode cX5_gasAge 10 = .ok (.iload_n 2, 1) := by decide +kernel
theorem dX5_gasAge_11 : decode cX5_gasAge 11 = .ok (.goto 8, 3) := by decide +kernel
theorem dX5_gasAge_14 : decode cX5_gasAge 14 = .ok (.aload_n 0, 1) := by decide +kernel
theorem dX5_gasAge_15 : decode cX5_gasAge 15 = .ok (.iload_n 1, 1) := by decide +kernel
theorem dX5_gasAge_16 : decode cX5_gasAge 16 = .ok (.invokevirtual 203, 3) := by decide +kernel
theorem dX5_gasAge_19 : decode cX5_gasAge 19 = .ok (.ireturn, 1) := by decide +kernel
set_option maxRecDepth 20000 in
theorem ggX5_leastDepth_X5_yearsOf : GoodIn wsX5_leastDepth wsX5_yearsOf := goodIn_r _ [7, 8, 9, 10, 6, 11, 1, 12, 13, 14, 15, 16, 17, 18, 19, 20, 21, 22, 23, 24, 25, 26, 35, 36, 37, 38, 39, 40, 41, 42, 43, 44, 45, 46] (by decide +kernel) (by decide +kernel)
set_option maxRecDepth 20000 in
theorem gX5_leastDepth_X5_yearsOf : GoodIn wsX5_leastDepth (wsV RX5 72 RX5 yX5_yearsOf wsX5_yearsOf) := goodIn_app (goodIn_of _ (by decide +kernel)) ggX5_leastDepth_X5_yearsOf
set_option maxRecDepth 20000 in
theorem ggX5_leastDepth_X5_of : GoodIn wsX5_leastDepth wsX5_of := goodIn_r _ [11, 1, 35, 36, 37, 38, 39, 40, 41, 42, 43, 44, 45, 46] (by decide +kernel) (by decide +kernel)
set_option maxRecDepth 20000 in
theorem gX5_leastDepth_X5_of : GoodIn wsX5_leastDepth (wsV RX5 49 RX5 yX5_of wsX5_of) := goodIn_app (goodIn_of _ (by decide +kernel)) ggX5_leastDepth_X5_of
set_option maxRecDepth 20000 in
theorem ggX5_leastDepth_X5_delayOf : GoodIn wsX5_leastDepth wsX5_delayOf := goodIn_r _ [30, 31, 1, 8, 9, 10, 6, 11, 35, 36, 37, 38, 39, 40, 41, 42, 43, 44, 45, 46] (by decide +kernel) (by decide +kernel)
set_option maxRecDepth 20000 in
theorem gX5_leastDepth_X5_delayOf : GoodIn wsX5_leastDepth (wsV RX5 90 RX5 yX5_delayOf wsX5_delayOf) := goodIn_app (goodIn_of _ (by decide +kernel)) ggX5_leastDepth_X5_delayOf
set_option maxRecDepth 20000 in
theorem ggX5_leastDepth_X5_part : GoodIn wsX5_leastDepth wsX5_part := goodIn_r _ [34] (by decide +kernel) (by decide +kernel)
set_option maxRecDepth 20000 in
theorem gX5_leastDepth_X5_part : GoodIn wsX5_leastDepth (va_wsS RX5 83 yX5_part wsX5_part) := goodIn_app (goodIn_of _ (by decide +kernel)) ggX5_leastDepth_X5_part
theorem dX5_leastDepth_0 : decode cX5_leastDepth 0 = .ok (.iconst 0, 1) := by decide +kernel
theorem dX5_leastDepth_1 : decode cX5_leastDepth 1 = .ok (.istore_n 3, 1) := by decide +kernel
theorem dX5_leastDepth_2 : decode cX5_leastDepth 2 = .ok (.iconst 0, 1) := by decide +kernel
theorem dX5_leastDepth_3 : decode cX5_leastDepth 3 = .ok (.istore 4, 2) := by decide +kernel
theorem dX5_leastDepth_5 : decode cX5_leastDepth 5 = .ok (.iconst 0, 1) := by decide +kernel
theorem dX5_leastDepth_6 : decode cX5_leastDepth 6 = .ok (.istore 5, 2) := by decide +kernel
theorem dX5_leastDepth_8 : decode cX5_leastDepth 8 = .ok (.iload 5, 2) := by decide +kernel
theorem dX5_leastDepth_10 : decode cX5_leastDepth 10 = .ok (.aload_n 0, 1) := by decide +kernel
theorem dX5_leastDepth_11 : decode cX5_leastDepth 11 = .ok (.getfield 7, 3) := by decide +kernel
theorem dX5_leastDepth_14 : decode cX5_leastDepth 14 = .ok (.iconst 0, 1) := by decide +kernel
theorem dX5_leastDepth_15 : decode cX5_leastDepth 15 = .ok (.iaload, 1) := by decide +kernel
theorem dX5_leastDepth_16 : decode cX5_leastDepth 16 = .ok (.if_icmp .ge 116, 3) := by decide +kernel
theorem dX5_leastDepth_19 : decode cX5_leastDepth 19 = .ok (.aload_n 0, 1) := by decide +kernel
theorem dX5_leastDepth_20 : decode cX5_leastDepth 20 = .ok (.iload 5, 2) := by decide +kernel
theorem dX5_leastDepth_22 : decode cX5_leastDepth 22 = .ok (.invokevirtual 72, 3) := by decide +kernel
theorem dX5_leastDepth_25 : decode cX5_leastDepth 25 = .ok (.istore 6, 2) := by decide +kernel
theorem dX5_leastDepth_27 : decode cX5_leastDepth 27 = .ok (.aload_n 0, 1) := by decide +kernel
theorem dX5_leastDepth_28 : decode cX5_leastDepth 28 = .ok (.iload 5, 2) := by decide +kernel
theorem dX5_leastDepth_30 : decode cX5_leastDepth 30 = .ok (.iconst 5, 1) := by decide +kernel
theorem dX5_leastDepth_31 : decode cX5_leastDepth 31 = .ok (.invokevirtual 49, 3) := by decide +kernel
theorem dX5_leastDepth_34 : decode cX5_leastDepth 34 = .ok (.istore 7, 2) := by decide +kernel
theorem dX5_leastDepth_36 : decode cX5_leastDepth 36 = .ok (.iload_n 2, 1) := by decide +kernel
theorem dX5_leastDepth_37 : decode cX5_leastDepth 37 = .ok (.ifCond .eq 12, 3) := by decide +kernel
theorem dX5_leastDepth_40 : decode cX5_leastDepth 40 = .ok (.aload_n 0, 1) := by decide +kernel
theorem dX5_leastDepth_41 : decode cX5_leastDepth 41 = .ok (.iload 5, 2) := by decide +kernel
theorem dX5_leastDepth_43 : decode cX5_leastDepth 43 = .ok (.invokevirtual 90, 3) := by decide +kernel
theorem dX5_leastDepth_46 : decode cX5_leastDepth 46 = .ok (.goto 4, 3) := by decide +kernel
theorem dX5_leastDepth_49 : decode cX5_leastDepth 49 = .ok (.iconst 0, 1) := by decide +kernel
theorem dX5_leastDepth_50 : decode cX5_leastDepth 50 = .ok (.istore 8, 2) := by decide +kernel
theorem dX5_leastDepth_52 : decode cX5_leastDepth 52 = .ok (.iload 5, 2) := by decide +kernel
theorem dX5_leastDepth_54 : decode cX5_leastDepth 54 = .ok (.ifCond .ne 7, 3) := by decide +kernel
theorem dX5_leastDepth_57 : decode cX5_leastDepth 57 = .ok (.iconst 0, 1) := by decide +kernel
theorem dX5_leastDepth_58 : decode cX5_leastDepth 58 = .ok (.goto 4, 3) := by decide +kernel
theorem dX5_leastDepth_61 : decode cX5_leastDepth 61 = .ok (.iconst 1, 1) := by decide +kernel
theorem dX5_leastDepth_62 : decode cX5_leastDepth 62 = .ok (.istore 9, 2) := by decide +kernel
theorem dX5_leastDepth_64 : decode cX5_leastDepth 64 = .ok (.iload 9, 2) := by decide +kernel
theorem dX5_leastDepth_66 : decode cX5_leastDepth 66 = .ok (.iload 7, 2) := by decide +kernel
theorem dX5_leastDepth_68 : decode cX5_leastDepth 68 = .ok (.if_icmp .gt 46, 3) := by decide +kernel
theorem dX5_leastDepth_71 : decode cX5_leastDepth 71 = .ok (.iload 4, 2) := by decide +kernel
theorem dX5_leastDepth_73 : decode cX5_leastDepth 73 = .ok (.iload 6, 2) := by decide +kernel
theorem dX5_leastDepth_75 : decode cX5_leastDepth 75 = .ok (.iload 9, 2) := by decide +kernel
theorem dX5_leastDepth_77 : decode cX5_leastDepth 77 = .ok (.iload 7, 2) := by decide +kernel
theorem dX5_leastDepth_79 : decode cX5_leastDepth 79 = .ok (.invokestatic 83, 3) := by decide +kernel
theorem dX5_leastDepth_82 : decode cX5_leastDepth 82 = .ok (.iadd, 1) := by decide +kernel
theorem dX5_leastDepth_83 : decode cX5_leastDepth 83 = .ok (.iload 8, 2) := by decide +kernel
theorem dX5_leastDepth_85 : decode cX5_leastDepth 85 = .ok (.isub, 1) := by decide +kernel
theorem dX5_leastDepth_86 : decode cX5_leastDepth 86 = .ok (.istore 10, 2) := by decide +kernel
theorem dX5_leastDepth_88 : decode cX5_leastDepth 88 = .ok (.iload 10, 2) := by decide +kernel
theorem dX5_leastDepth_90 : decode cX5_leastDepth 90 = .ok (.ifCond .ge 7, 3) := by decide +kernel
theorem dX5_leastDepth_93 : decode cX5_leastDepth 93 = .ok (.iconst 0, 1) := by decide +kernel
theorem dX5_leastDepth_94 : decode cX5_leastDepth 94 = .ok (.goto 5, 3) := by decide +kernel
theorem dX5_leastDepth_97 : decode cX5_leastDepth 97 = .ok (.iload 10, 2) := by decide +kernel
theorem dX5_leastDepth_99 : decode cX5_leastDepth 99 = .ok (.iload_n 1, 1) := by decide +kernel
theorem dX5_leastDepth_100 : decode cX5_leastDepth 100 = .ok (.if_icmp .lt 8, 3) := by decide +kernel
theorem dX5_leastDepth_103 : decode cX5_leastDepth 103 = .ok (.iload_n 3, 1) := by decide +kernel
theorem dX5_leastDepth_104 : decode cX5_leastDepth 104 = .ok (.iload 9, 2) := by decide +kernel
theorem dX5_leastDepth_106 : decode cX5_leastDepth 106 = .ok (.iadd, 1) := by decide +kernel
theorem dX5_leastDepth_107 : decode cX5_leastDepth 107 = .ok (.ireturn, 1) := by decide +kernel
theorem dX5_leastDepth_108 : decode cX5_leastDepth 108 = .ok (.iinc 9 1, 3) := by decide +kernel
theorem dX5_leastDepth_111 : decode cX5_leastDepth 111 = .ok (.goto (-47), 3) := by decide +kernel
theorem dX5_leastDepth_114 : decode cX5_leastDepth 114 = .ok (.iload_n 3, 1) := by decide +kernel
theorem dX5_leastDepth_115 : decode cX5_leastDepth 115 = .ok (.iload 7, 2) := by decide +kernel
theorem dX5_leastDepth_117 : decode cX5_leastDepth 117 = .ok (.iadd, 1) := by decide +kernel
theorem dX5_leastDepth_118 : decode cX5_leastDepth 118 = .ok (.istore_n 3, 1) := by decide +kernel
theorem dX5_leastDepth_119 : decode cX5_leastDepth 119 = .ok (.iload 4, 2) := by decide +kernel
theorem dX5_leastDepth_121 : decode cX5_leastDepth 121 = .ok (.iload 6, 2) := by decide +kernel
theorem dX5_leastDepth_123 : decode cX5_leastDepth 123 = .ok (.iadd, 1) := by decide +kernel
theorem dX5_leastDepth_124 : decode cX5_leastDepth 124 = .ok (.istore 4, 2) := by decide +kernel
theorem dX5_leastDepth_126 : decode cX5_leastDepth 126 = .ok (.iinc 5 1, 3) := by decide +kernel
theorem dX5_leastDepth_129 : decode cX5_leastDepth 129 = .ok (.goto (-121), 3) := by decide +kernel
theorem dX5_leastDepth_132 : decode cX5_leastDepth 132 = .ok (.ldc 22, 2) := by decide +kernel
theorem dX5_leastDepth_134 : decode cX5_leastDepth 134 = .ok (.ireturn, 1) := by decide +kernel
set_option maxRecDepth 20000 in
theorem ggX5_depthOf_X5_leastDepth : GoodIn wsX5_depthOf wsX5_leastDepth := goodIn_r _ [6, 7, 8, 9, 10, 11, 5, 12, 13, 14, 15, 16, 17, 18, 19, 20, 21, 22, 23, 24, 25, 26, 27, 28, 29, 30, 31, 32, 33, 34, 35, 36, 37, 38, 39, 40, 41, 42, 43, 44, 45, 46, 47, 48, 49, 50, 51] (by decide +kernel) (by decide +kernel)
set_option maxRecDepth 20000 in
theorem gX5_depthOf_X5_leastDepth : GoodIn wsX5_depthOf (wsV RX5 206 RX5 yX5_leastDepth wsX5_leastDepth) := goodIn_app (goodIn_of _ (by decide +kernel)) ggX5_depthOf_X5_leastDepth
theorem dX5_depthOf_0 : decode cX5_depthOf 0 = .ok (.iload_n 1, 1) := by decide +kernel
theorem dX5_depthOf_1 : decode cX5_depthOf 1 = .ok (.ifCond .ge 8, 3) := by decide +kernel
theorem dX5_depthOf_4 : decode cX5_depthOf 4 = .ok (.ldc 100, 2) := by decide +kernel
theorem dX5_depthOf_6 : decode cX5_depthOf 6 = .ok (.goto 9, 3) := by decide +kernel
theorem dX5_depthOf_9 : decode cX5_depthOf 9 = .ok (.aload_n 0, 1) := by decide +kernel
theorem dX5_depthOf_10 : decode cX5_depthOf 10 = .ok (.iload_n 1, 1) := by decide +kernel
theorem dX5_depthOf_11 : decode cX5_depthOf 11 = .ok (.iconst 0, 1) := by decide +kernel
theorem dX5_depthOf_12 : decode cX5_depthOf 12 = .ok (.invokevirtual 206, 3) := by decide +kernel
theorem dX5_depthOf_15 : decode cX5_depthOf 15 = .ok (.ireturn, 1) := by decide +kernel
set_option maxRecDepth 20000 in
theorem ggX5_gasDepthOf_X5_leastDepth : GoodIn wsX5_gasDepthOf wsX5_leastDepth := goodIn_r _ [6, 7, 8, 9, 10, 11, 5, 12, 13, 14, 15, 16, 17, 18, 19, 20, 21, 22, 23, 24, 25, 26, 27, 28, 29, 30, 31, 32, 33, 34, 35, 36, 37, 38, 39, 40, 41, 42, 43, 44, 45, 46, 47, 48, 49, 50, 51] (by decide +kernel) (by decide +kernel)
set_option maxRecDepth 20000 in
theorem gX5_gasDepthOf_X5_leastDepth : GoodIn wsX5_gasDepthOf (wsV RX5 206 RX5 yX5_leastDepth wsX5_leastDepth) := goodIn_app (goodIn_of _ (by decide +kernel)) ggX5_gasDepthOf_X5_leastDepth
theorem dX5_gasDepthOf_0 : decode cX5_gasDepthOf 0 = .ok (.iload_n 1, 1) := by decide +kernel
theorem dX5_gasDepthOf_1 : decode cX5_gasDepthOf 1 = .ok (.ifCond .ge 8, 3) := by decide +kernel
theorem dX5_gasDepthOf_4 : decode cX5_gasDepthOf 4 = .ok (.ldc 100, 2) := by decide +kernel
theorem dX5_gasDepthOf_6 : decode cX5_gasDepthOf 6 = .ok (.goto 9, 3) := by decide +kernel
theorem dX5_gasDepthOf_9 : decode cX5_gasDepthOf 9 = .ok (.aload_n 0, 1) := by decide +kernel
theorem dX5_gasDepthOf_10 : decode cX5_gasDepthOf 10 = .ok (.iload_n 1, 1) := by decide +kernel
theorem dX5_gasDepthOf_11 : decode cX5_gasDepthOf 11 = .ok (.iconst 1, 1) := by decide +kernel
theorem dX5_gasDepthOf_12 : decode cX5_gasDepthOf 12 = .ok (.invokevirtual 206, 3) := by decide +kernel
theorem dX5_gasDepthOf_15 : decode cX5_gasDepthOf 15 = .ok (.ireturn, 1) := by decide +kernel
set_option maxRecDepth 20000 in
theorem ggX5_lead_X5_bottom : GoodIn wsX5_lead wsX5_bottom := goodIn_r _ [6, 7, 8, 9, 10, 5, 11, 12, 13, 14, 15, 63, 64, 65, 66, 67, 68, 69, 70, 71, 72, 73, 74] (by decide +kernel) (by decide +kernel)
set_option maxRecDepth 20000 in
theorem gX5_lead_X5_bottom : GoodIn wsX5_lead (wsV RX5 101 RX5 yX5_bottom wsX5_bottom) := goodIn_app (goodIn_of _ (by decide +kernel)) ggX5_lead_X5_bottom
set_option maxRecDepth 20000 in
theorem ggX5_lead_X5_in : GoodIn wsX5_lead wsX5_in := goodIn_r _ [18] (by decide +kernel) (by decide +kernel)
set_option maxRecDepth 20000 in
theorem gX5_lead_X5_in : GoodIn wsX5_lead (va_wsS RX5 35 yX5_in wsX5_in) := goodIn_app (goodIn_of _ (by decide +kernel)) ggX5_lead_X5_in
set_option maxRecDepth 20000 in
theorem ggX5_lead_X5_depthRefused : GoodIn wsX5_lead wsX5_depthRefused := goodIn_r _ [22, 1, 7, 23, 2, 3, 4, 5, 6, 8, 9, 10, 11, 12, 13, 14, 15, 16, 17, 18, 63, 64, 65, 66, 67, 68, 69, 70, 71, 72, 73, 74] (by decide +kernel) (by decide +kernel)
set_option maxRecDepth 20000 in
theorem gX5_lead_X5_depthRefused : GoodIn wsX5_lead (wsV RX5 200 RX5 yX5_depthRefused wsX5_depthRefused) := goodIn_app (goodIn_of _ (by decide +kernel)) ggX5_lead_X5_depthRefused
set_option maxRecDepth 20000 in
theorem ggX5_lead_X5_ageAt : GoodIn wsX5_lead wsX5_ageAt := goodIn_r _ [27, 28, 29, 30, 5, 31, 8, 9, 10, 11, 12, 13, 14, 15, 7, 32, 33, 34, 35, 36, 37, 38, 39, 40, 41, 42, 43, 44, 45, 46, 47, 48, 49, 50, 51, 52, 53, 63, 64, 65, 66, 67, 68, 69, 70, 71, 72, 73, 74] (by decide +kernel) (by decide +kernel)
set_option maxRecDepth 20000 in
theorem gX5_lead_X5_ageAt : GoodIn wsX5_lead (wsV RX5 87 RX5 yX5_ageAt wsX5_ageAt) := goodIn_app (goodIn_of _ (by decide +kernel)) ggX5_lead_X5_ageAt
set_option maxRecDepth 20000 in
theorem ggX5_lead_X5_gasAgeAt : GoodIn wsX5_lead wsX5_gasAgeAt := goodIn_r _ [57, 24, 25, 26, 5, 27, 28, 29, 30, 31, 8, 9, 10, 11, 12, 13, 14, 15, 7, 32, 33, 34, 35, 36, 37, 38, 39, 40, 41, 42, 43, 44, 45, 46, 47, 48, 49, 50, 51, 52, 53, 58, 59, 60, 61, 62, 63, 64, 65, 66, 67, 68, 69, 70, 71, 72, 73, 74] (by decide +kernel) (by decide +kernel)
set_option maxRecDepth 20000 in
theorem gX5_lead_X5_gasAgeAt : GoodIn wsX5_lead (wsV RX5 203 RX5 yX5_gasAgeAt wsX5_gasAgeAt) := goodIn_app (goodIn_of _ (by decide +kernel)) ggX5_lead_X5_gasAgeAt
theorem dX5_lead_0 : decode cX5_lead 0 = .ok (.iload_n 2, 1) := by decide +kernel
theorem dX5_lead_1 : decode cX5_lead 1 = .ok (.iconst 0, 1) := by decide +kernel
theorem dX5_lead_2 : decode cX5_lead 2 = .ok (.aload_n 0, 1) := by decide +kernel
theorem dX5_lead_3 : decode cX5_lead 3 = .ok (.invokevirtual 101, 3) := by decide +kernel
theorem dX5_lead_6 : decode cX5_lead 6 = .ok (.invokestatic 35, 3) := by decide +kernel
theorem dX5_lead_9 : decode cX5_lead 9 = .ok (.ifCond .ne 8, 3) := by decide +kernel
theorem dX5_lead_12 : decode cX5_lead 12 = .ok (.ldc 100, 2) := by decide +kernel
theorem dX5_lead_14 : decode cX5_lead 14 = .ok (.goto 8, 3) := by decide +kernel
theorem dX5_lead_17 : decode cX5_lead 17 = .ok (.aload_n 0, 1) := by decide +kernel
theorem dX5_lead_18 : decode cX5_lead 18 = .ok (.iload_n 1, 1) := by decide +kernel
theorem dX5_lead_19 : decode cX5_lead 19 = .ok (.invokevirtual 200, 3) := by decide +kernel
theorem dX5_lead_22 : decode cX5_lead 22 = .ok (.istore_n 3, 1) := by decide +kernel
theorem dX5_lead_23 : decode cX5_lead 23 = .ok (.iload_n 3, 1) := by decide +kernel
theorem dX5_lead_24 : decode cX5_lead 24 = .ok (.ifCond .eq 7, 3) := by decide +kernel
theorem dX5_lead_27 : decode cX5_lead 27 = .ok (.iload_n 3, 1) := by decide +kernel
theorem dX5_lead_28 : decode cX5_lead 28 = .ok (.goto 14, 3) := by decide +kernel
theorem dX5_lead_31 : decode cX5_lead 31 = .ok (.aload_n 0, 1) := by decide +kernel
theorem dX5_lead_32 : decode cX5_lead 32 = .ok (.iload_n 1, 1) := by decide +kernel
theorem dX5_lead_33 : decode cX5_lead 33 = .ok (.invokevirtual 87, 3) := by decide +kernel
theorem dX5_lead_36 : decode cX5_lead 36 = .ok (.aload_n 0, 1) := by decide +kernel
theorem dX5_lead_37 : decode cX5_lead 37 = .ok (.iload_n 2, 1) := by decide +kernel
theorem dX5_lead_38 : decode cX5_lead 38 = .ok (.invokevirtual 203, 3) := by decide +kernel
theorem dX5_lead_41 : decode cX5_lead 41 = .ok (.isub, 1) := by decide +kernel
theorem dX5_lead_42 : decode cX5_lead 42 = .ok (.ireturn, 1) := by decide +kernel
set_option maxRecDepth 20000 in
theorem ggX5_inversions_X5_top : GoodIn wsX5_inversions wsX5_top := goodIn_r _ [6, 7, 8, 9, 5, 10, 1, 50, 51, 52, 53, 54, 55, 56, 57, 58, 59, 60, 61] (by decide +kernel) (by decide +kernel)
set_option maxRecDepth 20000 in
theorem gX5_inversions_X5_top : GoodIn wsX5_inversions (wsV RX5 53 RX5 yX5_top wsX5_top) := goodIn_app (goodIn_of _ (by decide +kernel)) ggX5_inversions_X5_top
set_option maxRecDepth 20000 in
theorem ggX5_inversions_X5_gasAgeAt : GoodIn wsX5_inversions wsX5_gasAgeAt := goodIn_r _ [14, 15, 16, 17, 5, 18, 19, 20, 21, 22, 2, 3, 4, 6, 7, 8, 9, 10, 1, 23, 24, 25, 26, 27, 28, 29, 30, 31, 32, 33, 34, 35, 36, 37, 38, 39, 40, 41, 42, 43, 44, 45, 46, 47, 48, 49, 50, 51, 52, 53, 54, 55, 56, 57, 58, 59, 60, 61] (by decide +kernel) (by decide +kernel)
set_option maxRecDepth 20000 in
theorem gX5_inversions_X5_gasAgeAt : GoodIn wsX5_inversions (wsV RX5 203 RX5 yX5_gasAgeAt wsX5_gasAgeAt) := goodIn_app (goodIn_of _ (by decide +kernel)) ggX5_inversions_X5_gasAgeAt
theorem dX5_inversions_0 : decode cX5_inversions 0 = .ok (.iconst 0, 1) := by decide +kernel
theorem dX5_inversions_1 : decode cX5_inversions 1 = .ok (.istore_n 1, 1) := by decide +kernel
theorem dX5_inversions_2 : decode cX5_inversions 2 = .ok (.iconst 0, 1) := by decide +kernel
theorem dX5_inversions_3 : decode cX5_inversions 3 = .ok (.istore_n 2, 1) := by decide +kernel
theorem dX5_inversions_4 : decode cX5_inversions 4 = .ok (.iload_n 2, 1) := by decide +kernel
theorem dX5_inversions_5 : decode cX5_inversions 5 = .ok (.iconst 1, 1) := by decide +kernel
theorem dX5_inversions_6 : decode cX5_inversions 6 = .ok (.iadd, 1) := by decide +kernel
theorem dX5_inversions_7 : decode cX5_inversions 7 = .ok (.aload_n 0, 1) := by decide +kernel
theorem dX5_inversions_8 : decode cX5_inversions 8 = .ok (.getfield 7, 3) := by decide +kernel
theorem dX5_inversions_11 : decode cX5_inversions 11 = .ok (.iconst 0, 1) := by decide +kernel
theorem dX5_inversions_12 : decode cX5_inversions 12 = .ok (.iaload, 1) := by decide +kernel
theorem dX5_inversions_13 : decode cX5_inversions 13 = .ok (.if_icmp .ge 40, 3) := by decide +kernel
theorem dX5_inversions_16 : decode cX5_inversions 16 = .ok (.aload_n 0, 1) := by decide +kernel
theorem dX5_inversions_17 : decode cX5_inversions 17 = .ok (.iload_n 2, 1) := by decide +kernel
theorem dX5_inversions_18 : decode cX5_inversions 18 = .ok (.iconst 1, 1) := by decide +kernel
theorem dX5_inversions_19 : decode cX5_inversions 19 = .ok (.iadd, 1) := by decide +kernel
theorem dX5_inversions_20 : decode cX5_inversions 20 = .ok (.invokevirtual 53, 3) := by decide +kernel
theorem dX5_inversions_23 : decode cX5_inversions 23 = .ok (.istore_n 3, 1) := by decide +kernel
theorem dX5_inversions_24 : decode cX5_inversions 24 = .ok (.iload_n 1, 1) := by decide +kernel
theorem dX5_inversions_25 : decode cX5_inversions 25 = .ok (.aload_n 0, 1) := by decide +kernel
theorem dX5_inversions_26 : decode cX5_inversions 26 = .ok (.iload_n 3, 1) := by decide +kernel
theorem dX5_inversions_27 : decode cX5_inversions 27 = .ok (.invokevirtual 203, 3) := by decide +kernel
theorem dX5_inversions_30 : decode cX5_inversions 30 = .ok (.aload_n 0, 1) := by decide +kernel
theorem dX5_inversions_31 : decode cX5_inversions 31 = .ok (.iload_n 3, 1) := by decide +kernel
theorem dX5_inversions_32 : decode cX5_inversions 32 = .ok (.iconst 1, 1) := by decide +kernel
theorem dX5_inversions_33 : decode cX5_inversions 33 = .ok (.iadd, 1) := by decide +kernel
theorem dX5_inversions_34 : decode cX5_inversions 34 = .ok (.invokevirtual 203, 3) := by decide +kernel
theorem dX5_inversions_37 : decode cX5_inversions 37 = .ok (.if_icmp .le 7, 3) := by decide +kernel
theorem dX5_inversions_40 : decode cX5_inversions 40 = .ok (.iconst 1, 1) := by decide +kernel
theorem dX5_inversions_41 : decode cX5_inversions 41 = .ok (.goto 4, 3) := by decide +kernel
theorem dX5_inversions_44 : decode cX5_inversions 44 = .ok (.iconst 0, 1) := by decide +kernel
theorem dX5_inversions_45 : decode cX5_inversions 45 = .ok (.iadd, 1) := by decide +kernel
theorem dX5_inversions_46 : decode cX5_inversions 46 = .ok (.istore_n 1, 1) := by decide +kernel
theorem dX5_inversions_47 : decode cX5_inversions 47 = .ok (.iinc 2 1, 3) := by decide +kernel
theorem dX5_inversions_50 : decode cX5_inversions 50 = .ok (.goto (-46), 3) := by decide +kernel
theorem dX5_inversions_53 : decode cX5_inversions 53 = .ok (.iload_n 1, 1) := by decide +kernel
theorem dX5_inversions_54 : decode cX5_inversions 54 = .ok (.ireturn, 1) := by decide +kernel
theorem dX5_acts_0 : decode cX5_acts 0 = .ok (.aload_n 0, 1) := by decide +kernel
theorem dX5_acts_1 : decode cX5_acts 1 = .ok (.getfield 43, 3) := by decide +kernel
theorem dX5_acts_4 : decode cX5_acts 4 = .ok (.ireturn, 1) := by decide +kernel
set_option maxRecDepth 20000 in
theorem ggX5_seal_X5_ageAtTop : GoodIn wsX5_seal wsX5_ageAtTop := goodIn_r _ [8, 9, 10, 11, 7, 12, 13, 14, 15, 16, 1, 17, 18, 19, 20, 21, 22, 23, 24, 25, 26, 27, 28, 29, 30, 31, 32, 33, 34, 35, 36, 37, 38, 39, 40, 41, 42, 43] (by decide +kernel) (by decide +kernel)
set_option maxRecDepth 20000 in
theorem gX5_seal_X5_ageAtTop : GoodIn wsX5_seal (wsV RX5 80 RX5 yX5_ageAtTop wsX5_ageAtTop) := goodIn_app (goodIn_of _ (by decide +kernel)) ggX5_seal_X5_ageAtTop
theorem dX5_seal_0 : decode cX5_seal 0 = .ok (.bipush 7, 2) := by decide +kernel
theorem dX5_seal_2 : decode cX5_seal 2 = .ok (.istore_n 1, 1) := by decide +kernel
theorem dX5_seal_3 : decode cX5_seal 3 = .ok (.iconst 0, 1) := by decide +kernel
theorem dX5_seal_4 : decode cX5_seal 4 = .ok (.istore_n 2, 1) := by decide +kernel
theorem dX5_seal_5 : decode cX5_seal 5 = .ok (.iload_n 2, 1) := by decide +kernel
theorem dX5_seal_6 : decode cX5_seal 6 = .ok (.aload_n 0, 1) := by decide +kernel
theorem dX5_seal_7 : decode cX5_seal 7 = .ok (.getfield 7, 3) := by decide +kernel
theorem dX5_seal_10 : decode cX5_seal 10 = .ok (.iconst 0, 1) := by decide +kernel
theorem dX5_seal_11 : decode cX5_seal 11 = .ok (.iaload, 1) := by decide +kernel
theorem dX5_seal_12 : decode cX5_seal 12 = .ok (.if_icmp .ge 22, 3) := by decide +kernel
theorem dX5_seal_15 : decode cX5_seal 15 = .ok (.bipush 31, 2) := by decide +kernel
theorem dX5_seal_17 : decode cX5_seal 17 = .ok (.iload_n 1, 1) := by decide +kernel
theorem dX5_seal_18 : decode cX5_seal 18 = .ok (.imul, 1) := by decide +kernel
theorem dX5_seal_19 : decode cX5_seal 19 = .ok (.aload_n 0, 1) := by decide +kernel
theorem dX5_seal_20 : decode cX5_seal 20 = .ok (.iload_n 2, 1) := by decide +kernel
theorem dX5_seal_21 : decode cX5_seal 21 = .ok (.iconst 1, 1) := by decide +kernel
theorem dX5_seal_22 : decode cX5_seal 22 = .ok (.iadd, 1) := by decide +kernel
theorem dX5_seal_23 : decode cX5_seal 23 = .ok (.invokevirtual 80, 3) := by decide +kernel
theorem dX5_seal_26 : decode cX5_seal 26 = .ok (.iadd, 1) := by decide +kernel
theorem dX5_seal_27 : decode cX5_seal 27 = .ok (.istore_n 1, 1) := by decide +kernel
theorem dX5_seal_28 : decode cX5_seal 28 = .ok (.iinc 2 1, 3) := by decide +kernel
theorem dX5_seal_31 : decode cX5_seal 31 = .ok (.goto (-26), 3) := by decide +kernel
theorem dX5_seal_34 : decode cX5_seal 34 = .ok (.iload_n 1, 1) := by decide +kernel
theorem dX5_seal_35 : decode cX5_seal 35 = .ok (.ldc 210, 2) := by decide +kernel
theorem dX5_seal_37 : decode cX5_seal 37 = .ok (.iand, 1) := by decide +kernel
theorem dX5_seal_38 : decode cX5_seal 38 = .ok (.istore_n 2, 1) := by decide +kernel
theorem dX5_seal_39 : decode cX5_seal 39 = .ok (.iload_n 2, 1) := by decide +kernel
theorem dX5_seal_40 : decode cX5_seal 40 = .ok (.sipush 32767, 3) := by decide +kernel
theorem dX5_seal_43 : decode cX5_seal 43 = .ok (.if_icmp .le 10, 3) := by decide +kernel
theorem dX5_seal_46 : decode cX5_seal 46 = .ok (.iload_n 2, 1) := by decide +kernel
theorem dX5_seal_47 : decode cX5_seal 47 = .ok (.ldc 211, 2) := by decide +kernel
theorem dX5_seal_49 : decode cX5_seal 49 = .ok (.isub, 1) := by decide +kernel
theorem dX5_seal_50 : decode cX5_seal 50 = .ok (.goto 4, 3) := by decide +kernel
theorem dX5_seal_53 : decode cX5_seal 53 = .ok (.iload_n 2, 1) := by decide +kernel
theorem dX5_seal_54 : decode cX5_seal 54 = .ok (.ireturn, 1) := by decide +kernel
set_option maxRecDepth 20000 in
theorem ggX5_residuals_X5_of : GoodIn wsX5_residuals wsX5_of := goodIn_r _ [6, 1, 37, 38, 39, 40, 41, 42, 43, 44, 45, 46, 47, 48] (by decide +kernel) (by decide +kernel)
set_option maxRecDepth 20000 in
theorem gX5_residuals_X5_of : GoodIn wsX5_residuals (wsV RX5 49 RX5 yX5_of wsX5_of) := goodIn_app (goodIn_of _ (by decide +kernel)) ggX5_residuals_X5_of
set_option maxRecDepth 20000 in
theorem ggX5_residuals_X5_residualOf : GoodIn wsX5_residuals wsX5_residualOf := goodIn_r _ [10, 11, 12, 13, 5, 14, 15, 16, 17, 18, 2, 3, 4, 6, 1, 19, 20, 21, 22, 23, 24, 25, 26, 27, 28, 29, 30, 31, 32, 33, 37, 38, 39, 40, 41, 42, 43, 44, 45, 46, 47, 48] (by decide +kernel) (by decide +kernel)
set_option maxRecDepth 20000 in
theorem gX5_residuals_X5_residualOf : GoodIn wsX5_residuals (wsV RX5 93 RX5 yX5_residualOf wsX5_residualOf) := goodIn_app (goodIn_of _ (by decide +kernel)) ggX5_residuals_X5_residualOf
set_option maxRecDepth 20000 in
theorem ggX5_residuals_X5_size : GoodIn wsX5_residuals wsX5_size := goodIn_r _ [36] (by decide +kernel) (by decide +kernel)
set_option maxRecDepth 20000 in
theorem gX5_residuals_X5_size : GoodIn wsX5_residuals (va_wsS RX5 96 yX5_size wsX5_size) := goodIn_app (goodIn_of _ (by decide +kernel)) ggX5_residuals_X5_size
theorem dX5_residuals_0 : decode cX5_residuals 0 = .ok (.lconst 0, 1) := by decide +kernel
theorem dX5_residuals_1 : decode cX5_residuals 1 = .ok (.lstore_n 1, 1) := by decide +kernel
theorem dX5_residuals_2 : decode cX5_residuals 2 = .ok (.iconst 0, 1) := by decide +kernel
theorem dX5_residuals_3 : decode cX5_residuals 3 = .ok (.istore_n 3, 1) := by decide +kernel
theorem dX5_residuals_4 : decode cX5_residuals 4 = .ok (.iload_n 3, 1) := by decide +kernel
theorem dX5_residuals_5 : decode cX5_residuals 5 = .ok (.aload_n 0, 1) := by decide +kernel
theorem dX5_residuals_6 : decode cX5_residuals 6 = .ok (.getfield 7, 3) := by decide +kernel
theorem dX5_residuals_9 : decode cX5_residuals 9 = .ok (.iconst 0, 1) := by decide +kernel
theorem dX5_residuals_10 : decode cX5_residuals 10 = .ok (.iaload, 1) := by decide +kernel
theorem dX5_residuals_11 : decode cX5_residuals 11 = .ok (.if_icmp .ge 36, 3) := by decide +kernel
theorem dX5_residuals_14 : decode cX5_residuals 14 = .ok (.lload_n 1, 1) := by decide +kernel
theorem dX5_residuals_15 : decode cX5_residuals 15 = .ok (.aload_n 0, 1) := by decide +kernel
theorem dX5_residuals_16 : decode cX5_residuals 16 = .ok (.iload_n 3, 1) := by decide +kernel
theorem dX5_residuals_17 : decode cX5_residuals 17 = .ok (.bipush 9, 2) := by decide +kernel
theorem dX5_residuals_19 : decode cX5_residuals 19 = .ok (.invokevirtual 49, 3) := by decide +kernel
theorem dX5_residuals_22 : decode cX5_residuals 22 = .ok (.iconst 1, 1) := by decide +kernel
theorem dX5_residuals_23 : decode cX5_residuals 23 = .ok (.if_icmp .ne 15, 3) := by decide +kernel
theorem dX5_residuals_26 : decode cX5_residuals 26 = .ok (.aload_n 0, 1) := by decide +kernel
theorem dX5_residuals_27 : decode cX5_residuals 27 = .ok (.iload_n 3, 1) := by decide +kernel
theorem dX5_residuals_28 : decode cX5_residuals 28 = .ok (.invokevirtual 93, 3) := by decide +kernel
theorem dX5_residuals_31 : decode cX5_residuals 31 = .ok (.i2l, 1) := by decide +kernel
theorem dX5_residuals_32 : decode cX5_residuals 32 = .ok (.invokestatic 96, 3) := by decide +kernel
theorem dX5_residuals_35 : decode cX5_residuals 35 = .ok (.goto 4, 3) := by decide +kernel
theorem dX5_residuals_38 : decode cX5_residuals 38 = .ok (.lconst 0, 1) := by decide +kernel
theorem dX5_residuals_39 : decode cX5_residuals 39 = .ok (.ladd, 1) := by decide +kernel
theorem dX5_residuals_40 : decode cX5_residuals 40 = .ok (.lstore_n 1, 1) := by decide +kernel
theorem dX5_residuals_41 : decode cX5_residuals 41 = .ok (.iinc 3 1, 3) := by decide +kernel
theorem dX5_residuals_44 : decode cX5_residuals 44 = .ok (.goto (-40), 3) := by decide +kernel
theorem dX5_residuals_47 : decode cX5_residuals 47 = .ok (.lload_n 1, 1) := by decide +kernel
theorem dX5_residuals_48 : decode cX5_residuals 48 = .ok (.lreturn, 1) := by decide +kernel
set_option maxRecDepth 20000 in
theorem ggX5_bestFunction_X5_ashes : GoodIn wsX5_bestFunction wsX5_ashes := goodIn_r _ [7, 2, 8, 9, 10, 6, 11, 46, 47, 48, 49, 50, 51, 52, 53, 54, 55, 56, 57] (by decide +kernel) (by decide +kernel)
set_option maxRecDepth 20000 in
theorem gX5_bestFunction_X5_ashes : GoodIn wsX5_bestFunction (wsV RX5 120 RX5 yX5_ashes wsX5_ashes) := goodIn_app (goodIn_of _ (by decide +kernel)) ggX5_bestFunction_X5_ashes
set_option maxRecDepth 20000 in
theorem ggX5_bestFunction_X5_residuals : GoodIn wsX5_bestFunction wsX5_residuals := goodIn_r _ [15, 2, 8, 9, 10, 6, 11, 16, 17, 18, 19, 20, 21, 22, 23, 24, 25, 26, 27, 28, 29, 30, 31, 32, 33, 34, 35, 36, 37, 38, 39, 40, 41, 42, 43, 44, 45, 46, 47, 48, 49, 50, 51, 52, 53, 54, 55, 56, 57] (by decide +kernel) (by decide +kernel)
set_option maxRecDepth 20000 in
theorem gX5_bestFunction_X5_residuals : GoodIn wsX5_bestFunction (wsV RX5 212 RX5 yX5_residuals wsX5_residuals) := goodIn_app (goodIn_of _ (by decide +kernel)) ggX5_bestFunction_X5_residuals
theorem dX5_bestFunction_0 : decode cX5_bestFunction 0 = .ok (.aload_n 0, 1) := by decide +kernel
theorem dX5_bestFunction_1 : decode cX5_bestFunction 1 = .ok (.invokevirtual 120, 3) := by decide +kernel
theorem dX5_bestFunction_4 : decode cX5_bestFunction 4 = .ok (.ifCond .ne 6, 3) := by decide +kernel
theorem dX5_bestFunction_7 : decode cX5_bestFunction 7 = .ok (.ldc 22, 2) := by decide +kernel
theorem dX5_bestFunction_9 : decode cX5_bestFunction 9 = .ok (.ireturn, 1) := by decide +kernel
theorem dX5_bestFunction_10 : decode cX5_bestFunction 10 = .ok (.aload_n 0, 1) := by decide +kernel
theorem dX5_bestFunction_11 : decode cX5_bestFunction 11 = .ok (.getfield 7, 3) := by decide +kernel
theorem dX5_bestFunction_14 : decode cX5_bestFunction 14 = .ok (.iconst 2, 1) := by decide +kernel
theorem dX5_bestFunction_15 : decode cX5_bestFunction 15 = .ok (.iaload, 1) := by decide +kernel
theorem dX5_bestFunction_16 : decode cX5_bestFunction 16 = .ok (.istore_n 1, 1) := by decide +kernel
theorem dX5_bestFunction_17 : decode cX5_bestFunction 17 = .ok (.iconst 0, 1) := by decide +kernel
theorem dX5_bestFunction_18 : decode cX5_bestFunction 18 = .ok (.istore_n 2, 1) := by decide +kernel
theorem dX5_bestFunction_19 : decode cX5_bestFunction 19 = .ok (.lconst 0, 1) := by decide +kernel
theorem dX5_bestFunction_20 : decode cX5_bestFunction 20 = .ok (.lstore_n 3, 1) := by decide +kernel
theorem dX5_bestFunction_21 : decode cX5_bestFunction 21 = .ok (.iconst 0, 1) := by decide +kernel
theorem dX5_bestFunction_22 : decode cX5_bestFunction 22 = .ok (.istore 5, 2) := by decide +kernel
theorem dX5_bestFunction_24 : decode cX5_bestFunction 24 = .ok (.iload 5, 2) := by decide +kernel
theorem dX5_bestFunction_26 : decode cX5_bestFunction 26 = .ok (.iconst 3, 1) := by decide +kernel
theorem dX5_bestFunction_27 : decode cX5_bestFunction 27 = .ok (.if_icmp .ge 55, 3) := by decide +kernel
theorem dX5_bestFunction_30 : decode cX5_bestFunction 30 = .ok (.aload_n 0, 1) := by decide +kernel
theorem dX5_bestFunction_31 : decode cX5_bestFunction 31 = .ok (.getfield 7, 3) := by decide +kernel
theorem dX5_bestFunction_34 : decode cX5_bestFunction 34 = .ok (.iconst 2, 1) := by decide +kernel
theorem dX5_bestFunction_35 : decode cX5_bestFunction 35 = .ok (.iload 5, 2) := by decide +kernel
theorem dX5_bestFunction_37 : decode cX5_bestFunction 37 = .ok (.iastore, 1) := by decide +kernel
theorem dX5_bestFunction_38 : decode cX5_bestFunction 38 = .ok (.aload_n 0, 1) := by decide +kernel
theorem dX5_bestFunction_39 : decode cX5_bestFunction 39 = .ok (.invokevirtual 212, 3) := by decide +kernel
theorem dX5_bestFunction_42 : decode cX5_bestFunction 42 = .ok (.lstore 6, 2) := by decide +kernel
theorem dX5_bestFunction_44 : decode cX5_bestFunction 44 = .ok (.iload 5, 2) := by decide +kernel
theorem dX5_bestFunction_46 : decode cX5_bestFunction 46 = .ok (.ifCond .eq 10, 3) := by decide +kernel
theorem dX5_bestFunction_49 : decode cX5_bestFunction 49 = .ok (.lload 6, 2) := by decide +kernel
theorem dX5_bestFunction_51 : decode cX5_bestFunction 51 = .ok (.lload_n 3, 1) := by decide +kernel
theorem dX5_bestFunction_52 : decode cX5_bestFunction 52 = .ok (.lcmp, 1) := by decide +kernel
theorem dX5_bestFunction_53 : decode cX5_bestFunction 53 = .ok (.ifCond .ge 8, 3) := by decide +kernel
theorem dX5_bestFunction_56 : decode cX5_bestFunction 56 = .ok (.iload 5, 2) := by decide +kernel
theorem dX5_bestFunction_58 : decode cX5_bestFunction 58 = .ok (.goto 4, 3) := by decide +kernel
theorem dX5_bestFunction_61 : decode cX5_bestFunction 61 = .ok (.iload_n 2, 1) := by decide +kernel
theorem dX5_bestFunction_62 : decode cX5_bestFunction 62 = .ok (.istore_n 2, 1) := by decide +kernel
theorem dX5_bestFunction_63 : decode cX5_bestFunction 63 = .ok (.iload_n 2, 1) := by decide +kernel
theorem dX5_bestFunction_64 : decode cX5_bestFunction 64 = .ok (.iload 5, 2) := by decide +kernel
theorem dX5_bestFunction_66 : decode cX5_bestFunction 66 = .ok (.if_icmp .ne 8, 3) := by decide +kernel
theorem dX5_bestFunction_69 : decode cX5_bestFunction 69 = .ok (.lload 6, 2) := by decide +kernel
theorem dX5_bestFunction_71 : decode cX5_bestFunction 71 = .ok (.goto 4, 3) := by decide +kernel
theorem dX5_bestFunction_74 : decode cX5_bestFunction 74 = .ok (.lload_n 3, 1) := by decide +kernel
theorem dX5_bestFunction_75 : decode cX5_bestFunction 75 = .ok (.lstore_n 3, 1) := by decide +kernel
theorem dX5_bestFunction_76 : decode cX5_bestFunction 76 = .ok (.iinc 5 1, 3) := by decide +kernel
theorem dX5_bestFunction_79 : decode cX5_bestFunction 79 = .ok (.goto (-55), 3) := by decide +kernel
theorem dX5_bestFunction_82 : decode cX5_bestFunction 82 = .ok (.aload_n 0, 1) := by decide +kernel
theorem dX5_bestFunction_83 : decode cX5_bestFunction 83 = .ok (.getfield 7, 3) := by decide +kernel
theorem dX5_bestFunction_86 : decode cX5_bestFunction 86 = .ok (.iconst 2, 1) := by decide +kernel
theorem dX5_bestFunction_87 : decode cX5_bestFunction 87 = .ok (.iload_n 1, 1) := by decide +kernel
theorem dX5_bestFunction_88 : decode cX5_bestFunction 88 = .ok (.iastore, 1) := by decide +kernel
theorem dX5_bestFunction_89 : decode cX5_bestFunction 89 = .ok (.iload_n 2, 1) := by decide +kernel
theorem dX5_bestFunction_90 : decode cX5_bestFunction 90 = .ok (.ireturn, 1) := by decide +kernel
set_option maxRecDepth 20000 in
theorem ggX5_bestKink_X5_ashes : GoodIn wsX5_bestKink wsX5_ashes := goodIn_r _ [7, 2, 8, 9, 10, 6, 11, 46, 47, 48, 49, 50, 51, 52, 53, 54, 55, 56, 57] (by decide +kernel) (by decide +kernel)
set_option maxRecDepth 20000 in
theorem gX5_bestKink_X5_ashes : GoodIn wsX5_bestKink (wsV RX5 120 RX5 yX5_ashes wsX5_ashes) := goodIn_app (goodIn_of _ (by decide +kernel)) ggX5_bestKink_X5_ashes
set_option maxRecDepth 20000 in
theorem ggX5_bestKink_X5_residuals : GoodIn wsX5_bestKink wsX5_residuals := goodIn_r _ [15, 2, 8, 9, 10, 6, 11, 16, 17, 18, 19, 20, 21, 22, 23, 24, 25, 26, 27, 28, 29, 30, 31, 32, 33, 34, 35, 36, 37, 38, 39, 40, 41, 42, 43, 44, 45, 46, 47, 48, 49, 50, 51, 52, 53, 54, 55, 56, 57] (by decide +kernel) (by decide +kernel)
set_option maxRecDepth 20000 in
theorem gX5_bestKink_X5_residuals : GoodIn wsX5_bestKink (wsV RX5 212 RX5 yX5_residuals wsX5_residuals) := goodIn_app (goodIn_of _ (by decide +kernel)) ggX5_bestKink_X5_residuals
theorem dX5_bestKink_0 : decode cX5_bestKink 0 = .ok (.aload_n 0, 1) := by decide +kernel
theorem dX5_bestKink_1 : decode cX5_bestKink 1 = .ok (.invokevirtual 120, 3) := by decide +kernel
theorem dX5_bestKink_4 : decode cX5_bestKink 4 = .ok (.ifCond .ne 6, 3) := by decide +kernel
theorem dX5_bestKink_7 : decode cX5_bestKink 7 = .ok (.ldc 22, 2) := by decide +kernel
theorem dX5_bestKink_9 : decode cX5_bestKink 9 = .ok (.ireturn, 1) := by decide +kernel
theorem dX5_bestKink_10 : decode cX5_bestKink 10 = .ok (.aload_n 0, 1) := by decide +kernel
theorem dX5_bestKink_11 : decode cX5_bestKink 11 = .ok (.getfield 7, 3) := by decide +kernel
theorem dX5_bestKink_14 : decode cX5_bestKink 14 = .ok (.iconst 2, 1) := by decide +kernel
theorem dX5_bestKink_15 : decode cX5_bestKink 15 = .ok (.iaload, 1) := by decide +kernel
theorem dX5_bestKink_16 : decode cX5_bestKink 16 = .ok (.istore_n 1, 1) := by decide +kernel
theorem dX5_bestKink_17 : decode cX5_bestKink 17 = .ok (.aload_n 0, 1) := by decide +kernel
theorem dX5_bestKink_18 : decode cX5_bestKink 18 = .ok (.getfield 7, 3) := by decide +kernel
theorem dX5_bestKink_21 : decode cX5_bestKink 21 = .ok (.iconst 3, 1) := by decide +kernel
theorem dX5_bestKink_22 : decode cX5_bestKink 22 = .ok (.iaload, 1) := by decide +kernel
theorem dX5_bestKink_23 : decode cX5_bestKink 23 = .ok (.istore_n 2, 1) := by decide +kernel
theorem dX5_bestKink_24 : decode cX5_bestKink 24 = .ok (.iconst 0, 1) := by decide +kernel
theorem dX5_bestKink_25 : decode cX5_bestKink 25 = .ok (.istore_n 3, 1) := by decide +kernel
theorem dX5_bestKink_26 : decode cX5_bestKink 26 = .ok (.lconst 0, 1) := by decide +kernel
theorem dX5_bestKink_27 : decode cX5_bestKink 27 = .ok (.lstore 4, 2) := by decide +kernel
theorem dX5_bestKink_29 : decode cX5_bestKink 29 = .ok (.aload_n 0, 1) := by decide +kernel
theorem dX5_bestKink_30 : decode cX5_bestKink 30 = .ok (.getfield 7, 3) := by decide +kernel
theorem dX5_bestKink_33 : decode cX5_bestKink 33 = .ok (.iconst 2, 1) := by decide +kernel
theorem dX5_bestKink_34 : decode cX5_bestKink 34 = .ok (.iconst 1, 1) := by decide +kernel
theorem dX5_bestKink_35 : decode cX5_bestKink 35 = .ok (.iastore, 1) := by decide +kernel
theorem dX5_bestKink_36 : decode cX5_bestKink 36 = .ok (.iconst 0, 1) := by decide +kernel
theorem dX5_bestKink_37 : decode cX5_bestKink 37 = .ok (.istore 6, 2) := by decide +kernel
theorem dX5_bestKink_39 : decode cX5_bestKink 39 = .ok (.iload 6, 2) := by decide +kernel
theorem dX5_bestKink_41 : decode cX5_bestKink 41 = .ok (.sipush 900, 3) := by decide +kernel
theorem dX5_bestKink_44 : decode cX5_bestKink 44 = .ok (.if_icmp .gt 58, 3) := by decide +kernel
theorem dX5_bestKink_47 : decode cX5_bestKink 47 = .ok (.aload_n 0, 1) := by decide +kernel
theorem dX5_bestKink_48 : decode cX5_bestKink 48 = .ok (.getfield 7, 3) := by decide +kernel
theorem dX5_bestKink_51 : decode cX5_bestKink 51 = .ok (.iconst 3, 1) := by decide +kernel
theorem dX5_bestKink_52 : decode cX5_bestKink 52 = .ok (.iload 6, 2) := by decide +kernel
theorem dX5_bestKink_54 : decode cX5_bestKink 54 = .ok (.iastore, 1) := by decide +kernel
theorem dX5_bestKink_55 : decode cX5_bestKink 55 = .ok (.aload_n 0, 1) := by decide +kernel
theorem dX5_bestKink_56 : decode cX5_bestKink 56 = .ok (.invokevirtual 212, 3) := by decide +kernel
theorem dX5_bestKink_59 : decode cX5_bestKink 59 = .ok (.lstore 7, 2) := by decide +kernel
theorem dX5_bestKink_61 : decode cX5_bestKink 61 = .ok (.iload 6, 2) := by decide +kernel
theorem dX5_bestKink_63 : decode cX5_bestKink 63 = .ok (.ifCond .eq 11, 3) := by decide +kernel
theorem dX5_bestKink_66 : decode cX5_bestKink 66 = .ok (.lload 7, 2) := by decide +kernel
theorem dX5_bestKink_68 : decode cX5_bestKink 68 = .ok (.lload 4, 2) := by decide +kernel
theorem dX5_bestKink_70 : decode cX5_bestKink 70 = .ok (.lcmp, 1) := by decide +kernel
theorem dX5_bestKink_71 : decode cX5_bestKink 71 = .ok (.ifCond .ge 8, 3) := by decide +kernel
theorem dX5_bestKink_74 : decode cX5_bestKink 74 = .ok (.iload 6, 2) := by decide +kernel
theorem dX5_bestKink_76 : decode cX5_bestKink 76 = .ok (.goto 4, 3) := by decide +kernel
theorem dX5_bestKink_79 : decode cX5_bestKink 79 = .ok (.iload_n 3, 1) := by decide +kernel
theorem dX5_bestKink_80 : decode cX5_bestKink 80 = .ok (.istore_n 3, 1) := by decide +kernel
theorem dX5_bestKink_81 : decode cX5_bestKink 81 = .ok (.iload_n 3, 1) := by decide +kernel
theorem dX5_bestKink_82 : decode cX5_bestKink 82 = .ok (.iload 6, 2) := by decide +kernel
theorem dX5_bestKink_84 : decode cX5_bestKink 84 = .ok (.if_icmp .ne 8, 3) := by decide +kernel
theorem dX5_bestKink_87 : decode cX5_bestKink 87 = .ok (.lload 7, 2) := by decide +kernel
theorem dX5_bestKink_89 : decode cX5_bestKink 89 = .ok (.goto 5, 3) := by decide +kernel
theorem dX5_bestKink_92 : decode cX5_bestKink 92 = .ok (.lload 4, 2) := by decide +kernel
theorem dX5_bestKink_94 : decode cX5_bestKink 94 = .ok (.lstore 4, 2) := by decide +kernel
theorem dX5_bestKink_96 : decode cX5_bestKink 96 = .ok (.iinc 6 25, 3) := by decide +kernel
theorem dX5_bestKink_99 : decode cX5_bestKink 99 = .ok (.goto (-60), 3) := by decide +kernel
theorem dX5_bestKink_102 : decode cX5_bestKink 102 = .ok (.aload_n 0, 1) := by decide +kernel
theorem dX5_bestKink_103 : decode cX5_bestKink 103 = .ok (.getfield 7, 3) := by decide +kernel
theorem dX5_bestKink_106 : decode cX5_bestKink 106 = .ok (.iconst 2, 1) := by decide +kernel
theorem dX5_bestKink_107 : decode cX5_bestKink 107 = .ok (.iload_n 1, 1) := by decide +kernel
theorem dX5_bestKink_108 : decode cX5_bestKink 108 = .ok (.iastore, 1) := by decide +kernel
theorem dX5_bestKink_109 : decode cX5_bestKink 109 = .ok (.aload_n 0, 1) := by decide +kernel
theorem dX5_bestKink_110 : decode cX5_bestKink 110 = .ok (.getfield 7, 3) := by decide +kernel
theorem dX5_bestKink_113 : decode cX5_bestKink 113 = .ok (.iconst 3, 1) := by decide +kernel
theorem dX5_bestKink_114 : decode cX5_bestKink 114 = .ok (.iload_n 2, 1) := by decide +kernel
theorem dX5_bestKink_115 : decode cX5_bestKink 115 = .ok (.iastore, 1) := by decide +kernel
theorem dX5_bestKink_116 : decode cX5_bestKink 116 = .ok (.iload_n 3, 1) := by decide +kernel
theorem dX5_bestKink_117 : decode cX5_bestKink 117 = .ok (.ireturn, 1) := by decide +kernel
set_option maxRecDepth 20000 in
theorem ggX5_neededAccumulation_X5_isLayer : GoodIn wsX5_neededAccumulation wsX5_isLayer := goodIn_r _ [7, 8, 9, 10, 6, 11, 34, 35, 36, 37, 38, 39, 40, 41, 42, 43, 44, 45] (by decide +kernel) (by decide +kernel)
set_option maxRecDepth 20000 in
theorem gX5_neededAccumulation_X5_isLayer : GoodIn wsX5_neededAccumulation (wsV RX5 110 RX5 yX5_isLayer wsX5_isLayer) := goodIn_app (goodIn_of _ (by decide +kernel)) ggX5_neededAccumulation_X5_isLayer
set_option maxRecDepth 20000 in
theorem ggX5_neededAccumulation_X5_of : GoodIn wsX5_neededAccumulation wsX5_of := goodIn_r _ [15, 8, 34, 35, 36, 37, 38, 39, 40, 41, 42, 43, 44, 45] (by decide +kernel) (by decide +kernel)
set_option maxRecDepth 20000 in
theorem gX5_neededAccumulation_X5_of : GoodIn wsX5_neededAccumulation (wsV RX5 49 RX5 yX5_of wsX5_of) := goodIn_app (goodIn_of _ (by decide +kernel)) ggX5_neededAccumulation_X5_of
set_option maxRecDepth 20000 in
theorem ggX5_neededAccumulation_X5_thinningOf : GoodIn wsX5_neededAccumulation wsX5_thinningOf := goodIn_r _ [19, 8, 20, 21, 22, 12, 13, 14, 6, 15, 23, 24, 25, 26, 34, 35, 36, 37, 38, 39, 40, 41, 42, 43, 44, 45] (by decide +kernel) (by decide +kernel)
set_option maxRecDepth 20000 in
theorem gX5_neededAccumulation_X5_thinningOf : GoodIn wsX5_neededAccumulation (wsV RX5 65 RX5 yX5_thinningOf wsX5_thinningOf) := goodIn_app (goodIn_of _ (by decide +kernel)) ggX5_neededAccumulation_X5_thinningOf
set_option maxRecDepth 20000 in
theorem ggX5_neededAccumulation_X5_yearsBy : GoodIn wsX5_neededAccumulation wsX5_yearsBy := goodIn_r _ [29, 30] (by decide +kernel) (by decide +kernel)
set_option maxRecDepth 20000 in
theorem gX5_neededAccumulation_X5_yearsBy : GoodIn wsX5_neededAccumulation (va_wsS RX5 68 yX5_yearsBy wsX5_yearsBy) := goodIn_app (goodIn_of _ (by decide +kernel)) ggX5_neededAccumulation_X5_yearsBy
set_option maxRecDepth 20000 in
theorem ggX5_neededAccumulation_X5_size : GoodIn wsX5_neededAccumulation wsX5_size := goodIn_r _ [33] (by decide +kernel) (by decide +kernel)
set_option maxRecDepth 20000 in
theorem gX5_neededAccumulation_X5_size : GoodIn wsX5_neededAccumulation (va_wsS RX5 96 yX5_size wsX5_size) := goodIn_app (goodIn_of _ (by decide +kernel)) ggX5_neededAccumulation_X5_size
theorem dX5_neededAccumulation_0 : decode cX5_neededAccumulation 0 = .ok (.aload_n 0, 1) := by decide +kernel
theorem dX5_neededAccumulation_1 : decode cX5_neededAccumulation 1 = .ok (.iload_n 1, 1) := by decide +kernel
theorem dX5_neededAccumulation_2 : decode cX5_neededAccumulation 2 = .ok (.invokevirtual 110, 3) := by decide +kernel
theorem dX5_neededAccumulation_5 : decode cX5_neededAccumulation 5 = .ok (.ifCond .ne 6, 3) := by decide +kernel
theorem dX5_neededAccumulation_8 : decode cX5_neededAccumulation 8 = .ok (.ldc 114, 2) := by decide +kernel
theorem dX5_neededAccumulation_10 : decode cX5_neededAccumulation 10 = .ok (.ireturn, 1) := by decide +kernel
theorem dX5_neededAccumulation_11 : decode cX5_neededAccumulation 11 = .ok (.aload_n 0, 1) := by decide +kernel
theorem dX5_neededAccumulation_12 : decode cX5_neededAccumulation 12 = .ok (.iload_n 1, 1) := by decide +kernel
theorem dX5_neededAccumulation_13 : decode cX5_neededAccumulation 13 = .ok (.bipush 12, 2) := by decide +kernel
theorem dX5_neededAccumulation_15 : decode cX5_neededAccumulation 15 = .ok (.invokevirtual 49, 3) := by decide +kernel
theorem dX5_neededAccumulation_18 : decode cX5_neededAccumulation 18 = .ok (.istore_n 2, 1) := by decide +kernel
theorem dX5_neededAccumulation_19 : decode cX5_neededAccumulation 19 = .ok (.iload_n 2, 1) := by decide +kernel
theorem dX5_neededAccumulation_20 : decode cX5_neededAccumulation 20 = .ok (.ifCond .ne 6, 3) := by decide +kernel
theorem dX5_neededAccumulation_23 : decode cX5_neededAccumulation 23 = .ok (.ldc 22, 2) := by decide +kernel
theorem dX5_neededAccumulation_25 : decode cX5_neededAccumulation 25 = .ok (.ireturn, 1) := by decide +kernel
theorem dX5_neededAccumulation_26 : decode cX5_neededAccumulation 26 = .ok (.aload_n 0, 1) := by decide +kernel
theorem dX5_neededAccumulation_27 : decode cX5_neededAccumulation 27 = .ok (.iload_n 1, 1) := by decide +kernel
theorem dX5_neededAccumulation_28 : decode cX5_neededAccumulation 28 = .ok (.invokevirtual 65, 3) := by decide +kernel
theorem dX5_neededAccumulation_31 : decode cX5_neededAccumulation 31 = .ok (.istore_n 3, 1) := by decide +kernel
theorem dX5_neededAccumulation_32 : decode cX5_neededAccumulation 32 = .ok (.iconst 0, 1) := by decide +kernel
theorem dX5_neededAccumulation_33 : decode cX5_neededAccumulation 33 = .ok (.istore 4, 2) := by decide +kernel
theorem dX5_neededAccumulation_35 : decode cX5_neededAccumulation 35 = .ok (.lconst 0, 1) := by decide +kernel
theorem dX5_neededAccumulation_36 : decode cX5_neededAccumulation 36 = .ok (.lstore 5, 2) := by decide +kernel
theorem dX5_neededAccumulation_38 : decode cX5_neededAccumulation 38 = .ok (.bipush 10, 2) := by decide +kernel
theorem dX5_neededAccumulation_40 : decode cX5_neededAccumulation 40 = .ok (.istore 7, 2) := by decide +kernel
theorem dX5_neededAccumulation_42 : decode cX5_neededAccumulation 42 = .ok (.iload 7, 2) := by decide +kernel
theorem dX5_neededAccumulation_44 : decode cX5_neededAccumulation 44 = .ok (.sipush 2000, 3) := by decide +kernel
theorem dX5_neededAccumulation_47 : decode cX5_neededAccumulation 47 = .ok (.if_icmp .gt 80, 3) := by decide +kernel
theorem dX5_neededAccumulation_50 : decode cX5_neededAccumulation 50 = .ok (.aload_n 0, 1) := by decide +kernel
theorem dX5_neededAccumulation_51 : decode cX5_neededAccumulation 51 = .ok (.iload_n 1, 1) := by decide +kernel
theorem dX5_neededAccumulation_52 : decode cX5_neededAccumulation 52 = .ok (.iconst 5, 1) := by decide +kernel
theorem dX5_neededAccumulation_53 : decode cX5_neededAccumulation 53 = .ok (.invokevirtual 49, 3) := by decide +kernel
theorem dX5_neededAccumulation_56 : decode cX5_neededAccumulation 56 = .ok (.i2l, 1) := by decide +kernel
theorem dX5_neededAccumulation_57 : decode cX5_neededAccumulation 57 = .ok (.iload 7, 2) := by decide +kernel
theorem dX5_neededAccumulation_59 : decode cX5_neededAccumulation 59 = .ok (.i2l, 1) := by decide +kernel
theorem dX5_neededAccumulation_60 : decode cX5_neededAccumulation 60 = .ok (.aload_n 0, 1) := by decide +kernel
theorem dX5_neededAccumulation_61 : decode cX5_neededAccumulation 61 = .ok (.iload_n 1, 1) := by decide +kernel
theorem dX5_neededAccumulation_62 : decode cX5_neededAccumulation 62 = .ok (.bipush 7, 2) := by decide +kernel
theorem dX5_neededAccumulation_64 : decode cX5_neededAccumulation 64 = .ok (.invokevirtual 49, 3) := by decide +kernel
theorem dX5_neededAccumulation_67 : decode cX5_neededAccumulation 67 = .ok (.i2l, 1) := by decide +kernel
theorem dX5_neededAccumulation_68 : decode cX5_neededAccumulation 68 = .ok (.iload_n 3, 1) := by decide +kernel
theorem dX5_neededAccumulation_69 : decode cX5_neededAccumulation 69 = .ok (.i2l, 1) := by decide +kernel
theorem dX5_neededAccumulation_70 : decode cX5_neededAccumulation 70 = .ok (.invokestatic 68, 3) := by decide +kernel
theorem dX5_neededAccumulation_73 : decode cX5_neededAccumulation 73 = .ok (.iload_n 2, 1) := by decide +kernel
theorem dX5_neededAccumulation_74 : decode cX5_neededAccumulation 74 = .ok (.isub, 1) := by decide +kernel
theorem dX5_neededAccumulation_75 : decode cX5_neededAccumulation 75 = .ok (.i2l, 1) := by decide +kernel
theorem dX5_neededAccumulation_76 : decode cX5_neededAccumulation 76 = .ok (.invokestatic 96, 3) := by decide +kernel
theorem dX5_neededAccumulation_79 : decode cX5_neededAccumulation 79 = .ok (.lstore 8, 2) := by decide +kernel
theorem dX5_neededAccumulation_81 : decode cX5_neededAccumulation 81 = .ok (.iload 7, 2) := by decide +kernel
theorem dX5_neededAccumulation_83 : decode cX5_neededAccumulation 83 = .ok (.bipush 10, 2) := by decide +kernel
theorem dX5_neededAccumulation_85 : decode cX5_neededAccumulation 85 = .ok (.if_icmp .eq 11, 3) := by decide +kernel
theorem dX5_neededAccumulation_88 : decode cX5_neededAccumulation 88 = .ok (.lload 8, 2) := by decide +kernel
theorem dX5_neededAccumulation_90 : decode cX5_neededAccumulation 90 = .ok (.lload 5, 2) := by decide +kernel
theorem dX5_neededAccumulation_92 : decode cX5_neededAccumulation 92 = .ok (.lcmp, 1) := by decide +kernel
theorem dX5_neededAccumulation_93 : decode cX5_neededAccumulation 93 = .ok (.ifCond .ge 8, 3) := by decide +kernel
theorem dX5_neededAccumulation_96 : decode cX5_neededAccumulation 96 = .ok (.iload 7, 2) := by decide +kernel
theorem dX5_neededAccumulation_98 : decode cX5_neededAccumulation 98 = .ok (.goto 5, 3) := by decide +kernel
theorem dX5_neededAccumulation_101 : decode cX5_neededAccumulation 101 = .ok (.iload 4, 2) := by decide +kernel
theorem dX5_neededAccumulation_103 : decode cX5_neededAccumulation 103 = .ok (.istore 4, 2) := by decide +kernel
theorem dX5_neededAccumulation_105 : decode cX5_neededAccumulation 105 = .ok (.iload 4, 2) := by decide +kernel
theorem dX5_neededAccumulation_107 : decode cX5_neededAccumulation 107 = .ok (.iload 7, 2) := by decide +kernel
theorem dX5_neededAccumulation_109 : decode cX5_neededAccumulation 109 = .ok (.if_icmp .ne 8, 3) := by decide +kernel
theorem dX5_neededAccumulation_112 : decode cX5_neededAccumulation 112 = .ok (.lload 8, 2) := by decide +kernel
theorem dX5_neededAccumulation_114 : decode cX5_neededAccumulation 114 = .ok (.goto 5, 3) := by decide +kernel
theorem dX5_neededAccumulation_117 : decode cX5_neededAccumulation 117 = .ok (.lload 5, 2) := by decide +kernel
theorem dX5_neededAccumulation_119 : decode cX5_neededAccumulation 119 = .ok (.lstore 5, 2) := by decide +kernel
theorem dX5_neededAccumulation_121 : decode cX5_neededAccumulation 121 = .ok (.iinc 7 1, 3) := by decide +kernel
theorem dX5_neededAccumulation_124 : decode cX5_neededAccumulation 124 = .ok (.goto (-82), 3) := by decide +kernel
theorem dX5_neededAccumulation_127 : decode cX5_neededAccumulation 127 = .ok (.iload 4, 2) := by decide +kernel
theorem dX5_neededAccumulation_129 : decode cX5_neededAccumulation 129 = .ok (.ireturn, 1) := by decide +kernel
