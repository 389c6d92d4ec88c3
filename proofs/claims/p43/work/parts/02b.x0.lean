theorem dX0_init_0 : decode cX0_init 0 = .ok (.aload_n 0, 1) := by decide +kernel
theorem dX0_init_1 : decode cX0_init 1 = .ok (.invokespecial 3, 3) := by decide +kernel
theorem dX0_init_4 : decode cX0_init 4 = .ok (.aload_n 0, 1) := by decide +kernel
theorem dX0_init_5 : decode cX0_init 5 = .ok (.iconst 0, 1) := by decide +kernel
theorem dX0_init_6 : decode cX0_init 6 = .ok (.putfield 9, 3) := by decide +kernel
theorem dX0_init_9 : decode cX0_init 9 = .ok (.aload_n 0, 1) := by decide +kernel
theorem dX0_init_10 : decode cX0_init 10 = .ok (.ldc 15, 2) := by decide +kernel
theorem dX0_init_12 : decode cX0_init 12 = .ok (.putfield 16, 3) := by decide +kernel
theorem dX0_init_15 : decode cX0_init 15 = .ok (.aload_n 0, 1) := by decide +kernel
theorem dX0_init_16 : decode cX0_init 16 = .ok (.iconst 0, 1) := by decide +kernel
theorem dX0_init_17 : decode cX0_init 17 = .ok (.putfield 19, 3) := by decide +kernel
theorem dX0_init_20 : decode cX0_init 20 = .ok (.aload_n 0, 1) := by decide +kernel
theorem dX0_init_21 : decode cX0_init 21 = .ok (.sipush 300, 3) := by decide +kernel
theorem dX0_init_24 : decode cX0_init 24 = .ok (.putfield 22, 3) := by decide +kernel
theorem dX0_init_27 : decode cX0_init 27 = .ok (.aload_n 0, 1) := by decide +kernel
theorem dX0_init_28 : decode cX0_init 28 = .ok (.sipush 7000, 3) := by decide +kernel
theorem dX0_init_31 : decode cX0_init 31 = .ok (.putfield 25, 3) := by decide +kernel
theorem dX0_init_34 : decode cX0_init 34 = .ok (.aload_n 0, 1) := by decide +kernel
theorem dX0_init_35 : decode cX0_init 35 = .ok (.bipush 16, 2) := by decide +kernel
theorem dX0_init_37 : decode cX0_init 37 = .ok (.newarray .int, 2) := by decide +kernel
theorem dX0_init_39 : decode cX0_init 39 = .ok (.putfield 28, 3) := by decide +kernel
theorem dX0_init_42 : decode cX0_init 42 = .ok (.aload_n 0, 1) := by decide +kernel
theorem dX0_init_43 : decode cX0_init 43 = .ok (.bipush 16, 2) := by decide +kernel
theorem dX0_init_45 : decode cX0_init 45 = .ok (.newarray .int, 2) := by decide +kernel
theorem dX0_init_47 : decode cX0_init 47 = .ok (.putfield 32, 3) := by decide +kernel
theorem dX0_init_50 : decode cX0_init 50 = .ok (.aload_n 0, 1) := by decide +kernel
theorem dX0_init_51 : decode cX0_init 51 = .ok (.bipush 16, 2) := by decide +kernel
theorem dX0_init_53 : decode cX0_init 53 = .ok (.newarray .int, 2) := by decide +kernel
theorem dX0_init_55 : decode cX0_init 55 = .ok (.putfield 35, 3) := by decide +kernel
theorem dX0_init_58 : decode cX0_init 58 = .ok (.aload_n 0, 1) := by decide +kernel
theorem dX0_init_59 : decode cX0_init 59 = .ok (.bipush 16, 2) := by decide +kernel
theorem dX0_init_61 : decode cX0_init 61 = .ok (.newarray .int, 2) := by decide +kernel
theorem dX0_init_63 : decode cX0_init 63 = .ok (.putfield 38, 3) := by decide +kernel
theorem dX0_init_66 : decode cX0_init 66 = .ok (.aload_n 0, 1) := by decide +kernel
theorem dX0_init_67 : decode cX0_init 67 = .ok (.bipush 16, 2) := by decide +kernel
theorem dX0_init_69 : decode cX0_init 69 = .ok (.newarray .int, 2) := by decide +kernel
theorem dX0_init_71 : decode cX0_init 71 = .ok (.putfield 41, 3) := by decide +kernel
theorem dX0_init_74 : decode cX0_init 74 = .ok (.aload_n 0, 1) := by decide +kernel
theorem dX0_init_75 : decode cX0_init 75 = .ok (.bipush 16, 2) := by decide +kernel
theorem dX0_init_77 : decode cX0_init 77 = .ok (.newarray .int, 2) := by decide +kernel
theorem dX0_init_79 : decode cX0_init 79 = .ok (.putfield 44, 3) := by decide +kernel
theorem dX0_init_82 : decode cX0_init 82 = .ok (.aload_n 0, 1) := by decide +kernel
theorem dX0_init_83 : decode cX0_init 83 = .ok (.bipush 16, 2) := by decide +kernel
theorem dX0_init_85 : decode cX0_init 85 = .ok (.newarray .int, 2) := by decide +kernel
theorem dX0_init_87 : decode cX0_init 87 = .ok (.putfield 47, 3) := by decide +kernel
theorem dX0_init_90 : decode cX0_init 90 = .ok (.return_, 1) := by decide +kernel
theorem dX0_copyFrom_0 : decode cX0_copyFrom 0 = .ok (.aload_n 0, 1) := by decide +kernel
theorem dX0_copyFrom_1 : decode cX0_copyFrom 1 = .ok (.aload_n 1, 1) := by decide +kernel
theorem dX0_copyFrom_2 : decode cX0_copyFrom 2 = .ok (.getfield 9, 3) := by decide +kernel
theorem dX0_copyFrom_5 : decode cX0_copyFrom 5 = .ok (.putfield 9, 3) := by decide +kernel
theorem dX0_copyFrom_8 : decode cX0_copyFrom 8 = .ok (.aload_n 0, 1) := by decide +kernel
theorem dX0_copyFrom_9 : decode cX0_copyFrom 9 = .ok (.aload_n 1, 1) := by decide +kernel
theorem dX0_copyFrom_10 : decode cX0_copyFrom 10 = .ok (.getfield 16, 3) := by decide +kernel
theorem dX0_copyFrom_13 : decode cX0_copyFrom 13 = .ok (.putfield 16, 3) := by decide +kernel
theorem dX0_copyFrom_16 : decode cX0_copyFrom 16 = .ok (.aload_n 0, 1) := by decide +kernel
theorem dX0_copyFrom_17 : decode cX0_copyFrom 17 = .ok (.aload_n 1, 1) := by decide +kernel
theorem dX0_copyFrom_18 : decode cX0_copyFrom 18 = .ok (.getfield 19, 3) := by decide +kernel
theorem dX0_copyFrom_21 : decode cX0_copyFrom 21 = .ok (.putfield 19, 3) := by decide +kernel
theorem dX0_copyFrom_24 : decode cX0_copyFrom 24 = .ok (.aload_n 0, 1) := by decide +kernel
theorem dX0_copyFrom_25 : decode cX0_copyFrom 25 = .ok (.aload_n 1, 1) := by decide +kernel
theorem dX0_copyFrom_26 : decode cX0_copyFrom 26 = .ok (.getfield 22, 3) := by decide +kernel
theorem dX0_copyFrom_29 : decode cX0_copyFrom 29 = .ok (.putfield 22, 3) := by decide +kernel
theorem dX0_copyFrom_32 : decode cX0_copyFrom 32 = .ok (.aload_n 0, 1) := by decide +kernel
theorem dX0_copyFrom_33 : decode cX0_copyFrom 33 = .ok (.aload_n 1, 1) := by decide +kernel
theorem dX0_copyFrom_34 : decode cX0_copyFrom 34 = .ok (.getfield 25, 3) := by decide +kernel
theorem dX0_copyFrom_37 : decode cX0_copyFrom 37 = .ok (.putfield 25, 3) := by decide +kernel
theorem dX0_copyFrom_40 : decode cX0_copyFrom 40 = .ok (.aload_n 1, 1) := by decide +kernel
theorem dX0_copyFrom_41 : decode cX0_copyFrom 41 = .ok (.getfield 28, 3) := by decide +kernel
theorem dX0_copyFrom_44 : decode cX0_copyFrom 44 = .ok (.iconst 0, 1) := by decide +kernel
theorem dX0_copyFrom_45 : decode cX0_copyFrom 45 = .ok (.aload_n 0, 1) := by decide +kernel
theorem dX0_copyFrom_46 : decode cX0_copyFrom 46 = .ok (.getfield 28, 3) := by decide +kernel
theorem dX0_copyFrom_49 : decode cX0_copyFrom 49 = .ok (.iconst 0, 1) := by decide +kernel
theorem dX0_copyFrom_50 : decode cX0_copyFrom 50 = .ok (.bipush 16, 2) := by decide +kernel
theorem dX0_copyFrom_52 : decode cX0_copyFrom 52 = .ok (.invokestatic 50, 3) := by decide +kernel
theorem dX0_copyFrom_55 : decode cX0_copyFrom 55 = .ok (.aload_n 1, 1) := by decide +kernel
theorem dX0_copyFrom_56 : decode cX0_copyFrom 56 = .ok (.getfield 32, 3) := by decide +kernel
theorem dX0_copyFrom_59 : decode cX0_copyFrom 59 = .ok (.iconst 0, 1) := by decide +kernel
theorem dX0_copyFrom_60 : decode cX0_copyFrom 60 = .ok (.aload_n 0, 1) := by decide +kernel
theorem dX0_copyFrom_61 : decode cX0_copyFrom 61 = .ok (.getfield 32, 3) := by decide +kernel
theorem dX0_copyFrom_64 : decode cX0_copyFrom 64 = .ok (.iconst 0, 1) := by decide +kernel
theorem dX0_copyFrom_65 : decode cX0_copyFrom 65 = .ok (.bipush 16, 2) := by decide +kernel
theorem dX0_copyFrom_67 : decode cX0_copyFrom 67 = .ok (.invokestatic 50, 3) := by decide +kernel
theorem dX0_copyFrom_70 : decode cX0_copyFrom 70 = .ok (.aload_n 1, 1) := by decide +kernel
theorem dX0_copyFrom_71 : decode cX0_copyFrom 71 = .ok (.getfield 35, 3) := by decide +kernel
theorem dX0_copyFrom_74 : decode cX0_copyFrom 74 = .ok (.iconst 0, 1) := by decide +kernel
theorem dX0_copyFrom_75 : decode cX0_copyFrom 75 = .ok (.aload_n 0, 1) := by decide +kernel
theorem dX0_copyFrom_76 : decode cX0_copyFrom 76 = .ok (.getfield 35, 3) := by decide +kernel
theorem dX0_copyFrom_79 : decode cX0_copyFrom 79 = .ok (.iconst 0, 1) := by decide +kernel
theorem dX0_copyFrom_80 : decode cX0_copyFrom 80 = .ok (.bipush 16, 2) := by decide +kernel
theorem dX0_copyFrom_82 : decode cX0_copyFrom 82 = .ok (.invokestatic 50, 3) := by decide +kernel
theorem dX0_copyFrom_85 : decode cX0_copyFrom 85 = .ok (.aload_n 1, 1) := by decide +kernel
theorem dX0_copyFrom_86 : decode cX0_copyFrom 86 = .ok (.getfield 38, 3) := by decide +kernel
theorem dX0_copyFrom_89 : decode cX0_copyFrom 89 = .ok (.iconst 0, 1) := by decide +kernel
theorem dX0_copyFrom_90 : decode cX0_copyFrom 90 = .ok (.aload_n 0, 1) := by decide +kernel
theorem dX0_copyFrom_91 : decode cX0_copyFrom 91 = .ok (.getfield 38, 3) := by decide +kernel
theorem dX0_copyFrom_94 : decode cX0_copyFrom 94 = .ok (.iconst 0, 1) := by decide +kernel
theorem dX0_copyFrom_95 : decode cX0_copyFrom 95 = .ok (.bipush 16, 2) := by decide +kernel
theorem dX0_copyFrom_97 : decode cX0_copyFrom 97 = .ok (.invokestatic 50, 3) := by decide +kernel
theorem dX0_copyFrom_100 : decode cX0_copyFrom 100 = .ok (.aload_n 1, 1) := by decide +kernel
theorem dX0_copyFrom_101 : decode cX0_copyFrom 101 = .ok (.getfield 41, 3) := by decide +kernel
theorem dX0_copyFrom_104 : decode cX0_copyFrom 104 = .ok (.iconst 0, 1) := by decide +kernel
theorem dX0_copyFrom_105 : decode cX0_copyFrom 105 = .ok (.aload_n 0, 1) := by decide +kernel
theorem dX0_copyFrom_106 : decode cX0_copyFrom 106 = .ok (.getfield 41, 3) := by decide +kernel
theorem dX0_copyFrom_109 : decode cX0_copyFrom 109 = .ok (.iconst 0, 1) := by decide +kernel
theorem dX0_copyFrom_110 : decode cX0_copyFrom 110 = .ok (.bipush 16, 2) := by decide +kernel
theorem dX0_copyFrom_112 : decode cX0_copyFrom 112 = .ok (.invokestatic 50, 3) := by decide +kernel
theorem dX0_copyFrom_115 : decode cX0_copyFrom 115 = .ok (.aload_n 1, 1) := by decide +kernel
theorem dX0_copyFrom_116 : decode cX0_copyFrom 116 = .ok (.getfield 44, 3) := by decide +kernel
theorem dX0_copyFrom_119 : decode cX0_copyFrom 119 = .ok (.iconst 0, 1) := by decide +kernel
theorem dX0_copyFrom_120 : decode cX0_copyFrom 120 = .ok (.aload_n 0, 1) := by decide +kernel
theorem dX0_copyFrom_121 : decode cX0_copyFrom 121 = .ok (.getfield 44, 3) := by decide +kernel
theorem dX0_copyFrom_124 : decode cX0_copyFrom 124 = .ok (.iconst 0, 1) := by decide +kernel
theorem dX0_copyFrom_125 : decode cX0_copyFrom 125 = .ok (.bipush 16, 2) := by decide +kernel
theorem dX0_copyFrom_127 : decode cX0_copyFrom 127 = .ok (.invokestatic 50, 3) := by decide +kernel
theorem dX0_copyFrom_130 : decode cX0_copyFrom 130 = .ok (.aload_n 1, 1) := by decide +kernel
theorem dX0_copyFrom_131 : decode cX0_copyFrom 131 = .ok (.getfield 47, 3) := by decide +kernel
theorem dX0_copyFrom_134 : decode cX0_copyFrom 134 = .ok (.iconst 0, 1) := by decide +kernel
theorem dX0_copyFrom_135 : decode cX0_copyFrom 135 = .ok (.aload_n 0, 1) := by decide +kernel
theorem dX0_copyFrom_136 : decode cX0_copyFrom 136 = .ok (.getfield 47, 3) := by decide +kernel
theorem dX0_copyFrom_139 : decode cX0_copyFrom 139 = .ok (.iconst 0, 1) := by decide +kernel
theorem dX0_copyFrom_140 : decode cX0_copyFrom 140 = .ok (.bipush 16, 2) := by decide +kernel
theorem dX0_copyFrom_142 : decode cX0_copyFrom 142 = .ok (.invokestatic 50, 3) := by decide +kernel
theorem dX0_copyFrom_145 : decode cX0_copyFrom 145 = .ok (.return_, 1) := by decide +kernel
theorem dX0_has_0 : decode cX0_has 0 = .ok (.iload_n 1, 1) := by decide +kernel
theorem dX0_has_1 : decode cX0_has 1 = .ok (.ifCond .lt 15, 3) := by decide +kernel
theorem dX0_has_4 : decode cX0_has 4 = .ok (.iload_n 1, 1) := by decide +kernel
theorem dX0_has_5 : decode cX0_has 5 = .ok (.aload_n 0, 1) := by decide +kernel
theorem dX0_has_6 : decode cX0_has 6 = .ok (.getfield 9, 3) := by decide +kernel
theorem dX0_has_9 : decode cX0_has 9 = .ok (.if_icmp .ge 7, 3) := by decide +kernel
theorem dX0_has_12 : decode cX0_has 12 = .ok (.iconst 1, 1) := by decide +kernel
theorem dX0_has_13 : decode cX0_has 13 = .ok (.goto 4, 3) := by decide +kernel
theorem dX0_has_16 : decode cX0_has 16 = .ok (.iconst 0, 1) := by decide +kernel
theorem dX0_has_17 : decode cX0_has 17 = .ok (.ireturn, 1) := by decide +kernel
set_option maxRecDepth 20000 in
theorem ggX0_hasAsh_X0_has : GoodIn wsX0_hasAsh wsX0_has := goodIn_r _ [6, 7, 8, 9, 10, 11, 12, 13, 14, 15, 16, 17, 18, 19] (by decide +kernel) (by decide +kernel)
set_option maxRecDepth 20000 in
theorem gX0_hasAsh_X0_has : GoodIn wsX0_hasAsh (wsV RX0 56 RX0 yX0_has wsX0_has) := goodIn_app (goodIn_of _ (by decide +kernel)) ggX0_hasAsh_X0_has
theorem dX0_hasAsh_0 : decode cX0_hasAsh 0 = .ok (.aload_n 0, 1) := by decide +kernel
theorem dX0_hasAsh_1 : decode cX0_hasAsh 1 = .ok (.iload_n 1, 1) := by decide +kernel
theorem dX0_hasAsh_2 : decode cX0_hasAsh 2 = .ok (.invokevirtual 56, 3) := by decide +kernel
theorem dX0_hasAsh_5 : decode cX0_hasAsh 5 = .ok (.ifCond .eq 17, 3) := by decide +kernel
theorem dX0_hasAsh_8 : decode cX0_hasAsh 8 = .ok (.aload_n 0, 1) := by decide +kernel
theorem dX0_hasAsh_9 : decode cX0_hasAsh 9 = .ok (.getfield 41, 3) := by decide +kernel
theorem dX0_hasAsh_12 : decode cX0_hasAsh 12 = .ok (.iload_n 1, 1) := by decide +kernel
theorem dX0_hasAsh_13 : decode cX0_hasAsh 13 = .ok (.iaload, 1) := by decide +kernel
theorem dX0_hasAsh_14 : decode cX0_hasAsh 14 = .ok (.iconst (-1), 1) := by decide +kernel
theorem dX0_hasAsh_15 : decode cX0_hasAsh 15 = .ok (.if_icmp .eq 7, 3) := by decide +kernel
theorem dX0_hasAsh_18 : decode cX0_hasAsh 18 = .ok (.iconst 1, 1) := by decide +kernel
theorem dX0_hasAsh_19 : decode cX0_hasAsh 19 = .ok (.goto 4, 3) := by decide +kernel
theorem dX0_hasAsh_22 : decode cX0_hasAsh 22 = .ok (.iconst 0, 1) := by decide +kernel
theorem dX0_hasAsh_23 : decode cX0_hasAsh 23 = .ok (.ireturn, 1) := by decide +kernel
set_option maxRecDepth 20000 in
theorem ggX0_hasCount_X0_has : GoodIn wsX0_hasCount wsX0_has := goodIn_r _ [6, 7, 8, 9, 10, 11, 12, 13, 14, 15, 16, 17, 18, 19] (by decide +kernel) (by decide +kernel)
set_option maxRecDepth 20000 in
theorem gX0_hasCount_X0_has : GoodIn wsX0_hasCount (wsV RX0 56 RX0 yX0_has wsX0_has) := goodIn_app (goodIn_of _ (by decide +kernel)) ggX0_hasCount_X0_has
theorem dX0_hasCount_0 : decode cX0_hasCount 0 = .ok (.aload_n 0, 1) := by decide +kernel
theorem dX0_hasCount_1 : decode cX0_hasCount 1 = .ok (.iload_n 1, 1) := by decide +kernel
theorem dX0_hasCount_2 : decode cX0_hasCount 2 = .ok (.invokevirtual 56, 3) := by decide +kernel
theorem dX0_hasCount_5 : decode cX0_hasCount 5 = .ok (.ifCond .eq 16, 3) := by decide +kernel
theorem dX0_hasCount_8 : decode cX0_hasCount 8 = .ok (.aload_n 0, 1) := by decide +kernel
theorem dX0_hasCount_9 : decode cX0_hasCount 9 = .ok (.getfield 47, 3) := by decide +kernel
theorem dX0_hasCount_12 : decode cX0_hasCount 12 = .ok (.iload_n 1, 1) := by decide +kernel
theorem dX0_hasCount_13 : decode cX0_hasCount 13 = .ok (.iaload, 1) := by decide +kernel
theorem dX0_hasCount_14 : decode cX0_hasCount 14 = .ok (.ifCond .eq 7, 3) := by decide +kernel
theorem dX0_hasCount_17 : decode cX0_hasCount 17 = .ok (.iconst 1, 1) := by decide +kernel
theorem dX0_hasCount_18 : decode cX0_hasCount 18 = .ok (.goto 4, 3) := by decide +kernel
theorem dX0_hasCount_21 : decode cX0_hasCount 21 = .ok (.iconst 0, 1) := by decide +kernel
theorem dX0_hasCount_22 : decode cX0_hasCount 22 = .ok (.ireturn, 1) := by decide +kernel
set_option maxRecDepth 20000 in
theorem ggX0_ashBeds_X0_hasAsh : GoodIn wsX0_ashBeds wsX0_hasAsh := goodIn_r _ [6, 7, 8, 9, 10, 5, 11, 1, 12, 13, 14, 15, 16, 17, 18, 19, 20, 21, 22, 23] (by decide +kernel) (by decide +kernel)
set_option maxRecDepth 20000 in
theorem gX0_ashBeds_X0_hasAsh : GoodIn wsX0_ashBeds (wsV RX0 60 RX0 yX0_hasAsh wsX0_hasAsh) := goodIn_app (goodIn_of _ (by decide +kernel)) ggX0_ashBeds_X0_hasAsh
theorem dX0_ashBeds_0 : decode cX0_ashBeds 0 = .ok (.iconst 0, 1) := by decide +kernel
theorem dX0_ashBeds_1 : decode cX0_ashBeds 1 = .ok (.istore_n 1, 1) := by decide +kernel
theorem dX0_ashBeds_2 : decode cX0_ashBeds 2 = .ok (.iconst 0, 1) := by decide +kernel
theorem dX0_ashBeds_3 : decode cX0_ashBeds 3 = .ok (.istore_n 2, 1) := by decide +kernel
theorem dX0_ashBeds_4 : decode cX0_ashBeds 4 = .ok (.iload_n 2, 1) := by decide +kernel
theorem dX0_ashBeds_5 : decode cX0_ashBeds 5 = .ok (.aload_n 0, 1) := by decide +kernel
theorem dX0_ashBeds_6 : decode cX0_ashBeds 6 = .ok (.getfield 9, 3) := by decide +kernel
theorem dX0_ashBeds_9 : decode cX0_ashBeds 9 = .ok (.if_icmp .ge 20, 3) := by decide +kernel
theorem dX0_ashBeds_12 : decode cX0_ashBeds 12 = .ok (.aload_n 0, 1) := by decide +kernel
theorem dX0_ashBeds_13 : decode cX0_ashBeds 13 = .ok (.iload_n 2, 1) := by decide +kernel
theorem dX0_ashBeds_14 : decode cX0_ashBeds 14 = .ok (.invokevirtual 60, 3) := by decide +kernel
theorem dX0_ashBeds_17 : decode cX0_ashBeds 17 = .ok (.ifCond .eq 6, 3) := by decide +kernel
theorem dX0_ashBeds_20 : decode cX0_ashBeds 20 = .ok (.iinc 1 1, 3) := by decide +kernel
theorem dX0_ashBeds_23 : decode cX0_ashBeds 23 = .ok (.iinc 2 1, 3) := by decide +kernel
theorem dX0_ashBeds_26 : decode cX0_ashBeds 26 = .ok (.goto (-22), 3) := by decide +kernel
theorem dX0_ashBeds_29 : decode cX0_ashBeds 29 = .ok (.iload_n 1, 1) := by decide +kernel
theorem dX0_ashBeds_30 : decode cX0_ashBeds 30 = .ok (.ireturn, 1) := by decide +kernel
theorem dX0_topOf_0 : decode cX0_topOf 0 = .ok (.iconst 0, 1) := by decide +kernel
theorem dX0_topOf_1 : decode cX0_topOf 1 = .ok (.istore_n 2, 1) := by decide +kernel
theorem dX0_topOf_2 : decode cX0_topOf 2 = .ok (.iconst 0, 1) := by decide +kernel
theorem dX0_topOf_3 : decode cX0_topOf 3 = .ok (.istore_n 3, 1) := by decide +kernel
theorem dX0_topOf_4 : decode cX0_topOf 4 = .ok (.iload_n 3, 1) := by decide +kernel
theorem dX0_topOf_5 : decode cX0_topOf 5 = .ok (.iload_n 1, 1) := by decide +kernel
theorem dX0_topOf_6 : decode cX0_topOf 6 = .ok (.if_icmp .ge 26, 3) := by decide +kernel
theorem dX0_topOf_9 : decode cX0_topOf 9 = .ok (.iload_n 3, 1) := by decide +kernel
theorem dX0_topOf_10 : decode cX0_topOf 10 = .ok (.aload_n 0, 1) := by decide +kernel
theorem dX0_topOf_11 : decode cX0_topOf 11 = .ok (.getfield 9, 3) := by decide +kernel
theorem dX0_topOf_14 : decode cX0_topOf 14 = .ok (.if_icmp .ge 18, 3) := by decide +kernel
theorem dX0_topOf_17 : decode cX0_topOf 17 = .ok (.iload_n 2, 1) := by decide +kernel
theorem dX0_topOf_18 : decode cX0_topOf 18 = .ok (.aload_n 0, 1) := by decide +kernel
theorem dX0_topOf_19 : decode cX0_topOf 19 = .ok (.getfield 28, 3) := by decide +kernel
theorem dX0_topOf_22 : decode cX0_topOf 22 = .ok (.iload_n 3, 1) := by decide +kernel
theorem dX0_topOf_23 : decode cX0_topOf 23 = .ok (.iaload, 1) := by decide +kernel
theorem dX0_topOf_24 : decode cX0_topOf 24 = .ok (.iadd, 1) := by decide +kernel
theorem dX0_topOf_25 : decode cX0_topOf 25 = .ok (.istore_n 2, 1) := by decide +kernel
theorem dX0_topOf_26 : decode cX0_topOf 26 = .ok (.iinc 3 1, 3) := by decide +kernel
theorem dX0_topOf_29 : decode cX0_topOf 29 = .ok (.goto (-25), 3) := by decide +kernel
theorem dX0_topOf_32 : decode cX0_topOf 32 = .ok (.iload_n 2, 1) := by decide +kernel
theorem dX0_topOf_33 : decode cX0_topOf 33 = .ok (.ireturn, 1) := by decide +kernel
set_option maxRecDepth 20000 in
theorem ggX0_bottom_X0_topOf : GoodIn wsX0_bottom wsX0_topOf := goodIn_r _ [6, 1, 7, 8, 9, 10, 11, 12, 13, 14, 15, 16, 17, 18, 19] (by decide +kernel) (by decide +kernel)
set_option maxRecDepth 20000 in
theorem gX0_bottom_X0_topOf : GoodIn wsX0_bottom (wsV RX0 63 RX0 yX0_topOf wsX0_topOf) := goodIn_app (goodIn_of _ (by decide +kernel)) ggX0_bottom_X0_topOf
theorem dX0_bottom_0 : decode cX0_bottom 0 = .ok (.aload_n 0, 1) := by decide +kernel
theorem dX0_bottom_1 : decode cX0_bottom 1 = .ok (.aload_n 0, 1) := by decide +kernel
theorem dX0_bottom_2 : decode cX0_bottom 2 = .ok (.getfield 9, 3) := by decide +kernel
theorem dX0_bottom_5 : decode cX0_bottom 5 = .ok (.invokevirtual 63, 3) := by decide +kernel
theorem dX0_bottom_8 : decode cX0_bottom 8 = .ok (.ireturn, 1) := by decide +kernel
set_option maxRecDepth 20000 in
theorem ggX0_append_X4_isBetween : GoodIn wsX0_append wsX4_isBetween := goodIn_r _ [15] (by decide +kernel) (by decide +kernel)
set_option maxRecDepth 20000 in
theorem gX0_append_X4_isBetween_n67 : GoodIn wsX0_append (wsX4_isBetween) := ggX0_append_X4_isBetween
set_option maxRecDepth 20000 in
theorem ggX0_append_X0_bottom : GoodIn wsX0_append wsX0_bottom := goodIn_r _ [20, 4, 21, 22, 23, 19, 24, 6, 25, 26, 27, 28, 29, 30, 31, 32, 33, 34, 35, 36] (by decide +kernel) (by decide +kernel)
set_option maxRecDepth 20000 in
theorem gX0_append_X0_bottom : GoodIn wsX0_append (wsV RX0 72 RX0 yX0_bottom wsX0_bottom) := goodIn_app (goodIn_of _ (by decide +kernel)) ggX0_append_X0_bottom
theorem dX0_append_0 : decode cX0_append 0 = .ok (.iload_n 1, 1) := by decide +kernel
theorem dX0_append_1 : decode cX0_append 1 = .ok (.iconst 1, 1) := by decide +kernel
theorem dX0_append_2 : decode cX0_append 2 = .ok (.sipush 5000, 3) := by decide +kernel
theorem dX0_append_5 : decode cX0_append 5 = .ok (.invokestatic 67, 3) := by decide +kernel
theorem dX0_append_8 : decode cX0_append 8 = .ok (.ifCond .eq 15, 3) := by decide +kernel
theorem dX0_append_11 : decode cX0_append 11 = .ok (.iload_n 2, 1) := by decide +kernel
theorem dX0_append_12 : decode cX0_append 12 = .ok (.bipush 10, 2) := by decide +kernel
theorem dX0_append_14 : decode cX0_append 14 = .ok (.sipush 2000, 3) := by decide +kernel
theorem dX0_append_17 : decode cX0_append 17 = .ok (.invokestatic 67, 3) := by decide +kernel
theorem dX0_append_20 : decode cX0_append 20 = .ok (.ifCond .ne 6, 3) := by decide +kernel
theorem dX0_append_23 : decode cX0_append 23 = .ok (.ldc 71, 2) := by decide +kernel
theorem dX0_append_25 : decode cX0_append 25 = .ok (.ireturn, 1) := by decide +kernel
theorem dX0_append_26 : decode cX0_append 26 = .ok (.aload_n 0, 1) := by decide +kernel
theorem dX0_append_27 : decode cX0_append 27 = .ok (.invokevirtual 72, 3) := by decide +kernel
theorem dX0_append_30 : decode cX0_append 30 = .ok (.iload_n 1, 1) := by decide +kernel
theorem dX0_append_31 : decode cX0_append 31 = .ok (.iadd, 1) := by decide +kernel
theorem dX0_append_32 : decode cX0_append 32 = .ok (.aload_n 0, 1) := by decide +kernel
theorem dX0_append_33 : decode cX0_append 33 = .ok (.getfield 16, 3) := by decide +kernel
theorem dX0_append_36 : decode cX0_append 36 = .ok (.if_icmp .le 6, 3) := by decide +kernel
theorem dX0_append_39 : decode cX0_append 39 = .ok (.ldc 76, 2) := by decide +kernel
theorem dX0_append_41 : decode cX0_append 41 = .ok (.ireturn, 1) := by decide +kernel
theorem dX0_append_42 : decode cX0_append 42 = .ok (.aload_n 0, 1) := by decide +kernel
theorem dX0_append_43 : decode cX0_append 43 = .ok (.getfield 9, 3) := by decide +kernel
theorem dX0_append_46 : decode cX0_append 46 = .ok (.bipush 16, 2) := by decide +kernel
theorem dX0_append_48 : decode cX0_append 48 = .ok (.if_icmp .lt 6, 3) := by decide +kernel
theorem dX0_append_51 : decode cX0_append 51 = .ok (.ldc 77, 2) := by decide +kernel
theorem dX0_append_53 : decode cX0_append 53 = .ok (.ireturn, 1) := by decide +kernel
theorem dX0_append_54 : decode cX0_append 54 = .ok (.aload_n 0, 1) := by decide +kernel
theorem dX0_append_55 : decode cX0_append 55 = .ok (.getfield 28, 3) := by decide +kernel
theorem dX0_append_58 : decode cX0_append 58 = .ok (.aload_n 0, 1) := by decide +kernel
theorem dX0_append_59 : decode cX0_append 59 = .ok (.getfield 9, 3) := by decide +kernel
theorem dX0_append_62 : decode cX0_append 62 = .ok (.iload_n 1, 1) := by decide +kernel
theorem dX0_append_63 : decode cX0_append 63 = .ok (.iastore, 1) := by decide +kernel
theorem dX0_append_64 : decode cX0_append 64 = .ok (.aload_n 0, 1) := by decide +kernel
theorem dX0_append_65 : decode cX0_append 65 = .ok (.getfield 32, 3) := by decide +kernel
theorem dX0_append_68 : decode cX0_append 68 = .ok (.aload_n 0, 1) := by decide +kernel
theorem dX0_append_69 : decode cX0_append 69 = .ok (.getfield 9, 3) := by decide +kernel
theorem dX0_append_72 : decode cX0_append 72 = .ok (.iload_n 2, 1) := by decide +kernel
theorem dX0_append_73 : decode cX0_append 73 = .ok (.iastore, 1) := by decide +kernel
theorem dX0_append_74 : decode cX0_append 74 = .ok (.aload_n 0, 1) := by decide +kernel
theorem dX0_append_75 : decode cX0_append 75 = .ok (.getfield 35, 3) := by decide +kernel
theorem dX0_append_78 : decode cX0_append 78 = .ok (.aload_n 0, 1) := by decide +kernel
theorem dX0_append_79 : decode cX0_append 79 = .ok (.getfield 9, 3) := by decide +kernel
theorem dX0_append_82 : decode cX0_append 82 = .ok (.sipush 1000, 3) := by decide +kernel
theorem dX0_append_85 : decode cX0_append 85 = .ok (.iastore, 1) := by decide +kernel
theorem dX0_append_86 : decode cX0_append 86 = .ok (.aload_n 0, 1) := by decide +kernel
theorem dX0_append_87 : decode cX0_append 87 = .ok (.getfield 38, 3) := by decide +kernel
theorem dX0_append_90 : decode cX0_append 90 = .ok (.aload_n 0, 1) := by decide +kernel
theorem dX0_append_91 : decode cX0_append 91 = .ok (.getfield 9, 3) := by decide +kernel
theorem dX0_append_94 : decode cX0_append 94 = .ok (.sipush 1000, 3) := by decide +kernel
theorem dX0_append_97 : decode cX0_append 97 = .ok (.iastore, 1) := by decide +kernel
theorem dX0_append_98 : decode cX0_append 98 = .ok (.aload_n 0, 1) := by decide +kernel
theorem dX0_append_99 : decode cX0_append 99 = .ok (.getfield 41, 3) := by decide +kernel
theorem dX0_append_102 : decode cX0_append 102 = .ok (.aload_n 0, 1) := by decide +kernel
theorem dX0_append_103 : decode cX0_append 103 = .ok (.getfield 9, 3) := by decide +kernel
theorem dX0_append_106 : decode cX0_append 106 = .ok (.iconst (-1), 1) := by decide +kernel
theorem dX0_append_107 : decode cX0_append 107 = .ok (.iastore, 1) := by decide +kernel
theorem dX0_append_108 : decode cX0_append 108 = .ok (.aload_n 0, 1) := by decide +kernel
theorem dX0_append_109 : decode cX0_append 109 = .ok (.getfield 44, 3) := by decide +kernel
theorem dX0_append_112 : decode cX0_append 112 = .ok (.aload_n 0, 1) := by decide +kernel
theorem dX0_append_113 : decode cX0_append 113 = .ok (.getfield 9, 3) := by decide +kernel
theorem dX0_append_116 : decode cX0_append 116 = .ok (.iconst 0, 1) := by decide +kernel
theorem dX0_append_117 : decode cX0_append 117 = .ok (.iastore, 1) := by decide +kernel
theorem dX0_append_118 : decode cX0_append 118 = .ok (.aload_n 0, 1) := by decide +kernel
theorem dX0_append_119 : decode cX0_append 119 = .ok (.getfield 47, 3) := by decide +kernel
theorem dX0_append_122 : decode cX0_append 122 = .ok (.aload_n 0, 1) := by decide +kernel
theorem dX0_append_123 : decode cX0_append 123 = .ok (.getfield 9, 3) := by decide +kernel
theorem dX0_append_126 : decode cX0_append 126 = .ok (.iconst 0, 1) := by decide +kernel
theorem dX0_append_127 : decode cX0_append 127 = .ok (.iastore, 1) := by decide +kernel
theorem dX0_append_128 : decode cX0_append 128 = .ok (.aload_n 0, 1) := by decide +kernel
theorem dX0_append_129 : decode cX0_append 129 = .ok (.dup, 1) := by decide +kernel
theorem dX0_append_130 : decode cX0_append 130 = .ok (.getfield 9, 3) := by decide +kernel
theorem dX0_append_133 : decode cX0_append 133 = .ok (.iconst 1, 1) := by decide +kernel
theorem dX0_append_134 : decode cX0_append 134 = .ok (.iadd, 1) := by decide +kernel
theorem dX0_append_135 : decode cX0_append 135 = .ok (.putfield 9, 3) := by decide +kernel
theorem dX0_append_138 : decode cX0_append 138 = .ok (.aload_n 0, 1) := by decide +kernel
theorem dX0_append_139 : decode cX0_append 139 = .ok (.getfield 9, 3) := by decide +kernel
theorem dX0_append_142 : decode cX0_append 142 = .ok (.iconst 1, 1) := by decide +kernel
theorem dX0_append_143 : decode cX0_append 143 = .ok (.isub, 1) := by decide +kernel
theorem dX0_append_144 : decode cX0_append 144 = .ok (.ireturn, 1) := by decide +kernel
theorem dX0_dropLowest_0 : decode cX0_dropLowest 0 = .ok (.aload_n 0, 1) := by decide +kernel
theorem dX0_dropLowest_1 : decode cX0_dropLowest 1 = .ok (.getfield 9, 3) := by decide +kernel
theorem dX0_dropLowest_4 : decode cX0_dropLowest 4 = .ok (.ifCond .ne 6, 3) := by decide +kernel
theorem dX0_dropLowest_7 : decode cX0_dropLowest 7 = .ok (.ldc 76, 2) := by decide +kernel
theorem dX0_dropLowest_9 : decode cX0_dropLowest 9 = .ok (.ireturn, 1) := by decide +kernel
theorem dX0_dropLowest_10 : decode cX0_dropLowest 10 = .ok (.aload_n 0, 1) := by decide +kernel
theorem dX0_dropLowest_11 : decode cX0_dropLowest 11 = .ok (.dup, 1) := by decide +kernel
theorem dX0_dropLowest_12 : decode cX0_dropLowest 12 = .ok (.getfield 9, 3) := by decide +kernel
theorem dX0_dropLowest_15 : decode cX0_dropLowest 15 = .ok (.iconst 1, 1) := by decide +kernel
theorem dX0_dropLowest_16 : decode cX0_dropLowest 16 = .ok (.isub, 1) := by decide +kernel
theorem dX0_dropLowest_17 : decode cX0_dropLowest 17 = .ok (.putfield 9, 3) := by decide +kernel
theorem dX0_dropLowest_20 : decode cX0_dropLowest 20 = .ok (.aload_n 0, 1) := by decide +kernel
theorem dX0_dropLowest_21 : decode cX0_dropLowest 21 = .ok (.getfield 9, 3) := by decide +kernel
theorem dX0_dropLowest_24 : decode cX0_dropLowest 24 = .ok (.ireturn, 1) := by decide +kernel
set_option maxRecDepth 20000 in
theorem ggX0_split_X0_has : GoodIn wsX0_split wsX0_has := goodIn_r _ [12, 4, 24, 25, 26, 27, 28, 29, 30, 31, 32, 33, 34, 35] (by decide +kernel) (by decide +kernel)
set_option maxRecDepth 20000 in
theorem gX0_split_X0_has : GoodIn wsX0_split (wsV RX0 56 RX0 yX0_has wsX0_has) := goodIn_app (goodIn_of _ (by decide +kernel)) ggX0_split_X0_has
set_option maxRecDepth 20000 in
theorem ggX0_split_X4_isBetween : GoodIn wsX0_split wsX4_isBetween := goodIn_r _ [15] (by decide +kernel) (by decide +kernel)
set_option maxRecDepth 20000 in
theorem gX0_split_X4_isBetween_n67 : GoodIn wsX0_split (wsX4_isBetween) := ggX0_split_X4_isBetween
set_option maxRecDepth 20000 in
theorem ggX0_split_X0_copyLayer : GoodIn wsX0_split wsX0_copyLayer := goodIn_r _ [19, 2, 20, 21, 22, 6, 23, 7, 24, 25, 26, 27, 28, 29, 30, 31, 32, 33, 34, 35] (by decide +kernel) (by decide +kernel)
set_option maxRecDepth 20000 in
theorem gX0_split_X0_copyLayer : GoodIn wsX0_split (wsV RX0 79 RX0 yX0_copyLayer wsX0_copyLayer) := goodIn_app (goodIn_of _ (by decide +kernel)) ggX0_split_X0_copyLayer
theorem dX0_split_0 : decode cX0_split 0 = .ok (.aload_n 0, 1) := by decide +kernel
theorem dX0_split_1 : decode cX0_split 1 = .ok (.iload_n 1, 1) := by decide +kernel
theorem dX0_split_2 : decode cX0_split 2 = .ok (.invokevirtual 56, 3) := by decide +kernel
theorem dX0_split_5 : decode cX0_split 5 = .ok (.ifCond .ne 6, 3) := by decide +kernel
theorem dX0_split_8 : decode cX0_split 8 = .ok (.ldc 78, 2) := by decide +kernel
theorem dX0_split_10 : decode cX0_split 10 = .ok (.ireturn, 1) := by decide +kernel
theorem dX0_split_11 : decode cX0_split 11 = .ok (.iload_n 2, 1) := by decide +kernel
theorem dX0_split_12 : decode cX0_split 12 = .ok (.iconst 1, 1) := by decide +kernel
theorem dX0_split_13 : decode cX0_split 13 = .ok (.aload_n 0, 1) := by decide +kernel
theorem dX0_split_14 : decode cX0_split 14 = .ok (.getfield 28, 3) := by decide +kernel
theorem dX0_split_17 : decode cX0_split 17 = .ok (.iload_n 1, 1) := by decide +kernel
theorem dX0_split_18 : decode cX0_split 18 = .ok (.iaload, 1) := by decide +kernel
theorem dX0_split_19 : decode cX0_split 19 = .ok (.iconst 1, 1) := by decide +kernel
theorem dX0_split_20 : decode cX0_split 20 = .ok (.isub, 1) := by decide +kernel
theorem dX0_split_21 : decode cX0_split 21 = .ok (.invokestatic 67, 3) := by decide +kernel
theorem dX0_split_24 : decode cX0_split 24 = .ok (.ifCond .ne 6, 3) := by decide +kernel
theorem dX0_split_27 : decode cX0_split 27 = .ok (.ldc 71, 2) := by decide +kernel
theorem dX0_split_29 : decode cX0_split 29 = .ok (.ireturn, 1) := by decide +kernel
theorem dX0_split_30 : decode cX0_split 30 = .ok (.aload_n 0, 1) := by decide +kernel
theorem dX0_split_31 : decode cX0_split 31 = .ok (.getfield 9, 3) := by decide +kernel
theorem dX0_split_34 : decode cX0_split 34 = .ok (.bipush 16, 2) := by decide +kernel
theorem dX0_split_36 : decode cX0_split 36 = .ok (.if_icmp .lt 6, 3) := by decide +kernel
theorem dX0_split_39 : decode cX0_split 39 = .ok (.ldc 77, 2) := by decide +kernel
theorem dX0_split_41 : decode cX0_split 41 = .ok (.ireturn, 1) := by decide +kernel
theorem dX0_split_42 : decode cX0_split 42 = .ok (.aload_n 0, 1) := by decide +kernel
theorem dX0_split_43 : decode cX0_split 43 = .ok (.getfield 9, 3) := by decide +kernel
theorem dX0_split_46 : decode cX0_split 46 = .ok (.istore_n 3, 1) := by decide +kernel
theorem dX0_split_47 : decode cX0_split 47 = .ok (.iload_n 3, 1) := by decide +kernel
theorem dX0_split_48 : decode cX0_split 48 = .ok (.iload_n 1, 1) := by decide +kernel
theorem dX0_split_49 : decode cX0_split 49 = .ok (.if_icmp .le 17, 3) := by decide +kernel
theorem dX0_split_52 : decode cX0_split 52 = .ok (.aload_n 0, 1) := by decide +kernel
theorem dX0_split_53 : decode cX0_split 53 = .ok (.iload_n 3, 1) := by decide +kernel
theorem dX0_split_54 : decode cX0_split 54 = .ok (.iconst 1, 1) := by decide +kernel
theorem dX0_split_55 : decode cX0_split 55 = .ok (.isub, 1) := by decide +kernel
theorem dX0_split_56 : decode cX0_split 56 = .ok (.iload_n 3, 1) := by decide +kernel
theorem dX0_split_57 : decode cX0_split 57 = .ok (.invokevirtual 79, 3) := by decide +kernel
theorem dX0_split_60 : decode cX0_split 60 = .ok (.iinc 3 (-1), 3) := by decide +kernel
theorem dX0_split_63 : decode cX0_split 63 = .ok (.goto (-16), 3) := by decide +kernel
theorem dX0_split_66 : decode cX0_split 66 = .ok (.aload_n 0, 1) := by decide +kernel
theorem dX0_split_67 : decode cX0_split 67 = .ok (.dup, 1) := by decide +kernel
theorem dX0_split_68 : decode cX0_split 68 = .ok (.getfield 9, 3) := by decide +kernel
theorem dX0_split_71 : decode cX0_split 71 = .ok (.iconst 1, 1) := by decide +kernel
theorem dX0_split_72 : decode cX0_split 72 = .ok (.iadd, 1) := by decide +kernel
theorem dX0_split_73 : decode cX0_split 73 = .ok (.putfield 9, 3) := by decide +kernel
theorem dX0_split_76 : decode cX0_split 76 = .ok (.aload_n 0, 1) := by decide +kernel
theorem dX0_split_77 : decode cX0_split 77 = .ok (.getfield 28, 3) := by decide +kernel
theorem dX0_split_80 : decode cX0_split 80 = .ok (.iload_n 1, 1) := by decide +kernel
theorem dX0_split_81 : decode cX0_split 81 = .ok (.iload_n 2, 1) := by decide +kernel
theorem dX0_split_82 : decode cX0_split 82 = .ok (.iastore, 1) := by decide +kernel
theorem dX0_split_83 : decode cX0_split 83 = .ok (.aload_n 0, 1) := by decide +kernel
theorem dX0_split_84 : decode cX0_split 84 = .ok (.getfield 28, 3) := by decide +kernel
theorem dX0_split_87 : decode cX0_split 87 = .ok (.iload_n 1, 1) := by decide +kernel
theorem dX0_split_88 : decode cX0_split 88 = .ok (.iconst 1, 1) := by decide +kernel
theorem dX0_split_89 : decode cX0_split 89 = .ok (.iadd, 1) := by decide +kernel
theorem dX0_split_90 : decode cX0_split 90 = .ok (.dup2, 1) := by decide +kernel
theorem dX0_split_91 : decode cX0_split 91 = .ok (.iaload, 1) := by decide +kernel
theorem dX0_split_92 : decode cX0_split 92 = .ok (.iload_n 2, 1) := by decide +kernel
theorem dX0_split_93 : decode cX0_split 93 = .ok (.isub, 1) := by decide +kernel
theorem dX0_split_94 : decode cX0_split 94 = .ok (.iastore, 1) := by decide +kernel
theorem dX0_split_95 : decode cX0_split 95 = .ok (.aload_n 0, 1) := by decide +kernel
theorem dX0_split_96 : decode cX0_split 96 = .ok (.getfield 41, 3) := by decide +kernel
theorem dX0_split_99 : decode cX0_split 99 = .ok (.iload_n 1, 1) := by decide +kernel
theorem dX0_split_100 : decode cX0_split 100 = .ok (.iconst (-1), 1) := by decide +kernel
theorem dX0_split_101 : decode cX0_split 101 = .ok (.iastore, 1) := by decide +kernel
theorem dX0_split_102 : decode cX0_split 102 = .ok (.aload_n 0, 1) := by decide +kernel
theorem dX0_split_103 : decode cX0_split 103 = .ok (.getfield 47, 3) := by decide +kernel
theorem dX0_split_106 : decode cX0_split 106 = .ok (.iload_n 1, 1) := by decide +kernel
theorem dX0_split_107 : decode cX0_split 107 = .ok (.iconst 0, 1) := by decide +kernel
theorem dX0_split_108 : decode cX0_split 108 = .ok (.iastore, 1) := by decide +kernel
theorem dX0_split_109 : decode cX0_split 109 = .ok (.aload_n 0, 1) := by decide +kernel
theorem dX0_split_110 : decode cX0_split 110 = .ok (.getfield 47, 3) := by decide +kernel
theorem dX0_split_113 : decode cX0_split 113 = .ok (.iload_n 1, 1) := by decide +kernel
theorem dX0_split_114 : decode cX0_split 114 = .ok (.iconst 1, 1) := by decide +kernel
theorem dX0_split_115 : decode cX0_split 115 = .ok (.iadd, 1) := by decide +kernel
theorem dX0_split_116 : decode cX0_split 116 = .ok (.iconst 0, 1) := by decide +kernel
theorem dX0_split_117 : decode cX0_split 117 = .ok (.iastore, 1) := by decide +kernel
theorem dX0_split_118 : decode cX0_split 118 = .ok (.aload_n 0, 1) := by decide +kernel
theorem dX0_split_119 : decode cX0_split 119 = .ok (.getfield 9, 3) := by decide +kernel
theorem dX0_split_122 : decode cX0_split 122 = .ok (.ireturn, 1) := by decide +kernel
theorem dX0_copyLayer_0 : decode cX0_copyLayer 0 = .ok (.aload_n 0, 1) := by decide +kernel
theorem dX0_copyLayer_1 : decode cX0_copyLayer 1 = .ok (.getfield 28, 3) := by decide +kernel
theorem dX0_copyLayer_4 : decode cX0_copyLayer 4 = .ok (.iload_n 2, 1) := by decide +kernel
theorem dX0_copyLayer_5 : decode cX0_copyLayer 5 = .ok (.aload_n 0, 1) := by decide +kernel
theorem dX0_copyLayer_6 : decode cX0_copyLayer 6 = .ok (.getfield 28, 3) := by decide +kernel
theorem dX0_copyLayer_9 : decode cX0_copyLayer 9 = .ok (.iload_n 1, 1) := by decide +kernel
theorem dX0_copyLayer_10 : decode cX0_copyLayer 10 = .ok (.iaload, 1) := by decide +kernel
theorem dX0_copyLayer_11 : decode cX0_copyLayer 11 = .ok (.iastore, 1) := by decide +kernel
theorem dX0_copyLayer_12 : decode cX0_copyLayer 12 = .ok (.aload_n 0, 1) := by decide +kernel
theorem dX0_copyLayer_13 : decode cX0_copyLayer 13 = .ok (.getfield 32, 3) := by decide +kernel
theorem dX0_copyLayer_16 : decode cX0_copyLayer 16 = .ok (.iload_n 2, 1) := by decide +kernel
theorem dX0_copyLayer_17 : decode cX0_copyLayer 17 = .ok (.aload_n 0, 1) := by decide +kernel
theorem dX0_copyLayer_18 : decode cX0_copyLayer 18 = .ok (.getfield 32, 3) := by decide +kernel
theorem dX0_copyLayer_21 : decode cX0_copyLayer 21 = .ok (.iload_n 1, 1) := by decide +kernel
theorem dX0_copyLayer_22 : decode cX0_copyLayer 22 = .ok (.iaload, 1) := by decide +kernel
theorem dX0_copyLayer_23 : decode cX0_copyLayer 23 = .ok (.iastore, 1) := by decide +kernel
theorem dX0_copyLayer_24 : decode cX0_copyLayer 24 = .ok (.aload_n 0, 1) := by decide +kernel
theorem dX0_copyLayer_25 : decode cX0_copyLayer 25 = .ok (.getfield 35, 3) := by decide +kernel
theorem dX0_copyLayer_28 : decode cX0_copyLayer 28 = .ok (.iload_n 2, 1) := by decide +kernel
theorem dX0_copyLayer_29 : decode cX0_copyLayer 29 = .ok (.aload_n 0, 1) := by decide +kernel
theorem dX0_copyLayer_30 : decode cX0_copyLayer 30 = .ok (.getfield 35, 3) := by decide +kernel
theorem dX0_copyLayer_33 : decode cX0_copyLayer 33 = .ok (.iload_n 1, 1) := by decide +kernel
theorem dX0_copyLayer_34 : decode cX0_copyLayer 34 = .ok (.iaload, 1) := by decide +kernel
theorem dX0_copyLayer_35 : decode cX0_copyLayer 35 = .ok (.iastore, 1) := by decide +kernel
theorem dX0_copyLayer_36 : decode cX0_copyLayer 36 = .ok (.aload_n 0, 1) := by decide +kernel
theorem dX0_copyLayer_37 : decode cX0_copyLayer 37 = .ok (.getfield 38, 3) := by decide +kernel
theorem dX0_copyLayer_40 : decode cX0_copyLayer 40 = .ok (.iload_n 2, 1) := by decide +kernel
theorem dX0_copyLayer_41 : decode cX0_copyLayer 41 = .ok (.aload_n 0, 1) := by decide +kernel
theorem dX0_copyLayer_42 : decode cX0_copyLayer 42 = .ok (.getfield 38, 3) := by decide +kernel
theorem dX0_copyLayer_45 : decode cX0_copyLayer 45 = .ok (.iload_n 1, 1) := by decide +kernel
theorem dX0_copyLayer_46 : decode cX0_copyLayer 46 = .ok (.iaload, 1) := by decide +kernel
theorem dX0_copyLayer_47 : decode cX0_copyLayer 47 = .ok (.iastore, 1) := by decide +kernel
theorem dX0_copyLayer_48 : decode cX0_copyLayer 48 = .ok (.aload_n 0, 1) := by decide +kernel
theorem dX0_copyLayer_49 : decode cX0_copyLayer 49 = .ok (.getfield 41, 3) := by decide +kernel
theorem dX0_copyLayer_52 : decode cX0_copyLayer 52 = .ok (.iload_n 2, 1) := by decide +kernel
theorem dX0_copyLayer_53 : decode cX0_copyLayer 53 = .ok (.aload_n 0, 1) := by decide +kernel
theorem dX0_copyLayer_54 : decode cX0_copyLayer 54 = .ok (.getfield 41, 3) := by decide +kernel
theorem dX0_copyLayer_57 : decode cX0_copyLayer 57 = .ok (.iload_n 1, 1) := by decide +kernel
theorem dX0_copyLayer_58 : decode cX0_copyLayer 58 = .ok (.iaload, 1) := by decide +kernel
theorem dX0_copyLayer_59 : decode cX0_copyLayer 59 = .ok (.iastore, 1) := by decide +kernel
theorem dX0_copyLayer_60 : decode cX0_copyLayer 60 = .ok (.aload_n 0, 1) := by decide +kernel
theorem dX0_copyLayer_61 : decode cX0_copyLayer 61 = .ok (.getfield 44, 3) := by decide +kernel
theorem dX0_copyLayer_64 : decode cX0_copyLayer 64 = .ok (.iload_n 2, 1) := by decide +kernel
theorem dX0_copyLayer_65 : decode cX0_copyLayer 65 = .ok (.aload_n 0, 1) := by decide +kernel
theorem dX0_copyLayer_66 : decode cX0_copyLayer 66 = .ok (.getfield 44, 3) := by decide +kernel
theorem dX0_copyLayer_69 : decode cX0_copyLayer 69 = .ok (.iload_n 1, 1) := by decide +kernel
theorem dX0_copyLayer_70 : decode cX0_copyLayer 70 = .ok (.iaload, 1) := by decide +kernel
theorem dX0_copyLayer_71 : decode cX0_copyLayer 71 = .ok (.iastore, 1) := by decide +kernel
theorem dX0_copyLayer_72 : decode cX0_copyLayer 72 = .ok (.aload_n 0, 1) := by decide +kernel
theorem dX0_copyLayer_73 : decode cX0_copyLayer 73 = .ok (.getfield 47, 3) := by decide +kernel
theorem dX0_copyLayer_76 : decode cX0_copyLayer 76 = .ok (.iload_n 2, 1) := by decide +kernel
theorem dX0_copyLayer_77 : decode cX0_copyLayer 77 = .ok (.aload_n 0, 1) := by decide +kernel
theorem dX0_copyLayer_78 : decode cX0_copyLayer 78 = .ok (.getfield 47, 3) := by decide +kernel
theorem dX0_copyLayer_81 : decode cX0_copyLayer 81 = .ok (.iload_n 1, 1) := by decide +kernel
theorem dX0_copyLayer_82 : decode cX0_copyLayer 82 = .ok (.iaload, 1) := by decide +kernel
theorem dX0_copyLayer_83 : decode cX0_copyLayer 83 = .ok (.iastore, 1) := by decide +kernel
theorem dX0_copyLayer_84 : decode cX0_copyLayer 84 = .ok (.return_, 1) := by decide +kernel
set_option maxRecDepth 20000 in
theorem ggX0_putBed_X4_isBetween : GoodIn wsX0_putBed wsX4_isBetween := goodIn_r _ [7] (by decide +kernel) (by decide +kernel)
set_option maxRecDepth 20000 in
theorem gX0_putBed_X4_isBetween_n67 : GoodIn wsX0_putBed (wsX4_isBetween) := ggX0_putBed_X4_isBetween
set_option maxRecDepth 20000 in
theorem ggX0_putBed_X0_bottom : GoodIn wsX0_putBed wsX0_bottom := goodIn_r _ [12, 13, 14, 15, 16, 11, 17, 18, 19, 20, 21, 22, 23, 24, 25, 26, 27, 28, 29, 30] (by decide +kernel) (by decide +kernel)
set_option maxRecDepth 20000 in
theorem gX0_putBed_X0_bottom : GoodIn wsX0_putBed (wsV RX0 72 RX0 yX0_bottom wsX0_bottom) := goodIn_app (goodIn_of _ (by decide +kernel)) ggX0_putBed_X0_bottom
theorem dX0_putBed_0 : decode cX0_putBed 0 = .ok (.iload_n 1, 1) := by decide +kernel
theorem dX0_putBed_1 : decode cX0_putBed 1 = .ok (.sipush 1000, 3) := by decide +kernel
theorem dX0_putBed_4 : decode cX0_putBed 4 = .ok (.ldc 83, 2) := by decide +kernel
theorem dX0_putBed_6 : decode cX0_putBed 6 = .ok (.invokestatic 67, 3) := by decide +kernel
theorem dX0_putBed_9 : decode cX0_putBed 9 = .ok (.ifCond .ne 6, 3) := by decide +kernel
theorem dX0_putBed_12 : decode cX0_putBed 12 = .ok (.ldc 71, 2) := by decide +kernel
theorem dX0_putBed_14 : decode cX0_putBed 14 = .ok (.ireturn, 1) := by decide +kernel
theorem dX0_putBed_15 : decode cX0_putBed 15 = .ok (.aload_n 0, 1) := by decide +kernel
theorem dX0_putBed_16 : decode cX0_putBed 16 = .ok (.invokevirtual 72, 3) := by decide +kernel
theorem dX0_putBed_19 : decode cX0_putBed 19 = .ok (.iload_n 1, 1) := by decide +kernel
theorem dX0_putBed_20 : decode cX0_putBed 20 = .ok (.if_icmp .le 6, 3) := by decide +kernel
theorem dX0_putBed_23 : decode cX0_putBed 23 = .ok (.ldc 76, 2) := by decide +kernel
theorem dX0_putBed_25 : decode cX0_putBed 25 = .ok (.ireturn, 1) := by decide +kernel
theorem dX0_putBed_26 : decode cX0_putBed 26 = .ok (.aload_n 0, 1) := by decide +kernel
theorem dX0_putBed_27 : decode cX0_putBed 27 = .ok (.getfield 16, 3) := by decide +kernel
theorem dX0_putBed_30 : decode cX0_putBed 30 = .ok (.istore_n 2, 1) := by decide +kernel
theorem dX0_putBed_31 : decode cX0_putBed 31 = .ok (.aload_n 0, 1) := by decide +kernel
theorem dX0_putBed_32 : decode cX0_putBed 32 = .ok (.iload_n 1, 1) := by decide +kernel
theorem dX0_putBed_33 : decode cX0_putBed 33 = .ok (.putfield 16, 3) := by decide +kernel
theorem dX0_putBed_36 : decode cX0_putBed 36 = .ok (.iload_n 2, 1) := by decide +kernel
theorem dX0_putBed_37 : decode cX0_putBed 37 = .ok (.ireturn, 1) := by decide +kernel
set_option maxRecDepth 20000 in
theorem ggX0_putFunction_X4_isBetween : GoodIn wsX0_putFunction wsX4_isBetween := goodIn_r _ [5] (by decide +kernel) (by decide +kernel)
set_option maxRecDepth 20000 in
theorem gX0_putFunction_X4_isBetween_n67 : GoodIn wsX0_putFunction (wsX4_isBetween) := ggX0_putFunction_X4_isBetween
theorem dX0_putFunction_0 : decode cX0_putFunction 0 = .ok (.iload_n 1, 1) := by decide +kernel
theorem dX0_putFunction_1 : decode cX0_putFunction 1 = .ok (.iconst 0, 1) := by decide +kernel
theorem dX0_putFunction_2 : decode cX0_putFunction 2 = .ok (.iconst 2, 1) := by decide +kernel
theorem dX0_putFunction_3 : decode cX0_putFunction 3 = .ok (.invokestatic 67, 3) := by decide +kernel
theorem dX0_putFunction_6 : decode cX0_putFunction 6 = .ok (.ifCond .ne 6, 3) := by decide +kernel
theorem dX0_putFunction_9 : decode cX0_putFunction 9 = .ok (.ldc 71, 2) := by decide +kernel
theorem dX0_putFunction_11 : decode cX0_putFunction 11 = .ok (.ireturn, 1) := by decide +kernel
theorem dX0_putFunction_12 : decode cX0_putFunction 12 = .ok (.aload_n 0, 1) := by decide +kernel
theorem dX0_putFunction_13 : decode cX0_putFunction 13 = .ok (.getfield 19, 3) := by decide +kernel
theorem dX0_putFunction_16 : decode cX0_putFunction 16 = .ok (.istore_n 2, 1) := by decide +kernel
theorem dX0_putFunction_17 : decode cX0_putFunction 17 = .ok (.aload_n 0, 1) := by decide +kernel
theorem dX0_putFunction_18 : decode cX0_putFunction 18 = .ok (.iload_n 1, 1) := by decide +kernel
theorem dX0_putFunction_19 : decode cX0_putFunction 19 = .ok (.putfield 19, 3) := by decide +kernel
theorem dX0_putFunction_22 : decode cX0_putFunction 22 = .ok (.iload_n 2, 1) := by decide +kernel
theorem dX0_putFunction_23 : decode cX0_putFunction 23 = .ok (.ireturn, 1) := by decide +kernel
set_option maxRecDepth 20000 in
theorem ggX0_putKink_X4_isBetween : GoodIn wsX0_putKink wsX4_isBetween := goodIn_r _ [5] (by decide +kernel) (by decide +kernel)
set_option maxRecDepth 20000 in
theorem gX0_putKink_X4_isBetween_n67 : GoodIn wsX0_putKink (wsX4_isBetween) := ggX0_putKink_X4_isBetween
theorem dX0_putKink_0 : decode cX0_putKink 0 = .ok (.iload_n 1, 1) := by decide +kernel
theorem dX0_putKink_1 : decode cX0_putKink 1 = .ok (.iconst 0, 1) := by decide +kernel
theorem dX0_putKink_2 : decode cX0_putKink 2 = .ok (.sipush 900, 3) := by decide +kernel
theorem dX0_putKink_5 : decode cX0_putKink 5 = .ok (.invokestatic 67, 3) := by decide +kernel
theorem dX0_putKink_8 : decode cX0_putKink 8 = .ok (.ifCond .ne 6, 3) := by decide +kernel
theorem dX0_putKink_11 : decode cX0_putKink 11 = .ok (.ldc 71, 2) := by decide +kernel
theorem dX0_putKink_13 : decode cX0_putKink 13 = .ok (.ireturn, 1) := by decide +kernel
theorem dX0_putKink_14 : decode cX0_putKink 14 = .ok (.aload_n 0, 1) := by decide +kernel
theorem dX0_putKink_15 : decode cX0_putKink 15 = .ok (.getfield 22, 3) := by decide +kernel
theorem dX0_putKink_18 : decode cX0_putKink 18 = .ok (.istore_n 2, 1) := by decide +kernel
theorem dX0_putKink_19 : decode cX0_putKink 19 = .ok (.aload_n 0, 1) := by decide +kernel
theorem dX0_putKink_20 : decode cX0_putKink 20 = .ok (.iload_n 1, 1) := by decide +kernel
theorem dX0_putKink_21 : decode cX0_putKink 21 = .ok (.putfield 22, 3) := by decide +kernel
theorem dX0_putKink_24 : decode cX0_putKink 24 = .ok (.iload_n 2, 1) := by decide +kernel
theorem dX0_putKink_25 : decode cX0_putKink 25 = .ok (.ireturn, 1) := by decide +kernel
set_option maxRecDepth 20000 in
theorem ggX0_putTold_X0_has : GoodIn wsX0_putTold wsX0_has := goodIn_r _ [8, 9, 13, 14, 15, 16, 17, 18, 19, 20, 21, 22, 23, 24] (by decide +kernel) (by decide +kernel)
set_option maxRecDepth 20000 in
theorem gX0_putTold_X0_has : GoodIn wsX0_putTold (wsV RX0 56 RX0 yX0_has wsX0_has) := goodIn_app (goodIn_of _ (by decide +kernel)) ggX0_putTold_X0_has
set_option maxRecDepth 20000 in
theorem ggX0_putTold_X4_isBetween : GoodIn wsX0_putTold wsX4_isBetween := goodIn_r _ [12] (by decide +kernel) (by decide +kernel)
set_option maxRecDepth 20000 in
theorem gX0_putTold_X4_isBetween_n67 : GoodIn wsX0_putTold (wsX4_isBetween) := ggX0_putTold_X4_isBetween
theorem dX0_putTold_0 : decode cX0_putTold 0 = .ok (.aload_n 0, 1) := by decide +kernel
theorem dX0_putTold_1 : decode cX0_putTold 1 = .ok (.iload_n 1, 1) := by decide +kernel
theorem dX0_putTold_2 : decode cX0_putTold 2 = .ok (.invokevirtual 56, 3) := by decide +kernel
theorem dX0_putTold_5 : decode cX0_putTold 5 = .ok (.ifCond .ne 6, 3) := by decide +kernel
theorem dX0_putTold_8 : decode cX0_putTold 8 = .ok (.ldc 78, 2) := by decide +kernel
theorem dX0_putTold_10 : decode cX0_putTold 10 = .ok (.ireturn, 1) := by decide +kernel
theorem dX0_putTold_11 : decode cX0_putTold 11 = .ok (.iload_n 2, 1) := by decide +kernel
theorem dX0_putTold_12 : decode cX0_putTold 12 = .ok (.bipush 10, 2) := by decide +kernel
theorem dX0_putTold_14 : decode cX0_putTold 14 = .ok (.sipush 1000, 3) := by decide +kernel
theorem dX0_putTold_17 : decode cX0_putTold 17 = .ok (.invokestatic 67, 3) := by decide +kernel
theorem dX0_putTold_20 : decode cX0_putTold 20 = .ok (.ifCond .ne 6, 3) := by decide +kernel
theorem dX0_putTold_23 : decode cX0_putTold 23 = .ok (.ldc 71, 2) := by decide +kernel
theorem dX0_putTold_25 : decode cX0_putTold 25 = .ok (.ireturn, 1) := by decide +kernel
theorem dX0_putTold_26 : decode cX0_putTold 26 = .ok (.aload_n 0, 1) := by decide +kernel
theorem dX0_putTold_27 : decode cX0_putTold 27 = .ok (.getfield 38, 3) := by decide +kernel
theorem dX0_putTold_30 : decode cX0_putTold 30 = .ok (.iload_n 1, 1) := by decide +kernel
theorem dX0_putTold_31 : decode cX0_putTold 31 = .ok (.iaload, 1) := by decide +kernel
theorem dX0_putTold_32 : decode cX0_putTold 32 = .ok (.istore_n 3, 1) := by decide +kernel
theorem dX0_putTold_33 : decode cX0_putTold 33 = .ok (.aload_n 0, 1) := by decide +kernel
theorem dX0_putTold_34 : decode cX0_putTold 34 = .ok (.getfield 38, 3) := by decide +kernel
theorem dX0_putTold_37 : decode cX0_putTold 37 = .ok (.iload_n 1, 1) := by decide +kernel
theorem dX0_putTold_38 : decode cX0_putTold 38 = .ok (.iload_n 2, 1) := by decide +kernel
theorem dX0_putTold_39 : decode cX0_putTold 39 = .ok (.iastore, 1) := by decide +kernel
theorem dX0_putTold_40 : decode cX0_putTold 40 = .ok (.iload_n 3, 1) := by decide +kernel
theorem dX0_putTold_41 : decode cX0_putTold 41 = .ok (.ireturn, 1) := by decide +kernel
set_option maxRecDepth 20000 in
theorem ggX0_putCorrection_X0_has : GoodIn wsX0_putCorrection wsX0_has := goodIn_r _ [8, 9, 13, 14, 15, 16, 17, 18, 19, 20, 21, 22, 23, 24] (by decide +kernel) (by decide +kernel)
set_option maxRecDepth 20000 in
theorem gX0_putCorrection_X0_has : GoodIn wsX0_putCorrection (wsV RX0 56 RX0 yX0_has wsX0_has) := goodIn_app (goodIn_of _ (by decide +kernel)) ggX0_putCorrection_X0_has
set_option maxRecDepth 20000 in
theorem ggX0_putCorrection_X4_isBetween : GoodIn wsX0_putCorrection wsX4_isBetween := goodIn_r _ [12] (by decide +kernel) (by decide +kernel)
set_option maxRecDepth 20000 in
theorem gX0_putCorrection_X4_isBetween_n67 : GoodIn wsX0_putCorrection (wsX4_isBetween) := ggX0_putCorrection_X4_isBetween
theorem dX0_putCorrection_0 : decode cX0_putCorrection 0 = .ok (.aload_n 0, 1) := by decide +kernel
theorem dX0_putCorrection_1 : decode cX0_putCorrection 1 = .ok (.iload_n 1, 1) := by decide +kernel
theorem dX0_putCorrection_2 : decode cX0_putCorrection 2 = .ok (.invokevirtual 56, 3) := by decide +kernel
theorem dX0_putCorrection_5 : decode cX0_putCorrection 5 = .ok (.ifCond .ne 6, 3) := by decide +kernel
theorem dX0_putCorrection_8 : decode cX0_putCorrection 8 = .ok (.ldc 78, 2) := by decide +kernel
theorem dX0_putCorrection_10 : decode cX0_putCorrection 10 = .ok (.ireturn, 1) := by decide +kernel
theorem dX0_putCorrection_11 : decode cX0_putCorrection 11 = .ok (.iload_n 2, 1) := by decide +kernel
theorem dX0_putCorrection_12 : decode cX0_putCorrection 12 = .ok (.sipush 200, 3) := by decide +kernel
theorem dX0_putCorrection_15 : decode cX0_putCorrection 15 = .ok (.sipush 5000, 3) := by decide +kernel
theorem dX0_putCorrection_18 : decode cX0_putCorrection 18 = .ok (.invokestatic 67, 3) := by decide +kernel
theorem dX0_putCorrection_21 : decode cX0_putCorrection 21 = .ok (.ifCond .ne 6, 3) := by decide +kernel
theorem dX0_putCorrection_24 : decode cX0_putCorrection 24 = .ok (.ldc 71, 2) := by decide +kernel
theorem dX0_putCorrection_26 : decode cX0_putCorrection 26 = .ok (.ireturn, 1) := by decide +kernel
theorem dX0_putCorrection_27 : decode cX0_putCorrection 27 = .ok (.aload_n 0, 1) := by decide +kernel
theorem dX0_putCorrection_28 : decode cX0_putCorrection 28 = .ok (.getfield 35, 3) := by decide +kernel
theorem dX0_putCorrection_31 : decode cX0_putCorrection 31 = .ok (.iload_n 1, 1) := by decide +kernel
theorem dX0_putCorrection_32 : decode cX0_putCorrection 32 = .ok (.iaload, 1) := by decide +kernel
theorem dX0_putCorrection_33 : decode cX0_putCorrection 33 = .ok (.istore_n 3, 1) := by decide +kernel
theorem dX0_putCorrection_34 : decode cX0_putCorrection 34 = .ok (.aload_n 0, 1) := by decide +kernel
theorem dX0_putCorrection_35 : decode cX0_putCorrection 35 = .ok (.getfield 35, 3) := by decide +kernel
theorem dX0_putCorrection_38 : decode cX0_putCorrection 38 = .ok (.iload_n 1, 1) := by decide +kernel
theorem dX0_putCorrection_39 : decode cX0_putCorrection 39 = .ok (.iload_n 2, 1) := by decide +kernel
theorem dX0_putCorrection_40 : decode cX0_putCorrection 40 = .ok (.iastore, 1) := by decide +kernel
theorem dX0_putCorrection_41 : decode cX0_putCorrection 41 = .ok (.iload_n 3, 1) := by decide +kernel
theorem dX0_putCorrection_42 : decode cX0_putCorrection 42 = .ok (.ireturn, 1) := by decide +kernel
set_option maxRecDepth 20000 in
theorem ggX0_putCloseOff_X4_isBetween : GoodIn wsX0_putCloseOff wsX4_isBetween := goodIn_r _ [5] (by decide +kernel) (by decide +kernel)
set_option maxRecDepth 20000 in
theorem gX0_putCloseOff_X4_isBetween_n67 : GoodIn wsX0_putCloseOff (wsX4_isBetween) := ggX0_putCloseOff_X4_isBetween
theorem dX0_putCloseOff_0 : decode cX0_putCloseOff 0 = .ok (.iload_n 1, 1) := by decide +kernel
theorem dX0_putCloseOff_1 : decode cX0_putCloseOff 1 = .ok (.iconst 0, 1) := by decide +kernel
theorem dX0_putCloseOff_2 : decode cX0_putCloseOff 2 = .ok (.sipush 15000, 3) := by decide +kernel
theorem dX0_putCloseOff_5 : decode cX0_putCloseOff 5 = .ok (.invokestatic 67, 3) := by decide +kernel
theorem dX0_putCloseOff_8 : decode cX0_putCloseOff 8 = .ok (.ifCond .ne 6, 3) := by decide +kernel
theorem dX0_putCloseOff_11 : decode cX0_putCloseOff 11 = .ok (.ldc 71, 2) := by decide +kernel
theorem dX0_putCloseOff_13 : decode cX0_putCloseOff 13 = .ok (.ireturn, 1) := by decide +kernel
theorem dX0_putCloseOff_14 : decode cX0_putCloseOff 14 = .ok (.aload_n 0, 1) := by decide +kernel
theorem dX0_putCloseOff_15 : decode cX0_putCloseOff 15 = .ok (.getfield 25, 3) := by decide +kernel
theorem dX0_putCloseOff_18 : decode cX0_putCloseOff 18 = .ok (.istore_n 2, 1) := by decide +kernel
theorem dX0_putCloseOff_19 : decode cX0_putCloseOff 19 = .ok (.aload_n 0, 1) := by decide +kernel
theorem dX0_putCloseOff_20 : decode cX0_putCloseOff 20 = .ok (.iload_n 1, 1) := by decide +kernel
theorem dX0_putCloseOff_21 : decode cX0_putCloseOff 21 = .ok (.putfield 25, 3) := by decide +kernel
theorem dX0_putCloseOff_24 : decode cX0_putCloseOff 24 = .ok (.iload_n 2, 1) := by decide +kernel
theorem dX0_putCloseOff_25 : decode cX0_putCloseOff 25 = .ok (.ireturn, 1) := by decide +kernel
set_option maxRecDepth 20000 in
theorem ggX0_putAsh_X0_has : GoodIn wsX0_putAsh wsX0_has := goodIn_r _ [10, 11, 23, 24, 25, 26, 27, 28, 29, 30, 31, 32, 33, 34] (by decide +kernel) (by decide +kernel)
set_option maxRecDepth 20000 in
theorem gX0_putAsh_X0_has : GoodIn wsX0_putAsh (wsV RX0 56 RX0 yX0_has wsX0_has) := goodIn_app (goodIn_of _ (by decide +kernel)) ggX0_putAsh_X0_has
set_option maxRecDepth 20000 in
theorem ggX0_putAsh_X4_isBetween : GoodIn wsX0_putAsh wsX4_isBetween := goodIn_r _ [14] (by decide +kernel) (by decide +kernel)
set_option maxRecDepth 20000 in
theorem gX0_putAsh_X4_isBetween_n67 : GoodIn wsX0_putAsh (wsX4_isBetween) := ggX0_putAsh_X4_isBetween
set_option maxRecDepth 20000 in
theorem ggX0_putAsh_X0_ashBeds : GoodIn wsX0_putAsh wsX0_ashBeds := goodIn_r _ [18, 11, 19, 20, 21, 9, 22, 4, 6, 7, 8, 10, 23, 24, 25, 26, 27, 28, 29, 30, 31, 32, 33, 34] (by decide +kernel) (by decide +kernel)
set_option maxRecDepth 20000 in
theorem gX0_putAsh_X0_ashBeds : GoodIn wsX0_putAsh (wsV RX0 85 RX0 yX0_ashBeds wsX0_ashBeds) := goodIn_app (goodIn_of _ (by decide +kernel)) ggX0_putAsh_X0_ashBeds
theorem dX0_putAsh_0 : decode cX0_putAsh 0 = .ok (.aload_n 0, 1) := by decide +kernel
theorem dX0_putAsh_1 : decode cX0_putAsh 1 = .ok (.iload_n 1, 1) := by decide +kernel
theorem dX0_putAsh_2 : decode cX0_putAsh 2 = .ok (.invokevirtual 56, 3) := by decide +kernel
theorem dX0_putAsh_5 : decode cX0_putAsh 5 = .ok (.ifCond .ne 6, 3) := by decide +kernel
theorem dX0_putAsh_8 : decode cX0_putAsh 8 = .ok (.ldc 78, 2) := by decide +kernel
theorem dX0_putAsh_10 : decode cX0_putAsh 10 = .ok (.ireturn, 1) := by decide +kernel
theorem dX0_putAsh_11 : decode cX0_putAsh 11 = .ok (.iload_n 2, 1) := by decide +kernel
theorem dX0_putAsh_12 : decode cX0_putAsh 12 = .ok (.iconst 0, 1) := by decide +kernel
theorem dX0_putAsh_13 : decode cX0_putAsh 13 = .ok (.ldc 84, 2) := by decide +kernel
theorem dX0_putAsh_15 : decode cX0_putAsh 15 = .ok (.invokestatic 67, 3) := by decide +kernel
theorem dX0_putAsh_18 : decode cX0_putAsh 18 = .ok (.ifCond .eq 14, 3) := by decide +kernel
theorem dX0_putAsh_21 : decode cX0_putAsh 21 = .ok (.iload_n 3, 1) := by decide +kernel
theorem dX0_putAsh_22 : decode cX0_putAsh 22 = .ok (.iconst 0, 1) := by decide +kernel
theorem dX0_putAsh_23 : decode cX0_putAsh 23 = .ok (.sipush 10000, 3) := by decide +kernel
theorem dX0_putAsh_26 : decode cX0_putAsh 26 = .ok (.invokestatic 67, 3) := by decide +kernel
theorem dX0_putAsh_29 : decode cX0_putAsh 29 = .ok (.ifCond .ne 6, 3) := by decide +kernel
theorem dX0_putAsh_32 : decode cX0_putAsh 32 = .ok (.ldc 71, 2) := by decide +kernel
theorem dX0_putAsh_34 : decode cX0_putAsh 34 = .ok (.ireturn, 1) := by decide +kernel
theorem dX0_putAsh_35 : decode cX0_putAsh 35 = .ok (.aload_n 0, 1) := by decide +kernel
theorem dX0_putAsh_36 : decode cX0_putAsh 36 = .ok (.getfield 41, 3) := by decide +kernel
theorem dX0_putAsh_39 : decode cX0_putAsh 39 = .ok (.iload_n 1, 1) := by decide +kernel
theorem dX0_putAsh_40 : decode cX0_putAsh 40 = .ok (.iload_n 2, 1) := by decide +kernel
theorem dX0_putAsh_41 : decode cX0_putAsh 41 = .ok (.iastore, 1) := by decide +kernel
theorem dX0_putAsh_42 : decode cX0_putAsh 42 = .ok (.aload_n 0, 1) := by decide +kernel
theorem dX0_putAsh_43 : decode cX0_putAsh 43 = .ok (.getfield 44, 3) := by decide +kernel
theorem dX0_putAsh_46 : decode cX0_putAsh 46 = .ok (.iload_n 1, 1) := by decide +kernel
theorem dX0_putAsh_47 : decode cX0_putAsh 47 = .ok (.iload_n 3, 1) := by decide +kernel
theorem dX0_putAsh_48 : decode cX0_putAsh 48 = .ok (.iastore, 1) := by decide +kernel
theorem dX0_putAsh_49 : decode cX0_putAsh 49 = .ok (.aload_n 0, 1) := by decide +kernel
theorem dX0_putAsh_50 : decode cX0_putAsh 50 = .ok (.invokevirtual 85, 3) := by decide +kernel
theorem dX0_putAsh_53 : decode cX0_putAsh 53 = .ok (.ireturn, 1) := by decide +kernel
set_option maxRecDepth 20000 in
theorem ggX0_dropAsh_X0_has : GoodIn wsX0_dropAsh wsX0_has := goodIn_r _ [8, 9, 18, 19, 20, 21, 22, 23, 24, 25, 26, 27, 28, 29] (by decide +kernel) (by decide +kernel)
set_option maxRecDepth 20000 in
theorem gX0_dropAsh_X0_has : GoodIn wsX0_dropAsh (wsV RX0 56 RX0 yX0_has wsX0_has) := goodIn_app (goodIn_of _ (by decide +kernel)) ggX0_dropAsh_X0_has
set_option maxRecDepth 20000 in
theorem ggX0_dropAsh_X0_hasAsh : GoodIn wsX0_dropAsh wsX0_hasAsh := goodIn_r _ [13, 3, 4, 5, 6, 7, 8, 9, 18, 19, 20, 21, 22, 23, 24, 25, 26, 27, 28, 29] (by decide +kernel) (by decide +kernel)
set_option maxRecDepth 20000 in
theorem gX0_dropAsh_X0_hasAsh : GoodIn wsX0_dropAsh (wsV RX0 60 RX0 yX0_hasAsh wsX0_hasAsh) := goodIn_app (goodIn_of _ (by decide +kernel)) ggX0_dropAsh_X0_hasAsh
set_option maxRecDepth 20000 in
theorem ggX0_dropAsh_X0_ashBeds : GoodIn wsX0_dropAsh wsX0_ashBeds := goodIn_r _ [17, 9, 10, 11, 12, 7, 13, 3, 4, 5, 6, 8, 18, 19, 20, 21, 22, 23, 24, 25, 26, 27, 28, 29] (by decide +kernel) (by decide +kernel)
set_option maxRecDepth 20000 in
theorem gX0_dropAsh_X0_ashBeds : GoodIn wsX0_dropAsh (wsV RX0 85 RX0 yX0_ashBeds wsX0_ashBeds) := goodIn_app (goodIn_of _ (by decide +kernel)) ggX0_dropAsh_X0_ashBeds
theorem dX0_dropAsh_0 : decode cX0_dropAsh 0 = .ok (.aload_n 0, 1) := by decide +kernel
theorem dX0_dropAsh_1 : decode cX0_dropAsh 1 = .ok (.iload_n 1, 1) := by decide +kernel
theorem dX0_dropAsh_2 : decode cX0_dropAsh 2 = .ok (.invokevirtual 56, 3) := by decide +kernel
theorem dX0_dropAsh_5 : decode cX0_dropAsh 5 = .ok (.ifCond .ne 6, 3) := by decide +kernel
theorem dX0_dropAsh_8 : decode cX0_dropAsh 8 = .ok (.ldc 78, 2) := by decide +kernel
theorem dX0_dropAsh_10 : decode cX0_dropAsh 10 = .ok (.ireturn, 1) := by decide +kernel
theorem dX0_dropAsh_11 : decode cX0_dropAsh 11 = .ok (.aload_n 0, 1) := by decide +kernel
theorem dX0_dropAsh_12 : decode cX0_dropAsh 12 = .ok (.iload_n 1, 1) := by decide +kernel
theorem dX0_dropAsh_13 : decode cX0_dropAsh 13 = .ok (.invokevirtual 60, 3) := by decide +kernel
theorem dX0_dropAsh_16 : decode cX0_dropAsh 16 = .ok (.ifCond .ne 6, 3) := by decide +kernel
theorem dX0_dropAsh_19 : decode cX0_dropAsh 19 = .ok (.ldc 76, 2) := by decide +kernel
theorem dX0_dropAsh_21 : decode cX0_dropAsh 21 = .ok (.ireturn, 1) := by decide +kernel
theorem dX0_dropAsh_22 : decode cX0_dropAsh 22 = .ok (.aload_n 0, 1) := by decide +kernel
theorem dX0_dropAsh_23 : decode cX0_dropAsh 23 = .ok (.getfield 41, 3) := by decide +kernel
theorem dX0_dropAsh_26 : decode cX0_dropAsh 26 = .ok (.iload_n 1, 1) := by decide +kernel
theorem dX0_dropAsh_27 : decode cX0_dropAsh 27 = .ok (.iconst (-1), 1) := by decide +kernel
theorem dX0_dropAsh_28 : decode cX0_dropAsh 28 = .ok (.iastore, 1) := by decide +kernel
theorem dX0_dropAsh_29 : decode cX0_dropAsh 29 = .ok (.aload_n 0, 1) := by decide +kernel
theorem dX0_dropAsh_30 : decode cX0_dropAsh 30 = .ok (.invokevirtual 85, 3) := by decide +kernel
theorem dX0_dropAsh_33 : decode cX0_dropAsh 33 = .ok (.ireturn, 1) := by decide +kernel
set_option maxRecDepth 20000 in
theorem ggX0_putCount_X0_has : GoodIn wsX0_putCount wsX0_has := goodIn_r _ [9, 10, 51, 52, 53, 54, 55, 56, 57, 58, 59, 60, 61, 62] (by decide +kernel) (by decide +kernel)
set_option maxRecDepth 20000 in
theorem gX0_putCount_X0_has : GoodIn wsX0_putCount (wsV RX0 56 RX0 yX0_has wsX0_has) := goodIn_app (goodIn_of _ (by decide +kernel)) ggX0_putCount_X0_has
set_option maxRecDepth 20000 in
theorem ggX0_putCount_X4_isBetween : GoodIn wsX0_putCount wsX4_isBetween := goodIn_r _ [13] (by decide +kernel) (by decide +kernel)
set_option maxRecDepth 20000 in
theorem gX0_putCount_X4_isBetween_n67 : GoodIn wsX0_putCount (wsX4_isBetween) := ggX0_putCount_X4_isBetween
set_option maxRecDepth 20000 in
theorem ggX0_putCount_X0_countErrorOf : GoodIn wsX0_putCount wsX0_countErrorOf := goodIn_r _ [17, 18, 19, 4, 20, 21, 22, 8, 23, 24, 25, 26, 27, 28, 29, 30, 31, 32, 33, 34, 35, 36, 37, 38, 39, 40, 41, 42, 43, 10, 44, 12, 45, 46, 47, 48, 49, 50, 51, 52, 53, 54, 55, 56, 57, 58, 59, 60, 61, 62] (by decide +kernel) (by decide +kernel)
set_option maxRecDepth 20000 in
theorem gX0_putCount_X0_countErrorOf : GoodIn wsX0_putCount (wsV RX0 89 RX0 yX0_countErrorOf wsX0_countErrorOf) := goodIn_app (goodIn_of _ (by decide +kernel)) ggX0_putCount_X0_countErrorOf
theorem dX0_putCount_0 : decode cX0_putCount 0 = .ok (.aload_n 0, 1) := by decide +kernel
theorem dX0_putCount_1 : decode cX0_putCount 1 = .ok (.iload_n 1, 1) := by decide +kernel
theorem dX0_putCount_2 : decode cX0_putCount 2 = .ok (.invokevirtual 56, 3) := by decide +kernel
theorem dX0_putCount_5 : decode cX0_putCount 5 = .ok (.ifCond .ne 6, 3) := by decide +kernel
theorem dX0_putCount_8 : decode cX0_putCount 8 = .ok (.ldc 78, 2) := by decide +kernel
theorem dX0_putCount_10 : decode cX0_putCount 10 = .ok (.ireturn, 1) := by decide +kernel
theorem dX0_putCount_11 : decode cX0_putCount 11 = .ok (.iload_n 2, 1) := by decide +kernel
theorem dX0_putCount_12 : decode cX0_putCount 12 = .ok (.iconst 1, 1) := by decide +kernel
theorem dX0_putCount_13 : decode cX0_putCount 13 = .ok (.ldc 88, 2) := by decide +kernel
theorem dX0_putCount_15 : decode cX0_putCount 15 = .ok (.invokestatic 67, 3) := by decide +kernel
theorem dX0_putCount_18 : decode cX0_putCount 18 = .ok (.ifCond .ne 6, 3) := by decide +kernel
theorem dX0_putCount_21 : decode cX0_putCount 21 = .ok (.ldc 71, 2) := by decide +kernel
theorem dX0_putCount_23 : decode cX0_putCount 23 = .ok (.ireturn, 1) := by decide +kernel
theorem dX0_putCount_24 : decode cX0_putCount 24 = .ok (.aload_n 0, 1) := by decide +kernel
theorem dX0_putCount_25 : decode cX0_putCount 25 = .ok (.getfield 47, 3) := by decide +kernel
theorem dX0_putCount_28 : decode cX0_putCount 28 = .ok (.iload_n 1, 1) := by decide +kernel
theorem dX0_putCount_29 : decode cX0_putCount 29 = .ok (.iload_n 2, 1) := by decide +kernel
theorem dX0_putCount_30 : decode cX0_putCount 30 = .ok (.iastore, 1) := by decide +kernel
theorem dX0_putCount_31 : decode cX0_putCount 31 = .ok (.aload_n 0, 1) := by decide +kernel
theorem dX0_putCount_32 : decode cX0_putCount 32 = .ok (.iload_n 1, 1) := by decide +kernel
theorem dX0_putCount_33 : decode cX0_putCount 33 = .ok (.invokevirtual 89, 3) := by decide +kernel
theorem dX0_putCount_36 : decode cX0_putCount 36 = .ok (.ireturn, 1) := by decide +kernel
set_option maxRecDepth 20000 in
theorem ggX0_thinningOf_X0_topOf : GoodIn wsX0_thinningOf wsX0_topOf := goodIn_r _ [15, 16, 3, 20, 21, 22, 23, 24, 25, 26, 27, 28, 29, 30, 31] (by decide +kernel) (by decide +kernel)
set_option maxRecDepth 20000 in
theorem gX0_thinningOf_X0_topOf : GoodIn wsX0_thinningOf (wsV RX0 63 RX0 yX0_topOf wsX0_topOf) := goodIn_app (goodIn_of _ (by decide +kernel)) ggX0_thinningOf_X0_topOf
set_option maxRecDepth 20000 in
theorem ggX0_thinningOf_X4_quotient : GoodIn wsX0_thinningOf wsX4_quotient := goodIn_r _ [19] (by decide +kernel) (by decide +kernel)
set_option maxRecDepth 20000 in
theorem gX0_thinningOf_X4_quotient_n98 : GoodIn wsX0_thinningOf (wsX4_quotient) := ggX0_thinningOf_X4_quotient
theorem dX0_thinningOf_0 : decode cX0_thinningOf 0 = .ok (.iload_n 2, 1) := by decide +kernel
theorem dX0_thinningOf_1 : decode cX0_thinningOf 1 = .ok (.iconst 2, 1) := by decide +kernel
theorem dX0_thinningOf_2 : decode cX0_thinningOf 2 = .ok (.if_icmp .ne 10, 3) := by decide +kernel
theorem dX0_thinningOf_5 : decode cX0_thinningOf 5 = .ok (.aload_n 0, 1) := by decide +kernel
theorem dX0_thinningOf_6 : decode cX0_thinningOf 6 = .ok (.getfield 38, 3) := by decide +kernel
theorem dX0_thinningOf_9 : decode cX0_thinningOf 9 = .ok (.iload_n 1, 1) := by decide +kernel
theorem dX0_thinningOf_10 : decode cX0_thinningOf 10 = .ok (.iaload, 1) := by decide +kernel
theorem dX0_thinningOf_11 : decode cX0_thinningOf 11 = .ok (.ireturn, 1) := by decide +kernel
theorem dX0_thinningOf_12 : decode cX0_thinningOf 12 = .ok (.aload_n 0, 1) := by decide +kernel
theorem dX0_thinningOf_13 : decode cX0_thinningOf 13 = .ok (.getfield 16, 3) := by decide +kernel
theorem dX0_thinningOf_16 : decode cX0_thinningOf 16 = .ok (.aload_n 0, 1) := by decide +kernel
theorem dX0_thinningOf_17 : decode cX0_thinningOf 17 = .ok (.iload_n 1, 1) := by decide +kernel
theorem dX0_thinningOf_18 : decode cX0_thinningOf 18 = .ok (.invokevirtual 63, 3) := by decide +kernel
theorem dX0_thinningOf_21 : decode cX0_thinningOf 21 = .ok (.aload_n 0, 1) := by decide +kernel
theorem dX0_thinningOf_22 : decode cX0_thinningOf 22 = .ok (.getfield 28, 3) := by decide +kernel
theorem dX0_thinningOf_25 : decode cX0_thinningOf 25 = .ok (.iload_n 1, 1) := by decide +kernel
theorem dX0_thinningOf_26 : decode cX0_thinningOf 26 = .ok (.iaload, 1) := by decide +kernel
theorem dX0_thinningOf_27 : decode cX0_thinningOf 27 = .ok (.iconst 2, 1) := by decide +kernel
theorem dX0_thinningOf_28 : decode cX0_thinningOf 28 = .ok (.idiv, 1) := by decide +kernel
theorem dX0_thinningOf_29 : decode cX0_thinningOf 29 = .ok (.iadd, 1) := by decide +kernel
theorem dX0_thinningOf_30 : decode cX0_thinningOf 30 = .ok (.isub, 1) := by decide +kernel
theorem dX0_thinningOf_31 : decode cX0_thinningOf 31 = .ok (.i2l, 1) := by decide +kernel
theorem dX0_thinningOf_32 : decode cX0_thinningOf 32 = .ok (.lstore 4, 2) := by decide +kernel
theorem dX0_thinningOf_34 : decode cX0_thinningOf 34 = .ok (.ldc2_w 92, 3) := by decide +kernel
theorem dX0_thinningOf_37 : decode cX0_thinningOf 37 = .ok (.lload 4, 2) := by decide +kernel
theorem dX0_thinningOf_39 : decode cX0_thinningOf 39 = .ok (.lmul, 1) := by decide +kernel
theorem dX0_thinningOf_40 : decode cX0_thinningOf 40 = .ok (.lstore 6, 2) := by decide +kernel
theorem dX0_thinningOf_42 : decode cX0_thinningOf 42 = .ok (.aload_n 0, 1) := by decide +kernel
theorem dX0_thinningOf_43 : decode cX0_thinningOf 43 = .ok (.getfield 16, 3) := by decide +kernel
theorem dX0_thinningOf_46 : decode cX0_thinningOf 46 = .ok (.i2l, 1) := by decide +kernel
theorem dX0_thinningOf_47 : decode cX0_thinningOf 47 = .ok (.lstore 8, 2) := by decide +kernel
theorem dX0_thinningOf_49 : decode cX0_thinningOf 49 = .ok (.iload_n 2, 1) := by decide +kernel
theorem dX0_thinningOf_50 : decode cX0_thinningOf 50 = .ok (.iconst 1, 1) := by decide +kernel
theorem dX0_thinningOf_51 : decode cX0_thinningOf 51 = .ok (.if_icmp .ne 95, 3) := by decide +kernel
theorem dX0_thinningOf_54 : decode cX0_thinningOf 54 = .ok (.aload_n 0, 1) := by decide +kernel
theorem dX0_thinningOf_55 : decode cX0_thinningOf 55 = .ok (.getfield 16, 3) := by decide +kernel
theorem dX0_thinningOf_58 : decode cX0_thinningOf 58 = .ok (.i2l, 1) := by decide +kernel
theorem dX0_thinningOf_59 : decode cX0_thinningOf 59 = .ok (.iload_n 3, 1) := by decide +kernel
theorem dX0_thinningOf_60 : decode cX0_thinningOf 60 = .ok (.i2l, 1) := by decide +kernel
theorem dX0_thinningOf_61 : decode cX0_thinningOf 61 = .ok (.lmul, 1) := by decide +kernel
theorem dX0_thinningOf_62 : decode cX0_thinningOf 62 = .ok (.ldc2_w 92, 3) := by decide +kernel
theorem dX0_thinningOf_65 : decode cX0_thinningOf 65 = .ok (.ldiv, 1) := by decide +kernel
theorem dX0_thinningOf_66 : decode cX0_thinningOf 66 = .ok (.lstore 10, 2) := by decide +kernel
theorem dX0_thinningOf_68 : decode cX0_thinningOf 68 = .ok (.ldc2_w 94, 3) := by decide +kernel
theorem dX0_thinningOf_71 : decode cX0_thinningOf 71 = .ok (.aload_n 0, 1) := by decide +kernel
theorem dX0_thinningOf_72 : decode cX0_thinningOf 72 = .ok (.getfield 16, 3) := by decide +kernel
theorem dX0_thinningOf_75 : decode cX0_thinningOf 75 = .ok (.i2l, 1) := by decide +kernel
theorem dX0_thinningOf_76 : decode cX0_thinningOf 76 = .ok (.lmul, 1) := by decide +kernel
theorem dX0_thinningOf_77 : decode cX0_thinningOf 77 = .ok (.lload 10, 2) := by decide +kernel
theorem dX0_thinningOf_79 : decode cX0_thinningOf 79 = .ok (.lsub, 1) := by decide +kernel
theorem dX0_thinningOf_80 : decode cX0_thinningOf 80 = .ok (.lstore 12, 2) := by decide +kernel
theorem dX0_thinningOf_82 : decode cX0_thinningOf 82 = .ok (.lload 4, 2) := by decide +kernel
theorem dX0_thinningOf_84 : decode cX0_thinningOf 84 = .ok (.lload 10, 2) := by decide +kernel
theorem dX0_thinningOf_86 : decode cX0_thinningOf 86 = .ok (.lcmp, 1) := by decide +kernel
theorem dX0_thinningOf_87 : decode cX0_thinningOf 87 = .ok (.ifCond .lt 7, 3) := by decide +kernel
theorem dX0_thinningOf_90 : decode cX0_thinningOf 90 = .ok (.iconst 1, 1) := by decide +kernel
theorem dX0_thinningOf_91 : decode cX0_thinningOf 91 = .ok (.goto 4, 3) := by decide +kernel
theorem dX0_thinningOf_94 : decode cX0_thinningOf 94 = .ok (.iconst 0, 1) := by decide +kernel
theorem dX0_thinningOf_95 : decode cX0_thinningOf 95 = .ok (.istore 14, 2) := by decide +kernel
theorem dX0_thinningOf_97 : decode cX0_thinningOf 97 = .ok (.iload 14, 2) := by decide +kernel
theorem dX0_thinningOf_99 : decode cX0_thinningOf 99 = .ok (.ifCond .eq 19, 3) := by decide +kernel
theorem dX0_thinningOf_102 : decode cX0_thinningOf 102 = .ok (.ldc2_w 92, 3) := by decide +kernel
theorem dX0_thinningOf_105 : decode cX0_thinningOf 105 = .ok (.ldc2_w 94, 3) := by decide +kernel
theorem dX0_thinningOf_108 : decode cX0_thinningOf 108 = .ok (.lload 4, 2) := by decide +kernel
theorem dX0_thinningOf_110 : decode cX0_thinningOf 110 = .ok (.lmul, 1) := by decide +kernel
theorem dX0_thinningOf_111 : decode cX0_thinningOf 111 = .ok (.lload 10, 2) := by decide +kernel
theorem dX0_thinningOf_113 : decode cX0_thinningOf 113 = .ok (.lsub, 1) := by decide +kernel
theorem dX0_thinningOf_114 : decode cX0_thinningOf 114 = .ok (.lmul, 1) := by decide +kernel
theorem dX0_thinningOf_115 : decode cX0_thinningOf 115 = .ok (.goto 12, 3) := by decide +kernel
theorem dX0_thinningOf_118 : decode cX0_thinningOf 118 = .ok (.ldc2_w 92, 3) := by decide +kernel
theorem dX0_thinningOf_121 : decode cX0_thinningOf 121 = .ok (.lload 4, 2) := by decide +kernel
theorem dX0_thinningOf_123 : decode cX0_thinningOf 123 = .ok (.lmul, 1) := by decide +kernel
theorem dX0_thinningOf_124 : decode cX0_thinningOf 124 = .ok (.lload 4, 2) := by decide +kernel
theorem dX0_thinningOf_126 : decode cX0_thinningOf 126 = .ok (.lmul, 1) := by decide +kernel
theorem dX0_thinningOf_127 : decode cX0_thinningOf 127 = .ok (.lstore 6, 2) := by decide +kernel
theorem dX0_thinningOf_129 : decode cX0_thinningOf 129 = .ok (.iload 14, 2) := by decide +kernel
theorem dX0_thinningOf_131 : decode cX0_thinningOf 131 = .ok (.ifCond .eq 8, 3) := by decide +kernel
theorem dX0_thinningOf_134 : decode cX0_thinningOf 134 = .ok (.lload 12, 2) := by decide +kernel
theorem dX0_thinningOf_136 : decode cX0_thinningOf 136 = .ok (.goto 8, 3) := by decide +kernel
theorem dX0_thinningOf_139 : decode cX0_thinningOf 139 = .ok (.lload 10, 2) := by decide +kernel
theorem dX0_thinningOf_141 : decode cX0_thinningOf 141 = .ok (.lload 12, 2) := by decide +kernel
theorem dX0_thinningOf_143 : decode cX0_thinningOf 143 = .ok (.lmul, 1) := by decide +kernel
theorem dX0_thinningOf_144 : decode cX0_thinningOf 144 = .ok (.lstore 8, 2) := by decide +kernel
theorem dX0_thinningOf_146 : decode cX0_thinningOf 146 = .ok (.ldc2_w 96, 3) := by decide +kernel
theorem dX0_thinningOf_149 : decode cX0_thinningOf 149 = .ok (.lload 6, 2) := by decide +kernel
theorem dX0_thinningOf_151 : decode cX0_thinningOf 151 = .ok (.lload 8, 2) := by decide +kernel
theorem dX0_thinningOf_153 : decode cX0_thinningOf 153 = .ok (.invokestatic 98, 3) := by decide +kernel
theorem dX0_thinningOf_156 : decode cX0_thinningOf 156 = .ok (.invokestatic 102, 3) := by decide +kernel
theorem dX0_thinningOf_159 : decode cX0_thinningOf 159 = .ok (.l2i, 1) := by decide +kernel
theorem dX0_thinningOf_160 : decode cX0_thinningOf 160 = .ok (.ireturn, 1) := by decide +kernel
theorem dX0_yearsDividend_0 : decode cX0_yearsDividend 0 = .ok (.ldc2_w 107, 3) := by decide +kernel
theorem dX0_yearsDividend_3 : decode cX0_yearsDividend 3 = .ok (.aload_n 0, 1) := by decide +kernel
theorem dX0_yearsDividend_4 : decode cX0_yearsDividend 4 = .ok (.getfield 28, 3) := by decide +kernel
theorem dX0_yearsDividend_7 : decode cX0_yearsDividend 7 = .ok (.iload_n 1, 1) := by decide +kernel
theorem dX0_yearsDividend_8 : decode cX0_yearsDividend 8 = .ok (.iaload, 1) := by decide +kernel
theorem dX0_yearsDividend_9 : decode cX0_yearsDividend 9 = .ok (.i2l, 1) := by decide +kernel
theorem dX0_yearsDividend_10 : decode cX0_yearsDividend 10 = .ok (.lmul, 1) := by decide +kernel
theorem dX0_yearsDividend_11 : decode cX0_yearsDividend 11 = .ok (.lreturn, 1) := by decide +kernel
set_option maxRecDepth 20000 in
theorem ggX0_yearsOf_X0_thinningOf : GoodIn wsX0_yearsOf wsX0_thinningOf := goodIn_r _ [7, 8, 9, 10, 11, 12, 13, 14, 15, 16, 17, 18, 19, 20, 6, 21, 22, 23, 24, 25, 31, 32, 33, 34, 35, 36, 37, 38, 39, 40, 41, 42] (by decide +kernel) (by decide +kernel)
set_option maxRecDepth 20000 in
theorem gX0_yearsOf_X0_thinningOf : GoodIn wsX0_yearsOf (wsV RX0 109 RX0 yX0_thinningOf wsX0_thinningOf) := goodIn_app (goodIn_of _ (by decide +kernel)) ggX0_yearsOf_X0_thinningOf
set_option maxRecDepth 20000 in
theorem ggX0_yearsOf_X0_yearsDividend : GoodIn wsX0_yearsOf wsX0_yearsDividend := goodIn_r _ [29, 30, 10, 31, 32, 33, 34, 35, 36, 37, 38, 39, 40, 41, 42] (by decide +kernel) (by decide +kernel)
set_option maxRecDepth 20000 in
theorem gX0_yearsOf_X0_yearsDividend : GoodIn wsX0_yearsOf (wsV RX0 113 RX0 yX0_yearsDividend wsX0_yearsDividend) := goodIn_app (goodIn_of _ (by decide +kernel)) ggX0_yearsOf_X0_yearsDividend
set_option maxRecDepth 20000 in
theorem ggX0_yearsOf_X4_quotient : GoodIn wsX0_yearsOf wsX4_quotient := goodIn_r _ [25] (by decide +kernel) (by decide +kernel)
set_option maxRecDepth 20000 in
theorem gX0_yearsOf_X4_quotient_n98 : GoodIn wsX0_yearsOf (wsX4_quotient) := ggX0_yearsOf_X4_quotient
theorem dX0_yearsOf_0 : decode cX0_yearsOf 0 = .ok (.aload_n 0, 1) := by decide +kernel
theorem dX0_yearsOf_1 : decode cX0_yearsOf 1 = .ok (.iload_n 1, 1) := by decide +kernel
theorem dX0_yearsOf_2 : decode cX0_yearsOf 2 = .ok (.iload_n 2, 1) := by decide +kernel
theorem dX0_yearsOf_3 : decode cX0_yearsOf 3 = .ok (.iload_n 3, 1) := by decide +kernel
theorem dX0_yearsOf_4 : decode cX0_yearsOf 4 = .ok (.invokevirtual 109, 3) := by decide +kernel
theorem dX0_yearsOf_7 : decode cX0_yearsOf 7 = .ok (.i2l, 1) := by decide +kernel
theorem dX0_yearsOf_8 : decode cX0_yearsOf 8 = .ok (.lstore 4, 2) := by decide +kernel
theorem dX0_yearsOf_10 : decode cX0_yearsOf 10 = .ok (.aload_n 0, 1) := by decide +kernel
theorem dX0_yearsOf_11 : decode cX0_yearsOf 11 = .ok (.iload_n 1, 1) := by decide +kernel
theorem dX0_yearsOf_12 : decode cX0_yearsOf 12 = .ok (.invokevirtual 113, 3) := by decide +kernel
theorem dX0_yearsOf_15 : decode cX0_yearsOf 15 = .ok (.lload 4, 2) := by decide +kernel
theorem dX0_yearsOf_17 : decode cX0_yearsOf 17 = .ok (.aload_n 0, 1) := by decide +kernel
theorem dX0_yearsOf_18 : decode cX0_yearsOf 18 = .ok (.getfield 32, 3) := by decide +kernel
theorem dX0_yearsOf_21 : decode cX0_yearsOf 21 = .ok (.iload_n 1, 1) := by decide +kernel
theorem dX0_yearsOf_22 : decode cX0_yearsOf 22 = .ok (.iaload, 1) := by decide +kernel
theorem dX0_yearsOf_23 : decode cX0_yearsOf 23 = .ok (.i2l, 1) := by decide +kernel
theorem dX0_yearsOf_24 : decode cX0_yearsOf 24 = .ok (.lmul, 1) := by decide +kernel
theorem dX0_yearsOf_25 : decode cX0_yearsOf 25 = .ok (.aload_n 0, 1) := by decide +kernel
theorem dX0_yearsOf_26 : decode cX0_yearsOf 26 = .ok (.getfield 35, 3) := by decide +kernel
theorem dX0_yearsOf_29 : decode cX0_yearsOf 29 = .ok (.iload_n 1, 1) := by decide +kernel
theorem dX0_yearsOf_30 : decode cX0_yearsOf 30 = .ok (.iaload, 1) := by decide +kernel
theorem dX0_yearsOf_31 : decode cX0_yearsOf 31 = .ok (.i2l, 1) := by decide +kernel
theorem dX0_yearsOf_32 : decode cX0_yearsOf 32 = .ok (.lmul, 1) := by decide +kernel
theorem dX0_yearsOf_33 : decode cX0_yearsOf 33 = .ok (.invokestatic 98, 3) := by decide +kernel
theorem dX0_yearsOf_36 : decode cX0_yearsOf 36 = .ok (.l2i, 1) := by decide +kernel
theorem dX0_yearsOf_37 : decode cX0_yearsOf 37 = .ok (.ireturn, 1) := by decide +kernel
set_option maxRecDepth 20000 in
theorem ggX0_delayOf_X4_quotient : GoodIn wsX0_delayOf wsX4_quotient := goodIn_r _ [7] (by decide +kernel) (by decide +kernel)
set_option maxRecDepth 20000 in
theorem gX0_delayOf_X4_quotient_n98 : GoodIn wsX0_delayOf (wsX4_quotient) := ggX0_delayOf_X4_quotient
theorem dX0_delayOf_0 : decode cX0_delayOf 0 = .ok (.ldc2_w 117, 3) := by decide +kernel
theorem dX0_delayOf_3 : decode cX0_delayOf 3 = .ok (.aload_n 0, 1) := by decide +kernel
theorem dX0_delayOf_4 : decode cX0_delayOf 4 = .ok (.getfield 25, 3) := by decide +kernel
theorem dX0_delayOf_7 : decode cX0_delayOf 7 = .ok (.i2l, 1) := by decide +kernel
theorem dX0_delayOf_8 : decode cX0_delayOf 8 = .ok (.lmul, 1) := by decide +kernel
theorem dX0_delayOf_9 : decode cX0_delayOf 9 = .ok (.aload_n 0, 1) := by decide +kernel
theorem dX0_delayOf_10 : decode cX0_delayOf 10 = .ok (.getfield 32, 3) := by decide +kernel
theorem dX0_delayOf_13 : decode cX0_delayOf 13 = .ok (.iload_n 1, 1) := by decide +kernel
theorem dX0_delayOf_14 : decode cX0_delayOf 14 = .ok (.iaload, 1) := by decide +kernel
theorem dX0_delayOf_15 : decode cX0_delayOf 15 = .ok (.i2l, 1) := by decide +kernel
theorem dX0_delayOf_16 : decode cX0_delayOf 16 = .ok (.aload_n 0, 1) := by decide +kernel
theorem dX0_delayOf_17 : decode cX0_delayOf 17 = .ok (.getfield 35, 3) := by decide +kernel
theorem dX0_delayOf_20 : decode cX0_delayOf 20 = .ok (.iload_n 1, 1) := by decide +kernel
theorem dX0_delayOf_21 : decode cX0_delayOf 21 = .ok (.iaload, 1) := by decide +kernel
theorem dX0_delayOf_22 : decode cX0_delayOf 22 = .ok (.i2l, 1) := by decide +kernel
theorem dX0_delayOf_23 : decode cX0_delayOf 23 = .ok (.lmul, 1) := by decide +kernel
theorem dX0_delayOf_24 : decode cX0_delayOf 24 = .ok (.invokestatic 98, 3) := by decide +kernel
theorem dX0_delayOf_27 : decode cX0_delayOf 27 = .ok (.l2i, 1) := by decide +kernel
theorem dX0_delayOf_28 : decode cX0_delayOf 28 = .ok (.ireturn, 1) := by decide +kernel
set_option maxRecDepth 20000 in
theorem ggX0_countErrorOf_X0_yearsOf : GoodIn wsX0_countErrorOf wsX0_yearsOf := goodIn_r _ [8, 9, 10, 11, 12, 13, 7, 14, 15, 16, 17, 18, 19, 20, 21, 22, 23, 24, 25, 26, 27, 28, 29, 30, 31, 32, 33, 34, 35, 36, 37, 38, 39, 40, 41, 42, 43, 44, 45, 46, 47, 48, 49] (by decide +kernel) (by decide +kernel)
set_option maxRecDepth 20000 in
theorem gX0_countErrorOf_X0_yearsOf : GoodIn wsX0_countErrorOf (wsV RX0 119 RX0 yX0_yearsOf wsX0_yearsOf) := goodIn_app (goodIn_of _ (by decide +kernel)) ggX0_countErrorOf_X0_yearsOf
theorem dX0_countErrorOf_0 : decode cX0_countErrorOf 0 = .ok (.aload_n 0, 1) := by decide +kernel
theorem dX0_countErrorOf_1 : decode cX0_countErrorOf 1 = .ok (.iload_n 1, 1) := by decide +kernel
theorem dX0_countErrorOf_2 : decode cX0_countErrorOf 2 = .ok (.aload_n 0, 1) := by decide +kernel
theorem dX0_countErrorOf_3 : decode cX0_countErrorOf 3 = .ok (.getfield 19, 3) := by decide +kernel
theorem dX0_countErrorOf_6 : decode cX0_countErrorOf 6 = .ok (.aload_n 0, 1) := by decide +kernel
theorem dX0_countErrorOf_7 : decode cX0_countErrorOf 7 = .ok (.getfield 22, 3) := by decide +kernel
theorem dX0_countErrorOf_10 : decode cX0_countErrorOf 10 = .ok (.invokevirtual 119, 3) := by decide +kernel
theorem dX0_countErrorOf_13 : decode cX0_countErrorOf 13 = .ok (.aload_n 0, 1) := by decide +kernel
theorem dX0_countErrorOf_14 : decode cX0_countErrorOf 14 = .ok (.getfield 47, 3) := by decide +kernel
theorem dX0_countErrorOf_17 : decode cX0_countErrorOf 17 = .ok (.iload_n 1, 1) := by decide +kernel
theorem dX0_countErrorOf_18 : decode cX0_countErrorOf 18 = .ok (.iaload, 1) := by decide +kernel
theorem dX0_countErrorOf_19 : decode cX0_countErrorOf 19 = .ok (.isub, 1) := by decide +kernel
theorem dX0_countErrorOf_20 : decode cX0_countErrorOf 20 = .ok (.ireturn, 1) := by decide +kernel
set_option maxRecDepth 20000 in
theorem ggX0_residualOf_X0_yearsOf : GoodIn wsX0_residualOf wsX0_yearsOf := goodIn_r _ [9, 10, 11, 12, 13, 14, 8, 15, 16, 17, 18, 19, 20, 21, 22, 23, 24, 25, 26, 27, 28, 29, 1, 30, 31, 32, 33, 34, 35, 36, 37, 38, 39, 40, 41, 42, 43, 44, 45, 46, 47, 48, 49] (by decide +kernel) (by decide +kernel)
set_option maxRecDepth 20000 in
theorem gX0_residualOf_X0_yearsOf : GoodIn wsX0_residualOf (wsV RX0 119 RX0 yX0_yearsOf wsX0_yearsOf) := goodIn_app (goodIn_of _ (by decide +kernel)) ggX0_residualOf_X0_yearsOf
theorem dX0_residualOf_0 : decode cX0_residualOf 0 = .ok (.iconst 0, 1) := by decide +kernel
theorem dX0_residualOf_1 : decode cX0_residualOf 1 = .ok (.istore_n 2, 1) := by decide +kernel
theorem dX0_residualOf_2 : decode cX0_residualOf 2 = .ok (.iconst 0, 1) := by decide +kernel
theorem dX0_residualOf_3 : decode cX0_residualOf 3 = .ok (.istore_n 3, 1) := by decide +kernel
theorem dX0_residualOf_4 : decode cX0_residualOf 4 = .ok (.iload_n 3, 1) := by decide +kernel
theorem dX0_residualOf_5 : decode cX0_residualOf 5 = .ok (.iload_n 1, 1) := by decide +kernel
theorem dX0_residualOf_6 : decode cX0_residualOf 6 = .ok (.if_icmp .gt 33, 3) := by decide +kernel
theorem dX0_residualOf_9 : decode cX0_residualOf 9 = .ok (.iload_n 3, 1) := by decide +kernel
theorem dX0_residualOf_10 : decode cX0_residualOf 10 = .ok (.aload_n 0, 1) := by decide +kernel
theorem dX0_residualOf_11 : decode cX0_residualOf 11 = .ok (.getfield 9, 3) := by decide +kernel
theorem dX0_residualOf_14 : decode cX0_residualOf 14 = .ok (.if_icmp .ge 25, 3) := by decide +kernel
theorem dX0_residualOf_17 : decode cX0_residualOf 17 = .ok (.iload_n 2, 1) := by decide +kernel
theorem dX0_residualOf_18 : decode cX0_residualOf 18 = .ok (.aload_n 0, 1) := by decide +kernel
theorem dX0_residualOf_19 : decode cX0_residualOf 19 = .ok (.iload_n 3, 1) := by decide +kernel
theorem dX0_residualOf_20 : decode cX0_residualOf 20 = .ok (.aload_n 0, 1) := by decide +kernel
theorem dX0_residualOf_21 : decode cX0_residualOf 21 = .ok (.getfield 19, 3) := by decide +kernel
theorem dX0_residualOf_24 : decode cX0_residualOf 24 = .ok (.aload_n 0, 1) := by decide +kernel
theorem dX0_residualOf_25 : decode cX0_residualOf 25 = .ok (.getfield 22, 3) := by decide +kernel
theorem dX0_residualOf_28 : decode cX0_residualOf 28 = .ok (.invokevirtual 119, 3) := by decide +kernel
theorem dX0_residualOf_31 : decode cX0_residualOf 31 = .ok (.iadd, 1) := by decide +kernel
theorem dX0_residualOf_32 : decode cX0_residualOf 32 = .ok (.istore_n 2, 1) := by decide +kernel
theorem dX0_residualOf_33 : decode cX0_residualOf 33 = .ok (.iinc 3 1, 3) := by decide +kernel
theorem dX0_residualOf_36 : decode cX0_residualOf 36 = .ok (.goto (-32), 3) := by decide +kernel
theorem dX0_residualOf_39 : decode cX0_residualOf 39 = .ok (.iload_n 2, 1) := by decide +kernel
theorem dX0_residualOf_40 : decode cX0_residualOf 40 = .ok (.aload_n 0, 1) := by decide +kernel
theorem dX0_residualOf_41 : decode cX0_residualOf 41 = .ok (.getfield 41, 3) := by decide +kernel
theorem dX0_residualOf_44 : decode cX0_residualOf 44 = .ok (.iload_n 1, 1) := by decide +kernel
theorem dX0_residualOf_45 : decode cX0_residualOf 45 = .ok (.iaload, 1) := by decide +kernel
theorem dX0_residualOf_46 : decode cX0_residualOf 46 = .ok (.isub, 1) := by decide +kernel
theorem dX0_residualOf_47 : decode cX0_residualOf 47 = .ok (.ireturn, 1) := by decide +kernel
set_option maxRecDepth 20000 in
theorem ggX0_fittingBeds_X0_yearsOf : GoodIn wsX0_fittingBeds wsX0_yearsOf := goodIn_r _ [14, 15, 16, 17, 18, 19, 13, 20, 21, 22, 23, 24, 25, 26, 27, 28, 7, 29, 30, 31, 32, 33, 1, 34, 35, 36, 37, 38, 39, 40, 41, 50, 51, 52, 53, 54, 55, 56, 57, 58, 59, 60, 61] (by decide +kernel) (by decide +kernel)
set_option maxRecDepth 20000 in
theorem gX0_fittingBeds_X0_yearsOf : GoodIn wsX0_fittingBeds (wsV RX0 119 RX0 yX0_yearsOf wsX0_yearsOf) := goodIn_app (goodIn_of _ (by decide +kernel)) ggX0_fittingBeds_X0_yearsOf
set_option maxRecDepth 20000 in
theorem ggX0_fittingBeds_X0_hasAsh : GoodIn wsX0_fittingBeds wsX0_hasAsh := goodIn_r _ [45, 4, 46, 47, 48, 13, 49, 1, 50, 51, 52, 53, 54, 55, 56, 57, 58, 59, 60, 61] (by decide +kernel) (by decide +kernel)
set_option maxRecDepth 20000 in
theorem gX0_fittingBeds_X0_hasAsh : GoodIn wsX0_fittingBeds (wsV RX0 60 RX0 yX0_hasAsh wsX0_hasAsh) := goodIn_app (goodIn_of _ (by decide +kernel)) ggX0_fittingBeds_X0_hasAsh
theorem dX0_fittingBeds_0 : decode cX0_fittingBeds 0 = .ok (.iconst 0, 1) := by decide +kernel
theorem dX0_fittingBeds_1 : decode cX0_fittingBeds 1 = .ok (.istore_n 1, 1) := by decide +kernel
theorem dX0_fittingBeds_2 : decode cX0_fittingBeds 2 = .ok (.iconst 0, 1) := by decide +kernel
theorem dX0_fittingBeds_3 : decode cX0_fittingBeds 3 = .ok (.istore_n 2, 1) := by decide +kernel
theorem dX0_fittingBeds_4 : decode cX0_fittingBeds 4 = .ok (.iconst 0, 1) := by decide +kernel
theorem dX0_fittingBeds_5 : decode cX0_fittingBeds 5 = .ok (.istore_n 3, 1) := by decide +kernel
theorem dX0_fittingBeds_6 : decode cX0_fittingBeds 6 = .ok (.iload_n 3, 1) := by decide +kernel
theorem dX0_fittingBeds_7 : decode cX0_fittingBeds 7 = .ok (.aload_n 0, 1) := by decide +kernel
theorem dX0_fittingBeds_8 : decode cX0_fittingBeds 8 = .ok (.getfield 9, 3) := by decide +kernel
theorem dX0_fittingBeds_11 : decode cX0_fittingBeds 11 = .ok (.if_icmp .ge 56, 3) := by decide +kernel
theorem dX0_fittingBeds_14 : decode cX0_fittingBeds 14 = .ok (.iload_n 1, 1) := by decide +kernel
theorem dX0_fittingBeds_15 : decode cX0_fittingBeds 15 = .ok (.aload_n 0, 1) := by decide +kernel
theorem dX0_fittingBeds_16 : decode cX0_fittingBeds 16 = .ok (.iload_n 3, 1) := by decide +kernel
theorem dX0_fittingBeds_17 : decode cX0_fittingBeds 17 = .ok (.aload_n 0, 1) := by decide +kernel
theorem dX0_fittingBeds_18 : decode cX0_fittingBeds 18 = .ok (.getfield 19, 3) := by decide +kernel
theorem dX0_fittingBeds_21 : decode cX0_fittingBeds 21 = .ok (.aload_n 0, 1) := by decide +kernel
theorem dX0_fittingBeds_22 : decode cX0_fittingBeds 22 = .ok (.getfield 22, 3) := by decide +kernel
theorem dX0_fittingBeds_25 : decode cX0_fittingBeds 25 = .ok (.invokevirtual 119, 3) := by decide +kernel
theorem dX0_fittingBeds_28 : decode cX0_fittingBeds 28 = .ok (.iadd, 1) := by decide +kernel
theorem dX0_fittingBeds_29 : decode cX0_fittingBeds 29 = .ok (.istore_n 1, 1) := by decide +kernel
theorem dX0_fittingBeds_30 : decode cX0_fittingBeds 30 = .ok (.aload_n 0, 1) := by decide +kernel
theorem dX0_fittingBeds_31 : decode cX0_fittingBeds 31 = .ok (.iload_n 3, 1) := by decide +kernel
theorem dX0_fittingBeds_32 : decode cX0_fittingBeds 32 = .ok (.invokevirtual 60, 3) := by decide +kernel
theorem dX0_fittingBeds_35 : decode cX0_fittingBeds 35 = .ok (.ifCond .eq 26, 3) := by decide +kernel
theorem dX0_fittingBeds_38 : decode cX0_fittingBeds 38 = .ok (.iload_n 1, 1) := by decide +kernel
theorem dX0_fittingBeds_39 : decode cX0_fittingBeds 39 = .ok (.aload_n 0, 1) := by decide +kernel
theorem dX0_fittingBeds_40 : decode cX0_fittingBeds 40 = .ok (.getfield 41, 3) := by decide +kernel
theorem dX0_fittingBeds_43 : decode cX0_fittingBeds 43 = .ok (.iload_n 3, 1) := by decide +kernel
theorem dX0_fittingBeds_44 : decode cX0_fittingBeds 44 = .ok (.iaload, 1) := by decide +kernel
theorem dX0_fittingBeds_45 : decode cX0_fittingBeds 45 = .ok (.isub, 1) := by decide +kernel
theorem dX0_fittingBeds_46 : decode cX0_fittingBeds 46 = .ok (.invokestatic 122, 3) := by decide +kernel
theorem dX0_fittingBeds_49 : decode cX0_fittingBeds 49 = .ok (.aload_n 0, 1) := by decide +kernel
theorem dX0_fittingBeds_50 : decode cX0_fittingBeds 50 = .ok (.getfield 44, 3) := by decide +kernel
theorem dX0_fittingBeds_53 : decode cX0_fittingBeds 53 = .ok (.iload_n 3, 1) := by decide +kernel
theorem dX0_fittingBeds_54 : decode cX0_fittingBeds 54 = .ok (.iaload, 1) := by decide +kernel
theorem dX0_fittingBeds_55 : decode cX0_fittingBeds 55 = .ok (.if_icmp .gt 6, 3) := by decide +kernel
theorem dX0_fittingBeds_58 : decode cX0_fittingBeds 58 = .ok (.iinc 2 1, 3) := by decide +kernel
theorem dX0_fittingBeds_61 : decode cX0_fittingBeds 61 = .ok (.iinc 3 1, 3) := by decide +kernel
theorem dX0_fittingBeds_64 : decode cX0_fittingBeds 64 = .ok (.goto (-58), 3) := by decide +kernel
theorem dX0_fittingBeds_67 : decode cX0_fittingBeds 67 = .ok (.iload_n 2, 1) := by decide +kernel
theorem dX0_fittingBeds_68 : decode cX0_fittingBeds 68 = .ok (.ireturn, 1) := by decide +kernel
set_option maxRecDepth 20000 in
theorem ggX0_misfit_X0_yearsOf : GoodIn wsX0_misfit wsX0_yearsOf := goodIn_r _ [11, 12, 13, 14, 15, 16, 10, 17, 18, 19, 20, 21, 22, 23, 24, 25, 5, 26, 27, 28, 29, 30, 1, 31, 32, 33, 34, 35, 36, 37, 38, 47, 48, 49, 50, 51, 52, 53, 54, 55, 56, 57, 58] (by decide +kernel) (by decide +kernel)
set_option maxRecDepth 20000 in
theorem gX0_misfit_X0_yearsOf : GoodIn wsX0_misfit (wsV RX0 119 RX0 yX0_yearsOf wsX0_yearsOf) := goodIn_app (goodIn_of _ (by decide +kernel)) ggX0_misfit_X0_yearsOf
set_option maxRecDepth 20000 in
theorem ggX0_misfit_X0_hasAsh : GoodIn wsX0_misfit wsX0_hasAsh := goodIn_r _ [42, 2, 43, 44, 45, 10, 46, 1, 47, 48, 49, 50, 51, 52, 53, 54, 55, 56, 57, 58] (by decide +kernel) (by decide +kernel)
set_option maxRecDepth 20000 in
theorem gX0_misfit_X0_hasAsh : GoodIn wsX0_misfit (wsV RX0 60 RX0 yX0_hasAsh wsX0_hasAsh) := goodIn_app (goodIn_of _ (by decide +kernel)) ggX0_misfit_X0_hasAsh
theorem dX0_misfit_0 : decode cX0_misfit 0 = .ok (.iconst 0, 1) := by decide +kernel
theorem dX0_misfit_1 : decode cX0_misfit 1 = .ok (.istore_n 3, 1) := by decide +kernel
theorem dX0_misfit_2 : decode cX0_misfit 2 = .ok (.lconst 0, 1) := by decide +kernel
theorem dX0_misfit_3 : decode cX0_misfit 3 = .ok (.lstore 4, 2) := by decide +kernel
theorem dX0_misfit_5 : decode cX0_misfit 5 = .ok (.iconst 0, 1) := by decide +kernel
theorem dX0_misfit_6 : decode cX0_misfit 6 = .ok (.istore 6, 2) := by decide +kernel
theorem dX0_misfit_8 : decode cX0_misfit 8 = .ok (.iload 6, 2) := by decide +kernel
theorem dX0_misfit_10 : decode cX0_misfit 10 = .ok (.aload_n 0, 1) := by decide +kernel
theorem dX0_misfit_11 : decode cX0_misfit 11 = .ok (.getfield 9, 3) := by decide +kernel
theorem dX0_misfit_14 : decode cX0_misfit 14 = .ok (.if_icmp .ge 47, 3) := by decide +kernel
theorem dX0_misfit_17 : decode cX0_misfit 17 = .ok (.iload_n 3, 1) := by decide +kernel
theorem dX0_misfit_18 : decode cX0_misfit 18 = .ok (.aload_n 0, 1) := by decide +kernel
theorem dX0_misfit_19 : decode cX0_misfit 19 = .ok (.iload 6, 2) := by decide +kernel
theorem dX0_misfit_21 : decode cX0_misfit 21 = .ok (.iload_n 1, 1) := by decide +kernel
theorem dX0_misfit_22 : decode cX0_misfit 22 = .ok (.iload_n 2, 1) := by decide +kernel
theorem dX0_misfit_23 : decode cX0_misfit 23 = .ok (.invokevirtual 119, 3) := by decide +kernel
theorem dX0_misfit_26 : decode cX0_misfit 26 = .ok (.iadd, 1) := by decide +kernel
theorem dX0_misfit_27 : decode cX0_misfit 27 = .ok (.istore_n 3, 1) := by decide +kernel
theorem dX0_misfit_28 : decode cX0_misfit 28 = .ok (.aload_n 0, 1) := by decide +kernel
theorem dX0_misfit_29 : decode cX0_misfit 29 = .ok (.iload 6, 2) := by decide +kernel
theorem dX0_misfit_31 : decode cX0_misfit 31 = .ok (.invokevirtual 60, 3) := by decide +kernel
theorem dX0_misfit_34 : decode cX0_misfit 34 = .ok (.ifCond .eq 21, 3) := by decide +kernel
theorem dX0_misfit_37 : decode cX0_misfit 37 = .ok (.lload 4, 2) := by decide +kernel
theorem dX0_misfit_39 : decode cX0_misfit 39 = .ok (.iload_n 3, 1) := by decide +kernel
theorem dX0_misfit_40 : decode cX0_misfit 40 = .ok (.aload_n 0, 1) := by decide +kernel
theorem dX0_misfit_41 : decode cX0_misfit 41 = .ok (.getfield 41, 3) := by decide +kernel
theorem dX0_misfit_44 : decode cX0_misfit 44 = .ok (.iload 6, 2) := by decide +kernel
theorem dX0_misfit_46 : decode cX0_misfit 46 = .ok (.iaload, 1) := by decide +kernel
theorem dX0_misfit_47 : decode cX0_misfit 47 = .ok (.isub, 1) := by decide +kernel
theorem dX0_misfit_48 : decode cX0_misfit 48 = .ok (.invokestatic 122, 3) := by decide +kernel
theorem dX0_misfit_51 : decode cX0_misfit 51 = .ok (.i2l, 1) := by decide +kernel
theorem dX0_misfit_52 : decode cX0_misfit 52 = .ok (.ladd, 1) := by decide +kernel
theorem dX0_misfit_53 : decode cX0_misfit 53 = .ok (.lstore 4, 2) := by decide +kernel
theorem dX0_misfit_55 : decode cX0_misfit 55 = .ok (.iinc 6 1, 3) := by decide +kernel
theorem dX0_misfit_58 : decode cX0_misfit 58 = .ok (.goto (-50), 3) := by decide +kernel
theorem dX0_misfit_61 : decode cX0_misfit 61 = .ok (.lload 4, 2) := by decide +kernel
theorem dX0_misfit_63 : decode cX0_misfit 63 = .ok (.lreturn, 1) := by decide +kernel
set_option maxRecDepth 20000 in
theorem ggX0_sealOfAges_X0_yearsOf : GoodIn wsX0_sealOfAges wsX0_yearsOf := goodIn_r _ [8, 9, 10, 11, 12, 13, 7, 14, 15, 16, 17, 18, 19, 20, 21, 22, 23, 24, 25, 26, 27, 28, 1, 29, 30, 31, 32, 33, 34, 35, 36, 37, 38, 39, 40, 41, 42, 43, 44, 45, 46, 47, 48] (by decide +kernel) (by decide +kernel)
set_option maxRecDepth 20000 in
theorem gX0_sealOfAges_X0_yearsOf : GoodIn wsX0_sealOfAges (wsV RX0 119 RX0 yX0_yearsOf wsX0_yearsOf) := goodIn_app (goodIn_of _ (by decide +kernel)) ggX0_sealOfAges_X0_yearsOf
theorem dX0_sealOfAges_0 : decode cX0_sealOfAges 0 = .ok (.iconst 0, 1) := by decide +kernel
theorem dX0_sealOfAges_1 : decode cX0_sealOfAges 1 = .ok (.istore_n 1, 1) := by decide +kernel
theorem dX0_sealOfAges_2 : decode cX0_sealOfAges 2 = .ok (.bipush 7, 2) := by decide +kernel
theorem dX0_sealOfAges_4 : decode cX0_sealOfAges 4 = .ok (.istore_n 2, 1) := by decide +kernel
theorem dX0_sealOfAges_5 : decode cX0_sealOfAges 5 = .ok (.iconst 0, 1) := by decide +kernel
theorem dX0_sealOfAges_6 : decode cX0_sealOfAges 6 = .ok (.istore_n 3, 1) := by decide +kernel
theorem dX0_sealOfAges_7 : decode cX0_sealOfAges 7 = .ok (.iload_n 3, 1) := by decide +kernel
theorem dX0_sealOfAges_8 : decode cX0_sealOfAges 8 = .ok (.aload_n 0, 1) := by decide +kernel
theorem dX0_sealOfAges_9 : decode cX0_sealOfAges 9 = .ok (.getfield 9, 3) := by decide +kernel
theorem dX0_sealOfAges_12 : decode cX0_sealOfAges 12 = .ok (.if_icmp .ge 32, 3) := by decide +kernel
theorem dX0_sealOfAges_15 : decode cX0_sealOfAges 15 = .ok (.iload_n 1, 1) := by decide +kernel
theorem dX0_sealOfAges_16 : decode cX0_sealOfAges 16 = .ok (.aload_n 0, 1) := by decide +kernel
theorem dX0_sealOfAges_17 : decode cX0_sealOfAges 17 = .ok (.iload_n 3, 1) := by decide +kernel
theorem dX0_sealOfAges_18 : decode cX0_sealOfAges 18 = .ok (.aload_n 0, 1) := by decide +kernel
theorem dX0_sealOfAges_19 : decode cX0_sealOfAges 19 = .ok (.getfield 19, 3) := by decide +kernel
theorem dX0_sealOfAges_22 : decode cX0_sealOfAges 22 = .ok (.aload_n 0, 1) := by decide +kernel
theorem dX0_sealOfAges_23 : decode cX0_sealOfAges 23 = .ok (.getfield 22, 3) := by decide +kernel
theorem dX0_sealOfAges_26 : decode cX0_sealOfAges 26 = .ok (.invokevirtual 119, 3) := by decide +kernel
theorem dX0_sealOfAges_29 : decode cX0_sealOfAges 29 = .ok (.iadd, 1) := by decide +kernel
theorem dX0_sealOfAges_30 : decode cX0_sealOfAges 30 = .ok (.istore_n 1, 1) := by decide +kernel
theorem dX0_sealOfAges_31 : decode cX0_sealOfAges 31 = .ok (.bipush 31, 2) := by decide +kernel
theorem dX0_sealOfAges_33 : decode cX0_sealOfAges 33 = .ok (.iload_n 2, 1) := by decide +kernel
theorem dX0_sealOfAges_34 : decode cX0_sealOfAges 34 = .ok (.imul, 1) := by decide +kernel
theorem dX0_sealOfAges_35 : decode cX0_sealOfAges 35 = .ok (.iload_n 1, 1) := by decide +kernel
theorem dX0_sealOfAges_36 : decode cX0_sealOfAges 36 = .ok (.iadd, 1) := by decide +kernel
theorem dX0_sealOfAges_37 : decode cX0_sealOfAges 37 = .ok (.istore_n 2, 1) := by decide +kernel
theorem dX0_sealOfAges_38 : decode cX0_sealOfAges 38 = .ok (.iinc 3 1, 3) := by decide +kernel
theorem dX0_sealOfAges_41 : decode cX0_sealOfAges 41 = .ok (.goto (-34), 3) := by decide +kernel
theorem dX0_sealOfAges_44 : decode cX0_sealOfAges 44 = .ok (.iload_n 2, 1) := by decide +kernel
theorem dX0_sealOfAges_45 : decode cX0_sealOfAges 45 = .ok (.i2s, 1) := by decide +kernel
theorem dX0_sealOfAges_46 : decode cX0_sealOfAges 46 = .ok (.ireturn, 1) := by decide +kernel
set_option maxRecDepth 20000 in
theorem ggX0_ageAt_X0_yearsOf : GoodIn wsX0_ageAt wsX0_yearsOf := goodIn_r _ [9, 10, 11, 12, 13, 14, 8, 15, 16, 17, 4, 18, 19, 20, 21, 22, 23, 24, 25, 26, 27, 28, 1, 29, 30, 31, 32, 33, 34, 35, 36, 37, 38, 39, 40, 41, 42, 43, 44, 45, 46, 47, 48] (by decide +kernel) (by decide +kernel)
set_option maxRecDepth 20000 in
theorem gX0_ageAt_X0_yearsOf : GoodIn wsX0_ageAt (wsV RX0 119 RX0 yX0_yearsOf wsX0_yearsOf) := goodIn_app (goodIn_of _ (by decide +kernel)) ggX0_ageAt_X0_yearsOf
set_option maxRecDepth 20000 in
theorem ggX0_ageAt_X4_quotient : GoodIn wsX0_ageAt wsX4_quotient := goodIn_r _ [31] (by decide +kernel) (by decide +kernel)
set_option maxRecDepth 20000 in
theorem gX0_ageAt_X4_quotient_n98 : GoodIn wsX0_ageAt (wsX4_quotient) := ggX0_ageAt_X4_quotient
theorem dX0_ageAt_0 : decode cX0_ageAt 0 = .ok (.iconst 0, 1) := by decide +kernel
theorem dX0_ageAt_1 : decode cX0_ageAt 1 = .ok (.istore_n 2, 1) := by decide +kernel
theorem dX0_ageAt_2 : decode cX0_ageAt 2 = .ok (.iconst 0, 1) := by decide +kernel
theorem dX0_ageAt_3 : decode cX0_ageAt 3 = .ok (.istore_n 3, 1) := by decide +kernel
theorem dX0_ageAt_4 : decode cX0_ageAt 4 = .ok (.iconst 0, 1) := by decide +kernel
theorem dX0_ageAt_5 : decode cX0_ageAt 5 = .ok (.istore 4, 2) := by decide +kernel
theorem dX0_ageAt_7 : decode cX0_ageAt 7 = .ok (.iload 4, 2) := by decide +kernel
theorem dX0_ageAt_9 : decode cX0_ageAt 9 = .ok (.aload_n 0, 1) := by decide +kernel
theorem dX0_ageAt_10 : decode cX0_ageAt 10 = .ok (.getfield 9, 3) := by decide +kernel
theorem dX0_ageAt_13 : decode cX0_ageAt 13 = .ok (.if_icmp .ge 77, 3) := by decide +kernel
theorem dX0_ageAt_16 : decode cX0_ageAt 16 = .ok (.aload_n 0, 1) := by decide +kernel
theorem dX0_ageAt_17 : decode cX0_ageAt 17 = .ok (.iload 4, 2) := by decide +kernel
theorem dX0_ageAt_19 : decode cX0_ageAt 19 = .ok (.aload_n 0, 1) := by decide +kernel
theorem dX0_ageAt_20 : decode cX0_ageAt 20 = .ok (.getfield 19, 3) := by decide +kernel
theorem dX0_ageAt_23 : decode cX0_ageAt 23 = .ok (.aload_n 0, 1) := by decide +kernel
theorem dX0_ageAt_24 : decode cX0_ageAt 24 = .ok (.getfield 22, 3) := by decide +kernel
theorem dX0_ageAt_27 : decode cX0_ageAt 27 = .ok (.invokevirtual 119, 3) := by decide +kernel
theorem dX0_ageAt_30 : decode cX0_ageAt 30 = .ok (.i2l, 1) := by decide +kernel
theorem dX0_ageAt_31 : decode cX0_ageAt 31 = .ok (.lstore 5, 2) := by decide +kernel
theorem dX0_ageAt_33 : decode cX0_ageAt 33 = .ok (.iload_n 1, 1) := by decide +kernel
theorem dX0_ageAt_34 : decode cX0_ageAt 34 = .ok (.iload_n 2, 1) := by decide +kernel
theorem dX0_ageAt_35 : decode cX0_ageAt 35 = .ok (.aload_n 0, 1) := by decide +kernel
theorem dX0_ageAt_36 : decode cX0_ageAt 36 = .ok (.getfield 28, 3) := by decide +kernel
theorem dX0_ageAt_39 : decode cX0_ageAt 39 = .ok (.iload 4, 2) := by decide +kernel
theorem dX0_ageAt_41 : decode cX0_ageAt 41 = .ok (.iaload, 1) := by decide +kernel
theorem dX0_ageAt_42 : decode cX0_ageAt 42 = .ok (.iadd, 1) := by decide +kernel
theorem dX0_ageAt_43 : decode cX0_ageAt 43 = .ok (.if_icmp .gt 25, 3) := by decide +kernel
theorem dX0_ageAt_46 : decode cX0_ageAt 46 = .ok (.iload_n 3, 1) := by decide +kernel
theorem dX0_ageAt_47 : decode cX0_ageAt 47 = .ok (.lload 5, 2) := by decide +kernel
theorem dX0_ageAt_49 : decode cX0_ageAt 49 = .ok (.iload_n 1, 1) := by decide +kernel
theorem dX0_ageAt_50 : decode cX0_ageAt 50 = .ok (.iload_n 2, 1) := by decide +kernel
theorem dX0_ageAt_51 : decode cX0_ageAt 51 = .ok (.isub, 1) := by decide +kernel
theorem dX0_ageAt_52 : decode cX0_ageAt 52 = .ok (.i2l, 1) := by decide +kernel
theorem dX0_ageAt_53 : decode cX0_ageAt 53 = .ok (.lmul, 1) := by decide +kernel
theorem dX0_ageAt_54 : decode cX0_ageAt 54 = .ok (.aload_n 0, 1) := by decide +kernel
theorem dX0_ageAt_55 : decode cX0_ageAt 55 = .ok (.getfield 28, 3) := by decide +kernel
theorem dX0_ageAt_58 : decode cX0_ageAt 58 = .ok (.iload 4, 2) := by decide +kernel
theorem dX0_ageAt_60 : decode cX0_ageAt 60 = .ok (.iaload, 1) := by decide +kernel
theorem dX0_ageAt_61 : decode cX0_ageAt 61 = .ok (.i2l, 1) := by decide +kernel
theorem dX0_ageAt_62 : decode cX0_ageAt 62 = .ok (.invokestatic 98, 3) := by decide +kernel
theorem dX0_ageAt_65 : decode cX0_ageAt 65 = .ok (.l2i, 1) := by decide +kernel
theorem dX0_ageAt_66 : decode cX0_ageAt 66 = .ok (.iadd, 1) := by decide +kernel
theorem dX0_ageAt_67 : decode cX0_ageAt 67 = .ok (.ireturn, 1) := by decide +kernel
theorem dX0_ageAt_68 : decode cX0_ageAt 68 = .ok (.iload_n 2, 1) := by decide +kernel
theorem dX0_ageAt_69 : decode cX0_ageAt 69 = .ok (.aload_n 0, 1) := by decide +kernel
theorem dX0_ageAt_70 : decode cX0_ageAt 70 = .ok (.getfield 28, 3) := by decide +kernel
theorem dX0_ageAt_73 : decode cX0_ageAt 73 = .ok (.iload 4, 2) := by decide +kernel
theorem dX0_ageAt_75 : decode cX0_ageAt 75 = .ok (.iaload, 1) := by decide +kernel
theorem dX0_ageAt_76 : decode cX0_ageAt 76 = .ok (.iadd, 1) := by decide +kernel
theorem dX0_ageAt_77 : decode cX0_ageAt 77 = .ok (.istore_n 2, 1) := by decide +kernel
theorem dX0_ageAt_78 : decode cX0_ageAt 78 = .ok (.iload_n 3, 1) := by decide +kernel
theorem dX0_ageAt_79 : decode cX0_ageAt 79 = .ok (.lload 5, 2) := by decide +kernel
theorem dX0_ageAt_81 : decode cX0_ageAt 81 = .ok (.l2i, 1) := by decide +kernel
theorem dX0_ageAt_82 : decode cX0_ageAt 82 = .ok (.iadd, 1) := by decide +kernel
theorem dX0_ageAt_83 : decode cX0_ageAt 83 = .ok (.istore_n 3, 1) := by decide +kernel
theorem dX0_ageAt_84 : decode cX0_ageAt 84 = .ok (.iinc 4 1, 3) := by decide +kernel
theorem dX0_ageAt_87 : decode cX0_ageAt 87 = .ok (.goto (-80), 3) := by decide +kernel
theorem dX0_ageAt_90 : decode cX0_ageAt 90 = .ok (.iload_n 3, 1) := by decide +kernel
theorem dX0_ageAt_91 : decode cX0_ageAt 91 = .ok (.ireturn, 1) := by decide +kernel
set_option maxRecDepth 20000 in
theorem ggX0_gasAgeAt_X0_ageAt : GoodIn wsX0_gasAgeAt wsX0_ageAt := goodIn_r _ [11, 1, 12, 13, 2, 14, 15, 16, 10, 17, 18, 19, 20, 21, 22, 23, 24, 25, 26, 27, 28, 29, 30, 5, 31, 32, 33, 34, 35, 36, 37, 38, 39, 40, 41, 42, 43, 50, 51, 52, 53, 54, 55, 56, 57, 58, 59, 60, 61] (by decide +kernel) (by decide +kernel)
set_option maxRecDepth 20000 in
theorem gX0_gasAgeAt_X0_ageAt : GoodIn wsX0_gasAgeAt (wsV RX0 125 RX0 yX0_ageAt wsX0_ageAt) := goodIn_app (goodIn_of _ (by decide +kernel)) ggX0_gasAgeAt_X0_ageAt
set_option maxRecDepth 20000 in
theorem ggX0_gasAgeAt_X0_delayOf : GoodIn wsX0_gasAgeAt wsX0_delayOf := goodIn_r _ [47, 48, 49, 18, 19, 36, 37, 38, 50, 51, 52, 53, 54, 55, 56, 57, 58, 59, 60, 61] (by decide +kernel) (by decide +kernel)
set_option maxRecDepth 20000 in
theorem gX0_gasAgeAt_X0_delayOf : GoodIn wsX0_gasAgeAt (wsV RX0 128 RX0 yX0_delayOf wsX0_delayOf) := goodIn_app (goodIn_of _ (by decide +kernel)) ggX0_gasAgeAt_X0_delayOf
theorem dX0_gasAgeAt_0 : decode cX0_gasAgeAt 0 = .ok (.iconst 0, 1) := by decide +kernel
theorem dX0_gasAgeAt_1 : decode cX0_gasAgeAt 1 = .ok (.istore_n 2, 1) := by decide +kernel
theorem dX0_gasAgeAt_2 : decode cX0_gasAgeAt 2 = .ok (.iconst 0, 1) := by decide +kernel
theorem dX0_gasAgeAt_3 : decode cX0_gasAgeAt 3 = .ok (.istore_n 3, 1) := by decide +kernel
theorem dX0_gasAgeAt_4 : decode cX0_gasAgeAt 4 = .ok (.iload_n 3, 1) := by decide +kernel
theorem dX0_gasAgeAt_5 : decode cX0_gasAgeAt 5 = .ok (.aload_n 0, 1) := by decide +kernel
theorem dX0_gasAgeAt_6 : decode cX0_gasAgeAt 6 = .ok (.getfield 9, 3) := by decide +kernel
theorem dX0_gasAgeAt_9 : decode cX0_gasAgeAt 9 = .ok (.if_icmp .ge 39, 3) := by decide +kernel
theorem dX0_gasAgeAt_12 : decode cX0_gasAgeAt 12 = .ok (.iload_n 2, 1) := by decide +kernel
theorem dX0_gasAgeAt_13 : decode cX0_gasAgeAt 13 = .ok (.aload_n 0, 1) := by decide +kernel
theorem dX0_gasAgeAt_14 : decode cX0_gasAgeAt 14 = .ok (.getfield 28, 3) := by decide +kernel
theorem dX0_gasAgeAt_17 : decode cX0_gasAgeAt 17 = .ok (.iload_n 3, 1) := by decide +kernel
theorem dX0_gasAgeAt_18 : decode cX0_gasAgeAt 18 = .ok (.iaload, 1) := by decide +kernel
theorem dX0_gasAgeAt_19 : decode cX0_gasAgeAt 19 = .ok (.iadd, 1) := by decide +kernel
theorem dX0_gasAgeAt_20 : decode cX0_gasAgeAt 20 = .ok (.istore_n 2, 1) := by decide +kernel
theorem dX0_gasAgeAt_21 : decode cX0_gasAgeAt 21 = .ok (.iload_n 1, 1) := by decide +kernel
theorem dX0_gasAgeAt_22 : decode cX0_gasAgeAt 22 = .ok (.iload_n 2, 1) := by decide +kernel
theorem dX0_gasAgeAt_23 : decode cX0_gasAgeAt 23 = .ok (.if_icmp .gt 19, 3) := by decide +kernel
theorem dX0_gasAgeAt_26 : decode cX0_gasAgeAt 26 = .ok (.iconst 0, 1) := by decide +kernel
theorem dX0_gasAgeAt_27 : decode cX0_gasAgeAt 27 = .ok (.aload_n 0, 1) := by decide +kernel
theorem dX0_gasAgeAt_28 : decode cX0_gasAgeAt 28 = .ok (.iload_n 1, 1) := by decide +kernel
theorem dX0_gasAgeAt_29 : decode cX0_gasAgeAt 29 = .ok (.invokevirtual 125, 3) := by decide +kernel
theorem dX0_gasAgeAt_32 : decode cX0_gasAgeAt 32 = .ok (.aload_n 0, 1) := by decide +kernel
theorem dX0_gasAgeAt_33 : decode cX0_gasAgeAt 33 = .ok (.iload_n 3, 1) := by decide +kernel
theorem dX0_gasAgeAt_34 : decode cX0_gasAgeAt 34 = .ok (.invokevirtual 128, 3) := by decide +kernel
theorem dX0_gasAgeAt_37 : decode cX0_gasAgeAt 37 = .ok (.isub, 1) := by decide +kernel
theorem dX0_gasAgeAt_38 : decode cX0_gasAgeAt 38 = .ok (.invokestatic 131, 3) := by decide +kernel
theorem dX0_gasAgeAt_41 : decode cX0_gasAgeAt 41 = .ok (.ireturn, 1) := by decide +kernel
theorem dX0_gasAgeAt_42 : decode cX0_gasAgeAt 42 = .ok (.iinc 3 1, 3) := by decide +kernel
theorem dX0_gasAgeAt_45 : decode cX0_gasAgeAt 45 = .ok (.goto (-41), 3) := by decide +kernel
theorem dX0_gasAgeAt_48 : decode cX0_gasAgeAt 48 = .ok (.iconst 0, 1) := by decide +kernel
theorem dX0_gasAgeAt_49 : decode cX0_gasAgeAt 49 = .ok (.ireturn, 1) := by decide +kernel
set_option maxRecDepth 20000 in
theorem ggX0_leastDepthOf_X0_yearsOf : GoodIn wsX0_leastDepthOf wsX0_yearsOf := goodIn_r _ [10, 11, 12, 13, 14, 15, 9, 16, 17, 18, 4, 19, 20, 21, 22, 23, 24, 25, 26, 27, 28, 29, 1, 30, 31, 32, 33, 34, 35, 36, 37, 41, 42, 43, 44, 45, 46, 47, 48, 49, 50, 51, 52] (by decide +kernel) (by decide +kernel)
set_option maxRecDepth 20000 in
theorem gX0_leastDepthOf_X0_yearsOf : GoodIn wsX0_leastDepthOf (wsV RX0 119 RX0 yX0_yearsOf wsX0_yearsOf) := goodIn_app (goodIn_of _ (by decide +kernel)) ggX0_leastDepthOf_X0_yearsOf
set_option maxRecDepth 20000 in
theorem ggX0_leastDepthOf_X0_stepsFor : GoodIn wsX0_leastDepthOf wsX0_stepsFor := goodIn_r _ [40, 30, 31, 32] (by decide +kernel) (by decide +kernel)
set_option maxRecDepth 20000 in
theorem gX0_leastDepthOf_X0_stepsFor : GoodIn wsX0_leastDepthOf (va_wsS RX0 134 yX0_stepsFor wsX0_stepsFor) := goodIn_app (goodIn_of _ (by decide +kernel)) ggX0_leastDepthOf_X0_stepsFor
theorem dX0_leastDepthOf_0 : decode cX0_leastDepthOf 0 = .ok (.iconst 0, 1) := by decide +kernel
theorem dX0_leastDepthOf_1 : decode cX0_leastDepthOf 1 = .ok (.istore_n 2, 1) := by decide +kernel
theorem dX0_leastDepthOf_2 : decode cX0_leastDepthOf 2 = .ok (.lconst 0, 1) := by decide +kernel
theorem dX0_leastDepthOf_3 : decode cX0_leastDepthOf 3 = .ok (.lstore_n 3, 1) := by decide +kernel
theorem dX0_leastDepthOf_4 : decode cX0_leastDepthOf 4 = .ok (.iconst 0, 1) := by decide +kernel
theorem dX0_leastDepthOf_5 : decode cX0_leastDepthOf 5 = .ok (.istore 5, 2) := by decide +kernel
theorem dX0_leastDepthOf_7 : decode cX0_leastDepthOf 7 = .ok (.iload 5, 2) := by decide +kernel
theorem dX0_leastDepthOf_9 : decode cX0_leastDepthOf 9 = .ok (.aload_n 0, 1) := by decide +kernel
theorem dX0_leastDepthOf_10 : decode cX0_leastDepthOf 10 = .ok (.getfield 9, 3) := by decide +kernel
theorem dX0_leastDepthOf_13 : decode cX0_leastDepthOf 13 = .ok (.if_icmp .ge 71, 3) := by decide +kernel
theorem dX0_leastDepthOf_16 : decode cX0_leastDepthOf 16 = .ok (.aload_n 0, 1) := by decide +kernel
theorem dX0_leastDepthOf_17 : decode cX0_leastDepthOf 17 = .ok (.iload 5, 2) := by decide +kernel
theorem dX0_leastDepthOf_19 : decode cX0_leastDepthOf 19 = .ok (.aload_n 0, 1) := by decide +kernel
theorem dX0_leastDepthOf_20 : decode cX0_leastDepthOf 20 = .ok (.getfield 19, 3) := by decide +kernel
theorem dX0_leastDepthOf_23 : decode cX0_leastDepthOf 23 = .ok (.aload_n 0, 1) := by decide +kernel
theorem dX0_leastDepthOf_24 : decode cX0_leastDepthOf 24 = .ok (.getfield 22, 3) := by decide +kernel
theorem dX0_leastDepthOf_27 : decode cX0_leastDepthOf 27 = .ok (.invokevirtual 119, 3) := by decide +kernel
theorem dX0_leastDepthOf_30 : decode cX0_leastDepthOf 30 = .ok (.istore 6, 2) := by decide +kernel
theorem dX0_leastDepthOf_32 : decode cX0_leastDepthOf 32 = .ok (.lload_n 3, 1) := by decide +kernel
theorem dX0_leastDepthOf_33 : decode cX0_leastDepthOf 33 = .ok (.iload 6, 2) := by decide +kernel
theorem dX0_leastDepthOf_35 : decode cX0_leastDepthOf 35 = .ok (.i2l, 1) := by decide +kernel
theorem dX0_leastDepthOf_36 : decode cX0_leastDepthOf 36 = .ok (.ladd, 1) := by decide +kernel
theorem dX0_leastDepthOf_37 : decode cX0_leastDepthOf 37 = .ok (.iload_n 1, 1) := by decide +kernel
theorem dX0_leastDepthOf_38 : decode cX0_leastDepthOf 38 = .ok (.i2l, 1) := by decide +kernel
theorem dX0_leastDepthOf_39 : decode cX0_leastDepthOf 39 = .ok (.lcmp, 1) := by decide +kernel
theorem dX0_leastDepthOf_40 : decode cX0_leastDepthOf 40 = .ok (.ifCond .lt 22, 3) := by decide +kernel
theorem dX0_leastDepthOf_43 : decode cX0_leastDepthOf 43 = .ok (.iload_n 2, 1) := by decide +kernel
theorem dX0_leastDepthOf_44 : decode cX0_leastDepthOf 44 = .ok (.iload_n 1, 1) := by decide +kernel
theorem dX0_leastDepthOf_45 : decode cX0_leastDepthOf 45 = .ok (.i2l, 1) := by decide +kernel
theorem dX0_leastDepthOf_46 : decode cX0_leastDepthOf 46 = .ok (.lload_n 3, 1) := by decide +kernel
theorem dX0_leastDepthOf_47 : decode cX0_leastDepthOf 47 = .ok (.lsub, 1) := by decide +kernel
theorem dX0_leastDepthOf_48 : decode cX0_leastDepthOf 48 = .ok (.iload 6, 2) := by decide +kernel
theorem dX0_leastDepthOf_50 : decode cX0_leastDepthOf 50 = .ok (.aload_n 0, 1) := by decide +kernel
theorem dX0_leastDepthOf_51 : decode cX0_leastDepthOf 51 = .ok (.getfield 28, 3) := by decide +kernel
theorem dX0_leastDepthOf_54 : decode cX0_leastDepthOf 54 = .ok (.iload 5, 2) := by decide +kernel
theorem dX0_leastDepthOf_56 : decode cX0_leastDepthOf 56 = .ok (.iaload, 1) := by decide +kernel
theorem dX0_leastDepthOf_57 : decode cX0_leastDepthOf 57 = .ok (.invokestatic 134, 3) := by decide +kernel
theorem dX0_leastDepthOf_60 : decode cX0_leastDepthOf 60 = .ok (.iadd, 1) := by decide +kernel
theorem dX0_leastDepthOf_61 : decode cX0_leastDepthOf 61 = .ok (.ireturn, 1) := by decide +kernel
theorem dX0_leastDepthOf_62 : decode cX0_leastDepthOf 62 = .ok (.iload_n 2, 1) := by decide +kernel
theorem dX0_leastDepthOf_63 : decode cX0_leastDepthOf 63 = .ok (.aload_n 0, 1) := by decide +kernel
theorem dX0_leastDepthOf_64 : decode cX0_leastDepthOf 64 = .ok (.getfield 28, 3) := by decide +kernel
theorem dX0_leastDepthOf_67 : decode cX0_leastDepthOf 67 = .ok (.iload 5, 2) := by decide +kernel
theorem dX0_leastDepthOf_69 : decode cX0_leastDepthOf 69 = .ok (.iaload, 1) := by decide +kernel
theorem dX0_leastDepthOf_70 : decode cX0_leastDepthOf 70 = .ok (.iadd, 1) := by decide +kernel
theorem dX0_leastDepthOf_71 : decode cX0_leastDepthOf 71 = .ok (.istore_n 2, 1) := by decide +kernel
theorem dX0_leastDepthOf_72 : decode cX0_leastDepthOf 72 = .ok (.lload_n 3, 1) := by decide +kernel
theorem dX0_leastDepthOf_73 : decode cX0_leastDepthOf 73 = .ok (.iload 6, 2) := by decide +kernel
theorem dX0_leastDepthOf_75 : decode cX0_leastDepthOf 75 = .ok (.i2l, 1) := by decide +kernel
theorem dX0_leastDepthOf_76 : decode cX0_leastDepthOf 76 = .ok (.ladd, 1) := by decide +kernel
theorem dX0_leastDepthOf_77 : decode cX0_leastDepthOf 77 = .ok (.lstore_n 3, 1) := by decide +kernel
theorem dX0_leastDepthOf_78 : decode cX0_leastDepthOf 78 = .ok (.iinc 5 1, 3) := by decide +kernel
theorem dX0_leastDepthOf_81 : decode cX0_leastDepthOf 81 = .ok (.goto (-74), 3) := by decide +kernel
theorem dX0_leastDepthOf_84 : decode cX0_leastDepthOf 84 = .ok (.ldc 138, 2) := by decide +kernel
theorem dX0_leastDepthOf_86 : decode cX0_leastDepthOf 86 = .ok (.ireturn, 1) := by decide +kernel
set_option maxRecDepth 20000 in
theorem ggX0_leastGasDepthOf_X0_yearsOf : GoodIn wsX0_leastGasDepthOf wsX0_yearsOf := goodIn_r _ [14, 15, 16, 17, 18, 19, 13, 20, 21, 22, 5, 23, 24, 25, 26, 27, 8, 28, 29, 30, 31, 32, 1, 33, 34, 35, 36, 37, 38, 39, 40, 50, 51, 52, 53, 54, 55, 56, 57, 58, 59, 60, 61] (by decide +kernel) (by decide +kernel)
set_option maxRecDepth 20000 in
theorem gX0_leastGasDepthOf_X0_yearsOf : GoodIn wsX0_leastGasDepthOf (wsV RX0 119 RX0 yX0_yearsOf wsX0_yearsOf) := goodIn_app (goodIn_of _ (by decide +kernel)) ggX0_leastGasDepthOf_X0_yearsOf
set_option maxRecDepth 20000 in
theorem ggX0_leastGasDepthOf_X0_delayOf : GoodIn wsX0_leastGasDepthOf wsX0_delayOf := goodIn_r _ [44, 45, 46, 15, 16, 33, 34, 35, 50, 51, 52, 53, 54, 55, 56, 57, 58, 59, 60, 61] (by decide +kernel) (by decide +kernel)
set_option maxRecDepth 20000 in
theorem gX0_leastGasDepthOf_X0_delayOf : GoodIn wsX0_leastGasDepthOf (wsV RX0 128 RX0 yX0_delayOf wsX0_delayOf) := goodIn_app (goodIn_of _ (by decide +kernel)) ggX0_leastGasDepthOf_X0_delayOf
set_option maxRecDepth 20000 in
theorem ggX0_leastGasDepthOf_X0_stepsFor : GoodIn wsX0_leastGasDepthOf wsX0_stepsFor := goodIn_r _ [49, 33, 34, 35] (by decide +kernel) (by decide +kernel)
set_option maxRecDepth 20000 in
theorem gX0_leastGasDepthOf_X0_stepsFor : GoodIn wsX0_leastGasDepthOf (va_wsS RX0 134 yX0_stepsFor wsX0_stepsFor) := goodIn_app (goodIn_of _ (by decide +kernel)) ggX0_leastGasDepthOf_X0_stepsFor
theorem dX0_leastGasDepthOf_0 : decode cX0_leastGasDepthOf 0 = .ok (.iload_n 1, 1) := by decide +kernel
theorem dX0_leastGasDepthOf_1 : decode cX0_leastGasDepthOf 1 = .ok (.ifCond .ne 17, 3) := by decide +kernel
theorem dX0_leastGasDepthOf_4 : decode cX0_leastGasDepthOf 4 = .ok (.aload_n 0, 1) := by decide +kernel
theorem dX0_leastGasDepthOf_5 : decode cX0_leastGasDepthOf 5 = .ok (.getfield 9, 3) := by decide +kernel
theorem dX0_leastGasDepthOf_8 : decode cX0_leastGasDepthOf 8 = .ok (.ifCond .ne 8, 3) := by decide +kernel
theorem dX0_leastGasDepthOf_11 : decode cX0_leastGasDepthOf 11 = .ok (.ldc 138, 2) := by decide +kernel
theorem dX0_leastGasDepthOf_13 : decode cX0_leastGasDepthOf 13 = .ok (.goto 4, 3) := by decide +kernel
theorem dX0_leastGasDepthOf_16 : decode cX0_leastGasDepthOf 16 = .ok (.iconst 0, 1) := by decide +kernel
theorem dX0_leastGasDepthOf_17 : decode cX0_leastGasDepthOf 17 = .ok (.ireturn, 1) := by decide +kernel
theorem dX0_leastGasDepthOf_18 : decode cX0_leastGasDepthOf 18 = .ok (.iconst 0, 1) := by decide +kernel
theorem dX0_leastGasDepthOf_19 : decode cX0_leastGasDepthOf 19 = .ok (.istore_n 2, 1) := by decide +kernel
theorem dX0_leastGasDepthOf_20 : decode cX0_leastGasDepthOf 20 = .ok (.lconst 0, 1) := by decide +kernel
theorem dX0_leastGasDepthOf_21 : decode cX0_leastGasDepthOf 21 = .ok (.lstore_n 3, 1) := by decide +kernel
theorem dX0_leastGasDepthOf_22 : decode cX0_leastGasDepthOf 22 = .ok (.iconst 0, 1) := by decide +kernel
theorem dX0_leastGasDepthOf_23 : decode cX0_leastGasDepthOf 23 = .ok (.istore 5, 2) := by decide +kernel
theorem dX0_leastGasDepthOf_25 : decode cX0_leastGasDepthOf 25 = .ok (.iload 5, 2) := by decide +kernel
theorem dX0_leastGasDepthOf_27 : decode cX0_leastGasDepthOf 27 = .ok (.aload_n 0, 1) := by decide +kernel
theorem dX0_leastGasDepthOf_28 : decode cX0_leastGasDepthOf 28 = .ok (.getfield 9, 3) := by decide +kernel
theorem dX0_leastGasDepthOf_31 : decode cX0_leastGasDepthOf 31 = .ok (.if_icmp .ge 85, 3) := by decide +kernel
theorem dX0_leastGasDepthOf_34 : decode cX0_leastGasDepthOf 34 = .ok (.aload_n 0, 1) := by decide +kernel
theorem dX0_leastGasDepthOf_35 : decode cX0_leastGasDepthOf 35 = .ok (.iload 5, 2) := by decide +kernel
theorem dX0_leastGasDepthOf_37 : decode cX0_leastGasDepthOf 37 = .ok (.aload_n 0, 1) := by decide +kernel
theorem dX0_leastGasDepthOf_38 : decode cX0_leastGasDepthOf 38 = .ok (.getfield 19, 3) := by decide +kernel
theorem dX0_leastGasDepthOf_41 : decode cX0_leastGasDepthOf 41 = .ok (.aload_n 0, 1) := by decide +kernel
theorem dX0_leastGasDepthOf_42 : decode cX0_leastGasDepthOf 42 = .ok (.getfield 22, 3) := by decide +kernel
theorem dX0_leastGasDepthOf_45 : decode cX0_leastGasDepthOf 45 = .ok (.invokevirtual 119, 3) := by decide +kernel
theorem dX0_leastGasDepthOf_48 : decode cX0_leastGasDepthOf 48 = .ok (.istore 6, 2) := by decide +kernel
theorem dX0_leastGasDepthOf_50 : decode cX0_leastGasDepthOf 50 = .ok (.iload_n 1, 1) := by decide +kernel
theorem dX0_leastGasDepthOf_51 : decode cX0_leastGasDepthOf 51 = .ok (.i2l, 1) := by decide +kernel
theorem dX0_leastGasDepthOf_52 : decode cX0_leastGasDepthOf 52 = .ok (.aload_n 0, 1) := by decide +kernel
theorem dX0_leastGasDepthOf_53 : decode cX0_leastGasDepthOf 53 = .ok (.iload 5, 2) := by decide +kernel
theorem dX0_leastGasDepthOf_55 : decode cX0_leastGasDepthOf 55 = .ok (.invokevirtual 128, 3) := by decide +kernel
theorem dX0_leastGasDepthOf_58 : decode cX0_leastGasDepthOf 58 = .ok (.i2l, 1) := by decide +kernel
theorem dX0_leastGasDepthOf_59 : decode cX0_leastGasDepthOf 59 = .ok (.ladd, 1) := by decide +kernel
theorem dX0_leastGasDepthOf_60 : decode cX0_leastGasDepthOf 60 = .ok (.lload_n 3, 1) := by decide +kernel
theorem dX0_leastGasDepthOf_61 : decode cX0_leastGasDepthOf 61 = .ok (.lsub, 1) := by decide +kernel
theorem dX0_leastGasDepthOf_62 : decode cX0_leastGasDepthOf 62 = .ok (.lstore 7, 2) := by decide +kernel
theorem dX0_leastGasDepthOf_64 : decode cX0_leastGasDepthOf 64 = .ok (.iload 6, 2) := by decide +kernel
theorem dX0_leastGasDepthOf_66 : decode cX0_leastGasDepthOf 66 = .ok (.i2l, 1) := by decide +kernel
theorem dX0_leastGasDepthOf_67 : decode cX0_leastGasDepthOf 67 = .ok (.lload 7, 2) := by decide +kernel
theorem dX0_leastGasDepthOf_69 : decode cX0_leastGasDepthOf 69 = .ok (.lcmp, 1) := by decide +kernel
theorem dX0_leastGasDepthOf_70 : decode cX0_leastGasDepthOf 70 = .ok (.ifCond .lt 24, 3) := by decide +kernel
theorem dX0_leastGasDepthOf_73 : decode cX0_leastGasDepthOf 73 = .ok (.iload_n 2, 1) := by decide +kernel
theorem dX0_leastGasDepthOf_74 : decode cX0_leastGasDepthOf 74 = .ok (.iconst 1, 1) := by decide +kernel
theorem dX0_leastGasDepthOf_75 : decode cX0_leastGasDepthOf 75 = .ok (.lload 7, 2) := by decide +kernel
theorem dX0_leastGasDepthOf_77 : decode cX0_leastGasDepthOf 77 = .ok (.iload 6, 2) := by decide +kernel
theorem dX0_leastGasDepthOf_79 : decode cX0_leastGasDepthOf 79 = .ok (.aload_n 0, 1) := by decide +kernel
theorem dX0_leastGasDepthOf_80 : decode cX0_leastGasDepthOf 80 = .ok (.getfield 28, 3) := by decide +kernel
theorem dX0_leastGasDepthOf_83 : decode cX0_leastGasDepthOf 83 = .ok (.iload 5, 2) := by decide +kernel
theorem dX0_leastGasDepthOf_85 : decode cX0_leastGasDepthOf 85 = .ok (.iaload, 1) := by decide +kernel
theorem dX0_leastGasDepthOf_86 : decode cX0_leastGasDepthOf 86 = .ok (.invokestatic 134, 3) := by decide +kernel
theorem dX0_leastGasDepthOf_89 : decode cX0_leastGasDepthOf 89 = .ok (.invokestatic 131, 3) := by decide +kernel
theorem dX0_leastGasDepthOf_92 : decode cX0_leastGasDepthOf 92 = .ok (.iadd, 1) := by decide +kernel
theorem dX0_leastGasDepthOf_93 : decode cX0_leastGasDepthOf 93 = .ok (.ireturn, 1) := by decide +kernel
theorem dX0_leastGasDepthOf_94 : decode cX0_leastGasDepthOf 94 = .ok (.iload_n 2, 1) := by decide +kernel
theorem dX0_leastGasDepthOf_95 : decode cX0_leastGasDepthOf 95 = .ok (.aload_n 0, 1) := by decide +kernel
theorem dX0_leastGasDepthOf_96 : decode cX0_leastGasDepthOf 96 = .ok (.getfield 28, 3) := by decide +kernel
theorem dX0_leastGasDepthOf_99 : decode cX0_leastGasDepthOf 99 = .ok (.iload 5, 2) := by decide +kernel
theorem dX0_leastGasDepthOf_101 : decode cX0_leastGasDepthOf 101 = .ok (.iaload, 1) := by decide +kernel
theorem dX0_leastGasDepthOf_102 : decode cX0_leastGasDepthOf 102 = .ok (.iadd, 1) := by decide +kernel
theorem dX0_leastGasDepthOf_103 : decode cX0_leastGasDepthOf 103 = .ok (.istore_n 2, 1) := by decide +kernel
theorem dX0_leastGasDepthOf_104 : decode cX0_leastGasDepthOf 104 = .ok (.lload_n 3, 1) := by decide +kernel
theorem dX0_leastGasDepthOf_105 : decode cX0_leastGasDepthOf 105 = .ok (.iload 6, 2) := by decide +kernel
theorem dX0_leastGasDepthOf_107 : decode cX0_leastGasDepthOf 107 = .ok (.i2l, 1) := by decide +kernel
theorem dX0_leastGasDepthOf_108 : decode cX0_leastGasDepthOf 108 = .ok (.ladd, 1) := by decide +kernel
theorem dX0_leastGasDepthOf_109 : decode cX0_leastGasDepthOf 109 = .ok (.lstore_n 3, 1) := by decide +kernel
theorem dX0_leastGasDepthOf_110 : decode cX0_leastGasDepthOf 110 = .ok (.iinc 5 1, 3) := by decide +kernel
theorem dX0_leastGasDepthOf_113 : decode cX0_leastGasDepthOf 113 = .ok (.goto (-88), 3) := by decide +kernel
theorem dX0_leastGasDepthOf_116 : decode cX0_leastGasDepthOf 116 = .ok (.ldc 138, 2) := by decide +kernel
theorem dX0_leastGasDepthOf_118 : decode cX0_leastGasDepthOf 118 = .ok (.ireturn, 1) := by decide +kernel
set_option maxRecDepth 20000 in
theorem ggX0_stepsFor_X4_quotient : GoodIn wsX0_stepsFor wsX4_quotient := goodIn_r _ [3] (by decide +kernel) (by decide +kernel)
set_option maxRecDepth 20000 in
theorem gX0_stepsFor_X4_quotient_n98 : GoodIn wsX0_stepsFor (wsX4_quotient) := ggX0_stepsFor_X4_quotient
theorem dX0_stepsFor_0 : decode cX0_stepsFor 0 = .ok (.lload_n 0, 1) := by decide +kernel
theorem dX0_stepsFor_1 : decode cX0_stepsFor 1 = .ok (.lconst 0, 1) := by decide +kernel
theorem dX0_stepsFor_2 : decode cX0_stepsFor 2 = .ok (.lcmp, 1) := by decide +kernel
theorem dX0_stepsFor_3 : decode cX0_stepsFor 3 = .ok (.ifCond .gt 5, 3) := by decide +kernel
theorem dX0_stepsFor_6 : decode cX0_stepsFor 6 = .ok (.iconst 0, 1) := by decide +kernel
theorem dX0_stepsFor_7 : decode cX0_stepsFor 7 = .ok (.ireturn, 1) := by decide +kernel
theorem dX0_stepsFor_8 : decode cX0_stepsFor 8 = .ok (.lload_n 0, 1) := by decide +kernel
theorem dX0_stepsFor_9 : decode cX0_stepsFor 9 = .ok (.iload_n 3, 1) := by decide +kernel
theorem dX0_stepsFor_10 : decode cX0_stepsFor 10 = .ok (.i2l, 1) := by decide +kernel
theorem dX0_stepsFor_11 : decode cX0_stepsFor 11 = .ok (.lmul, 1) := by decide +kernel
theorem dX0_stepsFor_12 : decode cX0_stepsFor 12 = .ok (.iload_n 2, 1) := by decide +kernel
theorem dX0_stepsFor_13 : decode cX0_stepsFor 13 = .ok (.i2l, 1) := by decide +kernel
theorem dX0_stepsFor_14 : decode cX0_stepsFor 14 = .ok (.ladd, 1) := by decide +kernel
theorem dX0_stepsFor_15 : decode cX0_stepsFor 15 = .ok (.lconst 1, 1) := by decide +kernel
theorem dX0_stepsFor_16 : decode cX0_stepsFor 16 = .ok (.lsub, 1) := by decide +kernel
theorem dX0_stepsFor_17 : decode cX0_stepsFor 17 = .ok (.iload_n 2, 1) := by decide +kernel
theorem dX0_stepsFor_18 : decode cX0_stepsFor 18 = .ok (.i2l, 1) := by decide +kernel
theorem dX0_stepsFor_19 : decode cX0_stepsFor 19 = .ok (.invokestatic 98, 3) := by decide +kernel
theorem dX0_stepsFor_22 : decode cX0_stepsFor 22 = .ok (.l2i, 1) := by decide +kernel
theorem dX0_stepsFor_23 : decode cX0_stepsFor 23 = .ok (.ireturn, 1) := by decide +kernel
set_option maxRecDepth 20000 in
theorem ggX0_fitCorrections_X0_canBeTuned : GoodIn wsX0_fitCorrections wsX0_canBeTuned := goodIn_r _ [8, 2, 3, 9, 10, 11, 7, 12, 13, 14, 15, 16, 17, 18, 19, 20, 91, 92, 93, 94, 95, 96, 97, 98, 99, 100, 101, 102] (by decide +kernel) (by decide +kernel)
set_option maxRecDepth 20000 in
theorem gX0_fitCorrections_X0_canBeTuned : GoodIn wsX0_fitCorrections (wsV RX0 142 RX0 yX0_canBeTuned wsX0_canBeTuned) := goodIn_app (goodIn_of _ (by decide +kernel)) ggX0_fitCorrections_X0_canBeTuned
set_option maxRecDepth 20000 in
theorem ggX0_fitCorrections_X0_hasAsh : GoodIn wsX0_fitCorrections wsX0_hasAsh := goodIn_r _ [12, 3, 13, 14, 15, 7, 16, 2, 91, 92, 93, 94, 95, 96, 97, 98, 99, 100, 101, 102] (by decide +kernel) (by decide +kernel)
set_option maxRecDepth 20000 in
theorem gX0_fitCorrections_X0_hasAsh : GoodIn wsX0_fitCorrections (wsV RX0 60 RX0 yX0_hasAsh wsX0_hasAsh) := goodIn_app (goodIn_of _ (by decide +kernel)) ggX0_fitCorrections_X0_hasAsh
set_option maxRecDepth 20000 in
theorem ggX0_fitCorrections_X0_fitSegment : GoodIn wsX0_fitCorrections wsX0_fitSegment := goodIn_r _ [24, 2, 25, 26, 27, 28, 29, 30, 31, 32, 33, 34, 35, 36, 37, 7, 38, 39, 40, 41, 42, 43, 44, 45, 46, 47, 48, 49, 50, 51, 52, 53, 54, 55, 56, 57, 58, 59, 60, 61, 62, 63, 64, 65, 66, 67, 68, 69, 70, 71, 72, 73, 74, 75, 76, 77, 78, 91, 92, 93, 94, 95, 96, 97, 98, 99, 100, 101, 102, 103, 104, 105] (by decide +kernel) (by decide +kernel)
set_option maxRecDepth 20000 in
theorem gX0_fitCorrections_X0_fitSegment : GoodIn wsX0_fitCorrections (wsV RX0 146 RX0 yX0_fitSegment wsX0_fitSegment) := goodIn_app (goodIn_of _ (by decide +kernel)) ggX0_fitCorrections_X0_fitSegment
set_option maxRecDepth 20000 in
theorem ggX0_fitCorrections_X0_fittingBeds : GoodIn wsX0_fitCorrections wsX0_fittingBeds := goodIn_r _ [82, 2, 26, 27, 3, 83, 84, 52, 85, 86, 87, 88, 89, 7, 90, 25, 28, 41, 42, 43, 44, 45, 46, 40, 47, 48, 49, 50, 51, 53, 54, 55, 56, 57, 58, 59, 60, 35, 36, 37, 38, 39, 9, 10, 11, 12, 13, 14, 15, 16, 91, 92, 93, 94, 95, 96, 97, 98, 99, 100, 101, 102] (by decide +kernel) (by decide +kernel)
set_option maxRecDepth 20000 in
theorem gX0_fitCorrections_X0_fittingBeds : GoodIn wsX0_fitCorrections (wsV RX0 150 RX0 yX0_fittingBeds wsX0_fittingBeds) := goodIn_app (goodIn_of _ (by decide +kernel)) ggX0_fitCorrections_X0_fittingBeds
theorem dX0_fitCorrections_0 : decode cX0_fitCorrections 0 = .ok (.aload_n 0, 1) := by decide +kernel
theorem dX0_fitCorrections_1 : decode cX0_fitCorrections 1 = .ok (.invokevirtual 142, 3) := by decide +kernel
theorem dX0_fitCorrections_4 : decode cX0_fitCorrections 4 = .ok (.ifCond .ne 6, 3) := by decide +kernel
theorem dX0_fitCorrections_7 : decode cX0_fitCorrections 7 = .ok (.ldc 76, 2) := by decide +kernel
theorem dX0_fitCorrections_9 : decode cX0_fitCorrections 9 = .ok (.ireturn, 1) := by decide +kernel
theorem dX0_fitCorrections_10 : decode cX0_fitCorrections 10 = .ok (.iconst 0, 1) := by decide +kernel
theorem dX0_fitCorrections_11 : decode cX0_fitCorrections 11 = .ok (.istore_n 2, 1) := by decide +kernel
theorem dX0_fitCorrections_12 : decode cX0_fitCorrections 12 = .ok (.iconst 0, 1) := by decide +kernel
theorem dX0_fitCorrections_13 : decode cX0_fitCorrections 13 = .ok (.istore_n 3, 1) := by decide +kernel
theorem dX0_fitCorrections_14 : decode cX0_fitCorrections 14 = .ok (.iconst 0, 1) := by decide +kernel
theorem dX0_fitCorrections_15 : decode cX0_fitCorrections 15 = .ok (.istore 4, 2) := by decide +kernel
theorem dX0_fitCorrections_17 : decode cX0_fitCorrections 17 = .ok (.iload 4, 2) := by decide +kernel
theorem dX0_fitCorrections_19 : decode cX0_fitCorrections 19 = .ok (.aload_n 0, 1) := by decide +kernel
theorem dX0_fitCorrections_20 : decode cX0_fitCorrections 20 = .ok (.getfield 9, 3) := by decide +kernel
theorem dX0_fitCorrections_23 : decode cX0_fitCorrections 23 = .ok (.if_icmp .ge 48, 3) := by decide +kernel
theorem dX0_fitCorrections_26 : decode cX0_fitCorrections 26 = .ok (.aload_n 0, 1) := by decide +kernel
theorem dX0_fitCorrections_27 : decode cX0_fitCorrections 27 = .ok (.iload 4, 2) := by decide +kernel
theorem dX0_fitCorrections_29 : decode cX0_fitCorrections 29 = .ok (.invokevirtual 60, 3) := by decide +kernel
theorem dX0_fitCorrections_32 : decode cX0_fitCorrections 32 = .ok (.ifCond .eq 33, 3) := by decide +kernel
theorem dX0_fitCorrections_35 : decode cX0_fitCorrections 35 = .ok (.aload_n 0, 1) := by decide +kernel
theorem dX0_fitCorrections_36 : decode cX0_fitCorrections 36 = .ok (.iload_n 2, 1) := by decide +kernel
theorem dX0_fitCorrections_37 : decode cX0_fitCorrections 37 = .ok (.iload 4, 2) := by decide +kernel
theorem dX0_fitCorrections_39 : decode cX0_fitCorrections 39 = .ok (.aload_n 0, 1) := by decide +kernel
theorem dX0_fitCorrections_40 : decode cX0_fitCorrections 40 = .ok (.getfield 41, 3) := by decide +kernel
theorem dX0_fitCorrections_43 : decode cX0_fitCorrections 43 = .ok (.iload 4, 2) := by decide +kernel
theorem dX0_fitCorrections_45 : decode cX0_fitCorrections 45 = .ok (.iaload, 1) := by decide +kernel
theorem dX0_fitCorrections_46 : decode cX0_fitCorrections 46 = .ok (.iload_n 3, 1) := by decide +kernel
theorem dX0_fitCorrections_47 : decode cX0_fitCorrections 47 = .ok (.isub, 1) := by decide +kernel
theorem dX0_fitCorrections_48 : decode cX0_fitCorrections 48 = .ok (.aload_n 1, 1) := by decide +kernel
theorem dX0_fitCorrections_49 : decode cX0_fitCorrections 49 = .ok (.invokevirtual 146, 3) := by decide +kernel
theorem dX0_fitCorrections_52 : decode cX0_fitCorrections 52 = .ok (.iload 4, 2) := by decide +kernel
theorem dX0_fitCorrections_54 : decode cX0_fitCorrections 54 = .ok (.iconst 1, 1) := by decide +kernel
theorem dX0_fitCorrections_55 : decode cX0_fitCorrections 55 = .ok (.iadd, 1) := by decide +kernel
theorem dX0_fitCorrections_56 : decode cX0_fitCorrections 56 = .ok (.istore_n 2, 1) := by decide +kernel
theorem dX0_fitCorrections_57 : decode cX0_fitCorrections 57 = .ok (.aload_n 0, 1) := by decide +kernel
theorem dX0_fitCorrections_58 : decode cX0_fitCorrections 58 = .ok (.getfield 41, 3) := by decide +kernel
theorem dX0_fitCorrections_61 : decode cX0_fitCorrections 61 = .ok (.iload 4, 2) := by decide +kernel
theorem dX0_fitCorrections_63 : decode cX0_fitCorrections 63 = .ok (.iaload, 1) := by decide +kernel
theorem dX0_fitCorrections_64 : decode cX0_fitCorrections 64 = .ok (.istore_n 3, 1) := by decide +kernel
theorem dX0_fitCorrections_65 : decode cX0_fitCorrections 65 = .ok (.iinc 4 1, 3) := by decide +kernel
theorem dX0_fitCorrections_68 : decode cX0_fitCorrections 68 = .ok (.goto (-51), 3) := by decide +kernel
theorem dX0_fitCorrections_71 : decode cX0_fitCorrections 71 = .ok (.aload_n 0, 1) := by decide +kernel
theorem dX0_fitCorrections_72 : decode cX0_fitCorrections 72 = .ok (.invokevirtual 150, 3) := by decide +kernel
theorem dX0_fitCorrections_75 : decode cX0_fitCorrections 75 = .ok (.ireturn, 1) := by decide +kernel
set_option maxRecDepth 20000 in
theorem ggX0_canBeTuned_X0_hasAsh : GoodIn wsX0_canBeTuned wsX0_hasAsh := goodIn_r _ [7, 2, 8, 9, 10, 6, 11, 1, 16, 17, 18, 19, 20, 21, 22, 23, 24, 25, 26, 27] (by decide +kernel) (by decide +kernel)
set_option maxRecDepth 20000 in
theorem gX0_canBeTuned_X0_hasAsh : GoodIn wsX0_canBeTuned (wsV RX0 60 RX0 yX0_hasAsh wsX0_hasAsh) := goodIn_app (goodIn_of _ (by decide +kernel)) ggX0_canBeTuned_X0_hasAsh
set_option maxRecDepth 20000 in
theorem ggX0_canBeTuned_X0_ashBeds : GoodIn wsX0_canBeTuned wsX0_ashBeds := goodIn_r _ [15, 1, 3, 4, 5, 6, 7, 2, 8, 9, 10, 11, 16, 17, 18, 19, 20, 21, 22, 23, 24, 25, 26, 27] (by decide +kernel) (by decide +kernel)
set_option maxRecDepth 20000 in
theorem gX0_canBeTuned_X0_ashBeds : GoodIn wsX0_canBeTuned (wsV RX0 85 RX0 yX0_ashBeds wsX0_ashBeds) := goodIn_app (goodIn_of _ (by decide +kernel)) ggX0_canBeTuned_X0_ashBeds
theorem dX0_canBeTuned_0 : decode cX0_canBeTuned 0 = .ok (.iconst 0, 1) := by decide +kernel
theorem dX0_canBeTuned_1 : decode cX0_canBeTuned 1 = .ok (.istore_n 1, 1) := by decide +kernel
theorem dX0_canBeTuned_2 : decode cX0_canBeTuned 2 = .ok (.iconst 0, 1) := by decide +kernel
theorem dX0_canBeTuned_3 : decode cX0_canBeTuned 3 = .ok (.istore_n 2, 1) := by decide +kernel
theorem dX0_canBeTuned_4 : decode cX0_canBeTuned 4 = .ok (.iload_n 2, 1) := by decide +kernel
theorem dX0_canBeTuned_5 : decode cX0_canBeTuned 5 = .ok (.aload_n 0, 1) := by decide +kernel
theorem dX0_canBeTuned_6 : decode cX0_canBeTuned 6 = .ok (.getfield 9, 3) := by decide +kernel
theorem dX0_canBeTuned_9 : decode cX0_canBeTuned 9 = .ok (.if_icmp .ge 36, 3) := by decide +kernel
theorem dX0_canBeTuned_12 : decode cX0_canBeTuned 12 = .ok (.aload_n 0, 1) := by decide +kernel
theorem dX0_canBeTuned_13 : decode cX0_canBeTuned 13 = .ok (.iload_n 2, 1) := by decide +kernel
theorem dX0_canBeTuned_14 : decode cX0_canBeTuned 14 = .ok (.invokevirtual 60, 3) := by decide +kernel
theorem dX0_canBeTuned_17 : decode cX0_canBeTuned 17 = .ok (.ifCond .eq 22, 3) := by decide +kernel
theorem dX0_canBeTuned_20 : decode cX0_canBeTuned 20 = .ok (.aload_n 0, 1) := by decide +kernel
theorem dX0_canBeTuned_21 : decode cX0_canBeTuned 21 = .ok (.getfield 41, 3) := by decide +kernel
theorem dX0_canBeTuned_24 : decode cX0_canBeTuned 24 = .ok (.iload_n 2, 1) := by decide +kernel
theorem dX0_canBeTuned_25 : decode cX0_canBeTuned 25 = .ok (.iaload, 1) := by decide +kernel
theorem dX0_canBeTuned_26 : decode cX0_canBeTuned 26 = .ok (.iload_n 1, 1) := by decide +kernel
theorem dX0_canBeTuned_27 : decode cX0_canBeTuned 27 = .ok (.if_icmp .ge 5, 3) := by decide +kernel
theorem dX0_canBeTuned_30 : decode cX0_canBeTuned 30 = .ok (.iconst 0, 1) := by decide +kernel
theorem dX0_canBeTuned_31 : decode cX0_canBeTuned 31 = .ok (.ireturn, 1) := by decide +kernel
theorem dX0_canBeTuned_32 : decode cX0_canBeTuned 32 = .ok (.aload_n 0, 1) := by decide +kernel
theorem dX0_canBeTuned_33 : decode cX0_canBeTuned 33 = .ok (.getfield 41, 3) := by decide +kernel
theorem dX0_canBeTuned_36 : decode cX0_canBeTuned 36 = .ok (.iload_n 2, 1) := by decide +kernel
theorem dX0_canBeTuned_37 : decode cX0_canBeTuned 37 = .ok (.iaload, 1) := by decide +kernel
theorem dX0_canBeTuned_38 : decode cX0_canBeTuned 38 = .ok (.istore_n 1, 1) := by decide +kernel
theorem dX0_canBeTuned_39 : decode cX0_canBeTuned 39 = .ok (.iinc 2 1, 3) := by decide +kernel
theorem dX0_canBeTuned_42 : decode cX0_canBeTuned 42 = .ok (.goto (-38), 3) := by decide +kernel
theorem dX0_canBeTuned_45 : decode cX0_canBeTuned 45 = .ok (.aload_n 0, 1) := by decide +kernel
theorem dX0_canBeTuned_46 : decode cX0_canBeTuned 46 = .ok (.invokevirtual 85, 3) := by decide +kernel
theorem dX0_canBeTuned_49 : decode cX0_canBeTuned 49 = .ok (.ifCond .le 7, 3) := by decide +kernel
theorem dX0_canBeTuned_52 : decode cX0_canBeTuned 52 = .ok (.iconst 1, 1) := by decide +kernel
theorem dX0_canBeTuned_53 : decode cX0_canBeTuned 53 = .ok (.goto 4, 3) := by decide +kernel
theorem dX0_canBeTuned_56 : decode cX0_canBeTuned 56 = .ok (.iconst 0, 1) := by decide +kernel
theorem dX0_canBeTuned_57 : decode cX0_canBeTuned 57 = .ok (.ireturn, 1) := by decide +kernel
set_option maxRecDepth 20000 in
theorem ggX0_fitSegment_X1_clear : GoodIn wsX0_fitSegment wsX1_clear := goodIn_r _ [10, 11, 69, 70, 71] (by decide +kernel) (by decide +kernel)
set_option maxRecDepth 20000 in
theorem gX0_fitSegment_X1_clear : GoodIn wsX0_fitSegment (wsV RX0 153 RX1 yX1_clear wsX1_clear) := goodIn_app (goodIn_of _ (by decide +kernel)) ggX0_fitSegment_X1_clear
set_option maxRecDepth 20000 in
theorem ggX0_fitSegment_X0_yearsDividend : GoodIn wsX0_fitSegment wsX0_yearsDividend := goodIn_r _ [16, 17, 18, 57, 58, 59, 60, 61, 62, 63, 64, 65, 66, 67, 68] (by decide +kernel) (by decide +kernel)
set_option maxRecDepth 20000 in
theorem gX0_fitSegment_X0_yearsDividend : GoodIn wsX0_fitSegment (wsV RX0 113 RX0 yX0_yearsDividend wsX0_yearsDividend) := goodIn_app (goodIn_of _ (by decide +kernel)) ggX0_fitSegment_X0_yearsDividend
set_option maxRecDepth 20000 in
theorem ggX0_fitSegment_X0_thinningOf : GoodIn wsX0_fitSegment wsX0_thinningOf := goodIn_r _ [22, 23, 24, 18, 25, 26, 27, 28, 29, 30, 31, 32, 33, 34, 15, 35, 1, 36, 37, 38, 57, 58, 59, 60, 61, 62, 63, 64, 65, 66, 67, 68] (by decide +kernel) (by decide +kernel)
set_option maxRecDepth 20000 in
theorem gX0_fitSegment_X0_thinningOf : GoodIn wsX0_fitSegment (wsV RX0 109 RX0 yX0_thinningOf wsX0_thinningOf) := goodIn_app (goodIn_of _ (by decide +kernel)) ggX0_fitSegment_X0_thinningOf
set_option maxRecDepth 20000 in
theorem ggX0_fitSegment_X1_add : GoodIn wsX0_fitSegment wsX1_add := goodIn_r _ [42, 11, 43, 44, 69, 70, 71] (by decide +kernel) (by decide +kernel)
set_option maxRecDepth 20000 in
theorem gX0_fitSegment_X1_add : GoodIn wsX0_fitSegment (wsV RX0 158 RX1 yX1_add wsX1_add) := goodIn_app (goodIn_of _ (by decide +kernel)) ggX0_fitSegment_X1_add
set_option maxRecDepth 20000 in
theorem ggX0_fitSegment_X1_nearest : GoodIn wsX0_fitSegment wsX1_nearest := goodIn_r _ [48, 49, 50, 51, 9, 52, 53, 54, 55, 56, 11, 44, 43, 69, 70, 71] (by decide +kernel) (by decide +kernel)
set_option maxRecDepth 20000 in
theorem gX0_fitSegment_X1_nearest : GoodIn wsX0_fitSegment (wsV RX0 162 RX1 yX1_nearest wsX1_nearest) := goodIn_app (goodIn_of _ (by decide +kernel)) ggX0_fitSegment_X1_nearest
theorem dX0_fitSegment_0 : decode cX0_fitSegment 0 = .ok (.aload 4, 2) := by decide +kernel
theorem dX0_fitSegment_2 : decode cX0_fitSegment 2 = .ok (.invokevirtual 153, 3) := by decide +kernel
theorem dX0_fitSegment_5 : decode cX0_fitSegment 5 = .ok (.iload_n 1, 1) := by decide +kernel
theorem dX0_fitSegment_6 : decode cX0_fitSegment 6 = .ok (.istore 5, 2) := by decide +kernel
theorem dX0_fitSegment_8 : decode cX0_fitSegment 8 = .ok (.iload 5, 2) := by decide +kernel
theorem dX0_fitSegment_10 : decode cX0_fitSegment 10 = .ok (.iload_n 2, 1) := by decide +kernel
theorem dX0_fitSegment_11 : decode cX0_fitSegment 11 = .ok (.if_icmp .gt 53, 3) := by decide +kernel
theorem dX0_fitSegment_14 : decode cX0_fitSegment 14 = .ok (.iload 5, 2) := by decide +kernel
theorem dX0_fitSegment_16 : decode cX0_fitSegment 16 = .ok (.aload_n 0, 1) := by decide +kernel
theorem dX0_fitSegment_17 : decode cX0_fitSegment 17 = .ok (.getfield 9, 3) := by decide +kernel
theorem dX0_fitSegment_20 : decode cX0_fitSegment 20 = .ok (.if_icmp .ge 44, 3) := by decide +kernel
theorem dX0_fitSegment_23 : decode cX0_fitSegment 23 = .ok (.aload 4, 2) := by decide +kernel
theorem dX0_fitSegment_25 : decode cX0_fitSegment 25 = .ok (.aload_n 0, 1) := by decide +kernel
theorem dX0_fitSegment_26 : decode cX0_fitSegment 26 = .ok (.iload 5, 2) := by decide +kernel
theorem dX0_fitSegment_28 : decode cX0_fitSegment 28 = .ok (.invokevirtual 113, 3) := by decide +kernel
theorem dX0_fitSegment_31 : decode cX0_fitSegment 31 = .ok (.aload_n 0, 1) := by decide +kernel
theorem dX0_fitSegment_32 : decode cX0_fitSegment 32 = .ok (.getfield 32, 3) := by decide +kernel
theorem dX0_fitSegment_35 : decode cX0_fitSegment 35 = .ok (.iload 5, 2) := by decide +kernel
theorem dX0_fitSegment_37 : decode cX0_fitSegment 37 = .ok (.iaload, 1) := by decide +kernel
theorem dX0_fitSegment_38 : decode cX0_fitSegment 38 = .ok (.i2l, 1) := by decide +kernel
theorem dX0_fitSegment_39 : decode cX0_fitSegment 39 = .ok (.aload_n 0, 1) := by decide +kernel
theorem dX0_fitSegment_40 : decode cX0_fitSegment 40 = .ok (.iload 5, 2) := by decide +kernel
theorem dX0_fitSegment_42 : decode cX0_fitSegment 42 = .ok (.aload_n 0, 1) := by decide +kernel
theorem dX0_fitSegment_43 : decode cX0_fitSegment 43 = .ok (.getfield 19, 3) := by decide +kernel
theorem dX0_fitSegment_46 : decode cX0_fitSegment 46 = .ok (.aload_n 0, 1) := by decide +kernel
theorem dX0_fitSegment_47 : decode cX0_fitSegment 47 = .ok (.getfield 22, 3) := by decide +kernel
theorem dX0_fitSegment_50 : decode cX0_fitSegment 50 = .ok (.invokevirtual 109, 3) := by decide +kernel
theorem dX0_fitSegment_53 : decode cX0_fitSegment 53 = .ok (.i2l, 1) := by decide +kernel
theorem dX0_fitSegment_54 : decode cX0_fitSegment 54 = .ok (.lmul, 1) := by decide +kernel
theorem dX0_fitSegment_55 : decode cX0_fitSegment 55 = .ok (.invokevirtual 158, 3) := by decide +kernel
theorem dX0_fitSegment_58 : decode cX0_fitSegment 58 = .ok (.iinc 5 1, 3) := by decide +kernel
theorem dX0_fitSegment_61 : decode cX0_fitSegment 61 = .ok (.goto (-53), 3) := by decide +kernel
theorem dX0_fitSegment_64 : decode cX0_fitSegment 64 = .ok (.aload 4, 2) := by decide +kernel
theorem dX0_fitSegment_66 : decode cX0_fitSegment 66 = .ok (.sipush 200, 3) := by decide +kernel
theorem dX0_fitSegment_69 : decode cX0_fitSegment 69 = .ok (.sipush 5000, 3) := by decide +kernel
theorem dX0_fitSegment_72 : decode cX0_fitSegment 72 = .ok (.iload_n 3, 1) := by decide +kernel
theorem dX0_fitSegment_73 : decode cX0_fitSegment 73 = .ok (.i2l, 1) := by decide +kernel
theorem dX0_fitSegment_74 : decode cX0_fitSegment 74 = .ok (.invokevirtual 162, 3) := by decide +kernel
theorem dX0_fitSegment_77 : decode cX0_fitSegment 77 = .ok (.istore 5, 2) := by decide +kernel
theorem dX0_fitSegment_79 : decode cX0_fitSegment 79 = .ok (.iload_n 1, 1) := by decide +kernel
theorem dX0_fitSegment_80 : decode cX0_fitSegment 80 = .ok (.istore 6, 2) := by decide +kernel
theorem dX0_fitSegment_82 : decode cX0_fitSegment 82 = .ok (.iload 6, 2) := by decide +kernel
theorem dX0_fitSegment_84 : decode cX0_fitSegment 84 = .ok (.iload_n 2, 1) := by decide +kernel
theorem dX0_fitSegment_85 : decode cX0_fitSegment 85 = .ok (.if_icmp .gt 27, 3) := by decide +kernel
theorem dX0_fitSegment_88 : decode cX0_fitSegment 88 = .ok (.iload 6, 2) := by decide +kernel
theorem dX0_fitSegment_90 : decode cX0_fitSegment 90 = .ok (.aload_n 0, 1) := by decide +kernel
theorem dX0_fitSegment_91 : decode cX0_fitSegment 91 = .ok (.getfield 9, 3) := by decide +kernel
theorem dX0_fitSegment_94 : decode cX0_fitSegment 94 = .ok (.if_icmp .ge 18, 3) := by decide +kernel
theorem dX0_fitSegment_97 : decode cX0_fitSegment 97 = .ok (.aload_n 0, 1) := by decide +kernel
theorem dX0_fitSegment_98 : decode cX0_fitSegment 98 = .ok (.getfield 35, 3) := by decide +kernel
theorem dX0_fitSegment_101 : decode cX0_fitSegment 101 = .ok (.iload 6, 2) := by decide +kernel
theorem dX0_fitSegment_103 : decode cX0_fitSegment 103 = .ok (.iload 5, 2) := by decide +kernel
theorem dX0_fitSegment_105 : decode cX0_fitSegment 105 = .ok (.iastore, 1) := by decide +kernel
theorem dX0_fitSegment_106 : decode cX0_fitSegment 106 = .ok (.iinc 6 1, 3) := by decide +kernel
theorem dX0_fitSegment_109 : decode cX0_fitSegment 109 = .ok (.goto (-27), 3) := by decide +kernel
theorem dX0_fitSegment_112 : decode cX0_fitSegment 112 = .ok (.return_, 1) := by decide +kernel
