set_option maxRecDepth 20000 in
theorem ggL_areAges_X4_layers : GoodIn wsL_areAges wsX4_layers := goodIn_r _ [9, 10, 11, 179, 180, 181, 182, 183, 184, 185, 186, 187, 188, 189, 190, 191, 192, 193, 194, 195, 196] (by decide +kernel) (by decide +kernel)
set_option maxRecDepth 20000 in
theorem gL_areAges_X4_layers : GoodIn wsL_areAges (wsV RL 9 RX4 yX4_layers wsX4_layers) := goodIn_app (goodIn_of _ (by decide +kernel)) ggL_areAges_X4_layers
set_option maxRecDepth 20000 in
theorem ggL_areAges_X4_thickness : GoodIn wsL_areAges wsX4_thickness := goodIn_r _ [15, 10, 16, 17, 18, 19, 20, 21, 22, 23, 179, 180, 181, 182, 183, 184, 185, 186, 187, 188, 189, 190, 191, 192, 193, 194, 195, 196] (by decide +kernel) (by decide +kernel)
set_option maxRecDepth 20000 in
theorem gL_areAges_X4_thickness : GoodIn wsL_areAges (wsV RL 74 RX4 yX4_thickness wsX4_thickness) := goodIn_app (goodIn_of _ (by decide +kernel)) ggL_areAges_X4_thickness
set_option maxRecDepth 20000 in
theorem ggL_areAges_X4_years : GoodIn wsL_areAges wsX4_years := goodIn_r _ [27, 10, 28, 29, 17, 18, 19, 20, 21, 22, 23, 30, 31, 32, 33, 34, 35, 36, 37, 38, 39, 40, 41, 42, 43, 44, 45, 46, 47, 48, 49, 50, 51, 52, 53, 54, 8, 55, 56, 57, 58, 59, 60, 179, 180, 181, 182, 183, 184, 185, 186, 187, 188, 189, 190, 191, 192, 193, 194, 195, 196] (by decide +kernel) (by decide +kernel)
set_option maxRecDepth 20000 in
theorem gL_areAges_X4_years : GoodIn wsL_areAges (wsV RL 77 RX4 yX4_years wsX4_years) := goodIn_app (goodIn_of _ (by decide +kernel)) ggL_areAges_X4_years
set_option maxRecDepth 20000 in
theorem ggL_areAges_X4_age : GoodIn wsL_areAges wsX4_age := goodIn_r _ [64, 10, 65, 66, 67, 8, 68, 69, 11, 70, 71, 72, 73, 21, 74, 23, 50, 51, 52, 53, 42, 75, 76, 77, 78, 79, 80, 81, 31, 32, 33, 34, 35, 36, 37, 38, 39, 40, 41, 43, 44, 45, 46, 47, 48, 49, 54, 55, 56, 57, 58, 59, 60, 179, 180, 181, 182, 183, 184, 185, 186, 187, 188, 189, 190, 191, 192, 193, 194, 195, 196] (by decide +kernel) (by decide +kernel)
set_option maxRecDepth 20000 in
theorem gL_areAges_X4_age : GoodIn wsL_areAges (wsV RL 56 RX4 yX4_age wsX4_age) := goodIn_app (goodIn_of _ (by decide +kernel)) ggL_areAges_X4_age
set_option maxRecDepth 20000 in
theorem ggL_areAges_X4_thinning : GoodIn wsL_areAges wsX4_thinning := goodIn_r _ [85, 10, 28, 29, 17, 18, 19, 20, 21, 22, 23, 86, 37, 38, 39, 40, 41, 42, 43, 44, 45, 46, 47, 48, 49, 50, 51, 52, 53, 54, 8, 55, 179, 180, 181, 182, 183, 184, 185, 186, 187, 188, 189, 190, 191, 192, 193, 194, 195, 196] (by decide +kernel) (by decide +kernel)
set_option maxRecDepth 20000 in
theorem gL_areAges_X4_thinning : GoodIn wsL_areAges (wsV RL 80 RX4 yX4_thinning wsX4_thinning) := goodIn_app (goodIn_of _ (by decide +kernel)) ggL_areAges_X4_thinning
set_option maxRecDepth 20000 in
theorem ggL_areAges_X4_delay : GoodIn wsL_areAges wsX4_delay := goodIn_r _ [90, 10, 17, 18, 19, 20, 21, 22, 23, 91, 92, 93, 94, 95, 96, 34, 35, 54, 8, 55, 179, 180, 181, 182, 183, 184, 185, 186, 187, 188, 189, 190, 191, 192, 193, 194, 195, 196] (by decide +kernel) (by decide +kernel)
set_option maxRecDepth 20000 in
theorem gL_areAges_X4_delay : GoodIn wsL_areAges (wsV RL 83 RX4 yX4_delay wsX4_delay) := goodIn_app (goodIn_of _ (by decide +kernel)) ggL_areAges_X4_delay
set_option maxRecDepth 20000 in
theorem ggL_areAges_X4_gasAge : GoodIn wsL_areAges wsX4_gasAge := goodIn_r _ [100, 10, 65, 66, 67, 8, 68, 69, 11, 70, 71, 72, 73, 21, 74, 23, 50, 51, 52, 53, 42, 101, 102, 103, 104, 105, 106, 48, 107, 108, 76, 77, 78, 79, 80, 81, 31, 32, 33, 34, 35, 36, 37, 38, 39, 40, 41, 43, 44, 45, 46, 47, 49, 54, 55, 56, 57, 58, 59, 60, 109, 92, 93, 94, 95, 96, 179, 180, 181, 182, 183, 184, 185, 186, 187, 188, 189, 190, 191, 192, 193, 194, 195, 196] (by decide +kernel) (by decide +kernel)
set_option maxRecDepth 20000 in
theorem gL_areAges_X4_gasAge : GoodIn wsL_areAges (wsV RL 86 RX4 yX4_gasAge wsX4_gasAge) := goodIn_app (goodIn_of _ (by decide +kernel)) ggL_areAges_X4_gasAge
set_option maxRecDepth 20000 in
theorem ggL_areAges_X4_lead : GoodIn wsL_areAges wsX4_lead := goodIn_r _ [113, 69, 10, 65, 66, 67, 8, 68, 11, 70, 71, 72, 73, 21, 74, 23, 50, 51, 52, 53, 42, 75, 76, 77, 78, 79, 80, 81, 31, 32, 33, 34, 35, 36, 37, 38, 39, 40, 41, 43, 44, 45, 46, 47, 48, 49, 54, 55, 56, 57, 58, 59, 60, 101, 102, 103, 104, 105, 106, 107, 108, 109, 92, 93, 94, 95, 96, 179, 180, 181, 182, 183, 184, 185, 186, 187, 188, 189, 190, 191, 192, 193, 194, 195, 196] (by decide +kernel) (by decide +kernel)
set_option maxRecDepth 20000 in
theorem gL_areAges_X4_lead : GoodIn wsL_areAges (wsV RL 89 RX4 yX4_lead wsX4_lead) := goodIn_app (goodIn_of _ (by decide +kernel)) ggL_areAges_X4_lead
set_option maxRecDepth 20000 in
theorem ggL_areAges_X4_countError : GoodIn wsL_areAges wsX4_countError := goodIn_r _ [117, 10, 17, 118, 18, 19, 20, 21, 22, 23, 119, 120, 121, 122, 123, 124, 125, 126, 127, 128, 79, 80, 81, 31, 32, 33, 34, 35, 36, 37, 38, 39, 40, 41, 42, 43, 44, 45, 46, 47, 48, 49, 50, 51, 52, 53, 54, 8, 55, 56, 57, 58, 59, 60, 179, 180, 181, 182, 183, 184, 185, 186, 187, 188, 189, 190, 191, 192, 193, 194, 195, 196] (by decide +kernel) (by decide +kernel)
set_option maxRecDepth 20000 in
theorem gL_areAges_X4_countError : GoodIn wsL_areAges (wsV RL 92 RX4 yX4_countError wsX4_countError) := goodIn_app (goodIn_of _ (by decide +kernel)) ggL_areAges_X4_countError
set_option maxRecDepth 20000 in
theorem ggL_areAges_X4_residual : GoodIn wsL_areAges wsX4_residual := goodIn_r _ [132, 10, 17, 118, 18, 19, 20, 21, 22, 23, 133, 134, 135, 136, 137, 124, 138, 139, 140, 141, 79, 80, 81, 31, 32, 33, 34, 35, 36, 37, 38, 39, 40, 41, 42, 43, 44, 45, 46, 47, 48, 49, 50, 51, 52, 53, 54, 8, 55, 56, 57, 58, 59, 60, 179, 180, 181, 182, 183, 184, 185, 186, 187, 188, 189, 190, 191, 192, 193, 194, 195, 196] (by decide +kernel) (by decide +kernel)
set_option maxRecDepth 20000 in
theorem gL_areAges_X4_residual : GoodIn wsL_areAges (wsV RL 97 RX4 yX4_residual wsX4_residual) := goodIn_app (goodIn_of _ (by decide +kernel)) ggL_areAges_X4_residual
set_option maxRecDepth 20000 in
theorem ggL_areAges_X4_depth : GoodIn wsL_areAges wsX4_depth := goodIn_r _ [145, 10, 71, 72, 73, 21, 74, 23, 50, 51, 52, 53, 42, 179, 180, 181, 182, 183, 184, 185, 186, 187, 188, 189, 190, 191, 192, 193, 194, 195, 196] (by decide +kernel) (by decide +kernel)
set_option maxRecDepth 20000 in
theorem gL_areAges_X4_depth : GoodIn wsL_areAges (wsV RL 53 RX4 yX4_depth wsX4_depth) := goodIn_app (goodIn_of _ (by decide +kernel)) ggL_areAges_X4_depth
set_option maxRecDepth 20000 in
theorem ggL_areAges_X4_fitting : GoodIn wsL_areAges wsX4_fitting := goodIn_r _ [149, 10, 150, 151, 152, 21, 153, 23, 79, 80, 137, 154, 155, 48, 156, 157, 81, 31, 32, 33, 34, 35, 36, 37, 38, 39, 40, 41, 42, 43, 44, 45, 46, 47, 49, 50, 51, 52, 53, 54, 8, 55, 56, 57, 58, 59, 60, 158, 134, 135, 136, 124, 19, 20, 22, 179, 180, 181, 182, 183, 184, 185, 186, 187, 188, 189, 190, 191, 192, 193, 194, 195, 196] (by decide +kernel) (by decide +kernel)
set_option maxRecDepth 20000 in
theorem gL_areAges_X4_fitting : GoodIn wsL_areAges (wsV RL 100 RX4 yX4_fitting wsX4_fitting) := goodIn_app (goodIn_of _ (by decide +kernel)) ggL_areAges_X4_fitting
set_option maxRecDepth 20000 in
theorem ggL_areAges_X4_bestFunction : GoodIn wsL_areAges wsX4_bestFunction := goodIn_r _ [162, 10, 118, 29, 163, 164, 165, 21, 166, 23, 158, 134, 135, 136, 137, 124, 19, 20, 22, 167, 168, 169, 170, 154, 155, 48, 156, 81, 31, 32, 33, 34, 35, 36, 37, 38, 39, 40, 41, 42, 43, 44, 45, 46, 47, 49, 50, 51, 52, 53, 54, 8, 55, 56, 57, 58, 59, 60, 179, 180, 181, 182, 183, 184, 185, 186, 187, 188, 189, 190, 191, 192, 193, 194, 195, 196] (by decide +kernel) (by decide +kernel)
set_option maxRecDepth 20000 in
theorem gL_areAges_X4_bestFunction : GoodIn wsL_areAges (wsV RL 103 RX4 yX4_bestFunction wsX4_bestFunction) := goodIn_app (goodIn_of _ (by decide +kernel)) ggL_areAges_X4_bestFunction
set_option maxRecDepth 20000 in
theorem ggL_areAges_X4_seal : GoodIn wsL_areAges wsX4_seal := goodIn_r _ [174, 10, 175, 176, 177, 21, 178, 23, 79, 80, 81, 31, 32, 33, 34, 35, 36, 37, 38, 39, 40, 41, 42, 43, 44, 45, 46, 47, 48, 49, 50, 51, 52, 53, 54, 8, 55, 56, 57, 58, 59, 60, 179, 180, 181, 182, 183, 184, 185, 186, 187, 188, 189, 190, 191, 192, 193, 194, 195, 196] (by decide +kernel) (by decide +kernel)
set_option maxRecDepth 20000 in
theorem gL_areAges_X4_seal : GoodIn wsL_areAges (wsV RL 107 RX4 yX4_seal wsX4_seal) := goodIn_app (goodIn_of _ (by decide +kernel)) ggL_areAges_X4_seal
theorem dL_areAges_0 : decode cL_areAges 0 = .ok (.iconst 0, 1) := by decide +kernel
theorem dL_areAges_1 : decode cL_areAges 1 = .ok (.istore_n 1, 1) := by decide +kernel
theorem dL_areAges_2 : decode cL_areAges 2 = .ok (.iconst 0, 1) := by decide +kernel
theorem dL_areAges_3 : decode cL_areAges 3 = .ok (.istore_n 2, 1) := by decide +kernel
theorem dL_areAges_4 : decode cL_areAges 4 = .ok (.bipush 7, 2) := by decide +kernel
theorem dL_areAges_6 : decode cL_areAges 6 = .ok (.istore_n 3, 1) := by decide +kernel
theorem dL_areAges_7 : decode cL_areAges 7 = .ok (.iconst 0, 1) := by decide +kernel
theorem dL_areAges_8 : decode cL_areAges 8 = .ok (.istore 4, 2) := by decide +kernel
theorem dL_areAges_10 : decode cL_areAges 10 = .ok (.iconst 1, 1) := by decide +kernel
theorem dL_areAges_11 : decode cL_areAges 11 = .ok (.istore 5, 2) := by decide +kernel
theorem dL_areAges_13 : decode cL_areAges 13 = .ok (.iconst 0, 1) := by decide +kernel
theorem dL_areAges_14 : decode cL_areAges 14 = .ok (.istore 6, 2) := by decide +kernel
theorem dL_areAges_16 : decode cL_areAges 16 = .ok (.iload 6, 2) := by decide +kernel
theorem dL_areAges_18 : decode cL_areAges 18 = .ok (.aload_n 0, 1) := by decide +kernel
theorem dL_areAges_19 : decode cL_areAges 19 = .ok (.invokevirtual 9, 3) := by decide +kernel
theorem dL_areAges_22 : decode cL_areAges 22 = .ok (.if_icmp .ge 250, 3) := by decide +kernel
theorem dL_areAges_25 : decode cL_areAges 25 = .ok (.aload_n 0, 1) := by decide +kernel
theorem dL_areAges_26 : decode cL_areAges 26 = .ok (.iload 6, 2) := by decide +kernel
theorem dL_areAges_28 : decode cL_areAges 28 = .ok (.invokevirtual 74, 3) := by decide +kernel
theorem dL_areAges_31 : decode cL_areAges 31 = .ok (.istore 7, 2) := by decide +kernel
theorem dL_areAges_33 : decode cL_areAges 33 = .ok (.aload_n 0, 1) := by decide +kernel
theorem dL_areAges_34 : decode cL_areAges 34 = .ok (.iload 6, 2) := by decide +kernel
theorem dL_areAges_36 : decode cL_areAges 36 = .ok (.invokevirtual 77, 3) := by decide +kernel
theorem dL_areAges_39 : decode cL_areAges 39 = .ok (.istore 8, 2) := by decide +kernel
theorem dL_areAges_41 : decode cL_areAges 41 = .ok (.aload_n 0, 1) := by decide +kernel
theorem dL_areAges_42 : decode cL_areAges 42 = .ok (.iload_n 1, 1) := by decide +kernel
theorem dL_areAges_43 : decode cL_areAges 43 = .ok (.iload 7, 2) := by decide +kernel
theorem dL_areAges_45 : decode cL_areAges 45 = .ok (.iconst 2, 1) := by decide +kernel
theorem dL_areAges_46 : decode cL_areAges 46 = .ok (.idiv, 1) := by decide +kernel
theorem dL_areAges_47 : decode cL_areAges 47 = .ok (.iadd, 1) := by decide +kernel
theorem dL_areAges_48 : decode cL_areAges 48 = .ok (.invokevirtual 56, 3) := by decide +kernel
theorem dL_areAges_51 : decode cL_areAges 51 = .ok (.istore 9, 2) := by decide +kernel
theorem dL_areAges_53 : decode cL_areAges 53 = .ok (.iload 5, 2) := by decide +kernel
theorem dL_areAges_55 : decode cL_areAges 55 = .ok (.ifCond .eq 59, 3) := by decide +kernel
theorem dL_areAges_58 : decode cL_areAges 58 = .ok (.iload 7, 2) := by decide +kernel
theorem dL_areAges_60 : decode cL_areAges 60 = .ok (.ifCond .le 54, 3) := by decide +kernel
theorem dL_areAges_63 : decode cL_areAges 63 = .ok (.aload_n 0, 1) := by decide +kernel
theorem dL_areAges_64 : decode cL_areAges 64 = .ok (.iload 6, 2) := by decide +kernel
theorem dL_areAges_66 : decode cL_areAges 66 = .ok (.invokevirtual 80, 3) := by decide +kernel
theorem dL_areAges_69 : decode cL_areAges 69 = .ok (.bipush 10, 2) := by decide +kernel
theorem dL_areAges_71 : decode cL_areAges 71 = .ok (.if_icmp .lt 43, 3) := by decide +kernel
theorem dL_areAges_74 : decode cL_areAges 74 = .ok (.aload_n 0, 1) := by decide +kernel
theorem dL_areAges_75 : decode cL_areAges 75 = .ok (.iload 6, 2) := by decide +kernel
theorem dL_areAges_77 : decode cL_areAges 77 = .ok (.invokevirtual 80, 3) := by decide +kernel
theorem dL_areAges_80 : decode cL_areAges 80 = .ok (.sipush 1000, 3) := by decide +kernel
theorem dL_areAges_83 : decode cL_areAges 83 = .ok (.if_icmp .gt 31, 3) := by decide +kernel
theorem dL_areAges_86 : decode cL_areAges 86 = .ok (.aload_n 0, 1) := by decide +kernel
theorem dL_areAges_87 : decode cL_areAges 87 = .ok (.iload_n 1, 1) := by decide +kernel
theorem dL_areAges_88 : decode cL_areAges 88 = .ok (.invokevirtual 56, 3) := by decide +kernel
theorem dL_areAges_91 : decode cL_areAges 91 = .ok (.iload_n 2, 1) := by decide +kernel
theorem dL_areAges_92 : decode cL_areAges 92 = .ok (.if_icmp .ne 22, 3) := by decide +kernel
theorem dL_areAges_95 : decode cL_areAges 95 = .ok (.iload 9, 2) := by decide +kernel
theorem dL_areAges_97 : decode cL_areAges 97 = .ok (.iload_n 2, 1) := by decide +kernel
theorem dL_areAges_98 : decode cL_areAges 98 = .ok (.if_icmp .lt 16, 3) := by decide +kernel
theorem dL_areAges_101 : decode cL_areAges 101 = .ok (.iload 9, 2) := by decide +kernel
theorem dL_areAges_103 : decode cL_areAges 103 = .ok (.iload_n 2, 1) := by decide +kernel
theorem dL_areAges_104 : decode cL_areAges 104 = .ok (.iload 8, 2) := by decide +kernel
theorem dL_areAges_106 : decode cL_areAges 106 = .ok (.iadd, 1) := by decide +kernel
theorem dL_areAges_107 : decode cL_areAges 107 = .ok (.if_icmp .gt 7, 3) := by decide +kernel
theorem dL_areAges_110 : decode cL_areAges 110 = .ok (.iconst 1, 1) := by decide +kernel
theorem dL_areAges_111 : decode cL_areAges 111 = .ok (.goto 4, 3) := by decide +kernel
theorem dL_areAges_114 : decode cL_areAges 114 = .ok (.iconst 0, 1) := by decide +kernel
theorem dL_areAges_115 : decode cL_areAges 115 = .ok (.istore 5, 2) := by decide +kernel
theorem dL_areAges_117 : decode cL_areAges 117 = .ok (.iload_n 1, 1) := by decide +kernel
theorem dL_areAges_118 : decode cL_areAges 118 = .ok (.iload 7, 2) := by decide +kernel
theorem dL_areAges_120 : decode cL_areAges 120 = .ok (.iadd, 1) := by decide +kernel
theorem dL_areAges_121 : decode cL_areAges 121 = .ok (.istore_n 1, 1) := by decide +kernel
theorem dL_areAges_122 : decode cL_areAges 122 = .ok (.iload_n 2, 1) := by decide +kernel
theorem dL_areAges_123 : decode cL_areAges 123 = .ok (.iload 8, 2) := by decide +kernel
theorem dL_areAges_125 : decode cL_areAges 125 = .ok (.iadd, 1) := by decide +kernel
theorem dL_areAges_126 : decode cL_areAges 126 = .ok (.istore_n 2, 1) := by decide +kernel
theorem dL_areAges_127 : decode cL_areAges 127 = .ok (.bipush 31, 2) := by decide +kernel
theorem dL_areAges_129 : decode cL_areAges 129 = .ok (.iload_n 3, 1) := by decide +kernel
theorem dL_areAges_130 : decode cL_areAges 130 = .ok (.imul, 1) := by decide +kernel
theorem dL_areAges_131 : decode cL_areAges 131 = .ok (.iload_n 2, 1) := by decide +kernel
theorem dL_areAges_132 : decode cL_areAges 132 = .ok (.iadd, 1) := by decide +kernel
theorem dL_areAges_133 : decode cL_areAges 133 = .ok (.istore_n 3, 1) := by decide +kernel
theorem dL_areAges_134 : decode cL_areAges 134 = .ok (.iload_n 2, 1) := by decide +kernel
theorem dL_areAges_135 : decode cL_areAges 135 = .ok (.aload_n 0, 1) := by decide +kernel
theorem dL_areAges_136 : decode cL_areAges 136 = .ok (.iload 6, 2) := by decide +kernel
theorem dL_areAges_138 : decode cL_areAges 138 = .ok (.invokevirtual 83, 3) := by decide +kernel
theorem dL_areAges_141 : decode cL_areAges 141 = .ok (.isub, 1) := by decide +kernel
theorem dL_areAges_142 : decode cL_areAges 142 = .ok (.istore 10, 2) := by decide +kernel
theorem dL_areAges_144 : decode cL_areAges 144 = .ok (.iload 5, 2) := by decide +kernel
theorem dL_areAges_146 : decode cL_areAges 146 = .ok (.ifCond .eq 51, 3) := by decide +kernel
theorem dL_areAges_149 : decode cL_areAges 149 = .ok (.aload_n 0, 1) := by decide +kernel
theorem dL_areAges_150 : decode cL_areAges 150 = .ok (.iload_n 1, 1) := by decide +kernel
theorem dL_areAges_151 : decode cL_areAges 151 = .ok (.invokevirtual 56, 3) := by decide +kernel
theorem dL_areAges_154 : decode cL_areAges 154 = .ok (.iload_n 2, 1) := by decide +kernel
theorem dL_areAges_155 : decode cL_areAges 155 = .ok (.if_icmp .ne 42, 3) := by decide +kernel
theorem dL_areAges_158 : decode cL_areAges 158 = .ok (.aload_n 0, 1) := by decide +kernel
theorem dL_areAges_159 : decode cL_areAges 159 = .ok (.iload_n 1, 1) := by decide +kernel
theorem dL_areAges_160 : decode cL_areAges 160 = .ok (.invokevirtual 86, 3) := by decide +kernel
theorem dL_areAges_163 : decode cL_areAges 163 = .ok (.iload 10, 2) := by decide +kernel
theorem dL_areAges_165 : decode cL_areAges 165 = .ok (.ifCond .ge 7, 3) := by decide +kernel
theorem dL_areAges_168 : decode cL_areAges 168 = .ok (.iconst 0, 1) := by decide +kernel
theorem dL_areAges_169 : decode cL_areAges 169 = .ok (.goto 5, 3) := by decide +kernel
theorem dL_areAges_172 : decode cL_areAges 172 = .ok (.iload 10, 2) := by decide +kernel
theorem dL_areAges_174 : decode cL_areAges 174 = .ok (.if_icmp .ne 23, 3) := by decide +kernel
theorem dL_areAges_177 : decode cL_areAges 177 = .ok (.aload_n 0, 1) := by decide +kernel
theorem dL_areAges_178 : decode cL_areAges 178 = .ok (.iload_n 1, 1) := by decide +kernel
theorem dL_areAges_179 : decode cL_areAges 179 = .ok (.iload_n 1, 1) := by decide +kernel
theorem dL_areAges_180 : decode cL_areAges 180 = .ok (.invokevirtual 89, 3) := by decide +kernel
theorem dL_areAges_183 : decode cL_areAges 183 = .ok (.iload_n 2, 1) := by decide +kernel
theorem dL_areAges_184 : decode cL_areAges 184 = .ok (.aload_n 0, 1) := by decide +kernel
theorem dL_areAges_185 : decode cL_areAges 185 = .ok (.iload_n 1, 1) := by decide +kernel
theorem dL_areAges_186 : decode cL_areAges 186 = .ok (.invokevirtual 86, 3) := by decide +kernel
theorem dL_areAges_189 : decode cL_areAges 189 = .ok (.isub, 1) := by decide +kernel
theorem dL_areAges_190 : decode cL_areAges 190 = .ok (.if_icmp .ne 7, 3) := by decide +kernel
theorem dL_areAges_193 : decode cL_areAges 193 = .ok (.iconst 1, 1) := by decide +kernel
theorem dL_areAges_194 : decode cL_areAges 194 = .ok (.goto 4, 3) := by decide +kernel
theorem dL_areAges_197 : decode cL_areAges 197 = .ok (.iconst 0, 1) := by decide +kernel
theorem dL_areAges_198 : decode cL_areAges 198 = .ok (.istore 5, 2) := by decide +kernel
theorem dL_areAges_200 : decode cL_areAges 200 = .ok (.aload_n 0, 1) := by decide +kernel
theorem dL_areAges_201 : decode cL_areAges 201 = .ok (.iload 6, 2) := by decide +kernel
theorem dL_areAges_203 : decode cL_areAges 203 = .ok (.invokevirtual 92, 3) := by decide +kernel
theorem dL_areAges_206 : decode cL_areAges 206 = .ok (.istore 11, 2) := by decide +kernel
theorem dL_areAges_208 : decode cL_areAges 208 = .ok (.iload 5, 2) := by decide +kernel
theorem dL_areAges_210 : decode cL_areAges 210 = .ok (.ifCond .eq 31, 3) := by decide +kernel
theorem dL_areAges_213 : decode cL_areAges 213 = .ok (.iload 11, 2) := by decide +kernel
theorem dL_areAges_215 : decode cL_areAges 215 = .ok (.ldc 95, 2) := by decide +kernel
theorem dL_areAges_217 : decode cL_areAges 217 = .ok (.if_icmp .eq 20, 3) := by decide +kernel
theorem dL_areAges_220 : decode cL_areAges 220 = .ok (.iload 11, 2) := by decide +kernel
theorem dL_areAges_222 : decode cL_areAges 222 = .ok (.iload 8, 2) := by decide +kernel
theorem dL_areAges_224 : decode cL_areAges 224 = .ok (.if_icmp .ge 17, 3) := by decide +kernel
theorem dL_areAges_227 : decode cL_areAges 227 = .ok (.iload 8, 2) := by decide +kernel
theorem dL_areAges_229 : decode cL_areAges 229 = .ok (.iload 11, 2) := by decide +kernel
theorem dL_areAges_231 : decode cL_areAges 231 = .ok (.isub, 1) := by decide +kernel
theorem dL_areAges_232 : decode cL_areAges 232 = .ok (.ldc 96, 2) := by decide +kernel
theorem dL_areAges_234 : decode cL_areAges 234 = .ok (.if_icmp .gt 7, 3) := by decide +kernel
theorem dL_areAges_237 : decode cL_areAges 237 = .ok (.iconst 1, 1) := by decide +kernel
theorem dL_areAges_238 : decode cL_areAges 238 = .ok (.goto 4, 3) := by decide +kernel
theorem dL_areAges_241 : decode cL_areAges 241 = .ok (.iconst 0, 1) := by decide +kernel
theorem dL_areAges_242 : decode cL_areAges 242 = .ok (.istore 5, 2) := by decide +kernel
theorem dL_areAges_244 : decode cL_areAges 244 = .ok (.aload_n 0, 1) := by decide +kernel
theorem dL_areAges_245 : decode cL_areAges 245 = .ok (.iload 6, 2) := by decide +kernel
theorem dL_areAges_247 : decode cL_areAges 247 = .ok (.invokevirtual 97, 3) := by decide +kernel
theorem dL_areAges_250 : decode cL_areAges 250 = .ok (.ldc 95, 2) := by decide +kernel
theorem dL_areAges_252 : decode cL_areAges 252 = .ok (.if_icmp .ne 8, 3) := by decide +kernel
theorem dL_areAges_255 : decode cL_areAges 255 = .ok (.iload 4, 2) := by decide +kernel
theorem dL_areAges_257 : decode cL_areAges 257 = .ok (.goto 7, 3) := by decide +kernel
theorem dL_areAges_260 : decode cL_areAges 260 = .ok (.iload 4, 2) := by decide +kernel
theorem dL_areAges_262 : decode cL_areAges 262 = .ok (.iconst 1, 1) := by decide +kernel
theorem dL_areAges_263 : decode cL_areAges 263 = .ok (.iadd, 1) := by decide +kernel
theorem dL_areAges_264 : decode cL_areAges 264 = .ok (.istore 4, 2) := by decide +kernel
theorem dL_areAges_266 : decode cL_areAges 266 = .ok (.iinc 6 1, 3) := by decide +kernel
theorem dL_areAges_269 : decode cL_areAges 269 = .ok (.goto (-253), 3) := by decide +kernel
theorem dL_areAges_272 : decode cL_areAges 272 = .ok (.iload 5, 2) := by decide +kernel
theorem dL_areAges_274 : decode cL_areAges 274 = .ok (.ifCond .eq 37, 3) := by decide +kernel
theorem dL_areAges_277 : decode cL_areAges 277 = .ok (.aload_n 0, 1) := by decide +kernel
theorem dL_areAges_278 : decode cL_areAges 278 = .ok (.invokevirtual 53, 3) := by decide +kernel
theorem dL_areAges_281 : decode cL_areAges 281 = .ok (.iload_n 1, 1) := by decide +kernel
theorem dL_areAges_282 : decode cL_areAges 282 = .ok (.if_icmp .ne 29, 3) := by decide +kernel
theorem dL_areAges_285 : decode cL_areAges 285 = .ok (.aload_n 0, 1) := by decide +kernel
theorem dL_areAges_286 : decode cL_areAges 286 = .ok (.invokevirtual 100, 3) := by decide +kernel
theorem dL_areAges_289 : decode cL_areAges 289 = .ok (.iload 4, 2) := by decide +kernel
theorem dL_areAges_291 : decode cL_areAges 291 = .ok (.if_icmp .gt 20, 3) := by decide +kernel
theorem dL_areAges_294 : decode cL_areAges 294 = .ok (.aload_n 0, 1) := by decide +kernel
theorem dL_areAges_295 : decode cL_areAges 295 = .ok (.aload_n 0, 1) := by decide +kernel
theorem dL_areAges_296 : decode cL_areAges 296 = .ok (.invokevirtual 9, 3) := by decide +kernel
theorem dL_areAges_299 : decode cL_areAges 299 = .ok (.invokevirtual 74, 3) := by decide +kernel
theorem dL_areAges_302 : decode cL_areAges 302 = .ok (.ldc 72, 2) := by decide +kernel
theorem dL_areAges_304 : decode cL_areAges 304 = .ok (.if_icmp .ne 7, 3) := by decide +kernel
theorem dL_areAges_307 : decode cL_areAges 307 = .ok (.iconst 1, 1) := by decide +kernel
theorem dL_areAges_308 : decode cL_areAges 308 = .ok (.goto 4, 3) := by decide +kernel
theorem dL_areAges_311 : decode cL_areAges 311 = .ok (.iconst 0, 1) := by decide +kernel
theorem dL_areAges_312 : decode cL_areAges 312 = .ok (.istore 5, 2) := by decide +kernel
theorem dL_areAges_314 : decode cL_areAges 314 = .ok (.iload 5, 2) := by decide +kernel
theorem dL_areAges_316 : decode cL_areAges 316 = .ok (.ifCond .eq 46, 3) := by decide +kernel
theorem dL_areAges_319 : decode cL_areAges 319 = .ok (.aload_n 0, 1) := by decide +kernel
theorem dL_areAges_320 : decode cL_areAges 320 = .ok (.invokevirtual 103, 3) := by decide +kernel
theorem dL_areAges_323 : decode cL_areAges 323 = .ok (.ldc 95, 2) := by decide +kernel
theorem dL_areAges_325 : decode cL_areAges 325 = .ok (.if_icmp .ne 7, 3) := by decide +kernel
theorem dL_areAges_328 : decode cL_areAges 328 = .ok (.iconst 1, 1) := by decide +kernel
theorem dL_areAges_329 : decode cL_areAges 329 = .ok (.goto 4, 3) := by decide +kernel
theorem dL_areAges_332 : decode cL_areAges 332 = .ok (.iconst 0, 1) := by decide +kernel
theorem dL_areAges_333 : decode cL_areAges 333 = .ok (.iload 4, 2) := by decide +kernel
theorem dL_areAges_335 : decode cL_areAges 335 = .ok (.ifCond .ne 7, 3) := by decide +kernel
theorem dL_areAges_338 : decode cL_areAges 338 = .ok (.iconst 1, 1) := by decide +kernel
theorem dL_areAges_339 : decode cL_areAges 339 = .ok (.goto 4, 3) := by decide +kernel
theorem dL_areAges_342 : decode cL_areAges 342 = .ok (.iconst 0, 1) := by decide +kernel
theorem dL_areAges_343 : decode cL_areAges 343 = .ok (.if_icmp .ne 19, 3) := by decide +kernel
theorem dL_areAges_346 : decode cL_areAges 346 = .ok (.aload_n 0, 1) := by decide +kernel
theorem dL_areAges_347 : decode cL_areAges 347 = .ok (.iload_n 1, 1) := by decide +kernel
theorem dL_areAges_348 : decode cL_areAges 348 = .ok (.iconst 1, 1) := by decide +kernel
theorem dL_areAges_349 : decode cL_areAges 349 = .ok (.iadd, 1) := by decide +kernel
theorem dL_areAges_350 : decode cL_areAges 350 = .ok (.invokevirtual 56, 3) := by decide +kernel
theorem dL_areAges_353 : decode cL_areAges 353 = .ok (.ldc 106, 2) := by decide +kernel
theorem dL_areAges_355 : decode cL_areAges 355 = .ok (.if_icmp .ne 7, 3) := by decide +kernel
theorem dL_areAges_358 : decode cL_areAges 358 = .ok (.iconst 1, 1) := by decide +kernel
theorem dL_areAges_359 : decode cL_areAges 359 = .ok (.goto 4, 3) := by decide +kernel
theorem dL_areAges_362 : decode cL_areAges 362 = .ok (.iconst 0, 1) := by decide +kernel
theorem dL_areAges_363 : decode cL_areAges 363 = .ok (.istore 5, 2) := by decide +kernel
theorem dL_areAges_365 : decode cL_areAges 365 = .ok (.iload 5, 2) := by decide +kernel
theorem dL_areAges_367 : decode cL_areAges 367 = .ok (.ifCond .eq 16, 3) := by decide +kernel
theorem dL_areAges_370 : decode cL_areAges 370 = .ok (.aload_n 0, 1) := by decide +kernel
theorem dL_areAges_371 : decode cL_areAges 371 = .ok (.invokevirtual 107, 3) := by decide +kernel
theorem dL_areAges_374 : decode cL_areAges 374 = .ok (.iload_n 3, 1) := by decide +kernel
theorem dL_areAges_375 : decode cL_areAges 375 = .ok (.i2s, 1) := by decide +kernel
theorem dL_areAges_376 : decode cL_areAges 376 = .ok (.if_icmp .ne 7, 3) := by decide +kernel
theorem dL_areAges_379 : decode cL_areAges 379 = .ok (.iconst 1, 1) := by decide +kernel
theorem dL_areAges_380 : decode cL_areAges 380 = .ok (.goto 4, 3) := by decide +kernel
theorem dL_areAges_383 : decode cL_areAges 383 = .ok (.iconst 0, 1) := by decide +kernel
theorem dL_areAges_384 : decode cL_areAges 384 = .ok (.ireturn, 1) := by decide +kernel
