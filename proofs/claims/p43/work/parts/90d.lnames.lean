set_option maxRecDepth 20000 in
theorem ggL_isDepth_X4_depthOf : GoodIn wsL_isDepth wsX4_depthOf := goodIn_r _ [6, 7, 8, 9, 10, 11, 12, 13, 14, 15, 16, 17, 18, 19, 20, 21, 22, 23, 24, 25, 26, 27, 28, 29, 30, 31, 32, 33, 34, 35, 36, 37, 38, 39, 40, 41, 42, 5, 43, 44, 45, 46, 47, 48, 49, 50, 51, 104, 105, 106, 107, 108, 109, 110, 111, 112, 113, 114, 115, 116, 117, 118, 119, 120, 121] (by decide +kernel) (by decide +kernel)
set_option maxRecDepth 20000 in
theorem gL_isDepth_X4_depthOf : GoodIn wsL_isDepth (wsV RL 110 RX4 yX4_depthOf wsX4_depthOf) := goodIn_app (goodIn_of _ (by decide +kernel)) ggL_isDepth_X4_depthOf
set_option maxRecDepth 20000 in
theorem ggL_isDepth_X4_gasDepthOf : GoodIn wsL_isDepth wsX4_gasDepthOf := goodIn_r _ [55, 7, 8, 56, 57, 58, 12, 59, 14, 18, 15, 16, 17, 60, 61, 36, 62, 19, 20, 21, 22, 23, 24, 25, 26, 27, 28, 29, 30, 31, 32, 33, 34, 35, 37, 38, 39, 40, 41, 42, 5, 43, 44, 45, 46, 47, 48, 63, 64, 65, 66, 67, 68, 49, 50, 51, 104, 105, 106, 107, 108, 109, 110, 111, 112, 113, 114, 115, 116, 117, 118, 119, 120, 121] (by decide +kernel) (by decide +kernel)
set_option maxRecDepth 20000 in
theorem gL_isDepth_X4_gasDepthOf : GoodIn wsL_isDepth (wsV RL 113 RX4 yX4_gasDepthOf wsX4_gasDepthOf) := goodIn_app (goodIn_of _ (by decide +kernel)) ggL_isDepth_X4_gasDepthOf
set_option maxRecDepth 20000 in
theorem ggL_isDepth_X4_layers : GoodIn wsL_isDepth wsX4_layers := goodIn_r _ [72, 8, 73, 104, 105, 106, 107, 108, 109, 110, 111, 112, 113, 114, 115, 116, 117, 118, 119, 120, 121] (by decide +kernel) (by decide +kernel)
set_option maxRecDepth 20000 in
theorem gL_isDepth_X4_layers : GoodIn wsL_isDepth (wsV RL 9 RX4 yX4_layers wsX4_layers) := goodIn_app (goodIn_of _ (by decide +kernel)) ggL_isDepth_X4_layers
set_option maxRecDepth 20000 in
theorem ggL_isDepth_X4_depth : GoodIn wsL_isDepth wsX4_depth := goodIn_r _ [77, 8, 78, 79, 80, 12, 81, 14, 38, 39, 40, 41, 17, 104, 105, 106, 107, 108, 109, 110, 111, 112, 113, 114, 115, 116, 117, 118, 119, 120, 121] (by decide +kernel) (by decide +kernel)
set_option maxRecDepth 20000 in
theorem gL_isDepth_X4_depth : GoodIn wsL_isDepth (wsV RL 53 RX4 yX4_depth wsX4_depth) := goodIn_app (goodIn_of _ (by decide +kernel)) ggL_isDepth_X4_depth
set_option maxRecDepth 20000 in
theorem ggL_isDepth_X4_age : GoodIn wsL_isDepth wsX4_age := goodIn_r _ [85, 8, 86, 87, 88, 5, 89, 7, 73, 90, 78, 79, 80, 12, 81, 14, 38, 39, 40, 41, 17, 91, 92, 93, 94, 15, 16, 19, 20, 21, 22, 23, 24, 25, 26, 27, 28, 29, 30, 31, 32, 33, 34, 35, 36, 37, 42, 43, 44, 45, 46, 47, 48, 104, 105, 106, 107, 108, 109, 110, 111, 112, 113, 114, 115, 116, 117, 118, 119, 120, 121] (by decide +kernel) (by decide +kernel)
set_option maxRecDepth 20000 in
theorem gL_isDepth_X4_age : GoodIn wsL_isDepth (wsV RL 56 RX4 yX4_age wsX4_age) := goodIn_app (goodIn_of _ (by decide +kernel)) ggL_isDepth_X4_age
set_option maxRecDepth 20000 in
theorem ggL_isDepth_X4_gasAge : GoodIn wsL_isDepth wsX4_gasAge := goodIn_r _ [98, 8, 86, 87, 88, 5, 89, 7, 73, 90, 78, 79, 80, 12, 81, 14, 38, 39, 40, 41, 17, 99, 100, 101, 102, 60, 61, 36, 62, 103, 92, 93, 94, 15, 16, 19, 20, 21, 22, 23, 24, 25, 26, 27, 28, 29, 30, 31, 32, 33, 34, 35, 37, 42, 43, 44, 45, 46, 47, 48, 63, 64, 65, 66, 67, 68, 104, 105, 106, 107, 108, 109, 110, 111, 112, 113, 114, 115, 116, 117, 118, 119, 120, 121] (by decide +kernel) (by decide +kernel)
set_option maxRecDepth 20000 in
theorem gL_isDepth_X4_gasAge : GoodIn wsL_isDepth (wsV RL 86 RX4 yX4_gasAge wsX4_gasAge) := goodIn_app (goodIn_of _ (by decide +kernel)) ggL_isDepth_X4_gasAge
theorem dL_isDepth_0 : decode cL_isDepth 0 = .ok (.aload_n 0, 1) := by decide +kernel
theorem dL_isDepth_1 : decode cL_isDepth 1 = .ok (.iload_n 1, 1) := by decide +kernel
theorem dL_isDepth_2 : decode cL_isDepth 2 = .ok (.invokevirtual 110, 3) := by decide +kernel
theorem dL_isDepth_5 : decode cL_isDepth 5 = .ok (.istore_n 2, 1) := by decide +kernel
theorem dL_isDepth_6 : decode cL_isDepth 6 = .ok (.aload_n 0, 1) := by decide +kernel
theorem dL_isDepth_7 : decode cL_isDepth 7 = .ok (.iload_n 1, 1) := by decide +kernel
theorem dL_isDepth_8 : decode cL_isDepth 8 = .ok (.invokevirtual 113, 3) := by decide +kernel
theorem dL_isDepth_11 : decode cL_isDepth 11 = .ok (.istore_n 3, 1) := by decide +kernel
theorem dL_isDepth_12 : decode cL_isDepth 12 = .ok (.aload_n 0, 1) := by decide +kernel
theorem dL_isDepth_13 : decode cL_isDepth 13 = .ok (.invokevirtual 9, 3) := by decide +kernel
theorem dL_isDepth_16 : decode cL_isDepth 16 = .ok (.ifCond .ne 7, 3) := by decide +kernel
theorem dL_isDepth_19 : decode cL_isDepth 19 = .ok (.iconst (-1), 1) := by decide +kernel
theorem dL_isDepth_20 : decode cL_isDepth 20 = .ok (.goto 11, 3) := by decide +kernel
theorem dL_isDepth_23 : decode cL_isDepth 23 = .ok (.aload_n 0, 1) := by decide +kernel
theorem dL_isDepth_24 : decode cL_isDepth 24 = .ok (.aload_n 0, 1) := by decide +kernel
theorem dL_isDepth_25 : decode cL_isDepth 25 = .ok (.invokevirtual 53, 3) := by decide +kernel
theorem dL_isDepth_28 : decode cL_isDepth 28 = .ok (.invokevirtual 56, 3) := by decide +kernel
theorem dL_isDepth_31 : decode cL_isDepth 31 = .ok (.istore 4, 2) := by decide +kernel
theorem dL_isDepth_33 : decode cL_isDepth 33 = .ok (.iload_n 2, 1) := by decide +kernel
theorem dL_isDepth_34 : decode cL_isDepth 34 = .ok (.ifCond .lt 35, 3) := by decide +kernel
theorem dL_isDepth_37 : decode cL_isDepth 37 = .ok (.aload_n 0, 1) := by decide +kernel
theorem dL_isDepth_38 : decode cL_isDepth 38 = .ok (.iload_n 2, 1) := by decide +kernel
theorem dL_isDepth_39 : decode cL_isDepth 39 = .ok (.invokevirtual 56, 3) := by decide +kernel
theorem dL_isDepth_42 : decode cL_isDepth 42 = .ok (.iload_n 1, 1) := by decide +kernel
theorem dL_isDepth_43 : decode cL_isDepth 43 = .ok (.if_icmp .lt 22, 3) := by decide +kernel
theorem dL_isDepth_46 : decode cL_isDepth 46 = .ok (.iload_n 2, 1) := by decide +kernel
theorem dL_isDepth_47 : decode cL_isDepth 47 = .ok (.ifCond .eq 14, 3) := by decide +kernel
theorem dL_isDepth_50 : decode cL_isDepth 50 = .ok (.aload_n 0, 1) := by decide +kernel
theorem dL_isDepth_51 : decode cL_isDepth 51 = .ok (.iload_n 2, 1) := by decide +kernel
theorem dL_isDepth_52 : decode cL_isDepth 52 = .ok (.iconst 1, 1) := by decide +kernel
theorem dL_isDepth_53 : decode cL_isDepth 53 = .ok (.isub, 1) := by decide +kernel
theorem dL_isDepth_54 : decode cL_isDepth 54 = .ok (.invokevirtual 56, 3) := by decide +kernel
theorem dL_isDepth_57 : decode cL_isDepth 57 = .ok (.iload_n 1, 1) := by decide +kernel
theorem dL_isDepth_58 : decode cL_isDepth 58 = .ok (.if_icmp .ge 7, 3) := by decide +kernel
theorem dL_isDepth_61 : decode cL_isDepth 61 = .ok (.iconst 1, 1) := by decide +kernel
theorem dL_isDepth_62 : decode cL_isDepth 62 = .ok (.goto 24, 3) := by decide +kernel
theorem dL_isDepth_65 : decode cL_isDepth 65 = .ok (.iconst 0, 1) := by decide +kernel
theorem dL_isDepth_66 : decode cL_isDepth 66 = .ok (.goto 20, 3) := by decide +kernel
theorem dL_isDepth_69 : decode cL_isDepth 69 = .ok (.iload_n 2, 1) := by decide +kernel
theorem dL_isDepth_70 : decode cL_isDepth 70 = .ok (.ldc 95, 2) := by decide +kernel
theorem dL_isDepth_72 : decode cL_isDepth 72 = .ok (.if_icmp .ne 13, 3) := by decide +kernel
theorem dL_isDepth_75 : decode cL_isDepth 75 = .ok (.iload 4, 2) := by decide +kernel
theorem dL_isDepth_77 : decode cL_isDepth 77 = .ok (.iload_n 1, 1) := by decide +kernel
theorem dL_isDepth_78 : decode cL_isDepth 78 = .ok (.if_icmp .ge 7, 3) := by decide +kernel
theorem dL_isDepth_81 : decode cL_isDepth 81 = .ok (.iconst 1, 1) := by decide +kernel
theorem dL_isDepth_82 : decode cL_isDepth 82 = .ok (.goto 4, 3) := by decide +kernel
theorem dL_isDepth_85 : decode cL_isDepth 85 = .ok (.iconst 0, 1) := by decide +kernel
theorem dL_isDepth_86 : decode cL_isDepth 86 = .ok (.istore 5, 2) := by decide +kernel
theorem dL_isDepth_88 : decode cL_isDepth 88 = .ok (.iload_n 3, 1) := by decide +kernel
theorem dL_isDepth_89 : decode cL_isDepth 89 = .ok (.ifCond .lt 76, 3) := by decide +kernel
theorem dL_isDepth_92 : decode cL_isDepth 92 = .ok (.iload 5, 2) := by decide +kernel
theorem dL_isDepth_94 : decode cL_isDepth 94 = .ok (.ifCond .eq 21, 3) := by decide +kernel
theorem dL_isDepth_97 : decode cL_isDepth 97 = .ok (.aload_n 0, 1) := by decide +kernel
theorem dL_isDepth_98 : decode cL_isDepth 98 = .ok (.iload_n 3, 1) := by decide +kernel
theorem dL_isDepth_99 : decode cL_isDepth 99 = .ok (.invokevirtual 86, 3) := by decide +kernel
theorem dL_isDepth_102 : decode cL_isDepth 102 = .ok (.iload_n 1, 1) := by decide +kernel
theorem dL_isDepth_103 : decode cL_isDepth 103 = .ok (.if_icmp .lt 12, 3) := by decide +kernel
theorem dL_isDepth_106 : decode cL_isDepth 106 = .ok (.iload_n 3, 1) := by decide +kernel
theorem dL_isDepth_107 : decode cL_isDepth 107 = .ok (.iload_n 2, 1) := by decide +kernel
theorem dL_isDepth_108 : decode cL_isDepth 108 = .ok (.if_icmp .lt 7, 3) := by decide +kernel
theorem dL_isDepth_111 : decode cL_isDepth 111 = .ok (.iconst 1, 1) := by decide +kernel
theorem dL_isDepth_112 : decode cL_isDepth 112 = .ok (.goto 4, 3) := by decide +kernel
theorem dL_isDepth_115 : decode cL_isDepth 115 = .ok (.iconst 0, 1) := by decide +kernel
theorem dL_isDepth_116 : decode cL_isDepth 116 = .ok (.istore 5, 2) := by decide +kernel
theorem dL_isDepth_118 : decode cL_isDepth 118 = .ok (.iload_n 3, 1) := by decide +kernel
theorem dL_isDepth_119 : decode cL_isDepth 119 = .ok (.iconst 1, 1) := by decide +kernel
theorem dL_isDepth_120 : decode cL_isDepth 120 = .ok (.isub, 1) := by decide +kernel
theorem dL_isDepth_121 : decode cL_isDepth 121 = .ok (.istore 6, 2) := by decide +kernel
theorem dL_isDepth_123 : decode cL_isDepth 123 = .ok (.iload 6, 2) := by decide +kernel
theorem dL_isDepth_125 : decode cL_isDepth 125 = .ok (.ifCond .lt 40, 3) := by decide +kernel
theorem dL_isDepth_128 : decode cL_isDepth 128 = .ok (.iload 6, 2) := by decide +kernel
theorem dL_isDepth_130 : decode cL_isDepth 130 = .ok (.iload_n 3, 1) := by decide +kernel
theorem dL_isDepth_131 : decode cL_isDepth 131 = .ok (.bipush 6, 2) := by decide +kernel
theorem dL_isDepth_133 : decode cL_isDepth 133 = .ok (.isub, 1) := by decide +kernel
theorem dL_isDepth_134 : decode cL_isDepth 134 = .ok (.if_icmp .le 31, 3) := by decide +kernel
theorem dL_isDepth_137 : decode cL_isDepth 137 = .ok (.iload 5, 2) := by decide +kernel
theorem dL_isDepth_139 : decode cL_isDepth 139 = .ok (.ifCond .eq 17, 3) := by decide +kernel
theorem dL_isDepth_142 : decode cL_isDepth 142 = .ok (.aload_n 0, 1) := by decide +kernel
theorem dL_isDepth_143 : decode cL_isDepth 143 = .ok (.iload 6, 2) := by decide +kernel
theorem dL_isDepth_145 : decode cL_isDepth 145 = .ok (.invokevirtual 86, 3) := by decide +kernel
theorem dL_isDepth_148 : decode cL_isDepth 148 = .ok (.iload_n 1, 1) := by decide +kernel
theorem dL_isDepth_149 : decode cL_isDepth 149 = .ok (.if_icmp .ge 7, 3) := by decide +kernel
theorem dL_isDepth_152 : decode cL_isDepth 152 = .ok (.iconst 1, 1) := by decide +kernel
theorem dL_isDepth_153 : decode cL_isDepth 153 = .ok (.goto 4, 3) := by decide +kernel
theorem dL_isDepth_156 : decode cL_isDepth 156 = .ok (.iconst 0, 1) := by decide +kernel
theorem dL_isDepth_157 : decode cL_isDepth 157 = .ok (.istore 5, 2) := by decide +kernel
theorem dL_isDepth_159 : decode cL_isDepth 159 = .ok (.iinc 6 (-1), 3) := by decide +kernel
theorem dL_isDepth_162 : decode cL_isDepth 162 = .ok (.goto (-39), 3) := by decide +kernel
theorem dL_isDepth_165 : decode cL_isDepth 165 = .ok (.iload 5, 2) := by decide +kernel
theorem dL_isDepth_167 : decode cL_isDepth 167 = .ok (.ifCond .eq 34, 3) := by decide +kernel
theorem dL_isDepth_170 : decode cL_isDepth 170 = .ok (.iload_n 3, 1) := by decide +kernel
theorem dL_isDepth_171 : decode cL_isDepth 171 = .ok (.ifCond .ge 26, 3) := by decide +kernel
theorem dL_isDepth_174 : decode cL_isDepth 174 = .ok (.iload_n 3, 1) := by decide +kernel
theorem dL_isDepth_175 : decode cL_isDepth 175 = .ok (.ldc 95, 2) := by decide +kernel
theorem dL_isDepth_177 : decode cL_isDepth 177 = .ok (.if_icmp .ne 24, 3) := by decide +kernel
theorem dL_isDepth_180 : decode cL_isDepth 180 = .ok (.iload 4, 2) := by decide +kernel
theorem dL_isDepth_182 : decode cL_isDepth 182 = .ok (.ifCond .lt 15, 3) := by decide +kernel
theorem dL_isDepth_185 : decode cL_isDepth 185 = .ok (.aload_n 0, 1) := by decide +kernel
theorem dL_isDepth_186 : decode cL_isDepth 186 = .ok (.aload_n 0, 1) := by decide +kernel
theorem dL_isDepth_187 : decode cL_isDepth 187 = .ok (.invokevirtual 53, 3) := by decide +kernel
theorem dL_isDepth_190 : decode cL_isDepth 190 = .ok (.invokevirtual 86, 3) := by decide +kernel
theorem dL_isDepth_193 : decode cL_isDepth 193 = .ok (.iload_n 1, 1) := by decide +kernel
theorem dL_isDepth_194 : decode cL_isDepth 194 = .ok (.if_icmp .ge 7, 3) := by decide +kernel
theorem dL_isDepth_197 : decode cL_isDepth 197 = .ok (.iconst 1, 1) := by decide +kernel
theorem dL_isDepth_198 : decode cL_isDepth 198 = .ok (.goto 4, 3) := by decide +kernel
theorem dL_isDepth_201 : decode cL_isDepth 201 = .ok (.iconst 0, 1) := by decide +kernel
theorem dL_isDepth_202 : decode cL_isDepth 202 = .ok (.ireturn, 1) := by decide +kernel
set_option maxRecDepth 20000 in
theorem ggL_off_X4_layers : GoodIn wsL_off wsX4_layers := goodIn_r _ [6, 7, 8, 68, 69, 70, 71, 72, 73, 74, 75, 76, 77, 78, 79, 80, 81, 82, 83, 84, 85] (by decide +kernel) (by decide +kernel)
set_option maxRecDepth 20000 in
theorem gL_off_X4_layers : GoodIn wsL_off (wsV RL 9 RX4 yX4_layers wsX4_layers) := goodIn_app (goodIn_of _ (by decide +kernel)) ggL_off_X4_layers
set_option maxRecDepth 20000 in
theorem ggL_off_X4_residual : GoodIn wsL_off wsX4_residual := goodIn_r _ [12, 7, 13, 14, 15, 16, 17, 18, 19, 20, 21, 22, 23, 24, 25, 26, 27, 28, 29, 30, 31, 32, 33, 34, 35, 36, 37, 38, 39, 40, 41, 42, 43, 44, 45, 46, 47, 48, 49, 50, 51, 52, 53, 54, 55, 56, 57, 5, 58, 59, 60, 61, 62, 63, 68, 69, 70, 71, 72, 73, 74, 75, 76, 77, 78, 79, 80, 81, 82, 83, 84, 85] (by decide +kernel) (by decide +kernel)
set_option maxRecDepth 20000 in
theorem gL_off_X4_residual : GoodIn wsL_off (wsV RL 97 RX4 yX4_residual wsX4_residual) := goodIn_app (goodIn_of _ (by decide +kernel)) ggL_off_X4_residual
set_option maxRecDepth 20000 in
theorem ggL_off_L_size : GoodIn wsL_off wsL_size := goodIn_r _ [67] (by decide +kernel) (by decide +kernel)
set_option maxRecDepth 20000 in
theorem gL_off_L_size : GoodIn wsL_off (va_wsS RL 116 yL_size wsL_size) := goodIn_app (goodIn_of _ (by decide +kernel)) ggL_off_L_size
theorem dL_off_0 : decode cL_off 0 = .ok (.iconst 0, 1) := by decide +kernel
theorem dL_off_1 : decode cL_off 1 = .ok (.istore_n 1, 1) := by decide +kernel
theorem dL_off_2 : decode cL_off 2 = .ok (.iconst 0, 1) := by decide +kernel
theorem dL_off_3 : decode cL_off 3 = .ok (.istore_n 2, 1) := by decide +kernel
theorem dL_off_4 : decode cL_off 4 = .ok (.iload_n 2, 1) := by decide +kernel
theorem dL_off_5 : decode cL_off 5 = .ok (.aload_n 0, 1) := by decide +kernel
theorem dL_off_6 : decode cL_off 6 = .ok (.invokevirtual 9, 3) := by decide +kernel
theorem dL_off_9 : decode cL_off 9 = .ok (.if_icmp .ge 35, 3) := by decide +kernel
theorem dL_off_12 : decode cL_off 12 = .ok (.aload_n 0, 1) := by decide +kernel
theorem dL_off_13 : decode cL_off 13 = .ok (.iload_n 2, 1) := by decide +kernel
theorem dL_off_14 : decode cL_off 14 = .ok (.invokevirtual 97, 3) := by decide +kernel
theorem dL_off_17 : decode cL_off 17 = .ok (.istore_n 3, 1) := by decide +kernel
theorem dL_off_18 : decode cL_off 18 = .ok (.iload_n 3, 1) := by decide +kernel
theorem dL_off_19 : decode cL_off 19 = .ok (.ldc 95, 2) := by decide +kernel
theorem dL_off_21 : decode cL_off 21 = .ok (.if_icmp .ne 7, 3) := by decide +kernel
theorem dL_off_24 : decode cL_off 24 = .ok (.iload_n 1, 1) := by decide +kernel
theorem dL_off_25 : decode cL_off 25 = .ok (.goto 12, 3) := by decide +kernel
theorem dL_off_28 : decode cL_off 28 = .ok (.iload_n 1, 1) := by decide +kernel
theorem dL_off_29 : decode cL_off 29 = .ok (.iload_n 3, 1) := by decide +kernel
theorem dL_off_30 : decode cL_off 30 = .ok (.invokestatic 116, 3) := by decide +kernel
theorem dL_off_33 : decode cL_off 33 = .ok (.bipush 16, 2) := by decide +kernel
theorem dL_off_35 : decode cL_off 35 = .ok (.idiv, 1) := by decide +kernel
theorem dL_off_36 : decode cL_off 36 = .ok (.iadd, 1) := by decide +kernel
theorem dL_off_37 : decode cL_off 37 = .ok (.istore_n 1, 1) := by decide +kernel
theorem dL_off_38 : decode cL_off 38 = .ok (.iinc 2 1, 3) := by decide +kernel
theorem dL_off_41 : decode cL_off 41 = .ok (.goto (-37), 3) := by decide +kernel
theorem dL_off_44 : decode cL_off 44 = .ok (.iload_n 1, 1) := by decide +kernel
theorem dL_off_45 : decode cL_off 45 = .ok (.ireturn, 1) := by decide +kernel
set_option maxRecDepth 20000 in
theorem ggL_isBest_X4_bestFunction : GoodIn wsL_isBest wsX4_bestFunction := goodIn_r _ [5, 6, 7, 8, 9, 10, 11, 12, 13, 14, 15, 16, 17, 18, 19, 20, 21, 22, 23, 24, 25, 26, 27, 28, 29, 30, 31, 32, 33, 34, 35, 36, 37, 38, 39, 40, 41, 42, 43, 44, 45, 46, 47, 48, 49, 50, 51, 52, 53, 54, 55, 4, 56, 57, 58, 59, 60, 61, 143, 144, 145, 146, 147, 148, 149, 150, 151, 152, 153, 154, 155, 156, 157, 158, 159, 160] (by decide +kernel) (by decide +kernel)
set_option maxRecDepth 20000 in
theorem gL_isBest_X4_bestFunction : GoodIn wsL_isBest (wsV RL 103 RX4 yX4_bestFunction wsX4_bestFunction) := goodIn_app (goodIn_of _ (by decide +kernel)) ggL_isBest_X4_bestFunction
set_option maxRecDepth 20000 in
theorem ggL_isBest_X4_setFunction : GoodIn wsL_isBest wsX4_setFunction := goodIn_r _ [65, 66, 6, 67, 68, 69, 70, 71, 72, 73, 74, 75, 76, 77, 12, 78, 14, 43, 79, 80, 81, 44, 82, 83, 84, 85, 36, 37, 42, 19, 86, 87, 88, 89, 90, 91, 92, 93, 4, 94, 95, 96, 97, 98, 99, 100, 101, 102, 103, 104, 105, 106, 107, 108, 109, 110, 143, 144, 145, 146, 147, 148, 161, 162, 163, 149, 150, 151, 152, 153, 154, 155, 156, 157, 158, 159, 160] (by decide +kernel) (by decide +kernel)
set_option maxRecDepth 20000 in
theorem gL_isBest_X4_setFunction : GoodIn wsL_isBest (wsV RL 38 RX4 yX4_setFunction wsX4_setFunction) := goodIn_app (goodIn_of _ (by decide +kernel)) ggL_isBest_X4_setFunction
set_option maxRecDepth 20000 in
theorem ggL_isBest_L_off : GoodIn wsL_isBest wsL_off := goodIn_r _ [114, 115, 116, 117, 118, 4, 119, 6, 120, 121, 122, 123, 124, 103, 7, 125, 21, 22, 12, 23, 14, 126, 16, 17, 18, 19, 20, 127, 128, 129, 130, 79, 80, 32, 33, 34, 35, 36, 37, 38, 39, 40, 41, 42, 43, 44, 45, 46, 47, 48, 49, 30, 50, 51, 52, 53, 54, 55, 56, 57, 58, 59, 60, 61, 131, 132, 113, 133, 143, 144, 145, 146, 147, 148, 149, 150, 151, 152, 153, 154, 155, 156, 157, 158, 159, 160] (by decide +kernel) (by decide +kernel)
set_option maxRecDepth 20000 in
theorem gL_isBest_L_off : GoodIn wsL_isBest (va_wsS RL 119 yL_off wsL_off) := goodIn_app (goodIn_of _ (by decide +kernel)) ggL_isBest_L_off
set_option maxRecDepth 20000 in
theorem ggL_isBest_X4_undo : GoodIn wsL_isBest wsX4_undo := goodIn_r _ [137, 66, 6, 138, 139, 140, 70, 141, 74, 142, 72, 73, 75, 76, 77, 12, 78, 14, 43, 79, 80, 81, 44, 82, 83, 84, 85, 36, 37, 42, 19, 86, 87, 143, 144, 145, 146, 147, 148, 161, 162, 163, 149, 150, 151, 152, 153, 154, 155, 156, 157, 158, 159, 160] (by decide +kernel) (by decide +kernel)
set_option maxRecDepth 20000 in
theorem gL_isBest_X4_undo : GoodIn wsL_isBest (wsV RL 123 RX4 yX4_undo wsX4_undo) := goodIn_app (goodIn_of _ (by decide +kernel)) ggL_isBest_X4_undo
theorem dL_isBest_0 : decode cL_isBest 0 = .ok (.aload_n 0, 1) := by decide +kernel
theorem dL_isBest_1 : decode cL_isBest 1 = .ok (.invokevirtual 103, 3) := by decide +kernel
theorem dL_isBest_4 : decode cL_isBest 4 = .ok (.istore_n 1, 1) := by decide +kernel
theorem dL_isBest_5 : decode cL_isBest 5 = .ok (.aload_n 0, 1) := by decide +kernel
theorem dL_isBest_6 : decode cL_isBest 6 = .ok (.iload_n 1, 1) := by decide +kernel
theorem dL_isBest_7 : decode cL_isBest 7 = .ok (.ifCond .ge 7, 3) := by decide +kernel
theorem dL_isBest_10 : decode cL_isBest 10 = .ok (.iconst 0, 1) := by decide +kernel
theorem dL_isBest_11 : decode cL_isBest 11 = .ok (.goto 4, 3) := by decide +kernel
theorem dL_isBest_14 : decode cL_isBest 14 = .ok (.iload_n 1, 1) := by decide +kernel
theorem dL_isBest_15 : decode cL_isBest 15 = .ok (.invokevirtual 38, 3) := by decide +kernel
theorem dL_isBest_18 : decode cL_isBest 18 = .ok (.istore_n 2, 1) := by decide +kernel
theorem dL_isBest_19 : decode cL_isBest 19 = .ok (.aload_n 0, 1) := by decide +kernel
theorem dL_isBest_20 : decode cL_isBest 20 = .ok (.invokestatic 119, 3) := by decide +kernel
theorem dL_isBest_23 : decode cL_isBest 23 = .ok (.istore_n 3, 1) := by decide +kernel
theorem dL_isBest_24 : decode cL_isBest 24 = .ok (.aload_n 0, 1) := by decide +kernel
theorem dL_isBest_25 : decode cL_isBest 25 = .ok (.invokevirtual 123, 3) := by decide +kernel
theorem dL_isBest_28 : decode cL_isBest 28 = .ok (.istore 4, 2) := by decide +kernel
theorem dL_isBest_30 : decode cL_isBest 30 = .ok (.iconst 1, 1) := by decide +kernel
theorem dL_isBest_31 : decode cL_isBest 31 = .ok (.istore 5, 2) := by decide +kernel
theorem dL_isBest_33 : decode cL_isBest 33 = .ok (.iconst 0, 1) := by decide +kernel
theorem dL_isBest_34 : decode cL_isBest 34 = .ok (.istore 6, 2) := by decide +kernel
theorem dL_isBest_36 : decode cL_isBest 36 = .ok (.iload 6, 2) := by decide +kernel
theorem dL_isBest_38 : decode cL_isBest 38 = .ok (.iconst 3, 1) := by decide +kernel
theorem dL_isBest_39 : decode cL_isBest 39 = .ok (.if_icmp .ge 49, 3) := by decide +kernel
theorem dL_isBest_42 : decode cL_isBest 42 = .ok (.iload_n 1, 1) := by decide +kernel
theorem dL_isBest_43 : decode cL_isBest 43 = .ok (.ifCond .lt 45, 3) := by decide +kernel
theorem dL_isBest_46 : decode cL_isBest 46 = .ok (.aload_n 0, 1) := by decide +kernel
theorem dL_isBest_47 : decode cL_isBest 47 = .ok (.iload 6, 2) := by decide +kernel
theorem dL_isBest_49 : decode cL_isBest 49 = .ok (.invokevirtual 38, 3) := by decide +kernel
theorem dL_isBest_52 : decode cL_isBest 52 = .ok (.istore_n 2, 1) := by decide +kernel
theorem dL_isBest_53 : decode cL_isBest 53 = .ok (.iload 5, 2) := by decide +kernel
theorem dL_isBest_55 : decode cL_isBest 55 = .ok (.ifCond .eq 18, 3) := by decide +kernel
theorem dL_isBest_58 : decode cL_isBest 58 = .ok (.aload_n 0, 1) := by decide +kernel
theorem dL_isBest_59 : decode cL_isBest 59 = .ok (.invokestatic 119, 3) := by decide +kernel
theorem dL_isBest_62 : decode cL_isBest 62 = .ok (.bipush 16, 2) := by decide +kernel
theorem dL_isBest_64 : decode cL_isBest 64 = .ok (.iadd, 1) := by decide +kernel
theorem dL_isBest_65 : decode cL_isBest 65 = .ok (.iload_n 3, 1) := by decide +kernel
theorem dL_isBest_66 : decode cL_isBest 66 = .ok (.if_icmp .lt 7, 3) := by decide +kernel
theorem dL_isBest_69 : decode cL_isBest 69 = .ok (.iconst 1, 1) := by decide +kernel
theorem dL_isBest_70 : decode cL_isBest 70 = .ok (.goto 4, 3) := by decide +kernel
theorem dL_isBest_73 : decode cL_isBest 73 = .ok (.iconst 0, 1) := by decide +kernel
theorem dL_isBest_74 : decode cL_isBest 74 = .ok (.istore 5, 2) := by decide +kernel
theorem dL_isBest_76 : decode cL_isBest 76 = .ok (.aload_n 0, 1) := by decide +kernel
theorem dL_isBest_77 : decode cL_isBest 77 = .ok (.invokevirtual 123, 3) := by decide +kernel
theorem dL_isBest_80 : decode cL_isBest 80 = .ok (.istore 4, 2) := by decide +kernel
theorem dL_isBest_82 : decode cL_isBest 82 = .ok (.iinc 6 1, 3) := by decide +kernel
theorem dL_isBest_85 : decode cL_isBest 85 = .ok (.goto (-49), 3) := by decide +kernel
theorem dL_isBest_88 : decode cL_isBest 88 = .ok (.iload 5, 2) := by decide +kernel
theorem dL_isBest_90 : decode cL_isBest 90 = .ok (.ifCond .eq 12, 3) := by decide +kernel
theorem dL_isBest_93 : decode cL_isBest 93 = .ok (.iload 4, 2) := by decide +kernel
theorem dL_isBest_95 : decode cL_isBest 95 = .ok (.ifCond .lt 7, 3) := by decide +kernel
theorem dL_isBest_98 : decode cL_isBest 98 = .ok (.iconst 1, 1) := by decide +kernel
theorem dL_isBest_99 : decode cL_isBest 99 = .ok (.goto 4, 3) := by decide +kernel
theorem dL_isBest_102 : decode cL_isBest 102 = .ok (.iconst 0, 1) := by decide +kernel
theorem dL_isBest_103 : decode cL_isBest 103 = .ok (.ireturn, 1) := by decide +kernel
