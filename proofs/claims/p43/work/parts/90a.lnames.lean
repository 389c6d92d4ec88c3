theorem dL_cell_0 : decode cL_cell 0 = .ok (.iload_n 1, 1) := by decide +kernel
theorem dL_cell_1 : decode cL_cell 1 = .ok (.aload_n 0, 1) := by decide +kernel
theorem dL_cell_2 : decode cL_cell 2 = .ok (.arraylength, 1) := by decide +kernel
theorem dL_cell_3 : decode cL_cell 3 = .ok (.if_icmp .ge 9, 3) := by decide +kernel
theorem dL_cell_6 : decode cL_cell 6 = .ok (.aload_n 0, 1) := by decide +kernel
theorem dL_cell_7 : decode cL_cell 7 = .ok (.iload_n 1, 1) := by decide +kernel
theorem dL_cell_8 : decode cL_cell 8 = .ok (.iaload, 1) := by decide +kernel
theorem dL_cell_9 : decode cL_cell 9 = .ok (.goto 9, 3) := by decide +kernel
theorem dL_cell_12 : decode cL_cell 12 = .ok (.ldc 7, 2) := by decide +kernel
theorem dL_cell_14 : decode cL_cell 14 = .ok (.iload_n 1, 1) := by decide +kernel
theorem dL_cell_15 : decode cL_cell 15 = .ok (.iconst 1, 1) := by decide +kernel
theorem dL_cell_16 : decode cL_cell 16 = .ok (.iadd, 1) := by decide +kernel
theorem dL_cell_17 : decode cL_cell 17 = .ok (.imul, 1) := by decide +kernel
theorem dL_cell_18 : decode cL_cell 18 = .ok (.ireturn, 1) := by decide +kernel
theorem dL_low_0 : decode cL_low 0 = .ok (.iload_n 0, 1) := by decide +kernel
theorem dL_low_1 : decode cL_low 1 = .ok (.ldc 8, 2) := by decide +kernel
theorem dL_low_3 : decode cL_low 3 = .ok (.iand, 1) := by decide +kernel
theorem dL_low_4 : decode cL_low 4 = .ok (.iload_n 1, 1) := by decide +kernel
theorem dL_low_5 : decode cL_low 5 = .ok (.irem, 1) := by decide +kernel
theorem dL_low_6 : decode cL_low 6 = .ok (.ireturn, 1) := by decide +kernel
theorem dL_size_0 : decode cL_size 0 = .ok (.iload_n 0, 1) := by decide +kernel
theorem dL_size_1 : decode cL_size 1 = .ok (.ifCond .ge 8, 3) := by decide +kernel
theorem dL_size_4 : decode cL_size 4 = .ok (.iload_n 0, 1) := by decide +kernel
theorem dL_size_5 : decode cL_size 5 = .ok (.ineg, 1) := by decide +kernel
theorem dL_size_6 : decode cL_size 6 = .ok (.goto 4, 3) := by decide +kernel
theorem dL_size_9 : decode cL_size 9 = .ok (.iload_n 0, 1) := by decide +kernel
theorem dL_size_10 : decode cL_size 10 = .ok (.ireturn, 1) := by decide +kernel
set_option maxRecDepth 20000 in
theorem ggL_change_X4_layers : GoodIn wsL_change wsX4_layers := goodIn_r _ [8, 9, 10, 286, 287, 288, 289, 290, 291, 292, 293, 294, 295, 296, 297, 298, 299, 300, 301, 302, 303] (by decide +kernel) (by decide +kernel)
set_option maxRecDepth 20000 in
theorem gL_change_X4_layers : GoodIn wsL_change (wsV RL 9 RX4 yX4_layers wsX4_layers) := goodIn_app (goodIn_of _ (by decide +kernel)) ggL_change_X4_layers
set_option maxRecDepth 20000 in
theorem ggL_change_L_low : GoodIn wsL_change wsL_low := goodIn_r _ [14, 15] (by decide +kernel) (by decide +kernel)
set_option maxRecDepth 20000 in
theorem gL_change_L_low : GoodIn wsL_change (va_wsS RL 15 yL_low wsL_low) := goodIn_app (goodIn_of _ (by decide +kernel)) ggL_change_L_low
set_option maxRecDepth 20000 in
theorem ggL_change_X4_acts : GoodIn wsL_change wsX4_acts := goodIn_r _ [19, 20, 286, 287, 288, 289, 290, 291] (by decide +kernel) (by decide +kernel)
set_option maxRecDepth 20000 in
theorem gL_change_X4_acts : GoodIn wsL_change (wsV RL 21 RX4 yX4_acts wsX4_acts) := goodIn_app (goodIn_of _ (by decide +kernel)) ggL_change_X4_acts
set_option maxRecDepth 20000 in
theorem ggL_change_X4_addLayer : GoodIn wsL_change wsX4_addLayer := goodIn_r _ [24, 25, 9, 26, 27, 28, 29, 30, 31, 32, 33, 34, 35, 36, 37, 38, 39, 40, 41, 42, 43, 44, 45, 46, 47, 48, 49, 50, 51, 52, 53, 54, 55, 56, 57, 58, 59, 60, 61, 62, 7, 63, 64, 65, 66, 67, 68, 69, 70, 71, 72, 73, 74, 75, 20, 76, 77, 78, 79, 80, 81, 82, 83, 84, 85, 86, 286, 287, 288, 289, 290, 291, 304, 305, 306, 292, 293, 294, 295, 296, 297, 298, 299, 300, 301, 302, 303] (by decide +kernel) (by decide +kernel)
set_option maxRecDepth 20000 in
theorem gL_change_X4_addLayer : GoodIn wsL_change (wsV RL 24 RX4 yX4_addLayer wsX4_addLayer) := goodIn_app (goodIn_of _ (by decide +kernel)) ggL_change_X4_addLayer
set_option maxRecDepth 20000 in
theorem ggL_change_X4_removeLowest : GoodIn wsL_change wsX4_removeLowest := goodIn_r _ [90, 25, 9, 26, 27, 28, 29, 30, 31, 32, 33, 34, 35, 36, 37, 38, 39, 40, 41, 42, 43, 44, 45, 46, 47, 48, 49, 50, 51, 52, 53, 54, 91, 92, 93, 94, 60, 72, 73, 74, 7, 75, 20, 76, 77, 78, 79, 80, 81, 82, 83, 84, 85, 86, 286, 287, 288, 289, 290, 291, 304, 305, 306, 292, 293, 294, 295, 296, 297, 298, 299, 300, 301, 302, 303] (by decide +kernel) (by decide +kernel)
set_option maxRecDepth 20000 in
theorem gL_change_X4_removeLowest : GoodIn wsL_change (wsV RL 27 RX4 yX4_removeLowest wsX4_removeLowest) := goodIn_app (goodIn_of _ (by decide +kernel)) ggL_change_X4_removeLowest
set_option maxRecDepth 20000 in
theorem ggL_change_X4_divide : GoodIn wsL_change wsX4_divide := goodIn_r _ [98, 25, 9, 26, 27, 28, 29, 30, 31, 32, 33, 34, 35, 36, 37, 38, 39, 40, 41, 42, 43, 44, 45, 46, 47, 48, 49, 50, 51, 52, 53, 54, 99, 100, 101, 102, 103, 59, 61, 104, 105, 106, 107, 62, 7, 63, 108, 109, 110, 111, 72, 73, 74, 75, 20, 76, 77, 78, 79, 80, 81, 82, 83, 84, 85, 86, 286, 287, 288, 289, 290, 291, 304, 305, 306, 292, 293, 294, 295, 296, 297, 298, 299, 300, 301, 302, 303] (by decide +kernel) (by decide +kernel)
set_option maxRecDepth 20000 in
theorem gL_change_X4_divide : GoodIn wsL_change (wsV RL 30 RX4 yX4_divide wsX4_divide) := goodIn_app (goodIn_of _ (by decide +kernel)) ggL_change_X4_divide
set_option maxRecDepth 20000 in
theorem ggL_change_X4_setBed : GoodIn wsL_change wsX4_setBed := goodIn_r _ [115, 25, 9, 26, 27, 28, 29, 30, 31, 32, 33, 34, 35, 36, 37, 38, 39, 40, 41, 42, 43, 44, 45, 46, 47, 48, 49, 50, 51, 52, 53, 54, 116, 117, 118, 119, 120, 59, 60, 62, 7, 63, 64, 65, 66, 67, 68, 69, 70, 71, 72, 73, 74, 75, 20, 76, 77, 78, 79, 80, 81, 82, 83, 84, 85, 86, 286, 287, 288, 289, 290, 291, 304, 305, 306, 292, 293, 294, 295, 296, 297, 298, 299, 300, 301, 302, 303] (by decide +kernel) (by decide +kernel)
set_option maxRecDepth 20000 in
theorem gL_change_X4_setBed : GoodIn wsL_change (wsV RL 34 RX4 yX4_setBed wsX4_setBed) := goodIn_app (goodIn_of _ (by decide +kernel)) ggL_change_X4_setBed
set_option maxRecDepth 20000 in
theorem ggL_change_X4_setFunction : GoodIn wsL_change wsX4_setFunction := goodIn_r _ [124, 25, 9, 26, 27, 28, 29, 30, 31, 32, 33, 34, 35, 36, 37, 38, 39, 40, 41, 42, 43, 44, 45, 46, 47, 48, 49, 50, 51, 52, 53, 54, 125, 126, 127, 128, 59, 62, 7, 63, 72, 73, 74, 75, 20, 76, 77, 78, 79, 80, 81, 82, 83, 84, 85, 86, 286, 287, 288, 289, 290, 291, 304, 305, 306, 292, 293, 294, 295, 296, 297, 298, 299, 300, 301, 302, 303] (by decide +kernel) (by decide +kernel)
set_option maxRecDepth 20000 in
theorem gL_change_X4_setFunction : GoodIn wsL_change (wsV RL 38 RX4 yX4_setFunction wsX4_setFunction) := goodIn_app (goodIn_of _ (by decide +kernel)) ggL_change_X4_setFunction
set_option maxRecDepth 20000 in
theorem ggL_change_X4_setKink : GoodIn wsL_change wsX4_setKink := goodIn_r _ [132, 25, 9, 26, 27, 28, 29, 30, 31, 32, 33, 34, 35, 36, 37, 38, 39, 40, 41, 42, 43, 44, 45, 46, 47, 48, 49, 50, 51, 52, 53, 54, 133, 134, 135, 136, 59, 62, 7, 63, 72, 73, 74, 75, 20, 76, 77, 78, 79, 80, 81, 82, 83, 84, 85, 86, 286, 287, 288, 289, 290, 291, 304, 305, 306, 292, 293, 294, 295, 296, 297, 298, 299, 300, 301, 302, 303] (by decide +kernel) (by decide +kernel)
set_option maxRecDepth 20000 in
theorem gL_change_X4_setKink : GoodIn wsL_change (wsV RL 41 RX4 yX4_setKink wsX4_setKink) := goodIn_app (goodIn_of _ (by decide +kernel)) ggL_change_X4_setKink
set_option maxRecDepth 20000 in
theorem ggL_change_X4_tellThinning : GoodIn wsL_change wsX4_tellThinning := goodIn_r _ [140, 25, 9, 26, 27, 28, 29, 30, 31, 32, 33, 34, 35, 36, 37, 38, 39, 40, 41, 42, 43, 44, 45, 46, 47, 48, 49, 50, 51, 52, 53, 54, 141, 142, 143, 144, 103, 59, 104, 105, 106, 107, 62, 7, 63, 72, 73, 74, 75, 20, 76, 77, 78, 79, 80, 81, 82, 83, 84, 85, 86, 286, 287, 288, 289, 290, 291, 304, 305, 306, 292, 293, 294, 295, 296, 297, 298, 299, 300, 301, 302, 303] (by decide +kernel) (by decide +kernel)
set_option maxRecDepth 20000 in
theorem gL_change_X4_tellThinning : GoodIn wsL_change (wsV RL 44 RX4 yX4_tellThinning wsX4_tellThinning) := goodIn_app (goodIn_of _ (by decide +kernel)) ggL_change_X4_tellThinning
set_option maxRecDepth 20000 in
theorem ggL_change_X4_correct : GoodIn wsL_change wsX4_correct := goodIn_r _ [148, 25, 9, 26, 27, 28, 29, 30, 31, 32, 33, 34, 35, 36, 37, 38, 39, 40, 41, 42, 43, 44, 45, 46, 47, 48, 49, 50, 51, 52, 53, 54, 149, 150, 151, 152, 103, 59, 104, 105, 106, 107, 62, 7, 63, 72, 73, 74, 75, 20, 76, 77, 78, 79, 80, 81, 82, 83, 84, 85, 86, 286, 287, 288, 289, 290, 291, 304, 305, 306, 292, 293, 294, 295, 296, 297, 298, 299, 300, 301, 302, 303] (by decide +kernel) (by decide +kernel)
set_option maxRecDepth 20000 in
theorem gL_change_X4_correct : GoodIn wsL_change (wsV RL 47 RX4 yX4_correct wsX4_correct) := goodIn_app (goodIn_of _ (by decide +kernel)) ggL_change_X4_correct
set_option maxRecDepth 20000 in
theorem ggL_change_X4_setCloseOff : GoodIn wsL_change wsX4_setCloseOff := goodIn_r _ [156, 25, 9, 26, 27, 28, 29, 30, 31, 32, 33, 34, 35, 36, 37, 38, 39, 40, 41, 42, 43, 44, 45, 46, 47, 48, 49, 50, 51, 52, 53, 54, 157, 158, 159, 160, 59, 62, 7, 63, 72, 73, 74, 75, 20, 76, 77, 78, 79, 80, 81, 82, 83, 84, 85, 86, 286, 287, 288, 289, 290, 291, 304, 305, 306, 292, 293, 294, 295, 296, 297, 298, 299, 300, 301, 302, 303] (by decide +kernel) (by decide +kernel)
set_option maxRecDepth 20000 in
theorem gL_change_X4_setCloseOff : GoodIn wsL_change (wsV RL 50 RX4 yX4_setCloseOff wsX4_setCloseOff) := goodIn_app (goodIn_of _ (by decide +kernel)) ggL_change_X4_setCloseOff
set_option maxRecDepth 20000 in
theorem ggL_change_X4_depth : GoodIn wsL_change wsX4_depth := goodIn_r _ [164, 9, 165, 65, 66, 37, 67, 39, 68, 69, 70, 71, 44, 286, 287, 288, 289, 290, 291, 292, 293, 294, 295, 296, 297, 298, 299, 300, 301, 302, 303] (by decide +kernel) (by decide +kernel)
set_option maxRecDepth 20000 in
theorem gL_change_X4_depth : GoodIn wsL_change (wsV RL 53 RX4 yX4_depth wsX4_depth) := goodIn_app (goodIn_of _ (by decide +kernel)) ggL_change_X4_depth
set_option maxRecDepth 20000 in
theorem ggL_change_X4_age : GoodIn wsL_change wsX4_age := goodIn_r _ [169, 9, 170, 171, 172, 7, 173, 80, 10, 81, 165, 65, 66, 37, 67, 39, 68, 69, 70, 71, 44, 174, 175, 176, 177, 41, 42, 178, 179, 180, 181, 49, 50, 182, 183, 184, 185, 51, 40, 186, 187, 188, 189, 190, 191, 192, 193, 194, 195, 196, 197, 198, 199, 286, 287, 288, 289, 290, 291, 292, 293, 294, 295, 296, 297, 298, 299, 300, 301, 302, 303] (by decide +kernel) (by decide +kernel)
set_option maxRecDepth 20000 in
theorem gL_change_X4_age : GoodIn wsL_change (wsV RL 56 RX4 yX4_age wsX4_age) := goodIn_app (goodIn_of _ (by decide +kernel)) ggL_change_X4_age
set_option maxRecDepth 20000 in
theorem ggL_change_X4_setAsh : GoodIn wsL_change wsX4_setAsh := goodIn_r _ [203, 25, 9, 26, 27, 28, 29, 30, 31, 32, 33, 34, 35, 36, 37, 38, 39, 40, 41, 42, 43, 44, 45, 46, 47, 48, 49, 50, 51, 52, 53, 54, 204, 205, 206, 207, 103, 208, 59, 104, 105, 106, 107, 62, 7, 63, 209, 210, 211, 212, 213, 214, 215, 216, 72, 73, 74, 75, 20, 76, 77, 78, 79, 80, 81, 82, 83, 84, 85, 86, 286, 287, 288, 289, 290, 291, 304, 305, 306, 292, 293, 294, 295, 296, 297, 298, 299, 300, 301, 302, 303] (by decide +kernel) (by decide +kernel)
set_option maxRecDepth 20000 in
theorem gL_change_X4_setAsh : GoodIn wsL_change (wsV RL 59 RX4 yX4_setAsh wsX4_setAsh) := goodIn_app (goodIn_of _ (by decide +kernel)) ggL_change_X4_setAsh
set_option maxRecDepth 20000 in
theorem ggL_change_X4_setCount : GoodIn wsL_change wsX4_setCount := goodIn_r _ [220, 25, 9, 26, 27, 28, 29, 30, 31, 32, 33, 34, 35, 36, 37, 38, 39, 40, 41, 42, 43, 44, 45, 46, 47, 48, 49, 50, 51, 52, 53, 54, 221, 222, 223, 224, 103, 225, 59, 104, 105, 106, 107, 62, 7, 63, 226, 227, 228, 229, 178, 179, 180, 181, 182, 183, 184, 185, 186, 187, 188, 189, 190, 191, 192, 68, 69, 70, 71, 193, 194, 195, 196, 197, 198, 199, 72, 73, 74, 75, 20, 76, 77, 78, 79, 80, 81, 82, 83, 84, 85, 86, 286, 287, 288, 289, 290, 291, 304, 305, 306, 292, 293, 294, 295, 296, 297, 298, 299, 300, 301, 302, 303] (by decide +kernel) (by decide +kernel)
set_option maxRecDepth 20000 in
theorem gL_change_X4_setCount : GoodIn wsL_change (wsV RL 63 RX4 yX4_setCount wsX4_setCount) := goodIn_app (goodIn_of _ (by decide +kernel)) ggL_change_X4_setCount
set_option maxRecDepth 20000 in
theorem ggL_change_X4_removeAsh : GoodIn wsL_change wsX4_removeAsh := goodIn_r _ [233, 25, 9, 26, 27, 28, 29, 30, 31, 32, 33, 34, 35, 36, 37, 38, 39, 40, 41, 42, 43, 44, 45, 46, 47, 48, 49, 50, 51, 52, 53, 54, 234, 235, 236, 237, 103, 60, 104, 105, 106, 107, 213, 214, 215, 216, 209, 210, 211, 212, 72, 73, 74, 7, 75, 20, 76, 77, 78, 79, 80, 81, 82, 83, 84, 85, 86, 286, 287, 288, 289, 290, 291, 304, 305, 306, 292, 293, 294, 295, 296, 297, 298, 299, 300, 301, 302, 303] (by decide +kernel) (by decide +kernel)
set_option maxRecDepth 20000 in
theorem gL_change_X4_removeAsh : GoodIn wsL_change (wsV RL 66 RX4 yX4_removeAsh wsX4_removeAsh) := goodIn_app (goodIn_of _ (by decide +kernel)) ggL_change_X4_removeAsh
set_option maxRecDepth 100000 in
theorem ggL_change_X4_tune_h : GoodIn wsL_change [.code yX4_tune cX4_tune 1 (some .int)] := goodIn_r _ [241] rfl (by decide +kernel)
set_option maxRecDepth 100000 in
theorem ggL_change_X4_tune_wsX4_tune_r1 : GoodIn wsL_change wsX4_tune_r1 := goodIn_r _ [25, 9, 242, 26, 27, 28, 29, 30, 31, 32, 33, 34, 35, 36, 37, 38, 39, 40, 41, 42, 43, 44, 45, 46] rfl (by decide +kernel)
set_option maxRecDepth 100000 in
theorem ggL_change_X4_tune_wsX4_tune_r2 : GoodIn wsL_change wsX4_tune_r2 := goodIn_r _ [47, 48, 49, 50, 51, 52, 53, 54, 243, 244, 245, 246, 60, 247, 248, 249, 250, 213, 214, 215, 216, 104, 105, 106] rfl (by decide +kernel)
set_option maxRecDepth 100000 in
theorem ggL_change_X4_tune_wsX4_tune_r3 : GoodIn wsL_change wsX4_tune_r3 := goodIn_r _ [107, 209, 210, 211, 212, 251, 252, 253, 254, 255, 256, 257, 258, 259, 260, 195, 196, 197, 198, 199, 182, 183, 184, 185] rfl (by decide +kernel)
set_option maxRecDepth 100000 in
theorem ggL_change_X4_tune_wsX4_tune_r4 : GoodIn wsL_change wsX4_tune_r4 := goodIn_r _ [186, 187, 188, 189, 190, 191, 192, 68, 69, 70, 71, 193, 7, 194, 261, 262, 263, 264, 265, 266, 267, 268, 269, 270] rfl (by decide +kernel)
set_option maxRecDepth 100000 in
theorem ggL_change_X4_tune_wsX4_tune_r5 : GoodIn wsL_change wsX4_tune_r5 := goodIn_r _ [271, 272, 273, 274, 275, 276, 277, 278, 279, 280, 281, 282, 283, 284, 285, 178, 179, 180, 181, 72, 73, 74, 75, 20] rfl (by decide +kernel)
set_option maxRecDepth 100000 in
theorem ggL_change_X4_tune_wsX4_tune_r6 : GoodIn wsL_change wsX4_tune_r6 := goodIn_r _ [76, 77, 78, 79, 80, 81, 82, 83, 84, 85, 86] rfl (by decide +kernel)
set_option maxRecDepth 100000 in
theorem ggL_change_X4_tune_wsX40 : GoodIn wsL_change wsX40 := goodIn_r _ [286, 287, 288, 289, 290, 291] rfl (by decide +kernel)
set_option maxRecDepth 100000 in
theorem ggL_change_X4_tune_wsX20 : GoodIn wsL_change wsX20 := goodIn_r _ [304, 305, 306] rfl (by decide +kernel)
set_option maxRecDepth 100000 in
theorem ggL_change_X4_tune_wsX00 : GoodIn wsL_change wsX00 := goodIn_r _ [292, 293, 294, 295, 296, 297, 298, 299, 300, 301, 302, 303] rfl (by decide +kernel)
set_option maxRecDepth 100000 in
theorem ggL_change_X4_tune_wsX10 : GoodIn wsL_change wsX10 := goodIn_r _ [307, 308, 309] rfl (by decide +kernel)
theorem ggL_change_X4_tune : GoodIn wsL_change wsX4_tune := by
  intro w h
  unfold wsX4_tune at h
  rcases List.mem_cons.mp h with h | h
  · exact ggL_change_X4_tune_h w (List.mem_singleton.mpr h)
  · simp only [List.mem_append, or_assoc] at h
    rcases h with h | h | h | h | h | h | h | h | h | h
    · exact ggL_change_X4_tune_wsX4_tune_r1 w h
    · exact ggL_change_X4_tune_wsX4_tune_r2 w h
    · exact ggL_change_X4_tune_wsX4_tune_r3 w h
    · exact ggL_change_X4_tune_wsX4_tune_r4 w h
    · exact ggL_change_X4_tune_wsX4_tune_r5 w h
    · exact ggL_change_X4_tune_wsX4_tune_r6 w h
    · exact ggL_change_X4_tune_wsX40 w h
    · exact ggL_change_X4_tune_wsX20 w h
    · exact ggL_change_X4_tune_wsX00 w h
    · exact ggL_change_X4_tune_wsX10 w h
set_option maxRecDepth 20000 in
theorem gL_change_X4_tune : GoodIn wsL_change (wsV RL 69 RX4 yX4_tune wsX4_tune) := goodIn_app (goodIn_of _ (by decide +kernel)) ggL_change_X4_tune
theorem dL_change_0 : decode cL_change 0 = .ok (.aload_n 0, 1) := by decide +kernel
theorem dL_change_1 : decode cL_change 1 = .ok (.invokevirtual 9, 3) := by decide +kernel
theorem dL_change_4 : decode cL_change 4 = .ok (.istore 4, 2) := by decide +kernel
theorem dL_change_6 : decode cL_change 6 = .ok (.iload 4, 2) := by decide +kernel
theorem dL_change_8 : decode cL_change 8 = .ok (.ifCond .ne 7, 3) := by decide +kernel
theorem dL_change_11 : decode cL_change 11 = .ok (.iconst 0, 1) := by decide +kernel
theorem dL_change_12 : decode cL_change 12 = .ok (.goto 12, 3) := by decide +kernel
theorem dL_change_15 : decode cL_change 15 = .ok (.iload_n 2, 1) := by decide +kernel
theorem dL_change_16 : decode cL_change 16 = .ok (.bipush 6, 2) := by decide +kernel
theorem dL_change_18 : decode cL_change 18 = .ok (.ishr, 1) := by decide +kernel
theorem dL_change_19 : decode cL_change 19 = .ok (.iload 4, 2) := by decide +kernel
theorem dL_change_21 : decode cL_change 21 = .ok (.invokestatic 15, 3) := by decide +kernel
theorem dL_change_24 : decode cL_change 24 = .ok (.istore 5, 2) := by decide +kernel
theorem dL_change_26 : decode cL_change 26 = .ok (.aload_n 0, 1) := by decide +kernel
theorem dL_change_27 : decode cL_change 27 = .ok (.invokevirtual 21, 3) := by decide +kernel
theorem dL_change_30 : decode cL_change 30 = .ok (.istore 6, 2) := by decide +kernel
theorem dL_change_32 : decode cL_change 32 = .ok (.iload_n 2, 1) := by decide +kernel
theorem dL_change_33 : decode cL_change 33 = .ok (.bipush 14, 2) := by decide +kernel
theorem dL_change_35 : decode cL_change 35 = .ok (.invokestatic 15, 3) := by decide +kernel
theorem dL_change_38 : decode cL_change 38 = .ok (.tableswitch 336 0 12 #[66, 66, 66, 113, 122, 142, 177, 191, 207, 228, 250, 266, 316], 66) := by decide +kernel
theorem dL_change_104 : decode cL_change 104 = .ok (.aload_n 0, 1) := by decide +kernel
theorem dL_change_105 : decode cL_change 105 = .ok (.iconst 1, 1) := by decide +kernel
theorem dL_change_106 : decode cL_change 106 = .ok (.iload_n 3, 1) := by decide +kernel
theorem dL_change_107 : decode cL_change 107 = .ok (.iload_n 2, 1) := by decide +kernel
theorem dL_change_108 : decode cL_change 108 = .ok (.iconst 5, 1) := by decide +kernel
theorem dL_change_109 : decode cL_change 109 = .ok (.ishr, 1) := by decide +kernel
theorem dL_change_110 : decode cL_change 110 = .ok (.iconst 3, 1) := by decide +kernel
theorem dL_change_111 : decode cL_change 111 = .ok (.invokestatic 15, 3) := by decide +kernel
theorem dL_change_114 : decode cL_change 114 = .ok (.ifCond .ne 9, 3) := by decide +kernel
theorem dL_change_117 : decode cL_change 117 = .ok (.sipush 5000, 3) := by decide +kernel
theorem dL_change_120 : decode cL_change 120 = .ok (.goto 6, 3) := by decide +kernel
theorem dL_change_123 : decode cL_change 123 = .ok (.sipush 300, 3) := by decide +kernel
theorem dL_change_126 : decode cL_change 126 = .ok (.invokestatic 15, 3) := by decide +kernel
theorem dL_change_129 : decode cL_change 129 = .ok (.iadd, 1) := by decide +kernel
theorem dL_change_130 : decode cL_change 130 = .ok (.bipush 10, 2) := by decide +kernel
theorem dL_change_132 : decode cL_change 132 = .ok (.iload_n 3, 1) := by decide +kernel
theorem dL_change_133 : decode cL_change 133 = .ok (.bipush 13, 2) := by decide +kernel
theorem dL_change_135 : decode cL_change 135 = .ok (.ishr, 1) := by decide +kernel
theorem dL_change_136 : decode cL_change 136 = .ok (.sipush 1991, 3) := by decide +kernel
theorem dL_change_139 : decode cL_change 139 = .ok (.invokestatic 15, 3) := by decide +kernel
theorem dL_change_142 : decode cL_change 142 = .ok (.iadd, 1) := by decide +kernel
theorem dL_change_143 : decode cL_change 143 = .ok (.invokevirtual 24, 3) := by decide +kernel
theorem dL_change_146 : decode cL_change 146 = .ok (.istore 7, 2) := by decide +kernel
theorem dL_change_148 : decode cL_change 148 = .ok (.goto 249, 3) := by decide +kernel
theorem dL_change_151 : decode cL_change 151 = .ok (.aload_n 0, 1) := by decide +kernel
theorem dL_change_152 : decode cL_change 152 = .ok (.invokevirtual 27, 3) := by decide +kernel
theorem dL_change_155 : decode cL_change 155 = .ok (.istore 7, 2) := by decide +kernel
theorem dL_change_157 : decode cL_change 157 = .ok (.goto 240, 3) := by decide +kernel
theorem dL_change_160 : decode cL_change 160 = .ok (.aload_n 0, 1) := by decide +kernel
theorem dL_change_161 : decode cL_change 161 = .ok (.iload 5, 2) := by decide +kernel
theorem dL_change_163 : decode cL_change 163 = .ok (.iconst 1, 1) := by decide +kernel
theorem dL_change_164 : decode cL_change 164 = .ok (.iload_n 3, 1) := by decide +kernel
theorem dL_change_165 : decode cL_change 165 = .ok (.sipush 200, 3) := by decide +kernel
theorem dL_change_168 : decode cL_change 168 = .ok (.invokestatic 15, 3) := by decide +kernel
theorem dL_change_171 : decode cL_change 171 = .ok (.iadd, 1) := by decide +kernel
theorem dL_change_172 : decode cL_change 172 = .ok (.invokevirtual 30, 3) := by decide +kernel
theorem dL_change_175 : decode cL_change 175 = .ok (.istore 7, 2) := by decide +kernel
theorem dL_change_177 : decode cL_change 177 = .ok (.goto 220, 3) := by decide +kernel
theorem dL_change_180 : decode cL_change 180 = .ok (.aload_n 0, 1) := by decide +kernel
theorem dL_change_181 : decode cL_change 181 = .ok (.sipush 1000, 3) := by decide +kernel
theorem dL_change_184 : decode cL_change 184 = .ok (.iload_n 3, 1) := by decide +kernel
theorem dL_change_185 : decode cL_change 185 = .ok (.iload_n 2, 1) := by decide +kernel
theorem dL_change_186 : decode cL_change 186 = .ok (.iconst 5, 1) := by decide +kernel
theorem dL_change_187 : decode cL_change 187 = .ok (.ishr, 1) := by decide +kernel
theorem dL_change_188 : decode cL_change 188 = .ok (.iconst 2, 1) := by decide +kernel
theorem dL_change_189 : decode cL_change 189 = .ok (.invokestatic 15, 3) := by decide +kernel
theorem dL_change_192 : decode cL_change 192 = .ok (.ifCond .ne 9, 3) := by decide +kernel
theorem dL_change_195 : decode cL_change 195 = .ok (.sipush 5000, 3) := by decide +kernel
theorem dL_change_198 : decode cL_change 198 = .ok (.goto 5, 3) := by decide +kernel
theorem dL_change_201 : decode cL_change 201 = .ok (.ldc 33, 2) := by decide +kernel
theorem dL_change_203 : decode cL_change 203 = .ok (.invokestatic 15, 3) := by decide +kernel
theorem dL_change_206 : decode cL_change 206 = .ok (.iadd, 1) := by decide +kernel
theorem dL_change_207 : decode cL_change 207 = .ok (.invokevirtual 34, 3) := by decide +kernel
theorem dL_change_210 : decode cL_change 210 = .ok (.istore 7, 2) := by decide +kernel
theorem dL_change_212 : decode cL_change 212 = .ok (.goto 185, 3) := by decide +kernel
theorem dL_change_215 : decode cL_change 215 = .ok (.aload_n 0, 1) := by decide +kernel
theorem dL_change_216 : decode cL_change 216 = .ok (.iload_n 3, 1) := by decide +kernel
theorem dL_change_217 : decode cL_change 217 = .ok (.iconst 3, 1) := by decide +kernel
theorem dL_change_218 : decode cL_change 218 = .ok (.invokestatic 15, 3) := by decide +kernel
theorem dL_change_221 : decode cL_change 221 = .ok (.invokevirtual 38, 3) := by decide +kernel
theorem dL_change_224 : decode cL_change 224 = .ok (.istore 7, 2) := by decide +kernel
theorem dL_change_226 : decode cL_change 226 = .ok (.goto 171, 3) := by decide +kernel
theorem dL_change_229 : decode cL_change 229 = .ok (.aload_n 0, 1) := by decide +kernel
theorem dL_change_230 : decode cL_change 230 = .ok (.iload_n 3, 1) := by decide +kernel
theorem dL_change_231 : decode cL_change 231 = .ok (.sipush 901, 3) := by decide +kernel
theorem dL_change_234 : decode cL_change 234 = .ok (.invokestatic 15, 3) := by decide +kernel
theorem dL_change_237 : decode cL_change 237 = .ok (.invokevirtual 41, 3) := by decide +kernel
theorem dL_change_240 : decode cL_change 240 = .ok (.istore 7, 2) := by decide +kernel
theorem dL_change_242 : decode cL_change 242 = .ok (.goto 155, 3) := by decide +kernel
theorem dL_change_245 : decode cL_change 245 = .ok (.aload_n 0, 1) := by decide +kernel
theorem dL_change_246 : decode cL_change 246 = .ok (.iload 5, 2) := by decide +kernel
theorem dL_change_248 : decode cL_change 248 = .ok (.bipush 10, 2) := by decide +kernel
theorem dL_change_250 : decode cL_change 250 = .ok (.iload_n 3, 1) := by decide +kernel
theorem dL_change_251 : decode cL_change 251 = .ok (.sipush 991, 3) := by decide +kernel
theorem dL_change_254 : decode cL_change 254 = .ok (.invokestatic 15, 3) := by decide +kernel
theorem dL_change_257 : decode cL_change 257 = .ok (.iadd, 1) := by decide +kernel
theorem dL_change_258 : decode cL_change 258 = .ok (.invokevirtual 44, 3) := by decide +kernel
theorem dL_change_261 : decode cL_change 261 = .ok (.istore 7, 2) := by decide +kernel
theorem dL_change_263 : decode cL_change 263 = .ok (.goto 134, 3) := by decide +kernel
theorem dL_change_266 : decode cL_change 266 = .ok (.aload_n 0, 1) := by decide +kernel
theorem dL_change_267 : decode cL_change 267 = .ok (.iload 5, 2) := by decide +kernel
theorem dL_change_269 : decode cL_change 269 = .ok (.sipush 200, 3) := by decide +kernel
theorem dL_change_272 : decode cL_change 272 = .ok (.iload_n 3, 1) := by decide +kernel
theorem dL_change_273 : decode cL_change 273 = .ok (.sipush 4801, 3) := by decide +kernel
theorem dL_change_276 : decode cL_change 276 = .ok (.invokestatic 15, 3) := by decide +kernel
theorem dL_change_279 : decode cL_change 279 = .ok (.iadd, 1) := by decide +kernel
theorem dL_change_280 : decode cL_change 280 = .ok (.invokevirtual 47, 3) := by decide +kernel
theorem dL_change_283 : decode cL_change 283 = .ok (.istore 7, 2) := by decide +kernel
theorem dL_change_285 : decode cL_change 285 = .ok (.goto 112, 3) := by decide +kernel
theorem dL_change_288 : decode cL_change 288 = .ok (.aload_n 0, 1) := by decide +kernel
theorem dL_change_289 : decode cL_change 289 = .ok (.iload_n 3, 1) := by decide +kernel
theorem dL_change_290 : decode cL_change 290 = .ok (.sipush 15001, 3) := by decide +kernel
theorem dL_change_293 : decode cL_change 293 = .ok (.invokestatic 15, 3) := by decide +kernel
theorem dL_change_296 : decode cL_change 296 = .ok (.invokevirtual 50, 3) := by decide +kernel
theorem dL_change_299 : decode cL_change 299 = .ok (.istore 7, 2) := by decide +kernel
theorem dL_change_301 : decode cL_change 301 = .ok (.goto 96, 3) := by decide +kernel
theorem dL_change_304 : decode cL_change 304 = .ok (.iload 4, 2) := by decide +kernel
theorem dL_change_306 : decode cL_change 306 = .ok (.ifCond .ne 7, 3) := by decide +kernel
theorem dL_change_309 : decode cL_change 309 = .ok (.iconst 0, 1) := by decide +kernel
theorem dL_change_310 : decode cL_change 310 = .ok (.goto 11, 3) := by decide +kernel
theorem dL_change_313 : decode cL_change 313 = .ok (.aload_n 0, 1) := by decide +kernel
theorem dL_change_314 : decode cL_change 314 = .ok (.aload_n 0, 1) := by decide +kernel
theorem dL_change_315 : decode cL_change 315 = .ok (.invokevirtual 53, 3) := by decide +kernel
theorem dL_change_318 : decode cL_change 318 = .ok (.invokevirtual 56, 3) := by decide +kernel
theorem dL_change_321 : decode cL_change 321 = .ok (.istore 8, 2) := by decide +kernel
theorem dL_change_323 : decode cL_change 323 = .ok (.aload_n 0, 1) := by decide +kernel
theorem dL_change_324 : decode cL_change 324 = .ok (.iload 5, 2) := by decide +kernel
theorem dL_change_326 : decode cL_change 326 = .ok (.iload_n 3, 1) := by decide +kernel
theorem dL_change_327 : decode cL_change 327 = .ok (.iload 8, 2) := by decide +kernel
theorem dL_change_329 : decode cL_change 329 = .ok (.sipush 1000, 3) := by decide +kernel
theorem dL_change_332 : decode cL_change 332 = .ok (.iadd, 1) := by decide +kernel
theorem dL_change_333 : decode cL_change 333 = .ok (.invokestatic 15, 3) := by decide +kernel
theorem dL_change_336 : decode cL_change 336 = .ok (.iload_n 3, 1) := by decide +kernel
theorem dL_change_337 : decode cL_change 337 = .ok (.bipush 9, 2) := by decide +kernel
theorem dL_change_339 : decode cL_change 339 = .ok (.ishr, 1) := by decide +kernel
theorem dL_change_340 : decode cL_change 340 = .ok (.sipush 10001, 3) := by decide +kernel
theorem dL_change_343 : decode cL_change 343 = .ok (.invokestatic 15, 3) := by decide +kernel
theorem dL_change_346 : decode cL_change 346 = .ok (.invokevirtual 59, 3) := by decide +kernel
theorem dL_change_349 : decode cL_change 349 = .ok (.istore 7, 2) := by decide +kernel
theorem dL_change_351 : decode cL_change 351 = .ok (.goto 46, 3) := by decide +kernel
theorem dL_change_354 : decode cL_change 354 = .ok (.aload_n 0, 1) := by decide +kernel
theorem dL_change_355 : decode cL_change 355 = .ok (.iload 5, 2) := by decide +kernel
theorem dL_change_357 : decode cL_change 357 = .ok (.iconst 1, 1) := by decide +kernel
theorem dL_change_358 : decode cL_change 358 = .ok (.iload_n 3, 1) := by decide +kernel
theorem dL_change_359 : decode cL_change 359 = .ok (.sipush 5000, 3) := by decide +kernel
theorem dL_change_362 : decode cL_change 362 = .ok (.invokestatic 15, 3) := by decide +kernel
theorem dL_change_365 : decode cL_change 365 = .ok (.iadd, 1) := by decide +kernel
theorem dL_change_366 : decode cL_change 366 = .ok (.invokevirtual 63, 3) := by decide +kernel
theorem dL_change_369 : decode cL_change 369 = .ok (.istore 7, 2) := by decide +kernel
theorem dL_change_371 : decode cL_change 371 = .ok (.goto 26, 3) := by decide +kernel
theorem dL_change_374 : decode cL_change 374 = .ok (.iload_n 3, 1) := by decide +kernel
theorem dL_change_375 : decode cL_change 375 = .ok (.iconst 2, 1) := by decide +kernel
theorem dL_change_376 : decode cL_change 376 = .ok (.invokestatic 15, 3) := by decide +kernel
theorem dL_change_379 : decode cL_change 379 = .ok (.ifCond .ne 12, 3) := by decide +kernel
theorem dL_change_382 : decode cL_change 382 = .ok (.aload_n 0, 1) := by decide +kernel
theorem dL_change_383 : decode cL_change 383 = .ok (.iload 5, 2) := by decide +kernel
theorem dL_change_385 : decode cL_change 385 = .ok (.invokevirtual 66, 3) := by decide +kernel
theorem dL_change_388 : decode cL_change 388 = .ok (.goto 7, 3) := by decide +kernel
theorem dL_change_391 : decode cL_change 391 = .ok (.aload_n 0, 1) := by decide +kernel
theorem dL_change_392 : decode cL_change 392 = .ok (.invokevirtual 69, 3) := by decide +kernel
theorem dL_change_395 : decode cL_change 395 = .ok (.istore 7, 2) := by decide +kernel
theorem dL_change_397 : decode cL_change 397 = .ok (.iload 7, 2) := by decide +kernel
theorem dL_change_399 : decode cL_change 399 = .ok (.ldc 72, 2) := by decide +kernel
theorem dL_change_401 : decode cL_change 401 = .ok (.if_icmp .gt 14, 3) := by decide +kernel
theorem dL_change_404 : decode cL_change 404 = .ok (.iload 7, 2) := by decide +kernel
theorem dL_change_406 : decode cL_change 406 = .ok (.ldc 73, 2) := by decide +kernel
theorem dL_change_408 : decode cL_change 408 = .ok (.if_icmp .lt 7, 3) := by decide +kernel
theorem dL_change_411 : decode cL_change 411 = .ok (.iconst 1, 1) := by decide +kernel
theorem dL_change_412 : decode cL_change 412 = .ok (.goto 4, 3) := by decide +kernel
theorem dL_change_415 : decode cL_change 415 = .ok (.iconst 0, 1) := by decide +kernel
theorem dL_change_416 : decode cL_change 416 = .ok (.istore 8, 2) := by decide +kernel
theorem dL_change_418 : decode cL_change 418 = .ok (.aload_n 1, 1) := by decide +kernel
theorem dL_change_419 : decode cL_change 419 = .ok (.iconst 0, 1) := by decide +kernel
theorem dL_change_420 : decode cL_change 420 = .ok (.iload 8, 2) := by decide +kernel
theorem dL_change_422 : decode cL_change 422 = .ok (.ifCond .eq 9, 3) := by decide +kernel
theorem dL_change_425 : decode cL_change 425 = .ok (.aload_n 1, 1) := by decide +kernel
theorem dL_change_426 : decode cL_change 426 = .ok (.iconst 0, 1) := by decide +kernel
theorem dL_change_427 : decode cL_change 427 = .ok (.iaload, 1) := by decide +kernel
theorem dL_change_428 : decode cL_change 428 = .ok (.goto 8, 3) := by decide +kernel
theorem dL_change_431 : decode cL_change 431 = .ok (.aload_n 1, 1) := by decide +kernel
theorem dL_change_432 : decode cL_change 432 = .ok (.iconst 0, 1) := by decide +kernel
theorem dL_change_433 : decode cL_change 433 = .ok (.iaload, 1) := by decide +kernel
theorem dL_change_434 : decode cL_change 434 = .ok (.iconst 1, 1) := by decide +kernel
theorem dL_change_435 : decode cL_change 435 = .ok (.iadd, 1) := by decide +kernel
theorem dL_change_436 : decode cL_change 436 = .ok (.iastore, 1) := by decide +kernel
theorem dL_change_437 : decode cL_change 437 = .ok (.aload_n 0, 1) := by decide +kernel
theorem dL_change_438 : decode cL_change 438 = .ok (.invokevirtual 21, 3) := by decide +kernel
theorem dL_change_441 : decode cL_change 441 = .ok (.iload 8, 2) := by decide +kernel
theorem dL_change_443 : decode cL_change 443 = .ok (.ifCond .eq 8, 3) := by decide +kernel
theorem dL_change_446 : decode cL_change 446 = .ok (.iload 6, 2) := by decide +kernel
theorem dL_change_448 : decode cL_change 448 = .ok (.goto 7, 3) := by decide +kernel
theorem dL_change_451 : decode cL_change 451 = .ok (.iload 6, 2) := by decide +kernel
theorem dL_change_453 : decode cL_change 453 = .ok (.iconst 1, 1) := by decide +kernel
theorem dL_change_454 : decode cL_change 454 = .ok (.iadd, 1) := by decide +kernel
theorem dL_change_455 : decode cL_change 455 = .ok (.if_icmp .ne 17, 3) := by decide +kernel
theorem dL_change_458 : decode cL_change 458 = .ok (.aload_n 0, 1) := by decide +kernel
theorem dL_change_459 : decode cL_change 459 = .ok (.invokevirtual 21, 3) := by decide +kernel
theorem dL_change_462 : decode cL_change 462 = .ok (.aload_n 1, 1) := by decide +kernel
theorem dL_change_463 : decode cL_change 463 = .ok (.iconst 0, 1) := by decide +kernel
theorem dL_change_464 : decode cL_change 464 = .ok (.iaload, 1) := by decide +kernel
theorem dL_change_465 : decode cL_change 465 = .ok (.if_icmp .ne 7, 3) := by decide +kernel
theorem dL_change_468 : decode cL_change 468 = .ok (.iconst 1, 1) := by decide +kernel
theorem dL_change_469 : decode cL_change 469 = .ok (.goto 4, 3) := by decide +kernel
theorem dL_change_472 : decode cL_change 472 = .ok (.iconst 0, 1) := by decide +kernel
theorem dL_change_473 : decode cL_change 473 = .ok (.ireturn, 1) := by decide +kernel
