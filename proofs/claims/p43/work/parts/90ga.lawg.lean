set_option maxRecDepth 20000 in
theorem ggL_law_X4_init : GoodIn wsL_law wsX4_init := goodIn_r _ [7, 8, 9, 10, 11, 12, 13, 14, 15, 16, 17, 18, 19, 20, 21, 22, 23, 24, 25, 26, 27, 28, 29, 30, 31, 32, 33, 34, 35, 36, 37, 38, 3, 39, 40, 41, 42, 43, 44, 45, 46, 47, 48, 49, 50, 51, 52, 53, 54, 55, 56, 57, 58, 59, 60, 61, 62, 63, 64, 65, 66, 67, 68, 69, 472, 473, 474, 475, 476, 477, 478, 479, 480, 481, 482, 483, 466, 467, 468, 469, 470, 471, 484, 485, 486, 487, 488, 489, 490, 491, 492, 493, 494] (by decide +kernel) (by decide +kernel)
set_option maxRecDepth 20000 in
theorem gL_law_X4_init : GoodIn wsL_law (wsX4_init) := ggL_law_X4_init
set_option maxRecDepth 20000 in
theorem ggL_law_L_cell : GoodIn wsL_law wsL_cell := goodIn_r _ [73, 74] (by decide +kernel) (by decide +kernel)
set_option maxRecDepth 20000 in
theorem gL_law_L_cell : GoodIn wsL_law (va_wsS RL 127 yL_cell wsL_cell) := goodIn_app (goodIn_of _ (by decide +kernel)) ggL_law_L_cell
set_option maxRecDepth 100000 in
theorem ggL_law_L_change_h : GoodIn wsL_law [.code yL_change cL_change 9 (some .boolean)] := goodIn_r _ [77] rfl (by decide +kernel)
set_option maxRecDepth 100000 in
theorem ggL_law_L_change_wsL_change_r1 : GoodIn wsL_law wsL_change_r1 := goodIn_r _ [78, 79, 80, 81, 82, 83, 2, 84, 14, 85, 86, 87, 72, 88, 89, 90, 91, 92, 93, 27, 94, 95, 96, 97] rfl (by decide +kernel)
set_option maxRecDepth 100000 in
theorem ggL_law_L_change_wsL_change_r2 : GoodIn wsL_law wsL_change_r2 := goodIn_r _ [18, 98, 99, 100, 17, 101, 51, 52, 53, 102, 103, 104, 13, 105, 33, 35, 36, 37, 38, 39, 106, 107, 108, 109] rfl (by decide +kernel)
set_option maxRecDepth 100000 in
theorem ggL_law_L_change_wsL_change_r3 : GoodIn wsL_law wsL_change_r3 := goodIn_r _ [40, 41, 42, 43, 44, 45, 110, 111, 112, 113, 114, 115, 116, 117, 118, 119, 120, 121, 122, 123, 124, 125, 126, 127] rfl (by decide +kernel)
set_option maxRecDepth 100000 in
theorem ggL_law_L_change_wsL_change_r4 : GoodIn wsL_law wsL_change_r4 := goodIn_r _ [128, 129, 130, 131, 132, 133, 134, 135, 136, 137, 138, 139, 140, 141, 142, 143, 144, 145, 146, 147, 148, 149, 150, 151] rfl (by decide +kernel)
set_option maxRecDepth 100000 in
theorem ggL_law_L_change_wsL_change_r5 : GoodIn wsL_law wsL_change_r5 := goodIn_r _ [152, 153, 154, 155, 156, 157, 158, 159, 160, 161, 162, 163, 164, 165, 166, 167, 168, 169, 170, 171, 172, 173, 174, 175] rfl (by decide +kernel)
set_option maxRecDepth 100000 in
theorem ggL_law_L_change_wsL_change_r6 : GoodIn wsL_law wsL_change_r6 := goodIn_r _ [176, 177, 178, 179, 180, 181, 182, 183, 184, 185, 186, 187, 188, 189, 190, 191, 192, 193, 194, 195, 196, 197, 198, 199] rfl (by decide +kernel)
set_option maxRecDepth 100000 in
theorem ggL_law_L_change_wsL_change_r7 : GoodIn wsL_law wsL_change_r7 := goodIn_r _ [200, 201, 202, 203, 204, 205, 206, 207, 208, 209, 210, 211, 212, 213, 214, 215, 216, 217, 218, 219, 220, 221, 222, 223] rfl (by decide +kernel)
set_option maxRecDepth 100000 in
theorem ggL_law_L_change_wsL_change_r8 : GoodIn wsL_law wsL_change_r8 := goodIn_r _ [224, 225, 226, 227, 228, 229, 230, 231, 232, 233, 234, 235, 236, 237, 238, 239, 240, 241, 242, 243, 244, 245, 246, 247] rfl (by decide +kernel)
set_option maxRecDepth 100000 in
theorem ggL_law_L_change_wsL_change_r9 : GoodIn wsL_law wsL_change_r9 := goodIn_r _ [248, 249, 250, 251, 252, 253, 254, 255, 256, 257, 258, 259, 260, 261, 262, 263, 264, 265, 266, 267, 268, 269, 270, 271] rfl (by decide +kernel)
set_option maxRecDepth 100000 in
theorem ggL_law_L_change_wsL_change_r10 : GoodIn wsL_law wsL_change_r10 := goodIn_r _ [272, 273, 274, 275, 276, 277, 278, 279, 280, 281, 282, 283, 284, 285, 286, 287, 288, 289, 290, 291, 292, 293, 294, 295] rfl (by decide +kernel)
set_option maxRecDepth 100000 in
theorem ggL_law_L_change_wsL_change_r11 : GoodIn wsL_law wsL_change_r11 := goodIn_r _ [296, 22, 297, 298, 299, 300, 301, 302, 303, 304, 305, 306, 307, 308, 309, 310, 311, 21, 312, 57, 313, 314, 315, 316] rfl (by decide +kernel)
set_option maxRecDepth 100000 in
theorem ggL_law_L_change_wsL_change_r12 : GoodIn wsL_law wsL_change_r12 := goodIn_r _ [59, 60, 317, 318, 319, 320, 321, 322, 323, 324, 325, 326, 327, 328, 329, 330, 331, 332, 333, 334, 335] rfl (by decide +kernel)
set_option maxRecDepth 100000 in
theorem ggL_law_L_change_wsX40 : GoodIn wsL_law wsX40 := goodIn_r _ [466, 467, 468, 469, 470, 471] rfl (by decide +kernel)
set_option maxRecDepth 100000 in
theorem ggL_law_L_change_wsX00 : GoodIn wsL_law wsX00 := goodIn_r _ [472, 473, 474, 475, 476, 477, 478, 479, 480, 481, 482, 483] rfl (by decide +kernel)
set_option maxRecDepth 100000 in
theorem ggL_law_L_change_wsX20 : GoodIn wsL_law wsX20 := goodIn_r _ [484, 485, 486] rfl (by decide +kernel)
set_option maxRecDepth 100000 in
theorem ggL_law_L_change_wsX10 : GoodIn wsL_law wsX10 := goodIn_r _ [487, 488, 489] rfl (by decide +kernel)
theorem ggL_law_L_change : GoodIn wsL_law wsL_change := by
  intro w h
  unfold wsL_change at h
  rcases List.mem_cons.mp h with h | h
  · exact ggL_law_L_change_h w (List.mem_singleton.mpr h)
  · simp only [List.mem_append, or_assoc] at h
    rcases h with h | h | h | h | h | h | h | h | h | h | h | h | h | h | h | h
    · exact ggL_law_L_change_wsL_change_r1 w h
    · exact ggL_law_L_change_wsL_change_r2 w h
    · exact ggL_law_L_change_wsL_change_r3 w h
    · exact ggL_law_L_change_wsL_change_r4 w h
    · exact ggL_law_L_change_wsL_change_r5 w h
    · exact ggL_law_L_change_wsL_change_r6 w h
    · exact ggL_law_L_change_wsL_change_r7 w h
    · exact ggL_law_L_change_wsL_change_r8 w h
    · exact ggL_law_L_change_wsL_change_r9 w h
    · exact ggL_law_L_change_wsL_change_r10 w h
    · exact ggL_law_L_change_wsL_change_r11 w h
    · exact ggL_law_L_change_wsL_change_r12 w h
    · exact ggL_law_L_change_wsX40 w h
    · exact ggL_law_L_change_wsX00 w h
    · exact ggL_law_L_change_wsX20 w h
    · exact ggL_law_L_change_wsX10 w h
set_option maxRecDepth 20000 in
theorem gL_law_L_change : GoodIn wsL_law (va_wsS RL 131 yL_change wsL_change) := goodIn_app (goodIn_of _ (by decide +kernel)) ggL_law_L_change
