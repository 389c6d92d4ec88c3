set_option maxRecDepth 20000 in
theorem ggL_law_L_isDepth : GoodIn wsL_law wsL_isDepth := goodIn_r _ [427, 4, 428, 429, 430, 2, 431, 135, 14, 432, 433, 434, 13, 435, 33, 36, 37, 39, 436, 233, 234, 235, 236, 40, 41, 237, 238, 239, 240, 42, 35, 241, 242, 243, 244, 245, 246, 247, 123, 124, 125, 126, 248, 249, 250, 251, 252, 253, 254, 437, 438, 439, 440, 441, 442, 443, 444, 445, 446, 447, 376, 377, 378, 380, 364, 365, 366, 367, 38, 81, 82, 83, 84, 85, 216, 217, 218, 219, 220, 120, 121, 122, 221, 222, 223, 224, 225, 226, 227, 228, 136, 229, 230, 231, 232, 368, 369, 370, 371, 372, 373, 374, 375, 379, 466, 467, 468, 469, 470, 471, 472, 473, 474, 475, 476, 477, 478, 479, 480, 481, 482, 483] (by decide +kernel) (by decide +kernel)
set_option maxRecDepth 20000 in
theorem gL_law_L_isDepth : GoodIn wsL_law (va_wsS RL 139 yL_isDepth wsL_isDepth) := goodIn_app (goodIn_of _ (by decide +kernel)) ggL_law_L_isDepth
set_option maxRecDepth 20000 in
theorem ggL_law_X4_acts : GoodIn wsL_law wsX4_acts := goodIn_r _ [93, 27, 466, 467, 468, 469, 470, 471] (by decide +kernel) (by decide +kernel)
set_option maxRecDepth 20000 in
theorem gL_law_X4_acts : GoodIn wsL_law (wsV RL 21 RX4 yX4_acts wsX4_acts) := goodIn_app (goodIn_of _ (by decide +kernel)) ggL_law_X4_acts
set_option maxRecDepth 100000 in
theorem ggL_law_L_isBest_h : GoodIn wsL_law [.code yL_isBest cL_isBest 7 (some .boolean)] := goodIn_r _ [450] rfl (by decide +kernel)
set_option maxRecDepth 100000 in
theorem ggL_law_L_isBest_wsL_isBest_r1 : GoodIn wsL_law wsL_isBest_r1 := goodIn_r _ [408, 409, 410, 2, 411, 14, 28, 352, 412, 265, 266, 13, 267, 33, 268, 269, 270, 271, 43, 159, 160, 161, 162, 413] rfl (by decide +kernel)
set_option maxRecDepth 100000 in
theorem ggL_law_L_isBest_wsL_isBest_r2 : GoodIn wsL_law wsL_isBest_r2 := goodIn_r _ [414, 415, 416, 333, 334, 246, 335, 233, 234, 235, 236, 40, 41, 237, 238, 239, 240, 42, 35, 39, 241, 242, 243, 244] rfl (by decide +kernel)
set_option maxRecDepth 100000 in
theorem ggL_law_L_isBest_wsL_isBest_r3 : GoodIn wsL_law wsL_isBest_r3 := goodIn_r _ [245, 247, 123, 124, 125, 126, 248, 249, 250, 251, 252, 253, 254, 176, 177, 178, 179, 18, 98, 99, 100, 17, 101, 51] rfl (by decide +kernel)
set_option maxRecDepth 100000 in
theorem ggL_law_L_isBest_wsL_isBest_r4 : GoodIn wsL_law wsL_isBest_r4 := goodIn_r _ [52, 53, 102, 103, 104, 105, 36, 37, 38, 106, 107, 108, 109, 44, 45, 180, 181, 182, 183, 114, 117, 118, 127, 128] rfl (by decide +kernel)
set_option maxRecDepth 100000 in
theorem ggL_law_L_isBest_wsL_isBest_r5 : GoodIn wsL_law wsL_isBest_r5 := goodIn_r _ [129, 130, 27, 131, 132, 133, 134, 135, 136, 137, 138, 139, 140, 141, 451, 452, 72, 453, 4, 81, 82, 83, 84, 85] rfl (by decide +kernel)
set_option maxRecDepth 100000 in
theorem ggL_law_L_isBest_wsL_isBest_r6 : GoodIn wsL_law wsL_isBest_r6 := goodIn_r _ [394, 395, 396, 397, 346, 398, 399, 400, 401, 402, 454, 455, 456, 457, 458, 459, 460, 461, 462, 463, 464, 465] rfl (by decide +kernel)
set_option maxRecDepth 100000 in
theorem ggL_law_L_isBest_wsX40 : GoodIn wsL_law wsX40 := goodIn_r _ [466, 467, 468, 469, 470, 471] rfl (by decide +kernel)
set_option maxRecDepth 100000 in
theorem ggL_law_L_isBest_wsX00 : GoodIn wsL_law wsX00 := goodIn_r _ [472, 473, 474, 475, 476, 477, 478, 479, 480, 481, 482, 483] rfl (by decide +kernel)
set_option maxRecDepth 100000 in
theorem ggL_law_L_isBest_wsX20 : GoodIn wsL_law wsX20 := goodIn_r _ [484, 485, 486] rfl (by decide +kernel)
theorem ggL_law_L_isBest : GoodIn wsL_law wsL_isBest := by
  intro w h
  unfold wsL_isBest at h
  rcases List.mem_cons.mp h with h | h
  · exact ggL_law_L_isBest_h w (List.mem_singleton.mpr h)
  · simp only [List.mem_append, or_assoc] at h
    rcases h with h | h | h | h | h | h | h | h | h
    · exact ggL_law_L_isBest_wsL_isBest_r1 w h
    · exact ggL_law_L_isBest_wsL_isBest_r2 w h
    · exact ggL_law_L_isBest_wsL_isBest_r3 w h
    · exact ggL_law_L_isBest_wsL_isBest_r4 w h
    · exact ggL_law_L_isBest_wsL_isBest_r5 w h
    · exact ggL_law_L_isBest_wsL_isBest_r6 w h
    · exact ggL_law_L_isBest_wsX40 w h
    · exact ggL_law_L_isBest_wsX00 w h
    · exact ggL_law_L_isBest_wsX20 w h
set_option maxRecDepth 20000 in
theorem gL_law_L_isBest : GoodIn wsL_law (va_wsS RL 143 yL_isBest wsL_isBest) := goodIn_app (goodIn_of _ (by decide +kernel)) ggL_law_L_isBest
set_option maxRecDepth 20000 in
theorem ggL_law_X4_bestFunction : GoodIn wsL_law wsX4_bestFunction := goodIn_r _ [411, 14, 28, 352, 412, 265, 266, 13, 267, 33, 268, 269, 270, 271, 43, 159, 160, 161, 162, 413, 414, 415, 416, 333, 334, 246, 335, 233, 234, 235, 236, 40, 41, 237, 238, 239, 240, 42, 35, 39, 241, 242, 243, 244, 245, 247, 123, 124, 125, 126, 248, 2, 249, 250, 251, 252, 253, 254, 466, 467, 468, 469, 470, 471, 472, 473, 474, 475, 476, 477, 478, 479, 480, 481, 482, 483] (by decide +kernel) (by decide +kernel)
set_option maxRecDepth 20000 in
theorem gL_law_X4_bestFunction : GoodIn wsL_law (wsV RL 103 RX4 yX4_bestFunction wsX4_bestFunction) := goodIn_app (goodIn_of _ (by decide +kernel)) ggL_law_X4_bestFunction
set_option maxRecDepth 20000 in
theorem ggL_law_X4_undo : GoodIn wsL_law wsX4_undo := goodIn_r _ [460, 18, 14, 461, 462, 463, 17, 464, 53, 465, 51, 52, 102, 103, 104, 13, 105, 33, 35, 36, 37, 38, 39, 106, 107, 108, 109, 40, 41, 42, 43, 44, 45, 466, 467, 468, 469, 470, 471, 484, 485, 486, 472, 473, 474, 475, 476, 477, 478, 479, 480, 481, 482, 483] (by decide +kernel) (by decide +kernel)
set_option maxRecDepth 20000 in
theorem gL_law_X4_undo : GoodIn wsL_law (wsV RL 123 RX4 yX4_undo wsX4_undo) := goodIn_app (goodIn_of _ (by decide +kernel)) ggL_law_X4_undo
