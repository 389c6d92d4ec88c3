set_option maxRecDepth 100000 in
theorem ggL_law_L_areAges_h : GoodIn wsL_law [.code yL_areAges cL_areAges 12 (some .boolean)] := goodIn_r _ [338] rfl (by decide +kernel)
set_option maxRecDepth 100000 in
theorem ggL_law_L_areAges_wsL_areAges_r1 : GoodIn wsL_law wsL_areAges_r1 := goodIn_r _ [4, 339, 79, 340, 81, 82, 83, 2, 84, 14, 85, 341, 342, 343, 344, 345, 134, 346, 160, 161, 13, 162, 33, 347] rfl (by decide +kernel)
set_option maxRecDepth 100000 in
theorem ggL_law_L_areAges_wsL_areAges_r2 : GoodIn wsL_law wsL_areAges_r2 := goodIn_r _ [348, 349, 350, 351, 352, 353, 234, 235, 236, 40, 41, 237, 238, 239, 240, 42, 35, 39, 241, 242, 243, 244, 245, 246] rfl (by decide +kernel)
set_option maxRecDepth 100000 in
theorem ggL_law_L_areAges_wsL_areAges_r3 : GoodIn wsL_law wsL_areAges_r3 := goodIn_r _ [247, 123, 124, 125, 126, 248, 249, 250, 251, 252, 253, 254, 221, 222, 223, 224, 225, 226, 227, 228, 135, 136, 220, 120] rfl (by decide +kernel)
set_option maxRecDepth 100000 in
theorem ggL_law_L_areAges_wsL_areAges_r4 : GoodIn wsL_law wsL_areAges_r4 := goodIn_r _ [121, 122, 229, 230, 231, 232, 36, 37, 233, 354, 355, 356, 357, 358, 359, 360, 361, 362, 363, 364, 365, 366, 367, 38] rfl (by decide +kernel)
set_option maxRecDepth 100000 in
theorem ggL_law_L_areAges_wsL_areAges_r5 : GoodIn wsL_law wsL_areAges_r5 := goodIn_r _ [368, 369, 370, 371, 372, 373, 374, 375, 376, 377, 378, 379, 380, 381, 382, 383, 384, 385, 386, 387, 388, 28, 389, 390] rfl (by decide +kernel)
set_option maxRecDepth 100000 in
theorem ggL_law_L_areAges_wsL_areAges_r6 : GoodIn wsL_law wsL_areAges_r6 := goodIn_r _ [391, 392, 45, 159, 393, 282, 283, 284, 394, 395, 396, 397, 398, 269, 270, 271, 43, 399, 400, 401, 402, 216, 217, 218] rfl (by decide +kernel)
set_option maxRecDepth 100000 in
theorem ggL_law_L_areAges_wsL_areAges_r7 : GoodIn wsL_law wsL_areAges_r7 := goodIn_r _ [219, 403, 404, 405, 406, 407, 330, 331, 332, 333, 334, 335, 44, 268, 408, 409, 410, 411, 412, 265, 266, 267, 413, 414] rfl (by decide +kernel)
set_option maxRecDepth 100000 in
theorem ggL_law_L_areAges_wsL_areAges_r8 : GoodIn wsL_law wsL_areAges_r8 := goodIn_r _ [415, 416, 417, 418, 419, 420, 421, 422, 423, 424] rfl (by decide +kernel)
set_option maxRecDepth 100000 in
theorem ggL_law_L_areAges_wsX40 : GoodIn wsL_law wsX40 := goodIn_r _ [466, 467, 468, 469, 470, 471] rfl (by decide +kernel)
set_option maxRecDepth 100000 in
theorem ggL_law_L_areAges_wsX00 : GoodIn wsL_law wsX00 := goodIn_r _ [472, 473, 474, 475, 476, 477, 478, 479, 480, 481, 482, 483] rfl (by decide +kernel)
theorem ggL_law_L_areAges : GoodIn wsL_law wsL_areAges := by
  intro w h
  unfold wsL_areAges at h
  rcases List.mem_cons.mp h with h | h
  · exact ggL_law_L_areAges_h w (List.mem_singleton.mpr h)
  · simp only [List.mem_append, or_assoc] at h
    rcases h with h | h | h | h | h | h | h | h | h | h
    · exact ggL_law_L_areAges_wsL_areAges_r1 w h
    · exact ggL_law_L_areAges_wsL_areAges_r2 w h
    · exact ggL_law_L_areAges_wsL_areAges_r3 w h
    · exact ggL_law_L_areAges_wsL_areAges_r4 w h
    · exact ggL_law_L_areAges_wsL_areAges_r5 w h
    · exact ggL_law_L_areAges_wsL_areAges_r6 w h
    · exact ggL_law_L_areAges_wsL_areAges_r7 w h
    · exact ggL_law_L_areAges_wsL_areAges_r8 w h
    · exact ggL_law_L_areAges_wsX40 w h
    · exact ggL_law_L_areAges_wsX00 w h
set_option maxRecDepth 20000 in
theorem gL_law_L_areAges : GoodIn wsL_law (va_wsS RL 135 yL_areAges wsL_areAges) := goodIn_app (goodIn_of _ (by decide +kernel)) ggL_law_L_areAges
set_option maxRecDepth 20000 in
theorem ggL_law_X4_layers : GoodIn wsL_law wsX4_layers := goodIn_r _ [84, 14, 85, 466, 467, 468, 469, 470, 471, 472, 473, 474, 475, 476, 477, 478, 479, 480, 481, 482, 483] (by decide +kernel) (by decide +kernel)
set_option maxRecDepth 20000 in
theorem gL_law_X4_layers : GoodIn wsL_law (wsV RL 9 RX4 yX4_layers wsX4_layers) := goodIn_app (goodIn_of _ (by decide +kernel)) ggL_law_X4_layers
set_option maxRecDepth 20000 in
theorem ggL_law_X4_depth : GoodIn wsL_law wsX4_depth := goodIn_r _ [219, 14, 220, 120, 121, 13, 122, 33, 123, 124, 125, 126, 39, 466, 467, 468, 469, 470, 471, 472, 473, 474, 475, 476, 477, 478, 479, 480, 481, 482, 483] (by decide +kernel) (by decide +kernel)
set_option maxRecDepth 20000 in
theorem gL_law_X4_depth : GoodIn wsL_law (wsV RL 53 RX4 yX4_depth wsX4_depth) := goodIn_app (goodIn_of _ (by decide +kernel)) ggL_law_X4_depth
set_option maxRecDepth 20000 in
theorem ggL_law_X4_age : GoodIn wsL_law wsX4_age := goodIn_r _ [224, 14, 225, 226, 227, 2, 228, 135, 85, 136, 220, 120, 121, 13, 122, 33, 123, 124, 125, 126, 39, 229, 230, 231, 232, 36, 37, 233, 234, 235, 236, 40, 41, 237, 238, 239, 240, 42, 35, 241, 242, 243, 244, 245, 246, 247, 248, 249, 250, 251, 252, 253, 254, 466, 467, 468, 469, 470, 471, 472, 473, 474, 475, 476, 477, 478, 479, 480, 481, 482, 483] (by decide +kernel) (by decide +kernel)
set_option maxRecDepth 20000 in
theorem gL_law_X4_age : GoodIn wsL_law (wsV RL 56 RX4 yX4_age wsX4_age) := goodIn_app (goodIn_of _ (by decide +kernel)) ggL_law_X4_age
set_option maxRecDepth 20000 in
theorem ggL_law_L_low : GoodIn wsL_law wsL_low := goodIn_r _ [88, 89] (by decide +kernel) (by decide +kernel)
set_option maxRecDepth 20000 in
theorem gL_law_L_low : GoodIn wsL_law (va_wsS RL 15 yL_low wsL_low) := goodIn_app (goodIn_of _ (by decide +kernel)) ggL_law_L_low
