set_option maxRecDepth 100000 in
theorem ggL_law_X4_tune_h : GoodIn wsL_law [.code yX4_tune cX4_tune 1 (some .int)] := goodIn_r _ [374] rfl (by decide +kernel)
set_option maxRecDepth 100000 in
theorem ggL_law_X4_tune_wsX4_tune_r1 : GoodIn wsL_law wsX4_tune_r1 := goodIn_r _ [19, 15, 23, 89, 90, 91, 18, 92, 53, 54, 55, 93, 94, 95, 14, 96, 34, 36, 37, 38, 39, 41, 97, 98] rfl (by decide +kernel)
set_option maxRecDepth 100000 in
theorem ggL_law_X4_tune_wsX4_tune_r2 : GoodIn wsL_law wsX4_tune_r2 := goodIn_r _ [99, 100, 42, 43, 44, 45, 46, 47, 375, 376, 377, 378, 106, 379, 380, 381, 382, 291, 292, 293, 294, 183, 184, 185] rfl (by decide +kernel)
set_option maxRecDepth 100000 in
theorem ggL_law_X4_tune_wsX4_tune_r3 : GoodIn wsL_law wsX4_tune_r3 := goodIn_r _ [186, 287, 288, 289, 290, 383, 384, 385, 386, 387, 388, 389, 22, 390, 59, 346, 347, 348, 349, 350, 333, 334, 335, 336] rfl (by decide +kernel)
set_option maxRecDepth 100000 in
theorem ggL_law_X4_tune_wsX4_tune_r4 : GoodIn wsL_law wsX4_tune_r4 := goodIn_r _ [337, 338, 339, 340, 341, 342, 343, 114, 115, 116, 117, 344, 2, 345, 391, 392, 393, 394, 61, 62, 395, 396, 397, 398] rfl (by decide +kernel)
set_option maxRecDepth 100000 in
theorem ggL_law_X4_tune_wsX4_tune_r5 : GoodIn wsL_law wsX4_tune_r5 := goodIn_r _ [399, 400, 401, 402, 403, 404, 405, 406, 407, 408, 409, 410, 411, 412, 413, 329, 330, 331, 332, 118, 119, 120, 121, 28] rfl (by decide +kernel)
set_option maxRecDepth 100000 in
theorem ggL_law_X4_tune_wsX4_tune_r6 : GoodIn wsL_law wsX4_tune_r6 := goodIn_r _ [122, 123, 124, 125, 126, 127, 128, 129, 130, 131, 132] rfl (by decide +kernel)
set_option maxRecDepth 100000 in
theorem ggL_law_X4_tune_wsX40 : GoodIn wsL_law wsX40 := goodIn_r _ [926, 927, 928, 929, 930, 931] rfl (by decide +kernel)
set_option maxRecDepth 100000 in
theorem ggL_law_X4_tune_wsX20 : GoodIn wsL_law wsX20 := goodIn_r _ [956, 957, 958] rfl (by decide +kernel)
set_option maxRecDepth 100000 in
theorem ggL_law_X4_tune_wsX00 : GoodIn wsL_law wsX00 := goodIn_r _ [944, 945, 946, 947, 948, 949, 950, 951, 952, 953, 954, 955] rfl (by decide +kernel)
set_option maxRecDepth 100000 in
theorem ggL_law_X4_tune_wsX10 : GoodIn wsL_law wsX10 := goodIn_r _ [959, 960, 961] rfl (by decide +kernel)
theorem ggL_law_X4_tune : GoodIn wsL_law wsX4_tune := by
  intro w h
  unfold wsX4_tune at h
  rcases List.mem_cons.mp h with h | h
  · exact ggL_law_X4_tune_h w (List.mem_singleton.mpr h)
  · simp only [List.mem_append, or_assoc] at h
    rcases h with h | h | h | h | h | h | h | h | h | h
    · exact ggL_law_X4_tune_wsX4_tune_r1 w h
    · exact ggL_law_X4_tune_wsX4_tune_r2 w h
    · exact ggL_law_X4_tune_wsX4_tune_r3 w h
    · exact ggL_law_X4_tune_wsX4_tune_r4 w h
    · exact ggL_law_X4_tune_wsX4_tune_r5 w h
    · exact ggL_law_X4_tune_wsX4_tune_r6 w h
    · exact ggL_law_X4_tune_wsX40 w h
    · exact ggL_law_X4_tune_wsX20 w h
    · exact ggL_law_X4_tune_wsX00 w h
    · exact ggL_law_X4_tune_wsX10 w h
set_option maxRecDepth 20000 in
theorem gL_law_X4_tune : GoodIn wsL_law (wsV RL 65 RX4 yX4_tune wsX4_tune) := goodIn_app (goodIn_of _ (by decide +kernel)) ggL_law_X4_tune
