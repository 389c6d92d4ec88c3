set_option maxRecDepth 100000 in
theorem ggL_law_X5_run_h : GoodIn wsL_law [.code yX5_run cX5_run 4 (some .int)] := goodIn_r _ [593] rfl (by decide +kernel)
set_option maxRecDepth 100000 in
theorem ggL_law_X5_run_wsX5_run_r1 : GoodIn wsL_law wsX5_run_r1 := goodIn_r _ [159, 81, 472, 155, 156, 157, 5, 158, 160, 161, 77, 76, 594, 595, 596, 597, 598, 79, 599, 600, 601, 602, 603, 82] rfl (by decide +kernel)
set_option maxRecDepth 100000 in
theorem ggL_law_X5_run_wsX5_run_r2 : GoodIn wsL_law wsX5_run_r2 := goodIn_r _ [83, 80, 140, 141, 142, 604, 605, 606, 607, 608, 609, 610, 611, 612, 613, 614, 615, 134, 135, 136, 137, 138, 139, 143] rfl (by decide +kernel)
set_option maxRecDepth 100000 in
theorem ggL_law_X5_run_wsX5_run_r3 : GoodIn wsL_law wsX5_run_r3 := goodIn_r _ [144, 145, 146, 147, 148, 149, 150, 151, 152, 153, 154, 616, 617, 618, 195, 619, 296, 297, 298, 299, 196, 197, 198, 199] rfl (by decide +kernel)
set_option maxRecDepth 100000 in
theorem ggL_law_X5_run_wsX5_run_r4 : GoodIn wsL_law wsX5_run_r4 := goodIn_r _ [300, 301, 302, 303, 620, 352, 353, 354, 355, 356, 357, 358, 359, 360, 361, 362, 363, 364, 365, 366, 367, 368, 369, 370] rfl (by decide +kernel)
set_option maxRecDepth 100000 in
theorem ggL_law_X5_run_wsX5_run_r5 : GoodIn wsL_law wsX5_run_r5 := goodIn_r _ [621, 263, 264, 265, 214, 215, 216, 217, 622, 210, 211, 212, 213, 623, 239, 240, 241, 624, 275, 276, 277, 625, 626, 627] rfl (by decide +kernel)
set_option maxRecDepth 100000 in
theorem ggL_law_X5_run_wsX5_run_r6 : GoodIn wsL_law wsX5_run_r6 := goodIn_r _ [628, 629, 227, 228, 229, 630, 415, 416, 417, 78, 418, 419, 420, 421, 422, 423, 424, 425, 426, 427, 428, 429, 430, 431] rfl (by decide +kernel)
set_option maxRecDepth 100000 in
theorem ggL_law_X5_run_wsX5_run_r7 : GoodIn wsL_law wsX5_run_r7 := goodIn_r _ [432, 433, 434, 435, 436, 437, 438, 439, 440, 441, 442, 443, 444] rfl (by decide +kernel)
set_option maxRecDepth 100000 in
theorem ggL_law_X5_run_wsX50 : GoodIn wsL_law wsX50 := goodIn_r _ [932, 933, 934, 935, 936, 937, 938, 939, 940, 941, 942, 943] rfl (by decide +kernel)
theorem ggL_law_X5_run : GoodIn wsL_law wsX5_run := by
  intro w h
  unfold wsX5_run at h
  rcases List.mem_cons.mp h with h | h
  · exact ggL_law_X5_run_h w (List.mem_singleton.mpr h)
  · simp only [List.mem_append, or_assoc] at h
    rcases h with h | h | h | h | h | h | h | h
    · exact ggL_law_X5_run_wsX5_run_r1 w h
    · exact ggL_law_X5_run_wsX5_run_r2 w h
    · exact ggL_law_X5_run_wsX5_run_r3 w h
    · exact ggL_law_X5_run_wsX5_run_r4 w h
    · exact ggL_law_X5_run_wsX5_run_r5 w h
    · exact ggL_law_X5_run_wsX5_run_r6 w h
    · exact ggL_law_X5_run_wsX5_run_r7 w h
    · exact ggL_law_X5_run_wsX50 w h
set_option maxRecDepth 20000 in
theorem gL_law_X5_run : GoodIn wsL_law (wsV RL 84 RX5 yX5_run wsX5_run) := goodIn_app (goodIn_of _ (by decide +kernel)) ggL_law_X5_run
set_option maxRecDepth 20000 in
theorem ggL_law_X4_failure : GoodIn wsL_law wsX4_failure := goodIn_r _ [634, 30, 926, 927, 928, 929, 930, 931] (by decide +kernel) (by decide +kernel)
set_option maxRecDepth 20000 in
theorem gL_law_X4_failure : GoodIn wsL_law (wsV RL 85 RX4 yX4_failure wsX4_failure) := goodIn_app (goodIn_of _ (by decide +kernel)) ggL_law_X4_failure
