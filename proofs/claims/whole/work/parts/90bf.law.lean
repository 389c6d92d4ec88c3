set_option maxRecDepth 100000 in
theorem ggL_law_X4_run_h : GoodIn wsL_law [.code yX4_run cX4_run 4 (some .int)] := goodIn_r _ [488] rfl (by decide +kernel)
set_option maxRecDepth 100000 in
theorem ggL_law_X4_run_wsX4_run_r1 : GoodIn wsL_law wsX4_run_r1 := goodIn_r _ [19, 15, 28, 30, 27, 489, 89, 90, 91, 18, 92, 53, 54, 55, 93, 94, 95, 14, 96, 34, 36, 37, 38, 39] rfl (by decide +kernel)
set_option maxRecDepth 100000 in
theorem ggL_law_X4_run_wsX4_run_r2 : GoodIn wsL_law wsX4_run_r2 := goodIn_r _ [41, 97, 98, 99, 100, 42, 43, 44, 45, 46, 47, 129, 130, 131, 132, 490, 491, 492, 26, 493, 66, 69, 494, 495] rfl (by decide +kernel)
set_option maxRecDepth 100000 in
theorem ggL_law_X4_run_wsX4_run_r3 : GoodIn wsL_law wsX4_run_r3 := goodIn_r _ [496, 497, 67, 498, 499, 500, 501, 502, 70, 503, 504, 505, 506, 71, 507, 508, 509, 2, 510, 23, 511, 512, 513, 514] rfl (by decide +kernel)
set_option maxRecDepth 100000 in
theorem ggL_law_X4_run_wsX4_run_r4 : GoodIn wsL_law wsX4_run_r4 := goodIn_r _ [515, 516, 517, 518, 519, 520, 521, 522, 523, 524, 525, 526, 527, 528, 529, 530, 531, 532, 533, 534, 535, 536, 537, 538] rfl (by decide +kernel)
set_option maxRecDepth 100000 in
theorem ggL_law_X4_run_wsX4_run_r5 : GoodIn wsL_law wsX4_run_r5 := goodIn_r _ [539, 540, 541, 542, 543, 544, 545, 546, 547, 548, 549, 550, 551, 552, 553, 554, 555, 556, 557, 558, 559, 560, 561, 562] rfl (by decide +kernel)
set_option maxRecDepth 100000 in
theorem ggL_law_X4_run_wsX4_run_r6 : GoodIn wsL_law wsX4_run_r6 := goodIn_r _ [563, 564, 565, 566, 567, 568, 569, 570, 571, 572, 573, 574, 575, 576, 577, 578, 579, 101, 102, 103, 104, 105, 106, 107] rfl (by decide +kernel)
set_option maxRecDepth 100000 in
theorem ggL_law_X4_run_wsX4_run_r7 : GoodIn wsL_law wsX4_run_r7 := goodIn_r _ [108, 109, 110, 111, 112, 113, 114, 115, 116, 117, 282, 283, 284, 285, 182, 286, 183, 184, 185, 186, 287, 288, 289, 290] rfl (by decide +kernel)
set_option maxRecDepth 100000 in
theorem ggL_law_X4_run_wsX4_run_r8 : GoodIn wsL_law wsX4_run_r8 := goodIn_r _ [291, 292, 293, 294, 320, 321, 322, 323, 324, 325, 326, 327, 328, 329, 330, 331, 332, 333, 334, 335, 336, 337, 338, 339] rfl (by decide +kernel)
set_option maxRecDepth 100000 in
theorem ggL_law_X4_run_wsX4_run_r9 : GoodIn wsL_law wsX4_run_r9 := goodIn_r _ [340, 341, 342, 343, 344, 345, 346, 347, 348, 349, 350, 258, 259, 260, 261, 204, 205, 206, 207, 208, 234, 235, 236, 237] rfl (by decide +kernel)
set_option maxRecDepth 100000 in
theorem ggL_law_X4_run_wsX4_run_r10 : GoodIn wsL_law wsX4_run_r10 := goodIn_r _ [270, 271, 272, 273, 375, 376, 377, 378, 379, 380, 381, 382, 383, 384, 385, 386, 387, 388, 389, 22, 390, 59, 391, 392] rfl (by decide +kernel)
set_option maxRecDepth 100000 in
theorem ggL_law_X4_run_wsX4_run_r11 : GoodIn wsL_law wsX4_run_r11 := goodIn_r _ [393, 394, 61, 62, 395, 396, 397, 398, 399, 400, 401, 402, 403, 404, 405, 406, 407, 408, 409, 410, 411, 412, 413, 580] rfl (by decide +kernel)
set_option maxRecDepth 100000 in
theorem ggL_law_X4_run_wsX4_run_r12 : GoodIn wsL_law wsX4_run_r12 := goodIn_r _ [581, 582, 583, 584, 585, 586, 222, 223, 224, 225, 587, 588, 589, 122, 123, 124, 125, 126, 127, 128, 477, 478, 479, 480] rfl (by decide +kernel)
set_option maxRecDepth 100000 in
theorem ggL_law_X4_run_wsX40 : GoodIn wsL_law wsX40 := goodIn_r _ [926, 927, 928, 929, 930, 931] rfl (by decide +kernel)
set_option maxRecDepth 100000 in
theorem ggL_law_X4_run_wsX30 : GoodIn wsL_law wsX30 := goodIn_r _ [962, 963, 964, 965, 966] rfl (by decide +kernel)
set_option maxRecDepth 100000 in
theorem ggL_law_X4_run_wsX20 : GoodIn wsL_law wsX20 := goodIn_r _ [956, 957, 958] rfl (by decide +kernel)
set_option maxRecDepth 100000 in
theorem ggL_law_X4_run_wsX00 : GoodIn wsL_law wsX00 := goodIn_r _ [944, 945, 946, 947, 948, 949, 950, 951, 952, 953, 954, 955] rfl (by decide +kernel)
set_option maxRecDepth 100000 in
theorem ggL_law_X4_run_wsX10 : GoodIn wsL_law wsX10 := goodIn_r _ [959, 960, 961] rfl (by decide +kernel)
theorem ggL_law_X4_run : GoodIn wsL_law wsX4_run := by
  intro w h
  unfold wsX4_run at h
  rcases List.mem_cons.mp h with h | h
  · exact ggL_law_X4_run_h w (List.mem_singleton.mpr h)
  · simp only [List.mem_append, or_assoc] at h
    rcases h with h | h | h | h | h | h | h | h | h | h | h | h | h | h | h | h | h
    · exact ggL_law_X4_run_wsX4_run_r1 w h
    · exact ggL_law_X4_run_wsX4_run_r2 w h
    · exact ggL_law_X4_run_wsX4_run_r3 w h
    · exact ggL_law_X4_run_wsX4_run_r4 w h
    · exact ggL_law_X4_run_wsX4_run_r5 w h
    · exact ggL_law_X4_run_wsX4_run_r6 w h
    · exact ggL_law_X4_run_wsX4_run_r7 w h
    · exact ggL_law_X4_run_wsX4_run_r8 w h
    · exact ggL_law_X4_run_wsX4_run_r9 w h
    · exact ggL_law_X4_run_wsX4_run_r10 w h
    · exact ggL_law_X4_run_wsX4_run_r11 w h
    · exact ggL_law_X4_run_wsX4_run_r12 w h
    · exact ggL_law_X4_run_wsX40 w h
    · exact ggL_law_X4_run_wsX30 w h
    · exact ggL_law_X4_run_wsX20 w h
    · exact ggL_law_X4_run_wsX00 w h
    · exact ggL_law_X4_run_wsX10 w h
set_option maxRecDepth 20000 in
theorem gL_law_X4_run : GoodIn wsL_law (wsV RL 81 RX4 yX4_run wsX4_run) := goodIn_app (goodIn_of _ (by decide +kernel)) ggL_law_X4_run
