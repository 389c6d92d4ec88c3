set_option maxRecDepth 20000 in
theorem ggL_law_X4_accumulation : GoodIn wsL_law wsX4_accumulation := goodIn_r _ [674, 15, 675, 125, 662, 184, 185, 14, 186, 34, 926, 927, 928, 929, 930, 931, 944, 945, 946, 947, 948, 949, 950, 951, 952, 953, 954, 955] (by decide +kernel) (by decide +kernel)
set_option maxRecDepth 20000 in
theorem gL_law_X4_accumulation : GoodIn wsL_law (wsV RL 101 RX4 yX4_accumulation wsX4_accumulation) := goodIn_app (goodIn_of _ (by decide +kernel)) ggL_law_X4_accumulation
set_option maxRecDepth 20000 in
theorem ggL_law_X5_accumulation : GoodIn wsL_law wsX5_accumulation := goodIn_r _ [679, 667, 668, 669, 5, 670, 195, 196, 197, 198, 199, 76, 140, 141, 142, 151, 152, 153, 154, 932, 933, 934, 935, 936, 937, 938, 939, 940, 941, 942, 943] (by decide +kernel) (by decide +kernel)
set_option maxRecDepth 20000 in
theorem gL_law_X5_accumulation : GoodIn wsL_law (wsV RL 104 RX5 yX5_accumulation wsX5_accumulation) := goodIn_app (goodIn_of _ (by decide +kernel)) ggL_law_X5_accumulation
set_option maxRecDepth 20000 in
theorem ggL_law_X4_correction : GoodIn wsL_law wsX4_correction := goodIn_r _ [683, 15, 684, 125, 662, 184, 185, 14, 186, 34, 926, 927, 928, 929, 930, 931, 944, 945, 946, 947, 948, 949, 950, 951, 952, 953, 954, 955] (by decide +kernel) (by decide +kernel)
set_option maxRecDepth 20000 in
theorem gL_law_X4_correction : GoodIn wsL_law (wsV RL 105 RX4 yX4_correction wsX4_correction) := goodIn_app (goodIn_of _ (by decide +kernel)) ggL_law_X4_correction
set_option maxRecDepth 20000 in
theorem ggL_law_X5_correction : GoodIn wsL_law wsX5_correction := goodIn_r _ [688, 667, 668, 669, 5, 670, 195, 196, 197, 198, 199, 76, 140, 141, 142, 151, 152, 153, 154, 932, 933, 934, 935, 936, 937, 938, 939, 940, 941, 942, 943] (by decide +kernel) (by decide +kernel)
set_option maxRecDepth 20000 in
theorem gL_law_X5_correction : GoodIn wsL_law (wsV RL 108 RX5 yX5_correction wsX5_correction) := goodIn_app (goodIn_of _ (by decide +kernel)) ggL_law_X5_correction
set_option maxRecDepth 20000 in
theorem ggL_law_X4_thinning : GoodIn wsL_law wsX4_thinning := goodIn_r _ [692, 15, 693, 694, 125, 662, 184, 185, 14, 186, 34, 695, 334, 335, 336, 44, 36, 41, 337, 338, 339, 340, 341, 342, 343, 114, 115, 116, 117, 344, 2, 345, 926, 927, 928, 929, 930, 931, 944, 945, 946, 947, 948, 949, 950, 951, 952, 953, 954, 955] (by decide +kernel) (by decide +kernel)
set_option maxRecDepth 20000 in
theorem gL_law_X4_thinning : GoodIn wsL_law (wsV RL 109 RX4 yX4_thinning wsX4_thinning) := goodIn_app (goodIn_of _ (by decide +kernel)) ggL_law_X4_thinning
set_option maxRecDepth 20000 in
theorem ggL_law_X5_thinning : GoodIn wsL_law wsX5_thinning := goodIn_r _ [699, 195, 196, 197, 198, 5, 199, 76, 140, 141, 142, 360, 361, 362, 363, 364, 365, 366, 151, 152, 153, 154, 147, 148, 149, 150, 932, 933, 934, 935, 936, 937, 938, 939, 940, 941, 942, 943] (by decide +kernel) (by decide +kernel)
set_option maxRecDepth 20000 in
theorem gL_law_X5_thinning : GoodIn wsL_law (wsV RL 112 RX5 yX5_thinning wsX5_thinning) := goodIn_app (goodIn_of _ (by decide +kernel)) ggL_law_X5_thinning
