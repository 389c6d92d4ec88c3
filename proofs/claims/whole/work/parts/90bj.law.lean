set_option maxRecDepth 20000 in
theorem ggL_law_X4_years : GoodIn wsL_law wsX4_years := goodIn_r _ [703, 15, 693, 694, 125, 662, 184, 185, 14, 186, 34, 704, 330, 331, 332, 42, 43, 333, 334, 335, 336, 44, 36, 41, 337, 338, 339, 340, 341, 342, 343, 114, 115, 116, 117, 344, 2, 345, 346, 347, 348, 349, 350, 926, 927, 928, 929, 930, 931, 944, 945, 946, 947, 948, 949, 950, 951, 952, 953, 954, 955] (by decide +kernel) (by decide +kernel)
set_option maxRecDepth 20000 in
theorem gL_law_X4_years : GoodIn wsL_law (wsV RL 113 RX4 yX4_years wsX4_years) := goodIn_app (goodIn_of _ (by decide +kernel)) ggL_law_X4_years
set_option maxRecDepth 20000 in
theorem ggL_law_X5_years : GoodIn wsL_law wsX5_years := goodIn_r _ [708, 195, 196, 197, 198, 5, 199, 76, 140, 141, 142, 356, 357, 358, 359, 151, 152, 153, 154, 360, 361, 362, 363, 364, 365, 366, 147, 148, 149, 150, 367, 368, 369, 370, 932, 933, 934, 935, 936, 937, 938, 939, 940, 941, 942, 943] (by decide +kernel) (by decide +kernel)
set_option maxRecDepth 20000 in
theorem gL_law_X5_years : GoodIn wsL_law (wsV RL 116 RX5 yX5_years wsX5_years) := goodIn_app (goodIn_of _ (by decide +kernel)) ggL_law_X5_years
set_option maxRecDepth 20000 in
theorem ggL_law_X4_delay : GoodIn wsL_law wsX4_delay := goodIn_r _ [712, 15, 125, 662, 184, 185, 14, 186, 34, 713, 714, 715, 716, 717, 39, 42, 43, 344, 2, 345, 926, 927, 928, 929, 930, 931, 944, 945, 946, 947, 948, 949, 950, 951, 952, 953, 954, 955] (by decide +kernel) (by decide +kernel)
set_option maxRecDepth 20000 in
theorem gL_law_X4_delay : GoodIn wsL_law (wsV RL 117 RX4 yX4_delay wsX4_delay) := goodIn_app (goodIn_of _ (by decide +kernel)) ggL_law_X4_delay
set_option maxRecDepth 20000 in
theorem ggL_law_X5_delay : GoodIn wsL_law wsX5_delay := goodIn_r _ [721, 195, 196, 197, 198, 5, 199, 76, 140, 141, 142, 722, 723, 724, 725, 726, 151, 152, 153, 154, 932, 933, 934, 935, 936, 937, 938, 939, 940, 941, 942, 943] (by decide +kernel) (by decide +kernel)
set_option maxRecDepth 20000 in
theorem gL_law_X5_delay : GoodIn wsL_law (wsV RL 120 RX5 yX5_delay wsX5_delay) := goodIn_app (goodIn_of _ (by decide +kernel)) ggL_law_X5_delay
set_option maxRecDepth 20000 in
theorem ggL_law_X4_residual : GoodIn wsL_law wsX4_residual := goodIn_r _ [730, 15, 125, 29, 662, 184, 185, 14, 186, 34, 731, 292, 293, 294, 45, 183, 732, 733, 734, 735, 37, 38, 329, 330, 331, 332, 42, 43, 333, 334, 335, 336, 44, 36, 41, 337, 338, 339, 340, 341, 342, 343, 114, 115, 116, 117, 344, 2, 345, 346, 347, 348, 349, 350, 926, 927, 928, 929, 930, 931, 944, 945, 946, 947, 948, 949, 950, 951, 952, 953, 954, 955] (by decide +kernel) (by decide +kernel)
set_option maxRecDepth 20000 in
theorem gL_law_X4_residual : GoodIn wsL_law (wsV RL 121 RX4 yX4_residual wsX4_residual) := goodIn_app (goodIn_of _ (by decide +kernel)) ggL_law_X4_residual
