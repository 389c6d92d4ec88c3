set_option maxRecDepth 20000 in
theorem ggL_law_X5_residual : GoodIn wsL_law wsX5_residual := goodIn_r _ [739, 195, 80, 196, 197, 198, 5, 199, 76, 140, 141, 142, 151, 152, 153, 154, 437, 438, 439, 440, 441, 442, 443, 444, 356, 357, 358, 359, 360, 361, 362, 363, 364, 365, 366, 147, 148, 149, 150, 367, 368, 369, 370, 932, 933, 934, 935, 936, 937, 938, 939, 940, 941, 942, 943] (by decide +kernel) (by decide +kernel)
set_option maxRecDepth 20000 in
theorem gL_law_X5_residual : GoodIn wsL_law (wsV RL 124 RX5 yX5_residual wsX5_residual) := goodIn_app (goodIn_of _ (by decide +kernel)) ggL_law_X5_residual
set_option maxRecDepth 20000 in
theorem ggL_law_X4_countError : GoodIn wsL_law wsX4_countError := goodIn_r _ [743, 15, 125, 29, 662, 184, 185, 14, 186, 34, 744, 745, 746, 747, 47, 183, 748, 326, 327, 328, 37, 38, 329, 330, 331, 332, 42, 43, 333, 334, 335, 336, 44, 36, 41, 337, 338, 339, 340, 341, 342, 343, 114, 115, 116, 117, 344, 2, 345, 346, 347, 348, 349, 350, 926, 927, 928, 929, 930, 931, 944, 945, 946, 947, 948, 949, 950, 951, 952, 953, 954, 955] (by decide +kernel) (by decide +kernel)
set_option maxRecDepth 20000 in
theorem gL_law_X4_countError : GoodIn wsL_law (wsV RL 125 RX4 yX4_countError wsX4_countError) := goodIn_app (goodIn_of _ (by decide +kernel)) ggL_law_X4_countError
set_option maxRecDepth 20000 in
theorem ggL_law_X5_countError : GoodIn wsL_law wsX5_countError := goodIn_r _ [752, 195, 80, 196, 197, 198, 5, 199, 76, 140, 141, 142, 151, 152, 153, 154, 356, 357, 358, 359, 360, 361, 362, 363, 364, 365, 366, 147, 148, 149, 150, 367, 368, 369, 370, 932, 933, 934, 935, 936, 937, 938, 939, 940, 941, 942, 943] (by decide +kernel) (by decide +kernel)
set_option maxRecDepth 20000 in
theorem gL_law_X5_countError : GoodIn wsL_law (wsV RL 128 RX5 yX5_countError wsX5_countError) := goodIn_app (goodIn_of _ (by decide +kernel)) ggL_law_X5_countError
set_option maxRecDepth 20000 in
theorem ggL_law_X4_fitting : GoodIn wsL_law wsX4_fitting := goodIn_r _ [756, 15, 757, 408, 409, 14, 410, 34, 37, 38, 45, 411, 412, 342, 413, 46, 329, 330, 331, 332, 42, 43, 333, 334, 335, 336, 44, 36, 41, 337, 338, 339, 340, 341, 343, 114, 115, 116, 117, 344, 2, 345, 346, 347, 348, 349, 350, 291, 292, 293, 294, 183, 184, 185, 186, 926, 927, 928, 929, 930, 931, 944, 945, 946, 947, 948, 949, 950, 951, 952, 953, 954, 955] (by decide +kernel) (by decide +kernel)
set_option maxRecDepth 20000 in
theorem gL_law_X4_fitting : GoodIn wsL_law (wsV RL 129 RX4 yX4_fitting wsX4_fitting) := goodIn_app (goodIn_of _ (by decide +kernel)) ggL_law_X4_fitting
set_option maxRecDepth 20000 in
theorem ggL_law_X5_fitting : GoodIn wsL_law wsX5_fitting := goodIn_r _ [761, 433, 434, 435, 5, 436, 76, 151, 152, 153, 154, 437, 438, 439, 440, 441, 442, 443, 444, 356, 357, 358, 359, 360, 361, 362, 363, 364, 365, 366, 147, 148, 149, 150, 367, 368, 369, 370, 430, 431, 432, 932, 933, 934, 935, 936, 937, 938, 939, 940, 941, 942, 943] (by decide +kernel) (by decide +kernel)
set_option maxRecDepth 20000 in
theorem gL_law_X5_fitting : GoodIn wsL_law (wsV RL 132 RX5 yX5_fitting wsX5_fitting) := goodIn_app (goodIn_of _ (by decide +kernel)) ggL_law_X5_fitting
