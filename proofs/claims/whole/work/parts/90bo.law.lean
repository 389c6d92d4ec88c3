set_option maxRecDepth 20000 in
theorem ggL_law_X5_acts : GoodIn wsL_law wsX5_acts := goodIn_r _ [874, 160, 932, 933, 934, 935, 936, 937, 938, 939, 940, 941, 942, 943] (by decide +kernel) (by decide +kernel)
set_option maxRecDepth 20000 in
theorem gL_law_X5_acts : GoodIn wsL_law (wsV RL 160 RX5 yX5_acts wsX5_acts) := goodIn_app (goodIn_of _ (by decide +kernel)) ggL_law_X5_acts
set_option maxRecDepth 20000 in
theorem ggL_law_X4_seal : GoodIn wsL_law wsX4_seal := goodIn_r _ [878, 15, 879, 880, 881, 14, 882, 34, 37, 38, 329, 330, 331, 332, 42, 43, 333, 334, 335, 336, 44, 36, 41, 337, 338, 339, 340, 341, 342, 343, 114, 115, 116, 117, 344, 2, 345, 346, 347, 348, 349, 350, 926, 927, 928, 929, 930, 931, 944, 945, 946, 947, 948, 949, 950, 951, 952, 953, 954, 955] (by decide +kernel) (by decide +kernel)
set_option maxRecDepth 20000 in
theorem gL_law_X4_seal : GoodIn wsL_law (wsV RL 161 RX4 yX4_seal wsX4_seal) := goodIn_app (goodIn_of _ (by decide +kernel)) ggL_law_X4_seal
set_option maxRecDepth 20000 in
theorem ggL_law_X5_seal : GoodIn wsL_law wsX5_seal := goodIn_r _ [886, 76, 887, 888, 441, 442, 443, 5, 444, 356, 357, 358, 359, 151, 152, 153, 154, 360, 361, 362, 363, 364, 365, 366, 147, 148, 149, 150, 367, 368, 369, 370, 932, 933, 934, 935, 936, 937, 938, 939, 940, 941, 942, 943] (by decide +kernel) (by decide +kernel)
set_option maxRecDepth 20000 in
theorem gL_law_X5_seal : GoodIn wsL_law (wsV RL 164 RX5 yX5_seal wsX5_seal) := goodIn_app (goodIn_of _ (by decide +kernel)) ggL_law_X5_seal
set_option maxRecDepth 20000 in
theorem ggL_law_X4_bestFunction : GoodIn wsL_law wsX4_bestFunction := goodIn_r _ [892, 15, 29, 694, 893, 288, 289, 14, 290, 34, 291, 292, 293, 294, 45, 183, 184, 185, 186, 894, 895, 896, 897, 411, 412, 342, 413, 329, 330, 331, 332, 42, 43, 333, 334, 335, 336, 44, 36, 41, 337, 338, 339, 340, 341, 343, 114, 115, 116, 117, 344, 2, 345, 346, 347, 348, 349, 350, 926, 927, 928, 929, 930, 931, 944, 945, 946, 947, 948, 949, 950, 951, 952, 953, 954, 955] (by decide +kernel) (by decide +kernel)
set_option maxRecDepth 20000 in
theorem gL_law_X4_bestFunction : GoodIn wsL_law (wsV RL 165 RX4 yX4_bestFunction wsX4_bestFunction) := goodIn_app (goodIn_of _ (by decide +kernel)) ggL_law_X4_bestFunction
set_option maxRecDepth 20000 in
theorem ggL_law_X5_bestFunction : GoodIn wsL_law wsX5_bestFunction := goodIn_r _ [901, 80, 76, 300, 301, 302, 5, 303, 151, 152, 153, 154, 902, 903, 904, 905, 437, 438, 439, 440, 441, 442, 443, 444, 356, 357, 358, 359, 360, 361, 362, 363, 364, 365, 366, 147, 148, 149, 150, 367, 368, 369, 370, 430, 431, 432, 932, 933, 934, 935, 936, 937, 938, 939, 940, 941, 942, 943] (by decide +kernel) (by decide +kernel)
set_option maxRecDepth 20000 in
theorem gL_law_X5_bestFunction : GoodIn wsL_law (wsV RL 168 RX5 yX5_bestFunction wsX5_bestFunction) := goodIn_app (goodIn_of _ (by decide +kernel)) ggL_law_X5_bestFunction
