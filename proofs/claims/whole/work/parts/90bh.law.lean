set_option maxRecDepth 20000 in
theorem ggL_law_X5_failure : GoodIn wsL_law wsX5_failure := goodIn_r _ [638, 81, 932, 933, 934, 935, 936, 937, 938, 939, 940, 941, 942, 943] (by decide +kernel) (by decide +kernel)
set_option maxRecDepth 20000 in
theorem gL_law_X5_failure : GoodIn wsL_law (wsV RL 88 RX5 yX5_failure wsX5_failure) := goodIn_app (goodIn_of _ (by decide +kernel)) ggL_law_X5_failure
set_option maxRecDepth 20000 in
theorem ggL_law_X4_layers : GoodIn wsL_law wsX4_layers := goodIn_r _ [642, 15, 643, 926, 927, 928, 929, 930, 931, 944, 945, 946, 947, 948, 949, 950, 951, 952, 953, 954, 955] (by decide +kernel) (by decide +kernel)
set_option maxRecDepth 20000 in
theorem gL_law_X4_layers : GoodIn wsL_law (wsV RL 89 RX4 yX4_layers wsX4_layers) := goodIn_app (goodIn_of _ (by decide +kernel)) ggL_law_X4_layers
set_option maxRecDepth 20000 in
theorem ggL_law_X5_layers : GoodIn wsL_law wsX5_layers := goodIn_r _ [647, 76, 932, 933, 934, 935, 936, 937, 938, 939, 940, 941, 942, 943] (by decide +kernel) (by decide +kernel)
set_option maxRecDepth 20000 in
theorem gL_law_X5_layers : GoodIn wsL_law (wsV RL 92 RX5 yX5_layers wsX5_layers) := goodIn_app (goodIn_of _ (by decide +kernel)) ggL_law_X5_layers
set_option maxRecDepth 20000 in
theorem ggL_law_X4_depth : GoodIn wsL_law wsX4_depth := goodIn_r _ [651, 15, 652, 111, 112, 14, 113, 34, 114, 115, 116, 117, 41, 926, 927, 928, 929, 930, 931, 944, 945, 946, 947, 948, 949, 950, 951, 952, 953, 954, 955] (by decide +kernel) (by decide +kernel)
set_option maxRecDepth 20000 in
theorem gL_law_X4_depth : GoodIn wsL_law (wsV RL 93 RX4 yX4_depth wsX4_depth) := goodIn_app (goodIn_of _ (by decide +kernel)) ggL_law_X4_depth
set_option maxRecDepth 20000 in
theorem ggL_law_X5_depth : GoodIn wsL_law wsX5_depth := goodIn_r _ [656, 143, 144, 145, 5, 146, 76, 147, 148, 149, 150, 151, 152, 153, 154, 932, 933, 934, 935, 936, 937, 938, 939, 940, 941, 942, 943] (by decide +kernel) (by decide +kernel)
set_option maxRecDepth 20000 in
theorem gL_law_X5_depth : GoodIn wsL_law (wsV RL 96 RX5 yX5_depth wsX5_depth) := goodIn_app (goodIn_of _ (by decide +kernel)) ggL_law_X5_depth
set_option maxRecDepth 20000 in
theorem ggL_law_X4_thickness : GoodIn wsL_law wsX4_thickness := goodIn_r _ [660, 15, 661, 125, 662, 184, 185, 14, 186, 34, 926, 927, 928, 929, 930, 931, 944, 945, 946, 947, 948, 949, 950, 951, 952, 953, 954, 955] (by decide +kernel) (by decide +kernel)
set_option maxRecDepth 20000 in
theorem gL_law_X4_thickness : GoodIn wsL_law (wsV RL 97 RX4 yX4_thickness wsX4_thickness) := goodIn_app (goodIn_of _ (by decide +kernel)) ggL_law_X4_thickness
set_option maxRecDepth 20000 in
theorem ggL_law_X5_thickness : GoodIn wsL_law wsX5_thickness := goodIn_r _ [666, 667, 668, 669, 5, 670, 195, 196, 197, 198, 199, 76, 140, 141, 142, 151, 152, 153, 154, 932, 933, 934, 935, 936, 937, 938, 939, 940, 941, 942, 943] (by decide +kernel) (by decide +kernel)
set_option maxRecDepth 20000 in
theorem gL_law_X5_thickness : GoodIn wsL_law (wsV RL 100 RX5 yX5_thickness wsX5_thickness) := goodIn_app (goodIn_of _ (by decide +kernel)) ggL_law_X5_thickness
