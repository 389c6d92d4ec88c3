set_option maxRecDepth 20000 in
theorem ggL_law_X4_setAsh : GoodIn wsL_law wsX4_setAsh := goodIn_r _ [281, 19, 15, 89, 90, 91, 18, 92, 53, 54, 55, 93, 94, 95, 14, 96, 34, 36, 37, 38, 39, 41, 97, 98, 99, 100, 42, 43, 44, 45, 46, 47, 282, 283, 284, 285, 182, 286, 105, 183, 184, 185, 186, 108, 2, 109, 287, 288, 289, 290, 291, 292, 293, 294, 118, 119, 120, 121, 28, 122, 123, 124, 125, 126, 127, 128, 129, 130, 131, 132, 926, 927, 928, 929, 930, 931, 956, 957, 958, 944, 945, 946, 947, 948, 949, 950, 951, 952, 953, 954, 955] (by decide +kernel) (by decide +kernel)
set_option maxRecDepth 20000 in
theorem gL_law_X4_setAsh : GoodIn wsL_law (wsV RL 52 RX4 yX4_setAsh wsX4_setAsh) := goodIn_app (goodIn_of _ (by decide +kernel)) ggL_law_X4_setAsh
set_option maxRecDepth 20000 in
theorem ggL_law_X5_setAsh : GoodIn wsL_law wsX5_setAsh := goodIn_r _ [298, 195, 299, 137, 76, 196, 197, 198, 5, 199, 140, 141, 142, 155, 156, 157, 158, 159, 160, 161, 77, 300, 301, 302, 303, 151, 152, 153, 154, 932, 933, 934, 935, 936, 937, 938, 939, 940, 941, 942, 943] (by decide +kernel) (by decide +kernel)
set_option maxRecDepth 20000 in
theorem gL_law_X5_setAsh : GoodIn wsL_law (wsV RL 56 RX5 yX5_setAsh wsX5_setAsh) := goodIn_app (goodIn_of _ (by decide +kernel)) ggL_law_X5_setAsh
set_option maxRecDepth 20000 in
theorem ggL_law_X4_removeAsh : GoodIn wsL_law wsX4_removeAsh := goodIn_r _ [307, 19, 15, 89, 90, 91, 18, 92, 53, 54, 55, 93, 94, 95, 14, 96, 34, 36, 37, 38, 39, 41, 97, 98, 99, 100, 42, 43, 44, 45, 46, 47, 308, 309, 310, 311, 182, 106, 183, 184, 185, 186, 291, 292, 293, 294, 287, 288, 289, 290, 118, 119, 120, 2, 121, 28, 122, 123, 124, 125, 126, 127, 128, 129, 130, 131, 132, 926, 927, 928, 929, 930, 931, 956, 957, 958, 944, 945, 946, 947, 948, 949, 950, 951, 952, 953, 954, 955] (by decide +kernel) (by decide +kernel)
set_option maxRecDepth 20000 in
theorem gL_law_X4_removeAsh : GoodIn wsL_law (wsV RL 57 RX4 yX4_removeAsh wsX4_removeAsh) := goodIn_app (goodIn_of _ (by decide +kernel)) ggL_law_X4_removeAsh
set_option maxRecDepth 20000 in
theorem ggL_law_X5_removeAsh : GoodIn wsL_law wsX5_removeAsh := goodIn_r _ [315, 195, 138, 76, 196, 197, 198, 5, 199, 140, 141, 142, 151, 152, 153, 154, 155, 156, 157, 158, 159, 160, 161, 77, 300, 301, 302, 303, 932, 933, 934, 935, 936, 937, 938, 939, 940, 941, 942, 943] (by decide +kernel) (by decide +kernel)
set_option maxRecDepth 20000 in
theorem gL_law_X5_removeAsh : GoodIn wsL_law (wsV RL 60 RX5 yX5_removeAsh wsX5_removeAsh) := goodIn_app (goodIn_of _ (by decide +kernel)) ggL_law_X5_removeAsh
