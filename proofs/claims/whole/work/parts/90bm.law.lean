set_option maxRecDepth 20000 in
theorem ggL_law_X4_depthOf : GoodIn wsL_law wsX4_depthOf := goodIn_r _ [817, 126, 15, 818, 819, 820, 14, 821, 34, 37, 38, 41, 822, 329, 330, 331, 332, 42, 43, 333, 334, 335, 336, 44, 36, 337, 338, 339, 340, 341, 342, 343, 114, 115, 116, 117, 344, 2, 345, 346, 347, 348, 349, 350, 823, 824, 825, 926, 927, 928, 929, 930, 931, 944, 945, 946, 947, 948, 949, 950, 951, 952, 953, 954, 955] (by decide +kernel) (by decide +kernel)
set_option maxRecDepth 20000 in
theorem gL_law_X4_depthOf : GoodIn wsL_law (wsV RL 141 RX4 yX4_depthOf wsX4_depthOf) := goodIn_app (goodIn_of _ (by decide +kernel)) ggL_law_X4_depthOf
set_option maxRecDepth 20000 in
theorem ggL_law_X5_depthOf : GoodIn wsL_law wsX5_depthOf := goodIn_r _ [829, 137, 830, 831, 832, 5, 833, 76, 80, 356, 357, 358, 359, 151, 152, 153, 154, 360, 361, 362, 363, 364, 365, 366, 147, 148, 149, 150, 367, 368, 369, 370, 722, 723, 724, 725, 726, 790, 791, 792, 932, 933, 934, 935, 936, 937, 938, 939, 940, 941, 942, 943] (by decide +kernel) (by decide +kernel)
set_option maxRecDepth 20000 in
theorem gL_law_X5_depthOf : GoodIn wsL_law (wsV RL 144 RX5 yX5_depthOf wsX5_depthOf) := goodIn_app (goodIn_of _ (by decide +kernel)) ggL_law_X5_depthOf
set_option maxRecDepth 20000 in
theorem ggL_law_X4_gasDepthOf : GoodIn wsL_law wsX4_gasDepthOf := goodIn_r _ [837, 126, 15, 838, 839, 840, 14, 841, 34, 822, 37, 38, 41, 801, 802, 342, 803, 329, 330, 331, 332, 42, 43, 333, 334, 335, 336, 44, 36, 337, 338, 339, 340, 341, 343, 114, 115, 116, 117, 344, 2, 345, 346, 347, 348, 349, 350, 805, 714, 715, 716, 717, 39, 823, 824, 825, 926, 927, 928, 929, 930, 931, 944, 945, 946, 947, 948, 949, 950, 951, 952, 953, 954, 955] (by decide +kernel) (by decide +kernel)
set_option maxRecDepth 20000 in
theorem gL_law_X4_gasDepthOf : GoodIn wsL_law (wsV RL 145 RX4 yX4_gasDepthOf wsX4_gasDepthOf) := goodIn_app (goodIn_of _ (by decide +kernel)) ggL_law_X4_gasDepthOf
set_option maxRecDepth 20000 in
theorem ggL_law_X5_gasDepthOf : GoodIn wsL_law wsX5_gasDepthOf := goodIn_r _ [845, 137, 830, 831, 832, 5, 833, 76, 80, 356, 357, 358, 359, 151, 152, 153, 154, 360, 361, 362, 363, 364, 365, 366, 147, 148, 149, 150, 367, 368, 369, 370, 722, 723, 724, 725, 726, 790, 791, 792, 932, 933, 934, 935, 936, 937, 938, 939, 940, 941, 942, 943] (by decide +kernel) (by decide +kernel)
set_option maxRecDepth 20000 in
theorem gL_law_X5_gasDepthOf : GoodIn wsL_law (wsV RL 148 RX5 yX5_gasDepthOf wsX5_gasDepthOf) := goodIn_app (goodIn_of _ (by decide +kernel)) ggL_law_X5_gasDepthOf
