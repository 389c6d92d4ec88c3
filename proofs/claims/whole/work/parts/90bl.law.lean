set_option maxRecDepth 20000 in
theorem ggL_law_X4_age : GoodIn wsL_law wsX4_age := goodIn_r _ [765, 15, 766, 767, 768, 2, 769, 126, 643, 127, 652, 111, 112, 14, 113, 34, 114, 115, 116, 117, 41, 770, 771, 772, 773, 37, 38, 329, 330, 331, 332, 42, 43, 333, 334, 335, 336, 44, 36, 337, 338, 339, 340, 341, 342, 343, 344, 345, 346, 347, 348, 349, 350, 926, 927, 928, 929, 930, 931, 944, 945, 946, 947, 948, 949, 950, 951, 952, 953, 954, 955] (by decide +kernel) (by decide +kernel)
set_option maxRecDepth 20000 in
theorem gL_law_X4_age : GoodIn wsL_law (wsV RL 133 RX4 yX4_age wsX4_age) := goodIn_app (goodIn_of _ (by decide +kernel)) ggL_law_X4_age
set_option maxRecDepth 20000 in
theorem ggL_law_X5_age : GoodIn wsL_law wsX5_age := goodIn_r _ [777, 778, 779, 780, 5, 781, 137, 76, 138, 143, 144, 145, 146, 147, 148, 149, 150, 151, 152, 153, 154, 140, 141, 142, 782, 783, 784, 785, 786, 787, 788, 789, 441, 442, 443, 444, 356, 357, 358, 359, 360, 361, 362, 363, 364, 365, 366, 367, 368, 369, 370, 790, 791, 792, 932, 933, 934, 935, 936, 937, 938, 939, 940, 941, 942, 943] (by decide +kernel) (by decide +kernel)
set_option maxRecDepth 20000 in
theorem gL_law_X5_age : GoodIn wsL_law (wsV RL 136 RX5 yX5_age wsX5_age) := goodIn_app (goodIn_of _ (by decide +kernel)) ggL_law_X5_age
set_option maxRecDepth 20000 in
theorem ggL_law_X4_gasAge : GoodIn wsL_law wsX4_gasAge := goodIn_r _ [796, 15, 766, 767, 768, 2, 769, 126, 643, 127, 652, 111, 112, 14, 113, 34, 114, 115, 116, 117, 41, 797, 798, 799, 800, 801, 802, 342, 803, 804, 771, 772, 773, 37, 38, 329, 330, 331, 332, 42, 43, 333, 334, 335, 336, 44, 36, 337, 338, 339, 340, 341, 343, 344, 345, 346, 347, 348, 349, 350, 805, 714, 715, 716, 717, 39, 926, 927, 928, 929, 930, 931, 944, 945, 946, 947, 948, 949, 950, 951, 952, 953, 954, 955] (by decide +kernel) (by decide +kernel)
set_option maxRecDepth 20000 in
theorem gL_law_X4_gasAge : GoodIn wsL_law (wsV RL 137 RX4 yX4_gasAge wsX4_gasAge) := goodIn_app (goodIn_of _ (by decide +kernel)) ggL_law_X4_gasAge
set_option maxRecDepth 20000 in
theorem ggL_law_X5_gasAge : GoodIn wsL_law wsX5_gasAge := goodIn_r _ [809, 778, 779, 780, 5, 781, 137, 76, 138, 143, 144, 145, 146, 147, 148, 149, 150, 151, 152, 153, 154, 140, 141, 142, 810, 811, 812, 813, 782, 783, 784, 785, 786, 787, 788, 789, 441, 442, 443, 444, 356, 357, 358, 359, 360, 361, 362, 363, 364, 365, 366, 367, 368, 369, 370, 790, 791, 792, 722, 723, 724, 725, 726, 932, 933, 934, 935, 936, 937, 938, 939, 940, 941, 942, 943] (by decide +kernel) (by decide +kernel)
set_option maxRecDepth 20000 in
theorem gL_law_X5_gasAge : GoodIn wsL_law (wsV RL 140 RX5 yX5_gasAge wsX5_gasAge) := goodIn_app (goodIn_of _ (by decide +kernel)) ggL_law_X5_gasAge
