set_option maxRecDepth 20000 in
theorem ggL_law_X4_lead : GoodIn wsL_law wsX4_lead := goodIn_r _ [849, 126, 15, 766, 767, 768, 2, 769, 643, 127, 652, 111, 112, 14, 113, 34, 114, 115, 116, 117, 41, 770, 771, 772, 773, 37, 38, 329, 330, 331, 332, 42, 43, 333, 334, 335, 336, 44, 36, 337, 338, 339, 340, 341, 342, 343, 344, 345, 346, 347, 348, 349, 350, 797, 798, 799, 800, 801, 802, 803, 804, 805, 714, 715, 716, 717, 39, 926, 927, 928, 929, 930, 931, 944, 945, 946, 947, 948, 949, 950, 951, 952, 953, 954, 955] (by decide +kernel) (by decide +kernel)
set_option maxRecDepth 20000 in
theorem gL_law_X4_lead : GoodIn wsL_law (wsV RL 149 RX4 yX4_lead wsX4_lead) := goodIn_app (goodIn_of _ (by decide +kernel)) ggL_law_X4_lead
set_option maxRecDepth 20000 in
theorem ggL_law_X5_lead : GoodIn wsL_law wsX5_lead := goodIn_r _ [853, 137, 143, 144, 145, 5, 146, 76, 147, 148, 149, 150, 151, 152, 153, 154, 140, 141, 142, 778, 779, 780, 781, 138, 782, 783, 784, 785, 786, 787, 788, 789, 441, 442, 443, 444, 356, 357, 358, 359, 360, 361, 362, 363, 364, 365, 366, 367, 368, 369, 370, 790, 791, 792, 810, 811, 812, 813, 722, 723, 724, 725, 726, 932, 933, 934, 935, 936, 937, 938, 939, 940, 941, 942, 943] (by decide +kernel) (by decide +kernel)
set_option maxRecDepth 20000 in
theorem gL_law_X5_lead : GoodIn wsL_law (wsV RL 152 RX5 yX5_lead wsX5_lead) := goodIn_app (goodIn_of _ (by decide +kernel)) ggL_law_X5_lead
set_option maxRecDepth 20000 in
theorem ggL_law_X4_inversions : GoodIn wsL_law wsX4_inversions := goodIn_r _ [857, 15, 858, 859, 860, 14, 861, 34, 41, 862, 798, 799, 800, 801, 802, 342, 803, 804, 771, 772, 773, 37, 38, 329, 330, 331, 332, 42, 43, 333, 334, 335, 336, 44, 36, 337, 338, 339, 340, 341, 343, 114, 115, 116, 117, 344, 2, 345, 346, 347, 348, 349, 350, 805, 714, 715, 716, 717, 39, 926, 927, 928, 929, 930, 931, 944, 945, 946, 947, 948, 949, 950, 951, 952, 953, 954, 955] (by decide +kernel) (by decide +kernel)
set_option maxRecDepth 20000 in
theorem gL_law_X4_inversions : GoodIn wsL_law (wsV RL 153 RX4 yX4_inversions wsX4_inversions) := goodIn_app (goodIn_of _ (by decide +kernel)) ggL_law_X4_inversions
set_option maxRecDepth 20000 in
theorem ggL_law_X5_inversions : GoodIn wsL_law wsX5_inversions := goodIn_r _ [866, 76, 147, 148, 149, 5, 150, 151, 152, 153, 154, 810, 811, 812, 813, 782, 783, 784, 785, 786, 787, 788, 789, 441, 442, 443, 444, 356, 357, 358, 359, 360, 361, 362, 363, 364, 365, 366, 367, 368, 369, 370, 790, 791, 792, 722, 723, 724, 725, 726, 932, 933, 934, 935, 936, 937, 938, 939, 940, 941, 942, 943] (by decide +kernel) (by decide +kernel)
set_option maxRecDepth 20000 in
theorem gL_law_X5_inversions : GoodIn wsL_law (wsV RL 156 RX5 yX5_inversions wsX5_inversions) := goodIn_app (goodIn_of _ (by decide +kernel)) ggL_law_X5_inversions
set_option maxRecDepth 20000 in
theorem ggL_law_X4_acts : GoodIn wsL_law wsX4_acts := goodIn_r _ [870, 28, 926, 927, 928, 929, 930, 931] (by decide +kernel) (by decide +kernel)
set_option maxRecDepth 20000 in
theorem gL_law_X4_acts : GoodIn wsL_law (wsV RL 157 RX4 yX4_acts wsX4_acts) := goodIn_app (goodIn_of _ (by decide +kernel)) ggL_law_X4_acts
