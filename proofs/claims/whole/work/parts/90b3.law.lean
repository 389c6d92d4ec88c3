set_option maxRecDepth 20000 in
theorem ggL_law_X5_age : GoodIn wsL_law wsX5_age := goodIn_r _ [777, 778, 779, 780, 5, 781, 137, 76, 138, 143, 144, 145, 146, 147, 148, 149, 150, 151, 152, 153, 154, 140, 141, 142, 782, 783, 784, 785, 786, 787, 788, 789, 441, 442, 443, 444, 356, 357, 358, 359, 360, 361, 362, 363, 364, 365, 366, 367, 368, 369, 370, 790, 791, 792, 932, 933, 934, 935, 936, 937, 938, 939, 940, 941, 942, 943] (by decide +kernel) (by decide +kernel)
set_option maxRecDepth 20000 in
theorem gL_law_X5_age : GoodIn wsL_law (wsV RL 136 RX5 yX5_age wsX5_age) := goodIn_app (goodIn_of _ (by decide +kernel)) ggL_law_X5_age
set_option maxRecDepth 20000 in
theorem ggL_law_X4_gasAge : GoodIn wsL_law wsX4_gasAge := goodIn_r _ [796, 15, 766, 767, 768, 2, 769, 126, 643, 127, 652, 111, 112, 14, 113, 34, 114, 115, 116, 117, 41, 797, 798, 799, 800, 801, 802, 342, 803, 804, 771, 772, 773, 37, 38, 329, 330, 331, 332, 42, 43, 333, 334, 335, 336, 44, 36, 337, 338, 339, 340, 341, 343, 344, 345, 346, 347, 348, 349, 350, 805, 714, 715, 716, 717, 39, 926, 927, 928, 929, 930, 931, 944, 945, 946, 947, 948, 949, 950, 951, 952, 953, 954, 955] (by decide +kernel) (by decide +kernel)
set_option maxRecDepth 20000 in
theorem gL_law_X4_gasAge : GoodIn wsL_law (wsV RL 137 RX4 yX4_gasAge wsX4_gasAge) := goodIn_app (goodIn_of _ (by decide +kernel)) ggL_law_X4_gasAge
set_option maxRecDepth 20000 in
theorem ggL_law_X5_gasAge : GoodIn wsL_law wsX5_gasAge := goodIn_r _ [809, 778, 779, 780, 5, 781, 137, 76, 138, 143, 144, 145, 146, 147, 148, 149, 150, 151, 152, 153, 154, 140, 141, 142, 810, 811, 812, 813, 782, 783, 784, 785, 786, 787, 788, 789, 441, 442, 443, 444, 356, 357, 358, 359, 360, 361, 362, 363, 364, 365, 366, 367, 368, 369, 370, 790, 791, 792, 722, 723, 724, 725, 726, 932, 933, 934, 935, 936, 937, 938, 939, 940, 941, 942, 943] (by decide +kernel) (by decide +kernel)
set_option maxRecDepth 20000 in
theorem gL_law_X5_gasAge : GoodIn wsL_law (wsV RL 140 RX5 yX5_gasAge wsX5_gasAge) := goodIn_app (goodIn_of _ (by decide +kernel)) ggL_law_X5_gasAge
set_option maxRecDepth 20000 in
theorem ggL_law_X4_depthOf : GoodIn wsL_law wsX4_depthOf := goodIn_r _ [817, 126, 15, 818, 819, 820, 14, 821, 34, 37, 38, 41, 822, 329, 330, 331, 332, 42, 43, 333, 334, 335, 336, 44, 36, 337, 338, 339, 340, 341, 342, 343, 114, 115, 116, 117, 344, 2, 345, 346, 347, 348, 349, 350, 823, 824, 825, 926, 927, 928, 929, 930, 931, 944, 945, 946, 947, 948, 949, 950, 951, 952, 953, 954, 955] (by decide +kernel) (by decide +kernel)
set_option maxRecDepth 20000 in
theorem gL_law_X4_depthOf : GoodIn wsL_law (wsV RL 141 RX4 yX4_depthOf wsX4_depthOf) := goodIn_app (goodIn_of _ (by decide +kernel)) ggL_law_X4_depthOf
set_option maxRecDepth 20000 in
theorem ggL_law_X5_depthOf : GoodIn wsL_law wsX5_depthOf := goodIn_r _ [829, 137, 830, 831, 832, 5, 833, 76, 80, 356, 357, 358, 359, 151, 152, 153, 154, 360, 361, 362, 363, 364, 365, 366, 147, 148, 149, 150, 367, 368, 369, 370, 722, 723, 724, 725, 726, 790, 791, 792, 932, 933, 934, 935, 936, 937, 938, 939, 940, 941, 942, 943] (by decide +kernel) (by decide +kernel)
set_option maxRecDepth 20000 in
theorem gL_law_X5_depthOf : GoodIn wsL_law (wsV RL 144 RX5 yX5_depthOf wsX5_depthOf) := goodIn_app (goodIn_of _ (by decide +kernel)) ggL_law_X5_depthOf
set_option maxRecDepth 20000 in
theorem ggL_law_X4_gasDepthOf : GoodIn wsL_law wsX4_gasDepthOf := goodIn_r _ [837, 126, 15, 838, 839, 840, 14, 841, 34, 822, 37, 38, 41, 801, 802, 342, 803, 329, 330, 331, 332, 42, 43, 333, 334, 335, 336, 44, 36, 337, 338, 339, 340, 341, 343, 114, 115, 116, 117, 344, 2, 345, 346, 347, 348, 349, 350, 805, 714, 715, 716, 717, 39, 823, 824, 825, 926, 927, 928, 929, 930, 931, 944, 945, 946, 947, 948, 949, 950, 951, 952, 953, 954, 955] (by decide +kernel) (by decide +kernel)
set_option maxRecDepth 20000 in
theorem gL_law_X4_gasDepthOf : GoodIn wsL_law (wsV RL 145 RX4 yX4_gasDepthOf wsX4_gasDepthOf) := goodIn_app (goodIn_of _ (by decide +kernel)) ggL_law_X4_gasDepthOf
set_option maxRecDepth 20000 in
theorem ggL_law_X5_gasDepthOf : GoodIn wsL_law wsX5_gasDepthOf := goodIn_r _ [845, 137, 830, 831, 832, 5, 833, 76, 80, 356, 357, 358, 359, 151, 152, 153, 154, 360, 361, 362, 363, 364, 365, 366, 147, 148, 149, 150, 367, 368, 369, 370, 722, 723, 724, 725, 726, 790, 791, 792, 932, 933, 934, 935, 936, 937, 938, 939, 940, 941, 942, 943] (by decide +kernel) (by decide +kernel)
set_option maxRecDepth 20000 in
theorem gL_law_X5_gasDepthOf : GoodIn wsL_law (wsV RL 148 RX5 yX5_gasDepthOf wsX5_gasDepthOf) := goodIn_app (goodIn_of _ (by decide +kernel)) ggL_law_X5_gasDepthOf
set_option maxRecDepth 20000 in
theorem ggL_law_X4_lead : GoodIn wsL_law wsX4_lead := goodIn_r _ [849, 126, 15, 766, 767, 768, 2, 769, 643, 127, 652, 111, 112, 14, 113, 34, 114, 115, 116, 117, 41, 770, 771, 772, 773, 37, 38, 329, 330, 331, 332, 42, 43, 333, 334, 335, 336, 44, 36, 337, 338, 339, 340, 341, 342, 343, 344, 345, 346, 347, 348, 349, 350, 797, 798, 799, 800, 801, 802, 803, 804, 805, 714, 715, 716, 717, 39, 926, 927, 928, 929, 930, 931, 944, 945, 946, 947, 948, 949, 950, 951, 952, 953, 954, 955] (by decide +kernel) (by decide +kernel)
set_option maxRecDepth 20000 in
theorem gL_law_X4_lead : GoodIn wsL_law (wsV RL 149 RX4 yX4_lead wsX4_lead) := goodIn_app (goodIn_of _ (by decide +kernel)) ggL_law_X4_lead
set_option maxRecDepth 20000 in
theorem ggL_law_X5_lead : GoodIn wsL_law wsX5_lead := goodIn_r _ [853, 137, 143, 144, 145, 5, 146, 76, 147, 148, 149, 150, 151, 152, 153, 154, 140, 141, 142, 778, 779, 780, 781, 138, 782, 783, 784, 785, 786, 787, 788, 789, 441, 442, 443, 444, 356, 357, 358, 359, 360, 361, 362, 363, 364, 365, 366, 367, 368, 369, 370, 790, 791, 792, 810, 811, 812, 813, 722, 723, 724, 725, 726, 932, 933, 934, 935, 936, 937, 938, 939, 940, 941, 942, 943] (by decide +kernel) (by decide +kernel)
set_option maxRecDepth 20000 in
theorem gL_law_X5_lead : GoodIn wsL_law (wsV RL 152 RX5 yX5_lead wsX5_lead) := goodIn_app (goodIn_of _ (by decide +kernel)) ggL_law_X5_lead
set_option maxRecDepth 20000 in
theorem ggL_law_X4_inversions : GoodIn wsL_law wsX4_inversions := goodIn_r _ [857, 15, 858, 859, 860, 14, 861, 34, 41, 862, 798, 799, 800, 801, 802, 342, 803, 804, 771, 772, 773, 37, 38, 329, 330, 331, 332, 42, 43, 333, 334, 335, 336, 44, 36, 337, 338, 339, 340, 341, 343, 114, 115, 116, 117, 344, 2, 345, 346, 347, 348, 349, 350, 805, 714, 715, 716, 717, 39, 926, 927, 928, 929, 930, 931, 944, 945, 946, 947, 948, 949, 950, 951, 952, 953, 954, 955] (by decide +kernel) (by decide +kernel)
set_option maxRecDepth 20000 in
theorem gL_law_X4_inversions : GoodIn wsL_law (wsV RL 153 RX4 yX4_inversions wsX4_inversions) := goodIn_app (goodIn_of _ (by decide +kernel)) ggL_law_X4_inversions
set_option maxRecDepth 20000 in
theorem ggL_law_X5_inversions : GoodIn wsL_law wsX5_inversions := goodIn_r _ [866, 76, 147, 148, 149, 5, 150, 151, 152, 153, 154, 810, 811, 812, 813, 782, 783, 784, 785, 786, 787, 788, 789, 441, 442, 443, 444, 356, 357, 358, 359, 360, 361, 362, 363, 364, 365, 366, 367, 368, 369, 370, 790, 791, 792, 722, 723, 724, 725, 726, 932, 933, 934, 935, 936, 937, 938, 939, 940, 941, 942, 943] (by decide +kernel) (by decide +kernel)
set_option maxRecDepth 20000 in
theorem gL_law_X5_inversions : GoodIn wsL_law (wsV RL 156 RX5 yX5_inversions wsX5_inversions) := goodIn_app (goodIn_of _ (by decide +kernel)) ggL_law_X5_inversions
set_option maxRecDepth 20000 in
theorem ggL_law_X4_acts : GoodIn wsL_law wsX4_acts := goodIn_r _ [870, 28, 926, 927, 928, 929, 930, 931] (by decide +kernel) (by decide +kernel)
set_option maxRecDepth 20000 in
theorem gL_law_X4_acts : GoodIn wsL_law (wsV RL 157 RX4 yX4_acts wsX4_acts) := goodIn_app (goodIn_of _ (by decide +kernel)) ggL_law_X4_acts
set_option maxRecDepth 20000 in
theorem ggL_law_X5_acts : GoodIn wsL_law wsX5_acts := goodIn_r _ [874, 160, 932, 933, 934, 935, 936, 937, 938, 939, 940, 941, 942, 943] (by decide +kernel) (by decide +kernel)
set_option maxRecDepth 20000 in
theorem gL_law_X5_acts : GoodIn wsL_law (wsV RL 160 RX5 yX5_acts wsX5_acts) := goodIn_app (goodIn_of _ (by decide +kernel)) ggL_law_X5_acts
set_option maxRecDepth 20000 in
theorem ggL_law_X4_seal : GoodIn wsL_law wsX4_seal := goodIn_r _ [878, 15, 879, 880, 881, 14, 882, 34, 37, 38, 329, 330, 331, 332, 42, 43, 333, 334, 335, 336, 44, 36, 41, 337, 338, 339, 340, 341, 342, 343, 114, 115, 116, 117, 344, 2, 345, 346, 347, 348, 349, 350, 926, 927, 928, 929, 930, 931, 944, 945, 946, 947, 948, 949, 950, 951, 952, 953, 954, 955] (by decide +kernel) (by decide +kernel)
set_option maxRecDepth 20000 in
theorem gL_law_X4_seal : GoodIn wsL_law (wsV RL 161 RX4 yX4_seal wsX4_seal) := goodIn_app (goodIn_of _ (by decide +kernel)) ggL_law_X4_seal
set_option maxRecDepth 20000 in
theorem ggL_law_X5_seal : GoodIn wsL_law wsX5_seal := goodIn_r _ [886, 76, 887, 888, 441, 442, 443, 5, 444, 356, 357, 358, 359, 151, 152, 153, 154, 360, 361, 362, 363, 364, 365, 366, 147, 148, 149, 150, 367, 368, 369, 370, 932, 933, 934, 935, 936, 937, 938, 939, 940, 941, 942, 943] (by decide +kernel) (by decide +kernel)
set_option maxRecDepth 20000 in
theorem gL_law_X5_seal : GoodIn wsL_law (wsV RL 164 RX5 yX5_seal wsX5_seal) := goodIn_app (goodIn_of _ (by decide +kernel)) ggL_law_X5_seal
set_option maxRecDepth 20000 in
theorem ggL_law_X4_bestFunction : GoodIn wsL_law wsX4_bestFunction := goodIn_r _ [892, 15, 29, 694, 893, 288, 289, 14, 290, 34, 291, 292, 293, 294, 45, 183, 184, 185, 186, 894, 895, 896, 897, 411, 412, 342, 413, 329, 330, 331, 332, 42, 43, 333, 334, 335, 336, 44, 36, 41, 337, 338, 339, 340, 341, 343, 114, 115, 116, 117, 344, 2, 345, 346, 347, 348, 349, 350, 926, 927, 928, 929, 930, 931, 944, 945, 946, 947, 948, 949, 950, 951, 952, 953, 954, 955] (by decide +kernel) (by decide +kernel)
set_option maxRecDepth 20000 in
theorem gL_law_X4_bestFunction : GoodIn wsL_law (wsV RL 165 RX4 yX4_bestFunction wsX4_bestFunction) := goodIn_app (goodIn_of _ (by decide +kernel)) ggL_law_X4_bestFunction
set_option maxRecDepth 20000 in
theorem ggL_law_X5_bestFunction : GoodIn wsL_law wsX5_bestFunction := goodIn_r _ [901, 80, 76, 300, 301, 302, 5, 303, 151, 152, 153, 154, 902, 903, 904, 905, 437, 438, 439, 440, 441, 442, 443, 444, 356, 357, 358, 359, 360, 361, 362, 363, 364, 365, 366, 147, 148, 149, 150, 367, 368, 369, 370, 430, 431, 432, 932, 933, 934, 935, 936, 937, 938, 939, 940, 941, 942, 943] (by decide +kernel) (by decide +kernel)
set_option maxRecDepth 20000 in
theorem gL_law_X5_bestFunction : GoodIn wsL_law (wsV RL 168 RX5 yX5_bestFunction wsX5_bestFunction) := goodIn_app (goodIn_of _ (by decide +kernel)) ggL_law_X5_bestFunction
set_option maxRecDepth 20000 in
theorem ggL_law_X4_bestKink : GoodIn wsL_law wsX4_bestKink := goodIn_r _ [909, 15, 29, 893, 288, 289, 14, 290, 34, 291, 292, 293, 294, 45, 183, 184, 185, 186, 894, 895, 896, 897, 411, 412, 342, 413, 329, 330, 331, 332, 42, 43, 333, 334, 335, 336, 44, 36, 41, 337, 338, 339, 340, 341, 343, 114, 115, 116, 117, 344, 2, 345, 346, 347, 348, 349, 350, 926, 927, 928, 929, 930, 931, 944, 945, 946, 947, 948, 949, 950, 951, 952, 953, 954, 955] (by decide +kernel) (by decide +kernel)
set_option maxRecDepth 20000 in
theorem gL_law_X4_bestKink : GoodIn wsL_law (wsV RL 169 RX4 yX4_bestKink wsX4_bestKink) := goodIn_app (goodIn_of _ (by decide +kernel)) ggL_law_X4_bestKink
set_option maxRecDepth 20000 in
theorem ggL_law_X5_bestKink : GoodIn wsL_law wsX5_bestKink := goodIn_r _ [913, 80, 76, 300, 301, 302, 5, 303, 151, 152, 153, 154, 902, 903, 904, 905, 437, 438, 439, 440, 441, 442, 443, 444, 356, 357, 358, 359, 360, 361, 362, 363, 364, 365, 366, 147, 148, 149, 150, 367, 368, 369, 370, 430, 431, 432, 932, 933, 934, 935, 936, 937, 938, 939, 940, 941, 942, 943] (by decide +kernel) (by decide +kernel)
set_option maxRecDepth 20000 in
theorem gL_law_X5_bestKink : GoodIn wsL_law (wsV RL 172 RX5 yX5_bestKink wsX5_bestKink) := goodIn_app (goodIn_of _ (by decide +kernel)) ggL_law_X5_bestKink
set_option maxRecDepth 20000 in
theorem ggL_law_X4_neededAccumulation : GoodIn wsL_law wsX4_neededAccumulation := goodIn_r _ [917, 15, 125, 29, 23, 662, 184, 185, 14, 186, 34, 744, 745, 746, 747, 47, 183, 918, 919, 920, 921, 43, 37, 38, 387, 388, 389, 22, 390, 59, 346, 347, 348, 349, 350, 41, 333, 334, 335, 336, 44, 36, 337, 338, 339, 340, 341, 342, 343, 114, 115, 116, 117, 344, 2, 345, 391, 392, 393, 394, 61, 62, 395, 396, 397, 398, 399, 400, 401, 402, 403, 404, 405, 406, 926, 927, 928, 929, 930, 931, 944, 945, 946, 947, 948, 949, 950, 951, 952, 953, 954, 955, 959, 960, 961] (by decide +kernel) (by decide +kernel)
set_option maxRecDepth 20000 in
theorem gL_law_X4_neededAccumulation : GoodIn wsL_law (wsV RL 173 RX4 yX4_neededAccumulation wsX4_neededAccumulation) := goodIn_app (goodIn_of _ (by decide +kernel)) ggL_law_X4_neededAccumulation
set_option maxRecDepth 20000 in
theorem ggL_law_X5_neededAccumulation : GoodIn wsL_law wsX5_neededAccumulation := goodIn_r _ [925, 195, 80, 196, 197, 198, 5, 199, 76, 140, 141, 142, 151, 152, 153, 154, 360, 361, 362, 363, 364, 365, 366, 147, 148, 149, 150, 367, 368, 369, 370, 430, 431, 432, 932, 933, 934, 935, 936, 937, 938, 939, 940, 941, 942, 943] (by decide +kernel) (by decide +kernel)
set_option maxRecDepth 20000 in
theorem gL_law_X5_neededAccumulation : GoodIn wsL_law (wsV RL 176 RX5 yX5_neededAccumulation wsX5_neededAccumulation) := goodIn_app (goodIn_of _ (by decide +kernel)) ggL_law_X5_neededAccumulation
