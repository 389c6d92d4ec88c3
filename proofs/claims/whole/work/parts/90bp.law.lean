set_option maxRecDepth 20000 in
theorem ggL_law_X4_bestKink : GoodIn wsL_law wsX4_bestKink := goodIn_r _ [909, 15, 29, 893, 288, 289, 14, 290, 34, 291, 292, 293, 294, 45, 183, 184, 185, 186, 894, 895, 896, 897, 411, 412, 342, 413, 329, 330, 331, 332, 42, 43, 333, 334, 335, 336, 44, 36, 41, 337, 338, 339, 340, 341, 343, 114, 115, 116, 117, 344, 2, 345, 346, 347, 348, 349, 350, 926, 927, 928, 929, 930, 931, 944, 945, 946, 947, 948, 949, 950, 951, 952, 953, 954, 955] (by decide +kernel) (by decide +kernel)
set_option maxRecDepth 20000 in
theorem gL_law_X4_bestKink : GoodIn wsL_law (wsV RL 169 RX4 yX4_bestKink wsX4_bestKink) := goodIn_app (goodIn_of _ (by decide +kernel)) ggL_law_X4_bestKink
set_option maxRecDepth 20000 in
theorem ggL_law_X5_bestKink : GoodIn wsL_law wsX5_bestKink := goodIn_r _ [913, 80, 76, 300, 301, 302, 5, 303, 151, 152, 153, 154, 902, 903, 904, 905, 437, 438, 439, 440, 441, 442, 443, 444, 356, 357, 358, 359, 360, 361, 362, 363, 364, 365, 366, 147, 148, 149, 150, 367, 368, 369, 370, 430, 431, 432, 932, 933, 934, 935, 936, 937, 938, 939, 940, 941, 942, 943] (by decide +kernel) (by decide +kernel)
set_option maxRecDepth 20000 in
theorem gL_law_X5_bestKink : GoodIn wsL_law (wsV RL 172 RX5 yX5_bestKink wsX5_bestKink) := goodIn_app (goodIn_of _ (by decide +kernel)) ggL_law_X5_bestKink
set_option maxRecDepth 20000 in
theorem ggL_law_X4_neededAccumulation : GoodIn wsL_law wsX4_neededAccumulation := goodIn_r _ [917, 15, 125, 29, 23, 662, 184, 185, 14, 186, 34, 744, 745, 746, 747, 47, 183, 918, 919, 920, 921, 43, 37, 38, 387, 388, 389, 22, 390, 59, 346, 347, 348, 349, 350, 41, 333, 334, 335, 336, 44, 36, 337, 338, 339, 340, 341, 342, 343, 114, 115, 116, 117, 344, 2, 345, 391, 392, 393, 394, 61, 62, 395, 396, 397, 398, 399, 400, 401, 402, 403, 404, 405, 406, 926, 927, 928, 929, 930, 931, 944, 945, 946, 947, 948, 949, 950, 951, 952, 953, 954, 955, 959, 960, 961] (by decide +kernel) (by decide +kernel)
set_option maxRecDepth 20000 in
theorem gL_law_X4_neededAccumulation : GoodIn wsL_law (wsV RL 173 RX4 yX4_neededAccumulation wsX4_neededAccumulation) := goodIn_app (goodIn_of _ (by decide +kernel)) ggL_law_X4_neededAccumulation
set_option maxRecDepth 20000 in
theorem ggL_law_X5_neededAccumulation : GoodIn wsL_law wsX5_neededAccumulation := goodIn_r _ [925, 195, 80, 196, 197, 198, 5, 199, 76, 140, 141, 142, 151, 152, 153, 154, 360, 361, 362, 363, 364, 365, 366, 147, 148, 149, 150, 367, 368, 369, 370, 430, 431, 432, 932, 933, 934, 935, 936, 937, 938, 939, 940, 941, 942, 943] (by decide +kernel) (by decide +kernel)
set_option maxRecDepth 20000 in
theorem gL_law_X5_neededAccumulation : GoodIn wsL_law (wsV RL 176 RX5 yX5_neededAccumulation wsX5_neededAccumulation) := goodIn_app (goodIn_of _ (by decide +kernel)) ggL_law_X5_neededAccumulation
