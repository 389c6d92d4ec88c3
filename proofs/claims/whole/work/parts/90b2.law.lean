set_option maxRecDepth 20000 in
theorem ggL_law_X5_depth : GoodIn wsL_law wsX5_depth := goodIn_r _ [656, 143, 144, 145, 5, 146, 76, 147, 148, 149, 150, 151, 152, 153, 154, 932, 933, 934, 935, 936, 937, 938, 939, 940, 941, 942, 943] (by decide +kernel) (by decide +kernel)
set_option maxRecDepth 20000 in
theorem gL_law_X5_depth : GoodIn wsL_law (wsV RL 96 RX5 yX5_depth wsX5_depth) := goodIn_app (goodIn_of _ (by decide +kernel)) ggL_law_X5_depth
set_option maxRecDepth 20000 in
theorem ggL_law_X4_thickness : GoodIn wsL_law wsX4_thickness := goodIn_r _ [660, 15, 661, 125, 662, 184, 185, 14, 186, 34, 926, 927, 928, 929, 930, 931, 944, 945, 946, 947, 948, 949, 950, 951, 952, 953, 954, 955] (by decide +kernel) (by decide +kernel)
set_option maxRecDepth 20000 in
theorem gL_law_X4_thickness : GoodIn wsL_law (wsV RL 97 RX4 yX4_thickness wsX4_thickness) := goodIn_app (goodIn_of _ (by decide +kernel)) ggL_law_X4_thickness
set_option maxRecDepth 20000 in
theorem ggL_law_X5_thickness : GoodIn wsL_law wsX5_thickness := goodIn_r _ [666, 667, 668, 669, 5, 670, 195, 196, 197, 198, 199, 76, 140, 141, 142, 151, 152, 153, 154, 932, 933, 934, 935, 936, 937, 938, 939, 940, 941, 942, 943] (by decide +kernel) (by decide +kernel)
set_option maxRecDepth 20000 in
theorem gL_law_X5_thickness : GoodIn wsL_law (wsV RL 100 RX5 yX5_thickness wsX5_thickness) := goodIn_app (goodIn_of _ (by decide +kernel)) ggL_law_X5_thickness
set_option maxRecDepth 20000 in
theorem ggL_law_X4_accumulation : GoodIn wsL_law wsX4_accumulation := goodIn_r _ [674, 15, 675, 125, 662, 184, 185, 14, 186, 34, 926, 927, 928, 929, 930, 931, 944, 945, 946, 947, 948, 949, 950, 951, 952, 953, 954, 955] (by decide +kernel) (by decide +kernel)
set_option maxRecDepth 20000 in
theorem gL_law_X4_accumulation : GoodIn wsL_law (wsV RL 101 RX4 yX4_accumulation wsX4_accumulation) := goodIn_app (goodIn_of _ (by decide +kernel)) ggL_law_X4_accumulation
set_option maxRecDepth 20000 in
theorem ggL_law_X5_accumulation : GoodIn wsL_law wsX5_accumulation := goodIn_r _ [679, 667, 668, 669, 5, 670, 195, 196, 197, 198, 199, 76, 140, 141, 142, 151, 152, 153, 154, 932, 933, 934, 935, 936, 937, 938, 939, 940, 941, 942, 943] (by decide +kernel) (by decide +kernel)
set_option maxRecDepth 20000 in
theorem gL_law_X5_accumulation : GoodIn wsL_law (wsV RL 104 RX5 yX5_accumulation wsX5_accumulation) := goodIn_app (goodIn_of _ (by decide +kernel)) ggL_law_X5_accumulation
set_option maxRecDepth 20000 in
theorem ggL_law_X4_correction : GoodIn wsL_law wsX4_correction := goodIn_r _ [683, 15, 684, 125, 662, 184, 185, 14, 186, 34, 926, 927, 928, 929, 930, 931, 944, 945, 946, 947, 948, 949, 950, 951, 952, 953, 954, 955] (by decide +kernel) (by decide +kernel)
set_option maxRecDepth 20000 in
theorem gL_law_X4_correction : GoodIn wsL_law (wsV RL 105 RX4 yX4_correction wsX4_correction) := goodIn_app (goodIn_of _ (by decide +kernel)) ggL_law_X4_correction
set_option maxRecDepth 20000 in
theorem ggL_law_X5_correction : GoodIn wsL_law wsX5_correction := goodIn_r _ [688, 667, 668, 669, 5, 670, 195, 196, 197, 198, 199, 76, 140, 141, 142, 151, 152, 153, 154, 932, 933, 934, 935, 936, 937, 938, 939, 940, 941, 942, 943] (by decide +kernel) (by decide +kernel)
set_option maxRecDepth 20000 in
theorem gL_law_X5_correction : GoodIn wsL_law (wsV RL 108 RX5 yX5_correction wsX5_correction) := goodIn_app (goodIn_of _ (by decide +kernel)) ggL_law_X5_correction
set_option maxRecDepth 20000 in
theorem ggL_law_X4_thinning : GoodIn wsL_law wsX4_thinning := goodIn_r _ [692, 15, 693, 694, 125, 662, 184, 185, 14, 186, 34, 695, 334, 335, 336, 44, 36, 41, 337, 338, 339, 340, 341, 342, 343, 114, 115, 116, 117, 344, 2, 345, 926, 927, 928, 929, 930, 931, 944, 945, 946, 947, 948, 949, 950, 951, 952, 953, 954, 955] (by decide +kernel) (by decide +kernel)
set_option maxRecDepth 20000 in
theorem gL_law_X4_thinning : GoodIn wsL_law (wsV RL 109 RX4 yX4_thinning wsX4_thinning) := goodIn_app (goodIn_of _ (by decide +kernel)) ggL_law_X4_thinning
set_option maxRecDepth 20000 in
theorem ggL_law_X5_thinning : GoodIn wsL_law wsX5_thinning := goodIn_r _ [699, 195, 196, 197, 198, 5, 199, 76, 140, 141, 142, 360, 361, 362, 363, 364, 365, 366, 151, 152, 153, 154, 147, 148, 149, 150, 932, 933, 934, 935, 936, 937, 938, 939, 940, 941, 942, 943] (by decide +kernel) (by decide +kernel)
set_option maxRecDepth 20000 in
theorem gL_law_X5_thinning : GoodIn wsL_law (wsV RL 112 RX5 yX5_thinning wsX5_thinning) := goodIn_app (goodIn_of _ (by decide +kernel)) ggL_law_X5_thinning
set_option maxRecDepth 20000 in
theorem ggL_law_X4_years : GoodIn wsL_law wsX4_years := goodIn_r _ [703, 15, 693, 694, 125, 662, 184, 185, 14, 186, 34, 704, 330, 331, 332, 42, 43, 333, 334, 335, 336, 44, 36, 41, 337, 338, 339, 340, 341, 342, 343, 114, 115, 116, 117, 344, 2, 345, 346, 347, 348, 349, 350, 926, 927, 928, 929, 930, 931, 944, 945, 946, 947, 948, 949, 950, 951, 952, 953, 954, 955] (by decide +kernel) (by decide +kernel)
set_option maxRecDepth 20000 in
theorem gL_law_X4_years : GoodIn wsL_law (wsV RL 113 RX4 yX4_years wsX4_years) := goodIn_app (goodIn_of _ (by decide +kernel)) ggL_law_X4_years
set_option maxRecDepth 20000 in
theorem ggL_law_X5_years : GoodIn wsL_law wsX5_years := goodIn_r _ [708, 195, 196, 197, 198, 5, 199, 76, 140, 141, 142, 356, 357, 358, 359, 151, 152, 153, 154, 360, 361, 362, 363, 364, 365, 366, 147, 148, 149, 150, 367, 368, 369, 370, 932, 933, 934, 935, 936, 937, 938, 939, 940, 941, 942, 943] (by decide +kernel) (by decide +kernel)
set_option maxRecDepth 20000 in
theorem gL_law_X5_years : GoodIn wsL_law (wsV RL 116 RX5 yX5_years wsX5_years) := goodIn_app (goodIn_of _ (by decide +kernel)) ggL_law_X5_years
set_option maxRecDepth 20000 in
theorem ggL_law_X4_delay : GoodIn wsL_law wsX4_delay := goodIn_r _ [712, 15, 125, 662, 184, 185, 14, 186, 34, 713, 714, 715, 716, 717, 39, 42, 43, 344, 2, 345, 926, 927, 928, 929, 930, 931, 944, 945, 946, 947, 948, 949, 950, 951, 952, 953, 954, 955] (by decide +kernel) (by decide +kernel)
set_option maxRecDepth 20000 in
theorem gL_law_X4_delay : GoodIn wsL_law (wsV RL 117 RX4 yX4_delay wsX4_delay) := goodIn_app (goodIn_of _ (by decide +kernel)) ggL_law_X4_delay
set_option maxRecDepth 20000 in
theorem ggL_law_X5_delay : GoodIn wsL_law wsX5_delay := goodIn_r _ [721, 195, 196, 197, 198, 5, 199, 76, 140, 141, 142, 722, 723, 724, 725, 726, 151, 152, 153, 154, 932, 933, 934, 935, 936, 937, 938, 939, 940, 941, 942, 943] (by decide +kernel) (by decide +kernel)
set_option maxRecDepth 20000 in
theorem gL_law_X5_delay : GoodIn wsL_law (wsV RL 120 RX5 yX5_delay wsX5_delay) := goodIn_app (goodIn_of _ (by decide +kernel)) ggL_law_X5_delay
set_option maxRecDepth 20000 in
theorem ggL_law_X4_residual : GoodIn wsL_law wsX4_residual := goodIn_r _ [730, 15, 125, 29, 662, 184, 185, 14, 186, 34, 731, 292, 293, 294, 45, 183, 732, 733, 734, 735, 37, 38, 329, 330, 331, 332, 42, 43, 333, 334, 335, 336, 44, 36, 41, 337, 338, 339, 340, 341, 342, 343, 114, 115, 116, 117, 344, 2, 345, 346, 347, 348, 349, 350, 926, 927, 928, 929, 930, 931, 944, 945, 946, 947, 948, 949, 950, 951, 952, 953, 954, 955] (by decide +kernel) (by decide +kernel)
set_option maxRecDepth 20000 in
theorem gL_law_X4_residual : GoodIn wsL_law (wsV RL 121 RX4 yX4_residual wsX4_residual) := goodIn_app (goodIn_of _ (by decide +kernel)) ggL_law_X4_residual
set_option maxRecDepth 20000 in
theorem ggL_law_X5_residual : GoodIn wsL_law wsX5_residual := goodIn_r _ [739, 195, 80, 196, 197, 198, 5, 199, 76, 140, 141, 142, 151, 152, 153, 154, 437, 438, 439, 440, 441, 442, 443, 444, 356, 357, 358, 359, 360, 361, 362, 363, 364, 365, 366, 147, 148, 149, 150, 367, 368, 369, 370, 932, 933, 934, 935, 936, 937, 938, 939, 940, 941, 942, 943] (by decide +kernel) (by decide +kernel)
set_option maxRecDepth 20000 in
theorem gL_law_X5_residual : GoodIn wsL_law (wsV RL 124 RX5 yX5_residual wsX5_residual) := goodIn_app (goodIn_of _ (by decide +kernel)) ggL_law_X5_residual
set_option maxRecDepth 20000 in
theorem ggL_law_X4_countError : GoodIn wsL_law wsX4_countError := goodIn_r _ [743, 15, 125, 29, 662, 184, 185, 14, 186, 34, 744, 745, 746, 747, 47, 183, 748, 326, 327, 328, 37, 38, 329, 330, 331, 332, 42, 43, 333, 334, 335, 336, 44, 36, 41, 337, 338, 339, 340, 341, 342, 343, 114, 115, 116, 117, 344, 2, 345, 346, 347, 348, 349, 350, 926, 927, 928, 929, 930, 931, 944, 945, 946, 947, 948, 949, 950, 951, 952, 953, 954, 955] (by decide +kernel) (by decide +kernel)
set_option maxRecDepth 20000 in
theorem gL_law_X4_countError : GoodIn wsL_law (wsV RL 125 RX4 yX4_countError wsX4_countError) := goodIn_app (goodIn_of _ (by decide +kernel)) ggL_law_X4_countError
set_option maxRecDepth 20000 in
theorem ggL_law_X5_countError : GoodIn wsL_law wsX5_countError := goodIn_r _ [752, 195, 80, 196, 197, 198, 5, 199, 76, 140, 141, 142, 151, 152, 153, 154, 356, 357, 358, 359, 360, 361, 362, 363, 364, 365, 366, 147, 148, 149, 150, 367, 368, 369, 370, 932, 933, 934, 935, 936, 937, 938, 939, 940, 941, 942, 943] (by decide +kernel) (by decide +kernel)
set_option maxRecDepth 20000 in
theorem gL_law_X5_countError : GoodIn wsL_law (wsV RL 128 RX5 yX5_countError wsX5_countError) := goodIn_app (goodIn_of _ (by decide +kernel)) ggL_law_X5_countError
set_option maxRecDepth 20000 in
theorem ggL_law_X4_fitting : GoodIn wsL_law wsX4_fitting := goodIn_r _ [756, 15, 757, 408, 409, 14, 410, 34, 37, 38, 45, 411, 412, 342, 413, 46, 329, 330, 331, 332, 42, 43, 333, 334, 335, 336, 44, 36, 41, 337, 338, 339, 340, 341, 343, 114, 115, 116, 117, 344, 2, 345, 346, 347, 348, 349, 350, 291, 292, 293, 294, 183, 184, 185, 186, 926, 927, 928, 929, 930, 931, 944, 945, 946, 947, 948, 949, 950, 951, 952, 953, 954, 955] (by decide +kernel) (by decide +kernel)
set_option maxRecDepth 20000 in
theorem gL_law_X4_fitting : GoodIn wsL_law (wsV RL 129 RX4 yX4_fitting wsX4_fitting) := goodIn_app (goodIn_of _ (by decide +kernel)) ggL_law_X4_fitting
set_option maxRecDepth 20000 in
theorem ggL_law_X5_fitting : GoodIn wsL_law wsX5_fitting := goodIn_r _ [761, 433, 434, 435, 5, 436, 76, 151, 152, 153, 154, 437, 438, 439, 440, 441, 442, 443, 444, 356, 357, 358, 359, 360, 361, 362, 363, 364, 365, 366, 147, 148, 149, 150, 367, 368, 369, 370, 430, 431, 432, 932, 933, 934, 935, 936, 937, 938, 939, 940, 941, 942, 943] (by decide +kernel) (by decide +kernel)
set_option maxRecDepth 20000 in
theorem gL_law_X5_fitting : GoodIn wsL_law (wsV RL 132 RX5 yX5_fitting wsX5_fitting) := goodIn_app (goodIn_of _ (by decide +kernel)) ggL_law_X5_fitting
set_option maxRecDepth 20000 in
theorem ggL_law_X4_age : GoodIn wsL_law wsX4_age := goodIn_r _ [765, 15, 766, 767, 768, 2, 769, 126, 643, 127, 652, 111, 112, 14, 113, 34, 114, 115, 116, 117, 41, 770, 771, 772, 773, 37, 38, 329, 330, 331, 332, 42, 43, 333, 334, 335, 336, 44, 36, 337, 338, 339, 340, 341, 342, 343, 344, 345, 346, 347, 348, 349, 350, 926, 927, 928, 929, 930, 931, 944, 945, 946, 947, 948, 949, 950, 951, 952, 953, 954, 955] (by decide +kernel) (by decide +kernel)
set_option maxRecDepth 20000 in
theorem gL_law_X4_age : GoodIn wsL_law (wsV RL 133 RX4 yX4_age wsX4_age) := goodIn_app (goodIn_of _ (by decide +kernel)) ggL_law_X4_age
