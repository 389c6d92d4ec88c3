set_option maxRecDepth 20000 in
theorem ggL_law_X4_setCount : GoodIn wsL_law wsX4_setCount := goodIn_r _ [319, 19, 15, 89, 90, 91, 18, 92, 53, 54, 55, 93, 94, 95, 14, 96, 34, 36, 37, 38, 39, 41, 97, 98, 99, 100, 42, 43, 44, 45, 46, 47, 320, 321, 322, 323, 182, 324, 105, 183, 184, 185, 186, 108, 2, 109, 325, 326, 327, 328, 329, 330, 331, 332, 333, 334, 335, 336, 337, 338, 339, 340, 341, 342, 343, 114, 115, 116, 117, 344, 345, 346, 347, 348, 349, 350, 118, 119, 120, 121, 28, 122, 123, 124, 125, 126, 127, 128, 129, 130, 131, 132, 926, 927, 928, 929, 930, 931, 956, 957, 958, 944, 945, 946, 947, 948, 949, 950, 951, 952, 953, 954, 955] (by decide +kernel) (by decide +kernel)
set_option maxRecDepth 20000 in
theorem gL_law_X4_setCount : GoodIn wsL_law (wsV RL 61 RX4 yX4_setCount wsX4_setCount) := goodIn_app (goodIn_of _ (by decide +kernel)) ggL_law_X4_setCount
set_option maxRecDepth 20000 in
theorem ggL_law_X5_setCount : GoodIn wsL_law wsX5_setCount := goodIn_r _ [354, 195, 355, 137, 76, 196, 197, 198, 5, 199, 140, 141, 142, 155, 156, 157, 158, 159, 160, 161, 77, 356, 357, 358, 359, 151, 152, 153, 154, 360, 361, 362, 363, 364, 365, 366, 147, 148, 149, 150, 367, 368, 369, 370, 932, 933, 934, 935, 936, 937, 938, 939, 940, 941, 942, 943] (by decide +kernel) (by decide +kernel)
set_option maxRecDepth 20000 in
theorem gL_law_X5_setCount : GoodIn wsL_law (wsV RL 64 RX5 yX5_setCount wsX5_setCount) := goodIn_app (goodIn_of _ (by decide +kernel)) ggL_law_X5_setCount
