set_option maxRecDepth 20000 in
theorem ggL_law_X4_init : GoodIn wsL_law wsX4_init := goodIn_r _ [8, 9, 10, 11, 12, 13, 14, 15, 16, 17, 18, 19, 20, 21, 22, 23, 24, 25, 26, 27, 28, 29, 30, 31, 32, 33, 34, 35, 36, 37, 38, 39, 40, 41, 42, 43, 44, 45, 46, 47, 48, 49, 50, 51, 52, 53, 54, 55, 56, 57, 58, 59, 60, 61, 62, 63, 64, 65, 66, 67, 68, 69, 70, 71, 944, 945, 946, 947, 948, 949, 950, 951, 952, 953, 954, 955, 926, 927, 928, 929, 930, 931, 956, 957, 958, 959, 960, 961, 962, 963, 964, 965, 966] (by decide +kernel) (by decide +kernel)
set_option maxRecDepth 20000 in
theorem gL_law_X4_init : GoodIn wsL_law (wsX4_init) := ggL_law_X4_init
set_option maxRecDepth 20000 in
theorem ggL_law_X5_init : GoodIn wsL_law wsX5_init := goodIn_r _ [74, 75, 10, 11, 40, 76, 77, 78, 79, 80, 81, 60, 82, 83, 84, 932, 933, 934, 935, 936, 937, 938, 939, 940, 941, 942, 943] (by decide +kernel) (by decide +kernel)
set_option maxRecDepth 20000 in
theorem gL_law_X5_init : GoodIn wsL_law (wsX5_init) := ggL_law_X5_init
set_option maxRecDepth 20000 in
theorem ggL_law_X4_addLayer : GoodIn wsL_law wsX4_addLayer := goodIn_r _ [88, 19, 15, 89, 90, 91, 18, 92, 53, 54, 55, 93, 94, 95, 14, 96, 34, 36, 37, 38, 39, 41, 97, 98, 99, 100, 42, 43, 44, 45, 46, 47, 101, 102, 103, 104, 105, 106, 107, 108, 2, 109, 110, 111, 112, 113, 114, 115, 116, 117, 118, 119, 120, 121, 28, 122, 123, 124, 125, 126, 127, 128, 129, 130, 131, 132, 926, 927, 928, 929, 930, 931, 956, 957, 958, 944, 945, 946, 947, 948, 949, 950, 951, 952, 953, 954, 955] (by decide +kernel) (by decide +kernel)
set_option maxRecDepth 20000 in
theorem gL_law_X4_addLayer : GoodIn wsL_law (wsV RL 13 RX4 yX4_addLayer wsX4_addLayer) := goodIn_app (goodIn_of _ (by decide +kernel)) ggL_law_X4_addLayer
set_option maxRecDepth 20000 in
theorem ggL_law_X5_addLayer : GoodIn wsL_law wsX5_addLayer := goodIn_r _ [136, 137, 76, 138, 139, 140, 141, 5, 142, 143, 144, 145, 146, 147, 148, 149, 150, 151, 152, 153, 154, 155, 156, 157, 158, 159, 160, 161, 77, 932, 933, 934, 935, 936, 937, 938, 939, 940, 941, 942, 943] (by decide +kernel) (by decide +kernel)
set_option maxRecDepth 20000 in
theorem gL_law_X5_addLayer : GoodIn wsL_law (wsV RL 17 RX5 yX5_addLayer wsX5_addLayer) := goodIn_app (goodIn_of _ (by decide +kernel)) ggL_law_X5_addLayer
set_option maxRecDepth 20000 in
theorem ggL_law_X4_removeLowest : GoodIn wsL_law wsX4_removeLowest := goodIn_r _ [165, 19, 15, 89, 90, 91, 18, 92, 53, 54, 55, 93, 94, 95, 14, 96, 34, 36, 37, 38, 39, 41, 97, 98, 99, 100, 42, 43, 44, 45, 46, 47, 166, 167, 168, 169, 106, 118, 119, 120, 2, 121, 28, 122, 123, 124, 125, 126, 127, 128, 129, 130, 131, 132, 926, 927, 928, 929, 930, 931, 956, 957, 958, 944, 945, 946, 947, 948, 949, 950, 951, 952, 953, 954, 955] (by decide +kernel) (by decide +kernel)
set_option maxRecDepth 20000 in
theorem gL_law_X4_removeLowest : GoodIn wsL_law (wsV RL 18 RX4 yX4_removeLowest wsX4_removeLowest) := goodIn_app (goodIn_of _ (by decide +kernel)) ggL_law_X4_removeLowest
set_option maxRecDepth 20000 in
theorem ggL_law_X5_removeLowest : GoodIn wsL_law wsX5_removeLowest := goodIn_r _ [173, 76, 138, 155, 156, 157, 5, 158, 159, 160, 161, 77, 932, 933, 934, 935, 936, 937, 938, 939, 940, 941, 942, 943] (by decide +kernel) (by decide +kernel)
set_option maxRecDepth 20000 in
theorem gL_law_X5_removeLowest : GoodIn wsL_law (wsV RL 22 RX5 yX5_removeLowest wsX5_removeLowest) := goodIn_app (goodIn_of _ (by decide +kernel)) ggL_law_X5_removeLowest
set_option maxRecDepth 20000 in
theorem ggL_law_X4_divide : GoodIn wsL_law wsX4_divide := goodIn_r _ [177, 19, 15, 89, 90, 91, 18, 92, 53, 54, 55, 93, 94, 95, 14, 96, 34, 36, 37, 38, 39, 41, 97, 98, 99, 100, 42, 43, 44, 45, 46, 47, 178, 179, 180, 181, 182, 105, 107, 183, 184, 185, 186, 108, 2, 109, 187, 188, 189, 190, 118, 119, 120, 121, 28, 122, 123, 124, 125, 126, 127, 128, 129, 130, 131, 132, 926, 927, 928, 929, 930, 931, 956, 957, 958, 944, 945, 946, 947, 948, 949, 950, 951, 952, 953, 954, 955] (by decide +kernel) (by decide +kernel)
set_option maxRecDepth 20000 in
theorem gL_law_X4_divide : GoodIn wsL_law (wsV RL 23 RX4 yX4_divide wsX4_divide) := goodIn_app (goodIn_of _ (by decide +kernel)) ggL_law_X4_divide
set_option maxRecDepth 20000 in
theorem ggL_law_X5_divide : GoodIn wsL_law wsX5_divide := goodIn_r _ [194, 195, 137, 76, 139, 196, 197, 198, 5, 199, 140, 141, 142, 151, 152, 153, 154, 155, 156, 157, 158, 159, 160, 161, 77, 932, 933, 934, 935, 936, 937, 938, 939, 940, 941, 942, 943] (by decide +kernel) (by decide +kernel)
set_option maxRecDepth 20000 in
theorem gL_law_X5_divide : GoodIn wsL_law (wsV RL 26 RX5 yX5_divide wsX5_divide) := goodIn_app (goodIn_of _ (by decide +kernel)) ggL_law_X5_divide
set_option maxRecDepth 20000 in
theorem ggL_law_X4_setBed : GoodIn wsL_law wsX4_setBed := goodIn_r _ [203, 19, 15, 89, 90, 91, 18, 92, 53, 54, 55, 93, 94, 95, 14, 96, 34, 36, 37, 38, 39, 41, 97, 98, 99, 100, 42, 43, 44, 45, 46, 47, 204, 205, 206, 207, 208, 105, 106, 108, 2, 109, 110, 111, 112, 113, 114, 115, 116, 117, 118, 119, 120, 121, 28, 122, 123, 124, 125, 126, 127, 128, 129, 130, 131, 132, 926, 927, 928, 929, 930, 931, 956, 957, 958, 944, 945, 946, 947, 948, 949, 950, 951, 952, 953, 954, 955] (by decide +kernel) (by decide +kernel)
set_option maxRecDepth 20000 in
theorem gL_law_X4_setBed : GoodIn wsL_law (wsV RL 27 RX4 yX4_setBed wsX4_setBed) := goodIn_app (goodIn_of _ (by decide +kernel)) ggL_law_X4_setBed
set_option maxRecDepth 20000 in
theorem ggL_law_X5_setBed : GoodIn wsL_law wsX5_setBed := goodIn_r _ [212, 213, 137, 138, 140, 141, 5, 142, 143, 144, 145, 146, 76, 147, 148, 149, 150, 151, 152, 153, 154, 214, 215, 216, 217, 155, 156, 157, 158, 159, 160, 161, 77, 932, 933, 934, 935, 936, 937, 938, 939, 940, 941, 942, 943] (by decide +kernel) (by decide +kernel)
set_option maxRecDepth 20000 in
theorem gL_law_X5_setBed : GoodIn wsL_law (wsV RL 31 RX5 yX5_setBed wsX5_setBed) := goodIn_app (goodIn_of _ (by decide +kernel)) ggL_law_X5_setBed
set_option maxRecDepth 20000 in
theorem ggL_law_X4_setFunction : GoodIn wsL_law wsX4_setFunction := goodIn_r _ [221, 19, 15, 89, 90, 91, 18, 92, 53, 54, 55, 93, 94, 95, 14, 96, 34, 36, 37, 38, 39, 41, 97, 98, 99, 100, 42, 43, 44, 45, 46, 47, 222, 223, 224, 225, 105, 108, 2, 109, 118, 119, 120, 121, 28, 122, 123, 124, 125, 126, 127, 128, 129, 130, 131, 132, 926, 927, 928, 929, 930, 931, 956, 957, 958, 944, 945, 946, 947, 948, 949, 950, 951, 952, 953, 954, 955] (by decide +kernel) (by decide +kernel)
set_option maxRecDepth 20000 in
theorem gL_law_X4_setFunction : GoodIn wsL_law (wsV RL 32 RX4 yX4_setFunction wsX4_setFunction) := goodIn_app (goodIn_of _ (by decide +kernel)) ggL_law_X4_setFunction
set_option maxRecDepth 20000 in
theorem ggL_law_X5_setFunction : GoodIn wsL_law wsX5_setFunction := goodIn_r _ [229, 137, 140, 141, 5, 142, 214, 215, 216, 217, 76, 155, 156, 157, 158, 159, 160, 161, 77, 932, 933, 934, 935, 936, 937, 938, 939, 940, 941, 942, 943] (by decide +kernel) (by decide +kernel)
set_option maxRecDepth 20000 in
theorem gL_law_X5_setFunction : GoodIn wsL_law (wsV RL 35 RX5 yX5_setFunction wsX5_setFunction) := goodIn_app (goodIn_of _ (by decide +kernel)) ggL_law_X5_setFunction
set_option maxRecDepth 20000 in
theorem ggL_law_X4_setKink : GoodIn wsL_law wsX4_setKink := goodIn_r _ [233, 19, 15, 89, 90, 91, 18, 92, 53, 54, 55, 93, 94, 95, 14, 96, 34, 36, 37, 38, 39, 41, 97, 98, 99, 100, 42, 43, 44, 45, 46, 47, 234, 235, 236, 237, 105, 108, 2, 109, 118, 119, 120, 121, 28, 122, 123, 124, 125, 126, 127, 128, 129, 130, 131, 132, 926, 927, 928, 929, 930, 931, 956, 957, 958, 944, 945, 946, 947, 948, 949, 950, 951, 952, 953, 954, 955] (by decide +kernel) (by decide +kernel)
set_option maxRecDepth 20000 in
theorem gL_law_X4_setKink : GoodIn wsL_law (wsV RL 36 RX4 yX4_setKink wsX4_setKink) := goodIn_app (goodIn_of _ (by decide +kernel)) ggL_law_X4_setKink
set_option maxRecDepth 20000 in
theorem ggL_law_X5_setKink : GoodIn wsL_law wsX5_setKink := goodIn_r _ [241, 137, 140, 141, 5, 142, 214, 215, 216, 217, 76, 155, 156, 157, 158, 159, 160, 161, 77, 932, 933, 934, 935, 936, 937, 938, 939, 940, 941, 942, 943] (by decide +kernel) (by decide +kernel)
set_option maxRecDepth 20000 in
theorem gL_law_X5_setKink : GoodIn wsL_law (wsV RL 39 RX5 yX5_setKink wsX5_setKink) := goodIn_app (goodIn_of _ (by decide +kernel)) ggL_law_X5_setKink
set_option maxRecDepth 20000 in
theorem ggL_law_X4_tellThinning : GoodIn wsL_law wsX4_tellThinning := goodIn_r _ [245, 19, 15, 89, 90, 91, 18, 92, 53, 54, 55, 93, 94, 95, 14, 96, 34, 36, 37, 38, 39, 41, 97, 98, 99, 100, 42, 43, 44, 45, 46, 47, 246, 247, 248, 249, 182, 105, 183, 184, 185, 186, 108, 2, 109, 118, 119, 120, 121, 28, 122, 123, 124, 125, 126, 127, 128, 129, 130, 131, 132, 926, 927, 928, 929, 930, 931, 956, 957, 958, 944, 945, 946, 947, 948, 949, 950, 951, 952, 953, 954, 955] (by decide +kernel) (by decide +kernel)
set_option maxRecDepth 20000 in
theorem gL_law_X4_tellThinning : GoodIn wsL_law (wsV RL 40 RX4 yX4_tellThinning wsX4_tellThinning) := goodIn_app (goodIn_of _ (by decide +kernel)) ggL_law_X4_tellThinning
set_option maxRecDepth 20000 in
theorem ggL_law_X5_tellThinning : GoodIn wsL_law wsX5_tellThinning := goodIn_r _ [253, 195, 137, 196, 197, 198, 5, 199, 76, 140, 141, 142, 214, 215, 216, 217, 155, 156, 157, 158, 159, 160, 161, 77, 932, 933, 934, 935, 936, 937, 938, 939, 940, 941, 942, 943] (by decide +kernel) (by decide +kernel)
set_option maxRecDepth 20000 in
theorem gL_law_X5_tellThinning : GoodIn wsL_law (wsV RL 43 RX5 yX5_tellThinning wsX5_tellThinning) := goodIn_app (goodIn_of _ (by decide +kernel)) ggL_law_X5_tellThinning
set_option maxRecDepth 20000 in
theorem ggL_law_X4_correct : GoodIn wsL_law wsX4_correct := goodIn_r _ [257, 19, 15, 89, 90, 91, 18, 92, 53, 54, 55, 93, 94, 95, 14, 96, 34, 36, 37, 38, 39, 41, 97, 98, 99, 100, 42, 43, 44, 45, 46, 47, 258, 259, 260, 261, 182, 105, 183, 184, 185, 186, 108, 2, 109, 118, 119, 120, 121, 28, 122, 123, 124, 125, 126, 127, 128, 129, 130, 131, 132, 926, 927, 928, 929, 930, 931, 956, 957, 958, 944, 945, 946, 947, 948, 949, 950, 951, 952, 953, 954, 955] (by decide +kernel) (by decide +kernel)
set_option maxRecDepth 20000 in
theorem gL_law_X4_correct : GoodIn wsL_law (wsV RL 44 RX4 yX4_correct wsX4_correct) := goodIn_app (goodIn_of _ (by decide +kernel)) ggL_law_X4_correct
set_option maxRecDepth 20000 in
theorem ggL_law_X5_correct : GoodIn wsL_law wsX5_correct := goodIn_r _ [265, 195, 137, 196, 197, 198, 5, 199, 76, 140, 141, 142, 214, 215, 216, 217, 155, 156, 157, 158, 159, 160, 161, 77, 932, 933, 934, 935, 936, 937, 938, 939, 940, 941, 942, 943] (by decide +kernel) (by decide +kernel)
set_option maxRecDepth 20000 in
theorem gL_law_X5_correct : GoodIn wsL_law (wsV RL 47 RX5 yX5_correct wsX5_correct) := goodIn_app (goodIn_of _ (by decide +kernel)) ggL_law_X5_correct
set_option maxRecDepth 20000 in
theorem ggL_law_X4_setCloseOff : GoodIn wsL_law wsX4_setCloseOff := goodIn_r _ [269, 19, 15, 89, 90, 91, 18, 92, 53, 54, 55, 93, 94, 95, 14, 96, 34, 36, 37, 38, 39, 41, 97, 98, 99, 100, 42, 43, 44, 45, 46, 47, 270, 271, 272, 273, 105, 108, 2, 109, 118, 119, 120, 121, 28, 122, 123, 124, 125, 126, 127, 128, 129, 130, 131, 132, 926, 927, 928, 929, 930, 931, 956, 957, 958, 944, 945, 946, 947, 948, 949, 950, 951, 952, 953, 954, 955] (by decide +kernel) (by decide +kernel)
set_option maxRecDepth 20000 in
theorem gL_law_X4_setCloseOff : GoodIn wsL_law (wsV RL 48 RX4 yX4_setCloseOff wsX4_setCloseOff) := goodIn_app (goodIn_of _ (by decide +kernel)) ggL_law_X4_setCloseOff
set_option maxRecDepth 20000 in
theorem ggL_law_X5_setCloseOff : GoodIn wsL_law wsX5_setCloseOff := goodIn_r _ [277, 137, 140, 141, 5, 142, 214, 215, 216, 217, 76, 155, 156, 157, 158, 159, 160, 161, 77, 932, 933, 934, 935, 936, 937, 938, 939, 940, 941, 942, 943] (by decide +kernel) (by decide +kernel)
set_option maxRecDepth 20000 in
theorem gL_law_X5_setCloseOff : GoodIn wsL_law (wsV RL 51 RX5 yX5_setCloseOff wsX5_setCloseOff) := goodIn_app (goodIn_of _ (by decide +kernel)) ggL_law_X5_setCloseOff
