set_option maxRecDepth 20000 in
theorem ggL_law_X4_setAsh : GoodIn wsL_law wsX4_setAsh := goodIn_r _ [281, 19, 15, 89, 90, 91, 18, 92, 53, 54, 55, 93, 94, 95, 14, 96, 34, 36, 37, 38, 39, 41, 97, 98, 99, 100, 42, 43, 44, 45, 46, 47, 282, 283, 284, 285, 182, 286, 105, 183, 184, 185, 186, 108, 2, 109, 287, 288, 289, 290, 291, 292, 293, 294, 118, 119, 120, 121, 28, 122, 123, 124, 125, 126, 127, 128, 129, 130, 131, 132, 926, 927, 928, 929, 930, 931, 956, 957, 958, 944, 945, 946, 947, 948, 949, 950, 951, 952, 953, 954, 955] (by decide +kernel) (by decide +kernel)
set_option maxRecDepth 20000 in
theorem gL_law_X4_setAsh : GoodIn wsL_law (wsV RL 52 RX4 yX4_setAsh wsX4_setAsh) := goodIn_app (goodIn_of _ (by decide +kernel)) ggL_law_X4_setAsh
set_option maxRecDepth 20000 in
theorem ggL_law_X5_setAsh : GoodIn wsL_law wsX5_setAsh := goodIn_r _ [298, 195, 299, 137, 76, 196, 197, 198, 5, 199, 140, 141, 142, 155, 156, 157, 158, 159, 160, 161, 77, 300, 301, 302, 303, 151, 152, 153, 154, 932, 933, 934, 935, 936, 937, 938, 939, 940, 941, 942, 943] (by decide +kernel) (by decide +kernel)
set_option maxRecDepth 20000 in
theorem gL_law_X5_setAsh : GoodIn wsL_law (wsV RL 56 RX5 yX5_setAsh wsX5_setAsh) := goodIn_app (goodIn_of _ (by decide +kernel)) ggL_law_X5_setAsh
set_option maxRecDepth 20000 in
theorem ggL_law_X4_removeAsh : GoodIn wsL_law wsX4_removeAsh := goodIn_r _ [307, 19, 15, 89, 90, 91, 18, 92, 53, 54, 55, 93, 94, 95, 14, 96, 34, 36, 37, 38, 39, 41, 97, 98, 99, 100, 42, 43, 44, 45, 46, 47, 308, 309, 310, 311, 182, 106, 183, 184, 185, 186, 291, 292, 293, 294, 287, 288, 289, 290, 118, 119, 120, 2, 121, 28, 122, 123, 124, 125, 126, 127, 128, 129, 130, 131, 132, 926, 927, 928, 929, 930, 931, 956, 957, 958, 944, 945, 946, 947, 948, 949, 950, 951, 952, 953, 954, 955] (by decide +kernel) (by decide +kernel)
set_option maxRecDepth 20000 in
theorem gL_law_X4_removeAsh : GoodIn wsL_law (wsV RL 57 RX4 yX4_removeAsh wsX4_removeAsh) := goodIn_app (goodIn_of _ (by decide +kernel)) ggL_law_X4_removeAsh
set_option maxRecDepth 20000 in
theorem ggL_law_X5_removeAsh : GoodIn wsL_law wsX5_removeAsh := goodIn_r _ [315, 195, 138, 76, 196, 197, 198, 5, 199, 140, 141, 142, 151, 152, 153, 154, 155, 156, 157, 158, 159, 160, 161, 77, 300, 301, 302, 303, 932, 933, 934, 935, 936, 937, 938, 939, 940, 941, 942, 943] (by decide +kernel) (by decide +kernel)
set_option maxRecDepth 20000 in
theorem gL_law_X5_removeAsh : GoodIn wsL_law (wsV RL 60 RX5 yX5_removeAsh wsX5_removeAsh) := goodIn_app (goodIn_of _ (by decide +kernel)) ggL_law_X5_removeAsh
set_option maxRecDepth 20000 in
theorem ggL_law_X4_setCount : GoodIn wsL_law wsX4_setCount := goodIn_r _ [319, 19, 15, 89, 90, 91, 18, 92, 53, 54, 55, 93, 94, 95, 14, 96, 34, 36, 37, 38, 39, 41, 97, 98, 99, 100, 42, 43, 44, 45, 46, 47, 320, 321, 322, 323, 182, 324, 105, 183, 184, 185, 186, 108, 2, 109, 325, 326, 327, 328, 329, 330, 331, 332, 333, 334, 335, 336, 337, 338, 339, 340, 341, 342, 343, 114, 115, 116, 117, 344, 345, 346, 347, 348, 349, 350, 118, 119, 120, 121, 28, 122, 123, 124, 125, 126, 127, 128, 129, 130, 131, 132, 926, 927, 928, 929, 930, 931, 956, 957, 958, 944, 945, 946, 947, 948, 949, 950, 951, 952, 953, 954, 955] (by decide +kernel) (by decide +kernel)
set_option maxRecDepth 20000 in
theorem gL_law_X4_setCount : GoodIn wsL_law (wsV RL 61 RX4 yX4_setCount wsX4_setCount) := goodIn_app (goodIn_of _ (by decide +kernel)) ggL_law_X4_setCount
set_option maxRecDepth 20000 in
theorem ggL_law_X5_setCount : GoodIn wsL_law wsX5_setCount := goodIn_r _ [354, 195, 355, 137, 76, 196, 197, 198, 5, 199, 140, 141, 142, 155, 156, 157, 158, 159, 160, 161, 77, 356, 357, 358, 359, 151, 152, 153, 154, 360, 361, 362, 363, 364, 365, 366, 147, 148, 149, 150, 367, 368, 369, 370, 932, 933, 934, 935, 936, 937, 938, 939, 940, 941, 942, 943] (by decide +kernel) (by decide +kernel)
set_option maxRecDepth 20000 in
theorem gL_law_X5_setCount : GoodIn wsL_law (wsV RL 64 RX5 yX5_setCount wsX5_setCount) := goodIn_app (goodIn_of _ (by decide +kernel)) ggL_law_X5_setCount
set_option maxRecDepth 20000 in
theorem ggL_law_X4_tune : GoodIn wsL_law wsX4_tune := goodIn_r _ [374, 19, 15, 23, 89, 90, 91, 18, 92, 53, 54, 55, 93, 94, 95, 14, 96, 34, 36, 37, 38, 39, 41, 97, 98, 99, 100, 42, 43, 44, 45, 46, 47, 375, 376, 377, 378, 106, 379, 380, 381, 382, 291, 292, 293, 294, 183, 184, 185, 186, 287, 288, 289, 290, 383, 384, 385, 386, 387, 388, 389, 22, 390, 59, 346, 347, 348, 349, 350, 333, 334, 335, 336, 337, 338, 339, 340, 341, 342, 343, 114, 115, 116, 117, 344, 2, 345, 391, 392, 393, 394, 61, 62, 395, 396, 397, 398, 399, 400, 401, 402, 403, 404, 405, 406, 407, 408, 409, 410, 411, 412, 413, 329, 330, 331, 332, 118, 119, 120, 121, 28, 122, 123, 124, 125, 126, 127, 128, 129, 130, 131, 132, 926, 927, 928, 929, 930, 931, 956, 957, 958, 944, 945, 946, 947, 948, 949, 950, 951, 952, 953, 954, 955, 959, 960, 961] (by decide +kernel) (by decide +kernel)
set_option maxRecDepth 20000 in
theorem gL_law_X4_tune : GoodIn wsL_law (wsV RL 65 RX4 yX4_tune wsX4_tune) := goodIn_app (goodIn_of _ (by decide +kernel)) ggL_law_X4_tune
set_option maxRecDepth 20000 in
theorem ggL_law_X5_tune : GoodIn wsL_law wsX5_tune := goodIn_r _ [417, 138, 76, 78, 418, 419, 420, 5, 421, 151, 152, 153, 154, 300, 301, 302, 303, 155, 156, 157, 158, 159, 160, 161, 77, 360, 361, 362, 363, 364, 365, 366, 147, 148, 149, 150, 422, 423, 424, 425, 426, 427, 428, 429, 367, 368, 369, 370, 430, 431, 432, 433, 434, 435, 436, 437, 438, 439, 440, 441, 442, 443, 444, 356, 357, 358, 359, 932, 933, 934, 935, 936, 937, 938, 939, 940, 941, 942, 943] (by decide +kernel) (by decide +kernel)
set_option maxRecDepth 20000 in
theorem gL_law_X5_tune : GoodIn wsL_law (wsV RL 68 RX5 yX5_tune wsX5_tune) := goodIn_app (goodIn_of _ (by decide +kernel)) ggL_law_X5_tune
set_option maxRecDepth 20000 in
theorem ggL_law_X4_undo : GoodIn wsL_law wsX4_undo := goodIn_r _ [448, 19, 15, 449, 450, 451, 18, 452, 55, 453, 53, 54, 93, 94, 95, 14, 96, 34, 36, 37, 38, 39, 41, 97, 98, 99, 100, 42, 43, 44, 45, 46, 47, 926, 927, 928, 929, 930, 931, 956, 957, 958, 944, 945, 946, 947, 948, 949, 950, 951, 952, 953, 954, 955] (by decide +kernel) (by decide +kernel)
set_option maxRecDepth 20000 in
theorem gL_law_X4_undo : GoodIn wsL_law (wsV RL 69 RX4 yX4_undo wsX4_undo) := goodIn_app (goodIn_of _ (by decide +kernel)) ggL_law_X4_undo
set_option maxRecDepth 20000 in
theorem ggL_law_X5_undo : GoodIn wsL_law wsX5_undo := goodIn_r _ [457, 161, 80, 76, 77, 932, 933, 934, 935, 936, 937, 938, 939, 940, 941, 942, 943] (by decide +kernel) (by decide +kernel)
set_option maxRecDepth 20000 in
theorem gL_law_X5_undo : GoodIn wsL_law (wsV RL 72 RX5 yX5_undo wsX5_undo) := goodIn_app (goodIn_of _ (by decide +kernel)) ggL_law_X5_undo
set_option maxRecDepth 20000 in
theorem ggL_law_X4_type : GoodIn wsL_law wsX4_type := goodIn_r _ [461, 27, 462, 463, 464, 26, 465, 466, 66, 467, 69, 108, 2, 109, 926, 927, 928, 929, 930, 931, 962, 963, 964, 965, 966] (by decide +kernel) (by decide +kernel)
set_option maxRecDepth 20000 in
theorem gL_law_X4_type : GoodIn wsL_law (wsV RL 73 RX4 yX4_type wsX4_type) := goodIn_app (goodIn_of _ (by decide +kernel)) ggL_law_X4_type
set_option maxRecDepth 20000 in
theorem ggL_law_X5_type : GoodIn wsL_law wsX5_type := goodIn_r _ [471, 137, 472, 139, 79, 140, 141, 5, 142, 932, 933, 934, 935, 936, 937, 938, 939, 940, 941, 942, 943] (by decide +kernel) (by decide +kernel)
set_option maxRecDepth 20000 in
theorem gL_law_X5_type : GoodIn wsL_law (wsV RL 76 RX5 yX5_type wsX5_type) := goodIn_app (goodIn_of _ (by decide +kernel)) ggL_law_X5_type
set_option maxRecDepth 20000 in
theorem ggL_law_X4_clearText : GoodIn wsL_law wsX4_clearText := goodIn_r _ [476, 27, 477, 478, 479, 26, 480, 66, 926, 927, 928, 929, 930, 931, 962, 963, 964, 965, 966] (by decide +kernel) (by decide +kernel)
set_option maxRecDepth 20000 in
theorem gL_law_X4_clearText : GoodIn wsL_law (wsV RL 77 RX4 yX4_clearText wsX4_clearText) := goodIn_app (goodIn_of _ (by decide +kernel)) ggL_law_X4_clearText
set_option maxRecDepth 20000 in
theorem ggL_law_X5_clearText : GoodIn wsL_law wsX5_clearText := goodIn_r _ [484, 472, 932, 933, 934, 935, 936, 937, 938, 939, 940, 941, 942, 943] (by decide +kernel) (by decide +kernel)
set_option maxRecDepth 20000 in
theorem gL_law_X5_clearText : GoodIn wsL_law (wsV RL 80 RX5 yX5_clearText wsX5_clearText) := goodIn_app (goodIn_of _ (by decide +kernel)) ggL_law_X5_clearText
set_option maxRecDepth 20000 in
theorem ggL_law_X4_run : GoodIn wsL_law wsX4_run := goodIn_r _ [488, 19, 15, 28, 30, 27, 489, 89, 90, 91, 18, 92, 53, 54, 55, 93, 94, 95, 14, 96, 34, 36, 37, 38, 39, 41, 97, 98, 99, 100, 42, 43, 44, 45, 46, 47, 129, 130, 131, 132, 490, 491, 492, 26, 493, 66, 69, 494, 495, 496, 497, 67, 498, 499, 500, 501, 502, 70, 503, 504, 505, 506, 71, 507, 508, 509, 2, 510, 23, 511, 512, 513, 514, 515, 516, 517, 518, 519, 520, 521, 522, 523, 524, 525, 526, 527, 528, 529, 530, 531, 532, 533, 534, 535, 536, 537, 538, 539, 540, 541, 542, 543, 544, 545, 546, 547, 548, 549, 550, 551, 552, 553, 554, 555, 556, 557, 558, 559, 560, 561, 562, 563, 564, 565, 566, 567, 568, 569, 570, 571, 572, 573, 574, 575, 576, 577, 578, 579, 101, 102, 103, 104, 105, 106, 107, 108, 109, 110, 111, 112, 113, 114, 115, 116, 117, 282, 283, 284, 285, 182, 286, 183, 184, 185, 186, 287, 288, 289, 290, 291, 292, 293, 294, 320, 321, 322, 323, 324, 325, 326, 327, 328, 329, 330, 331, 332, 333, 334, 335, 336, 337, 338, 339, 340, 341, 342, 343, 344, 345, 346, 347, 348, 349, 350, 258, 259, 260, 261, 204, 205, 206, 207, 208, 234, 235, 236, 237, 270, 271, 272, 273, 375, 376, 377, 378, 379, 380, 381, 382, 383, 384, 385, 386, 387, 388, 389, 22, 390, 59, 391, 392, 393, 394, 61, 62, 395, 396, 397, 398, 399, 400, 401, 402, 403, 404, 405, 406, 407, 408, 409, 410, 411, 412, 413, 580, 581, 582, 583, 584, 585, 586, 222, 223, 224, 225, 587, 588, 589, 122, 123, 124, 125, 126, 127, 128, 477, 478, 479, 480, 926, 927, 928, 929, 930, 931, 962, 963, 964, 965, 966, 956, 957, 958, 944, 945, 946, 947, 948, 949, 950, 951, 952, 953, 954, 955, 959, 960, 961] (by decide +kernel) (by decide +kernel)
set_option maxRecDepth 20000 in
theorem gL_law_X4_run : GoodIn wsL_law (wsV RL 81 RX4 yX4_run wsX4_run) := goodIn_app (goodIn_of _ (by decide +kernel)) ggL_law_X4_run
set_option maxRecDepth 20000 in
theorem ggL_law_X5_run : GoodIn wsL_law wsX5_run := goodIn_r _ [593, 159, 81, 472, 155, 156, 157, 5, 158, 160, 161, 77, 76, 594, 595, 596, 597, 598, 79, 599, 600, 601, 602, 603, 82, 83, 80, 140, 141, 142, 604, 605, 606, 607, 608, 609, 610, 611, 612, 613, 614, 615, 134, 135, 136, 137, 138, 139, 143, 144, 145, 146, 147, 148, 149, 150, 151, 152, 153, 154, 616, 617, 618, 195, 619, 296, 297, 298, 299, 196, 197, 198, 199, 300, 301, 302, 303, 620, 352, 353, 354, 355, 356, 357, 358, 359, 360, 361, 362, 363, 364, 365, 366, 367, 368, 369, 370, 621, 263, 264, 265, 214, 215, 216, 217, 622, 210, 211, 212, 213, 623, 239, 240, 241, 624, 275, 276, 277, 625, 626, 627, 628, 629, 227, 228, 229, 630, 415, 416, 417, 78, 418, 419, 420, 421, 422, 423, 424, 425, 426, 427, 428, 429, 430, 431, 432, 433, 434, 435, 436, 437, 438, 439, 440, 441, 442, 443, 444, 932, 933, 934, 935, 936, 937, 938, 939, 940, 941, 942, 943] (by decide +kernel) (by decide +kernel)
set_option maxRecDepth 20000 in
theorem gL_law_X5_run : GoodIn wsL_law (wsV RL 84 RX5 yX5_run wsX5_run) := goodIn_app (goodIn_of _ (by decide +kernel)) ggL_law_X5_run
set_option maxRecDepth 20000 in
theorem ggL_law_X4_failure : GoodIn wsL_law wsX4_failure := goodIn_r _ [634, 30, 926, 927, 928, 929, 930, 931] (by decide +kernel) (by decide +kernel)
set_option maxRecDepth 20000 in
theorem gL_law_X4_failure : GoodIn wsL_law (wsV RL 85 RX4 yX4_failure wsX4_failure) := goodIn_app (goodIn_of _ (by decide +kernel)) ggL_law_X4_failure
set_option maxRecDepth 20000 in
theorem ggL_law_X5_failure : GoodIn wsL_law wsX5_failure := goodIn_r _ [638, 81, 932, 933, 934, 935, 936, 937, 938, 939, 940, 941, 942, 943] (by decide +kernel) (by decide +kernel)
set_option maxRecDepth 20000 in
theorem gL_law_X5_failure : GoodIn wsL_law (wsV RL 88 RX5 yX5_failure wsX5_failure) := goodIn_app (goodIn_of _ (by decide +kernel)) ggL_law_X5_failure
set_option maxRecDepth 20000 in
theorem ggL_law_X4_layers : GoodIn wsL_law wsX4_layers := goodIn_r _ [642, 15, 643, 926, 927, 928, 929, 930, 931, 944, 945, 946, 947, 948, 949, 950, 951, 952, 953, 954, 955] (by decide +kernel) (by decide +kernel)
set_option maxRecDepth 20000 in
theorem gL_law_X4_layers : GoodIn wsL_law (wsV RL 89 RX4 yX4_layers wsX4_layers) := goodIn_app (goodIn_of _ (by decide +kernel)) ggL_law_X4_layers
set_option maxRecDepth 20000 in
theorem ggL_law_X5_layers : GoodIn wsL_law wsX5_layers := goodIn_r _ [647, 76, 932, 933, 934, 935, 936, 937, 938, 939, 940, 941, 942, 943] (by decide +kernel) (by decide +kernel)
set_option maxRecDepth 20000 in
theorem gL_law_X5_layers : GoodIn wsL_law (wsV RL 92 RX5 yX5_layers wsX5_layers) := goodIn_app (goodIn_of _ (by decide +kernel)) ggL_law_X5_layers
set_option maxRecDepth 20000 in
theorem ggL_law_X4_depth : GoodIn wsL_law wsX4_depth := goodIn_r _ [651, 15, 652, 111, 112, 14, 113, 34, 114, 115, 116, 117, 41, 926, 927, 928, 929, 930, 931, 944, 945, 946, 947, 948, 949, 950, 951, 952, 953, 954, 955] (by decide +kernel) (by decide +kernel)
set_option maxRecDepth 20000 in
theorem gL_law_X4_depth : GoodIn wsL_law (wsV RL 93 RX4 yX4_depth wsX4_depth) := goodIn_app (goodIn_of _ (by decide +kernel)) ggL_law_X4_depth
