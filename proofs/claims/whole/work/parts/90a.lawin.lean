set_option maxRecDepth 20000 in
theorem wsLi_1 : ∀ w ∈ wsL_law_r1, w ∈ lw_tbl := fun w h => (goodIn_r (big := lw_tbl) wsL_law_r1 [55, 56, 43, 722, 723, 48, 57, 58, 59, 60, 61, 62, 63, 64, 44, 176, 114, 115, 45, 177, 133, 134, 46, 178] (by decide +kernel) (by decide +kernel) w h).1
set_option maxRecDepth 20000 in
theorem wsLi_2 : ∀ w ∈ wsL_law_r2, w ∈ lw_tbl := fun w h => (goodIn_r (big := lw_tbl) wsL_law_r2 [150, 151, 47, 179, 180, 175, 181, 66, 67, 68, 70, 69, 72, 73, 75, 77, 113, 78, 80, 82, 84, 85, 86, 87] (by decide +kernel) (by decide +kernel) w h).1
set_option maxRecDepth 20000 in
theorem wsLi_3 : ∀ w ∈ wsL_law_r3, w ∈ lw_tbl := fun w h => (goodIn_r (big := lw_tbl) wsL_law_r3 [116, 117, 118, 119, 120, 123, 124, 125, 136, 137, 138, 139, 149, 140, 141, 153, 154, 155, 156, 158, 174, 160, 161, 162] (by decide +kernel) (by decide +kernel) w h).1
set_option maxRecDepth 20000 in
theorem wsLi_4 : ∀ w ∈ wsL_law_r4, w ∈ lw_tbl := fun w h => (goodIn_r (big := lw_tbl) wsL_law_r4 [724, 725, 726, 727, 730, 732, 735, 736, 728, 738, 740, 741, 729, 195, 196, 197, 198, 199, 200, 201, 202, 203, 204, 205] (by decide +kernel) (by decide +kernel) w h).1
set_option maxRecDepth 20000 in
theorem wsLi_5 : ∀ w ∈ wsL_law_r5, w ∈ lw_tbl := fun w h => (goodIn_r (big := lw_tbl) wsL_law_r5 [206, 207, 209, 208, 49, 210, 211, 212, 213, 217, 226, 227, 215, 216, 218, 219, 220, 221, 222, 223, 224, 225, 228, 230] (by decide +kernel) (by decide +kernel) w h).1
set_option maxRecDepth 20000 in
theorem wsLi_6 : ∀ w ∈ wsL_law_r6, w ∈ lw_tbl := fun w h => (goodIn_r (big := lw_tbl) wsL_law_r6 [0, 231, 232, 233, 234, 235, 236, 237, 238, 239, 240, 241, 242, 771, 772, 773, 774, 778, 791, 792, 775, 776, 777, 779] (by decide +kernel) (by decide +kernel) w h).1
set_option maxRecDepth 20000 in
theorem wsLi_7 : ∀ w ∈ wsL_law_r7, w ∈ lw_tbl := fun w h => (goodIn_r (big := lw_tbl) wsL_law_r7 [781, 14, 782, 783, 785, 15, 786, 787, 789, 16, 790, 793, 795, 17, 796, 734, 731, 733, 243, 244, 245, 246, 247, 248] (by decide +kernel) (by decide +kernel) w h).1
set_option maxRecDepth 20000 in
theorem wsLi_8 : ∀ w ∈ wsL_law_r8, w ∈ lw_tbl := fun w h => (goodIn_r (big := lw_tbl) wsL_law_r8 [249, 250, 797, 798, 799, 800, 251, 252, 253, 254, 255, 256, 257, 258, 263, 259, 260, 261, 262, 264, 266, 1, 267, 801] (by decide +kernel) (by decide +kernel) w h).1
set_option maxRecDepth 20000 in
theorem wsLi_9 : ∀ w ∈ wsL_law_r9, w ∈ lw_tbl := fun w h => (goodIn_r (big := lw_tbl) wsL_law_r9 [802, 803, 804, 809, 805, 807, 18, 808, 268, 269, 270, 271, 272, 273, 274, 275, 276, 810, 811, 812, 813, 814, 815, 817] (by decide +kernel) (by decide +kernel) w h).1
set_option maxRecDepth 20000 in
theorem wsLi_10 : ∀ w ∈ wsL_law_r10, w ∈ lw_tbl := fun w h => (goodIn_r (big := lw_tbl) wsL_law_r10 [19, 818, 277, 278, 279, 280, 281, 282, 283, 284, 819, 820, 821, 822, 285, 286, 287, 288, 289, 290, 291, 292, 823, 824] (by decide +kernel) (by decide +kernel) w h).1
set_option maxRecDepth 20000 in
theorem wsLi_11 : ∀ w ∈ wsL_law_r11, w ∈ lw_tbl := fun w h => (goodIn_r (big := lw_tbl) wsL_law_r11 [825, 826, 293, 294, 295, 296, 297, 298, 299, 300, 827, 828, 829, 830, 301, 302, 303, 304, 305, 306, 307, 308, 831, 832] (by decide +kernel) (by decide +kernel) w h).1
set_option maxRecDepth 20000 in
theorem wsLi_12 : ∀ w ∈ wsL_law_r12, w ∈ lw_tbl := fun w h => (goodIn_r (big := lw_tbl) wsL_law_r12 [833, 834, 309, 310, 311, 312, 313, 314, 315, 316, 835, 836, 837, 838, 317, 318, 319, 320, 321, 322, 323, 324, 325, 326] (by decide +kernel) (by decide +kernel) w h).1
set_option maxRecDepth 20000 in
theorem wsLi_13 : ∀ w ∈ wsL_law_r13, w ∈ lw_tbl := fun w h => (goodIn_r (big := lw_tbl) wsL_law_r13 [327, 328, 329, 330, 331, 332, 333, 839, 840, 841, 842, 843, 844, 846, 20, 847, 334, 335, 336, 337, 338, 339, 340, 341] (by decide +kernel) (by decide +kernel) w h).1
set_option maxRecDepth 20000 in
theorem wsLi_14 : ∀ w ∈ wsL_law_r14, w ∈ lw_tbl := fun w h => (goodIn_r (big := lw_tbl) wsL_law_r14 [848, 849, 850, 851, 342, 343, 344, 345, 346, 347, 348, 349, 350, 351, 352, 353, 354, 355, 356, 357, 358, 359, 360, 361] (by decide +kernel) (by decide +kernel) w h).1
set_option maxRecDepth 20000 in
theorem wsLi_15 : ∀ w ∈ wsL_law_r15, w ∈ lw_tbl := fun w h => (goodIn_r (big := lw_tbl) wsL_law_r15 [362, 363, 364, 365, 369, 370, 50, 371, 367, 368, 372, 374, 2, 375, 376, 852, 853, 854, 855, 856, 857, 859, 21, 860] (by decide +kernel) (by decide +kernel) w h).1
set_option maxRecDepth 20000 in
theorem wsLi_16 : ∀ w ∈ wsL_law_r16, w ∈ lw_tbl := fun w h => (goodIn_r (big := lw_tbl) wsL_law_r16 [861, 863, 22, 864, 865, 866, 867, 868, 869, 870, 871, 377, 378, 379, 380, 381, 382, 383, 384, 385, 387, 3, 388, 389] (by decide +kernel) (by decide +kernel) w h).1
set_option maxRecDepth 20000 in
theorem wsLi_17 : ∀ w ∈ wsL_law_r17, w ∈ lw_tbl := fun w h => (goodIn_r (big := lw_tbl) wsL_law_r17 [391, 4, 392, 393, 394, 395, 396, 397, 398, 399, 400, 401, 402, 403, 404, 405, 407, 5, 408, 409, 411, 6, 412, 413] (by decide +kernel) (by decide +kernel) w h).1
set_option maxRecDepth 20000 in
theorem wsLi_18 : ∀ w ∈ wsL_law_r18, w ∈ lw_tbl := fun w h => (goodIn_r (big := lw_tbl) wsL_law_r18 [414, 415, 416, 417, 418, 419, 872, 873, 874, 875, 876, 878, 23, 879, 880, 882, 24, 883, 884, 886, 25, 887, 888, 889] (by decide +kernel) (by decide +kernel) w h).1
set_option maxRecDepth 20000 in
theorem wsLi_19 : ∀ w ∈ wsL_law_r19, w ∈ lw_tbl := fun w h => (goodIn_r (big := lw_tbl) wsL_law_r19 [890, 891, 893, 26, 894, 895, 897, 27, 898, 899, 901, 28, 902, 420, 421, 422, 423, 424, 425, 426, 427, 428, 767, 768] (by decide +kernel) (by decide +kernel) w h).1
set_option maxRecDepth 20000 in
theorem wsLi_20 : ∀ w ∈ wsL_law_r20, w ∈ lw_tbl := fun w h => (goodIn_r (big := lw_tbl) wsL_law_r20 [769, 770, 429, 430, 431, 432, 433, 434, 435, 436, 438, 439, 903, 904, 905, 906, 737, 440, 441, 442, 443, 444, 445, 446] (by decide +kernel) (by decide +kernel) w h).1
set_option maxRecDepth 20000 in
theorem wsLi_21 : ∀ w ∈ wsL_law_r21, w ∈ lw_tbl := fun w h => (goodIn_r (big := lw_tbl) wsL_law_r21 [447, 907, 908, 909, 910, 448, 449, 450, 451, 157, 452, 453, 454, 455, 456, 457, 458, 459, 460, 461, 463, 7, 464, 465] (by decide +kernel) (by decide +kernel) w h).1
set_option maxRecDepth 20000 in
theorem wsLi_22 : ∀ w ∈ wsL_law_r22, w ∈ lw_tbl := fun w h => (goodIn_r (big := lw_tbl) wsL_law_r22 [467, 8, 468, 469, 471, 9, 472, 474, 475, 476, 477, 478, 479, 480, 481, 482, 484, 10, 485, 486, 487, 488, 51, 489] (by decide +kernel) (by decide +kernel) w h).1
set_option maxRecDepth 20000 in
theorem wsLi_23 : ∀ w ∈ wsL_law_r23, w ∈ lw_tbl := fun w h => (goodIn_r (big := lw_tbl) wsL_law_r23 [1081, 490, 491, 492, 493, 494, 1082, 496, 497, 498, 499, 500, 501, 502, 503, 504, 505, 52, 506, 507, 508, 509, 510, 512] (by decide +kernel) (by decide +kernel) w h).1
set_option maxRecDepth 20000 in
theorem wsLi_24 : ∀ w ∈ wsL_law_r24, w ∈ lw_tbl := fun w h => (goodIn_r (big := lw_tbl) wsL_law_r24 [513, 53, 514, 515, 516, 54, 517, 518, 519, 520, 521, 522, 523, 524, 525, 526, 527, 528, 530, 532, 534, 536, 11, 537] (by decide +kernel) (by decide +kernel) w h).1
set_option maxRecDepth 20000 in
theorem wsLi_25 : ∀ w ∈ wsL_law_r25, w ∈ lw_tbl := fun w h => (goodIn_r (big := lw_tbl) wsL_law_r25 [538, 539, 540, 541, 549, 551, 12, 552, 159, 555, 554, 559, 560, 561, 911, 912, 913, 914, 915, 917, 29, 918, 739, 919] (by decide +kernel) (by decide +kernel) w h).1
set_option maxRecDepth 20000 in
theorem wsLi_26 : ∀ w ∈ wsL_law_r26, w ∈ lw_tbl := fun w h => (goodIn_r (big := lw_tbl) wsL_law_r26 [921, 30, 922, 923, 924, 926, 31, 927, 928, 929, 930, 931, 933, 32, 934, 935, 936, 937, 938, 939, 940, 941, 942, 943] (by decide +kernel) (by decide +kernel) w h).1
set_option maxRecDepth 20000 in
theorem wsLi_27 : ∀ w ∈ wsL_law_r27, w ∈ lw_tbl := fun w h => (goodIn_r (big := lw_tbl) wsL_law_r27 [944, 945, 947, 33, 948, 949, 950, 563, 564, 565, 566, 951, 952, 953, 954, 567, 568, 569, 570, 71, 955, 956, 957, 958] (by decide +kernel) (by decide +kernel) w h).1
set_option maxRecDepth 20000 in
theorem wsLi_28 : ∀ w ∈ wsL_law_r28, w ∈ lw_tbl := fun w h => (goodIn_r (big := lw_tbl) wsL_law_r28 [571, 572, 573, 574, 575, 959, 960, 961, 962, 576, 577, 578, 579, 79, 580, 963, 964, 965, 966, 967, 969, 34, 970, 581] (by decide +kernel) (by decide +kernel) w h).1
set_option maxRecDepth 20000 in
theorem wsLi_29 : ∀ w ∈ wsL_law_r29, w ∈ lw_tbl := fun w h => (goodIn_r (big := lw_tbl) wsL_law_r29 [582, 583, 584, 81, 971, 972, 973, 974, 585, 586, 587, 588, 83, 975, 976, 977, 978, 589, 590, 591, 592, 74, 76, 593] (by decide +kernel) (by decide +kernel) w h).1
set_option maxRecDepth 20000 in
theorem wsLi_30 : ∀ w ∈ wsL_law_r30, w ∈ lw_tbl := fun w h => (goodIn_r (big := lw_tbl) wsL_law_r30 [979, 980, 981, 982, 594, 595, 596, 597, 598, 983, 984, 985, 986, 599, 600, 601, 602, 603, 604, 605, 606, 607, 987, 988] (by decide +kernel) (by decide +kernel) w h).1
set_option maxRecDepth 20000 in
theorem wsLi_31 : ∀ w ∈ wsL_law_r31, w ∈ lw_tbl := fun w h => (goodIn_r (big := lw_tbl) wsL_law_r31 [989, 990, 991, 993, 35, 994, 995, 608, 609, 610, 611, 612, 613, 614, 615, 616, 996, 997, 998, 999, 617, 618, 619, 620] (by decide +kernel) (by decide +kernel) w h).1
set_option maxRecDepth 20000 in
theorem wsLi_32 : ∀ w ∈ wsL_law_r32, w ∈ lw_tbl := fun w h => (goodIn_r (big := lw_tbl) wsL_law_r32 [621, 622, 623, 624, 625, 1000, 1001, 1002, 1003, 626, 627, 628, 629, 630, 1004, 1005, 1006, 1007, 631, 632, 633, 634, 635, 637] (by decide +kernel) (by decide +kernel) w h).1
set_option maxRecDepth 20000 in
theorem wsLi_33 : ∀ w ∈ wsL_law_r33, w ∈ lw_tbl := fun w h => (goodIn_r (big := lw_tbl) wsL_law_r33 [13, 638, 639, 640, 641, 642, 1008, 1009, 1010, 1011, 1012, 1014, 36, 1015, 1016, 1018, 37, 1019, 1020, 1022, 38, 1023, 1024, 1025] (by decide +kernel) (by decide +kernel) w h).1
set_option maxRecDepth 20000 in
theorem wsLi_34 : ∀ w ∈ wsL_law_r34, w ∈ lw_tbl := fun w h => (goodIn_r (big := lw_tbl) wsL_law_r34 [1026, 643, 644, 645, 646, 647, 648, 649, 650, 653, 654, 655, 651, 652, 1027, 1028, 1029, 1030, 1031, 1033, 39, 1034, 656, 657] (by decide +kernel) (by decide +kernel) w h).1
set_option maxRecDepth 20000 in
theorem wsLi_35 : ∀ w ∈ wsL_law_r35, w ∈ lw_tbl := fun w h => (goodIn_r (big := lw_tbl) wsL_law_r35 [658, 659, 660, 661, 662, 663, 667, 664, 665, 666, 1035, 1036, 1037, 1038, 1039, 1041, 40, 1042, 668, 669, 670, 671, 672, 673] (by decide +kernel) (by decide +kernel) w h).1
set_option maxRecDepth 20000 in
theorem wsLi_36 : ∀ w ∈ wsL_law_r36, w ∈ lw_tbl := fun w h => (goodIn_r (big := lw_tbl) wsL_law_r36 [674, 675, 1043, 1044, 1045, 1046, 676, 677, 678, 679, 1047, 1048, 1049, 1050, 680, 681, 682, 683, 684, 685, 686, 687, 688, 1051] (by decide +kernel) (by decide +kernel) w h).1
set_option maxRecDepth 20000 in
theorem wsLi_37 : ∀ w ∈ wsL_law_r37, w ∈ lw_tbl := fun w h => (goodIn_r (big := lw_tbl) wsL_law_r37 [1052, 1053, 1054, 689, 690, 691, 692, 1055, 1056, 1057, 1058, 693, 694, 695, 696, 697, 698, 699, 700, 1059, 1060, 1061, 1062, 1063] (by decide +kernel) (by decide +kernel) w h).1
set_option maxRecDepth 20000 in
theorem wsLi_38 : ∀ w ∈ wsL_law_r38, w ∈ lw_tbl := fun w h => (goodIn_r (big := lw_tbl) wsL_law_r38 [1064, 701, 702, 703, 704, 705, 706, 707, 708, 709, 1065, 1066, 1067, 1068, 1069, 1071, 41, 1072, 710, 711, 712, 713, 1073, 1074] (by decide +kernel) (by decide +kernel) w h).1
set_option maxRecDepth 20000 in
theorem wsLi_39 : ∀ w ∈ wsL_law_r39, w ∈ lw_tbl := fun w h => (goodIn_r (big := lw_tbl) wsL_law_r39 [1075, 1076, 714, 715, 716, 717, 718, 719, 720, 721, 1077, 1078, 1079, 1080] (by decide +kernel) (by decide +kernel) w h).1
set_option maxRecDepth 20000 in
theorem wsLi_X4 : ∀ w ∈ wsX40, w ∈ lw_tbl := fun w h => (goodIn_r (big := lw_tbl) wsX40 [182, 184, 186, 188, 190, 192] (by decide +kernel) (by decide +kernel) w h).1
set_option maxRecDepth 20000 in
theorem wsLi_X5 : ∀ w ∈ wsX50, w ∈ lw_tbl := fun w h => (goodIn_r (big := lw_tbl) wsX50 [742, 744, 746, 748, 750, 752, 754, 756, 758, 760, 762, 764] (by decide +kernel) (by decide +kernel) w h).1
set_option maxRecDepth 20000 in
theorem wsLi_X0 : ∀ w ∈ wsX00, w ∈ lw_tbl := fun w h => (goodIn_r (big := lw_tbl) wsX00 [88, 90, 92, 94, 96, 98, 100, 102, 104, 106, 108, 110] (by decide +kernel) (by decide +kernel) w h).1
set_option maxRecDepth 20000 in
theorem wsLi_X2 : ∀ w ∈ wsX20, w ∈ lw_tbl := fun w h => (goodIn_r (big := lw_tbl) wsX20 [126, 128, 130] (by decide +kernel) (by decide +kernel) w h).1
set_option maxRecDepth 20000 in
theorem wsLi_X1 : ∀ w ∈ wsX10, w ∈ lw_tbl := fun w h => (goodIn_r (big := lw_tbl) wsX10 [142, 144, 146] (by decide +kernel) (by decide +kernel) w h).1
set_option maxRecDepth 20000 in
theorem wsLi_X3 : ∀ w ∈ wsX30, w ∈ lw_tbl := fun w h => (goodIn_r (big := lw_tbl) wsX30 [163, 165, 167, 169, 171] (by decide +kernel) (by decide +kernel) w h).1
theorem wsL_law_in : ∀ w ∈ wsL_law, w ∈ lw_tbl := (List.forall_mem_append.mpr ⟨(List.forall_mem_append.mpr ⟨(List.forall_mem_append.mpr ⟨(List.forall_mem_append.mpr ⟨(List.forall_mem_append.mpr ⟨(List.forall_mem_append.mpr ⟨(List.forall_mem_append.mpr ⟨(List.forall_mem_append.mpr ⟨wsLi_1, (List.forall_mem_append.mpr ⟨wsLi_2, (List.forall_mem_append.mpr ⟨wsLi_3, (List.forall_mem_append.mpr ⟨wsLi_4, (List.forall_mem_append.mpr ⟨wsLi_5, (List.forall_mem_append.mpr ⟨wsLi_6, (List.forall_mem_append.mpr ⟨wsLi_7, (List.forall_mem_append.mpr ⟨wsLi_8, (List.forall_mem_append.mpr ⟨wsLi_9, (List.forall_mem_append.mpr ⟨wsLi_10, (List.forall_mem_append.mpr ⟨wsLi_11, (List.forall_mem_append.mpr ⟨wsLi_12, (List.forall_mem_append.mpr ⟨wsLi_13, (List.forall_mem_append.mpr ⟨wsLi_14, (List.forall_mem_append.mpr ⟨wsLi_15, (List.forall_mem_append.mpr ⟨wsLi_16, (List.forall_mem_append.mpr ⟨wsLi_17, (List.forall_mem_append.mpr ⟨wsLi_18, (List.forall_mem_append.mpr ⟨wsLi_19, (List.forall_mem_append.mpr ⟨wsLi_20, (List.forall_mem_append.mpr ⟨wsLi_21, (List.forall_mem_append.mpr ⟨wsLi_22, (List.forall_mem_append.mpr ⟨wsLi_23, (List.forall_mem_append.mpr ⟨wsLi_24, (List.forall_mem_append.mpr ⟨wsLi_25, (List.forall_mem_append.mpr ⟨wsLi_26, (List.forall_mem_append.mpr ⟨wsLi_27, (List.forall_mem_append.mpr ⟨wsLi_28, (List.forall_mem_append.mpr ⟨wsLi_29, (List.forall_mem_append.mpr ⟨wsLi_30, (List.forall_mem_append.mpr ⟨wsLi_31, (List.forall_mem_append.mpr ⟨wsLi_32, (List.forall_mem_append.mpr ⟨wsLi_33, (List.forall_mem_append.mpr ⟨wsLi_34, (List.forall_mem_append.mpr ⟨wsLi_35, (List.forall_mem_append.mpr ⟨wsLi_36, (List.forall_mem_append.mpr ⟨wsLi_37, (List.forall_mem_append.mpr ⟨wsLi_38, wsLi_39⟩)⟩)⟩)⟩)⟩)⟩)⟩)⟩)⟩)⟩)⟩)⟩)⟩)⟩)⟩)⟩)⟩)⟩)⟩)⟩)⟩)⟩)⟩)⟩)⟩)⟩)⟩)⟩)⟩)⟩)⟩)⟩)⟩)⟩)⟩)⟩)⟩)⟩), wsLi_X4⟩), wsLi_X5⟩), wsLi_X0⟩), wsLi_X2⟩), wsLi_X1⟩), wsLi_X3⟩), fun _ h => absurd h List.not_mem_nil⟩)
