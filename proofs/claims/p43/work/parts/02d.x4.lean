theorem dX4_init_0 : decode cX4_init 0 = .ok (.aload_n 0, 1) := by decide +kernel
theorem dX4_init_1 : decode cX4_init 1 = .ok (.invokespecial 1, 3) := by decide +kernel
theorem dX4_init_4 : decode cX4_init 4 = .ok (.aload_n 0, 1) := by decide +kernel
theorem dX4_init_5 : decode cX4_init 5 = .ok (.new 7, 3) := by decide +kernel
theorem dX4_init_8 : decode cX4_init 8 = .ok (.dup, 1) := by decide +kernel
theorem dX4_init_9 : decode cX4_init 9 = .ok (.invokespecial 9, 3) := by decide +kernel
theorem dX4_init_12 : decode cX4_init 12 = .ok (.putfield 10, 3) := by decide +kernel
theorem dX4_init_15 : decode cX4_init 15 = .ok (.aload_n 0, 1) := by decide +kernel
theorem dX4_init_16 : decode cX4_init 16 = .ok (.new 16, 3) := by decide +kernel
theorem dX4_init_19 : decode cX4_init 19 = .ok (.dup, 1) := by decide +kernel
theorem dX4_init_20 : decode cX4_init 20 = .ok (.invokespecial 18, 3) := by decide +kernel
theorem dX4_init_23 : decode cX4_init 23 = .ok (.putfield 19, 3) := by decide +kernel
theorem dX4_init_26 : decode cX4_init 26 = .ok (.aload_n 0, 1) := by decide +kernel
theorem dX4_init_27 : decode cX4_init 27 = .ok (.new 23, 3) := by decide +kernel
theorem dX4_init_30 : decode cX4_init 30 = .ok (.dup, 1) := by decide +kernel
theorem dX4_init_31 : decode cX4_init 31 = .ok (.invokespecial 25, 3) := by decide +kernel
theorem dX4_init_34 : decode cX4_init 34 = .ok (.putfield 26, 3) := by decide +kernel
theorem dX4_init_37 : decode cX4_init 37 = .ok (.aload_n 0, 1) := by decide +kernel
theorem dX4_init_38 : decode cX4_init 38 = .ok (.new 30, 3) := by decide +kernel
theorem dX4_init_41 : decode cX4_init 41 = .ok (.dup, 1) := by decide +kernel
theorem dX4_init_42 : decode cX4_init 42 = .ok (.invokespecial 32, 3) := by decide +kernel
theorem dX4_init_45 : decode cX4_init 45 = .ok (.putfield 33, 3) := by decide +kernel
theorem dX4_init_48 : decode cX4_init 48 = .ok (.aload_n 0, 1) := by decide +kernel
theorem dX4_init_49 : decode cX4_init 49 = .ok (.iconst 0, 1) := by decide +kernel
theorem dX4_init_50 : decode cX4_init 50 = .ok (.putfield 37, 3) := by decide +kernel
theorem dX4_init_53 : decode cX4_init 53 = .ok (.aload_n 0, 1) := by decide +kernel
theorem dX4_init_54 : decode cX4_init 54 = .ok (.ldc 41, 2) := by decide +kernel
theorem dX4_init_56 : decode cX4_init 56 = .ok (.putfield 42, 3) := by decide +kernel
theorem dX4_init_59 : decode cX4_init 59 = .ok (.return_, 1) := by decide +kernel
set_option maxRecDepth 20000 in
theorem ggX4_addLayer_X2_prepare : GoodIn wsX4_addLayer wsX2_prepare := goodIn_r _ [7, 8, 9, 10, 11, 12, 13, 14, 15, 16, 17, 18, 19, 20, 21, 22, 23, 24, 25, 26, 27, 28, 29, 30, 31, 72, 73, 74, 75, 76, 77, 78, 79, 80, 81, 82, 83, 84, 85, 86] (by decide +kernel) (by decide +kernel)
set_option maxRecDepth 20000 in
theorem gX4_addLayer_X2_prepare : GoodIn wsX4_addLayer (wsV RX4 45 RX2 yX2_prepare wsX2_prepare) := goodIn_app (goodIn_of _ (by decide +kernel)) ggX4_addLayer_X2_prepare
set_option maxRecDepth 20000 in
theorem ggX4_addLayer_X0_append : GoodIn wsX4_addLayer wsX0_append := goodIn_r _ [35, 36, 17, 37, 16, 38, 21, 26, 27, 28, 29, 30, 31, 39, 40, 41, 42, 43, 44, 14, 45, 46, 47, 48, 49, 75, 76, 77, 78, 79, 80, 81, 82, 83, 84, 85, 86] (by decide +kernel) (by decide +kernel)
set_option maxRecDepth 20000 in
theorem gX4_addLayer_X0_append : GoodIn wsX4_addLayer (wsV RX4 49 RX0 yX0_append wsX0_append) := goodIn_app (goodIn_of _ (by decide +kernel)) ggX4_addLayer_X0_append
set_option maxRecDepth 20000 in
theorem ggX4_addLayer_X4_closeAct : GoodIn wsX4_addLayer wsX4_closeAct := goodIn_r _ [53, 1, 54, 55, 56, 40, 57, 58, 59, 60, 61, 62, 63, 64, 6, 65, 10, 9, 66, 67, 68, 69, 70, 71, 72, 73, 74] (by decide +kernel) (by decide +kernel)
set_option maxRecDepth 20000 in
theorem gX4_addLayer_X4_closeAct : GoodIn wsX4_addLayer (wsV RX4 53 RX4 yX4_closeAct wsX4_closeAct) := goodIn_app (goodIn_of _ (by decide +kernel)) ggX4_addLayer_X4_closeAct
theorem dX4_addLayer_0 : decode cX4_addLayer 0 = .ok (.aload_n 0, 1) := by decide +kernel
theorem dX4_addLayer_1 : decode cX4_addLayer 1 = .ok (.getfield 19, 3) := by decide +kernel
theorem dX4_addLayer_4 : decode cX4_addLayer 4 = .ok (.aload_n 0, 1) := by decide +kernel
theorem dX4_addLayer_5 : decode cX4_addLayer 5 = .ok (.getfield 10, 3) := by decide +kernel
theorem dX4_addLayer_8 : decode cX4_addLayer 8 = .ok (.invokevirtual 45, 3) := by decide +kernel
theorem dX4_addLayer_11 : decode cX4_addLayer 11 = .ok (.aload_n 0, 1) := by decide +kernel
theorem dX4_addLayer_12 : decode cX4_addLayer 12 = .ok (.aload_n 0, 1) := by decide +kernel
theorem dX4_addLayer_13 : decode cX4_addLayer 13 = .ok (.getfield 10, 3) := by decide +kernel
theorem dX4_addLayer_16 : decode cX4_addLayer 16 = .ok (.iload_n 1, 1) := by decide +kernel
theorem dX4_addLayer_17 : decode cX4_addLayer 17 = .ok (.iload_n 2, 1) := by decide +kernel
theorem dX4_addLayer_18 : decode cX4_addLayer 18 = .ok (.invokevirtual 49, 3) := by decide +kernel
theorem dX4_addLayer_21 : decode cX4_addLayer 21 = .ok (.invokevirtual 53, 3) := by decide +kernel
theorem dX4_addLayer_24 : decode cX4_addLayer 24 = .ok (.ireturn, 1) := by decide +kernel
set_option maxRecDepth 20000 in
theorem ggX4_removeLowest_X2_prepare : GoodIn wsX4_removeLowest wsX2_prepare := goodIn_r _ [7, 8, 9, 10, 11, 12, 13, 14, 15, 16, 17, 18, 19, 20, 21, 22, 23, 24, 25, 26, 27, 28, 29, 30, 31, 60, 61, 62, 63, 64, 65, 66, 67, 68, 69, 70, 71, 72, 73, 74] (by decide +kernel) (by decide +kernel)
set_option maxRecDepth 20000 in
theorem gX4_removeLowest_X2_prepare : GoodIn wsX4_removeLowest (wsV RX4 45 RX2 yX2_prepare wsX2_prepare) := goodIn_app (goodIn_of _ (by decide +kernel)) ggX4_removeLowest_X2_prepare
set_option maxRecDepth 20000 in
theorem ggX4_removeLowest_X0_dropLowest : GoodIn wsX4_removeLowest wsX0_dropLowest := goodIn_r _ [35, 16, 36, 63, 64, 65, 66, 67, 68, 69, 70, 71, 72, 73, 74] (by decide +kernel) (by decide +kernel)
set_option maxRecDepth 20000 in
theorem gX4_removeLowest_X0_dropLowest : GoodIn wsX4_removeLowest (wsV RX4 57 RX0 yX0_dropLowest wsX0_dropLowest) := goodIn_app (goodIn_of _ (by decide +kernel)) ggX4_removeLowest_X0_dropLowest
set_option maxRecDepth 20000 in
theorem ggX4_removeLowest_X4_closeAct : GoodIn wsX4_removeLowest wsX4_closeAct := goodIn_r _ [41, 1, 42, 43, 44, 40, 45, 46, 47, 48, 49, 50, 51, 52, 6, 53, 10, 9, 54, 55, 56, 57, 58, 59, 60, 61, 62] (by decide +kernel) (by decide +kernel)
set_option maxRecDepth 20000 in
theorem gX4_removeLowest_X4_closeAct : GoodIn wsX4_removeLowest (wsV RX4 53 RX4 yX4_closeAct wsX4_closeAct) := goodIn_app (goodIn_of _ (by decide +kernel)) ggX4_removeLowest_X4_closeAct
theorem dX4_removeLowest_0 : decode cX4_removeLowest 0 = .ok (.aload_n 0, 1) := by decide +kernel
theorem dX4_removeLowest_1 : decode cX4_removeLowest 1 = .ok (.getfield 19, 3) := by decide +kernel
theorem dX4_removeLowest_4 : decode cX4_removeLowest 4 = .ok (.aload_n 0, 1) := by decide +kernel
theorem dX4_removeLowest_5 : decode cX4_removeLowest 5 = .ok (.getfield 10, 3) := by decide +kernel
theorem dX4_removeLowest_8 : decode cX4_removeLowest 8 = .ok (.invokevirtual 45, 3) := by decide +kernel
theorem dX4_removeLowest_11 : decode cX4_removeLowest 11 = .ok (.aload_n 0, 1) := by decide +kernel
theorem dX4_removeLowest_12 : decode cX4_removeLowest 12 = .ok (.aload_n 0, 1) := by decide +kernel
theorem dX4_removeLowest_13 : decode cX4_removeLowest 13 = .ok (.getfield 10, 3) := by decide +kernel
theorem dX4_removeLowest_16 : decode cX4_removeLowest 16 = .ok (.invokevirtual 57, 3) := by decide +kernel
theorem dX4_removeLowest_19 : decode cX4_removeLowest 19 = .ok (.invokevirtual 53, 3) := by decide +kernel
theorem dX4_removeLowest_22 : decode cX4_removeLowest 22 = .ok (.ireturn, 1) := by decide +kernel
set_option maxRecDepth 20000 in
theorem ggX4_divide_X2_prepare : GoodIn wsX4_divide wsX2_prepare := goodIn_r _ [7, 8, 9, 10, 11, 12, 13, 14, 15, 16, 17, 18, 19, 20, 21, 22, 23, 24, 25, 26, 27, 28, 29, 30, 31, 72, 73, 74, 75, 76, 77, 78, 79, 80, 81, 82, 83, 84, 85, 86] (by decide +kernel) (by decide +kernel)
set_option maxRecDepth 20000 in
theorem gX4_divide_X2_prepare : GoodIn wsX4_divide (wsV RX4 45 RX2 yX2_prepare wsX2_prepare) := goodIn_app (goodIn_of _ (by decide +kernel)) ggX4_divide_X2_prepare
set_option maxRecDepth 20000 in
theorem ggX4_divide_X0_split : GoodIn wsX4_divide wsX0_split := goodIn_r _ [35, 36, 21, 37, 16, 38, 29, 31, 39, 40, 41, 14, 42, 43, 44, 45, 46, 47, 48, 49, 26, 27, 28, 30, 75, 76, 77, 78, 79, 80, 81, 82, 83, 84, 85, 86] (by decide +kernel) (by decide +kernel)
set_option maxRecDepth 20000 in
theorem gX4_divide_X0_split : GoodIn wsX4_divide (wsV RX4 61 RX0 yX0_split wsX0_split) := goodIn_app (goodIn_of _ (by decide +kernel)) ggX4_divide_X0_split
set_option maxRecDepth 20000 in
theorem ggX4_divide_X4_closeAct : GoodIn wsX4_divide wsX4_closeAct := goodIn_r _ [53, 1, 54, 55, 56, 44, 57, 58, 59, 60, 61, 62, 63, 64, 6, 65, 10, 9, 66, 67, 68, 69, 70, 71, 72, 73, 74] (by decide +kernel) (by decide +kernel)
set_option maxRecDepth 20000 in
theorem gX4_divide_X4_closeAct : GoodIn wsX4_divide (wsV RX4 53 RX4 yX4_closeAct wsX4_closeAct) := goodIn_app (goodIn_of _ (by decide +kernel)) ggX4_divide_X4_closeAct
theorem dX4_divide_0 : decode cX4_divide 0 = .ok (.aload_n 0, 1) := by decide +kernel
theorem dX4_divide_1 : decode cX4_divide 1 = .ok (.getfield 19, 3) := by decide +kernel
theorem dX4_divide_4 : decode cX4_divide 4 = .ok (.aload_n 0, 1) := by decide +kernel
theorem dX4_divide_5 : decode cX4_divide 5 = .ok (.getfield 10, 3) := by decide +kernel
theorem dX4_divide_8 : decode cX4_divide 8 = .ok (.invokevirtual 45, 3) := by decide +kernel
theorem dX4_divide_11 : decode cX4_divide 11 = .ok (.aload_n 0, 1) := by decide +kernel
theorem dX4_divide_12 : decode cX4_divide 12 = .ok (.aload_n 0, 1) := by decide +kernel
theorem dX4_divide_13 : decode cX4_divide 13 = .ok (.getfield 10, 3) := by decide +kernel
theorem dX4_divide_16 : decode cX4_divide 16 = .ok (.iload_n 1, 1) := by decide +kernel
theorem dX4_divide_17 : decode cX4_divide 17 = .ok (.iload_n 2, 1) := by decide +kernel
theorem dX4_divide_18 : decode cX4_divide 18 = .ok (.invokevirtual 61, 3) := by decide +kernel
theorem dX4_divide_21 : decode cX4_divide 21 = .ok (.invokevirtual 53, 3) := by decide +kernel
theorem dX4_divide_24 : decode cX4_divide 24 = .ok (.ireturn, 1) := by decide +kernel
set_option maxRecDepth 20000 in
theorem ggX4_setBed_X2_prepare : GoodIn wsX4_setBed wsX2_prepare := goodIn_r _ [7, 8, 9, 10, 11, 12, 13, 14, 15, 16, 17, 18, 19, 20, 21, 22, 23, 24, 25, 26, 27, 28, 29, 30, 31, 72, 73, 74, 75, 76, 77, 78, 79, 80, 81, 82, 83, 84, 85, 86] (by decide +kernel) (by decide +kernel)
set_option maxRecDepth 20000 in
theorem gX4_setBed_X2_prepare : GoodIn wsX4_setBed (wsV RX4 45 RX2 yX2_prepare wsX2_prepare) := goodIn_app (goodIn_of _ (by decide +kernel)) ggX4_setBed_X2_prepare
set_option maxRecDepth 20000 in
theorem ggX4_setBed_X0_putBed : GoodIn wsX4_setBed wsX0_putBed := goodIn_r _ [35, 36, 37, 38, 17, 39, 40, 41, 42, 43, 44, 14, 45, 16, 46, 47, 48, 49, 21, 75, 76, 77, 78, 79, 80, 81, 82, 83, 84, 85, 86] (by decide +kernel) (by decide +kernel)
set_option maxRecDepth 20000 in
theorem gX4_setBed_X0_putBed : GoodIn wsX4_setBed (wsV RX4 64 RX0 yX0_putBed wsX0_putBed) := goodIn_app (goodIn_of _ (by decide +kernel)) ggX4_setBed_X0_putBed
set_option maxRecDepth 20000 in
theorem ggX4_setBed_X4_closeAct : GoodIn wsX4_setBed wsX4_closeAct := goodIn_r _ [53, 1, 54, 55, 56, 40, 57, 58, 59, 60, 61, 62, 63, 64, 6, 65, 10, 9, 66, 67, 68, 69, 70, 71, 72, 73, 74] (by decide +kernel) (by decide +kernel)
set_option maxRecDepth 20000 in
theorem gX4_setBed_X4_closeAct : GoodIn wsX4_setBed (wsV RX4 53 RX4 yX4_closeAct wsX4_closeAct) := goodIn_app (goodIn_of _ (by decide +kernel)) ggX4_setBed_X4_closeAct
theorem dX4_setBed_0 : decode cX4_setBed 0 = .ok (.aload_n 0, 1) := by decide +kernel
theorem dX4_setBed_1 : decode cX4_setBed 1 = .ok (.getfield 19, 3) := by decide +kernel
theorem dX4_setBed_4 : decode cX4_setBed 4 = .ok (.aload_n 0, 1) := by decide +kernel
theorem dX4_setBed_5 : decode cX4_setBed 5 = .ok (.getfield 10, 3) := by decide +kernel
theorem dX4_setBed_8 : decode cX4_setBed 8 = .ok (.invokevirtual 45, 3) := by decide +kernel
theorem dX4_setBed_11 : decode cX4_setBed 11 = .ok (.aload_n 0, 1) := by decide +kernel
theorem dX4_setBed_12 : decode cX4_setBed 12 = .ok (.aload_n 0, 1) := by decide +kernel
theorem dX4_setBed_13 : decode cX4_setBed 13 = .ok (.getfield 10, 3) := by decide +kernel
theorem dX4_setBed_16 : decode cX4_setBed 16 = .ok (.iload_n 1, 1) := by decide +kernel
theorem dX4_setBed_17 : decode cX4_setBed 17 = .ok (.invokevirtual 64, 3) := by decide +kernel
theorem dX4_setBed_20 : decode cX4_setBed 20 = .ok (.invokevirtual 53, 3) := by decide +kernel
theorem dX4_setBed_23 : decode cX4_setBed 23 = .ok (.ireturn, 1) := by decide +kernel
set_option maxRecDepth 20000 in
theorem ggX4_setFunction_X2_prepare : GoodIn wsX4_setFunction wsX2_prepare := goodIn_r _ [7, 8, 9, 10, 11, 12, 13, 14, 15, 16, 17, 18, 19, 20, 21, 22, 23, 24, 25, 26, 27, 28, 29, 30, 31, 62, 63, 64, 65, 66, 67, 68, 69, 70, 71, 72, 73, 74, 75, 76] (by decide +kernel) (by decide +kernel)
set_option maxRecDepth 20000 in
theorem gX4_setFunction_X2_prepare : GoodIn wsX4_setFunction (wsV RX4 45 RX2 yX2_prepare wsX2_prepare) := goodIn_app (goodIn_of _ (by decide +kernel)) ggX4_setFunction_X2_prepare
set_option maxRecDepth 20000 in
theorem ggX4_setFunction_X0_putFunction : GoodIn wsX4_setFunction wsX0_putFunction := goodIn_r _ [35, 36, 18, 37, 38, 39, 65, 66, 67, 68, 69, 70, 71, 72, 73, 74, 75, 76] (by decide +kernel) (by decide +kernel)
set_option maxRecDepth 20000 in
theorem gX4_setFunction_X0_putFunction : GoodIn wsX4_setFunction (wsV RX4 67 RX0 yX0_putFunction wsX0_putFunction) := goodIn_app (goodIn_of _ (by decide +kernel)) ggX4_setFunction_X0_putFunction
set_option maxRecDepth 20000 in
theorem ggX4_setFunction_X4_closeAct : GoodIn wsX4_setFunction wsX4_closeAct := goodIn_r _ [43, 1, 44, 45, 46, 38, 47, 48, 49, 50, 51, 52, 53, 54, 6, 55, 10, 9, 56, 57, 58, 59, 60, 61, 62, 63, 64] (by decide +kernel) (by decide +kernel)
set_option maxRecDepth 20000 in
theorem gX4_setFunction_X4_closeAct : GoodIn wsX4_setFunction (wsV RX4 53 RX4 yX4_closeAct wsX4_closeAct) := goodIn_app (goodIn_of _ (by decide +kernel)) ggX4_setFunction_X4_closeAct
theorem dX4_setFunction_0 : decode cX4_setFunction 0 = .ok (.aload_n 0, 1) := by decide +kernel
theorem dX4_setFunction_1 : decode cX4_setFunction 1 = .ok (.getfield 19, 3) := by decide +kernel
theorem dX4_setFunction_4 : decode cX4_setFunction 4 = .ok (.aload_n 0, 1) := by decide +kernel
theorem dX4_setFunction_5 : decode cX4_setFunction 5 = .ok (.getfield 10, 3) := by decide +kernel
theorem dX4_setFunction_8 : decode cX4_setFunction 8 = .ok (.invokevirtual 45, 3) := by decide +kernel
theorem dX4_setFunction_11 : decode cX4_setFunction 11 = .ok (.aload_n 0, 1) := by decide +kernel
theorem dX4_setFunction_12 : decode cX4_setFunction 12 = .ok (.aload_n 0, 1) := by decide +kernel
theorem dX4_setFunction_13 : decode cX4_setFunction 13 = .ok (.getfield 10, 3) := by decide +kernel
theorem dX4_setFunction_16 : decode cX4_setFunction 16 = .ok (.iload_n 1, 1) := by decide +kernel
theorem dX4_setFunction_17 : decode cX4_setFunction 17 = .ok (.invokevirtual 67, 3) := by decide +kernel
theorem dX4_setFunction_20 : decode cX4_setFunction 20 = .ok (.invokevirtual 53, 3) := by decide +kernel
theorem dX4_setFunction_23 : decode cX4_setFunction 23 = .ok (.ireturn, 1) := by decide +kernel
set_option maxRecDepth 20000 in
theorem ggX4_setKink_X2_prepare : GoodIn wsX4_setKink wsX2_prepare := goodIn_r _ [7, 8, 9, 10, 11, 12, 13, 14, 15, 16, 17, 18, 19, 20, 21, 22, 23, 24, 25, 26, 27, 28, 29, 30, 31, 62, 63, 64, 65, 66, 67, 68, 69, 70, 71, 72, 73, 74, 75, 76] (by decide +kernel) (by decide +kernel)
set_option maxRecDepth 20000 in
theorem gX4_setKink_X2_prepare : GoodIn wsX4_setKink (wsV RX4 45 RX2 yX2_prepare wsX2_prepare) := goodIn_app (goodIn_of _ (by decide +kernel)) ggX4_setKink_X2_prepare
set_option maxRecDepth 20000 in
theorem ggX4_setKink_X0_putKink : GoodIn wsX4_setKink wsX0_putKink := goodIn_r _ [35, 36, 19, 37, 38, 39, 65, 66, 67, 68, 69, 70, 71, 72, 73, 74, 75, 76] (by decide +kernel) (by decide +kernel)
set_option maxRecDepth 20000 in
theorem gX4_setKink_X0_putKink : GoodIn wsX4_setKink (wsV RX4 70 RX0 yX0_putKink wsX0_putKink) := goodIn_app (goodIn_of _ (by decide +kernel)) ggX4_setKink_X0_putKink
set_option maxRecDepth 20000 in
theorem ggX4_setKink_X4_closeAct : GoodIn wsX4_setKink wsX4_closeAct := goodIn_r _ [43, 1, 44, 45, 46, 38, 47, 48, 49, 50, 51, 52, 53, 54, 6, 55, 10, 9, 56, 57, 58, 59, 60, 61, 62, 63, 64] (by decide +kernel) (by decide +kernel)
set_option maxRecDepth 20000 in
theorem gX4_setKink_X4_closeAct : GoodIn wsX4_setKink (wsV RX4 53 RX4 yX4_closeAct wsX4_closeAct) := goodIn_app (goodIn_of _ (by decide +kernel)) ggX4_setKink_X4_closeAct
theorem dX4_setKink_0 : decode cX4_setKink 0 = .ok (.aload_n 0, 1) := by decide +kernel
theorem dX4_setKink_1 : decode cX4_setKink 1 = .ok (.getfield 19, 3) := by decide +kernel
theorem dX4_setKink_4 : decode cX4_setKink 4 = .ok (.aload_n 0, 1) := by decide +kernel
theorem dX4_setKink_5 : decode cX4_setKink 5 = .ok (.getfield 10, 3) := by decide +kernel
theorem dX4_setKink_8 : decode cX4_setKink 8 = .ok (.invokevirtual 45, 3) := by decide +kernel
theorem dX4_setKink_11 : decode cX4_setKink 11 = .ok (.aload_n 0, 1) := by decide +kernel
theorem dX4_setKink_12 : decode cX4_setKink 12 = .ok (.aload_n 0, 1) := by decide +kernel
theorem dX4_setKink_13 : decode cX4_setKink 13 = .ok (.getfield 10, 3) := by decide +kernel
theorem dX4_setKink_16 : decode cX4_setKink 16 = .ok (.iload_n 1, 1) := by decide +kernel
theorem dX4_setKink_17 : decode cX4_setKink 17 = .ok (.invokevirtual 70, 3) := by decide +kernel
theorem dX4_setKink_20 : decode cX4_setKink 20 = .ok (.invokevirtual 53, 3) := by decide +kernel
theorem dX4_setKink_23 : decode cX4_setKink 23 = .ok (.ireturn, 1) := by decide +kernel
set_option maxRecDepth 20000 in
theorem ggX4_tellThinning_X2_prepare : GoodIn wsX4_tellThinning wsX2_prepare := goodIn_r _ [7, 8, 9, 10, 11, 12, 13, 14, 15, 16, 17, 18, 19, 20, 21, 22, 23, 24, 25, 26, 27, 28, 29, 30, 31, 67, 68, 69, 70, 71, 72, 73, 74, 75, 76, 77, 78, 79, 80, 81] (by decide +kernel) (by decide +kernel)
set_option maxRecDepth 20000 in
theorem gX4_tellThinning_X2_prepare : GoodIn wsX4_tellThinning (wsV RX4 45 RX2 yX2_prepare wsX2_prepare) := goodIn_app (goodIn_of _ (by decide +kernel)) ggX4_tellThinning_X2_prepare
set_option maxRecDepth 20000 in
theorem ggX4_tellThinning_X0_putTold : GoodIn wsX4_tellThinning wsX0_putTold := goodIn_r _ [35, 36, 37, 28, 38, 39, 40, 14, 41, 16, 42, 43, 44, 70, 71, 72, 73, 74, 75, 76, 77, 78, 79, 80, 81] (by decide +kernel) (by decide +kernel)
set_option maxRecDepth 20000 in
theorem gX4_tellThinning_X0_putTold : GoodIn wsX4_tellThinning (wsV RX4 73 RX0 yX0_putTold wsX0_putTold) := goodIn_app (goodIn_of _ (by decide +kernel)) ggX4_tellThinning_X0_putTold
set_option maxRecDepth 20000 in
theorem ggX4_tellThinning_X4_closeAct : GoodIn wsX4_tellThinning wsX4_closeAct := goodIn_r _ [48, 1, 49, 50, 51, 43, 52, 53, 54, 55, 56, 57, 58, 59, 6, 60, 10, 9, 61, 62, 63, 64, 65, 66, 67, 68, 69] (by decide +kernel) (by decide +kernel)
set_option maxRecDepth 20000 in
theorem gX4_tellThinning_X4_closeAct : GoodIn wsX4_tellThinning (wsV RX4 53 RX4 yX4_closeAct wsX4_closeAct) := goodIn_app (goodIn_of _ (by decide +kernel)) ggX4_tellThinning_X4_closeAct
theorem dX4_tellThinning_0 : decode cX4_tellThinning 0 = .ok (.aload_n 0, 1) := by decide +kernel
theorem dX4_tellThinning_1 : decode cX4_tellThinning 1 = .ok (.getfield 19, 3) := by decide +kernel
theorem dX4_tellThinning_4 : decode cX4_tellThinning 4 = .ok (.aload_n 0, 1) := by decide +kernel
theorem dX4_tellThinning_5 : decode cX4_tellThinning 5 = .ok (.getfield 10, 3) := by decide +kernel
theorem dX4_tellThinning_8 : decode cX4_tellThinning 8 = .ok (.invokevirtual 45, 3) := by decide +kernel
theorem dX4_tellThinning_11 : decode cX4_tellThinning 11 = .ok (.aload_n 0, 1) := by decide +kernel
theorem dX4_tellThinning_12 : decode cX4_tellThinning 12 = .ok (.aload_n 0, 1) := by decide +kernel
theorem dX4_tellThinning_13 : decode cX4_tellThinning 13 = .ok (.getfield 10, 3) := by decide +kernel
theorem dX4_tellThinning_16 : decode cX4_tellThinning 16 = .ok (.iload_n 1, 1) := by decide +kernel
theorem dX4_tellThinning_17 : decode cX4_tellThinning 17 = .ok (.iload_n 2, 1) := by decide +kernel
theorem dX4_tellThinning_18 : decode cX4_tellThinning 18 = .ok (.invokevirtual 73, 3) := by decide +kernel
theorem dX4_tellThinning_21 : decode cX4_tellThinning 21 = .ok (.invokevirtual 53, 3) := by decide +kernel
theorem dX4_tellThinning_24 : decode cX4_tellThinning 24 = .ok (.ireturn, 1) := by decide +kernel
set_option maxRecDepth 20000 in
theorem ggX4_correct_X2_prepare : GoodIn wsX4_correct wsX2_prepare := goodIn_r _ [7, 8, 9, 10, 11, 12, 13, 14, 15, 16, 17, 18, 19, 20, 21, 22, 23, 24, 25, 26, 27, 28, 29, 30, 31, 67, 68, 69, 70, 71, 72, 73, 74, 75, 76, 77, 78, 79, 80, 81] (by decide +kernel) (by decide +kernel)
set_option maxRecDepth 20000 in
theorem gX4_correct_X2_prepare : GoodIn wsX4_correct (wsV RX4 45 RX2 yX2_prepare wsX2_prepare) := goodIn_app (goodIn_of _ (by decide +kernel)) ggX4_correct_X2_prepare
set_option maxRecDepth 20000 in
theorem ggX4_correct_X0_putCorrection : GoodIn wsX4_correct wsX0_putCorrection := goodIn_r _ [35, 36, 37, 27, 38, 39, 40, 14, 41, 16, 42, 43, 44, 70, 71, 72, 73, 74, 75, 76, 77, 78, 79, 80, 81] (by decide +kernel) (by decide +kernel)
set_option maxRecDepth 20000 in
theorem gX4_correct_X0_putCorrection : GoodIn wsX4_correct (wsV RX4 76 RX0 yX0_putCorrection wsX0_putCorrection) := goodIn_app (goodIn_of _ (by decide +kernel)) ggX4_correct_X0_putCorrection
set_option maxRecDepth 20000 in
theorem ggX4_correct_X4_closeAct : GoodIn wsX4_correct wsX4_closeAct := goodIn_r _ [48, 1, 49, 50, 51, 43, 52, 53, 54, 55, 56, 57, 58, 59, 6, 60, 10, 9, 61, 62, 63, 64, 65, 66, 67, 68, 69] (by decide +kernel) (by decide +kernel)
set_option maxRecDepth 20000 in
theorem gX4_correct_X4_closeAct : GoodIn wsX4_correct (wsV RX4 53 RX4 yX4_closeAct wsX4_closeAct) := goodIn_app (goodIn_of _ (by decide +kernel)) ggX4_correct_X4_closeAct
theorem dX4_correct_0 : decode cX4_correct 0 = .ok (.aload_n 0, 1) := by decide +kernel
theorem dX4_correct_1 : decode cX4_correct 1 = .ok (.getfield 19, 3) := by decide +kernel
theorem dX4_correct_4 : decode cX4_correct 4 = .ok (.aload_n 0, 1) := by decide +kernel
theorem dX4_correct_5 : decode cX4_correct 5 = .ok (.getfield 10, 3) := by decide +kernel
theorem dX4_correct_8 : decode cX4_correct 8 = .ok (.invokevirtual 45, 3) := by decide +kernel
theorem dX4_correct_11 : decode cX4_correct 11 = .ok (.aload_n 0, 1) := by decide +kernel
theorem dX4_correct_12 : decode cX4_correct 12 = .ok (.aload_n 0, 1) := by decide +kernel
theorem dX4_correct_13 : decode cX4_correct 13 = .ok (.getfield 10, 3) := by decide +kernel
theorem dX4_correct_16 : decode cX4_correct 16 = .ok (.iload_n 1, 1) := by decide +kernel
theorem dX4_correct_17 : decode cX4_correct 17 = .ok (.iload_n 2, 1) := by decide +kernel
theorem dX4_correct_18 : decode cX4_correct 18 = .ok (.invokevirtual 76, 3) := by decide +kernel
theorem dX4_correct_21 : decode cX4_correct 21 = .ok (.invokevirtual 53, 3) := by decide +kernel
theorem dX4_correct_24 : decode cX4_correct 24 = .ok (.ireturn, 1) := by decide +kernel
set_option maxRecDepth 20000 in
theorem ggX4_setCloseOff_X2_prepare : GoodIn wsX4_setCloseOff wsX2_prepare := goodIn_r _ [7, 8, 9, 10, 11, 12, 13, 14, 15, 16, 17, 18, 19, 20, 21, 22, 23, 24, 25, 26, 27, 28, 29, 30, 31, 62, 63, 64, 65, 66, 67, 68, 69, 70, 71, 72, 73, 74, 75, 76] (by decide +kernel) (by decide +kernel)
set_option maxRecDepth 20000 in
theorem gX4_setCloseOff_X2_prepare : GoodIn wsX4_setCloseOff (wsV RX4 45 RX2 yX2_prepare wsX2_prepare) := goodIn_app (goodIn_of _ (by decide +kernel)) ggX4_setCloseOff_X2_prepare
set_option maxRecDepth 20000 in
theorem ggX4_setCloseOff_X0_putCloseOff : GoodIn wsX4_setCloseOff wsX0_putCloseOff := goodIn_r _ [35, 36, 20, 37, 38, 39, 65, 66, 67, 68, 69, 70, 71, 72, 73, 74, 75, 76] (by decide +kernel) (by decide +kernel)
set_option maxRecDepth 20000 in
theorem gX4_setCloseOff_X0_putCloseOff : GoodIn wsX4_setCloseOff (wsV RX4 79 RX0 yX0_putCloseOff wsX0_putCloseOff) := goodIn_app (goodIn_of _ (by decide +kernel)) ggX4_setCloseOff_X0_putCloseOff
set_option maxRecDepth 20000 in
theorem ggX4_setCloseOff_X4_closeAct : GoodIn wsX4_setCloseOff wsX4_closeAct := goodIn_r _ [43, 1, 44, 45, 46, 38, 47, 48, 49, 50, 51, 52, 53, 54, 6, 55, 10, 9, 56, 57, 58, 59, 60, 61, 62, 63, 64] (by decide +kernel) (by decide +kernel)
set_option maxRecDepth 20000 in
theorem gX4_setCloseOff_X4_closeAct : GoodIn wsX4_setCloseOff (wsV RX4 53 RX4 yX4_closeAct wsX4_closeAct) := goodIn_app (goodIn_of _ (by decide +kernel)) ggX4_setCloseOff_X4_closeAct
theorem dX4_setCloseOff_0 : decode cX4_setCloseOff 0 = .ok (.aload_n 0, 1) := by decide +kernel
theorem dX4_setCloseOff_1 : decode cX4_setCloseOff 1 = .ok (.getfield 19, 3) := by decide +kernel
theorem dX4_setCloseOff_4 : decode cX4_setCloseOff 4 = .ok (.aload_n 0, 1) := by decide +kernel
theorem dX4_setCloseOff_5 : decode cX4_setCloseOff 5 = .ok (.getfield 10, 3) := by decide +kernel
theorem dX4_setCloseOff_8 : decode cX4_setCloseOff 8 = .ok (.invokevirtual 45, 3) := by decide +kernel
theorem dX4_setCloseOff_11 : decode cX4_setCloseOff 11 = .ok (.aload_n 0, 1) := by decide +kernel
theorem dX4_setCloseOff_12 : decode cX4_setCloseOff 12 = .ok (.aload_n 0, 1) := by decide +kernel
theorem dX4_setCloseOff_13 : decode cX4_setCloseOff 13 = .ok (.getfield 10, 3) := by decide +kernel
theorem dX4_setCloseOff_16 : decode cX4_setCloseOff 16 = .ok (.iload_n 1, 1) := by decide +kernel
theorem dX4_setCloseOff_17 : decode cX4_setCloseOff 17 = .ok (.invokevirtual 79, 3) := by decide +kernel
theorem dX4_setCloseOff_20 : decode cX4_setCloseOff 20 = .ok (.invokevirtual 53, 3) := by decide +kernel
theorem dX4_setCloseOff_23 : decode cX4_setCloseOff 23 = .ok (.ireturn, 1) := by decide +kernel
set_option maxRecDepth 20000 in
theorem ggX4_setAsh_X2_prepare : GoodIn wsX4_setAsh wsX2_prepare := goodIn_r _ [7, 8, 9, 10, 11, 12, 13, 14, 15, 16, 17, 18, 19, 20, 21, 22, 23, 24, 25, 26, 27, 28, 29, 30, 31, 76, 77, 78, 79, 80, 81, 82, 83, 84, 85, 86, 87, 88, 89, 90] (by decide +kernel) (by decide +kernel)
set_option maxRecDepth 20000 in
theorem gX4_setAsh_X2_prepare : GoodIn wsX4_setAsh (wsV RX4 45 RX2 yX2_prepare wsX2_prepare) := goodIn_app (goodIn_of _ (by decide +kernel)) ggX4_setAsh_X2_prepare
set_option maxRecDepth 20000 in
theorem ggX4_setAsh_X0_putAsh : GoodIn wsX4_setAsh wsX0_putAsh := goodIn_r _ [35, 36, 37, 38, 29, 30, 39, 40, 41, 14, 42, 16, 43, 44, 45, 46, 47, 48, 49, 50, 51, 52, 53, 79, 80, 81, 82, 83, 84, 85, 86, 87, 88, 89, 90] (by decide +kernel) (by decide +kernel)
set_option maxRecDepth 20000 in
theorem gX4_setAsh_X0_putAsh : GoodIn wsX4_setAsh (wsV RX4 82 RX0 yX0_putAsh wsX0_putAsh) := goodIn_app (goodIn_of _ (by decide +kernel)) ggX4_setAsh_X0_putAsh
set_option maxRecDepth 20000 in
theorem ggX4_setAsh_X4_closeAct : GoodIn wsX4_setAsh wsX4_closeAct := goodIn_r _ [57, 1, 58, 59, 60, 44, 61, 62, 63, 64, 65, 66, 67, 68, 6, 69, 10, 9, 70, 71, 72, 73, 74, 75, 76, 77, 78] (by decide +kernel) (by decide +kernel)
set_option maxRecDepth 20000 in
theorem gX4_setAsh_X4_closeAct : GoodIn wsX4_setAsh (wsV RX4 53 RX4 yX4_closeAct wsX4_closeAct) := goodIn_app (goodIn_of _ (by decide +kernel)) ggX4_setAsh_X4_closeAct
theorem dX4_setAsh_0 : decode cX4_setAsh 0 = .ok (.aload_n 0, 1) := by decide +kernel
theorem dX4_setAsh_1 : decode cX4_setAsh 1 = .ok (.getfield 19, 3) := by decide +kernel
theorem dX4_setAsh_4 : decode cX4_setAsh 4 = .ok (.aload_n 0, 1) := by decide +kernel
theorem dX4_setAsh_5 : decode cX4_setAsh 5 = .ok (.getfield 10, 3) := by decide +kernel
theorem dX4_setAsh_8 : decode cX4_setAsh 8 = .ok (.invokevirtual 45, 3) := by decide +kernel
theorem dX4_setAsh_11 : decode cX4_setAsh 11 = .ok (.aload_n 0, 1) := by decide +kernel
theorem dX4_setAsh_12 : decode cX4_setAsh 12 = .ok (.aload_n 0, 1) := by decide +kernel
theorem dX4_setAsh_13 : decode cX4_setAsh 13 = .ok (.getfield 10, 3) := by decide +kernel
theorem dX4_setAsh_16 : decode cX4_setAsh 16 = .ok (.iload_n 1, 1) := by decide +kernel
theorem dX4_setAsh_17 : decode cX4_setAsh 17 = .ok (.iload_n 2, 1) := by decide +kernel
theorem dX4_setAsh_18 : decode cX4_setAsh 18 = .ok (.iload_n 3, 1) := by decide +kernel
theorem dX4_setAsh_19 : decode cX4_setAsh 19 = .ok (.invokevirtual 82, 3) := by decide +kernel
theorem dX4_setAsh_22 : decode cX4_setAsh 22 = .ok (.invokevirtual 53, 3) := by decide +kernel
theorem dX4_setAsh_25 : decode cX4_setAsh 25 = .ok (.ireturn, 1) := by decide +kernel
set_option maxRecDepth 20000 in
theorem ggX4_removeAsh_X2_prepare : GoodIn wsX4_removeAsh wsX2_prepare := goodIn_r _ [7, 8, 9, 10, 11, 12, 13, 14, 15, 16, 17, 18, 19, 20, 21, 22, 23, 24, 25, 26, 27, 28, 29, 30, 31, 73, 74, 75, 76, 77, 78, 79, 80, 81, 82, 83, 84, 85, 86, 87] (by decide +kernel) (by decide +kernel)
set_option maxRecDepth 20000 in
theorem gX4_removeAsh_X2_prepare : GoodIn wsX4_removeAsh (wsV RX4 45 RX2 yX2_prepare wsX2_prepare) := goodIn_app (goodIn_of _ (by decide +kernel)) ggX4_removeAsh_X2_prepare
set_option maxRecDepth 20000 in
theorem ggX4_removeAsh_X0_dropAsh : GoodIn wsX4_removeAsh wsX0_dropAsh := goodIn_r _ [35, 36, 37, 29, 38, 39, 40, 14, 41, 16, 42, 43, 44, 45, 46, 47, 48, 49, 76, 77, 78, 79, 80, 81, 82, 83, 84, 85, 86, 87] (by decide +kernel) (by decide +kernel)
set_option maxRecDepth 20000 in
theorem gX4_removeAsh_X0_dropAsh : GoodIn wsX4_removeAsh (wsV RX4 86 RX0 yX0_dropAsh wsX0_dropAsh) := goodIn_app (goodIn_of _ (by decide +kernel)) ggX4_removeAsh_X0_dropAsh
set_option maxRecDepth 20000 in
theorem ggX4_removeAsh_X4_closeAct : GoodIn wsX4_removeAsh wsX4_closeAct := goodIn_r _ [54, 1, 55, 56, 57, 53, 58, 59, 60, 61, 62, 63, 64, 65, 6, 66, 10, 9, 67, 68, 69, 70, 71, 72, 73, 74, 75] (by decide +kernel) (by decide +kernel)
set_option maxRecDepth 20000 in
theorem gX4_removeAsh_X4_closeAct : GoodIn wsX4_removeAsh (wsV RX4 53 RX4 yX4_closeAct wsX4_closeAct) := goodIn_app (goodIn_of _ (by decide +kernel)) ggX4_removeAsh_X4_closeAct
theorem dX4_removeAsh_0 : decode cX4_removeAsh 0 = .ok (.aload_n 0, 1) := by decide +kernel
theorem dX4_removeAsh_1 : decode cX4_removeAsh 1 = .ok (.getfield 19, 3) := by decide +kernel
theorem dX4_removeAsh_4 : decode cX4_removeAsh 4 = .ok (.aload_n 0, 1) := by decide +kernel
theorem dX4_removeAsh_5 : decode cX4_removeAsh 5 = .ok (.getfield 10, 3) := by decide +kernel
theorem dX4_removeAsh_8 : decode cX4_removeAsh 8 = .ok (.invokevirtual 45, 3) := by decide +kernel
theorem dX4_removeAsh_11 : decode cX4_removeAsh 11 = .ok (.aload_n 0, 1) := by decide +kernel
theorem dX4_removeAsh_12 : decode cX4_removeAsh 12 = .ok (.aload_n 0, 1) := by decide +kernel
theorem dX4_removeAsh_13 : decode cX4_removeAsh 13 = .ok (.getfield 10, 3) := by decide +kernel
theorem dX4_removeAsh_16 : decode cX4_removeAsh 16 = .ok (.iload_n 1, 1) := by decide +kernel
theorem dX4_removeAsh_17 : decode cX4_removeAsh 17 = .ok (.invokevirtual 86, 3) := by decide +kernel
theorem dX4_removeAsh_20 : decode cX4_removeAsh 20 = .ok (.invokevirtual 53, 3) := by decide +kernel
theorem dX4_removeAsh_23 : decode cX4_removeAsh 23 = .ok (.ireturn, 1) := by decide +kernel
set_option maxRecDepth 20000 in
theorem ggX4_setCount_X2_prepare : GoodIn wsX4_setCount wsX2_prepare := goodIn_r _ [7, 8, 9, 10, 11, 12, 13, 14, 15, 16, 17, 18, 19, 20, 21, 22, 23, 24, 25, 26, 27, 28, 29, 30, 31, 98, 99, 100, 101, 102, 103, 104, 105, 106, 107, 108, 109, 110, 111, 112] (by decide +kernel) (by decide +kernel)
set_option maxRecDepth 20000 in
theorem gX4_setCount_X2_prepare : GoodIn wsX4_setCount (wsV RX4 45 RX2 yX2_prepare wsX2_prepare) := goodIn_app (goodIn_of _ (by decide +kernel)) ggX4_setCount_X2_prepare
set_option maxRecDepth 20000 in
theorem ggX4_setCount_X0_putCount : GoodIn wsX4_setCount wsX0_putCount := goodIn_r _ [35, 36, 37, 38, 31, 39, 40, 41, 14, 42, 16, 43, 44, 45, 46, 47, 48, 49, 18, 19, 50, 51, 52, 53, 26, 27, 54, 55, 56, 57, 28, 17, 21, 58, 59, 60, 61, 62, 63, 64, 65, 66, 67, 68, 69, 70, 71, 72, 73, 74, 75, 101, 102, 103, 104, 105, 106, 107, 108, 109, 110, 111, 112] (by decide +kernel) (by decide +kernel)
set_option maxRecDepth 20000 in
theorem gX4_setCount_X0_putCount : GoodIn wsX4_setCount (wsV RX4 89 RX0 yX0_putCount wsX0_putCount) := goodIn_app (goodIn_of _ (by decide +kernel)) ggX4_setCount_X0_putCount
set_option maxRecDepth 20000 in
theorem ggX4_setCount_X4_closeAct : GoodIn wsX4_setCount wsX4_closeAct := goodIn_r _ [79, 1, 80, 81, 82, 44, 83, 84, 85, 86, 87, 88, 89, 90, 6, 91, 10, 9, 92, 93, 94, 95, 96, 97, 98, 99, 100] (by decide +kernel) (by decide +kernel)
set_option maxRecDepth 20000 in
theorem gX4_setCount_X4_closeAct : GoodIn wsX4_setCount (wsV RX4 53 RX4 yX4_closeAct wsX4_closeAct) := goodIn_app (goodIn_of _ (by decide +kernel)) ggX4_setCount_X4_closeAct
theorem dX4_setCount_0 : decode cX4_setCount 0 = .ok (.aload_n 0, 1) := by decide +kernel
theorem dX4_setCount_1 : decode cX4_setCount 1 = .ok (.getfield 19, 3) := by decide +kernel
theorem dX4_setCount_4 : decode cX4_setCount 4 = .ok (.aload_n 0, 1) := by decide +kernel
theorem dX4_setCount_5 : decode cX4_setCount 5 = .ok (.getfield 10, 3) := by decide +kernel
theorem dX4_setCount_8 : decode cX4_setCount 8 = .ok (.invokevirtual 45, 3) := by decide +kernel
theorem dX4_setCount_11 : decode cX4_setCount 11 = .ok (.aload_n 0, 1) := by decide +kernel
theorem dX4_setCount_12 : decode cX4_setCount 12 = .ok (.aload_n 0, 1) := by decide +kernel
theorem dX4_setCount_13 : decode cX4_setCount 13 = .ok (.getfield 10, 3) := by decide +kernel
theorem dX4_setCount_16 : decode cX4_setCount 16 = .ok (.iload_n 1, 1) := by decide +kernel
theorem dX4_setCount_17 : decode cX4_setCount 17 = .ok (.iload_n 2, 1) := by decide +kernel
theorem dX4_setCount_18 : decode cX4_setCount 18 = .ok (.invokevirtual 89, 3) := by decide +kernel
theorem dX4_setCount_21 : decode cX4_setCount 21 = .ok (.invokevirtual 53, 3) := by decide +kernel
theorem dX4_setCount_24 : decode cX4_setCount 24 = .ok (.ireturn, 1) := by decide +kernel
set_option maxRecDepth 20000 in
theorem ggX4_tune_X2_prepare : GoodIn wsX4_tune wsX2_prepare := goodIn_r _ [8, 9, 10, 11, 12, 13, 14, 15, 16, 17, 18, 19, 20, 21, 22, 23, 24, 25, 26, 27, 28, 29, 30, 31, 32, 138, 139, 140, 141, 142, 143, 144, 145, 146, 147, 148, 149, 150, 151, 152] (by decide +kernel) (by decide +kernel)
set_option maxRecDepth 20000 in
theorem gX4_tune_X2_prepare : GoodIn wsX4_tune (wsV RX4 45 RX2 yX2_prepare wsX2_prepare) := goodIn_app (goodIn_of _ (by decide +kernel)) ggX4_tune_X2_prepare
set_option maxRecDepth 20000 in
theorem ggX4_tune_X0_fitCorrections : GoodIn wsX4_tune wsX0_fitCorrections := goodIn_r _ [36, 37, 17, 30, 38, 39, 40, 15, 41, 42, 43, 44, 45, 46, 47, 48, 49, 50, 51, 52, 53, 54, 55, 56, 57, 27, 19, 20, 28, 58, 59, 60, 61, 62, 63, 64, 65, 66, 67, 68, 22, 69, 70, 71, 72, 29, 18, 73, 74, 75, 76, 77, 78, 79, 80, 81, 82, 83, 84, 85, 86, 87, 88, 89, 90, 91, 92, 93, 94, 95, 96, 97, 98, 99, 100, 101, 102, 103, 104, 105, 106, 107, 108, 109, 110, 111, 31, 112, 113, 114, 115, 141, 142, 143, 144, 145, 146, 147, 148, 149, 150, 151, 152, 153, 154, 155] (by decide +kernel) (by decide +kernel)
set_option maxRecDepth 20000 in
theorem gX4_tune_X0_fitCorrections : GoodIn wsX4_tune (wsV RX4 92 RX0 yX0_fitCorrections wsX0_fitCorrections) := goodIn_app (goodIn_of _ (by decide +kernel)) ggX4_tune_X0_fitCorrections
set_option maxRecDepth 20000 in
theorem ggX4_tune_X4_closeAct : GoodIn wsX4_tune wsX4_closeAct := goodIn_r _ [119, 1, 120, 121, 122, 85, 123, 124, 125, 126, 127, 128, 129, 130, 7, 131, 11, 10, 132, 133, 134, 135, 136, 137, 138, 139, 140] (by decide +kernel) (by decide +kernel)
set_option maxRecDepth 20000 in
theorem gX4_tune_X4_closeAct : GoodIn wsX4_tune (wsV RX4 53 RX4 yX4_closeAct wsX4_closeAct) := goodIn_app (goodIn_of _ (by decide +kernel)) ggX4_tune_X4_closeAct
theorem dX4_tune_0 : decode cX4_tune 0 = .ok (.aload_n 0, 1) := by decide +kernel
theorem dX4_tune_1 : decode cX4_tune 1 = .ok (.getfield 19, 3) := by decide +kernel
theorem dX4_tune_4 : decode cX4_tune 4 = .ok (.aload_n 0, 1) := by decide +kernel
theorem dX4_tune_5 : decode cX4_tune 5 = .ok (.getfield 10, 3) := by decide +kernel
theorem dX4_tune_8 : decode cX4_tune 8 = .ok (.invokevirtual 45, 3) := by decide +kernel
theorem dX4_tune_11 : decode cX4_tune 11 = .ok (.aload_n 0, 1) := by decide +kernel
theorem dX4_tune_12 : decode cX4_tune 12 = .ok (.aload_n 0, 1) := by decide +kernel
theorem dX4_tune_13 : decode cX4_tune 13 = .ok (.getfield 10, 3) := by decide +kernel
theorem dX4_tune_16 : decode cX4_tune 16 = .ok (.aload_n 0, 1) := by decide +kernel
theorem dX4_tune_17 : decode cX4_tune 17 = .ok (.getfield 26, 3) := by decide +kernel
theorem dX4_tune_20 : decode cX4_tune 20 = .ok (.invokevirtual 92, 3) := by decide +kernel
theorem dX4_tune_23 : decode cX4_tune 23 = .ok (.invokevirtual 53, 3) := by decide +kernel
theorem dX4_tune_26 : decode cX4_tune 26 = .ok (.ireturn, 1) := by decide +kernel
set_option maxRecDepth 20000 in
theorem ggX4_undo_X2_restore : GoodIn wsX4_undo wsX2_restore := goodIn_r _ [7, 8, 9, 10, 11, 12, 13, 14, 15, 16, 17, 18, 19, 20, 21, 22, 23, 24, 25, 26, 27, 28, 29, 30, 31, 32, 39, 40, 41, 42, 43, 44, 45, 46, 47, 48, 49, 50, 51, 52, 53] (by decide +kernel) (by decide +kernel)
set_option maxRecDepth 20000 in
theorem gX4_undo_X2_restore : GoodIn wsX4_undo (wsV RX4 96 RX2 yX2_restore wsX2_restore) := goodIn_app (goodIn_of _ (by decide +kernel)) ggX4_undo_X2_restore
theorem dX4_undo_0 : decode cX4_undo 0 = .ok (.aload_n 0, 1) := by decide +kernel
theorem dX4_undo_1 : decode cX4_undo 1 = .ok (.getfield 19, 3) := by decide +kernel
theorem dX4_undo_4 : decode cX4_undo 4 = .ok (.aload_n 0, 1) := by decide +kernel
theorem dX4_undo_5 : decode cX4_undo 5 = .ok (.getfield 10, 3) := by decide +kernel
theorem dX4_undo_8 : decode cX4_undo 8 = .ok (.invokevirtual 96, 3) := by decide +kernel
theorem dX4_undo_11 : decode cX4_undo 11 = .ok (.ireturn, 1) := by decide +kernel
theorem dX4_layers_0 : decode cX4_layers 0 = .ok (.aload_n 0, 1) := by decide +kernel
theorem dX4_layers_1 : decode cX4_layers 1 = .ok (.getfield 10, 3) := by decide +kernel
theorem dX4_layers_4 : decode cX4_layers 4 = .ok (.getfield 125, 3) := by decide +kernel
theorem dX4_layers_7 : decode cX4_layers 7 = .ok (.ireturn, 1) := by decide +kernel
set_option maxRecDepth 20000 in
theorem ggX4_depth_X0_bottom : GoodIn wsX4_depth wsX0_bottom := goodIn_r _ [6, 7, 8, 9, 10, 5, 11, 12, 19, 20, 21, 22, 23, 24, 25, 26, 27, 28, 29, 30] (by decide +kernel) (by decide +kernel)
set_option maxRecDepth 20000 in
theorem gX4_depth_X0_bottom : GoodIn wsX4_depth (wsV RX4 128 RX0 yX0_bottom wsX0_bottom) := goodIn_app (goodIn_of _ (by decide +kernel)) ggX4_depth_X0_bottom
theorem dX4_depth_0 : decode cX4_depth 0 = .ok (.aload_n 0, 1) := by decide +kernel
theorem dX4_depth_1 : decode cX4_depth 1 = .ok (.getfield 10, 3) := by decide +kernel
theorem dX4_depth_4 : decode cX4_depth 4 = .ok (.invokevirtual 128, 3) := by decide +kernel
theorem dX4_depth_7 : decode cX4_depth 7 = .ok (.ireturn, 1) := by decide +kernel
set_option maxRecDepth 20000 in
theorem ggX4_thickness_X0_has : GoodIn wsX4_thickness wsX0_has := goodIn_r _ [8, 9, 16, 17, 18, 19, 20, 21, 22, 23, 24, 25, 26, 27] (by decide +kernel) (by decide +kernel)
set_option maxRecDepth 20000 in
theorem gX4_thickness_X0_has : GoodIn wsX4_thickness (wsV RX4 131 RX0 yX0_has wsX0_has) := goodIn_app (goodIn_of _ (by decide +kernel)) ggX4_thickness_X0_has
theorem dX4_thickness_0 : decode cX4_thickness 0 = .ok (.aload_n 0, 1) := by decide +kernel
theorem dX4_thickness_1 : decode cX4_thickness 1 = .ok (.getfield 10, 3) := by decide +kernel
theorem dX4_thickness_4 : decode cX4_thickness 4 = .ok (.iload_n 1, 1) := by decide +kernel
theorem dX4_thickness_5 : decode cX4_thickness 5 = .ok (.invokevirtual 131, 3) := by decide +kernel
theorem dX4_thickness_8 : decode cX4_thickness 8 = .ok (.ifCond .eq 15, 3) := by decide +kernel
theorem dX4_thickness_11 : decode cX4_thickness 11 = .ok (.aload_n 0, 1) := by decide +kernel
theorem dX4_thickness_12 : decode cX4_thickness 12 = .ok (.getfield 10, 3) := by decide +kernel
theorem dX4_thickness_15 : decode cX4_thickness 15 = .ok (.getfield 135, 3) := by decide +kernel
theorem dX4_thickness_18 : decode cX4_thickness 18 = .ok (.iload_n 1, 1) := by decide +kernel
theorem dX4_thickness_19 : decode cX4_thickness 19 = .ok (.iaload, 1) := by decide +kernel
theorem dX4_thickness_20 : decode cX4_thickness 20 = .ok (.goto 5, 3) := by decide +kernel
theorem dX4_thickness_23 : decode cX4_thickness 23 = .ok (.ldc 139, 2) := by decide +kernel
theorem dX4_thickness_25 : decode cX4_thickness 25 = .ok (.ireturn, 1) := by decide +kernel
set_option maxRecDepth 20000 in
theorem ggX4_thinning_X0_has : GoodIn wsX4_thinning wsX0_has := goodIn_r _ [9, 10, 38, 39, 40, 41, 42, 43, 44, 45, 46, 47, 48, 49] (by decide +kernel) (by decide +kernel)
set_option maxRecDepth 20000 in
theorem gX4_thinning_X0_has : GoodIn wsX4_thinning (wsV RX4 131 RX0 yX0_has wsX0_has) := goodIn_app (goodIn_of _ (by decide +kernel)) ggX4_thinning_X0_has
set_option maxRecDepth 20000 in
theorem ggX4_thinning_X0_thinningOf : GoodIn wsX4_thinning wsX0_thinningOf := goodIn_r _ [14, 15, 16, 17, 18, 19, 20, 21, 22, 23, 24, 25, 26, 27, 8, 28, 10, 29, 30, 31, 38, 39, 40, 41, 42, 43, 44, 45, 46, 47, 48, 49] (by decide +kernel) (by decide +kernel)
set_option maxRecDepth 20000 in
theorem gX4_thinning_X0_thinningOf : GoodIn wsX4_thinning (wsV RX4 152 RX0 yX0_thinningOf wsX0_thinningOf) := goodIn_app (goodIn_of _ (by decide +kernel)) ggX4_thinning_X0_thinningOf
theorem dX4_thinning_0 : decode cX4_thinning 0 = .ok (.aload_n 0, 1) := by decide +kernel
theorem dX4_thinning_1 : decode cX4_thinning 1 = .ok (.getfield 10, 3) := by decide +kernel
theorem dX4_thinning_4 : decode cX4_thinning 4 = .ok (.iload_n 1, 1) := by decide +kernel
theorem dX4_thinning_5 : decode cX4_thinning 5 = .ok (.invokevirtual 131, 3) := by decide +kernel
theorem dX4_thinning_8 : decode cX4_thinning 8 = .ok (.ifCond .eq 28, 3) := by decide +kernel
theorem dX4_thinning_11 : decode cX4_thinning 11 = .ok (.aload_n 0, 1) := by decide +kernel
theorem dX4_thinning_12 : decode cX4_thinning 12 = .ok (.getfield 10, 3) := by decide +kernel
theorem dX4_thinning_15 : decode cX4_thinning 15 = .ok (.iload_n 1, 1) := by decide +kernel
theorem dX4_thinning_16 : decode cX4_thinning 16 = .ok (.aload_n 0, 1) := by decide +kernel
theorem dX4_thinning_17 : decode cX4_thinning 17 = .ok (.getfield 10, 3) := by decide +kernel
theorem dX4_thinning_20 : decode cX4_thinning 20 = .ok (.getfield 146, 3) := by decide +kernel
theorem dX4_thinning_23 : decode cX4_thinning 23 = .ok (.aload_n 0, 1) := by decide +kernel
theorem dX4_thinning_24 : decode cX4_thinning 24 = .ok (.getfield 10, 3) := by decide +kernel
theorem dX4_thinning_27 : decode cX4_thinning 27 = .ok (.getfield 149, 3) := by decide +kernel
theorem dX4_thinning_30 : decode cX4_thinning 30 = .ok (.invokevirtual 152, 3) := by decide +kernel
theorem dX4_thinning_33 : decode cX4_thinning 33 = .ok (.goto 5, 3) := by decide +kernel
theorem dX4_thinning_36 : decode cX4_thinning 36 = .ok (.ldc 139, 2) := by decide +kernel
theorem dX4_thinning_38 : decode cX4_thinning 38 = .ok (.ireturn, 1) := by decide +kernel
set_option maxRecDepth 20000 in
theorem ggX4_years_X0_has : GoodIn wsX4_years wsX0_has := goodIn_r _ [9, 10, 49, 50, 51, 52, 53, 54, 55, 56, 57, 58, 59, 60] (by decide +kernel) (by decide +kernel)
set_option maxRecDepth 20000 in
theorem gX4_years_X0_has : GoodIn wsX4_years (wsV RX4 131 RX0 yX0_has wsX0_has) := goodIn_app (goodIn_of _ (by decide +kernel)) ggX4_years_X0_has
set_option maxRecDepth 20000 in
theorem ggX4_years_X0_yearsOf : GoodIn wsX4_years wsX0_yearsOf := goodIn_r _ [14, 15, 16, 17, 18, 19, 8, 20, 21, 22, 23, 24, 25, 26, 27, 28, 29, 30, 31, 32, 33, 34, 10, 35, 36, 37, 38, 39, 40, 41, 42, 49, 50, 51, 52, 53, 54, 55, 56, 57, 58, 59, 60] (by decide +kernel) (by decide +kernel)
set_option maxRecDepth 20000 in
theorem gX4_years_X0_yearsOf : GoodIn wsX4_years (wsV RX4 155 RX0 yX0_yearsOf wsX0_yearsOf) := goodIn_app (goodIn_of _ (by decide +kernel)) ggX4_years_X0_yearsOf
theorem dX4_years_0 : decode cX4_years 0 = .ok (.aload_n 0, 1) := by decide +kernel
theorem dX4_years_1 : decode cX4_years 1 = .ok (.getfield 10, 3) := by decide +kernel
theorem dX4_years_4 : decode cX4_years 4 = .ok (.iload_n 1, 1) := by decide +kernel
theorem dX4_years_5 : decode cX4_years 5 = .ok (.invokevirtual 131, 3) := by decide +kernel
theorem dX4_years_8 : decode cX4_years 8 = .ok (.ifCond .eq 28, 3) := by decide +kernel
theorem dX4_years_11 : decode cX4_years 11 = .ok (.aload_n 0, 1) := by decide +kernel
theorem dX4_years_12 : decode cX4_years 12 = .ok (.getfield 10, 3) := by decide +kernel
theorem dX4_years_15 : decode cX4_years 15 = .ok (.iload_n 1, 1) := by decide +kernel
theorem dX4_years_16 : decode cX4_years 16 = .ok (.aload_n 0, 1) := by decide +kernel
theorem dX4_years_17 : decode cX4_years 17 = .ok (.getfield 10, 3) := by decide +kernel
theorem dX4_years_20 : decode cX4_years 20 = .ok (.getfield 146, 3) := by decide +kernel
theorem dX4_years_23 : decode cX4_years 23 = .ok (.aload_n 0, 1) := by decide +kernel
theorem dX4_years_24 : decode cX4_years 24 = .ok (.getfield 10, 3) := by decide +kernel
theorem dX4_years_27 : decode cX4_years 27 = .ok (.getfield 149, 3) := by decide +kernel
theorem dX4_years_30 : decode cX4_years 30 = .ok (.invokevirtual 155, 3) := by decide +kernel
theorem dX4_years_33 : decode cX4_years 33 = .ok (.goto 5, 3) := by decide +kernel
theorem dX4_years_36 : decode cX4_years 36 = .ok (.ldc 139, 2) := by decide +kernel
theorem dX4_years_38 : decode cX4_years 38 = .ok (.ireturn, 1) := by decide +kernel
set_option maxRecDepth 20000 in
theorem ggX4_delay_X0_has : GoodIn wsX4_delay wsX0_has := goodIn_r _ [7, 8, 26, 27, 28, 29, 30, 31, 32, 33, 34, 35, 36, 37] (by decide +kernel) (by decide +kernel)
set_option maxRecDepth 20000 in
theorem gX4_delay_X0_has : GoodIn wsX4_delay (wsV RX4 131 RX0 yX0_has wsX0_has) := goodIn_app (goodIn_of _ (by decide +kernel)) ggX4_delay_X0_has
set_option maxRecDepth 20000 in
theorem ggX4_delay_X0_delayOf : GoodIn wsX4_delay wsX0_delayOf := goodIn_r _ [12, 13, 14, 15, 16, 17, 18, 19, 26, 27, 28, 29, 30, 31, 32, 33, 34, 35, 36, 37] (by decide +kernel) (by decide +kernel)
set_option maxRecDepth 20000 in
theorem gX4_delay_X0_delayOf : GoodIn wsX4_delay (wsV RX4 158 RX0 yX0_delayOf wsX0_delayOf) := goodIn_app (goodIn_of _ (by decide +kernel)) ggX4_delay_X0_delayOf
theorem dX4_delay_0 : decode cX4_delay 0 = .ok (.aload_n 0, 1) := by decide +kernel
theorem dX4_delay_1 : decode cX4_delay 1 = .ok (.getfield 10, 3) := by decide +kernel
theorem dX4_delay_4 : decode cX4_delay 4 = .ok (.iload_n 1, 1) := by decide +kernel
theorem dX4_delay_5 : decode cX4_delay 5 = .ok (.invokevirtual 131, 3) := by decide +kernel
theorem dX4_delay_8 : decode cX4_delay 8 = .ok (.ifCond .eq 14, 3) := by decide +kernel
theorem dX4_delay_11 : decode cX4_delay 11 = .ok (.aload_n 0, 1) := by decide +kernel
theorem dX4_delay_12 : decode cX4_delay 12 = .ok (.getfield 10, 3) := by decide +kernel
theorem dX4_delay_15 : decode cX4_delay 15 = .ok (.iload_n 1, 1) := by decide +kernel
theorem dX4_delay_16 : decode cX4_delay 16 = .ok (.invokevirtual 158, 3) := by decide +kernel
theorem dX4_delay_19 : decode cX4_delay 19 = .ok (.goto 5, 3) := by decide +kernel
theorem dX4_delay_22 : decode cX4_delay 22 = .ok (.ldc 139, 2) := by decide +kernel
theorem dX4_delay_24 : decode cX4_delay 24 = .ok (.ireturn, 1) := by decide +kernel
set_option maxRecDepth 20000 in
theorem ggX4_residual_X0_has : GoodIn wsX4_residual wsX0_has := goodIn_r _ [8, 9, 60, 61, 62, 63, 64, 65, 66, 67, 68, 69, 70, 71] (by decide +kernel) (by decide +kernel)
set_option maxRecDepth 20000 in
theorem gX4_residual_X0_has : GoodIn wsX4_residual (wsV RX4 131 RX0 yX0_has wsX0_has) := goodIn_app (goodIn_of _ (by decide +kernel)) ggX4_residual_X0_has
set_option maxRecDepth 20000 in
theorem ggX4_residual_X0_hasAsh : GoodIn wsX4_residual wsX0_hasAsh := goodIn_r _ [13, 14, 15, 5, 6, 7, 8, 9, 60, 61, 62, 63, 64, 65, 66, 67, 68, 69, 70, 71] (by decide +kernel) (by decide +kernel)
set_option maxRecDepth 20000 in
theorem gX4_residual_X0_hasAsh : GoodIn wsX4_residual (wsV RX4 161 RX0 yX0_hasAsh wsX0_hasAsh) := goodIn_app (goodIn_of _ (by decide +kernel)) ggX4_residual_X0_hasAsh
set_option maxRecDepth 20000 in
theorem ggX4_residual_X0_residualOf : GoodIn wsX4_residual wsX0_residualOf := goodIn_r _ [19, 9, 20, 21, 14, 22, 23, 24, 7, 25, 26, 27, 28, 29, 30, 31, 32, 33, 34, 35, 36, 37, 38, 39, 40, 41, 42, 43, 44, 45, 46, 47, 48, 49, 50, 51, 52, 53, 60, 61, 62, 63, 64, 65, 66, 67, 68, 69, 70, 71] (by decide +kernel) (by decide +kernel)
set_option maxRecDepth 20000 in
theorem gX4_residual_X0_residualOf : GoodIn wsX4_residual (wsV RX4 164 RX0 yX0_residualOf wsX0_residualOf) := goodIn_app (goodIn_of _ (by decide +kernel)) ggX4_residual_X0_residualOf
theorem dX4_residual_0 : decode cX4_residual 0 = .ok (.aload_n 0, 1) := by decide +kernel
theorem dX4_residual_1 : decode cX4_residual 1 = .ok (.getfield 10, 3) := by decide +kernel
theorem dX4_residual_4 : decode cX4_residual 4 = .ok (.iload_n 1, 1) := by decide +kernel
theorem dX4_residual_5 : decode cX4_residual 5 = .ok (.invokevirtual 131, 3) := by decide +kernel
theorem dX4_residual_8 : decode cX4_residual 8 = .ok (.ifCond .ne 6, 3) := by decide +kernel
theorem dX4_residual_11 : decode cX4_residual 11 = .ok (.ldc 139, 2) := by decide +kernel
theorem dX4_residual_13 : decode cX4_residual 13 = .ok (.ireturn, 1) := by decide +kernel
theorem dX4_residual_14 : decode cX4_residual 14 = .ok (.aload_n 0, 1) := by decide +kernel
theorem dX4_residual_15 : decode cX4_residual 15 = .ok (.getfield 10, 3) := by decide +kernel
theorem dX4_residual_18 : decode cX4_residual 18 = .ok (.iload_n 1, 1) := by decide +kernel
theorem dX4_residual_19 : decode cX4_residual 19 = .ok (.invokevirtual 161, 3) := by decide +kernel
theorem dX4_residual_22 : decode cX4_residual 22 = .ok (.ifCond .eq 14, 3) := by decide +kernel
theorem dX4_residual_25 : decode cX4_residual 25 = .ok (.aload_n 0, 1) := by decide +kernel
theorem dX4_residual_26 : decode cX4_residual 26 = .ok (.getfield 10, 3) := by decide +kernel
theorem dX4_residual_29 : decode cX4_residual 29 = .ok (.iload_n 1, 1) := by decide +kernel
theorem dX4_residual_30 : decode cX4_residual 30 = .ok (.invokevirtual 164, 3) := by decide +kernel
theorem dX4_residual_33 : decode cX4_residual 33 = .ok (.goto 5, 3) := by decide +kernel
theorem dX4_residual_36 : decode cX4_residual 36 = .ok (.ldc 41, 2) := by decide +kernel
theorem dX4_residual_38 : decode cX4_residual 38 = .ok (.ireturn, 1) := by decide +kernel
set_option maxRecDepth 20000 in
theorem ggX4_countError_X0_has : GoodIn wsX4_countError wsX0_has := goodIn_r _ [8, 9, 60, 61, 62, 63, 64, 65, 66, 67, 68, 69, 70, 71] (by decide +kernel) (by decide +kernel)
set_option maxRecDepth 20000 in
theorem gX4_countError_X0_has : GoodIn wsX4_countError (wsV RX4 131 RX0 yX0_has wsX0_has) := goodIn_app (goodIn_of _ (by decide +kernel)) ggX4_countError_X0_has
set_option maxRecDepth 20000 in
theorem ggX4_countError_X0_hasCount : GoodIn wsX4_countError wsX0_hasCount := goodIn_r _ [13, 14, 15, 5, 6, 7, 8, 9, 60, 61, 62, 63, 64, 65, 66, 67, 68, 69, 70, 71] (by decide +kernel) (by decide +kernel)
set_option maxRecDepth 20000 in
theorem gX4_countError_X0_hasCount : GoodIn wsX4_countError (wsV RX4 167 RX0 yX0_hasCount wsX0_hasCount) := goodIn_app (goodIn_of _ (by decide +kernel)) ggX4_countError_X0_hasCount
set_option maxRecDepth 20000 in
theorem ggX4_countError_X0_countErrorOf : GoodIn wsX4_countError wsX0_countErrorOf := goodIn_r _ [19, 20, 21, 14, 22, 23, 24, 7, 25, 26, 27, 28, 29, 30, 31, 32, 33, 34, 35, 36, 37, 38, 39, 40, 41, 42, 43, 44, 45, 9, 46, 47, 48, 49, 50, 51, 52, 53, 60, 61, 62, 63, 64, 65, 66, 67, 68, 69, 70, 71] (by decide +kernel) (by decide +kernel)
set_option maxRecDepth 20000 in
theorem gX4_countError_X0_countErrorOf : GoodIn wsX4_countError (wsV RX4 170 RX0 yX0_countErrorOf wsX0_countErrorOf) := goodIn_app (goodIn_of _ (by decide +kernel)) ggX4_countError_X0_countErrorOf
theorem dX4_countError_0 : decode cX4_countError 0 = .ok (.aload_n 0, 1) := by decide +kernel
theorem dX4_countError_1 : decode cX4_countError 1 = .ok (.getfield 10, 3) := by decide +kernel
theorem dX4_countError_4 : decode cX4_countError 4 = .ok (.iload_n 1, 1) := by decide +kernel
theorem dX4_countError_5 : decode cX4_countError 5 = .ok (.invokevirtual 131, 3) := by decide +kernel
theorem dX4_countError_8 : decode cX4_countError 8 = .ok (.ifCond .ne 6, 3) := by decide +kernel
theorem dX4_countError_11 : decode cX4_countError 11 = .ok (.ldc 139, 2) := by decide +kernel
theorem dX4_countError_13 : decode cX4_countError 13 = .ok (.ireturn, 1) := by decide +kernel
theorem dX4_countError_14 : decode cX4_countError 14 = .ok (.aload_n 0, 1) := by decide +kernel
theorem dX4_countError_15 : decode cX4_countError 15 = .ok (.getfield 10, 3) := by decide +kernel
theorem dX4_countError_18 : decode cX4_countError 18 = .ok (.iload_n 1, 1) := by decide +kernel
theorem dX4_countError_19 : decode cX4_countError 19 = .ok (.invokevirtual 167, 3) := by decide +kernel
theorem dX4_countError_22 : decode cX4_countError 22 = .ok (.ifCond .eq 14, 3) := by decide +kernel
theorem dX4_countError_25 : decode cX4_countError 25 = .ok (.aload_n 0, 1) := by decide +kernel
theorem dX4_countError_26 : decode cX4_countError 26 = .ok (.getfield 10, 3) := by decide +kernel
theorem dX4_countError_29 : decode cX4_countError 29 = .ok (.iload_n 1, 1) := by decide +kernel
theorem dX4_countError_30 : decode cX4_countError 30 = .ok (.invokevirtual 170, 3) := by decide +kernel
theorem dX4_countError_33 : decode cX4_countError 33 = .ok (.goto 5, 3) := by decide +kernel
theorem dX4_countError_36 : decode cX4_countError 36 = .ok (.ldc 41, 2) := by decide +kernel
theorem dX4_countError_38 : decode cX4_countError 38 = .ok (.ireturn, 1) := by decide +kernel
set_option maxRecDepth 20000 in
theorem ggX4_fitting_X0_fittingBeds : GoodIn wsX4_fitting wsX0_fittingBeds := goodIn_r _ [6, 7, 8, 9, 10, 11, 12, 13, 14, 15, 16, 17, 18, 5, 19, 20, 21, 22, 23, 24, 25, 26, 27, 28, 29, 30, 31, 32, 33, 34, 35, 36, 37, 38, 39, 40, 41, 42, 43, 44, 45, 46, 47, 48, 49, 50, 51, 52, 53, 54, 61, 62, 63, 64, 65, 66, 67, 68, 69, 70, 71, 72] (by decide +kernel) (by decide +kernel)
set_option maxRecDepth 20000 in
theorem gX4_fitting_X0_fittingBeds : GoodIn wsX4_fitting (wsV RX4 173 RX0 yX0_fittingBeds wsX0_fittingBeds) := goodIn_app (goodIn_of _ (by decide +kernel)) ggX4_fitting_X0_fittingBeds
theorem dX4_fitting_0 : decode cX4_fitting 0 = .ok (.aload_n 0, 1) := by decide +kernel
theorem dX4_fitting_1 : decode cX4_fitting 1 = .ok (.getfield 10, 3) := by decide +kernel
theorem dX4_fitting_4 : decode cX4_fitting 4 = .ok (.invokevirtual 173, 3) := by decide +kernel
theorem dX4_fitting_7 : decode cX4_fitting 7 = .ok (.ireturn, 1) := by decide +kernel
set_option maxRecDepth 20000 in
theorem ggX4_age_X4_depthFault : GoodIn wsX4_age wsX4_depthFault := goodIn_r _ [6, 1, 7, 8, 9, 10, 11, 12, 13, 14, 15, 16, 17, 18, 19, 20, 53, 54, 55, 56, 57, 58, 59, 60, 61, 62, 63, 64, 65, 66, 67, 68, 69, 70] (by decide +kernel) (by decide +kernel)
set_option maxRecDepth 20000 in
theorem gX4_age_X4_depthFault : GoodIn wsX4_age (wsV RX4 176 RX4 yX4_depthFault wsX4_depthFault) := goodIn_app (goodIn_of _ (by decide +kernel)) ggX4_age_X4_depthFault
set_option maxRecDepth 20000 in
theorem ggX4_age_X0_ageAt : GoodIn wsX4_age wsX0_ageAt := goodIn_r _ [24, 15, 25, 26, 20, 27, 28, 29, 13, 30, 31, 32, 33, 34, 35, 36, 37, 38, 39, 40, 41, 42, 43, 44, 45, 16, 17, 18, 19, 46, 5, 47, 48, 49, 50, 51, 52, 59, 60, 61, 62, 63, 64, 65, 66, 67, 68, 69, 70] (by decide +kernel) (by decide +kernel)
set_option maxRecDepth 20000 in
theorem gX4_age_X0_ageAt : GoodIn wsX4_age (wsV RX4 179 RX0 yX0_ageAt wsX0_ageAt) := goodIn_app (goodIn_of _ (by decide +kernel)) ggX4_age_X0_ageAt
theorem dX4_age_0 : decode cX4_age 0 = .ok (.aload_n 0, 1) := by decide +kernel
theorem dX4_age_1 : decode cX4_age 1 = .ok (.iload_n 1, 1) := by decide +kernel
theorem dX4_age_2 : decode cX4_age 2 = .ok (.invokevirtual 176, 3) := by decide +kernel
theorem dX4_age_5 : decode cX4_age 5 = .ok (.istore_n 2, 1) := by decide +kernel
theorem dX4_age_6 : decode cX4_age 6 = .ok (.iload_n 2, 1) := by decide +kernel
theorem dX4_age_7 : decode cX4_age 7 = .ok (.ifCond .ne 14, 3) := by decide +kernel
theorem dX4_age_10 : decode cX4_age 10 = .ok (.aload_n 0, 1) := by decide +kernel
theorem dX4_age_11 : decode cX4_age 11 = .ok (.getfield 10, 3) := by decide +kernel
theorem dX4_age_14 : decode cX4_age 14 = .ok (.iload_n 1, 1) := by decide +kernel
theorem dX4_age_15 : decode cX4_age 15 = .ok (.invokevirtual 179, 3) := by decide +kernel
theorem dX4_age_18 : decode cX4_age 18 = .ok (.goto 4, 3) := by decide +kernel
theorem dX4_age_21 : decode cX4_age 21 = .ok (.iload_n 2, 1) := by decide +kernel
theorem dX4_age_22 : decode cX4_age 22 = .ok (.ireturn, 1) := by decide +kernel
set_option maxRecDepth 20000 in
theorem ggX4_gasAge_X4_depthFault : GoodIn wsX4_gasAge wsX4_depthFault := goodIn_r _ [6, 1, 7, 8, 9, 10, 11, 12, 13, 14, 15, 16, 17, 18, 19, 20, 66, 67, 68, 69, 70, 71, 72, 73, 74, 75, 76, 77, 78, 79, 80, 81, 82, 83] (by decide +kernel) (by decide +kernel)
set_option maxRecDepth 20000 in
theorem gX4_gasAge_X4_depthFault : GoodIn wsX4_gasAge (wsV RX4 176 RX4 yX4_depthFault wsX4_depthFault) := goodIn_app (goodIn_of _ (by decide +kernel)) ggX4_gasAge_X4_depthFault
set_option maxRecDepth 20000 in
theorem ggX4_gasAge_X0_gasAgeAt : GoodIn wsX4_gasAge wsX0_gasAgeAt := goodIn_r _ [24, 15, 20, 25, 26, 27, 28, 29, 30, 31, 13, 32, 33, 34, 35, 36, 37, 38, 39, 40, 41, 42, 43, 44, 45, 46, 47, 48, 49, 50, 51, 52, 16, 17, 18, 19, 53, 5, 54, 55, 56, 57, 58, 59, 60, 61, 62, 63, 64, 65, 72, 73, 74, 75, 76, 77, 78, 79, 80, 81, 82, 83] (by decide +kernel) (by decide +kernel)
set_option maxRecDepth 20000 in
theorem gX4_gasAge_X0_gasAgeAt : GoodIn wsX4_gasAge (wsV RX4 182 RX0 yX0_gasAgeAt wsX0_gasAgeAt) := goodIn_app (goodIn_of _ (by decide +kernel)) ggX4_gasAge_X0_gasAgeAt
theorem dX4_gasAge_0 : decode cX4_gasAge 0 = .ok (.aload_n 0, 1) := by decide +kernel
theorem dX4_gasAge_1 : decode cX4_gasAge 1 = .ok (.iload_n 1, 1) := by decide +kernel
theorem dX4_gasAge_2 : decode cX4_gasAge 2 = .ok (.invokevirtual 176, 3) := by decide +kernel
theorem dX4_gasAge_5 : decode cX4_gasAge 5 = .ok (.istore_n 2, 1) := by decide +kernel
theorem dX4_gasAge_6 : decode cX4_gasAge 6 = .ok (.iload_n 2, 1) := by decide +kernel
theorem dX4_gasAge_7 : decode cX4_gasAge 7 = .ok (.ifCond .ne 14, 3) := by decide +kernel
theorem dX4_gasAge_10 : decode cX4_gasAge 10 = .ok (.aload_n 0, 1) := by decide +kernel
theorem dX4_gasAge_11 : decode cX4_gasAge 11 = .ok (.getfield 10, 3) := by decide +kernel
theorem dX4_gasAge_14 : decode cX4_gasAge 14 = .ok (.iload_n 1, 1) := by decide +kernel
theorem dX4_gasAge_15 : decode cX4_gasAge 15 = .ok (.invokevirtual 182, 3) := by decide +kernel
theorem dX4_gasAge_18 : decode cX4_gasAge 18 = .ok (.goto 4, 3) := by decide +kernel
theorem dX4_gasAge_21 : decode cX4_gasAge 21 = .ok (.iload_n 2, 1) := by decide +kernel
theorem dX4_gasAge_22 : decode cX4_gasAge 22 = .ok (.ireturn, 1) := by decide +kernel
set_option maxRecDepth 20000 in
theorem ggX4_depthOf_X0_leastDepthOf : GoodIn wsX4_depthOf wsX0_leastDepthOf := goodIn_r _ [7, 8, 9, 10, 11, 12, 13, 14, 15, 6, 16, 17, 18, 19, 20, 21, 22, 23, 24, 25, 26, 27, 28, 29, 30, 31, 32, 33, 34, 35, 36, 37, 38, 39, 40, 41, 42, 43, 44, 45, 46, 53, 54, 55, 56, 57, 58, 59, 60, 61, 62, 63, 64] (by decide +kernel) (by decide +kernel)
set_option maxRecDepth 20000 in
theorem gX4_depthOf_X0_leastDepthOf : GoodIn wsX4_depthOf (wsV RX4 186 RX0 yX0_leastDepthOf wsX0_leastDepthOf) := goodIn_app (goodIn_of _ (by decide +kernel)) ggX4_depthOf_X0_leastDepthOf
theorem dX4_depthOf_0 : decode cX4_depthOf 0 = .ok (.iload_n 1, 1) := by decide +kernel
theorem dX4_depthOf_1 : decode cX4_depthOf 1 = .ok (.ifCond .ge 8, 3) := by decide +kernel
theorem dX4_depthOf_4 : decode cX4_depthOf 4 = .ok (.ldc 185, 2) := by decide +kernel
theorem dX4_depthOf_6 : decode cX4_depthOf 6 = .ok (.goto 11, 3) := by decide +kernel
theorem dX4_depthOf_9 : decode cX4_depthOf 9 = .ok (.aload_n 0, 1) := by decide +kernel
theorem dX4_depthOf_10 : decode cX4_depthOf 10 = .ok (.getfield 10, 3) := by decide +kernel
theorem dX4_depthOf_13 : decode cX4_depthOf 13 = .ok (.iload_n 1, 1) := by decide +kernel
theorem dX4_depthOf_14 : decode cX4_depthOf 14 = .ok (.invokevirtual 186, 3) := by decide +kernel
theorem dX4_depthOf_17 : decode cX4_depthOf 17 = .ok (.ireturn, 1) := by decide +kernel
set_option maxRecDepth 20000 in
theorem ggX4_gasDepthOf_X0_leastGasDepthOf : GoodIn wsX4_gasDepthOf wsX0_leastGasDepthOf := goodIn_r _ [7, 8, 9, 10, 11, 12, 13, 14, 15, 16, 17, 18, 19, 6, 20, 21, 22, 23, 24, 25, 26, 27, 28, 29, 30, 31, 32, 33, 34, 35, 36, 37, 38, 39, 40, 41, 42, 43, 44, 45, 46, 47, 48, 49, 50, 51, 52, 53, 54, 55, 62, 63, 64, 65, 66, 67, 68, 69, 70, 71, 72, 73] (by decide +kernel) (by decide +kernel)
set_option maxRecDepth 20000 in
theorem gX4_gasDepthOf_X0_leastGasDepthOf : GoodIn wsX4_gasDepthOf (wsV RX4 189 RX0 yX0_leastGasDepthOf wsX0_leastGasDepthOf) := goodIn_app (goodIn_of _ (by decide +kernel)) ggX4_gasDepthOf_X0_leastGasDepthOf
theorem dX4_gasDepthOf_0 : decode cX4_gasDepthOf 0 = .ok (.iload_n 1, 1) := by decide +kernel
theorem dX4_gasDepthOf_1 : decode cX4_gasDepthOf 1 = .ok (.ifCond .ge 8, 3) := by decide +kernel
theorem dX4_gasDepthOf_4 : decode cX4_gasDepthOf 4 = .ok (.ldc 185, 2) := by decide +kernel
theorem dX4_gasDepthOf_6 : decode cX4_gasDepthOf 6 = .ok (.goto 11, 3) := by decide +kernel
theorem dX4_gasDepthOf_9 : decode cX4_gasDepthOf 9 = .ok (.aload_n 0, 1) := by decide +kernel
theorem dX4_gasDepthOf_10 : decode cX4_gasDepthOf 10 = .ok (.getfield 10, 3) := by decide +kernel
theorem dX4_gasDepthOf_13 : decode cX4_gasDepthOf 13 = .ok (.iload_n 1, 1) := by decide +kernel
theorem dX4_gasDepthOf_14 : decode cX4_gasDepthOf 14 = .ok (.invokevirtual 189, 3) := by decide +kernel
theorem dX4_gasDepthOf_17 : decode cX4_gasDepthOf 17 = .ok (.ireturn, 1) := by decide +kernel
set_option maxRecDepth 20000 in
theorem ggX4_lead_X4_depthFault : GoodIn wsX4_lead wsX4_depthFault := goodIn_r _ [7, 2, 1, 8, 9, 10, 11, 12, 13, 14, 15, 16, 17, 18, 19, 20, 67, 68, 69, 70, 71, 72, 73, 74, 75, 76, 77, 78, 79, 80, 81, 82, 83, 84] (by decide +kernel) (by decide +kernel)
set_option maxRecDepth 20000 in
theorem gX4_lead_X4_depthFault : GoodIn wsX4_lead (wsV RX4 176 RX4 yX4_depthFault wsX4_depthFault) := goodIn_app (goodIn_of _ (by decide +kernel)) ggX4_lead_X4_depthFault
set_option maxRecDepth 20000 in
theorem ggX4_lead_X0_ageAt : GoodIn wsX4_lead wsX0_ageAt := goodIn_r _ [24, 15, 25, 26, 20, 27, 28, 29, 13, 30, 31, 32, 33, 34, 35, 36, 37, 38, 39, 40, 41, 42, 43, 44, 45, 16, 17, 18, 19, 46, 6, 47, 48, 49, 50, 51, 52, 73, 74, 75, 76, 77, 78, 79, 80, 81, 82, 83, 84] (by decide +kernel) (by decide +kernel)
set_option maxRecDepth 20000 in
theorem gX4_lead_X0_ageAt : GoodIn wsX4_lead (wsV RX4 179 RX0 yX0_ageAt wsX0_ageAt) := goodIn_app (goodIn_of _ (by decide +kernel)) ggX4_lead_X0_ageAt
set_option maxRecDepth 20000 in
theorem ggX4_lead_X0_gasAgeAt : GoodIn wsX4_lead wsX0_gasAgeAt := goodIn_r _ [56, 15, 20, 57, 58, 44, 59, 60, 22, 23, 13, 24, 25, 26, 27, 28, 29, 30, 31, 32, 33, 34, 35, 36, 37, 38, 39, 40, 41, 42, 43, 45, 16, 17, 18, 19, 46, 6, 47, 48, 49, 50, 51, 52, 61, 62, 63, 64, 65, 66, 73, 74, 75, 76, 77, 78, 79, 80, 81, 82, 83, 84] (by decide +kernel) (by decide +kernel)
set_option maxRecDepth 20000 in
theorem gX4_lead_X0_gasAgeAt : GoodIn wsX4_lead (wsV RX4 182 RX0 yX0_gasAgeAt wsX0_gasAgeAt) := goodIn_app (goodIn_of _ (by decide +kernel)) ggX4_lead_X0_gasAgeAt
theorem dX4_lead_0 : decode cX4_lead 0 = .ok (.aload_n 0, 1) := by decide +kernel
theorem dX4_lead_1 : decode cX4_lead 1 = .ok (.iload_n 1, 1) := by decide +kernel
theorem dX4_lead_2 : decode cX4_lead 2 = .ok (.invokevirtual 176, 3) := by decide +kernel
theorem dX4_lead_5 : decode cX4_lead 5 = .ok (.istore_n 3, 1) := by decide +kernel
theorem dX4_lead_6 : decode cX4_lead 6 = .ok (.iload_n 3, 1) := by decide +kernel
theorem dX4_lead_7 : decode cX4_lead 7 = .ok (.ldc 185, 2) := by decide +kernel
theorem dX4_lead_9 : decode cX4_lead 9 = .ok (.if_icmp .eq 9, 3) := by decide +kernel
theorem dX4_lead_12 : decode cX4_lead 12 = .ok (.aload_n 0, 1) := by decide +kernel
theorem dX4_lead_13 : decode cX4_lead 13 = .ok (.iload_n 2, 1) := by decide +kernel
theorem dX4_lead_14 : decode cX4_lead 14 = .ok (.invokevirtual 176, 3) := by decide +kernel
theorem dX4_lead_17 : decode cX4_lead 17 = .ok (.istore_n 3, 1) := by decide +kernel
theorem dX4_lead_18 : decode cX4_lead 18 = .ok (.iload_n 3, 1) := by decide +kernel
theorem dX4_lead_19 : decode cX4_lead 19 = .ok (.ifCond .ne 23, 3) := by decide +kernel
theorem dX4_lead_22 : decode cX4_lead 22 = .ok (.aload_n 0, 1) := by decide +kernel
theorem dX4_lead_23 : decode cX4_lead 23 = .ok (.getfield 10, 3) := by decide +kernel
theorem dX4_lead_26 : decode cX4_lead 26 = .ok (.iload_n 1, 1) := by decide +kernel
theorem dX4_lead_27 : decode cX4_lead 27 = .ok (.invokevirtual 179, 3) := by decide +kernel
theorem dX4_lead_30 : decode cX4_lead 30 = .ok (.aload_n 0, 1) := by decide +kernel
theorem dX4_lead_31 : decode cX4_lead 31 = .ok (.getfield 10, 3) := by decide +kernel
theorem dX4_lead_34 : decode cX4_lead 34 = .ok (.iload_n 2, 1) := by decide +kernel
theorem dX4_lead_35 : decode cX4_lead 35 = .ok (.invokevirtual 182, 3) := by decide +kernel
theorem dX4_lead_38 : decode cX4_lead 38 = .ok (.isub, 1) := by decide +kernel
theorem dX4_lead_39 : decode cX4_lead 39 = .ok (.goto 4, 3) := by decide +kernel
theorem dX4_lead_42 : decode cX4_lead 42 = .ok (.iload_n 3, 1) := by decide +kernel
theorem dX4_lead_43 : decode cX4_lead 43 = .ok (.ireturn, 1) := by decide +kernel
theorem dX4_acts_0 : decode cX4_acts 0 = .ok (.aload_n 0, 1) := by decide +kernel
theorem dX4_acts_1 : decode cX4_acts 1 = .ok (.getfield 37, 3) := by decide +kernel
theorem dX4_acts_4 : decode cX4_acts 4 = .ok (.ireturn, 1) := by decide +kernel
set_option maxRecDepth 20000 in
theorem ggX4_seal_X0_sealOfAges : GoodIn wsX4_seal wsX0_sealOfAges := goodIn_r _ [6, 7, 8, 9, 10, 11, 12, 5, 13, 14, 15, 16, 17, 18, 19, 20, 21, 22, 23, 24, 25, 26, 27, 28, 29, 30, 31, 32, 33, 34, 35, 36, 37, 38, 39, 40, 41, 48, 49, 50, 51, 52, 53, 54, 55, 56, 57, 58, 59] (by decide +kernel) (by decide +kernel)
set_option maxRecDepth 20000 in
theorem gX4_seal_X0_sealOfAges : GoodIn wsX4_seal (wsV RX4 195 RX0 yX0_sealOfAges wsX0_sealOfAges) := goodIn_app (goodIn_of _ (by decide +kernel)) ggX4_seal_X0_sealOfAges
theorem dX4_seal_0 : decode cX4_seal 0 = .ok (.aload_n 0, 1) := by decide +kernel
theorem dX4_seal_1 : decode cX4_seal 1 = .ok (.getfield 10, 3) := by decide +kernel
theorem dX4_seal_4 : decode cX4_seal 4 = .ok (.invokevirtual 195, 3) := by decide +kernel
theorem dX4_seal_7 : decode cX4_seal 7 = .ok (.ireturn, 1) := by decide +kernel
set_option maxRecDepth 20000 in
theorem ggX4_bestFunction_X0_ashBeds : GoodIn wsX4_bestFunction wsX0_ashBeds := goodIn_r _ [8, 9, 10, 11, 12, 7, 13, 14, 15, 16, 17, 18, 64, 65, 66, 67, 68, 69, 70, 71, 72, 73, 74, 75] (by decide +kernel) (by decide +kernel)
set_option maxRecDepth 20000 in
theorem gX4_bestFunction_X0_ashBeds : GoodIn wsX4_bestFunction (wsV RX4 198 RX0 yX0_ashBeds wsX0_ashBeds) := goodIn_app (goodIn_of _ (by decide +kernel)) ggX4_bestFunction_X0_ashBeds
set_option maxRecDepth 20000 in
theorem ggX4_bestFunction_X0_misfit : GoodIn wsX4_bestFunction wsX0_misfit := goodIn_r _ [22, 9, 14, 23, 24, 25, 26, 27, 28, 29, 7, 30, 31, 32, 33, 34, 35, 36, 37, 38, 39, 40, 41, 42, 43, 44, 45, 46, 47, 48, 49, 50, 51, 52, 53, 54, 55, 56, 57, 10, 11, 12, 13, 15, 16, 17, 18, 64, 65, 66, 67, 68, 69, 70, 71, 72, 73, 74, 75] (by decide +kernel) (by decide +kernel)
set_option maxRecDepth 20000 in
theorem gX4_bestFunction_X0_misfit : GoodIn wsX4_bestFunction (wsV RX4 201 RX0 yX0_misfit wsX0_misfit) := goodIn_app (goodIn_of _ (by decide +kernel)) ggX4_bestFunction_X0_misfit
theorem dX4_bestFunction_0 : decode cX4_bestFunction 0 = .ok (.aload_n 0, 1) := by decide +kernel
theorem dX4_bestFunction_1 : decode cX4_bestFunction 1 = .ok (.getfield 10, 3) := by decide +kernel
theorem dX4_bestFunction_4 : decode cX4_bestFunction 4 = .ok (.invokevirtual 198, 3) := by decide +kernel
theorem dX4_bestFunction_7 : decode cX4_bestFunction 7 = .ok (.ifCond .ne 6, 3) := by decide +kernel
theorem dX4_bestFunction_10 : decode cX4_bestFunction 10 = .ok (.ldc 41, 2) := by decide +kernel
theorem dX4_bestFunction_12 : decode cX4_bestFunction 12 = .ok (.ireturn, 1) := by decide +kernel
theorem dX4_bestFunction_13 : decode cX4_bestFunction 13 = .ok (.iconst 0, 1) := by decide +kernel
theorem dX4_bestFunction_14 : decode cX4_bestFunction 14 = .ok (.istore_n 1, 1) := by decide +kernel
theorem dX4_bestFunction_15 : decode cX4_bestFunction 15 = .ok (.aload_n 0, 1) := by decide +kernel
theorem dX4_bestFunction_16 : decode cX4_bestFunction 16 = .ok (.getfield 10, 3) := by decide +kernel
theorem dX4_bestFunction_19 : decode cX4_bestFunction 19 = .ok (.iconst 0, 1) := by decide +kernel
theorem dX4_bestFunction_20 : decode cX4_bestFunction 20 = .ok (.aload_n 0, 1) := by decide +kernel
theorem dX4_bestFunction_21 : decode cX4_bestFunction 21 = .ok (.getfield 10, 3) := by decide +kernel
theorem dX4_bestFunction_24 : decode cX4_bestFunction 24 = .ok (.getfield 149, 3) := by decide +kernel
theorem dX4_bestFunction_27 : decode cX4_bestFunction 27 = .ok (.invokevirtual 201, 3) := by decide +kernel
theorem dX4_bestFunction_30 : decode cX4_bestFunction 30 = .ok (.lstore_n 2, 1) := by decide +kernel
theorem dX4_bestFunction_31 : decode cX4_bestFunction 31 = .ok (.iconst 1, 1) := by decide +kernel
theorem dX4_bestFunction_32 : decode cX4_bestFunction 32 = .ok (.istore 4, 2) := by decide +kernel
theorem dX4_bestFunction_34 : decode cX4_bestFunction 34 = .ok (.iload 4, 2) := by decide +kernel
theorem dX4_bestFunction_36 : decode cX4_bestFunction 36 = .ok (.iconst 2, 1) := by decide +kernel
theorem dX4_bestFunction_37 : decode cX4_bestFunction 37 = .ok (.if_icmp .gt 40, 3) := by decide +kernel
theorem dX4_bestFunction_40 : decode cX4_bestFunction 40 = .ok (.aload_n 0, 1) := by decide +kernel
theorem dX4_bestFunction_41 : decode cX4_bestFunction 41 = .ok (.getfield 10, 3) := by decide +kernel
theorem dX4_bestFunction_44 : decode cX4_bestFunction 44 = .ok (.iload 4, 2) := by decide +kernel
theorem dX4_bestFunction_46 : decode cX4_bestFunction 46 = .ok (.aload_n 0, 1) := by decide +kernel
theorem dX4_bestFunction_47 : decode cX4_bestFunction 47 = .ok (.getfield 10, 3) := by decide +kernel
theorem dX4_bestFunction_50 : decode cX4_bestFunction 50 = .ok (.getfield 149, 3) := by decide +kernel
theorem dX4_bestFunction_53 : decode cX4_bestFunction 53 = .ok (.invokevirtual 201, 3) := by decide +kernel
theorem dX4_bestFunction_56 : decode cX4_bestFunction 56 = .ok (.lstore 5, 2) := by decide +kernel
theorem dX4_bestFunction_58 : decode cX4_bestFunction 58 = .ok (.lload 5, 2) := by decide +kernel
theorem dX4_bestFunction_60 : decode cX4_bestFunction 60 = .ok (.lload_n 2, 1) := by decide +kernel
theorem dX4_bestFunction_61 : decode cX4_bestFunction 61 = .ok (.lcmp, 1) := by decide +kernel
theorem dX4_bestFunction_62 : decode cX4_bestFunction 62 = .ok (.ifCond .ge 9, 3) := by decide +kernel
theorem dX4_bestFunction_65 : decode cX4_bestFunction 65 = .ok (.lload 5, 2) := by decide +kernel
theorem dX4_bestFunction_67 : decode cX4_bestFunction 67 = .ok (.lstore_n 2, 1) := by decide +kernel
theorem dX4_bestFunction_68 : decode cX4_bestFunction 68 = .ok (.iload 4, 2) := by decide +kernel
theorem dX4_bestFunction_70 : decode cX4_bestFunction 70 = .ok (.istore_n 1, 1) := by decide +kernel
theorem dX4_bestFunction_71 : decode cX4_bestFunction 71 = .ok (.iinc 4 1, 3) := by decide +kernel
theorem dX4_bestFunction_74 : decode cX4_bestFunction 74 = .ok (.goto (-40), 3) := by decide +kernel
theorem dX4_bestFunction_77 : decode cX4_bestFunction 77 = .ok (.iload_n 1, 1) := by decide +kernel
theorem dX4_bestFunction_78 : decode cX4_bestFunction 78 = .ok (.ireturn, 1) := by decide +kernel
set_option maxRecDepth 20000 in
theorem ggX4_closeAct_X4_isError : GoodIn wsX4_closeAct wsX4_isError := goodIn_r _ [6, 7, 8, 9, 10] (by decide +kernel) (by decide +kernel)
set_option maxRecDepth 20000 in
theorem gX4_closeAct_X4_isError : GoodIn wsX4_closeAct (va_wsS RX4 209 yX4_isError wsX4_isError) := goodIn_app (goodIn_of _ (by decide +kernel)) ggX4_closeAct_X4_isError
set_option maxRecDepth 20000 in
theorem ggX4_closeAct_X2_keep : GoodIn wsX4_closeAct wsX2_keep := goodIn_r _ [15, 16, 17, 24, 25, 26] (by decide +kernel) (by decide +kernel)
set_option maxRecDepth 20000 in
theorem gX4_closeAct_X2_keep : GoodIn wsX4_closeAct (wsV RX4 105 RX2 yX2_keep wsX2_keep) := goodIn_app (goodIn_of _ (by decide +kernel)) ggX4_closeAct_X2_keep
theorem dX4_closeAct_0 : decode cX4_closeAct 0 = .ok (.iload_n 1, 1) := by decide +kernel
theorem dX4_closeAct_1 : decode cX4_closeAct 1 = .ok (.invokestatic 209, 3) := by decide +kernel
theorem dX4_closeAct_4 : decode cX4_closeAct 4 = .ok (.ifCond .ne 20, 3) := by decide +kernel
theorem dX4_closeAct_7 : decode cX4_closeAct 7 = .ok (.aload_n 0, 1) := by decide +kernel
theorem dX4_closeAct_8 : decode cX4_closeAct 8 = .ok (.getfield 19, 3) := by decide +kernel
theorem dX4_closeAct_11 : decode cX4_closeAct 11 = .ok (.invokevirtual 105, 3) := by decide +kernel
theorem dX4_closeAct_14 : decode cX4_closeAct 14 = .ok (.aload_n 0, 1) := by decide +kernel
theorem dX4_closeAct_15 : decode cX4_closeAct 15 = .ok (.dup, 1) := by decide +kernel
theorem dX4_closeAct_16 : decode cX4_closeAct 16 = .ok (.getfield 37, 3) := by decide +kernel
theorem dX4_closeAct_19 : decode cX4_closeAct 19 = .ok (.iconst 1, 1) := by decide +kernel
theorem dX4_closeAct_20 : decode cX4_closeAct 20 = .ok (.iadd, 1) := by decide +kernel
theorem dX4_closeAct_21 : decode cX4_closeAct 21 = .ok (.putfield 37, 3) := by decide +kernel
theorem dX4_closeAct_24 : decode cX4_closeAct 24 = .ok (.iload_n 1, 1) := by decide +kernel
theorem dX4_closeAct_25 : decode cX4_closeAct 25 = .ok (.ireturn, 1) := by decide +kernel
theorem dX4_isError_0 : decode cX4_isError 0 = .ok (.iload_n 0, 1) := by decide +kernel
theorem dX4_isError_1 : decode cX4_isError 1 = .ok (.ldc 139, 2) := by decide +kernel
theorem dX4_isError_3 : decode cX4_isError 3 = .ok (.if_icmp .eq 21, 3) := by decide +kernel
theorem dX4_isError_6 : decode cX4_isError 6 = .ok (.iload_n 0, 1) := by decide +kernel
theorem dX4_isError_7 : decode cX4_isError 7 = .ok (.ldc 185, 2) := by decide +kernel
theorem dX4_isError_9 : decode cX4_isError 9 = .ok (.if_icmp .eq 15, 3) := by decide +kernel
theorem dX4_isError_12 : decode cX4_isError 12 = .ok (.iload_n 0, 1) := by decide +kernel
theorem dX4_isError_13 : decode cX4_isError 13 = .ok (.ldc 212, 2) := by decide +kernel
theorem dX4_isError_15 : decode cX4_isError 15 = .ok (.if_icmp .eq 9, 3) := by decide +kernel
theorem dX4_isError_18 : decode cX4_isError 18 = .ok (.iload_n 0, 1) := by decide +kernel
theorem dX4_isError_19 : decode cX4_isError 19 = .ok (.ldc 213, 2) := by decide +kernel
theorem dX4_isError_21 : decode cX4_isError 21 = .ok (.if_icmp .ne 7, 3) := by decide +kernel
theorem dX4_isError_24 : decode cX4_isError 24 = .ok (.iconst 1, 1) := by decide +kernel
theorem dX4_isError_25 : decode cX4_isError 25 = .ok (.goto 4, 3) := by decide +kernel
theorem dX4_isError_28 : decode cX4_isError 28 = .ok (.iconst 0, 1) := by decide +kernel
theorem dX4_isError_29 : decode cX4_isError 29 = .ok (.ireturn, 1) := by decide +kernel
set_option maxRecDepth 20000 in
theorem ggX4_depthFault_X0_bottom : GoodIn wsX4_depthFault wsX0_bottom := goodIn_r _ [9, 10, 11, 12, 13, 8, 14, 15, 22, 23, 24, 25, 26, 27, 28, 29, 30, 31, 32, 33] (by decide +kernel) (by decide +kernel)
set_option maxRecDepth 20000 in
theorem gX4_depthFault_X0_bottom : GoodIn wsX4_depthFault (wsV RX4 128 RX0 yX0_bottom wsX0_bottom) := goodIn_app (goodIn_of _ (by decide +kernel)) ggX4_depthFault_X0_bottom
theorem dX4_depthFault_0 : decode cX4_depthFault 0 = .ok (.iload_n 1, 1) := by decide +kernel
theorem dX4_depthFault_1 : decode cX4_depthFault 1 = .ok (.ifCond .lt 14, 3) := by decide +kernel
theorem dX4_depthFault_4 : decode cX4_depthFault 4 = .ok (.iload_n 1, 1) := by decide +kernel
theorem dX4_depthFault_5 : decode cX4_depthFault 5 = .ok (.aload_n 0, 1) := by decide +kernel
theorem dX4_depthFault_6 : decode cX4_depthFault 6 = .ok (.getfield 10, 3) := by decide +kernel
theorem dX4_depthFault_9 : decode cX4_depthFault 9 = .ok (.invokevirtual 128, 3) := by decide +kernel
theorem dX4_depthFault_12 : decode cX4_depthFault 12 = .ok (.if_icmp .le 6, 3) := by decide +kernel
theorem dX4_depthFault_15 : decode cX4_depthFault 15 = .ok (.ldc 185, 2) := by decide +kernel
theorem dX4_depthFault_17 : decode cX4_depthFault 17 = .ok (.ireturn, 1) := by decide +kernel
theorem dX4_depthFault_18 : decode cX4_depthFault 18 = .ok (.aload_n 0, 1) := by decide +kernel
theorem dX4_depthFault_19 : decode cX4_depthFault 19 = .ok (.getfield 10, 3) := by decide +kernel
theorem dX4_depthFault_22 : decode cX4_depthFault 22 = .ok (.getfield 125, 3) := by decide +kernel
theorem dX4_depthFault_25 : decode cX4_depthFault 25 = .ok (.ifCond .ne 8, 3) := by decide +kernel
theorem dX4_depthFault_28 : decode cX4_depthFault 28 = .ok (.ldc 212, 2) := by decide +kernel
theorem dX4_depthFault_30 : decode cX4_depthFault 30 = .ok (.goto 4, 3) := by decide +kernel
theorem dX4_depthFault_33 : decode cX4_depthFault 33 = .ok (.iconst 0, 1) := by decide +kernel
theorem dX4_depthFault_34 : decode cX4_depthFault 34 = .ok (.ireturn, 1) := by decide +kernel
theorem dX4_quotient_0 : decode cX4_quotient 0 = .ok (.lload_n 2, 1) := by decide +kernel
theorem dX4_quotient_1 : decode cX4_quotient 1 = .ok (.lconst 0, 1) := by decide +kernel
theorem dX4_quotient_2 : decode cX4_quotient 2 = .ok (.lcmp, 1) := by decide +kernel
theorem dX4_quotient_3 : decode cX4_quotient 3 = .ok (.ifCond .le 9, 3) := by decide +kernel
theorem dX4_quotient_6 : decode cX4_quotient 6 = .ok (.lload_n 0, 1) := by decide +kernel
theorem dX4_quotient_7 : decode cX4_quotient 7 = .ok (.lload_n 2, 1) := by decide +kernel
theorem dX4_quotient_8 : decode cX4_quotient 8 = .ok (.ldiv, 1) := by decide +kernel
theorem dX4_quotient_9 : decode cX4_quotient 9 = .ok (.goto 4, 3) := by decide +kernel
theorem dX4_quotient_12 : decode cX4_quotient 12 = .ok (.lconst 0, 1) := by decide +kernel
theorem dX4_quotient_13 : decode cX4_quotient 13 = .ok (.lreturn, 1) := by decide +kernel
theorem dX4_isBetween_0 : decode cX4_isBetween 0 = .ok (.iload_n 0, 1) := by decide +kernel
theorem dX4_isBetween_1 : decode cX4_isBetween 1 = .ok (.iload_n 1, 1) := by decide +kernel
theorem dX4_isBetween_2 : decode cX4_isBetween 2 = .ok (.if_icmp .lt 12, 3) := by decide +kernel
theorem dX4_isBetween_5 : decode cX4_isBetween 5 = .ok (.iload_n 0, 1) := by decide +kernel
theorem dX4_isBetween_6 : decode cX4_isBetween 6 = .ok (.iload_n 2, 1) := by decide +kernel
theorem dX4_isBetween_7 : decode cX4_isBetween 7 = .ok (.if_icmp .gt 7, 3) := by decide +kernel
theorem dX4_isBetween_10 : decode cX4_isBetween 10 = .ok (.iconst 1, 1) := by decide +kernel
theorem dX4_isBetween_11 : decode cX4_isBetween 11 = .ok (.goto 4, 3) := by decide +kernel
theorem dX4_isBetween_14 : decode cX4_isBetween 14 = .ok (.iconst 0, 1) := by decide +kernel
theorem dX4_isBetween_15 : decode cX4_isBetween 15 = .ok (.ireturn, 1) := by decide +kernel
theorem dJ9_abs_0f7a4_0 : decode cJ9_abs_0f7a4 0 = .ok (.iload_n 0, 1) := by decide +kernel
theorem dJ9_abs_0f7a4_1 : decode cJ9_abs_0f7a4 1 = .ok (.ifCond .ge 8, 3) := by decide +kernel
theorem dJ9_abs_0f7a4_4 : decode cJ9_abs_0f7a4 4 = .ok (.iload_n 0, 1) := by decide +kernel
theorem dJ9_abs_0f7a4_5 : decode cJ9_abs_0f7a4 5 = .ok (.ineg, 1) := by decide +kernel
theorem dJ9_abs_0f7a4_6 : decode cJ9_abs_0f7a4 6 = .ok (.goto 4, 3) := by decide +kernel
theorem dJ9_abs_0f7a4_9 : decode cJ9_abs_0f7a4 9 = .ok (.iload_n 0, 1) := by decide +kernel
theorem dJ9_abs_0f7a4_10 : decode cJ9_abs_0f7a4 10 = .ok (.ireturn, 1) := by decide +kernel
theorem dJ9_max_7cf53_0 : decode cJ9_max_7cf53 0 = .ok (.iload_n 0, 1) := by decide +kernel
theorem dJ9_max_7cf53_1 : decode cJ9_max_7cf53 1 = .ok (.iload_n 1, 1) := by decide +kernel
theorem dJ9_max_7cf53_2 : decode cJ9_max_7cf53 2 = .ok (.if_icmp .lt 7, 3) := by decide +kernel
theorem dJ9_max_7cf53_5 : decode cJ9_max_7cf53 5 = .ok (.iload_n 0, 1) := by decide +kernel
theorem dJ9_max_7cf53_6 : decode cJ9_max_7cf53 6 = .ok (.goto 4, 3) := by decide +kernel
theorem dJ9_max_7cf53_9 : decode cJ9_max_7cf53 9 = .ok (.iload_n 1, 1) := by decide +kernel
theorem dJ9_max_7cf53_10 : decode cJ9_max_7cf53 10 = .ok (.ireturn, 1) := by decide +kernel
theorem dJ9_max_f86c9_0 : decode cJ9_max_f86c9 0 = .ok (.lload_n 0, 1) := by decide +kernel
theorem dJ9_max_f86c9_1 : decode cJ9_max_f86c9 1 = .ok (.lload_n 2, 1) := by decide +kernel
theorem dJ9_max_f86c9_2 : decode cJ9_max_f86c9 2 = .ok (.lcmp, 1) := by decide +kernel
theorem dJ9_max_f86c9_3 : decode cJ9_max_f86c9 3 = .ok (.ifCond .lt 7, 3) := by decide +kernel
theorem dJ9_max_f86c9_6 : decode cJ9_max_f86c9 6 = .ok (.lload_n 0, 1) := by decide +kernel
theorem dJ9_max_f86c9_7 : decode cJ9_max_f86c9 7 = .ok (.goto 4, 3) := by decide +kernel
theorem dJ9_max_f86c9_10 : decode cJ9_max_f86c9 10 = .ok (.lload_n 2, 1) := by decide +kernel
theorem dJ9_max_f86c9_11 : decode cJ9_max_f86c9 11 = .ok (.lreturn, 1) := by decide +kernel
