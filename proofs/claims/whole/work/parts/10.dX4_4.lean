set_option maxRecDepth 20000 in
theorem ggX4_learnSites_X3_closeAroundAll : GoodIn wsX4_learnSites wsX3_closeAroundAll := goodIn_r _ [15, 16, 17, 18, 19, 20, 21, 22, 23, 24, 9, 25, 11, 26, 27, 28, 29, 30, 31, 32, 33, 34, 35, 36, 37, 38, 39, 40, 41, 42, 64, 65, 66, 67, 68, 69, 70, 62, 63] (by decide +kernel) (by decide +kernel)
set_option maxRecDepth 20000 in
theorem gX4_learnSites_X3_closeAroundAll : GoodIn wsX4_learnSites (wsV RX4 276 RX3 yX3_closeAroundAll wsX3_closeAroundAll) := goodIn_app (goodIn_of _ (by decide +kernel)) ggX4_learnSites_X3_closeAroundAll
theorem dX4_learnSites_0 : decode cX4_learnSites 0 = .ok (.aload_n 0, 1) := by decide +kernel
theorem dX4_learnSites_1 : decode cX4_learnSites 1 = .ok (.getfield 76, 3) := by decide +kernel
theorem dX4_learnSites_4 : decode cX4_learnSites 4 = .ok (.invokevirtual 273, 3) := by decide +kernel
theorem dX4_learnSites_7 : decode cX4_learnSites 7 = .ok (.aload_n 0, 1) := by decide +kernel
theorem dX4_learnSites_8 : decode cX4_learnSites 8 = .ok (.getfield 76, 3) := by decide +kernel
theorem dX4_learnSites_11 : decode cX4_learnSites 11 = .ok (.aload_n 0, 1) := by decide +kernel
theorem dX4_learnSites_12 : decode cX4_learnSites 12 = .ok (.getfield 31, 3) := by decide +kernel
theorem dX4_learnSites_15 : decode cX4_learnSites 15 = .ok (.invokevirtual 276, 3) := by decide +kernel
theorem dX4_learnSites_18 : decode cX4_learnSites 18 = .ok (.aload_n 0, 1) := by decide +kernel
theorem dX4_learnSites_19 : decode cX4_learnSites 19 = .ok (.getfield 76, 3) := by decide +kernel
theorem dX4_learnSites_22 : decode cX4_learnSites 22 = .ok (.aload_n 0, 1) := by decide +kernel
theorem dX4_learnSites_23 : decode cX4_learnSites 23 = .ok (.getfield 35, 3) := by decide +kernel
theorem dX4_learnSites_26 : decode cX4_learnSites 26 = .ok (.invokevirtual 276, 3) := by decide +kernel
theorem dX4_learnSites_29 : decode cX4_learnSites 29 = .ok (.aload_n 0, 1) := by decide +kernel
theorem dX4_learnSites_30 : decode cX4_learnSites 30 = .ok (.getfield 76, 3) := by decide +kernel
theorem dX4_learnSites_33 : decode cX4_learnSites 33 = .ok (.aload_n 0, 1) := by decide +kernel
theorem dX4_learnSites_34 : decode cX4_learnSites 34 = .ok (.getfield 38, 3) := by decide +kernel
theorem dX4_learnSites_37 : decode cX4_learnSites 37 = .ok (.invokevirtual 276, 3) := by decide +kernel
theorem dX4_learnSites_40 : decode cX4_learnSites 40 = .ok (.aload_n 0, 1) := by decide +kernel
theorem dX4_learnSites_41 : decode cX4_learnSites 41 = .ok (.getfield 76, 3) := by decide +kernel
theorem dX4_learnSites_44 : decode cX4_learnSites 44 = .ok (.iconst 1, 1) := by decide +kernel
theorem dX4_learnSites_45 : decode cX4_learnSites 45 = .ok (.putfield 131, 3) := by decide +kernel
theorem dX4_learnSites_48 : decode cX4_learnSites 48 = .ok (.return_, 1) := by decide +kernel
set_option maxRecDepth 20000 in
theorem ggX4_coveredInWindow_X1_open : GoodIn wsX4_coveredInWindow wsX1_open := goodIn_r _ [9, 10, 11, 12, 13, 14, 79, 80, 81, 82, 83, 84, 85, 86, 87, 88, 89, 90] (by decide +kernel) (by decide +kernel)
set_option maxRecDepth 20000 in
theorem gX4_coveredInWindow_X1_open : GoodIn wsX4_coveredInWindow (wsV RX4 115 RX1 yX1_open wsX1_open) := goodIn_app (goodIn_of _ (by decide +kernel)) ggX4_coveredInWindow_X1_open
set_option maxRecDepth 20000 in
theorem ggX4_coveredInWindow_X1_take : GoodIn wsX4_coveredInWindow wsX1_take := goodIn_r _ [18, 19, 20, 21, 22, 23, 24, 25, 26, 27, 28, 8, 29, 11, 30, 31, 32, 33, 12, 13, 34, 35, 36, 14, 10, 37, 38, 39, 40, 91, 92, 93, 94, 95, 96, 97, 79, 80, 81, 82, 83, 84, 85, 86, 87, 88, 89, 90] (by decide +kernel) (by decide +kernel)
set_option maxRecDepth 20000 in
theorem gX4_coveredInWindow_X1_take : GoodIn wsX4_coveredInWindow (wsV RX4 119 RX1 yX1_take wsX1_take) := goodIn_app (goodIn_of _ (by decide +kernel)) ggX4_coveredInWindow_X1_take
set_option maxRecDepth 20000 in
theorem ggX4_coveredInWindow_X1_area : GoodIn wsX4_coveredInWindow wsX1_area := goodIn_r _ [44, 10, 14, 45, 46, 47, 48, 8, 49, 13, 50, 37, 51, 52, 53, 54, 55, 38, 40, 56, 57, 58, 59, 39, 30, 31, 32, 33, 79, 80, 81, 82, 83, 84, 85, 86, 87, 88, 89, 90] (by decide +kernel) (by decide +kernel)
set_option maxRecDepth 20000 in
theorem gX4_coveredInWindow_X1_area : GoodIn wsX4_coveredInWindow (wsV RX4 123 RX1 yX1_area wsX1_area) := goodIn_app (goodIn_of _ (by decide +kernel)) ggX4_coveredInWindow_X1_area
theorem dX4_coveredInWindow_0 : decode cX4_coveredInWindow 0 = .ok (.aload_n 0, 1) := by decide +kernel
theorem dX4_coveredInWindow_1 : decode cX4_coveredInWindow 1 = .ok (.getfield 69, 3) := by decide +kernel
theorem dX4_coveredInWindow_4 : decode cX4_coveredInWindow 4 = .ok (.iload_n 2, 1) := by decide +kernel
theorem dX4_coveredInWindow_5 : decode cX4_coveredInWindow 5 = .ok (.iload_n 3, 1) := by decide +kernel
theorem dX4_coveredInWindow_6 : decode cX4_coveredInWindow 6 = .ok (.iload_n 2, 1) := by decide +kernel
theorem dX4_coveredInWindow_7 : decode cX4_coveredInWindow 7 = .ok (.sipush 200, 3) := by decide +kernel
theorem dX4_coveredInWindow_10 : decode cX4_coveredInWindow 10 = .ok (.iadd, 1) := by decide +kernel
theorem dX4_coveredInWindow_11 : decode cX4_coveredInWindow 11 = .ok (.iload_n 3, 1) := by decide +kernel
theorem dX4_coveredInWindow_12 : decode cX4_coveredInWindow 12 = .ok (.sipush 200, 3) := by decide +kernel
theorem dX4_coveredInWindow_15 : decode cX4_coveredInWindow 15 = .ok (.iadd, 1) := by decide +kernel
theorem dX4_coveredInWindow_16 : decode cX4_coveredInWindow 16 = .ok (.invokevirtual 115, 3) := by decide +kernel
theorem dX4_coveredInWindow_19 : decode cX4_coveredInWindow 19 = .ok (.aload_n 0, 1) := by decide +kernel
theorem dX4_coveredInWindow_20 : decode cX4_coveredInWindow 20 = .ok (.getfield 69, 3) := by decide +kernel
theorem dX4_coveredInWindow_23 : decode cX4_coveredInWindow 23 = .ok (.aload_n 0, 1) := by decide +kernel
theorem dX4_coveredInWindow_24 : decode cX4_coveredInWindow 24 = .ok (.getfield 31, 3) := by decide +kernel
theorem dX4_coveredInWindow_27 : decode cX4_coveredInWindow 27 = .ok (.iload_n 1, 1) := by decide +kernel
theorem dX4_coveredInWindow_28 : decode cX4_coveredInWindow 28 = .ok (.iconst (-1), 1) := by decide +kernel
theorem dX4_coveredInWindow_29 : decode cX4_coveredInWindow 29 = .ok (.invokevirtual 119, 3) := by decide +kernel
theorem dX4_coveredInWindow_32 : decode cX4_coveredInWindow 32 = .ok (.aload_n 0, 1) := by decide +kernel
theorem dX4_coveredInWindow_33 : decode cX4_coveredInWindow 33 = .ok (.getfield 69, 3) := by decide +kernel
theorem dX4_coveredInWindow_36 : decode cX4_coveredInWindow 36 = .ok (.aload_n 0, 1) := by decide +kernel
theorem dX4_coveredInWindow_37 : decode cX4_coveredInWindow 37 = .ok (.getfield 35, 3) := by decide +kernel
theorem dX4_coveredInWindow_40 : decode cX4_coveredInWindow 40 = .ok (.iload_n 1, 1) := by decide +kernel
theorem dX4_coveredInWindow_41 : decode cX4_coveredInWindow 41 = .ok (.iconst (-1), 1) := by decide +kernel
theorem dX4_coveredInWindow_42 : decode cX4_coveredInWindow 42 = .ok (.invokevirtual 119, 3) := by decide +kernel
theorem dX4_coveredInWindow_45 : decode cX4_coveredInWindow 45 = .ok (.aload_n 0, 1) := by decide +kernel
theorem dX4_coveredInWindow_46 : decode cX4_coveredInWindow 46 = .ok (.getfield 69, 3) := by decide +kernel
theorem dX4_coveredInWindow_49 : decode cX4_coveredInWindow 49 = .ok (.aload_n 0, 1) := by decide +kernel
theorem dX4_coveredInWindow_50 : decode cX4_coveredInWindow 50 = .ok (.getfield 38, 3) := by decide +kernel
theorem dX4_coveredInWindow_53 : decode cX4_coveredInWindow 53 = .ok (.iload_n 1, 1) := by decide +kernel
theorem dX4_coveredInWindow_54 : decode cX4_coveredInWindow 54 = .ok (.iconst (-1), 1) := by decide +kernel
theorem dX4_coveredInWindow_55 : decode cX4_coveredInWindow 55 = .ok (.invokevirtual 119, 3) := by decide +kernel
theorem dX4_coveredInWindow_58 : decode cX4_coveredInWindow 58 = .ok (.aload_n 0, 1) := by decide +kernel
theorem dX4_coveredInWindow_59 : decode cX4_coveredInWindow 59 = .ok (.getfield 69, 3) := by decide +kernel
theorem dX4_coveredInWindow_62 : decode cX4_coveredInWindow 62 = .ok (.invokevirtual 123, 3) := by decide +kernel
theorem dX4_coveredInWindow_65 : decode cX4_coveredInWindow 65 = .ok (.lreturn, 1) := by decide +kernel
theorem dX4_areaOfPercent_0 : decode cX4_areaOfPercent 0 = .ok (.iload_n 0, 1) := by decide +kernel
theorem dX4_areaOfPercent_1 : decode cX4_areaOfPercent 1 = .ok (.i2l, 1) := by decide +kernel
theorem dX4_areaOfPercent_2 : decode cX4_areaOfPercent 2 = .ok (.ldc2_w 231, 3) := by decide +kernel
theorem dX4_areaOfPercent_5 : decode cX4_areaOfPercent 5 = .ok (.lmul, 1) := by decide +kernel
theorem dX4_areaOfPercent_6 : decode cX4_areaOfPercent 6 = .ok (.lreturn, 1) := by decide +kernel
set_option maxRecDepth 20000 in
theorem ggX4_fillTile_X4_coveredInWindow : GoodIn wsX4_fillTile wsX4_coveredInWindow := goodIn_r _ [13, 14, 3, 4, 5, 15, 16, 17, 18, 19, 20, 21, 22, 23, 24, 25, 26, 27, 28, 29, 30, 31, 32, 33, 34, 35, 36, 37, 38, 39, 40, 41, 42, 43, 44, 45, 46, 47, 48, 49, 50, 51, 52, 53, 54, 55, 56, 57, 58, 59, 60, 61, 62, 63, 64, 65, 66, 67, 68, 69, 126, 127, 128, 129, 130, 131, 132, 133, 134, 135, 136, 137, 138, 139, 140, 141, 142, 143, 144, 158, 159, 160, 161, 162, 163, 164, 165, 166, 167, 168, 169, 151, 152, 153, 154, 155, 156, 157] (by decide +kernel) (by decide +kernel)
set_option maxRecDepth 20000 in
theorem gX4_fillTile_X4_coveredInWindow : GoodIn wsX4_fillTile (wsV RX4 193 RX4 yX4_coveredInWindow wsX4_coveredInWindow) := goodIn_app (goodIn_of _ (by decide +kernel)) ggX4_fillTile_X4_coveredInWindow
set_option maxRecDepth 20000 in
theorem ggX4_fillTile_X4_areaOfPercent : GoodIn wsX4_fillTile wsX4_areaOfPercent := goodIn_r _ [72, 73] (by decide +kernel) (by decide +kernel)
set_option maxRecDepth 20000 in
theorem gX4_fillTile_X4_areaOfPercent : GoodIn wsX4_fillTile (va_wsS RX4 213 yX4_areaOfPercent wsX4_areaOfPercent) := goodIn_app (goodIn_of _ (by decide +kernel)) ggX4_fillTile_X4_areaOfPercent
set_option maxRecDepth 20000 in
theorem ggX4_fillTile_X2_open : GoodIn wsX4_fillTile wsX2_open := goodIn_r _ [78, 79, 80, 81, 82, 41, 42, 43, 83, 84, 45, 46, 85, 86, 145, 146, 147, 148, 149, 150] (by decide +kernel) (by decide +kernel)
set_option maxRecDepth 20000 in
theorem gX4_fillTile_X2_open : GoodIn wsX4_fillTile (wsV RX4 280 RX2 yX2_open wsX2_open) := goodIn_app (goodIn_of _ (by decide +kernel)) ggX4_fillTile_X2_open
set_option maxRecDepth 20000 in
theorem ggX4_fillTile_X2_closeAround : GoodIn wsX4_fillTile wsX2_closeAround := goodIn_r _ [90, 91, 92, 93, 79, 94, 95, 80, 96, 97, 86, 98, 99, 100, 77, 101, 81, 83, 82, 41, 42, 43, 102, 103, 104, 105, 106, 107, 108, 109, 85, 84, 45, 46, 151, 152, 153, 154, 155, 156, 157, 145, 146, 147, 148, 149, 150] (by decide +kernel) (by decide +kernel)
set_option maxRecDepth 20000 in
theorem gX4_fillTile_X2_closeAround : GoodIn wsX4_fillTile (wsV RX4 281 RX2 yX2_closeAround wsX2_closeAround) := goodIn_app (goodIn_of _ (by decide +kernel)) ggX4_fillTile_X2_closeAround
set_option maxRecDepth 20000 in
theorem ggX4_fillTile_X2_isOpen : GoodIn wsX4_fillTile wsX2_isOpen := goodIn_r _ [113, 86, 145, 146, 147, 148, 149, 150] (by decide +kernel) (by decide +kernel)
set_option maxRecDepth 20000 in
theorem gX4_fillTile_X2_isOpen : GoodIn wsX4_fillTile (wsV RX4 286 RX2 yX2_isOpen wsX2_isOpen) := goodIn_app (goodIn_of _ (by decide +kernel)) ggX4_fillTile_X2_isOpen
set_option maxRecDepth 20000 in
theorem ggX4_fillTile_X0_put : GoodIn wsX4_fillTile wsX0_put := goodIn_r _ [118, 119, 120, 121, 122, 123, 124, 125, 151, 152, 153, 154, 155, 156, 157] (by decide +kernel) (by decide +kernel)
set_option maxRecDepth 20000 in
theorem gX4_fillTile_X0_put : GoodIn wsX4_fillTile (wsV RX4 127 RX0 yX0_put wsX0_put) := goodIn_app (goodIn_of _ (by decide +kernel)) ggX4_fillTile_X0_put
theorem dX4_fillTile_0 : decode cX4_fillTile 0 = .ok (.iload_n 2, 1) := by decide +kernel
theorem dX4_fillTile_1 : decode cX4_fillTile 1 = .ok (.iconst 5, 1) := by decide +kernel
theorem dX4_fillTile_2 : decode cX4_fillTile 2 = .ok (.irem, 1) := by decide +kernel
theorem dX4_fillTile_3 : decode cX4_fillTile 3 = .ok (.sipush 200, 3) := by decide +kernel
theorem dX4_fillTile_6 : decode cX4_fillTile 6 = .ok (.imul, 1) := by decide +kernel
theorem dX4_fillTile_7 : decode cX4_fillTile 7 = .ok (.istore 6, 2) := by decide +kernel
theorem dX4_fillTile_9 : decode cX4_fillTile 9 = .ok (.iload_n 2, 1) := by decide +kernel
theorem dX4_fillTile_10 : decode cX4_fillTile 10 = .ok (.iconst 5, 1) := by decide +kernel
theorem dX4_fillTile_11 : decode cX4_fillTile 11 = .ok (.idiv, 1) := by decide +kernel
theorem dX4_fillTile_12 : decode cX4_fillTile 12 = .ok (.sipush 200, 3) := by decide +kernel
theorem dX4_fillTile_15 : decode cX4_fillTile 15 = .ok (.imul, 1) := by decide +kernel
theorem dX4_fillTile_16 : decode cX4_fillTile 16 = .ok (.istore 7, 2) := by decide +kernel
theorem dX4_fillTile_18 : decode cX4_fillTile 18 = .ok (.aload_n 0, 1) := by decide +kernel
theorem dX4_fillTile_19 : decode cX4_fillTile 19 = .ok (.iload_n 1, 1) := by decide +kernel
theorem dX4_fillTile_20 : decode cX4_fillTile 20 = .ok (.iload 6, 2) := by decide +kernel
theorem dX4_fillTile_22 : decode cX4_fillTile 22 = .ok (.iload 7, 2) := by decide +kernel
theorem dX4_fillTile_24 : decode cX4_fillTile 24 = .ok (.invokevirtual 193, 3) := by decide +kernel
theorem dX4_fillTile_27 : decode cX4_fillTile 27 = .ok (.lstore 8, 2) := by decide +kernel
theorem dX4_fillTile_29 : decode cX4_fillTile 29 = .ok (.aload_n 0, 1) := by decide +kernel
theorem dX4_fillTile_30 : decode cX4_fillTile 30 = .ok (.getfield 57, 3) := by decide +kernel
theorem dX4_fillTile_33 : decode cX4_fillTile 33 = .ok (.iload_n 1, 1) := by decide +kernel
theorem dX4_fillTile_34 : decode cX4_fillTile 34 = .ok (.iaload, 1) := by decide +kernel
theorem dX4_fillTile_35 : decode cX4_fillTile 35 = .ok (.invokestatic 213, 3) := by decide +kernel
theorem dX4_fillTile_38 : decode cX4_fillTile 38 = .ok (.lstore 10, 2) := by decide +kernel
theorem dX4_fillTile_40 : decode cX4_fillTile 40 = .ok (.lload 8, 2) := by decide +kernel
theorem dX4_fillTile_42 : decode cX4_fillTile 42 = .ok (.lload 10, 2) := by decide +kernel
theorem dX4_fillTile_44 : decode cX4_fillTile 44 = .ok (.lcmp, 1) := by decide +kernel
theorem dX4_fillTile_45 : decode cX4_fillTile 45 = .ok (.ifCond .lt 6, 3) := by decide +kernel
theorem dX4_fillTile_48 : decode cX4_fillTile 48 = .ok (.lload 8, 2) := by decide +kernel
theorem dX4_fillTile_50 : decode cX4_fillTile 50 = .ok (.lreturn, 1) := by decide +kernel
theorem dX4_fillTile_51 : decode cX4_fillTile 51 = .ok (.aload_n 0, 1) := by decide +kernel
theorem dX4_fillTile_52 : decode cX4_fillTile 52 = .ok (.getfield 83, 3) := by decide +kernel
theorem dX4_fillTile_55 : decode cX4_fillTile 55 = .ok (.iload 6, 2) := by decide +kernel
theorem dX4_fillTile_57 : decode cX4_fillTile 57 = .ok (.iload 7, 2) := by decide +kernel
theorem dX4_fillTile_59 : decode cX4_fillTile 59 = .ok (.iload_n 3, 1) := by decide +kernel
theorem dX4_fillTile_60 : decode cX4_fillTile 60 = .ok (.iload_n 3, 1) := by decide +kernel
theorem dX4_fillTile_61 : decode cX4_fillTile 61 = .ok (.iload 4, 2) := by decide +kernel
theorem dX4_fillTile_63 : decode cX4_fillTile 63 = .ok (.iadd, 1) := by decide +kernel
theorem dX4_fillTile_64 : decode cX4_fillTile 64 = .ok (.invokevirtual 280, 3) := by decide +kernel
theorem dX4_fillTile_67 : decode cX4_fillTile 67 = .ok (.aload_n 0, 1) := by decide +kernel
theorem dX4_fillTile_68 : decode cX4_fillTile 68 = .ok (.getfield 83, 3) := by decide +kernel
theorem dX4_fillTile_71 : decode cX4_fillTile 71 = .ok (.aload_n 0, 1) := by decide +kernel
theorem dX4_fillTile_72 : decode cX4_fillTile 72 = .ok (.getfield 31, 3) := by decide +kernel
theorem dX4_fillTile_75 : decode cX4_fillTile 75 = .ok (.iload_n 1, 1) := by decide +kernel
theorem dX4_fillTile_76 : decode cX4_fillTile 76 = .ok (.iload 5, 2) := by decide +kernel
theorem dX4_fillTile_78 : decode cX4_fillTile 78 = .ok (.invokevirtual 281, 3) := by decide +kernel
theorem dX4_fillTile_81 : decode cX4_fillTile 81 = .ok (.aload_n 0, 1) := by decide +kernel
theorem dX4_fillTile_82 : decode cX4_fillTile 82 = .ok (.getfield 83, 3) := by decide +kernel
theorem dX4_fillTile_85 : decode cX4_fillTile 85 = .ok (.aload_n 0, 1) := by decide +kernel
theorem dX4_fillTile_86 : decode cX4_fillTile 86 = .ok (.getfield 35, 3) := by decide +kernel
theorem dX4_fillTile_89 : decode cX4_fillTile 89 = .ok (.iload_n 1, 1) := by decide +kernel
theorem dX4_fillTile_90 : decode cX4_fillTile 90 = .ok (.iload 5, 2) := by decide +kernel
theorem dX4_fillTile_92 : decode cX4_fillTile 92 = .ok (.invokevirtual 281, 3) := by decide +kernel
theorem dX4_fillTile_95 : decode cX4_fillTile 95 = .ok (.aload_n 0, 1) := by decide +kernel
theorem dX4_fillTile_96 : decode cX4_fillTile 96 = .ok (.getfield 83, 3) := by decide +kernel
theorem dX4_fillTile_99 : decode cX4_fillTile 99 = .ok (.aload_n 0, 1) := by decide +kernel
theorem dX4_fillTile_100 : decode cX4_fillTile 100 = .ok (.getfield 38, 3) := by decide +kernel
theorem dX4_fillTile_103 : decode cX4_fillTile 103 = .ok (.iload_n 1, 1) := by decide +kernel
theorem dX4_fillTile_104 : decode cX4_fillTile 104 = .ok (.iload 4, 2) := by decide +kernel
theorem dX4_fillTile_106 : decode cX4_fillTile 106 = .ok (.invokevirtual 281, 3) := by decide +kernel
theorem dX4_fillTile_109 : decode cX4_fillTile 109 = .ok (.iconst 0, 1) := by decide +kernel
theorem dX4_fillTile_110 : decode cX4_fillTile 110 = .ok (.istore 12, 2) := by decide +kernel
theorem dX4_fillTile_112 : decode cX4_fillTile 112 = .ok (.iload 12, 2) := by decide +kernel
theorem dX4_fillTile_114 : decode cX4_fillTile 114 = .ok (.aload_n 0, 1) := by decide +kernel
theorem dX4_fillTile_115 : decode cX4_fillTile 115 = .ok (.getfield 83, 3) := by decide +kernel
theorem dX4_fillTile_118 : decode cX4_fillTile 118 = .ok (.getfield 283, 3) := by decide +kernel
theorem dX4_fillTile_121 : decode cX4_fillTile 121 = .ok (.if_icmp .ge 126, 3) := by decide +kernel
theorem dX4_fillTile_124 : decode cX4_fillTile 124 = .ok (.iconst 0, 1) := by decide +kernel
theorem dX4_fillTile_125 : decode cX4_fillTile 125 = .ok (.istore 13, 2) := by decide +kernel
theorem dX4_fillTile_127 : decode cX4_fillTile 127 = .ok (.iload 13, 2) := by decide +kernel
theorem dX4_fillTile_129 : decode cX4_fillTile 129 = .ok (.aload_n 0, 1) := by decide +kernel
theorem dX4_fillTile_130 : decode cX4_fillTile 130 = .ok (.getfield 83, 3) := by decide +kernel
theorem dX4_fillTile_133 : decode cX4_fillTile 133 = .ok (.getfield 283, 3) := by decide +kernel
theorem dX4_fillTile_136 : decode cX4_fillTile 136 = .ok (.if_icmp .ge 105, 3) := by decide +kernel
theorem dX4_fillTile_139 : decode cX4_fillTile 139 = .ok (.lload 8, 2) := by decide +kernel
theorem dX4_fillTile_141 : decode cX4_fillTile 141 = .ok (.lload 10, 2) := by decide +kernel
theorem dX4_fillTile_143 : decode cX4_fillTile 143 = .ok (.lcmp, 1) := by decide +kernel
theorem dX4_fillTile_144 : decode cX4_fillTile 144 = .ok (.ifCond .ge 97, 3) := by decide +kernel
theorem dX4_fillTile_147 : decode cX4_fillTile 147 = .ok (.aload_n 0, 1) := by decide +kernel
theorem dX4_fillTile_148 : decode cX4_fillTile 148 = .ok (.getfield 38, 3) := by decide +kernel
theorem dX4_fillTile_151 : decode cX4_fillTile 151 = .ok (.getfield 103, 3) := by decide +kernel
theorem dX4_fillTile_154 : decode cX4_fillTile 154 = .ok (.sipush 1500, 3) := by decide +kernel
theorem dX4_fillTile_157 : decode cX4_fillTile 157 = .ok (.if_icmp .ge 84, 3) := by decide +kernel
theorem dX4_fillTile_160 : decode cX4_fillTile 160 = .ok (.aload_n 0, 1) := by decide +kernel
theorem dX4_fillTile_161 : decode cX4_fillTile 161 = .ok (.getfield 83, 3) := by decide +kernel
theorem dX4_fillTile_164 : decode cX4_fillTile 164 = .ok (.iload 13, 2) := by decide +kernel
theorem dX4_fillTile_166 : decode cX4_fillTile 166 = .ok (.iload 12, 2) := by decide +kernel
theorem dX4_fillTile_168 : decode cX4_fillTile 168 = .ok (.invokevirtual 286, 3) := by decide +kernel
theorem dX4_fillTile_171 : decode cX4_fillTile 171 = .ok (.ifCond .eq 64, 3) := by decide +kernel
theorem dX4_fillTile_174 : decode cX4_fillTile 174 = .ok (.iload 6, 2) := by decide +kernel
theorem dX4_fillTile_176 : decode cX4_fillTile 176 = .ok (.iload 13, 2) := by decide +kernel
theorem dX4_fillTile_178 : decode cX4_fillTile 178 = .ok (.aload_n 0, 1) := by decide +kernel
theorem dX4_fillTile_179 : decode cX4_fillTile 179 = .ok (.getfield 83, 3) := by decide +kernel
theorem dX4_fillTile_182 : decode cX4_fillTile 182 = .ok (.getfield 289, 3) := by decide +kernel
theorem dX4_fillTile_185 : decode cX4_fillTile 185 = .ok (.imul, 1) := by decide +kernel
theorem dX4_fillTile_186 : decode cX4_fillTile 186 = .ok (.iadd, 1) := by decide +kernel
theorem dX4_fillTile_187 : decode cX4_fillTile 187 = .ok (.istore 14, 2) := by decide +kernel
theorem dX4_fillTile_189 : decode cX4_fillTile 189 = .ok (.iload 7, 2) := by decide +kernel
theorem dX4_fillTile_191 : decode cX4_fillTile 191 = .ok (.iload 12, 2) := by decide +kernel
theorem dX4_fillTile_193 : decode cX4_fillTile 193 = .ok (.aload_n 0, 1) := by decide +kernel
theorem dX4_fillTile_194 : decode cX4_fillTile 194 = .ok (.getfield 83, 3) := by decide +kernel
theorem dX4_fillTile_197 : decode cX4_fillTile 197 = .ok (.getfield 289, 3) := by decide +kernel
theorem dX4_fillTile_200 : decode cX4_fillTile 200 = .ok (.imul, 1) := by decide +kernel
theorem dX4_fillTile_201 : decode cX4_fillTile 201 = .ok (.iadd, 1) := by decide +kernel
theorem dX4_fillTile_202 : decode cX4_fillTile 202 = .ok (.istore 15, 2) := by decide +kernel
theorem dX4_fillTile_204 : decode cX4_fillTile 204 = .ok (.aload_n 0, 1) := by decide +kernel
theorem dX4_fillTile_205 : decode cX4_fillTile 205 = .ok (.getfield 38, 3) := by decide +kernel
theorem dX4_fillTile_208 : decode cX4_fillTile 208 = .ok (.iconst (-1), 1) := by decide +kernel
theorem dX4_fillTile_209 : decode cX4_fillTile 209 = .ok (.iload_n 1, 1) := by decide +kernel
theorem dX4_fillTile_210 : decode cX4_fillTile 210 = .ok (.iload 14, 2) := by decide +kernel
theorem dX4_fillTile_212 : decode cX4_fillTile 212 = .ok (.iload 15, 2) := by decide +kernel
theorem dX4_fillTile_214 : decode cX4_fillTile 214 = .ok (.iload 14, 2) := by decide +kernel
theorem dX4_fillTile_216 : decode cX4_fillTile 216 = .ok (.iload_n 3, 1) := by decide +kernel
theorem dX4_fillTile_217 : decode cX4_fillTile 217 = .ok (.iadd, 1) := by decide +kernel
theorem dX4_fillTile_218 : decode cX4_fillTile 218 = .ok (.iload 15, 2) := by decide +kernel
theorem dX4_fillTile_220 : decode cX4_fillTile 220 = .ok (.iload_n 3, 1) := by decide +kernel
theorem dX4_fillTile_221 : decode cX4_fillTile 221 = .ok (.iadd, 1) := by decide +kernel
theorem dX4_fillTile_222 : decode cX4_fillTile 222 = .ok (.invokevirtual 127, 3) := by decide +kernel
theorem dX4_fillTile_225 : decode cX4_fillTile 225 = .ok (.lload 8, 2) := by decide +kernel
theorem dX4_fillTile_227 : decode cX4_fillTile 227 = .ok (.iload_n 3, 1) := by decide +kernel
theorem dX4_fillTile_228 : decode cX4_fillTile 228 = .ok (.i2l, 1) := by decide +kernel
theorem dX4_fillTile_229 : decode cX4_fillTile 229 = .ok (.iload_n 3, 1) := by decide +kernel
theorem dX4_fillTile_230 : decode cX4_fillTile 230 = .ok (.i2l, 1) := by decide +kernel
theorem dX4_fillTile_231 : decode cX4_fillTile 231 = .ok (.lmul, 1) := by decide +kernel
theorem dX4_fillTile_232 : decode cX4_fillTile 232 = .ok (.ladd, 1) := by decide +kernel
theorem dX4_fillTile_233 : decode cX4_fillTile 233 = .ok (.lstore 8, 2) := by decide +kernel
theorem dX4_fillTile_235 : decode cX4_fillTile 235 = .ok (.iinc 13 1, 3) := by decide +kernel
theorem dX4_fillTile_238 : decode cX4_fillTile 238 = .ok (.goto (-111), 3) := by decide +kernel
theorem dX4_fillTile_241 : decode cX4_fillTile 241 = .ok (.iinc 12 1, 3) := by decide +kernel
theorem dX4_fillTile_244 : decode cX4_fillTile 244 = .ok (.goto (-132), 3) := by decide +kernel
theorem dX4_fillTile_247 : decode cX4_fillTile 247 = .ok (.lload 8, 2) := by decide +kernel
theorem dX4_fillTile_249 : decode cX4_fillTile 249 = .ok (.lreturn, 1) := by decide +kernel
theorem dX4_slotsInShape_0 : decode cX4_slotsInShape 0 = .ok (.aload_n 0, 1) := by decide +kernel
theorem dX4_slotsInShape_1 : decode cX4_slotsInShape 1 = .ok (.getfield 31, 3) := by decide +kernel
theorem dX4_slotsInShape_4 : decode cX4_slotsInShape 4 = .ok (.getfield 264, 3) := by decide +kernel
theorem dX4_slotsInShape_7 : decode cX4_slotsInShape 7 = .ok (.iload_n 1, 1) := by decide +kernel
theorem dX4_slotsInShape_8 : decode cX4_slotsInShape 8 = .ok (.iaload, 1) := by decide +kernel
theorem dX4_slotsInShape_9 : decode cX4_slotsInShape 9 = .ok (.aload_n 0, 1) := by decide +kernel
theorem dX4_slotsInShape_10 : decode cX4_slotsInShape 10 = .ok (.getfield 31, 3) := by decide +kernel
theorem dX4_slotsInShape_13 : decode cX4_slotsInShape 13 = .ok (.getfield 181, 3) := by decide +kernel
theorem dX4_slotsInShape_16 : decode cX4_slotsInShape 16 = .ok (.iload_n 1, 1) := by decide +kernel
theorem dX4_slotsInShape_17 : decode cX4_slotsInShape 17 = .ok (.iaload, 1) := by decide +kernel
theorem dX4_slotsInShape_18 : decode cX4_slotsInShape 18 = .ok (.isub, 1) := by decide +kernel
theorem dX4_slotsInShape_19 : decode cX4_slotsInShape 19 = .ok (.aload_n 0, 1) := by decide +kernel
theorem dX4_slotsInShape_20 : decode cX4_slotsInShape 20 = .ok (.getfield 31, 3) := by decide +kernel
theorem dX4_slotsInShape_23 : decode cX4_slotsInShape 23 = .ok (.getfield 267, 3) := by decide +kernel
theorem dX4_slotsInShape_26 : decode cX4_slotsInShape 26 = .ok (.iload_n 1, 1) := by decide +kernel
theorem dX4_slotsInShape_27 : decode cX4_slotsInShape 27 = .ok (.iaload, 1) := by decide +kernel
theorem dX4_slotsInShape_28 : decode cX4_slotsInShape 28 = .ok (.aload_n 0, 1) := by decide +kernel
theorem dX4_slotsInShape_29 : decode cX4_slotsInShape 29 = .ok (.getfield 31, 3) := by decide +kernel
theorem dX4_slotsInShape_32 : decode cX4_slotsInShape 32 = .ok (.getfield 184, 3) := by decide +kernel
theorem dX4_slotsInShape_35 : decode cX4_slotsInShape 35 = .ok (.iload_n 1, 1) := by decide +kernel
theorem dX4_slotsInShape_36 : decode cX4_slotsInShape 36 = .ok (.iaload, 1) := by decide +kernel
theorem dX4_slotsInShape_37 : decode cX4_slotsInShape 37 = .ok (.isub, 1) := by decide +kernel
theorem dX4_slotsInShape_38 : decode cX4_slotsInShape 38 = .ok (.invokestatic 9, 3) := by decide +kernel
theorem dX4_slotsInShape_41 : decode cX4_slotsInShape 41 = .ok (.istore_n 3, 1) := by decide +kernel
theorem dX4_slotsInShape_42 : decode cX4_slotsInShape 42 = .ok (.iload_n 2, 1) := by decide +kernel
theorem dX4_slotsInShape_43 : decode cX4_slotsInShape 43 = .ok (.iconst 1, 1) := by decide +kernel
theorem dX4_slotsInShape_44 : decode cX4_slotsInShape 44 = .ok (.if_icmp .lt 12, 3) := by decide +kernel
theorem dX4_slotsInShape_47 : decode cX4_slotsInShape 47 = .ok (.iload_n 3, 1) := by decide +kernel
theorem dX4_slotsInShape_48 : decode cX4_slotsInShape 48 = .ok (.iconst 2, 1) := by decide +kernel
theorem dX4_slotsInShape_49 : decode cX4_slotsInShape 49 = .ok (.iload_n 2, 1) := by decide +kernel
theorem dX4_slotsInShape_50 : decode cX4_slotsInShape 50 = .ok (.imul, 1) := by decide +kernel
theorem dX4_slotsInShape_51 : decode cX4_slotsInShape 51 = .ok (.iconst 2, 1) := by decide +kernel
theorem dX4_slotsInShape_52 : decode cX4_slotsInShape 52 = .ok (.iadd, 1) := by decide +kernel
theorem dX4_slotsInShape_53 : decode cX4_slotsInShape 53 = .ok (.if_icmp .ge 5, 3) := by decide +kernel
theorem dX4_slotsInShape_56 : decode cX4_slotsInShape 56 = .ok (.iconst 0, 1) := by decide +kernel
theorem dX4_slotsInShape_57 : decode cX4_slotsInShape 57 = .ok (.ireturn, 1) := by decide +kernel
theorem dX4_slotsInShape_58 : decode cX4_slotsInShape 58 = .ok (.iload_n 3, 1) := by decide +kernel
theorem dX4_slotsInShape_59 : decode cX4_slotsInShape 59 = .ok (.iload_n 2, 1) := by decide +kernel
theorem dX4_slotsInShape_60 : decode cX4_slotsInShape 60 = .ok (.isub, 1) := by decide +kernel
theorem dX4_slotsInShape_61 : decode cX4_slotsInShape 61 = .ok (.iload_n 2, 1) := by decide +kernel
theorem dX4_slotsInShape_62 : decode cX4_slotsInShape 62 = .ok (.iconst 2, 1) := by decide +kernel
theorem dX4_slotsInShape_63 : decode cX4_slotsInShape 63 = .ok (.iadd, 1) := by decide +kernel
theorem dX4_slotsInShape_64 : decode cX4_slotsInShape 64 = .ok (.idiv, 1) := by decide +kernel
theorem dX4_slotsInShape_65 : decode cX4_slotsInShape 65 = .ok (.ireturn, 1) := by decide +kernel
theorem dX4_slotSide_0 : decode cX4_slotSide 0 = .ok (.aload_n 0, 1) := by decide +kernel
theorem dX4_slotSide_1 : decode cX4_slotSide 1 = .ok (.getfield 31, 3) := by decide +kernel
theorem dX4_slotSide_4 : decode cX4_slotSide 4 = .ok (.getfield 264, 3) := by decide +kernel
theorem dX4_slotSide_7 : decode cX4_slotSide 7 = .ok (.iload_n 1, 1) := by decide +kernel
theorem dX4_slotSide_8 : decode cX4_slotSide 8 = .ok (.iaload, 1) := by decide +kernel
theorem dX4_slotSide_9 : decode cX4_slotSide 9 = .ok (.aload_n 0, 1) := by decide +kernel
theorem dX4_slotSide_10 : decode cX4_slotSide 10 = .ok (.getfield 31, 3) := by decide +kernel
theorem dX4_slotSide_13 : decode cX4_slotSide 13 = .ok (.getfield 181, 3) := by decide +kernel
theorem dX4_slotSide_16 : decode cX4_slotSide 16 = .ok (.iload_n 1, 1) := by decide +kernel
theorem dX4_slotSide_17 : decode cX4_slotSide 17 = .ok (.iaload, 1) := by decide +kernel
theorem dX4_slotSide_18 : decode cX4_slotSide 18 = .ok (.isub, 1) := by decide +kernel
theorem dX4_slotSide_19 : decode cX4_slotSide 19 = .ok (.aload_n 0, 1) := by decide +kernel
theorem dX4_slotSide_20 : decode cX4_slotSide 20 = .ok (.getfield 31, 3) := by decide +kernel
theorem dX4_slotSide_23 : decode cX4_slotSide 23 = .ok (.getfield 267, 3) := by decide +kernel
theorem dX4_slotSide_26 : decode cX4_slotSide 26 = .ok (.iload_n 1, 1) := by decide +kernel
theorem dX4_slotSide_27 : decode cX4_slotSide 27 = .ok (.iaload, 1) := by decide +kernel
theorem dX4_slotSide_28 : decode cX4_slotSide 28 = .ok (.aload_n 0, 1) := by decide +kernel
theorem dX4_slotSide_29 : decode cX4_slotSide 29 = .ok (.getfield 31, 3) := by decide +kernel
theorem dX4_slotSide_32 : decode cX4_slotSide 32 = .ok (.getfield 184, 3) := by decide +kernel
theorem dX4_slotSide_35 : decode cX4_slotSide 35 = .ok (.iload_n 1, 1) := by decide +kernel
theorem dX4_slotSide_36 : decode cX4_slotSide 36 = .ok (.iaload, 1) := by decide +kernel
theorem dX4_slotSide_37 : decode cX4_slotSide 37 = .ok (.isub, 1) := by decide +kernel
theorem dX4_slotSide_38 : decode cX4_slotSide 38 = .ok (.if_icmp .lt 7, 3) := by decide +kernel
theorem dX4_slotSide_41 : decode cX4_slotSide 41 = .ok (.iconst 1, 1) := by decide +kernel
theorem dX4_slotSide_42 : decode cX4_slotSide 42 = .ok (.goto 4, 3) := by decide +kernel
theorem dX4_slotSide_45 : decode cX4_slotSide 45 = .ok (.iconst 0, 1) := by decide +kernel
theorem dX4_slotSide_46 : decode cX4_slotSide 46 = .ok (.istore 5, 2) := by decide +kernel
theorem dX4_slotSide_48 : decode cX4_slotSide 48 = .ok (.iload_n 2, 1) := by decide +kernel
theorem dX4_slotSide_49 : decode cX4_slotSide 49 = .ok (.iload_n 3, 1) := by decide +kernel
theorem dX4_slotSide_50 : decode cX4_slotSide 50 = .ok (.iload_n 2, 1) := by decide +kernel
theorem dX4_slotSide_51 : decode cX4_slotSide 51 = .ok (.iconst 2, 1) := by decide +kernel
theorem dX4_slotSide_52 : decode cX4_slotSide 52 = .ok (.iadd, 1) := by decide +kernel
theorem dX4_slotSide_53 : decode cX4_slotSide 53 = .ok (.imul, 1) := by decide +kernel
theorem dX4_slotSide_54 : decode cX4_slotSide 54 = .ok (.iadd, 1) := by decide +kernel
theorem dX4_slotSide_55 : decode cX4_slotSide 55 = .ok (.istore 6, 2) := by decide +kernel
theorem dX4_slotSide_57 : decode cX4_slotSide 57 = .ok (.iload 4, 2) := by decide +kernel
theorem dX4_slotSide_59 : decode cX4_slotSide 59 = .ok (.tableswitch 103 0 2 #[25, 47, 69], 25) := by decide +kernel
theorem dX4_slotSide_84 : decode cX4_slotSide 84 = .ok (.aload_n 0, 1) := by decide +kernel
theorem dX4_slotSide_85 : decode cX4_slotSide 85 = .ok (.getfield 31, 3) := by decide +kernel
theorem dX4_slotSide_88 : decode cX4_slotSide 88 = .ok (.getfield 181, 3) := by decide +kernel
theorem dX4_slotSide_91 : decode cX4_slotSide 91 = .ok (.iload_n 1, 1) := by decide +kernel
theorem dX4_slotSide_92 : decode cX4_slotSide 92 = .ok (.iaload, 1) := by decide +kernel
theorem dX4_slotSide_93 : decode cX4_slotSide 93 = .ok (.iload 5, 2) := by decide +kernel
theorem dX4_slotSide_95 : decode cX4_slotSide 95 = .ok (.ifCond .eq 7, 3) := by decide +kernel
theorem dX4_slotSide_98 : decode cX4_slotSide 98 = .ok (.iload_n 2, 1) := by decide +kernel
theorem dX4_slotSide_99 : decode cX4_slotSide 99 = .ok (.goto 5, 3) := by decide +kernel
theorem dX4_slotSide_102 : decode cX4_slotSide 102 = .ok (.iload 6, 2) := by decide +kernel
theorem dX4_slotSide_104 : decode cX4_slotSide 104 = .ok (.iadd, 1) := by decide +kernel
theorem dX4_slotSide_105 : decode cX4_slotSide 105 = .ok (.ireturn, 1) := by decide +kernel
theorem dX4_slotSide_106 : decode cX4_slotSide 106 = .ok (.aload_n 0, 1) := by decide +kernel
theorem dX4_slotSide_107 : decode cX4_slotSide 107 = .ok (.getfield 31, 3) := by decide +kernel
theorem dX4_slotSide_110 : decode cX4_slotSide 110 = .ok (.getfield 184, 3) := by decide +kernel
theorem dX4_slotSide_113 : decode cX4_slotSide 113 = .ok (.iload_n 1, 1) := by decide +kernel
theorem dX4_slotSide_114 : decode cX4_slotSide 114 = .ok (.iaload, 1) := by decide +kernel
theorem dX4_slotSide_115 : decode cX4_slotSide 115 = .ok (.iload 5, 2) := by decide +kernel
theorem dX4_slotSide_117 : decode cX4_slotSide 117 = .ok (.ifCond .eq 8, 3) := by decide +kernel
theorem dX4_slotSide_120 : decode cX4_slotSide 120 = .ok (.iload 6, 2) := by decide +kernel
theorem dX4_slotSide_122 : decode cX4_slotSide 122 = .ok (.goto 4, 3) := by decide +kernel
theorem dX4_slotSide_125 : decode cX4_slotSide 125 = .ok (.iload_n 2, 1) := by decide +kernel
theorem dX4_slotSide_126 : decode cX4_slotSide 126 = .ok (.iadd, 1) := by decide +kernel
theorem dX4_slotSide_127 : decode cX4_slotSide 127 = .ok (.ireturn, 1) := by decide +kernel
theorem dX4_slotSide_128 : decode cX4_slotSide 128 = .ok (.iload 5, 2) := by decide +kernel
theorem dX4_slotSide_130 : decode cX4_slotSide 130 = .ok (.ifCond .eq 17, 3) := by decide +kernel
theorem dX4_slotSide_133 : decode cX4_slotSide 133 = .ok (.aload_n 0, 1) := by decide +kernel
theorem dX4_slotSide_134 : decode cX4_slotSide 134 = .ok (.getfield 31, 3) := by decide +kernel
theorem dX4_slotSide_137 : decode cX4_slotSide 137 = .ok (.getfield 264, 3) := by decide +kernel
theorem dX4_slotSide_140 : decode cX4_slotSide 140 = .ok (.iload_n 1, 1) := by decide +kernel
theorem dX4_slotSide_141 : decode cX4_slotSide 141 = .ok (.iaload, 1) := by decide +kernel
theorem dX4_slotSide_142 : decode cX4_slotSide 142 = .ok (.iload_n 2, 1) := by decide +kernel
theorem dX4_slotSide_143 : decode cX4_slotSide 143 = .ok (.isub, 1) := by decide +kernel
theorem dX4_slotSide_144 : decode cX4_slotSide 144 = .ok (.goto 17, 3) := by decide +kernel
theorem dX4_slotSide_147 : decode cX4_slotSide 147 = .ok (.aload_n 0, 1) := by decide +kernel
theorem dX4_slotSide_148 : decode cX4_slotSide 148 = .ok (.getfield 31, 3) := by decide +kernel
theorem dX4_slotSide_151 : decode cX4_slotSide 151 = .ok (.getfield 181, 3) := by decide +kernel
theorem dX4_slotSide_154 : decode cX4_slotSide 154 = .ok (.iload_n 1, 1) := by decide +kernel
theorem dX4_slotSide_155 : decode cX4_slotSide 155 = .ok (.iaload, 1) := by decide +kernel
theorem dX4_slotSide_156 : decode cX4_slotSide 156 = .ok (.iload 6, 2) := by decide +kernel
theorem dX4_slotSide_158 : decode cX4_slotSide 158 = .ok (.iadd, 1) := by decide +kernel
theorem dX4_slotSide_159 : decode cX4_slotSide 159 = .ok (.iconst 2, 1) := by decide +kernel
theorem dX4_slotSide_160 : decode cX4_slotSide 160 = .ok (.iadd, 1) := by decide +kernel
theorem dX4_slotSide_161 : decode cX4_slotSide 161 = .ok (.ireturn, 1) := by decide +kernel
theorem dX4_slotSide_162 : decode cX4_slotSide 162 = .ok (.iload 5, 2) := by decide +kernel
theorem dX4_slotSide_164 : decode cX4_slotSide 164 = .ok (.ifCond .eq 20, 3) := by decide +kernel
theorem dX4_slotSide_167 : decode cX4_slotSide 167 = .ok (.aload_n 0, 1) := by decide +kernel
theorem dX4_slotSide_168 : decode cX4_slotSide 168 = .ok (.getfield 31, 3) := by decide +kernel
theorem dX4_slotSide_171 : decode cX4_slotSide 171 = .ok (.getfield 184, 3) := by decide +kernel
theorem dX4_slotSide_174 : decode cX4_slotSide 174 = .ok (.iload_n 1, 1) := by decide +kernel
theorem dX4_slotSide_175 : decode cX4_slotSide 175 = .ok (.iaload, 1) := by decide +kernel
theorem dX4_slotSide_176 : decode cX4_slotSide 176 = .ok (.iload 6, 2) := by decide +kernel
theorem dX4_slotSide_178 : decode cX4_slotSide 178 = .ok (.iadd, 1) := by decide +kernel
theorem dX4_slotSide_179 : decode cX4_slotSide 179 = .ok (.iconst 2, 1) := by decide +kernel
theorem dX4_slotSide_180 : decode cX4_slotSide 180 = .ok (.iadd, 1) := by decide +kernel
theorem dX4_slotSide_181 : decode cX4_slotSide 181 = .ok (.goto 14, 3) := by decide +kernel
theorem dX4_slotSide_184 : decode cX4_slotSide 184 = .ok (.aload_n 0, 1) := by decide +kernel
theorem dX4_slotSide_185 : decode cX4_slotSide 185 = .ok (.getfield 31, 3) := by decide +kernel
theorem dX4_slotSide_188 : decode cX4_slotSide 188 = .ok (.getfield 267, 3) := by decide +kernel
theorem dX4_slotSide_191 : decode cX4_slotSide 191 = .ok (.iload_n 1, 1) := by decide +kernel
theorem dX4_slotSide_192 : decode cX4_slotSide 192 = .ok (.iaload, 1) := by decide +kernel
theorem dX4_slotSide_193 : decode cX4_slotSide 193 = .ok (.iload_n 2, 1) := by decide +kernel
theorem dX4_slotSide_194 : decode cX4_slotSide 194 = .ok (.isub, 1) := by decide +kernel
theorem dX4_slotSide_195 : decode cX4_slotSide 195 = .ok (.ireturn, 1) := by decide +kernel
