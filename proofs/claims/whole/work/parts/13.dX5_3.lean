theorem dX5_common_33 : decode cX5_common 33 = .ok (.lreturn, 1) := by decide +kernel
set_option maxRecDepth 20000 in
theorem ggX5_part_X5_common : GoodIn wsX5_part wsX5_common := goodIn_r _ [4] (by decide +kernel) (by decide +kernel)
set_option maxRecDepth 20000 in
theorem gX5_part_X5_common : GoodIn wsX5_part (va_wsS RX5 146 yX5_common wsX5_common) := goodIn_app (goodIn_of _ (by decide +kernel)) ggX5_part_X5_common
theorem dX5_part_0 : decode cX5_part 0 = .ok (.lload_n 0, 1) := by decide +kernel
theorem dX5_part_1 : decode cX5_part 1 = .ok (.lload_n 2, 1) := by decide +kernel
theorem dX5_part_2 : decode cX5_part 2 = .ok (.invokestatic 146, 3) := by decide +kernel
theorem dX5_part_5 : decode cX5_part 5 = .ok (.lstore 5, 2) := by decide +kernel
theorem dX5_part_7 : decode cX5_part 7 = .ok (.iload 4, 2) := by decide +kernel
theorem dX5_part_9 : decode cX5_part 9 = .ok (.ifCond .ne 10, 3) := by decide +kernel
theorem dX5_part_12 : decode cX5_part 12 = .ok (.lload_n 0, 1) := by decide +kernel
theorem dX5_part_13 : decode cX5_part 13 = .ok (.lload 5, 2) := by decide +kernel
theorem dX5_part_15 : decode cX5_part 15 = .ok (.ldiv, 1) := by decide +kernel
theorem dX5_part_16 : decode cX5_part 16 = .ok (.goto 7, 3) := by decide +kernel
theorem dX5_part_19 : decode cX5_part 19 = .ok (.lload_n 2, 1) := by decide +kernel
theorem dX5_part_20 : decode cX5_part 20 = .ok (.lload 5, 2) := by decide +kernel
theorem dX5_part_22 : decode cX5_part 22 = .ok (.ldiv, 1) := by decide +kernel
theorem dX5_part_23 : decode cX5_part 23 = .ok (.lreturn, 1) := by decide +kernel
set_option maxRecDepth 20000 in
theorem ggX5_ratio_X5_isNet : GoodIn wsX5_ratio wsX5_isNet := goodIn_r _ [7, 8, 63, 64, 65, 66, 67, 68, 69, 70, 71, 72, 73, 74, 75, 76, 77, 78, 79, 80, 81, 82, 83, 84, 85, 86, 87, 88, 89, 90, 91, 92, 93] (by decide +kernel) (by decide +kernel)
set_option maxRecDepth 20000 in
theorem gX5_ratio_X5_isNet : GoodIn wsX5_ratio (wsV RX5 117 RX5 yX5_isNet wsX5_isNet) := goodIn_app (goodIn_of _ (by decide +kernel)) ggX5_ratio_X5_isNet
set_option maxRecDepth 20000 in
theorem ggX5_ratio_X5_isLayer : GoodIn wsX5_ratio wsX5_isLayer := goodIn_r _ [12, 13, 63, 64, 65, 66, 67, 68, 69, 70, 71, 72, 73, 74, 75, 76, 77, 78, 79, 80, 81, 82, 83, 84, 85, 86, 87, 88, 89, 90, 91, 92, 93] (by decide +kernel) (by decide +kernel)
set_option maxRecDepth 20000 in
theorem gX5_ratio_X5_isLayer : GoodIn wsX5_ratio (wsV RX5 121 RX5 yX5_isLayer wsX5_isLayer) := goodIn_app (goodIn_of _ (by decide +kernel)) ggX5_ratio_X5_isLayer
set_option maxRecDepth 20000 in
theorem ggX5_ratio_X5_antenna : GoodIn wsX5_ratio wsX5_antenna := goodIn_r _ [17, 18, 19, 20, 6, 21, 22, 23, 24, 25, 26, 27, 28, 29, 30, 31, 32, 33, 34, 35, 36, 37, 38, 39, 40, 41, 42, 43, 63, 64, 65, 66, 67, 68, 69, 70, 71, 72, 73, 74, 75, 76, 77, 78, 79, 80, 81, 82, 83, 84, 85, 86, 87, 88, 89, 90, 91, 92, 93] (by decide +kernel) (by decide +kernel)
set_option maxRecDepth 20000 in
theorem gX5_ratio_X5_antenna : GoodIn wsX5_ratio (wsV RX5 150 RX5 yX5_antenna wsX5_antenna) := goodIn_app (goodIn_of _ (by decide +kernel)) ggX5_ratio_X5_antenna
set_option maxRecDepth 20000 in
theorem ggX5_ratio_X5_guard : GoodIn wsX5_ratio wsX5_guard := goodIn_r _ [47, 2, 48, 49, 50, 51, 52, 53, 54, 55, 56, 63, 64, 65, 66, 67, 68, 69, 70, 71, 72, 73, 74, 75, 76, 77, 78, 79, 80, 81, 82, 83, 84, 85, 86, 87, 88, 89, 90, 91, 92, 93] (by decide +kernel) (by decide +kernel)
set_option maxRecDepth 20000 in
theorem gX5_ratio_X5_guard : GoodIn wsX5_ratio (wsV RX5 154 RX5 yX5_guard wsX5_guard) := goodIn_app (goodIn_of _ (by decide +kernel)) ggX5_ratio_X5_guard
set_option maxRecDepth 20000 in
theorem ggX5_ratio_X5_part : GoodIn wsX5_ratio wsX5_part := goodIn_r _ [59, 60, 61, 6, 62] (by decide +kernel) (by decide +kernel)
set_option maxRecDepth 20000 in
theorem gX5_ratio_X5_part : GoodIn wsX5_ratio (va_wsS RX5 157 yX5_part wsX5_part) := goodIn_app (goodIn_of _ (by decide +kernel)) ggX5_ratio_X5_part
theorem dX5_ratio_0 : decode cX5_ratio 0 = .ok (.aload_n 0, 1) := by decide +kernel
theorem dX5_ratio_1 : decode cX5_ratio 1 = .ok (.aload_n 0, 1) := by decide +kernel
theorem dX5_ratio_2 : decode cX5_ratio 2 = .ok (.iload_n 1, 1) := by decide +kernel
theorem dX5_ratio_3 : decode cX5_ratio 3 = .ok (.invokevirtual 117, 3) := by decide +kernel
theorem dX5_ratio_6 : decode cX5_ratio 6 = .ok (.ifCond .eq 20, 3) := by decide +kernel
theorem dX5_ratio_9 : decode cX5_ratio 9 = .ok (.aload_n 0, 1) := by decide +kernel
theorem dX5_ratio_10 : decode cX5_ratio 10 = .ok (.iload_n 2, 1) := by decide +kernel
theorem dX5_ratio_11 : decode cX5_ratio 11 = .ok (.invokevirtual 121, 3) := by decide +kernel
theorem dX5_ratio_14 : decode cX5_ratio 14 = .ok (.ifCond .eq 12, 3) := by decide +kernel
theorem dX5_ratio_17 : decode cX5_ratio 17 = .ok (.iload_n 3, 1) := by decide +kernel
theorem dX5_ratio_18 : decode cX5_ratio 18 = .ok (.ifCond .lt 8, 3) := by decide +kernel
theorem dX5_ratio_21 : decode cX5_ratio 21 = .ok (.iload_n 3, 1) := by decide +kernel
theorem dX5_ratio_22 : decode cX5_ratio 22 = .ok (.iconst 1, 1) := by decide +kernel
theorem dX5_ratio_23 : decode cX5_ratio 23 = .ok (.if_icmp .le 7, 3) := by decide +kernel
theorem dX5_ratio_26 : decode cX5_ratio 26 = .ok (.iconst 1, 1) := by decide +kernel
theorem dX5_ratio_27 : decode cX5_ratio 27 = .ok (.goto 4, 3) := by decide +kernel
theorem dX5_ratio_30 : decode cX5_ratio 30 = .ok (.iconst 0, 1) := by decide +kernel
theorem dX5_ratio_31 : decode cX5_ratio 31 = .ok (.putfield 84, 3) := by decide +kernel
theorem dX5_ratio_34 : decode cX5_ratio 34 = .ok (.aload_n 0, 1) := by decide +kernel
theorem dX5_ratio_35 : decode cX5_ratio 35 = .ok (.getfield 84, 3) := by decide +kernel
theorem dX5_ratio_38 : decode cX5_ratio 38 = .ok (.ifCond .le 5, 3) := by decide +kernel
theorem dX5_ratio_41 : decode cX5_ratio 41 = .ok (.lconst 0, 1) := by decide +kernel
theorem dX5_ratio_42 : decode cX5_ratio 42 = .ok (.lreturn, 1) := by decide +kernel
theorem dX5_ratio_43 : decode cX5_ratio 43 = .ok (.aload_n 0, 1) := by decide +kernel
theorem dX5_ratio_44 : decode cX5_ratio 44 = .ok (.getfield 7, 3) := by decide +kernel
theorem dX5_ratio_47 : decode cX5_ratio 47 = .ok (.iload_n 1, 1) := by decide +kernel
theorem dX5_ratio_48 : decode cX5_ratio 48 = .ok (.laload, 1) := by decide +kernel
theorem dX5_ratio_49 : decode cX5_ratio 49 = .ok (.lconst 0, 1) := by decide +kernel
theorem dX5_ratio_50 : decode cX5_ratio 50 = .ok (.lcmp, 1) := by decide +kernel
theorem dX5_ratio_51 : decode cX5_ratio 51 = .ok (.ifCond .ne 8, 3) := by decide +kernel
theorem dX5_ratio_54 : decode cX5_ratio 54 = .ok (.iload_n 3, 1) := by decide +kernel
theorem dX5_ratio_55 : decode cX5_ratio 55 = .ok (.i2l, 1) := by decide +kernel
theorem dX5_ratio_56 : decode cX5_ratio 56 = .ok (.goto 19, 3) := by decide +kernel
theorem dX5_ratio_59 : decode cX5_ratio 59 = .ok (.aload_n 0, 1) := by decide +kernel
theorem dX5_ratio_60 : decode cX5_ratio 60 = .ok (.iload_n 1, 1) := by decide +kernel
theorem dX5_ratio_61 : decode cX5_ratio 61 = .ok (.iload_n 2, 1) := by decide +kernel
theorem dX5_ratio_62 : decode cX5_ratio 62 = .ok (.invokevirtual 150, 3) := by decide +kernel
theorem dX5_ratio_65 : decode cX5_ratio 65 = .ok (.aload_n 0, 1) := by decide +kernel
theorem dX5_ratio_66 : decode cX5_ratio 66 = .ok (.iload_n 1, 1) := by decide +kernel
theorem dX5_ratio_67 : decode cX5_ratio 67 = .ok (.iload_n 2, 1) := by decide +kernel
theorem dX5_ratio_68 : decode cX5_ratio 68 = .ok (.invokevirtual 154, 3) := by decide +kernel
theorem dX5_ratio_71 : decode cX5_ratio 71 = .ok (.iload_n 3, 1) := by decide +kernel
theorem dX5_ratio_72 : decode cX5_ratio 72 = .ok (.invokestatic 157, 3) := by decide +kernel
theorem dX5_ratio_75 : decode cX5_ratio 75 = .ok (.lreturn, 1) := by decide +kernel
set_option maxRecDepth 20000 in
theorem ggX5_limit_X5_isLayer : GoodIn wsX5_limit wsX5_isLayer := goodIn_r _ [9, 10, 11, 12, 13, 14, 15, 16, 17, 18, 19, 20, 21, 22, 23, 24, 25, 26, 27, 28, 29, 30, 31, 32, 33, 34, 35, 36, 37, 38, 39, 40, 41] (by decide +kernel) (by decide +kernel)
set_option maxRecDepth 20000 in
theorem gX5_limit_X5_isLayer : GoodIn wsX5_limit (wsV RX5 121 RX5 yX5_isLayer wsX5_isLayer) := goodIn_app (goodIn_of _ (by decide +kernel)) ggX5_limit_X5_isLayer
theorem dX5_limit_0 : decode cX5_limit 0 = .ok (.aload_n 0, 1) := by decide +kernel
theorem dX5_limit_1 : decode cX5_limit 1 = .ok (.aload_n 0, 1) := by decide +kernel
theorem dX5_limit_2 : decode cX5_limit 2 = .ok (.iload_n 1, 1) := by decide +kernel
theorem dX5_limit_3 : decode cX5_limit 3 = .ok (.invokevirtual 121, 3) := by decide +kernel
theorem dX5_limit_6 : decode cX5_limit 6 = .ok (.ifCond .ne 7, 3) := by decide +kernel
theorem dX5_limit_9 : decode cX5_limit 9 = .ok (.iconst 1, 1) := by decide +kernel
theorem dX5_limit_10 : decode cX5_limit 10 = .ok (.goto 38, 3) := by decide +kernel
theorem dX5_limit_13 : decode cX5_limit 13 = .ok (.lload_n 2, 1) := by decide +kernel
theorem dX5_limit_14 : decode cX5_limit 14 = .ok (.lconst 0, 1) := by decide +kernel
theorem dX5_limit_15 : decode cX5_limit 15 = .ok (.lcmp, 1) := by decide +kernel
theorem dX5_limit_16 : decode cX5_limit 16 = .ok (.ifCond .lt 27, 3) := by decide +kernel
theorem dX5_limit_19 : decode cX5_limit 19 = .ok (.lload_n 2, 1) := by decide +kernel
theorem dX5_limit_20 : decode cX5_limit 20 = .ok (.ldc2_w 132, 3) := by decide +kernel
theorem dX5_limit_23 : decode cX5_limit 23 = .ok (.lcmp, 1) := by decide +kernel
theorem dX5_limit_24 : decode cX5_limit 24 = .ok (.ifCond .gt 19, 3) := by decide +kernel
theorem dX5_limit_27 : decode cX5_limit 27 = .ok (.lload 4, 2) := by decide +kernel
theorem dX5_limit_29 : decode cX5_limit 29 = .ok (.lconst 1, 1) := by decide +kernel
theorem dX5_limit_30 : decode cX5_limit 30 = .ok (.lcmp, 1) := by decide +kernel
theorem dX5_limit_31 : decode cX5_limit 31 = .ok (.ifCond .lt 12, 3) := by decide +kernel
theorem dX5_limit_34 : decode cX5_limit 34 = .ok (.lload 4, 2) := by decide +kernel
theorem dX5_limit_36 : decode cX5_limit 36 = .ok (.ldc2_w 132, 3) := by decide +kernel
theorem dX5_limit_39 : decode cX5_limit 39 = .ok (.lcmp, 1) := by decide +kernel
theorem dX5_limit_40 : decode cX5_limit 40 = .ok (.ifCond .le 7, 3) := by decide +kernel
theorem dX5_limit_43 : decode cX5_limit 43 = .ok (.iconst 2, 1) := by decide +kernel
theorem dX5_limit_44 : decode cX5_limit 44 = .ok (.goto 4, 3) := by decide +kernel
theorem dX5_limit_47 : decode cX5_limit 47 = .ok (.iconst 0, 1) := by decide +kernel
theorem dX5_limit_48 : decode cX5_limit 48 = .ok (.putfield 84, 3) := by decide +kernel
theorem dX5_limit_51 : decode cX5_limit 51 = .ok (.aload_n 0, 1) := by decide +kernel
theorem dX5_limit_52 : decode cX5_limit 52 = .ok (.getfield 84, 3) := by decide +kernel
theorem dX5_limit_55 : decode cX5_limit 55 = .ok (.ifCond .le 5, 3) := by decide +kernel
theorem dX5_limit_58 : decode cX5_limit 58 = .ok (.iconst 0, 1) := by decide +kernel
theorem dX5_limit_59 : decode cX5_limit 59 = .ok (.ireturn, 1) := by decide +kernel
theorem dX5_limit_60 : decode cX5_limit 60 = .ok (.aload_n 0, 1) := by decide +kernel
theorem dX5_limit_61 : decode cX5_limit 61 = .ok (.getfield 47, 3) := by decide +kernel
theorem dX5_limit_64 : decode cX5_limit 64 = .ok (.iload_n 1, 1) := by decide +kernel
theorem dX5_limit_65 : decode cX5_limit 65 = .ok (.laload, 1) := by decide +kernel
theorem dX5_limit_66 : decode cX5_limit 66 = .ok (.lconst 0, 1) := by decide +kernel
theorem dX5_limit_67 : decode cX5_limit 67 = .ok (.lcmp, 1) := by decide +kernel
theorem dX5_limit_68 : decode cX5_limit 68 = .ok (.ifCond .eq 24, 3) := by decide +kernel
theorem dX5_limit_71 : decode cX5_limit 71 = .ok (.aload_n 0, 1) := by decide +kernel
theorem dX5_limit_72 : decode cX5_limit 72 = .ok (.getfield 44, 3) := by decide +kernel
theorem dX5_limit_75 : decode cX5_limit 75 = .ok (.iload_n 1, 1) := by decide +kernel
theorem dX5_limit_76 : decode cX5_limit 76 = .ok (.laload, 1) := by decide +kernel
theorem dX5_limit_77 : decode cX5_limit 77 = .ok (.lload 4, 2) := by decide +kernel
theorem dX5_limit_79 : decode cX5_limit 79 = .ok (.lmul, 1) := by decide +kernel
theorem dX5_limit_80 : decode cX5_limit 80 = .ok (.lload_n 2, 1) := by decide +kernel
theorem dX5_limit_81 : decode cX5_limit 81 = .ok (.aload_n 0, 1) := by decide +kernel
theorem dX5_limit_82 : decode cX5_limit 82 = .ok (.getfield 47, 3) := by decide +kernel
theorem dX5_limit_85 : decode cX5_limit 85 = .ok (.iload_n 1, 1) := by decide +kernel
theorem dX5_limit_86 : decode cX5_limit 86 = .ok (.laload, 1) := by decide +kernel
theorem dX5_limit_87 : decode cX5_limit 87 = .ok (.lmul, 1) := by decide +kernel
theorem dX5_limit_88 : decode cX5_limit 88 = .ok (.lcmp, 1) := by decide +kernel
theorem dX5_limit_89 : decode cX5_limit 89 = .ok (.ifCond .eq 7, 3) := by decide +kernel
theorem dX5_limit_92 : decode cX5_limit 92 = .ok (.iconst 1, 1) := by decide +kernel
theorem dX5_limit_93 : decode cX5_limit 93 = .ok (.goto 4, 3) := by decide +kernel
theorem dX5_limit_96 : decode cX5_limit 96 = .ok (.iconst 0, 1) := by decide +kernel
theorem dX5_limit_97 : decode cX5_limit 97 = .ok (.istore 6, 2) := by decide +kernel
theorem dX5_limit_99 : decode cX5_limit 99 = .ok (.aload_n 0, 1) := by decide +kernel
theorem dX5_limit_100 : decode cX5_limit 100 = .ok (.getfield 44, 3) := by decide +kernel
theorem dX5_limit_103 : decode cX5_limit 103 = .ok (.iload_n 1, 1) := by decide +kernel
theorem dX5_limit_104 : decode cX5_limit 104 = .ok (.lload_n 2, 1) := by decide +kernel
theorem dX5_limit_105 : decode cX5_limit 105 = .ok (.lastore, 1) := by decide +kernel
theorem dX5_limit_106 : decode cX5_limit 106 = .ok (.aload_n 0, 1) := by decide +kernel
theorem dX5_limit_107 : decode cX5_limit 107 = .ok (.getfield 47, 3) := by decide +kernel
theorem dX5_limit_110 : decode cX5_limit 110 = .ok (.iload_n 1, 1) := by decide +kernel
theorem dX5_limit_111 : decode cX5_limit 111 = .ok (.lload 4, 2) := by decide +kernel
theorem dX5_limit_113 : decode cX5_limit 113 = .ok (.lastore, 1) := by decide +kernel
theorem dX5_limit_114 : decode cX5_limit 114 = .ok (.iload 6, 2) := by decide +kernel
theorem dX5_limit_116 : decode cX5_limit 116 = .ok (.ireturn, 1) := by decide +kernel
set_option maxRecDepth 20000 in
theorem ggX5_isOver_X5_guard : GoodIn wsX5_isOver wsX5_guard := goodIn_r _ [8, 1, 9, 10, 11, 12, 13, 14, 15, 16, 17, 18, 19, 20, 21, 22, 23, 24, 25, 26, 27, 28, 29, 30, 31, 32, 33, 34, 35, 36, 37, 38, 39, 40, 41, 42, 43, 44, 45, 46, 47, 48] (by decide +kernel) (by decide +kernel)
set_option maxRecDepth 20000 in
theorem gX5_isOver_X5_guard : GoodIn wsX5_isOver (wsV RX5 154 RX5 yX5_guard wsX5_guard) := goodIn_app (goodIn_of _ (by decide +kernel)) ggX5_isOver_X5_guard
theorem dX5_isOver_0 : decode cX5_isOver 0 = .ok (.aload_n 0, 1) := by decide +kernel
theorem dX5_isOver_1 : decode cX5_isOver 1 = .ok (.getfield 7, 3) := by decide +kernel
theorem dX5_isOver_4 : decode cX5_isOver 4 = .ok (.iload_n 1, 1) := by decide +kernel
theorem dX5_isOver_5 : decode cX5_isOver 5 = .ok (.laload, 1) := by decide +kernel
theorem dX5_isOver_6 : decode cX5_isOver 6 = .ok (.lconst 0, 1) := by decide +kernel
theorem dX5_isOver_7 : decode cX5_isOver 7 = .ok (.lcmp, 1) := by decide +kernel
theorem dX5_isOver_8 : decode cX5_isOver 8 = .ok (.ifCond .le 43, 3) := by decide +kernel
theorem dX5_isOver_11 : decode cX5_isOver 11 = .ok (.aload_n 0, 1) := by decide +kernel
theorem dX5_isOver_12 : decode cX5_isOver 12 = .ok (.getfield 47, 3) := by decide +kernel
theorem dX5_isOver_15 : decode cX5_isOver 15 = .ok (.iload_n 2, 1) := by decide +kernel
theorem dX5_isOver_16 : decode cX5_isOver 16 = .ok (.laload, 1) := by decide +kernel
theorem dX5_isOver_17 : decode cX5_isOver 17 = .ok (.lconst 0, 1) := by decide +kernel
theorem dX5_isOver_18 : decode cX5_isOver 18 = .ok (.lcmp, 1) := by decide +kernel
theorem dX5_isOver_19 : decode cX5_isOver 19 = .ok (.ifCond .le 32, 3) := by decide +kernel
theorem dX5_isOver_22 : decode cX5_isOver 22 = .ok (.lload_n 3, 1) := by decide +kernel
theorem dX5_isOver_23 : decode cX5_isOver 23 = .ok (.aload_n 0, 1) := by decide +kernel
theorem dX5_isOver_24 : decode cX5_isOver 24 = .ok (.getfield 47, 3) := by decide +kernel
theorem dX5_isOver_27 : decode cX5_isOver 27 = .ok (.iload_n 2, 1) := by decide +kernel
theorem dX5_isOver_28 : decode cX5_isOver 28 = .ok (.laload, 1) := by decide +kernel
theorem dX5_isOver_29 : decode cX5_isOver 29 = .ok (.lmul, 1) := by decide +kernel
theorem dX5_isOver_30 : decode cX5_isOver 30 = .ok (.aload_n 0, 1) := by decide +kernel
theorem dX5_isOver_31 : decode cX5_isOver 31 = .ok (.getfield 44, 3) := by decide +kernel
theorem dX5_isOver_34 : decode cX5_isOver 34 = .ok (.iload_n 2, 1) := by decide +kernel
theorem dX5_isOver_35 : decode cX5_isOver 35 = .ok (.laload, 1) := by decide +kernel
theorem dX5_isOver_36 : decode cX5_isOver 36 = .ok (.aload_n 0, 1) := by decide +kernel
theorem dX5_isOver_37 : decode cX5_isOver 37 = .ok (.iload_n 1, 1) := by decide +kernel
theorem dX5_isOver_38 : decode cX5_isOver 38 = .ok (.iload_n 2, 1) := by decide +kernel
theorem dX5_isOver_39 : decode cX5_isOver 39 = .ok (.invokevirtual 154, 3) := by decide +kernel
theorem dX5_isOver_42 : decode cX5_isOver 42 = .ok (.lmul, 1) := by decide +kernel
theorem dX5_isOver_43 : decode cX5_isOver 43 = .ok (.lcmp, 1) := by decide +kernel
theorem dX5_isOver_44 : decode cX5_isOver 44 = .ok (.ifCond .le 7, 3) := by decide +kernel
theorem dX5_isOver_47 : decode cX5_isOver 47 = .ok (.iconst 1, 1) := by decide +kernel
theorem dX5_isOver_48 : decode cX5_isOver 48 = .ok (.goto 4, 3) := by decide +kernel
theorem dX5_isOver_51 : decode cX5_isOver 51 = .ok (.iconst 0, 1) := by decide +kernel
theorem dX5_isOver_52 : decode cX5_isOver 52 = .ok (.ireturn, 1) := by decide +kernel
set_option maxRecDepth 20000 in
theorem ggX5_bar_X5_mark : GoodIn wsX5_bar wsX5_mark := goodIn_r _ [5, 6, 7, 8, 4, 9] (by decide +kernel) (by decide +kernel)
set_option maxRecDepth 20000 in
theorem gX5_bar_X5_mark : GoodIn wsX5_bar (va_wsS RX5 109 yX5_mark wsX5_mark) := goodIn_app (goodIn_of _ (by decide +kernel)) ggX5_bar_X5_mark
theorem dX5_bar_0 : decode cX5_bar 0 = .ok (.aload_n 0, 1) := by decide +kernel
theorem dX5_bar_1 : decode cX5_bar 1 = .ok (.getfield 74, 3) := by decide +kernel
theorem dX5_bar_4 : decode cX5_bar 4 = .ok (.iload_n 1, 1) := by decide +kernel
theorem dX5_bar_5 : decode cX5_bar 5 = .ok (.iconst 5, 1) := by decide +kernel
theorem dX5_bar_6 : decode cX5_bar 6 = .ok (.isub, 1) := by decide +kernel
theorem dX5_bar_7 : decode cX5_bar 7 = .ok (.iload_n 2, 1) := by decide +kernel
theorem dX5_bar_8 : decode cX5_bar 8 = .ok (.iconst 5, 1) := by decide +kernel
theorem dX5_bar_9 : decode cX5_bar 9 = .ok (.isub, 1) := by decide +kernel
theorem dX5_bar_10 : decode cX5_bar 10 = .ok (.iload_n 3, 1) := by decide +kernel
theorem dX5_bar_11 : decode cX5_bar 11 = .ok (.iconst 2, 1) := by decide +kernel
theorem dX5_bar_12 : decode cX5_bar 12 = .ok (.iadd, 1) := by decide +kernel
theorem dX5_bar_13 : decode cX5_bar 13 = .ok (.iload 4, 2) := by decide +kernel
theorem dX5_bar_15 : decode cX5_bar 15 = .ok (.iconst 2, 1) := by decide +kernel
theorem dX5_bar_16 : decode cX5_bar 16 = .ok (.iadd, 1) := by decide +kernel
theorem dX5_bar_17 : decode cX5_bar 17 = .ok (.invokestatic 109, 3) := by decide +kernel
theorem dX5_bar_20 : decode cX5_bar 20 = .ok (.return_, 1) := by decide +kernel
set_option maxRecDepth 20000 in
theorem ggX5_findBarred_X5_clear : GoodIn wsX5_findBarred wsX5_clear := goodIn_r _ [16] (by decide +kernel) (by decide +kernel)
set_option maxRecDepth 20000 in
theorem gX5_findBarred_X5_clear : GoodIn wsX5_findBarred (va_wsS RX5 105 yX5_clear wsX5_clear) := goodIn_app (goodIn_of _ (by decide +kernel)) ggX5_findBarred_X5_clear
set_option maxRecDepth 20000 in
theorem ggX5_findBarred_X5_mark : GoodIn wsX5_findBarred wsX5_mark := goodIn_r _ [19, 20, 21, 22, 15, 23] (by decide +kernel) (by decide +kernel)
set_option maxRecDepth 20000 in
theorem gX5_findBarred_X5_mark : GoodIn wsX5_findBarred (va_wsS RX5 109 yX5_mark wsX5_mark) := goodIn_app (goodIn_of _ (by decide +kernel)) ggX5_findBarred_X5_mark
set_option maxRecDepth 20000 in
theorem ggX5_findBarred_X5_bar : GoodIn wsX5_findBarred wsX5_bar := goodIn_r _ [27, 1, 17, 18, 15, 19, 20, 21, 22, 23, 28, 29, 30, 31, 32, 33, 34, 35, 36, 37, 38, 39, 40, 41, 42, 43, 44, 45, 46, 47, 48, 49, 50, 51, 52, 53, 54, 55, 56, 57, 58] (by decide +kernel) (by decide +kernel)
set_option maxRecDepth 20000 in
theorem gX5_findBarred_X5_bar : GoodIn wsX5_findBarred (wsV RX5 161 RX5 yX5_bar wsX5_bar) := goodIn_app (goodIn_of _ (by decide +kernel)) ggX5_findBarred_X5_bar
theorem dX5_findBarred_0 : decode cX5_findBarred 0 = .ok (.aload_n 0, 1) := by decide +kernel
theorem dX5_findBarred_1 : decode cX5_findBarred 1 = .ok (.getfield 74, 3) := by decide +kernel
theorem dX5_findBarred_4 : decode cX5_findBarred 4 = .ok (.invokestatic 105, 3) := by decide +kernel
theorem dX5_findBarred_7 : decode cX5_findBarred 7 = .ok (.aload_n 0, 1) := by decide +kernel
theorem dX5_findBarred_8 : decode cX5_findBarred 8 = .ok (.getfield 74, 3) := by decide +kernel
theorem dX5_findBarred_11 : decode cX5_findBarred 11 = .ok (.iconst 0, 1) := by decide +kernel
theorem dX5_findBarred_12 : decode cX5_findBarred 12 = .ok (.iconst 0, 1) := by decide +kernel
theorem dX5_findBarred_13 : decode cX5_findBarred 13 = .ok (.iconst 2, 1) := by decide +kernel
theorem dX5_findBarred_14 : decode cX5_findBarred 14 = .ok (.sipush 1000, 3) := by decide +kernel
theorem dX5_findBarred_17 : decode cX5_findBarred 17 = .ok (.invokestatic 109, 3) := by decide +kernel
theorem dX5_findBarred_20 : decode cX5_findBarred 20 = .ok (.aload_n 0, 1) := by decide +kernel
theorem dX5_findBarred_21 : decode cX5_findBarred 21 = .ok (.getfield 74, 3) := by decide +kernel
theorem dX5_findBarred_24 : decode cX5_findBarred 24 = .ok (.sipush 995, 3) := by decide +kernel
theorem dX5_findBarred_27 : decode cX5_findBarred 27 = .ok (.iconst 0, 1) := by decide +kernel
theorem dX5_findBarred_28 : decode cX5_findBarred 28 = .ok (.sipush 1000, 3) := by decide +kernel
theorem dX5_findBarred_31 : decode cX5_findBarred 31 = .ok (.sipush 1000, 3) := by decide +kernel
theorem dX5_findBarred_34 : decode cX5_findBarred 34 = .ok (.invokestatic 109, 3) := by decide +kernel
theorem dX5_findBarred_37 : decode cX5_findBarred 37 = .ok (.aload_n 0, 1) := by decide +kernel
theorem dX5_findBarred_38 : decode cX5_findBarred 38 = .ok (.getfield 74, 3) := by decide +kernel
theorem dX5_findBarred_41 : decode cX5_findBarred 41 = .ok (.iconst 0, 1) := by decide +kernel
theorem dX5_findBarred_42 : decode cX5_findBarred 42 = .ok (.iconst 0, 1) := by decide +kernel
theorem dX5_findBarred_43 : decode cX5_findBarred 43 = .ok (.sipush 1000, 3) := by decide +kernel
theorem dX5_findBarred_46 : decode cX5_findBarred 46 = .ok (.iconst 2, 1) := by decide +kernel
theorem dX5_findBarred_47 : decode cX5_findBarred 47 = .ok (.invokestatic 109, 3) := by decide +kernel
theorem dX5_findBarred_50 : decode cX5_findBarred 50 = .ok (.aload_n 0, 1) := by decide +kernel
theorem dX5_findBarred_51 : decode cX5_findBarred 51 = .ok (.getfield 74, 3) := by decide +kernel
theorem dX5_findBarred_54 : decode cX5_findBarred 54 = .ok (.iconst 0, 1) := by decide +kernel
theorem dX5_findBarred_55 : decode cX5_findBarred 55 = .ok (.sipush 995, 3) := by decide +kernel
theorem dX5_findBarred_58 : decode cX5_findBarred 58 = .ok (.sipush 1000, 3) := by decide +kernel
theorem dX5_findBarred_61 : decode cX5_findBarred 61 = .ok (.sipush 1000, 3) := by decide +kernel
theorem dX5_findBarred_64 : decode cX5_findBarred 64 = .ok (.invokestatic 109, 3) := by decide +kernel
theorem dX5_findBarred_67 : decode cX5_findBarred 67 = .ok (.iconst 0, 1) := by decide +kernel
theorem dX5_findBarred_68 : decode cX5_findBarred 68 = .ok (.istore_n 1, 1) := by decide +kernel
theorem dX5_findBarred_69 : decode cX5_findBarred 69 = .ok (.iload_n 1, 1) := by decide +kernel
theorem dX5_findBarred_70 : decode cX5_findBarred 70 = .ok (.aload_n 0, 1) := by decide +kernel
theorem dX5_findBarred_71 : decode cX5_findBarred 71 = .ok (.getfield 102, 3) := by decide +kernel
theorem dX5_findBarred_74 : decode cX5_findBarred 74 = .ok (.if_icmp .ge 60, 3) := by decide +kernel
theorem dX5_findBarred_77 : decode cX5_findBarred 77 = .ok (.aload_n 0, 1) := by decide +kernel
theorem dX5_findBarred_78 : decode cX5_findBarred 78 = .ok (.getfield 17, 3) := by decide +kernel
theorem dX5_findBarred_81 : decode cX5_findBarred 81 = .ok (.iload_n 1, 1) := by decide +kernel
theorem dX5_findBarred_82 : decode cX5_findBarred 82 = .ok (.iaload, 1) := by decide +kernel
theorem dX5_findBarred_83 : decode cX5_findBarred 83 = .ok (.ifCond .ne 45, 3) := by decide +kernel
theorem dX5_findBarred_86 : decode cX5_findBarred 86 = .ok (.aload_n 0, 1) := by decide +kernel
theorem dX5_findBarred_87 : decode cX5_findBarred 87 = .ok (.aload_n 0, 1) := by decide +kernel
theorem dX5_findBarred_88 : decode cX5_findBarred 88 = .ok (.getfield 20, 3) := by decide +kernel
theorem dX5_findBarred_91 : decode cX5_findBarred 91 = .ok (.iconst 4, 1) := by decide +kernel
theorem dX5_findBarred_92 : decode cX5_findBarred 92 = .ok (.iload_n 1, 1) := by decide +kernel
theorem dX5_findBarred_93 : decode cX5_findBarred 93 = .ok (.imul, 1) := by decide +kernel
theorem dX5_findBarred_94 : decode cX5_findBarred 94 = .ok (.iaload, 1) := by decide +kernel
theorem dX5_findBarred_95 : decode cX5_findBarred 95 = .ok (.aload_n 0, 1) := by decide +kernel
theorem dX5_findBarred_96 : decode cX5_findBarred 96 = .ok (.getfield 20, 3) := by decide +kernel
theorem dX5_findBarred_99 : decode cX5_findBarred 99 = .ok (.iconst 4, 1) := by decide +kernel
theorem dX5_findBarred_100 : decode cX5_findBarred 100 = .ok (.iload_n 1, 1) := by decide +kernel
theorem dX5_findBarred_101 : decode cX5_findBarred 101 = .ok (.imul, 1) := by decide +kernel
theorem dX5_findBarred_102 : decode cX5_findBarred 102 = .ok (.iconst 1, 1) := by decide +kernel
theorem dX5_findBarred_103 : decode cX5_findBarred 103 = .ok (.iadd, 1) := by decide +kernel
theorem dX5_findBarred_104 : decode cX5_findBarred 104 = .ok (.iaload, 1) := by decide +kernel
theorem dX5_findBarred_105 : decode cX5_findBarred 105 = .ok (.aload_n 0, 1) := by decide +kernel
theorem dX5_findBarred_106 : decode cX5_findBarred 106 = .ok (.getfield 20, 3) := by decide +kernel
theorem dX5_findBarred_109 : decode cX5_findBarred 109 = .ok (.iconst 4, 1) := by decide +kernel
theorem dX5_findBarred_110 : decode cX5_findBarred 110 = .ok (.iload_n 1, 1) := by decide +kernel
theorem dX5_findBarred_111 : decode cX5_findBarred 111 = .ok (.imul, 1) := by decide +kernel
theorem dX5_findBarred_112 : decode cX5_findBarred 112 = .ok (.iconst 2, 1) := by decide +kernel
theorem dX5_findBarred_113 : decode cX5_findBarred 113 = .ok (.iadd, 1) := by decide +kernel
theorem dX5_findBarred_114 : decode cX5_findBarred 114 = .ok (.iaload, 1) := by decide +kernel
theorem dX5_findBarred_115 : decode cX5_findBarred 115 = .ok (.aload_n 0, 1) := by decide +kernel
theorem dX5_findBarred_116 : decode cX5_findBarred 116 = .ok (.getfield 20, 3) := by decide +kernel
theorem dX5_findBarred_119 : decode cX5_findBarred 119 = .ok (.iconst 4, 1) := by decide +kernel
theorem dX5_findBarred_120 : decode cX5_findBarred 120 = .ok (.iload_n 1, 1) := by decide +kernel
theorem dX5_findBarred_121 : decode cX5_findBarred 121 = .ok (.imul, 1) := by decide +kernel
theorem dX5_findBarred_122 : decode cX5_findBarred 122 = .ok (.iconst 3, 1) := by decide +kernel
theorem dX5_findBarred_123 : decode cX5_findBarred 123 = .ok (.iadd, 1) := by decide +kernel
theorem dX5_findBarred_124 : decode cX5_findBarred 124 = .ok (.iaload, 1) := by decide +kernel
theorem dX5_findBarred_125 : decode cX5_findBarred 125 = .ok (.invokevirtual 161, 3) := by decide +kernel
theorem dX5_findBarred_128 : decode cX5_findBarred 128 = .ok (.iinc 1 1, 3) := by decide +kernel
theorem dX5_findBarred_131 : decode cX5_findBarred 131 = .ok (.goto (-62), 3) := by decide +kernel
theorem dX5_findBarred_134 : decode cX5_findBarred 134 = .ok (.iconst 0, 1) := by decide +kernel
theorem dX5_findBarred_135 : decode cX5_findBarred 135 = .ok (.istore_n 1, 1) := by decide +kernel
theorem dX5_findBarred_136 : decode cX5_findBarred 136 = .ok (.iload_n 1, 1) := by decide +kernel
theorem dX5_findBarred_137 : decode cX5_findBarred 137 = .ok (.aload_n 0, 1) := by decide +kernel
theorem dX5_findBarred_138 : decode cX5_findBarred 138 = .ok (.getfield 139, 3) := by decide +kernel
theorem dX5_findBarred_141 : decode cX5_findBarred 141 = .ok (.if_icmp .ge 41, 3) := by decide +kernel
theorem dX5_findBarred_144 : decode cX5_findBarred 144 = .ok (.aload_n 0, 1) := by decide +kernel
theorem dX5_findBarred_145 : decode cX5_findBarred 145 = .ok (.aload_n 0, 1) := by decide +kernel
theorem dX5_findBarred_146 : decode cX5_findBarred 146 = .ok (.getfield 38, 3) := by decide +kernel
theorem dX5_findBarred_149 : decode cX5_findBarred 149 = .ok (.iload_n 1, 1) := by decide +kernel
theorem dX5_findBarred_150 : decode cX5_findBarred 150 = .ok (.iaload, 1) := by decide +kernel
theorem dX5_findBarred_151 : decode cX5_findBarred 151 = .ok (.aload_n 0, 1) := by decide +kernel
theorem dX5_findBarred_152 : decode cX5_findBarred 152 = .ok (.getfield 41, 3) := by decide +kernel
theorem dX5_findBarred_155 : decode cX5_findBarred 155 = .ok (.iload_n 1, 1) := by decide +kernel
theorem dX5_findBarred_156 : decode cX5_findBarred 156 = .ok (.iaload, 1) := by decide +kernel
theorem dX5_findBarred_157 : decode cX5_findBarred 157 = .ok (.aload_n 0, 1) := by decide +kernel
theorem dX5_findBarred_158 : decode cX5_findBarred 158 = .ok (.getfield 38, 3) := by decide +kernel
theorem dX5_findBarred_161 : decode cX5_findBarred 161 = .ok (.iload_n 1, 1) := by decide +kernel
theorem dX5_findBarred_162 : decode cX5_findBarred 162 = .ok (.iaload, 1) := by decide +kernel
theorem dX5_findBarred_163 : decode cX5_findBarred 163 = .ok (.iconst 4, 1) := by decide +kernel
theorem dX5_findBarred_164 : decode cX5_findBarred 164 = .ok (.iadd, 1) := by decide +kernel
theorem dX5_findBarred_165 : decode cX5_findBarred 165 = .ok (.aload_n 0, 1) := by decide +kernel
theorem dX5_findBarred_166 : decode cX5_findBarred 166 = .ok (.getfield 41, 3) := by decide +kernel
theorem dX5_findBarred_169 : decode cX5_findBarred 169 = .ok (.iload_n 1, 1) := by decide +kernel
theorem dX5_findBarred_170 : decode cX5_findBarred 170 = .ok (.iaload, 1) := by decide +kernel
theorem dX5_findBarred_171 : decode cX5_findBarred 171 = .ok (.iconst 4, 1) := by decide +kernel
theorem dX5_findBarred_172 : decode cX5_findBarred 172 = .ok (.iadd, 1) := by decide +kernel
theorem dX5_findBarred_173 : decode cX5_findBarred 173 = .ok (.invokevirtual 161, 3) := by decide +kernel
theorem dX5_findBarred_176 : decode cX5_findBarred 176 = .ok (.iinc 1 1, 3) := by decide +kernel
theorem dX5_findBarred_179 : decode cX5_findBarred 179 = .ok (.goto (-43), 3) := by decide +kernel
theorem dX5_findBarred_182 : decode cX5_findBarred 182 = .ok (.iconst 0, 1) := by decide +kernel
theorem dX5_findBarred_183 : decode cX5_findBarred 183 = .ok (.istore_n 1, 1) := by decide +kernel
theorem dX5_findBarred_184 : decode cX5_findBarred 184 = .ok (.iload_n 1, 1) := by decide +kernel
theorem dX5_findBarred_185 : decode cX5_findBarred 185 = .ok (.aload_n 0, 1) := by decide +kernel
theorem dX5_findBarred_186 : decode cX5_findBarred 186 = .ok (.getfield 165, 3) := by decide +kernel
theorem dX5_findBarred_189 : decode cX5_findBarred 189 = .ok (.if_icmp .ge 60, 3) := by decide +kernel
theorem dX5_findBarred_192 : decode cX5_findBarred 192 = .ok (.aload_n 0, 1) := by decide +kernel
theorem dX5_findBarred_193 : decode cX5_findBarred 193 = .ok (.getfield 56, 3) := by decide +kernel
theorem dX5_findBarred_196 : decode cX5_findBarred 196 = .ok (.iload_n 1, 1) := by decide +kernel
theorem dX5_findBarred_197 : decode cX5_findBarred 197 = .ok (.iaload, 1) := by decide +kernel
theorem dX5_findBarred_198 : decode cX5_findBarred 198 = .ok (.ifCond .ne 45, 3) := by decide +kernel
theorem dX5_findBarred_201 : decode cX5_findBarred 201 = .ok (.aload_n 0, 1) := by decide +kernel
theorem dX5_findBarred_202 : decode cX5_findBarred 202 = .ok (.aload_n 0, 1) := by decide +kernel
theorem dX5_findBarred_203 : decode cX5_findBarred 203 = .ok (.getfield 59, 3) := by decide +kernel
theorem dX5_findBarred_206 : decode cX5_findBarred 206 = .ok (.iload_n 1, 1) := by decide +kernel
theorem dX5_findBarred_207 : decode cX5_findBarred 207 = .ok (.iaload, 1) := by decide +kernel
theorem dX5_findBarred_208 : decode cX5_findBarred 208 = .ok (.aload_n 0, 1) := by decide +kernel
theorem dX5_findBarred_209 : decode cX5_findBarred 209 = .ok (.getfield 62, 3) := by decide +kernel
theorem dX5_findBarred_212 : decode cX5_findBarred 212 = .ok (.iload_n 1, 1) := by decide +kernel
theorem dX5_findBarred_213 : decode cX5_findBarred 213 = .ok (.iaload, 1) := by decide +kernel
theorem dX5_findBarred_214 : decode cX5_findBarred 214 = .ok (.aload_n 0, 1) := by decide +kernel
theorem dX5_findBarred_215 : decode cX5_findBarred 215 = .ok (.getfield 59, 3) := by decide +kernel
theorem dX5_findBarred_218 : decode cX5_findBarred 218 = .ok (.iload_n 1, 1) := by decide +kernel
theorem dX5_findBarred_219 : decode cX5_findBarred 219 = .ok (.iaload, 1) := by decide +kernel
theorem dX5_findBarred_220 : decode cX5_findBarred 220 = .ok (.aload_n 0, 1) := by decide +kernel
theorem dX5_findBarred_221 : decode cX5_findBarred 221 = .ok (.getfield 65, 3) := by decide +kernel
theorem dX5_findBarred_224 : decode cX5_findBarred 224 = .ok (.iload_n 1, 1) := by decide +kernel
theorem dX5_findBarred_225 : decode cX5_findBarred 225 = .ok (.iaload, 1) := by decide +kernel
theorem dX5_findBarred_226 : decode cX5_findBarred 226 = .ok (.iadd, 1) := by decide +kernel
theorem dX5_findBarred_227 : decode cX5_findBarred 227 = .ok (.aload_n 0, 1) := by decide +kernel
theorem dX5_findBarred_228 : decode cX5_findBarred 228 = .ok (.getfield 62, 3) := by decide +kernel
theorem dX5_findBarred_231 : decode cX5_findBarred 231 = .ok (.iload_n 1, 1) := by decide +kernel
theorem dX5_findBarred_232 : decode cX5_findBarred 232 = .ok (.iaload, 1) := by decide +kernel
theorem dX5_findBarred_233 : decode cX5_findBarred 233 = .ok (.aload_n 0, 1) := by decide +kernel
theorem dX5_findBarred_234 : decode cX5_findBarred 234 = .ok (.getfield 65, 3) := by decide +kernel
theorem dX5_findBarred_237 : decode cX5_findBarred 237 = .ok (.iload_n 1, 1) := by decide +kernel
theorem dX5_findBarred_238 : decode cX5_findBarred 238 = .ok (.iaload, 1) := by decide +kernel
theorem dX5_findBarred_239 : decode cX5_findBarred 239 = .ok (.iadd, 1) := by decide +kernel
theorem dX5_findBarred_240 : decode cX5_findBarred 240 = .ok (.invokevirtual 161, 3) := by decide +kernel
theorem dX5_findBarred_243 : decode cX5_findBarred 243 = .ok (.iinc 1 1, 3) := by decide +kernel
theorem dX5_findBarred_246 : decode cX5_findBarred 246 = .ok (.goto (-62), 3) := by decide +kernel
theorem dX5_findBarred_249 : decode cX5_findBarred 249 = .ok (.return_, 1) := by decide +kernel
set_option maxRecDepth 20000 in
theorem ggX5_isPlaced_X5_findBarred : GoodIn wsX5_isPlaced wsX5_findBarred := goodIn_r _ [16, 6, 3, 17, 5, 1, 10, 11, 18, 19, 20, 21, 22, 23, 24, 15, 25, 26, 27, 28, 7, 29, 30, 31, 32, 33, 34, 35, 36, 37, 38, 39, 40, 41, 42, 43, 44, 45, 46, 47, 48, 49, 50, 51, 52, 53, 54, 55, 56, 57, 58, 59, 60, 61, 62, 63, 64, 65, 66] (by decide +kernel) (by decide +kernel)
set_option maxRecDepth 20000 in
theorem gX5_isPlaced_X5_findBarred : GoodIn wsX5_isPlaced (wsV RX5 168 RX5 yX5_findBarred wsX5_findBarred) := goodIn_app (goodIn_of _ (by decide +kernel)) ggX5_isPlaced_X5_findBarred
set_option maxRecDepth 20000 in
theorem ggX5_isPlaced_X5_clear : GoodIn wsX5_isPlaced wsX5_clear := goodIn_r _ [25] (by decide +kernel) (by decide +kernel)
set_option maxRecDepth 20000 in
theorem gX5_isPlaced_X5_clear : GoodIn wsX5_isPlaced (va_wsS RX5 105 yX5_clear wsX5_clear) := goodIn_app (goodIn_of _ (by decide +kernel)) ggX5_isPlaced_X5_clear
set_option maxRecDepth 20000 in
theorem ggX5_isPlaced_X5_mark : GoodIn wsX5_isPlaced wsX5_mark := goodIn_r _ [28, 7, 29, 30, 15, 31] (by decide +kernel) (by decide +kernel)
set_option maxRecDepth 20000 in
theorem gX5_isPlaced_X5_mark : GoodIn wsX5_isPlaced (va_wsS RX5 109 yX5_mark wsX5_mark) := goodIn_app (goodIn_of _ (by decide +kernel)) ggX5_isPlaced_X5_mark
theorem dX5_isPlaced_0 : decode cX5_isPlaced 0 = .ok (.aload_n 0, 1) := by decide +kernel
theorem dX5_isPlaced_1 : decode cX5_isPlaced 1 = .ok (.getfield 139, 3) := by decide +kernel
theorem dX5_isPlaced_4 : decode cX5_isPlaced 4 = .ok (.bipush 60, 2) := by decide +kernel
theorem dX5_isPlaced_6 : decode cX5_isPlaced 6 = .ok (.if_icmp .ne 5, 3) := by decide +kernel
theorem dX5_isPlaced_9 : decode cX5_isPlaced 9 = .ok (.iconst 0, 1) := by decide +kernel
theorem dX5_isPlaced_10 : decode cX5_isPlaced 10 = .ok (.ireturn, 1) := by decide +kernel
theorem dX5_isPlaced_11 : decode cX5_isPlaced 11 = .ok (.aload_n 0, 1) := by decide +kernel
theorem dX5_isPlaced_12 : decode cX5_isPlaced 12 = .ok (.invokevirtual 168, 3) := by decide +kernel
theorem dX5_isPlaced_15 : decode cX5_isPlaced 15 = .ok (.aload_n 0, 1) := by decide +kernel
theorem dX5_isPlaced_16 : decode cX5_isPlaced 16 = .ok (.getfield 77, 3) := by decide +kernel
theorem dX5_isPlaced_19 : decode cX5_isPlaced 19 = .ok (.invokestatic 105, 3) := by decide +kernel
theorem dX5_isPlaced_22 : decode cX5_isPlaced 22 = .ok (.iconst 0, 1) := by decide +kernel
theorem dX5_isPlaced_23 : decode cX5_isPlaced 23 = .ok (.istore_n 3, 1) := by decide +kernel
theorem dX5_isPlaced_24 : decode cX5_isPlaced 24 = .ok (.iload_n 3, 1) := by decide +kernel
theorem dX5_isPlaced_25 : decode cX5_isPlaced 25 = .ok (.aload_n 0, 1) := by decide +kernel
theorem dX5_isPlaced_26 : decode cX5_isPlaced 26 = .ok (.getfield 102, 3) := by decide +kernel
theorem dX5_isPlaced_29 : decode cX5_isPlaced 29 = .ok (.if_icmp .ge 76, 3) := by decide +kernel
theorem dX5_isPlaced_32 : decode cX5_isPlaced 32 = .ok (.aload_n 0, 1) := by decide +kernel
theorem dX5_isPlaced_33 : decode cX5_isPlaced 33 = .ok (.getfield 13, 3) := by decide +kernel
theorem dX5_isPlaced_36 : decode cX5_isPlaced 36 = .ok (.iload_n 3, 1) := by decide +kernel
theorem dX5_isPlaced_37 : decode cX5_isPlaced 37 = .ok (.iaload, 1) := by decide +kernel
theorem dX5_isPlaced_38 : decode cX5_isPlaced 38 = .ok (.iload_n 1, 1) := by decide +kernel
theorem dX5_isPlaced_39 : decode cX5_isPlaced 39 = .ok (.if_icmp .ne 60, 3) := by decide +kernel
theorem dX5_isPlaced_42 : decode cX5_isPlaced 42 = .ok (.aload_n 0, 1) := by decide +kernel
theorem dX5_isPlaced_43 : decode cX5_isPlaced 43 = .ok (.getfield 77, 3) := by decide +kernel
theorem dX5_isPlaced_46 : decode cX5_isPlaced 46 = .ok (.aload_n 0, 1) := by decide +kernel
theorem dX5_isPlaced_47 : decode cX5_isPlaced 47 = .ok (.getfield 20, 3) := by decide +kernel
theorem dX5_isPlaced_50 : decode cX5_isPlaced 50 = .ok (.iconst 4, 1) := by decide +kernel
theorem dX5_isPlaced_51 : decode cX5_isPlaced 51 = .ok (.iload_n 3, 1) := by decide +kernel
theorem dX5_isPlaced_52 : decode cX5_isPlaced 52 = .ok (.imul, 1) := by decide +kernel
theorem dX5_isPlaced_53 : decode cX5_isPlaced 53 = .ok (.iaload, 1) := by decide +kernel
theorem dX5_isPlaced_54 : decode cX5_isPlaced 54 = .ok (.bipush 23, 2) := by decide +kernel
theorem dX5_isPlaced_56 : decode cX5_isPlaced 56 = .ok (.isub, 1) := by decide +kernel
theorem dX5_isPlaced_57 : decode cX5_isPlaced 57 = .ok (.aload_n 0, 1) := by decide +kernel
theorem dX5_isPlaced_58 : decode cX5_isPlaced 58 = .ok (.getfield 20, 3) := by decide +kernel
theorem dX5_isPlaced_61 : decode cX5_isPlaced 61 = .ok (.iconst 4, 1) := by decide +kernel
theorem dX5_isPlaced_62 : decode cX5_isPlaced 62 = .ok (.iload_n 3, 1) := by decide +kernel
theorem dX5_isPlaced_63 : decode cX5_isPlaced 63 = .ok (.imul, 1) := by decide +kernel
theorem dX5_isPlaced_64 : decode cX5_isPlaced 64 = .ok (.iconst 1, 1) := by decide +kernel
theorem dX5_isPlaced_65 : decode cX5_isPlaced 65 = .ok (.iadd, 1) := by decide +kernel
theorem dX5_isPlaced_66 : decode cX5_isPlaced 66 = .ok (.iaload, 1) := by decide +kernel
theorem dX5_isPlaced_67 : decode cX5_isPlaced 67 = .ok (.bipush 23, 2) := by decide +kernel
theorem dX5_isPlaced_69 : decode cX5_isPlaced 69 = .ok (.isub, 1) := by decide +kernel
theorem dX5_isPlaced_70 : decode cX5_isPlaced 70 = .ok (.aload_n 0, 1) := by decide +kernel
theorem dX5_isPlaced_71 : decode cX5_isPlaced 71 = .ok (.getfield 20, 3) := by decide +kernel
theorem dX5_isPlaced_74 : decode cX5_isPlaced 74 = .ok (.iconst 4, 1) := by decide +kernel
theorem dX5_isPlaced_75 : decode cX5_isPlaced 75 = .ok (.iload_n 3, 1) := by decide +kernel
theorem dX5_isPlaced_76 : decode cX5_isPlaced 76 = .ok (.imul, 1) := by decide +kernel
theorem dX5_isPlaced_77 : decode cX5_isPlaced 77 = .ok (.iconst 2, 1) := by decide +kernel
theorem dX5_isPlaced_78 : decode cX5_isPlaced 78 = .ok (.iadd, 1) := by decide +kernel
theorem dX5_isPlaced_79 : decode cX5_isPlaced 79 = .ok (.iaload, 1) := by decide +kernel
theorem dX5_isPlaced_80 : decode cX5_isPlaced 80 = .ok (.bipush 20, 2) := by decide +kernel
theorem dX5_isPlaced_82 : decode cX5_isPlaced 82 = .ok (.iadd, 1) := by decide +kernel
theorem dX5_isPlaced_83 : decode cX5_isPlaced 83 = .ok (.aload_n 0, 1) := by decide +kernel
theorem dX5_isPlaced_84 : decode cX5_isPlaced 84 = .ok (.getfield 20, 3) := by decide +kernel
theorem dX5_isPlaced_87 : decode cX5_isPlaced 87 = .ok (.iconst 4, 1) := by decide +kernel
theorem dX5_isPlaced_88 : decode cX5_isPlaced 88 = .ok (.iload_n 3, 1) := by decide +kernel
theorem dX5_isPlaced_89 : decode cX5_isPlaced 89 = .ok (.imul, 1) := by decide +kernel
theorem dX5_isPlaced_90 : decode cX5_isPlaced 90 = .ok (.iconst 3, 1) := by decide +kernel
theorem dX5_isPlaced_91 : decode cX5_isPlaced 91 = .ok (.iadd, 1) := by decide +kernel
theorem dX5_isPlaced_92 : decode cX5_isPlaced 92 = .ok (.iaload, 1) := by decide +kernel
theorem dX5_isPlaced_93 : decode cX5_isPlaced 93 = .ok (.bipush 20, 2) := by decide +kernel
theorem dX5_isPlaced_95 : decode cX5_isPlaced 95 = .ok (.iadd, 1) := by decide +kernel
