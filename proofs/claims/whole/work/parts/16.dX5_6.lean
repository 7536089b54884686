theorem dX5_fillTile_1 : decode cX5_fillTile 1 = .ok (.iload_n 2, 1) := by decide +kernel
theorem dX5_fillTile_2 : decode cX5_fillTile 2 = .ok (.invokevirtual 191, 3) := by decide +kernel
theorem dX5_fillTile_5 : decode cX5_fillTile 5 = .ok (.istore 6, 2) := by decide +kernel
theorem dX5_fillTile_7 : decode cX5_fillTile 7 = .ok (.iload_n 3, 1) := by decide +kernel
theorem dX5_fillTile_8 : decode cX5_fillTile 8 = .ok (.iload 4, 2) := by decide +kernel
theorem dX5_fillTile_10 : decode cX5_fillTile 10 = .ok (.iadd, 1) := by decide +kernel
theorem dX5_fillTile_11 : decode cX5_fillTile 11 = .ok (.istore 7, 2) := by decide +kernel
theorem dX5_fillTile_13 : decode cX5_fillTile 13 = .ok (.iconst 0, 1) := by decide +kernel
theorem dX5_fillTile_14 : decode cX5_fillTile 14 = .ok (.istore 8, 2) := by decide +kernel
theorem dX5_fillTile_16 : decode cX5_fillTile 16 = .ok (.iload 8, 2) := by decide +kernel
theorem dX5_fillTile_18 : decode cX5_fillTile 18 = .ok (.iload 7, 2) := by decide +kernel
theorem dX5_fillTile_20 : decode cX5_fillTile 20 = .ok (.imul, 1) := by decide +kernel
theorem dX5_fillTile_21 : decode cX5_fillTile 21 = .ok (.iload_n 3, 1) := by decide +kernel
theorem dX5_fillTile_22 : decode cX5_fillTile 22 = .ok (.iadd, 1) := by decide +kernel
theorem dX5_fillTile_23 : decode cX5_fillTile 23 = .ok (.sipush 200, 3) := by decide +kernel
theorem dX5_fillTile_26 : decode cX5_fillTile 26 = .ok (.if_icmp .gt 126, 3) := by decide +kernel
theorem dX5_fillTile_29 : decode cX5_fillTile 29 = .ok (.iconst 0, 1) := by decide +kernel
theorem dX5_fillTile_30 : decode cX5_fillTile 30 = .ok (.istore 9, 2) := by decide +kernel
theorem dX5_fillTile_32 : decode cX5_fillTile 32 = .ok (.iload 9, 2) := by decide +kernel
theorem dX5_fillTile_34 : decode cX5_fillTile 34 = .ok (.iload 7, 2) := by decide +kernel
theorem dX5_fillTile_36 : decode cX5_fillTile 36 = .ok (.imul, 1) := by decide +kernel
theorem dX5_fillTile_37 : decode cX5_fillTile 37 = .ok (.iload_n 3, 1) := by decide +kernel
theorem dX5_fillTile_38 : decode cX5_fillTile 38 = .ok (.iadd, 1) := by decide +kernel
theorem dX5_fillTile_39 : decode cX5_fillTile 39 = .ok (.sipush 200, 3) := by decide +kernel
theorem dX5_fillTile_42 : decode cX5_fillTile 42 = .ok (.if_icmp .gt 104, 3) := by decide +kernel
theorem dX5_fillTile_45 : decode cX5_fillTile 45 = .ok (.bipush 100, 2) := by decide +kernel
theorem dX5_fillTile_47 : decode cX5_fillTile 47 = .ok (.iload 6, 2) := by decide +kernel
theorem dX5_fillTile_49 : decode cX5_fillTile 49 = .ok (.imul, 1) := by decide +kernel
theorem dX5_fillTile_50 : decode cX5_fillTile 50 = .ok (.ldc 194, 2) := by decide +kernel
theorem dX5_fillTile_52 : decode cX5_fillTile 52 = .ok (.aload_n 0, 1) := by decide +kernel
theorem dX5_fillTile_53 : decode cX5_fillTile 53 = .ok (.getfield 50, 3) := by decide +kernel
theorem dX5_fillTile_56 : decode cX5_fillTile 56 = .ok (.iload_n 1, 1) := by decide +kernel
theorem dX5_fillTile_57 : decode cX5_fillTile 57 = .ok (.iaload, 1) := by decide +kernel
theorem dX5_fillTile_58 : decode cX5_fillTile 58 = .ok (.imul, 1) := by decide +kernel
theorem dX5_fillTile_59 : decode cX5_fillTile 59 = .ok (.if_icmp .ge 13, 3) := by decide +kernel
theorem dX5_fillTile_62 : decode cX5_fillTile 62 = .ok (.aload_n 0, 1) := by decide +kernel
theorem dX5_fillTile_63 : decode cX5_fillTile 63 = .ok (.getfield 165, 3) := by decide +kernel
theorem dX5_fillTile_66 : decode cX5_fillTile 66 = .ok (.sipush 1500, 3) := by decide +kernel
theorem dX5_fillTile_69 : decode cX5_fillTile 69 = .ok (.if_icmp .ne 4, 3) := by decide +kernel
theorem dX5_fillTile_72 : decode cX5_fillTile 72 = .ok (.return_, 1) := by decide +kernel
theorem dX5_fillTile_73 : decode cX5_fillTile 73 = .ok (.sipush 200, 3) := by decide +kernel
theorem dX5_fillTile_76 : decode cX5_fillTile 76 = .ok (.iload_n 2, 1) := by decide +kernel
theorem dX5_fillTile_77 : decode cX5_fillTile 77 = .ok (.iconst 5, 1) := by decide +kernel
theorem dX5_fillTile_78 : decode cX5_fillTile 78 = .ok (.irem, 1) := by decide +kernel
theorem dX5_fillTile_79 : decode cX5_fillTile 79 = .ok (.imul, 1) := by decide +kernel
theorem dX5_fillTile_80 : decode cX5_fillTile 80 = .ok (.iload 9, 2) := by decide +kernel
theorem dX5_fillTile_82 : decode cX5_fillTile 82 = .ok (.iload 7, 2) := by decide +kernel
theorem dX5_fillTile_84 : decode cX5_fillTile 84 = .ok (.imul, 1) := by decide +kernel
theorem dX5_fillTile_85 : decode cX5_fillTile 85 = .ok (.iadd, 1) := by decide +kernel
theorem dX5_fillTile_86 : decode cX5_fillTile 86 = .ok (.istore 10, 2) := by decide +kernel
theorem dX5_fillTile_88 : decode cX5_fillTile 88 = .ok (.sipush 200, 3) := by decide +kernel
theorem dX5_fillTile_91 : decode cX5_fillTile 91 = .ok (.iload_n 2, 1) := by decide +kernel
theorem dX5_fillTile_92 : decode cX5_fillTile 92 = .ok (.iconst 5, 1) := by decide +kernel
theorem dX5_fillTile_93 : decode cX5_fillTile 93 = .ok (.idiv, 1) := by decide +kernel
theorem dX5_fillTile_94 : decode cX5_fillTile 94 = .ok (.imul, 1) := by decide +kernel
theorem dX5_fillTile_95 : decode cX5_fillTile 95 = .ok (.iload 8, 2) := by decide +kernel
theorem dX5_fillTile_97 : decode cX5_fillTile 97 = .ok (.iload 7, 2) := by decide +kernel
theorem dX5_fillTile_99 : decode cX5_fillTile 99 = .ok (.imul, 1) := by decide +kernel
theorem dX5_fillTile_100 : decode cX5_fillTile 100 = .ok (.iadd, 1) := by decide +kernel
theorem dX5_fillTile_101 : decode cX5_fillTile 101 = .ok (.istore 11, 2) := by decide +kernel
theorem dX5_fillTile_103 : decode cX5_fillTile 103 = .ok (.aload_n 0, 1) := by decide +kernel
theorem dX5_fillTile_104 : decode cX5_fillTile 104 = .ok (.iload_n 1, 1) := by decide +kernel
theorem dX5_fillTile_105 : decode cX5_fillTile 105 = .ok (.iload_n 2, 1) := by decide +kernel
theorem dX5_fillTile_106 : decode cX5_fillTile 106 = .ok (.iload 10, 2) := by decide +kernel
theorem dX5_fillTile_108 : decode cX5_fillTile 108 = .ok (.iload 11, 2) := by decide +kernel
theorem dX5_fillTile_110 : decode cX5_fillTile 110 = .ok (.iload_n 3, 1) := by decide +kernel
theorem dX5_fillTile_111 : decode cX5_fillTile 111 = .ok (.iload 4, 2) := by decide +kernel
theorem dX5_fillTile_113 : decode cX5_fillTile 113 = .ok (.iload 5, 2) := by decide +kernel
theorem dX5_fillTile_115 : decode cX5_fillTile 115 = .ok (.invokevirtual 195, 3) := by decide +kernel
theorem dX5_fillTile_118 : decode cX5_fillTile 118 = .ok (.ifCond .eq 22, 3) := by decide +kernel
theorem dX5_fillTile_121 : decode cX5_fillTile 121 = .ok (.aload_n 0, 1) := by decide +kernel
theorem dX5_fillTile_122 : decode cX5_fillTile 122 = .ok (.iload_n 1, 1) := by decide +kernel
theorem dX5_fillTile_123 : decode cX5_fillTile 123 = .ok (.iload_n 2, 1) := by decide +kernel
theorem dX5_fillTile_124 : decode cX5_fillTile 124 = .ok (.iload 10, 2) := by decide +kernel
theorem dX5_fillTile_126 : decode cX5_fillTile 126 = .ok (.iload 11, 2) := by decide +kernel
theorem dX5_fillTile_128 : decode cX5_fillTile 128 = .ok (.iload_n 3, 1) := by decide +kernel
theorem dX5_fillTile_129 : decode cX5_fillTile 129 = .ok (.invokevirtual 199, 3) := by decide +kernel
theorem dX5_fillTile_132 : decode cX5_fillTile 132 = .ok (.iload 6, 2) := by decide +kernel
theorem dX5_fillTile_134 : decode cX5_fillTile 134 = .ok (.iload_n 3, 1) := by decide +kernel
theorem dX5_fillTile_135 : decode cX5_fillTile 135 = .ok (.iload_n 3, 1) := by decide +kernel
theorem dX5_fillTile_136 : decode cX5_fillTile 136 = .ok (.imul, 1) := by decide +kernel
theorem dX5_fillTile_137 : decode cX5_fillTile 137 = .ok (.iadd, 1) := by decide +kernel
theorem dX5_fillTile_138 : decode cX5_fillTile 138 = .ok (.istore 6, 2) := by decide +kernel
theorem dX5_fillTile_140 : decode cX5_fillTile 140 = .ok (.iinc 9 1, 3) := by decide +kernel
theorem dX5_fillTile_143 : decode cX5_fillTile 143 = .ok (.goto (-111), 3) := by decide +kernel
theorem dX5_fillTile_146 : decode cX5_fillTile 146 = .ok (.iinc 8 1, 3) := by decide +kernel
theorem dX5_fillTile_149 : decode cX5_fillTile 149 = .ok (.goto (-133), 3) := by decide +kernel
theorem dX5_fillTile_152 : decode cX5_fillTile 152 = .ok (.return_, 1) := by decide +kernel
theorem dX5_piecesOn_0 : decode cX5_piecesOn 0 = .ok (.iconst 0, 1) := by decide +kernel
theorem dX5_piecesOn_1 : decode cX5_piecesOn 1 = .ok (.istore_n 2, 1) := by decide +kernel
theorem dX5_piecesOn_2 : decode cX5_piecesOn 2 = .ok (.iconst 0, 1) := by decide +kernel
theorem dX5_piecesOn_3 : decode cX5_piecesOn 3 = .ok (.istore_n 3, 1) := by decide +kernel
theorem dX5_piecesOn_4 : decode cX5_piecesOn 4 = .ok (.iload_n 3, 1) := by decide +kernel
theorem dX5_piecesOn_5 : decode cX5_piecesOn 5 = .ok (.aload_n 0, 1) := by decide +kernel
theorem dX5_piecesOn_6 : decode cX5_piecesOn 6 = .ok (.getfield 165, 3) := by decide +kernel
theorem dX5_piecesOn_9 : decode cX5_piecesOn 9 = .ok (.if_icmp .ge 27, 3) := by decide +kernel
theorem dX5_piecesOn_12 : decode cX5_piecesOn 12 = .ok (.iload_n 2, 1) := by decide +kernel
theorem dX5_piecesOn_13 : decode cX5_piecesOn 13 = .ok (.aload_n 0, 1) := by decide +kernel
theorem dX5_piecesOn_14 : decode cX5_piecesOn 14 = .ok (.getfield 56, 3) := by decide +kernel
theorem dX5_piecesOn_17 : decode cX5_piecesOn 17 = .ok (.iload_n 3, 1) := by decide +kernel
theorem dX5_piecesOn_18 : decode cX5_piecesOn 18 = .ok (.iaload, 1) := by decide +kernel
theorem dX5_piecesOn_19 : decode cX5_piecesOn 19 = .ok (.iload_n 1, 1) := by decide +kernel
theorem dX5_piecesOn_20 : decode cX5_piecesOn 20 = .ok (.if_icmp .ne 7, 3) := by decide +kernel
theorem dX5_piecesOn_23 : decode cX5_piecesOn 23 = .ok (.iconst 1, 1) := by decide +kernel
theorem dX5_piecesOn_24 : decode cX5_piecesOn 24 = .ok (.goto 4, 3) := by decide +kernel
theorem dX5_piecesOn_27 : decode cX5_piecesOn 27 = .ok (.iconst 0, 1) := by decide +kernel
theorem dX5_piecesOn_28 : decode cX5_piecesOn 28 = .ok (.iadd, 1) := by decide +kernel
theorem dX5_piecesOn_29 : decode cX5_piecesOn 29 = .ok (.istore_n 2, 1) := by decide +kernel
theorem dX5_piecesOn_30 : decode cX5_piecesOn 30 = .ok (.iinc 3 1, 3) := by decide +kernel
theorem dX5_piecesOn_33 : decode cX5_piecesOn 33 = .ok (.goto (-29), 3) := by decide +kernel
theorem dX5_piecesOn_36 : decode cX5_piecesOn 36 = .ok (.iload_n 2, 1) := by decide +kernel
theorem dX5_piecesOn_37 : decode cX5_piecesOn 37 = .ok (.ireturn, 1) := by decide +kernel
set_option maxRecDepth 20000 in
theorem ggX5_fill_X5_isLayer : GoodIn wsX5_fill wsX5_isLayer := goodIn_r _ [13, 14, 76, 77, 78, 79, 80, 81, 82, 83, 84, 85, 86, 87, 88, 89, 90, 91, 92, 93, 94, 95, 96, 97, 98, 99, 100, 101, 102, 103, 104, 105, 106] (by decide +kernel) (by decide +kernel)
set_option maxRecDepth 20000 in
theorem gX5_fill_X5_isLayer : GoodIn wsX5_fill (wsV RX5 121 RX5 yX5_isLayer wsX5_isLayer) := goodIn_app (goodIn_of _ (by decide +kernel)) ggX5_fill_X5_isLayer
set_option maxRecDepth 20000 in
theorem ggX5_fill_X5_dropPieces : GoodIn wsX5_fill wsX5_dropPieces := goodIn_r _ [18, 19, 20, 21, 22, 23, 24, 76, 77, 78, 79, 80, 81, 82, 83, 84, 85, 86, 87, 88, 89, 90, 91, 92, 93, 94, 95, 96, 97, 98, 99, 100, 101, 102, 103, 104, 105, 106] (by decide +kernel) (by decide +kernel)
set_option maxRecDepth 20000 in
theorem gX5_fill_X5_dropPieces : GoodIn wsX5_fill (wsV RX5 207 RX5 yX5_dropPieces wsX5_dropPieces) := goodIn_app (goodIn_of _ (by decide +kernel)) ggX5_fill_X5_dropPieces
set_option maxRecDepth 20000 in
theorem ggX5_fill_X5_cover : GoodIn wsX5_fill wsX5_cover := goodIn_r _ [28, 29, 30, 31, 32, 33, 34, 35, 19, 20, 21, 22, 23, 36, 37, 12, 38, 39, 40, 41, 42, 43, 44, 45, 76, 77, 78, 79, 80, 81, 82, 83, 84, 85, 86, 87, 88, 89, 90, 91, 92, 93, 94, 95, 96, 97, 98, 99, 100, 101, 102, 103, 104, 105, 106] (by decide +kernel) (by decide +kernel)
set_option maxRecDepth 20000 in
theorem gX5_fill_X5_cover : GoodIn wsX5_fill (wsV RX5 181 RX5 yX5_cover wsX5_cover) := goodIn_app (goodIn_of _ (by decide +kernel)) ggX5_fill_X5_cover
set_option maxRecDepth 20000 in
theorem ggX5_fill_X5_fillTile : GoodIn wsX5_fill wsX5_fillTile := goodIn_r _ [49, 5, 6, 19, 50, 51, 52, 12, 53, 54, 55, 56, 57, 42, 29, 58, 59, 60, 61, 62, 63, 64, 30, 31, 32, 33, 34, 35, 20, 24, 21, 22, 23, 65, 66, 67, 68, 69, 70, 71, 76, 77, 78, 79, 80, 81, 82, 83, 84, 85, 86, 87, 88, 89, 90, 91, 92, 93, 94, 95, 96, 97, 98, 99, 100, 101, 102, 103, 104, 105, 106] (by decide +kernel) (by decide +kernel)
set_option maxRecDepth 20000 in
theorem gX5_fill_X5_fillTile : GoodIn wsX5_fill (wsV RX5 210 RX5 yX5_fillTile wsX5_fillTile) := goodIn_app (goodIn_of _ (by decide +kernel)) ggX5_fill_X5_fillTile
set_option maxRecDepth 20000 in
theorem ggX5_fill_X5_inTile : GoodIn wsX5_fill wsX5_inTile := goodIn_r _ [53, 54, 55, 56, 12, 57, 42, 29, 58, 59, 60, 76, 77, 78, 79, 80, 81, 82, 83, 84, 85, 86, 87, 88, 89, 90, 91, 92, 93, 94, 95, 96, 97, 98, 99, 100, 101, 102, 103, 104, 105, 106] (by decide +kernel) (by decide +kernel)
set_option maxRecDepth 20000 in
theorem gX5_fill_X5_inTile : GoodIn wsX5_fill (wsV RX5 191 RX5 yX5_inTile wsX5_inTile) := goodIn_app (goodIn_of _ (by decide +kernel)) ggX5_fill_X5_inTile
set_option maxRecDepth 20000 in
theorem ggX5_fill_X5_piecesOn : GoodIn wsX5_fill wsX5_piecesOn := goodIn_r _ [75, 19, 20, 76, 77, 78, 79, 80, 81, 82, 83, 84, 85, 86, 87, 88, 89, 90, 91, 92, 93, 94, 95, 96, 97, 98, 99, 100, 101, 102, 103, 104, 105, 106] (by decide +kernel) (by decide +kernel)
set_option maxRecDepth 20000 in
theorem gX5_fill_X5_piecesOn : GoodIn wsX5_fill (wsV RX5 216 RX5 yX5_piecesOn wsX5_piecesOn) := goodIn_app (goodIn_of _ (by decide +kernel)) ggX5_fill_X5_piecesOn
theorem dX5_fill_0 : decode cX5_fill 0 = .ok (.aload_n 0, 1) := by decide +kernel
theorem dX5_fill_1 : decode cX5_fill 1 = .ok (.aload_n 0, 1) := by decide +kernel
theorem dX5_fill_2 : decode cX5_fill 2 = .ok (.iload_n 1, 1) := by decide +kernel
theorem dX5_fill_3 : decode cX5_fill 3 = .ok (.invokevirtual 121, 3) := by decide +kernel
theorem dX5_fill_6 : decode cX5_fill 6 = .ok (.ifCond .ne 7, 3) := by decide +kernel
theorem dX5_fill_9 : decode cX5_fill 9 = .ok (.iconst 1, 1) := by decide +kernel
theorem dX5_fill_10 : decode cX5_fill 10 = .ok (.goto 56, 3) := by decide +kernel
theorem dX5_fill_13 : decode cX5_fill 13 = .ok (.lload_n 2, 1) := by decide +kernel
theorem dX5_fill_14 : decode cX5_fill 14 = .ok (.ldc2_w 203, 3) := by decide +kernel
theorem dX5_fill_17 : decode cX5_fill 17 = .ok (.lcmp, 1) := by decide +kernel
theorem dX5_fill_18 : decode cX5_fill 18 = .ok (.ifCond .lt 43, 3) := by decide +kernel
theorem dX5_fill_21 : decode cX5_fill 21 = .ok (.lload_n 2, 1) := by decide +kernel
theorem dX5_fill_22 : decode cX5_fill 22 = .ok (.ldc2_w 205, 3) := by decide +kernel
theorem dX5_fill_25 : decode cX5_fill 25 = .ok (.lcmp, 1) := by decide +kernel
theorem dX5_fill_26 : decode cX5_fill 26 = .ok (.ifCond .gt 35, 3) := by decide +kernel
theorem dX5_fill_29 : decode cX5_fill 29 = .ok (.lload 4, 2) := by decide +kernel
theorem dX5_fill_31 : decode cX5_fill 31 = .ok (.lconst 0, 1) := by decide +kernel
theorem dX5_fill_32 : decode cX5_fill 32 = .ok (.lcmp, 1) := by decide +kernel
theorem dX5_fill_33 : decode cX5_fill 33 = .ok (.ifCond .lt 28, 3) := by decide +kernel
theorem dX5_fill_36 : decode cX5_fill 36 = .ok (.lload 4, 2) := by decide +kernel
theorem dX5_fill_38 : decode cX5_fill 38 = .ok (.ldc2_w 205, 3) := by decide +kernel
theorem dX5_fill_41 : decode cX5_fill 41 = .ok (.lcmp, 1) := by decide +kernel
theorem dX5_fill_42 : decode cX5_fill 42 = .ok (.ifCond .gt 19, 3) := by decide +kernel
theorem dX5_fill_45 : decode cX5_fill 45 = .ok (.lload 6, 2) := by decide +kernel
theorem dX5_fill_47 : decode cX5_fill 47 = .ok (.lconst 0, 1) := by decide +kernel
theorem dX5_fill_48 : decode cX5_fill 48 = .ok (.lcmp, 1) := by decide +kernel
theorem dX5_fill_49 : decode cX5_fill 49 = .ok (.ifCond .lt 12, 3) := by decide +kernel
theorem dX5_fill_52 : decode cX5_fill 52 = .ok (.lload 6, 2) := by decide +kernel
theorem dX5_fill_54 : decode cX5_fill 54 = .ok (.ldc2_w 205, 3) := by decide +kernel
theorem dX5_fill_57 : decode cX5_fill 57 = .ok (.lcmp, 1) := by decide +kernel
theorem dX5_fill_58 : decode cX5_fill 58 = .ok (.ifCond .le 7, 3) := by decide +kernel
theorem dX5_fill_61 : decode cX5_fill 61 = .ok (.iconst 2, 1) := by decide +kernel
theorem dX5_fill_62 : decode cX5_fill 62 = .ok (.goto 4, 3) := by decide +kernel
theorem dX5_fill_65 : decode cX5_fill 65 = .ok (.iconst 0, 1) := by decide +kernel
theorem dX5_fill_66 : decode cX5_fill 66 = .ok (.putfield 84, 3) := by decide +kernel
theorem dX5_fill_69 : decode cX5_fill 69 = .ok (.aload_n 0, 1) := by decide +kernel
theorem dX5_fill_70 : decode cX5_fill 70 = .ok (.getfield 84, 3) := by decide +kernel
theorem dX5_fill_73 : decode cX5_fill 73 = .ok (.ifCond .le 5, 3) := by decide +kernel
theorem dX5_fill_76 : decode cX5_fill 76 = .ok (.iconst 0, 1) := by decide +kernel
theorem dX5_fill_77 : decode cX5_fill 77 = .ok (.ireturn, 1) := by decide +kernel
theorem dX5_fill_78 : decode cX5_fill 78 = .ok (.aload_n 0, 1) := by decide +kernel
theorem dX5_fill_79 : decode cX5_fill 79 = .ok (.iload_n 1, 1) := by decide +kernel
theorem dX5_fill_80 : decode cX5_fill 80 = .ok (.invokevirtual 207, 3) := by decide +kernel
theorem dX5_fill_83 : decode cX5_fill 83 = .ok (.aload_n 0, 1) := by decide +kernel
theorem dX5_fill_84 : decode cX5_fill 84 = .ok (.iload_n 1, 1) := by decide +kernel
theorem dX5_fill_85 : decode cX5_fill 85 = .ok (.invokevirtual 181, 3) := by decide +kernel
theorem dX5_fill_88 : decode cX5_fill 88 = .ok (.iconst 0, 1) := by decide +kernel
theorem dX5_fill_89 : decode cX5_fill 89 = .ok (.istore 8, 2) := by decide +kernel
theorem dX5_fill_91 : decode cX5_fill 91 = .ok (.iload 8, 2) := by decide +kernel
theorem dX5_fill_93 : decode cX5_fill 93 = .ok (.bipush 25, 2) := by decide +kernel
theorem dX5_fill_95 : decode cX5_fill 95 = .ok (.if_icmp .ge 24, 3) := by decide +kernel
theorem dX5_fill_98 : decode cX5_fill 98 = .ok (.aload_n 0, 1) := by decide +kernel
theorem dX5_fill_99 : decode cX5_fill 99 = .ok (.iload_n 1, 1) := by decide +kernel
theorem dX5_fill_100 : decode cX5_fill 100 = .ok (.iload 8, 2) := by decide +kernel
theorem dX5_fill_102 : decode cX5_fill 102 = .ok (.lload_n 2, 1) := by decide +kernel
theorem dX5_fill_103 : decode cX5_fill 103 = .ok (.l2i, 1) := by decide +kernel
theorem dX5_fill_104 : decode cX5_fill 104 = .ok (.lload 4, 2) := by decide +kernel
theorem dX5_fill_106 : decode cX5_fill 106 = .ok (.l2i, 1) := by decide +kernel
theorem dX5_fill_107 : decode cX5_fill 107 = .ok (.lload 6, 2) := by decide +kernel
theorem dX5_fill_109 : decode cX5_fill 109 = .ok (.l2i, 1) := by decide +kernel
theorem dX5_fill_110 : decode cX5_fill 110 = .ok (.invokevirtual 210, 3) := by decide +kernel
theorem dX5_fill_113 : decode cX5_fill 113 = .ok (.iinc 8 1, 3) := by decide +kernel
theorem dX5_fill_116 : decode cX5_fill 116 = .ok (.goto (-25), 3) := by decide +kernel
theorem dX5_fill_119 : decode cX5_fill 119 = .ok (.aload_n 0, 1) := by decide +kernel
theorem dX5_fill_120 : decode cX5_fill 120 = .ok (.iload_n 1, 1) := by decide +kernel
theorem dX5_fill_121 : decode cX5_fill 121 = .ok (.invokevirtual 181, 3) := by decide +kernel
theorem dX5_fill_124 : decode cX5_fill 124 = .ok (.aload_n 0, 1) := by decide +kernel
theorem dX5_fill_125 : decode cX5_fill 125 = .ok (.iconst 0, 1) := by decide +kernel
theorem dX5_fill_126 : decode cX5_fill 126 = .ok (.putfield 213, 3) := by decide +kernel
theorem dX5_fill_129 : decode cX5_fill 129 = .ok (.iconst 0, 1) := by decide +kernel
theorem dX5_fill_130 : decode cX5_fill 130 = .ok (.istore 8, 2) := by decide +kernel
theorem dX5_fill_132 : decode cX5_fill 132 = .ok (.iload 8, 2) := by decide +kernel
theorem dX5_fill_134 : decode cX5_fill 134 = .ok (.bipush 25, 2) := by decide +kernel
theorem dX5_fill_136 : decode cX5_fill 136 = .ok (.if_icmp .ge 69, 3) := by decide +kernel
theorem dX5_fill_139 : decode cX5_fill 139 = .ok (.bipush 100, 2) := by decide +kernel
theorem dX5_fill_141 : decode cX5_fill 141 = .ok (.aload_n 0, 1) := by decide +kernel
theorem dX5_fill_142 : decode cX5_fill 142 = .ok (.iload 8, 2) := by decide +kernel
theorem dX5_fill_144 : decode cX5_fill 144 = .ok (.invokevirtual 191, 3) := by decide +kernel
theorem dX5_fill_147 : decode cX5_fill 147 = .ok (.imul, 1) := by decide +kernel
theorem dX5_fill_148 : decode cX5_fill 148 = .ok (.istore 9, 2) := by decide +kernel
theorem dX5_fill_150 : decode cX5_fill 150 = .ok (.iload 9, 2) := by decide +kernel
theorem dX5_fill_152 : decode cX5_fill 152 = .ok (.ldc 194, 2) := by decide +kernel
theorem dX5_fill_154 : decode cX5_fill 154 = .ok (.aload_n 0, 1) := by decide +kernel
theorem dX5_fill_155 : decode cX5_fill 155 = .ok (.getfield 50, 3) := by decide +kernel
theorem dX5_fill_158 : decode cX5_fill 158 = .ok (.iload_n 1, 1) := by decide +kernel
theorem dX5_fill_159 : decode cX5_fill 159 = .ok (.iaload, 1) := by decide +kernel
theorem dX5_fill_160 : decode cX5_fill 160 = .ok (.imul, 1) := by decide +kernel
theorem dX5_fill_161 : decode cX5_fill 161 = .ok (.if_icmp .lt 17, 3) := by decide +kernel
theorem dX5_fill_164 : decode cX5_fill 164 = .ok (.iload 9, 2) := by decide +kernel
theorem dX5_fill_166 : decode cX5_fill 166 = .ok (.ldc 194, 2) := by decide +kernel
theorem dX5_fill_168 : decode cX5_fill 168 = .ok (.aload_n 0, 1) := by decide +kernel
theorem dX5_fill_169 : decode cX5_fill 169 = .ok (.getfield 53, 3) := by decide +kernel
theorem dX5_fill_172 : decode cX5_fill 172 = .ok (.iload_n 1, 1) := by decide +kernel
theorem dX5_fill_173 : decode cX5_fill 173 = .ok (.iaload, 1) := by decide +kernel
theorem dX5_fill_174 : decode cX5_fill 174 = .ok (.imul, 1) := by decide +kernel
theorem dX5_fill_175 : decode cX5_fill 175 = .ok (.if_icmp .le 24, 3) := by decide +kernel
theorem dX5_fill_178 : decode cX5_fill 178 = .ok (.aload_n 0, 1) := by decide +kernel
theorem dX5_fill_179 : decode cX5_fill 179 = .ok (.getfield 71, 3) := by decide +kernel
theorem dX5_fill_182 : decode cX5_fill 182 = .ok (.aload_n 0, 1) := by decide +kernel
theorem dX5_fill_183 : decode cX5_fill 183 = .ok (.getfield 213, 3) := by decide +kernel
theorem dX5_fill_186 : decode cX5_fill 186 = .ok (.iload 8, 2) := by decide +kernel
theorem dX5_fill_188 : decode cX5_fill 188 = .ok (.iastore, 1) := by decide +kernel
theorem dX5_fill_189 : decode cX5_fill 189 = .ok (.aload_n 0, 1) := by decide +kernel
theorem dX5_fill_190 : decode cX5_fill 190 = .ok (.dup, 1) := by decide +kernel
theorem dX5_fill_191 : decode cX5_fill 191 = .ok (.getfield 213, 3) := by decide +kernel
theorem dX5_fill_194 : decode cX5_fill 194 = .ok (.iconst 1, 1) := by decide +kernel
theorem dX5_fill_195 : decode cX5_fill 195 = .ok (.iadd, 1) := by decide +kernel
theorem dX5_fill_196 : decode cX5_fill 196 = .ok (.putfield 213, 3) := by decide +kernel
theorem dX5_fill_199 : decode cX5_fill 199 = .ok (.iinc 8 1, 3) := by decide +kernel
theorem dX5_fill_202 : decode cX5_fill 202 = .ok (.goto (-70), 3) := by decide +kernel
theorem dX5_fill_205 : decode cX5_fill 205 = .ok (.aload_n 0, 1) := by decide +kernel
theorem dX5_fill_206 : decode cX5_fill 206 = .ok (.iload_n 1, 1) := by decide +kernel
theorem dX5_fill_207 : decode cX5_fill 207 = .ok (.invokevirtual 216, 3) := by decide +kernel
theorem dX5_fill_210 : decode cX5_fill 210 = .ok (.ireturn, 1) := by decide +kernel
set_option maxRecDepth 20000 in
theorem ggX5_piece_X5_isLayer : GoodIn wsX5_piece wsX5_isLayer := goodIn_r _ [10, 11, 12, 13, 14, 15, 16, 17, 18, 19, 20, 21, 22, 23, 24, 25, 26, 27, 28, 29, 30, 31, 32, 33, 34, 35, 36, 37, 38, 39, 40, 41, 42] (by decide +kernel) (by decide +kernel)
set_option maxRecDepth 20000 in
theorem gX5_piece_X5_isLayer : GoodIn wsX5_piece (wsV RX5 121 RX5 yX5_isLayer wsX5_isLayer) := goodIn_app (goodIn_of _ (by decide +kernel)) ggX5_piece_X5_isLayer
theorem dX5_piece_0 : decode cX5_piece 0 = .ok (.aload_n 0, 1) := by decide +kernel
theorem dX5_piece_1 : decode cX5_piece 1 = .ok (.aload_n 0, 1) := by decide +kernel
theorem dX5_piece_2 : decode cX5_piece 2 = .ok (.iload_n 1, 1) := by decide +kernel
theorem dX5_piece_3 : decode cX5_piece 3 = .ok (.invokevirtual 121, 3) := by decide +kernel
theorem dX5_piece_6 : decode cX5_piece 6 = .ok (.ifCond .eq 16, 3) := by decide +kernel
theorem dX5_piece_9 : decode cX5_piece 9 = .ok (.iload_n 3, 1) := by decide +kernel
theorem dX5_piece_10 : decode cX5_piece 10 = .ok (.ifCond .lt 12, 3) := by decide +kernel
theorem dX5_piece_13 : decode cX5_piece 13 = .ok (.iload_n 3, 1) := by decide +kernel
theorem dX5_piece_14 : decode cX5_piece 14 = .ok (.iconst 1, 1) := by decide +kernel
theorem dX5_piece_15 : decode cX5_piece 15 = .ok (.if_icmp .gt 7, 3) := by decide +kernel
theorem dX5_piece_18 : decode cX5_piece 18 = .ok (.iload_n 2, 1) := by decide +kernel
theorem dX5_piece_19 : decode cX5_piece 19 = .ok (.ifCond .ge 7, 3) := by decide +kernel
theorem dX5_piece_22 : decode cX5_piece 22 = .ok (.iconst 1, 1) := by decide +kernel
theorem dX5_piece_23 : decode cX5_piece 23 = .ok (.goto 4, 3) := by decide +kernel
theorem dX5_piece_26 : decode cX5_piece 26 = .ok (.iconst 0, 1) := by decide +kernel
theorem dX5_piece_27 : decode cX5_piece 27 = .ok (.putfield 84, 3) := by decide +kernel
theorem dX5_piece_30 : decode cX5_piece 30 = .ok (.iload_n 2, 1) := by decide +kernel
theorem dX5_piece_31 : decode cX5_piece 31 = .ok (.istore 4, 2) := by decide +kernel
theorem dX5_piece_33 : decode cX5_piece 33 = .ok (.iconst 0, 1) := by decide +kernel
theorem dX5_piece_34 : decode cX5_piece 34 = .ok (.istore 5, 2) := by decide +kernel
theorem dX5_piece_36 : decode cX5_piece 36 = .ok (.iload 5, 2) := by decide +kernel
theorem dX5_piece_38 : decode cX5_piece 38 = .ok (.aload_n 0, 1) := by decide +kernel
theorem dX5_piece_39 : decode cX5_piece 39 = .ok (.getfield 165, 3) := by decide +kernel
theorem dX5_piece_42 : decode cX5_piece 42 = .ok (.if_icmp .ge 59, 3) := by decide +kernel
theorem dX5_piece_45 : decode cX5_piece 45 = .ok (.aload_n 0, 1) := by decide +kernel
theorem dX5_piece_46 : decode cX5_piece 46 = .ok (.getfield 84, 3) := by decide +kernel
theorem dX5_piece_49 : decode cX5_piece 49 = .ok (.ifCond .ne 52, 3) := by decide +kernel
theorem dX5_piece_52 : decode cX5_piece 52 = .ok (.aload_n 0, 1) := by decide +kernel
theorem dX5_piece_53 : decode cX5_piece 53 = .ok (.getfield 56, 3) := by decide +kernel
theorem dX5_piece_56 : decode cX5_piece 56 = .ok (.iload 5, 2) := by decide +kernel
theorem dX5_piece_58 : decode cX5_piece 58 = .ok (.iaload, 1) := by decide +kernel
theorem dX5_piece_59 : decode cX5_piece 59 = .ok (.iload_n 1, 1) := by decide +kernel
theorem dX5_piece_60 : decode cX5_piece 60 = .ok (.if_icmp .ne 35, 3) := by decide +kernel
theorem dX5_piece_63 : decode cX5_piece 63 = .ok (.iload 4, 2) := by decide +kernel
theorem dX5_piece_65 : decode cX5_piece 65 = .ok (.ifCond .ne 27, 3) := by decide +kernel
theorem dX5_piece_68 : decode cX5_piece 68 = .ok (.iload_n 3, 1) := by decide +kernel
theorem dX5_piece_69 : decode cX5_piece 69 = .ok (.ifCond .ne 14, 3) := by decide +kernel
theorem dX5_piece_72 : decode cX5_piece 72 = .ok (.aload_n 0, 1) := by decide +kernel
theorem dX5_piece_73 : decode cX5_piece 73 = .ok (.getfield 59, 3) := by decide +kernel
theorem dX5_piece_76 : decode cX5_piece 76 = .ok (.iload 5, 2) := by decide +kernel
theorem dX5_piece_78 : decode cX5_piece 78 = .ok (.iaload, 1) := by decide +kernel
theorem dX5_piece_79 : decode cX5_piece 79 = .ok (.i2l, 1) := by decide +kernel
theorem dX5_piece_80 : decode cX5_piece 80 = .ok (.goto 11, 3) := by decide +kernel
theorem dX5_piece_83 : decode cX5_piece 83 = .ok (.aload_n 0, 1) := by decide +kernel
theorem dX5_piece_84 : decode cX5_piece 84 = .ok (.getfield 62, 3) := by decide +kernel
theorem dX5_piece_87 : decode cX5_piece 87 = .ok (.iload 5, 2) := by decide +kernel
theorem dX5_piece_89 : decode cX5_piece 89 = .ok (.iaload, 1) := by decide +kernel
theorem dX5_piece_90 : decode cX5_piece 90 = .ok (.i2l, 1) := by decide +kernel
theorem dX5_piece_91 : decode cX5_piece 91 = .ok (.lreturn, 1) := by decide +kernel
theorem dX5_piece_92 : decode cX5_piece 92 = .ok (.iinc 4 (-1), 3) := by decide +kernel
theorem dX5_piece_95 : decode cX5_piece 95 = .ok (.iinc 5 1, 3) := by decide +kernel
theorem dX5_piece_98 : decode cX5_piece 98 = .ok (.goto (-62), 3) := by decide +kernel
theorem dX5_piece_101 : decode cX5_piece 101 = .ok (.aload_n 0, 1) := by decide +kernel
theorem dX5_piece_102 : decode cX5_piece 102 = .ok (.iconst 1, 1) := by decide +kernel
theorem dX5_piece_103 : decode cX5_piece 103 = .ok (.putfield 84, 3) := by decide +kernel
theorem dX5_piece_106 : decode cX5_piece 106 = .ok (.lconst 0, 1) := by decide +kernel
theorem dX5_piece_107 : decode cX5_piece 107 = .ok (.lreturn, 1) := by decide +kernel
theorem dX5_told_0 : decode cX5_told 0 = .ok (.aload_n 0, 1) := by decide +kernel
theorem dX5_told_1 : decode cX5_told 1 = .ok (.iload_n 1, 1) := by decide +kernel
theorem dX5_told_2 : decode cX5_told 2 = .ok (.ifCond .ge 7, 3) := by decide +kernel
theorem dX5_told_5 : decode cX5_told 5 = .ok (.iconst 1, 1) := by decide +kernel
theorem dX5_told_6 : decode cX5_told 6 = .ok (.goto 4, 3) := by decide +kernel
theorem dX5_told_9 : decode cX5_told 9 = .ok (.iconst 0, 1) := by decide +kernel
theorem dX5_told_10 : decode cX5_told 10 = .ok (.putfield 84, 3) := by decide +kernel
theorem dX5_told_13 : decode cX5_told 13 = .ok (.aload_n 0, 1) := by decide +kernel
theorem dX5_told_14 : decode cX5_told 14 = .ok (.getfield 84, 3) := by decide +kernel
theorem dX5_told_17 : decode cX5_told 17 = .ok (.ifCond .le 7, 3) := by decide +kernel
theorem dX5_told_20 : decode cX5_told 20 = .ok (.iconst 0, 1) := by decide +kernel
theorem dX5_told_21 : decode cX5_told 21 = .ok (.goto 21, 3) := by decide +kernel
theorem dX5_told_24 : decode cX5_told 24 = .ok (.iload_n 1, 1) := by decide +kernel
theorem dX5_told_25 : decode cX5_told 25 = .ok (.aload_n 0, 1) := by decide +kernel
theorem dX5_told_26 : decode cX5_told 26 = .ok (.getfield 213, 3) := by decide +kernel
theorem dX5_told_29 : decode cX5_told 29 = .ok (.if_icmp .ge 12, 3) := by decide +kernel
theorem dX5_told_32 : decode cX5_told 32 = .ok (.aload_n 0, 1) := by decide +kernel
theorem dX5_told_33 : decode cX5_told 33 = .ok (.getfield 71, 3) := by decide +kernel
theorem dX5_told_36 : decode cX5_told 36 = .ok (.iload_n 1, 1) := by decide +kernel
theorem dX5_told_37 : decode cX5_told 37 = .ok (.iaload, 1) := by decide +kernel
theorem dX5_told_38 : decode cX5_told 38 = .ok (.goto 4, 3) := by decide +kernel
theorem dX5_told_41 : decode cX5_told 41 = .ok (.iconst (-1), 1) := by decide +kernel
theorem dX5_told_42 : decode cX5_told 42 = .ok (.ireturn, 1) := by decide +kernel
theorem dX5_slotsOf_0 : decode cX5_slotsOf 0 = .ok (.aload_n 0, 1) := by decide +kernel
theorem dX5_slotsOf_1 : decode cX5_slotsOf 1 = .ok (.getfield 20, 3) := by decide +kernel
theorem dX5_slotsOf_4 : decode cX5_slotsOf 4 = .ok (.iconst 4, 1) := by decide +kernel
theorem dX5_slotsOf_5 : decode cX5_slotsOf 5 = .ok (.iload_n 1, 1) := by decide +kernel
theorem dX5_slotsOf_6 : decode cX5_slotsOf 6 = .ok (.imul, 1) := by decide +kernel
theorem dX5_slotsOf_7 : decode cX5_slotsOf 7 = .ok (.iconst 2, 1) := by decide +kernel
theorem dX5_slotsOf_8 : decode cX5_slotsOf 8 = .ok (.iadd, 1) := by decide +kernel
theorem dX5_slotsOf_9 : decode cX5_slotsOf 9 = .ok (.iaload, 1) := by decide +kernel
theorem dX5_slotsOf_10 : decode cX5_slotsOf 10 = .ok (.aload_n 0, 1) := by decide +kernel
theorem dX5_slotsOf_11 : decode cX5_slotsOf 11 = .ok (.getfield 20, 3) := by decide +kernel
theorem dX5_slotsOf_14 : decode cX5_slotsOf 14 = .ok (.iconst 4, 1) := by decide +kernel
theorem dX5_slotsOf_15 : decode cX5_slotsOf 15 = .ok (.iload_n 1, 1) := by decide +kernel
theorem dX5_slotsOf_16 : decode cX5_slotsOf 16 = .ok (.imul, 1) := by decide +kernel
theorem dX5_slotsOf_17 : decode cX5_slotsOf 17 = .ok (.iaload, 1) := by decide +kernel
theorem dX5_slotsOf_18 : decode cX5_slotsOf 18 = .ok (.isub, 1) := by decide +kernel
theorem dX5_slotsOf_19 : decode cX5_slotsOf 19 = .ok (.istore_n 3, 1) := by decide +kernel
theorem dX5_slotsOf_20 : decode cX5_slotsOf 20 = .ok (.aload_n 0, 1) := by decide +kernel
theorem dX5_slotsOf_21 : decode cX5_slotsOf 21 = .ok (.getfield 20, 3) := by decide +kernel
theorem dX5_slotsOf_24 : decode cX5_slotsOf 24 = .ok (.iconst 4, 1) := by decide +kernel
theorem dX5_slotsOf_25 : decode cX5_slotsOf 25 = .ok (.iload_n 1, 1) := by decide +kernel
theorem dX5_slotsOf_26 : decode cX5_slotsOf 26 = .ok (.imul, 1) := by decide +kernel
theorem dX5_slotsOf_27 : decode cX5_slotsOf 27 = .ok (.iconst 3, 1) := by decide +kernel
theorem dX5_slotsOf_28 : decode cX5_slotsOf 28 = .ok (.iadd, 1) := by decide +kernel
theorem dX5_slotsOf_29 : decode cX5_slotsOf 29 = .ok (.iaload, 1) := by decide +kernel
theorem dX5_slotsOf_30 : decode cX5_slotsOf 30 = .ok (.aload_n 0, 1) := by decide +kernel
theorem dX5_slotsOf_31 : decode cX5_slotsOf 31 = .ok (.getfield 20, 3) := by decide +kernel
theorem dX5_slotsOf_34 : decode cX5_slotsOf 34 = .ok (.iconst 4, 1) := by decide +kernel
theorem dX5_slotsOf_35 : decode cX5_slotsOf 35 = .ok (.iload_n 1, 1) := by decide +kernel
theorem dX5_slotsOf_36 : decode cX5_slotsOf 36 = .ok (.imul, 1) := by decide +kernel
theorem dX5_slotsOf_37 : decode cX5_slotsOf 37 = .ok (.iconst 1, 1) := by decide +kernel
theorem dX5_slotsOf_38 : decode cX5_slotsOf 38 = .ok (.iadd, 1) := by decide +kernel
theorem dX5_slotsOf_39 : decode cX5_slotsOf 39 = .ok (.iaload, 1) := by decide +kernel
theorem dX5_slotsOf_40 : decode cX5_slotsOf 40 = .ok (.isub, 1) := by decide +kernel
theorem dX5_slotsOf_41 : decode cX5_slotsOf 41 = .ok (.istore 4, 2) := by decide +kernel
theorem dX5_slotsOf_43 : decode cX5_slotsOf 43 = .ok (.iload_n 3, 1) := by decide +kernel
theorem dX5_slotsOf_44 : decode cX5_slotsOf 44 = .ok (.iload 4, 2) := by decide +kernel
theorem dX5_slotsOf_46 : decode cX5_slotsOf 46 = .ok (.if_icmp .lt 8, 3) := by decide +kernel
theorem dX5_slotsOf_49 : decode cX5_slotsOf 49 = .ok (.iload 4, 2) := by decide +kernel
theorem dX5_slotsOf_51 : decode cX5_slotsOf 51 = .ok (.goto 4, 3) := by decide +kernel
theorem dX5_slotsOf_54 : decode cX5_slotsOf 54 = .ok (.iload_n 3, 1) := by decide +kernel
theorem dX5_slotsOf_55 : decode cX5_slotsOf 55 = .ok (.istore 5, 2) := by decide +kernel
theorem dX5_slotsOf_57 : decode cX5_slotsOf 57 = .ok (.iload 5, 2) := by decide +kernel
theorem dX5_slotsOf_59 : decode cX5_slotsOf 59 = .ok (.iconst 2, 1) := by decide +kernel
theorem dX5_slotsOf_60 : decode cX5_slotsOf 60 = .ok (.iload_n 2, 1) := by decide +kernel
theorem dX5_slotsOf_61 : decode cX5_slotsOf 61 = .ok (.imul, 1) := by decide +kernel
theorem dX5_slotsOf_62 : decode cX5_slotsOf 62 = .ok (.iconst 2, 1) := by decide +kernel
theorem dX5_slotsOf_63 : decode cX5_slotsOf 63 = .ok (.iadd, 1) := by decide +kernel
theorem dX5_slotsOf_64 : decode cX5_slotsOf 64 = .ok (.if_icmp .ge 7, 3) := by decide +kernel
theorem dX5_slotsOf_67 : decode cX5_slotsOf 67 = .ok (.iconst 0, 1) := by decide +kernel
theorem dX5_slotsOf_68 : decode cX5_slotsOf 68 = .ok (.goto 11, 3) := by decide +kernel
theorem dX5_slotsOf_71 : decode cX5_slotsOf 71 = .ok (.iload 5, 2) := by decide +kernel
theorem dX5_slotsOf_73 : decode cX5_slotsOf 73 = .ok (.iload_n 2, 1) := by decide +kernel
theorem dX5_slotsOf_74 : decode cX5_slotsOf 74 = .ok (.isub, 1) := by decide +kernel
theorem dX5_slotsOf_75 : decode cX5_slotsOf 75 = .ok (.iload_n 2, 1) := by decide +kernel
theorem dX5_slotsOf_76 : decode cX5_slotsOf 76 = .ok (.iconst 2, 1) := by decide +kernel
theorem dX5_slotsOf_77 : decode cX5_slotsOf 77 = .ok (.iadd, 1) := by decide +kernel
theorem dX5_slotsOf_78 : decode cX5_slotsOf 78 = .ok (.idiv, 1) := by decide +kernel
theorem dX5_slotsOf_79 : decode cX5_slotsOf 79 = .ok (.ireturn, 1) := by decide +kernel
set_option maxRecDepth 20000 in
theorem ggX5_slot_X5_isLayer : GoodIn wsX5_slot wsX5_isLayer := goodIn_r _ [9, 10, 16, 17, 18, 19, 20, 21, 22, 23, 24, 25, 26, 27, 28, 29, 30, 31, 32, 33, 34, 35, 36, 37, 38, 39, 40, 41, 42, 43, 44, 45, 46] (by decide +kernel) (by decide +kernel)
set_option maxRecDepth 20000 in
theorem gX5_slot_X5_isLayer : GoodIn wsX5_slot (wsV RX5 121 RX5 yX5_isLayer wsX5_isLayer) := goodIn_app (goodIn_of _ (by decide +kernel)) ggX5_slot_X5_isLayer
set_option maxRecDepth 20000 in
theorem ggX5_slot_X5_slotsOf : GoodIn wsX5_slot wsX5_slotsOf := goodIn_r _ [14, 15, 16, 17, 18, 19, 20, 21, 22, 23, 24, 25, 26, 27, 28, 29, 30, 31, 32, 33, 34, 35, 36, 37, 38, 39, 40, 41, 42, 43, 44, 45, 46] (by decide +kernel) (by decide +kernel)
set_option maxRecDepth 20000 in
theorem gX5_slot_X5_slotsOf : GoodIn wsX5_slot (wsV RX5 221 RX5 yX5_slotsOf wsX5_slotsOf) := goodIn_app (goodIn_of _ (by decide +kernel)) ggX5_slot_X5_slotsOf
theorem dX5_slot_0 : decode cX5_slot 0 = .ok (.aload_n 0, 1) := by decide +kernel
theorem dX5_slot_1 : decode cX5_slot 1 = .ok (.aload_n 0, 1) := by decide +kernel
theorem dX5_slot_2 : decode cX5_slot 2 = .ok (.iload_n 1, 1) := by decide +kernel
theorem dX5_slot_3 : decode cX5_slot 3 = .ok (.invokevirtual 121, 3) := by decide +kernel
theorem dX5_slot_6 : decode cX5_slot 6 = .ok (.ifCond .ne 7, 3) := by decide +kernel
theorem dX5_slot_9 : decode cX5_slot 9 = .ok (.iconst 1, 1) := by decide +kernel
theorem dX5_slot_10 : decode cX5_slot 10 = .ok (.goto 22, 3) := by decide +kernel
theorem dX5_slot_13 : decode cX5_slot 13 = .ok (.lload_n 2, 1) := by decide +kernel
theorem dX5_slot_14 : decode cX5_slot 14 = .ok (.lconst 1, 1) := by decide +kernel
theorem dX5_slot_15 : decode cX5_slot 15 = .ok (.lcmp, 1) := by decide +kernel
theorem dX5_slot_16 : decode cX5_slot 16 = .ok (.ifCond .lt 11, 3) := by decide +kernel
theorem dX5_slot_19 : decode cX5_slot 19 = .ok (.lload_n 2, 1) := by decide +kernel
theorem dX5_slot_20 : decode cX5_slot 20 = .ok (.ldc2_w 219, 3) := by decide +kernel
theorem dX5_slot_23 : decode cX5_slot 23 = .ok (.lcmp, 1) := by decide +kernel
theorem dX5_slot_24 : decode cX5_slot 24 = .ok (.ifCond .le 7, 3) := by decide +kernel
theorem dX5_slot_27 : decode cX5_slot 27 = .ok (.iconst 2, 1) := by decide +kernel
theorem dX5_slot_28 : decode cX5_slot 28 = .ok (.goto 4, 3) := by decide +kernel
theorem dX5_slot_31 : decode cX5_slot 31 = .ok (.iconst 0, 1) := by decide +kernel
theorem dX5_slot_32 : decode cX5_slot 32 = .ok (.putfield 84, 3) := by decide +kernel
theorem dX5_slot_35 : decode cX5_slot 35 = .ok (.iconst 0, 1) := by decide +kernel
theorem dX5_slot_36 : decode cX5_slot 36 = .ok (.istore 4, 2) := by decide +kernel
theorem dX5_slot_38 : decode cX5_slot 38 = .ok (.iconst 0, 1) := by decide +kernel
theorem dX5_slot_39 : decode cX5_slot 39 = .ok (.istore 5, 2) := by decide +kernel
theorem dX5_slot_41 : decode cX5_slot 41 = .ok (.iload 5, 2) := by decide +kernel
theorem dX5_slot_43 : decode cX5_slot 43 = .ok (.aload_n 0, 1) := by decide +kernel
theorem dX5_slot_44 : decode cX5_slot 44 = .ok (.getfield 102, 3) := by decide +kernel
theorem dX5_slot_47 : decode cX5_slot 47 = .ok (.if_icmp .ge 44, 3) := by decide +kernel
theorem dX5_slot_50 : decode cX5_slot 50 = .ok (.aload_n 0, 1) := by decide +kernel
theorem dX5_slot_51 : decode cX5_slot 51 = .ok (.getfield 84, 3) := by decide +kernel
theorem dX5_slot_54 : decode cX5_slot 54 = .ok (.ifCond .ne 37, 3) := by decide +kernel
theorem dX5_slot_57 : decode cX5_slot 57 = .ok (.iload 4, 2) := by decide +kernel
theorem dX5_slot_59 : decode cX5_slot 59 = .ok (.aload_n 0, 1) := by decide +kernel
theorem dX5_slot_60 : decode cX5_slot 60 = .ok (.getfield 17, 3) := by decide +kernel
theorem dX5_slot_63 : decode cX5_slot 63 = .ok (.iload 5, 2) := by decide +kernel
theorem dX5_slot_65 : decode cX5_slot 65 = .ok (.iaload, 1) := by decide +kernel
theorem dX5_slot_66 : decode cX5_slot 66 = .ok (.iload_n 1, 1) := by decide +kernel
theorem dX5_slot_67 : decode cX5_slot 67 = .ok (.if_icmp .ne 14, 3) := by decide +kernel
theorem dX5_slot_70 : decode cX5_slot 70 = .ok (.aload_n 0, 1) := by decide +kernel
