theorem dX5_coveredBy_69 : decode cX5_coveredBy 69 = .ok (.imul, 1) := by decide +kernel
theorem dX5_coveredBy_70 : decode cX5_coveredBy 70 = .ok (.iconst 1, 1) := by decide +kernel
theorem dX5_coveredBy_71 : decode cX5_coveredBy 71 = .ok (.iadd, 1) := by decide +kernel
theorem dX5_coveredBy_72 : decode cX5_coveredBy 72 = .ok (.iaload, 1) := by decide +kernel
theorem dX5_coveredBy_73 : decode cX5_coveredBy 73 = .ok (.aload_n 0, 1) := by decide +kernel
theorem dX5_coveredBy_74 : decode cX5_coveredBy 74 = .ok (.getfield 20, 3) := by decide +kernel
theorem dX5_coveredBy_77 : decode cX5_coveredBy 77 = .ok (.iconst 4, 1) := by decide +kernel
theorem dX5_coveredBy_78 : decode cX5_coveredBy 78 = .ok (.iload 4, 2) := by decide +kernel
theorem dX5_coveredBy_80 : decode cX5_coveredBy 80 = .ok (.imul, 1) := by decide +kernel
theorem dX5_coveredBy_81 : decode cX5_coveredBy 81 = .ok (.iconst 2, 1) := by decide +kernel
theorem dX5_coveredBy_82 : decode cX5_coveredBy 82 = .ok (.iadd, 1) := by decide +kernel
theorem dX5_coveredBy_83 : decode cX5_coveredBy 83 = .ok (.iaload, 1) := by decide +kernel
theorem dX5_coveredBy_84 : decode cX5_coveredBy 84 = .ok (.aload_n 0, 1) := by decide +kernel
theorem dX5_coveredBy_85 : decode cX5_coveredBy 85 = .ok (.getfield 20, 3) := by decide +kernel
theorem dX5_coveredBy_88 : decode cX5_coveredBy 88 = .ok (.iconst 4, 1) := by decide +kernel
theorem dX5_coveredBy_89 : decode cX5_coveredBy 89 = .ok (.iload 4, 2) := by decide +kernel
theorem dX5_coveredBy_91 : decode cX5_coveredBy 91 = .ok (.imul, 1) := by decide +kernel
theorem dX5_coveredBy_92 : decode cX5_coveredBy 92 = .ok (.iconst 3, 1) := by decide +kernel
theorem dX5_coveredBy_93 : decode cX5_coveredBy 93 = .ok (.iadd, 1) := by decide +kernel
theorem dX5_coveredBy_94 : decode cX5_coveredBy 94 = .ok (.iaload, 1) := by decide +kernel
theorem dX5_coveredBy_95 : decode cX5_coveredBy 95 = .ok (.invokestatic 109, 3) := by decide +kernel
theorem dX5_coveredBy_98 : decode cX5_coveredBy 98 = .ok (.iinc 4 1, 3) := by decide +kernel
theorem dX5_coveredBy_101 : decode cX5_coveredBy 101 = .ok (.goto (-96), 3) := by decide +kernel
theorem dX5_coveredBy_104 : decode cX5_coveredBy 104 = .ok (.iload_n 3, 1) := by decide +kernel
theorem dX5_coveredBy_105 : decode cX5_coveredBy 105 = .ok (.ifCond .eq 18, 3) := by decide +kernel
theorem dX5_coveredBy_108 : decode cX5_coveredBy 108 = .ok (.aload_n 0, 1) := by decide +kernel
theorem dX5_coveredBy_109 : decode cX5_coveredBy 109 = .ok (.iconst 0, 1) := by decide +kernel
theorem dX5_coveredBy_110 : decode cX5_coveredBy 110 = .ok (.iconst 0, 1) := by decide +kernel
theorem dX5_coveredBy_111 : decode cX5_coveredBy 111 = .ok (.sipush 1000, 3) := by decide +kernel
theorem dX5_coveredBy_114 : decode cX5_coveredBy 114 = .ok (.sipush 1000, 3) := by decide +kernel
theorem dX5_coveredBy_117 : decode cX5_coveredBy 117 = .ok (.invokevirtual 113, 3) := by decide +kernel
theorem dX5_coveredBy_120 : decode cX5_coveredBy 120 = .ok (.goto 4, 3) := by decide +kernel
theorem dX5_coveredBy_123 : decode cX5_coveredBy 123 = .ok (.iconst 0, 1) := by decide +kernel
theorem dX5_coveredBy_124 : decode cX5_coveredBy 124 = .ok (.ireturn, 1) := by decide +kernel
set_option maxRecDepth 20000 in
theorem ggX5_shape_X5_isNet : GoodIn wsX5_shape wsX5_isNet := goodIn_r _ [10, 11, 43, 44, 45, 46, 47, 48, 49, 50, 51, 52, 53, 54, 55, 56, 57, 58, 59, 60, 61, 62, 63, 64, 65, 66, 67, 68, 69, 70, 71, 72, 73] (by decide +kernel) (by decide +kernel)
set_option maxRecDepth 20000 in
theorem gX5_shape_X5_isNet : GoodIn wsX5_shape (wsV RX5 117 RX5 yX5_isNet wsX5_isNet) := goodIn_app (goodIn_of _ (by decide +kernel)) ggX5_shape_X5_isNet
set_option maxRecDepth 20000 in
theorem ggX5_shape_X5_isLayer : GoodIn wsX5_shape wsX5_isLayer := goodIn_r _ [15, 16, 43, 44, 45, 46, 47, 48, 49, 50, 51, 52, 53, 54, 55, 56, 57, 58, 59, 60, 61, 62, 63, 64, 65, 66, 67, 68, 69, 70, 71, 72, 73] (by decide +kernel) (by decide +kernel)
set_option maxRecDepth 20000 in
theorem gX5_shape_X5_isLayer : GoodIn wsX5_shape (wsV RX5 121 RX5 yX5_isLayer wsX5_isLayer) := goodIn_app (goodIn_of _ (by decide +kernel)) ggX5_shape_X5_isLayer
set_option maxRecDepth 20000 in
theorem ggX5_shape_X5_isSide : GoodIn wsX5_shape wsX5_isSide := goodIn_r _ [19, 20] (by decide +kernel) (by decide +kernel)
set_option maxRecDepth 20000 in
theorem gX5_shape_X5_isSide : GoodIn wsX5_shape (va_wsS RX5 124 yX5_isSide wsX5_isSide) := goodIn_app (goodIn_of _ (by decide +kernel)) ggX5_shape_X5_isSide
set_option maxRecDepth 20000 in
theorem ggX5_shape_X5_coveredBy : GoodIn wsX5_shape wsX5_coveredBy := goodIn_r _ [24, 1, 3, 4, 25, 5, 26, 27, 9, 28, 29, 30, 31, 32, 33, 34, 35, 36, 37, 38, 39, 40, 41, 42, 43, 44, 45, 46, 47, 48, 49, 50, 51, 52, 53, 54, 55, 56, 57, 58, 59, 60, 61, 62, 63, 64, 65, 66, 67, 68, 69, 70, 71, 72, 73] (by decide +kernel) (by decide +kernel)
set_option maxRecDepth 20000 in
theorem gX5_shape_X5_coveredBy : GoodIn wsX5_shape (wsV RX5 128 RX5 yX5_coveredBy wsX5_coveredBy) := goodIn_app (goodIn_of _ (by decide +kernel)) ggX5_shape_X5_coveredBy
theorem dX5_shape_0 : decode cX5_shape 0 = .ok (.aload_n 0, 1) := by decide +kernel
theorem dX5_shape_1 : decode cX5_shape 1 = .ok (.aload_n 0, 1) := by decide +kernel
theorem dX5_shape_2 : decode cX5_shape 2 = .ok (.iload_n 1, 1) := by decide +kernel
theorem dX5_shape_3 : decode cX5_shape 3 = .ok (.invokevirtual 117, 3) := by decide +kernel
theorem dX5_shape_6 : decode cX5_shape 6 = .ok (.ifCond .eq 11, 3) := by decide +kernel
theorem dX5_shape_9 : decode cX5_shape 9 = .ok (.aload_n 0, 1) := by decide +kernel
theorem dX5_shape_10 : decode cX5_shape 10 = .ok (.iload_n 2, 1) := by decide +kernel
theorem dX5_shape_11 : decode cX5_shape 11 = .ok (.invokevirtual 121, 3) := by decide +kernel
theorem dX5_shape_14 : decode cX5_shape 14 = .ok (.ifCond .ne 7, 3) := by decide +kernel
theorem dX5_shape_17 : decode cX5_shape 17 = .ok (.iconst 1, 1) := by decide +kernel
theorem dX5_shape_18 : decode cX5_shape 18 = .ok (.goto 41, 3) := by decide +kernel
theorem dX5_shape_21 : decode cX5_shape 21 = .ok (.aload_n 0, 1) := by decide +kernel
theorem dX5_shape_22 : decode cX5_shape 22 = .ok (.getfield 102, 3) := by decide +kernel
theorem dX5_shape_25 : decode cX5_shape 25 = .ok (.sipush 200, 3) := by decide +kernel
theorem dX5_shape_28 : decode cX5_shape 28 = .ok (.if_icmp .ne 7, 3) := by decide +kernel
theorem dX5_shape_31 : decode cX5_shape 31 = .ok (.iconst 2, 1) := by decide +kernel
theorem dX5_shape_32 : decode cX5_shape 32 = .ok (.goto 27, 3) := by decide +kernel
theorem dX5_shape_35 : decode cX5_shape 35 = .ok (.lload_n 3, 1) := by decide +kernel
theorem dX5_shape_36 : decode cX5_shape 36 = .ok (.lload 7, 2) := by decide +kernel
theorem dX5_shape_38 : decode cX5_shape 38 = .ok (.invokestatic 124, 3) := by decide +kernel
theorem dX5_shape_41 : decode cX5_shape 41 = .ok (.ifCond .eq 17, 3) := by decide +kernel
theorem dX5_shape_44 : decode cX5_shape 44 = .ok (.lload 5, 2) := by decide +kernel
theorem dX5_shape_46 : decode cX5_shape 46 = .ok (.lload 9, 2) := by decide +kernel
theorem dX5_shape_48 : decode cX5_shape 48 = .ok (.invokestatic 124, 3) := by decide +kernel
theorem dX5_shape_51 : decode cX5_shape 51 = .ok (.ifCond .eq 7, 3) := by decide +kernel
theorem dX5_shape_54 : decode cX5_shape 54 = .ok (.iconst 0, 1) := by decide +kernel
theorem dX5_shape_55 : decode cX5_shape 55 = .ok (.goto 4, 3) := by decide +kernel
theorem dX5_shape_58 : decode cX5_shape 58 = .ok (.iconst 3, 1) := by decide +kernel
theorem dX5_shape_59 : decode cX5_shape 59 = .ok (.putfield 84, 3) := by decide +kernel
theorem dX5_shape_62 : decode cX5_shape 62 = .ok (.aload_n 0, 1) := by decide +kernel
theorem dX5_shape_63 : decode cX5_shape 63 = .ok (.getfield 84, 3) := by decide +kernel
theorem dX5_shape_66 : decode cX5_shape 66 = .ok (.ifCond .le 5, 3) := by decide +kernel
theorem dX5_shape_69 : decode cX5_shape 69 = .ok (.iconst 0, 1) := by decide +kernel
theorem dX5_shape_70 : decode cX5_shape 70 = .ok (.ireturn, 1) := by decide +kernel
theorem dX5_shape_71 : decode cX5_shape 71 = .ok (.aload_n 0, 1) := by decide +kernel
theorem dX5_shape_72 : decode cX5_shape 72 = .ok (.iload_n 1, 1) := by decide +kernel
theorem dX5_shape_73 : decode cX5_shape 73 = .ok (.iload_n 2, 1) := by decide +kernel
theorem dX5_shape_74 : decode cX5_shape 74 = .ok (.invokevirtual 128, 3) := by decide +kernel
theorem dX5_shape_77 : decode cX5_shape 77 = .ok (.istore 11, 2) := by decide +kernel
theorem dX5_shape_79 : decode cX5_shape 79 = .ok (.aload_n 0, 1) := by decide +kernel
theorem dX5_shape_80 : decode cX5_shape 80 = .ok (.getfield 13, 3) := by decide +kernel
theorem dX5_shape_83 : decode cX5_shape 83 = .ok (.aload_n 0, 1) := by decide +kernel
theorem dX5_shape_84 : decode cX5_shape 84 = .ok (.getfield 102, 3) := by decide +kernel
theorem dX5_shape_87 : decode cX5_shape 87 = .ok (.iload_n 1, 1) := by decide +kernel
theorem dX5_shape_88 : decode cX5_shape 88 = .ok (.iastore, 1) := by decide +kernel
theorem dX5_shape_89 : decode cX5_shape 89 = .ok (.aload_n 0, 1) := by decide +kernel
theorem dX5_shape_90 : decode cX5_shape 90 = .ok (.getfield 17, 3) := by decide +kernel
theorem dX5_shape_93 : decode cX5_shape 93 = .ok (.aload_n 0, 1) := by decide +kernel
theorem dX5_shape_94 : decode cX5_shape 94 = .ok (.getfield 102, 3) := by decide +kernel
theorem dX5_shape_97 : decode cX5_shape 97 = .ok (.iload_n 2, 1) := by decide +kernel
theorem dX5_shape_98 : decode cX5_shape 98 = .ok (.iastore, 1) := by decide +kernel
theorem dX5_shape_99 : decode cX5_shape 99 = .ok (.aload_n 0, 1) := by decide +kernel
theorem dX5_shape_100 : decode cX5_shape 100 = .ok (.getfield 20, 3) := by decide +kernel
theorem dX5_shape_103 : decode cX5_shape 103 = .ok (.iconst 4, 1) := by decide +kernel
theorem dX5_shape_104 : decode cX5_shape 104 = .ok (.aload_n 0, 1) := by decide +kernel
theorem dX5_shape_105 : decode cX5_shape 105 = .ok (.getfield 102, 3) := by decide +kernel
theorem dX5_shape_108 : decode cX5_shape 108 = .ok (.imul, 1) := by decide +kernel
theorem dX5_shape_109 : decode cX5_shape 109 = .ok (.lload_n 3, 1) := by decide +kernel
theorem dX5_shape_110 : decode cX5_shape 110 = .ok (.l2i, 1) := by decide +kernel
theorem dX5_shape_111 : decode cX5_shape 111 = .ok (.iastore, 1) := by decide +kernel
theorem dX5_shape_112 : decode cX5_shape 112 = .ok (.aload_n 0, 1) := by decide +kernel
theorem dX5_shape_113 : decode cX5_shape 113 = .ok (.getfield 20, 3) := by decide +kernel
theorem dX5_shape_116 : decode cX5_shape 116 = .ok (.iconst 4, 1) := by decide +kernel
theorem dX5_shape_117 : decode cX5_shape 117 = .ok (.aload_n 0, 1) := by decide +kernel
theorem dX5_shape_118 : decode cX5_shape 118 = .ok (.getfield 102, 3) := by decide +kernel
theorem dX5_shape_121 : decode cX5_shape 121 = .ok (.imul, 1) := by decide +kernel
theorem dX5_shape_122 : decode cX5_shape 122 = .ok (.iconst 1, 1) := by decide +kernel
theorem dX5_shape_123 : decode cX5_shape 123 = .ok (.iadd, 1) := by decide +kernel
theorem dX5_shape_124 : decode cX5_shape 124 = .ok (.lload 5, 2) := by decide +kernel
theorem dX5_shape_126 : decode cX5_shape 126 = .ok (.l2i, 1) := by decide +kernel
theorem dX5_shape_127 : decode cX5_shape 127 = .ok (.iastore, 1) := by decide +kernel
theorem dX5_shape_128 : decode cX5_shape 128 = .ok (.aload_n 0, 1) := by decide +kernel
theorem dX5_shape_129 : decode cX5_shape 129 = .ok (.getfield 20, 3) := by decide +kernel
theorem dX5_shape_132 : decode cX5_shape 132 = .ok (.iconst 4, 1) := by decide +kernel
theorem dX5_shape_133 : decode cX5_shape 133 = .ok (.aload_n 0, 1) := by decide +kernel
theorem dX5_shape_134 : decode cX5_shape 134 = .ok (.getfield 102, 3) := by decide +kernel
theorem dX5_shape_137 : decode cX5_shape 137 = .ok (.imul, 1) := by decide +kernel
theorem dX5_shape_138 : decode cX5_shape 138 = .ok (.iconst 2, 1) := by decide +kernel
theorem dX5_shape_139 : decode cX5_shape 139 = .ok (.iadd, 1) := by decide +kernel
theorem dX5_shape_140 : decode cX5_shape 140 = .ok (.lload 7, 2) := by decide +kernel
theorem dX5_shape_142 : decode cX5_shape 142 = .ok (.l2i, 1) := by decide +kernel
theorem dX5_shape_143 : decode cX5_shape 143 = .ok (.iastore, 1) := by decide +kernel
theorem dX5_shape_144 : decode cX5_shape 144 = .ok (.aload_n 0, 1) := by decide +kernel
theorem dX5_shape_145 : decode cX5_shape 145 = .ok (.getfield 20, 3) := by decide +kernel
theorem dX5_shape_148 : decode cX5_shape 148 = .ok (.iconst 4, 1) := by decide +kernel
theorem dX5_shape_149 : decode cX5_shape 149 = .ok (.aload_n 0, 1) := by decide +kernel
theorem dX5_shape_150 : decode cX5_shape 150 = .ok (.getfield 102, 3) := by decide +kernel
theorem dX5_shape_153 : decode cX5_shape 153 = .ok (.imul, 1) := by decide +kernel
theorem dX5_shape_154 : decode cX5_shape 154 = .ok (.iconst 3, 1) := by decide +kernel
theorem dX5_shape_155 : decode cX5_shape 155 = .ok (.iadd, 1) := by decide +kernel
theorem dX5_shape_156 : decode cX5_shape 156 = .ok (.lload 9, 2) := by decide +kernel
theorem dX5_shape_158 : decode cX5_shape 158 = .ok (.l2i, 1) := by decide +kernel
theorem dX5_shape_159 : decode cX5_shape 159 = .ok (.iastore, 1) := by decide +kernel
theorem dX5_shape_160 : decode cX5_shape 160 = .ok (.aload_n 0, 1) := by decide +kernel
theorem dX5_shape_161 : decode cX5_shape 161 = .ok (.dup, 1) := by decide +kernel
theorem dX5_shape_162 : decode cX5_shape 162 = .ok (.getfield 102, 3) := by decide +kernel
theorem dX5_shape_165 : decode cX5_shape 165 = .ok (.iconst 1, 1) := by decide +kernel
theorem dX5_shape_166 : decode cX5_shape 166 = .ok (.iadd, 1) := by decide +kernel
theorem dX5_shape_167 : decode cX5_shape 167 = .ok (.putfield 102, 3) := by decide +kernel
theorem dX5_shape_170 : decode cX5_shape 170 = .ok (.aload_n 0, 1) := by decide +kernel
theorem dX5_shape_171 : decode cX5_shape 171 = .ok (.iload_n 1, 1) := by decide +kernel
theorem dX5_shape_172 : decode cX5_shape 172 = .ok (.iload_n 2, 1) := by decide +kernel
theorem dX5_shape_173 : decode cX5_shape 173 = .ok (.invokevirtual 128, 3) := by decide +kernel
theorem dX5_shape_176 : decode cX5_shape 176 = .ok (.iload 11, 2) := by decide +kernel
theorem dX5_shape_178 : decode cX5_shape 178 = .ok (.if_icmp .le 7, 3) := by decide +kernel
theorem dX5_shape_181 : decode cX5_shape 181 = .ok (.iconst 1, 1) := by decide +kernel
theorem dX5_shape_182 : decode cX5_shape 182 = .ok (.goto 4, 3) := by decide +kernel
theorem dX5_shape_185 : decode cX5_shape 185 = .ok (.iconst 0, 1) := by decide +kernel
theorem dX5_shape_186 : decode cX5_shape 186 = .ok (.ireturn, 1) := by decide +kernel
set_option maxRecDepth 20000 in
theorem ggX5_gate_X5_isNet : GoodIn wsX5_gate wsX5_isNet := goodIn_r _ [9, 10, 11, 12, 13, 14, 15, 16, 17, 18, 19, 20, 21, 22, 23, 24, 25, 26, 27, 28, 29, 30, 31, 32, 33, 34, 35, 36, 37, 38, 39, 40, 41] (by decide +kernel) (by decide +kernel)
set_option maxRecDepth 20000 in
theorem gX5_gate_X5_isNet : GoodIn wsX5_gate (wsV RX5 117 RX5 yX5_isNet wsX5_isNet) := goodIn_app (goodIn_of _ (by decide +kernel)) ggX5_gate_X5_isNet
theorem dX5_gate_0 : decode cX5_gate 0 = .ok (.aload_n 0, 1) := by decide +kernel
theorem dX5_gate_1 : decode cX5_gate 1 = .ok (.aload_n 0, 1) := by decide +kernel
theorem dX5_gate_2 : decode cX5_gate 2 = .ok (.iload_n 1, 1) := by decide +kernel
theorem dX5_gate_3 : decode cX5_gate 3 = .ok (.invokevirtual 117, 3) := by decide +kernel
theorem dX5_gate_6 : decode cX5_gate 6 = .ok (.ifCond .ne 7, 3) := by decide +kernel
theorem dX5_gate_9 : decode cX5_gate 9 = .ok (.iconst 1, 1) := by decide +kernel
theorem dX5_gate_10 : decode cX5_gate 10 = .ok (.goto 37, 3) := by decide +kernel
theorem dX5_gate_13 : decode cX5_gate 13 = .ok (.lload_n 2, 1) := by decide +kernel
theorem dX5_gate_14 : decode cX5_gate 14 = .ok (.lconst 1, 1) := by decide +kernel
theorem dX5_gate_15 : decode cX5_gate 15 = .ok (.lcmp, 1) := by decide +kernel
theorem dX5_gate_16 : decode cX5_gate 16 = .ok (.ifCond .lt 26, 3) := by decide +kernel
theorem dX5_gate_19 : decode cX5_gate 19 = .ok (.lload_n 2, 1) := by decide +kernel
theorem dX5_gate_20 : decode cX5_gate 20 = .ok (.ldc2_w 132, 3) := by decide +kernel
theorem dX5_gate_23 : decode cX5_gate 23 = .ok (.lcmp, 1) := by decide +kernel
theorem dX5_gate_24 : decode cX5_gate 24 = .ok (.ifCond .gt 18, 3) := by decide +kernel
theorem dX5_gate_27 : decode cX5_gate 27 = .ok (.aload_n 0, 1) := by decide +kernel
theorem dX5_gate_28 : decode cX5_gate 28 = .ok (.getfield 7, 3) := by decide +kernel
theorem dX5_gate_31 : decode cX5_gate 31 = .ok (.iload_n 1, 1) := by decide +kernel
theorem dX5_gate_32 : decode cX5_gate 32 = .ok (.laload, 1) := by decide +kernel
theorem dX5_gate_33 : decode cX5_gate 33 = .ok (.lload_n 2, 1) := by decide +kernel
theorem dX5_gate_34 : decode cX5_gate 34 = .ok (.ladd, 1) := by decide +kernel
theorem dX5_gate_35 : decode cX5_gate 35 = .ok (.ldc2_w 134, 3) := by decide +kernel
theorem dX5_gate_38 : decode cX5_gate 38 = .ok (.lcmp, 1) := by decide +kernel
theorem dX5_gate_39 : decode cX5_gate 39 = .ok (.ifCond .le 7, 3) := by decide +kernel
theorem dX5_gate_42 : decode cX5_gate 42 = .ok (.iconst 2, 1) := by decide +kernel
theorem dX5_gate_43 : decode cX5_gate 43 = .ok (.goto 4, 3) := by decide +kernel
theorem dX5_gate_46 : decode cX5_gate 46 = .ok (.iconst 0, 1) := by decide +kernel
theorem dX5_gate_47 : decode cX5_gate 47 = .ok (.putfield 84, 3) := by decide +kernel
theorem dX5_gate_50 : decode cX5_gate 50 = .ok (.aload_n 0, 1) := by decide +kernel
theorem dX5_gate_51 : decode cX5_gate 51 = .ok (.getfield 84, 3) := by decide +kernel
theorem dX5_gate_54 : decode cX5_gate 54 = .ok (.ifCond .le 5, 3) := by decide +kernel
theorem dX5_gate_57 : decode cX5_gate 57 = .ok (.lconst 0, 1) := by decide +kernel
theorem dX5_gate_58 : decode cX5_gate 58 = .ok (.lreturn, 1) := by decide +kernel
theorem dX5_gate_59 : decode cX5_gate 59 = .ok (.aload_n 0, 1) := by decide +kernel
theorem dX5_gate_60 : decode cX5_gate 60 = .ok (.getfield 7, 3) := by decide +kernel
theorem dX5_gate_63 : decode cX5_gate 63 = .ok (.iload_n 1, 1) := by decide +kernel
theorem dX5_gate_64 : decode cX5_gate 64 = .ok (.dup2, 1) := by decide +kernel
theorem dX5_gate_65 : decode cX5_gate 65 = .ok (.laload, 1) := by decide +kernel
theorem dX5_gate_66 : decode cX5_gate 66 = .ok (.lload_n 2, 1) := by decide +kernel
theorem dX5_gate_67 : decode cX5_gate 67 = .ok (.ladd, 1) := by decide +kernel
theorem dX5_gate_68 : decode cX5_gate 68 = .ok (.lastore, 1) := by decide +kernel
theorem dX5_gate_69 : decode cX5_gate 69 = .ok (.aload_n 0, 1) := by decide +kernel
theorem dX5_gate_70 : decode cX5_gate 70 = .ok (.getfield 7, 3) := by decide +kernel
theorem dX5_gate_73 : decode cX5_gate 73 = .ok (.iload_n 1, 1) := by decide +kernel
theorem dX5_gate_74 : decode cX5_gate 74 = .ok (.laload, 1) := by decide +kernel
theorem dX5_gate_75 : decode cX5_gate 75 = .ok (.lreturn, 1) := by decide +kernel
set_option maxRecDepth 20000 in
theorem ggX5_diode_X5_isNet : GoodIn wsX5_diode wsX5_isNet := goodIn_r _ [14, 15, 21, 22, 23, 24, 25, 26, 27, 28, 29, 30, 31, 32, 33, 34, 35, 36, 37, 38, 39, 40, 41, 42, 43, 44, 45, 46, 47, 48, 49, 50, 51] (by decide +kernel) (by decide +kernel)
set_option maxRecDepth 20000 in
theorem gX5_diode_X5_isNet : GoodIn wsX5_diode (wsV RX5 117 RX5 yX5_isNet wsX5_isNet) := goodIn_app (goodIn_of _ (by decide +kernel)) ggX5_diode_X5_isNet
set_option maxRecDepth 20000 in
theorem ggX5_diode_X5_isLayer : GoodIn wsX5_diode wsX5_isLayer := goodIn_r _ [19, 20, 21, 22, 23, 24, 25, 26, 27, 28, 29, 30, 31, 32, 33, 34, 35, 36, 37, 38, 39, 40, 41, 42, 43, 44, 45, 46, 47, 48, 49, 50, 51] (by decide +kernel) (by decide +kernel)
set_option maxRecDepth 20000 in
theorem gX5_diode_X5_isLayer : GoodIn wsX5_diode (wsV RX5 121 RX5 yX5_isLayer wsX5_isLayer) := goodIn_app (goodIn_of _ (by decide +kernel)) ggX5_diode_X5_isLayer
theorem dX5_diode_0 : decode cX5_diode 0 = .ok (.aload_n 0, 1) := by decide +kernel
theorem dX5_diode_1 : decode cX5_diode 1 = .ok (.aload_n 0, 1) := by decide +kernel
theorem dX5_diode_2 : decode cX5_diode 2 = .ok (.iload_n 1, 1) := by decide +kernel
theorem dX5_diode_3 : decode cX5_diode 3 = .ok (.invokevirtual 117, 3) := by decide +kernel
theorem dX5_diode_6 : decode cX5_diode 6 = .ok (.ifCond .eq 11, 3) := by decide +kernel
theorem dX5_diode_9 : decode cX5_diode 9 = .ok (.aload_n 0, 1) := by decide +kernel
theorem dX5_diode_10 : decode cX5_diode 10 = .ok (.iload_n 2, 1) := by decide +kernel
theorem dX5_diode_11 : decode cX5_diode 11 = .ok (.invokevirtual 121, 3) := by decide +kernel
theorem dX5_diode_14 : decode cX5_diode 14 = .ok (.ifCond .ne 7, 3) := by decide +kernel
theorem dX5_diode_17 : decode cX5_diode 17 = .ok (.iconst 1, 1) := by decide +kernel
theorem dX5_diode_18 : decode cX5_diode 18 = .ok (.goto 35, 3) := by decide +kernel
theorem dX5_diode_21 : decode cX5_diode 21 = .ok (.aload_n 0, 1) := by decide +kernel
theorem dX5_diode_22 : decode cX5_diode 22 = .ok (.getfield 136, 3) := by decide +kernel
theorem dX5_diode_25 : decode cX5_diode 25 = .ok (.bipush 100, 2) := by decide +kernel
theorem dX5_diode_27 : decode cX5_diode 27 = .ok (.if_icmp .ne 7, 3) := by decide +kernel
theorem dX5_diode_30 : decode cX5_diode 30 = .ok (.iconst 2, 1) := by decide +kernel
theorem dX5_diode_31 : decode cX5_diode 31 = .ok (.goto 22, 3) := by decide +kernel
theorem dX5_diode_34 : decode cX5_diode 34 = .ok (.lload_n 3, 1) := by decide +kernel
theorem dX5_diode_35 : decode cX5_diode 35 = .ok (.lconst 1, 1) := by decide +kernel
theorem dX5_diode_36 : decode cX5_diode 36 = .ok (.lcmp, 1) := by decide +kernel
theorem dX5_diode_37 : decode cX5_diode 37 = .ok (.ifCond .lt 11, 3) := by decide +kernel
theorem dX5_diode_40 : decode cX5_diode 40 = .ok (.lload_n 3, 1) := by decide +kernel
theorem dX5_diode_41 : decode cX5_diode 41 = .ok (.ldc2_w 132, 3) := by decide +kernel
theorem dX5_diode_44 : decode cX5_diode 44 = .ok (.lcmp, 1) := by decide +kernel
theorem dX5_diode_45 : decode cX5_diode 45 = .ok (.ifCond .le 7, 3) := by decide +kernel
theorem dX5_diode_48 : decode cX5_diode 48 = .ok (.iconst 3, 1) := by decide +kernel
theorem dX5_diode_49 : decode cX5_diode 49 = .ok (.goto 4, 3) := by decide +kernel
theorem dX5_diode_52 : decode cX5_diode 52 = .ok (.iconst 0, 1) := by decide +kernel
theorem dX5_diode_53 : decode cX5_diode 53 = .ok (.putfield 84, 3) := by decide +kernel
theorem dX5_diode_56 : decode cX5_diode 56 = .ok (.aload_n 0, 1) := by decide +kernel
theorem dX5_diode_57 : decode cX5_diode 57 = .ok (.getfield 84, 3) := by decide +kernel
theorem dX5_diode_60 : decode cX5_diode 60 = .ok (.ifCond .le 5, 3) := by decide +kernel
theorem dX5_diode_63 : decode cX5_diode 63 = .ok (.iconst 0, 1) := by decide +kernel
theorem dX5_diode_64 : decode cX5_diode 64 = .ok (.ireturn, 1) := by decide +kernel
theorem dX5_diode_65 : decode cX5_diode 65 = .ok (.iconst 1, 1) := by decide +kernel
theorem dX5_diode_66 : decode cX5_diode 66 = .ok (.istore 5, 2) := by decide +kernel
theorem dX5_diode_68 : decode cX5_diode 68 = .ok (.iconst 0, 1) := by decide +kernel
theorem dX5_diode_69 : decode cX5_diode 69 = .ok (.istore 6, 2) := by decide +kernel
theorem dX5_diode_71 : decode cX5_diode 71 = .ok (.iload 6, 2) := by decide +kernel
theorem dX5_diode_73 : decode cX5_diode 73 = .ok (.aload_n 0, 1) := by decide +kernel
theorem dX5_diode_74 : decode cX5_diode 74 = .ok (.getfield 136, 3) := by decide +kernel
theorem dX5_diode_77 : decode cX5_diode 77 = .ok (.if_icmp .ge 43, 3) := by decide +kernel
theorem dX5_diode_80 : decode cX5_diode 80 = .ok (.iload 5, 2) := by decide +kernel
theorem dX5_diode_82 : decode cX5_diode 82 = .ok (.ifCond .eq 29, 3) := by decide +kernel
theorem dX5_diode_85 : decode cX5_diode 85 = .ok (.aload_n 0, 1) := by decide +kernel
theorem dX5_diode_86 : decode cX5_diode 86 = .ok (.getfield 23, 3) := by decide +kernel
theorem dX5_diode_89 : decode cX5_diode 89 = .ok (.iload 6, 2) := by decide +kernel
theorem dX5_diode_91 : decode cX5_diode 91 = .ok (.iaload, 1) := by decide +kernel
theorem dX5_diode_92 : decode cX5_diode 92 = .ok (.iload_n 1, 1) := by decide +kernel
theorem dX5_diode_93 : decode cX5_diode 93 = .ok (.if_icmp .ne 14, 3) := by decide +kernel
theorem dX5_diode_96 : decode cX5_diode 96 = .ok (.aload_n 0, 1) := by decide +kernel
theorem dX5_diode_97 : decode cX5_diode 97 = .ok (.getfield 26, 3) := by decide +kernel
theorem dX5_diode_100 : decode cX5_diode 100 = .ok (.iload 6, 2) := by decide +kernel
theorem dX5_diode_102 : decode cX5_diode 102 = .ok (.iaload, 1) := by decide +kernel
theorem dX5_diode_103 : decode cX5_diode 103 = .ok (.iload_n 2, 1) := by decide +kernel
theorem dX5_diode_104 : decode cX5_diode 104 = .ok (.if_icmp .eq 7, 3) := by decide +kernel
theorem dX5_diode_107 : decode cX5_diode 107 = .ok (.iconst 1, 1) := by decide +kernel
theorem dX5_diode_108 : decode cX5_diode 108 = .ok (.goto 4, 3) := by decide +kernel
theorem dX5_diode_111 : decode cX5_diode 111 = .ok (.iconst 0, 1) := by decide +kernel
theorem dX5_diode_112 : decode cX5_diode 112 = .ok (.istore 5, 2) := by decide +kernel
theorem dX5_diode_114 : decode cX5_diode 114 = .ok (.iinc 6 1, 3) := by decide +kernel
theorem dX5_diode_117 : decode cX5_diode 117 = .ok (.goto (-46), 3) := by decide +kernel
theorem dX5_diode_120 : decode cX5_diode 120 = .ok (.iconst 0, 1) := by decide +kernel
theorem dX5_diode_121 : decode cX5_diode 121 = .ok (.istore 6, 2) := by decide +kernel
theorem dX5_diode_123 : decode cX5_diode 123 = .ok (.iload 6, 2) := by decide +kernel
theorem dX5_diode_125 : decode cX5_diode 125 = .ok (.aload_n 0, 1) := by decide +kernel
theorem dX5_diode_126 : decode cX5_diode 126 = .ok (.getfield 139, 3) := by decide +kernel
theorem dX5_diode_129 : decode cX5_diode 129 = .ok (.if_icmp .ge 43, 3) := by decide +kernel
theorem dX5_diode_132 : decode cX5_diode 132 = .ok (.iload 5, 2) := by decide +kernel
theorem dX5_diode_134 : decode cX5_diode 134 = .ok (.ifCond .eq 29, 3) := by decide +kernel
theorem dX5_diode_137 : decode cX5_diode 137 = .ok (.aload_n 0, 1) := by decide +kernel
theorem dX5_diode_138 : decode cX5_diode 138 = .ok (.getfield 32, 3) := by decide +kernel
theorem dX5_diode_141 : decode cX5_diode 141 = .ok (.iload 6, 2) := by decide +kernel
theorem dX5_diode_143 : decode cX5_diode 143 = .ok (.iaload, 1) := by decide +kernel
theorem dX5_diode_144 : decode cX5_diode 144 = .ok (.iload_n 1, 1) := by decide +kernel
theorem dX5_diode_145 : decode cX5_diode 145 = .ok (.if_icmp .ne 14, 3) := by decide +kernel
theorem dX5_diode_148 : decode cX5_diode 148 = .ok (.aload_n 0, 1) := by decide +kernel
theorem dX5_diode_149 : decode cX5_diode 149 = .ok (.getfield 35, 3) := by decide +kernel
theorem dX5_diode_152 : decode cX5_diode 152 = .ok (.iload 6, 2) := by decide +kernel
theorem dX5_diode_154 : decode cX5_diode 154 = .ok (.iaload, 1) := by decide +kernel
theorem dX5_diode_155 : decode cX5_diode 155 = .ok (.iload_n 2, 1) := by decide +kernel
theorem dX5_diode_156 : decode cX5_diode 156 = .ok (.if_icmp .eq 7, 3) := by decide +kernel
theorem dX5_diode_159 : decode cX5_diode 159 = .ok (.iconst 1, 1) := by decide +kernel
theorem dX5_diode_160 : decode cX5_diode 160 = .ok (.goto 4, 3) := by decide +kernel
theorem dX5_diode_163 : decode cX5_diode 163 = .ok (.iconst 0, 1) := by decide +kernel
theorem dX5_diode_164 : decode cX5_diode 164 = .ok (.istore 5, 2) := by decide +kernel
theorem dX5_diode_166 : decode cX5_diode 166 = .ok (.iinc 6 1, 3) := by decide +kernel
theorem dX5_diode_169 : decode cX5_diode 169 = .ok (.goto (-46), 3) := by decide +kernel
theorem dX5_diode_172 : decode cX5_diode 172 = .ok (.aload_n 0, 1) := by decide +kernel
theorem dX5_diode_173 : decode cX5_diode 173 = .ok (.getfield 23, 3) := by decide +kernel
theorem dX5_diode_176 : decode cX5_diode 176 = .ok (.aload_n 0, 1) := by decide +kernel
theorem dX5_diode_177 : decode cX5_diode 177 = .ok (.getfield 136, 3) := by decide +kernel
theorem dX5_diode_180 : decode cX5_diode 180 = .ok (.iload_n 1, 1) := by decide +kernel
theorem dX5_diode_181 : decode cX5_diode 181 = .ok (.iastore, 1) := by decide +kernel
theorem dX5_diode_182 : decode cX5_diode 182 = .ok (.aload_n 0, 1) := by decide +kernel
theorem dX5_diode_183 : decode cX5_diode 183 = .ok (.getfield 26, 3) := by decide +kernel
theorem dX5_diode_186 : decode cX5_diode 186 = .ok (.aload_n 0, 1) := by decide +kernel
theorem dX5_diode_187 : decode cX5_diode 187 = .ok (.getfield 136, 3) := by decide +kernel
theorem dX5_diode_190 : decode cX5_diode 190 = .ok (.iload_n 2, 1) := by decide +kernel
theorem dX5_diode_191 : decode cX5_diode 191 = .ok (.iastore, 1) := by decide +kernel
theorem dX5_diode_192 : decode cX5_diode 192 = .ok (.aload_n 0, 1) := by decide +kernel
theorem dX5_diode_193 : decode cX5_diode 193 = .ok (.getfield 29, 3) := by decide +kernel
theorem dX5_diode_196 : decode cX5_diode 196 = .ok (.aload_n 0, 1) := by decide +kernel
theorem dX5_diode_197 : decode cX5_diode 197 = .ok (.getfield 136, 3) := by decide +kernel
theorem dX5_diode_200 : decode cX5_diode 200 = .ok (.lload_n 3, 1) := by decide +kernel
theorem dX5_diode_201 : decode cX5_diode 201 = .ok (.lastore, 1) := by decide +kernel
theorem dX5_diode_202 : decode cX5_diode 202 = .ok (.aload_n 0, 1) := by decide +kernel
theorem dX5_diode_203 : decode cX5_diode 203 = .ok (.dup, 1) := by decide +kernel
theorem dX5_diode_204 : decode cX5_diode 204 = .ok (.getfield 136, 3) := by decide +kernel
theorem dX5_diode_207 : decode cX5_diode 207 = .ok (.iconst 1, 1) := by decide +kernel
theorem dX5_diode_208 : decode cX5_diode 208 = .ok (.iadd, 1) := by decide +kernel
theorem dX5_diode_209 : decode cX5_diode 209 = .ok (.putfield 136, 3) := by decide +kernel
theorem dX5_diode_212 : decode cX5_diode 212 = .ok (.iload 5, 2) := by decide +kernel
theorem dX5_diode_214 : decode cX5_diode 214 = .ok (.ireturn, 1) := by decide +kernel
set_option maxRecDepth 20000 in
theorem ggX5_antenna_X5_coveredBy : GoodIn wsX5_antenna wsX5_coveredBy := goodIn_r _ [5, 6, 7, 8, 9, 10, 11, 12, 4, 13, 14, 15, 16, 17, 18, 19, 20, 21, 22, 23, 24, 25, 26, 27, 28, 29, 30, 31, 32, 33, 34, 35, 36, 37, 38, 39, 40, 41, 42, 43, 44, 45, 46, 47, 48, 49, 50, 51, 52, 53, 54, 55, 56, 57, 58] (by decide +kernel) (by decide +kernel)
set_option maxRecDepth 20000 in
theorem gX5_antenna_X5_coveredBy : GoodIn wsX5_antenna (wsV RX5 128 RX5 yX5_coveredBy wsX5_coveredBy) := goodIn_app (goodIn_of _ (by decide +kernel)) ggX5_antenna_X5_coveredBy
theorem dX5_antenna_0 : decode cX5_antenna 0 = .ok (.lconst 0, 1) := by decide +kernel
theorem dX5_antenna_1 : decode cX5_antenna 1 = .ok (.lstore_n 3, 1) := by decide +kernel
theorem dX5_antenna_2 : decode cX5_antenna 2 = .ok (.iconst 0, 1) := by decide +kernel
theorem dX5_antenna_3 : decode cX5_antenna 3 = .ok (.istore 5, 2) := by decide +kernel
theorem dX5_antenna_5 : decode cX5_antenna 5 = .ok (.iload 5, 2) := by decide +kernel
theorem dX5_antenna_7 : decode cX5_antenna 7 = .ok (.iload_n 2, 1) := by decide +kernel
theorem dX5_antenna_8 : decode cX5_antenna 8 = .ok (.if_icmp .gt 20, 3) := by decide +kernel
theorem dX5_antenna_11 : decode cX5_antenna 11 = .ok (.lload_n 3, 1) := by decide +kernel
theorem dX5_antenna_12 : decode cX5_antenna 12 = .ok (.aload_n 0, 1) := by decide +kernel
theorem dX5_antenna_13 : decode cX5_antenna 13 = .ok (.iload_n 1, 1) := by decide +kernel
theorem dX5_antenna_14 : decode cX5_antenna 14 = .ok (.iload 5, 2) := by decide +kernel
theorem dX5_antenna_16 : decode cX5_antenna 16 = .ok (.invokevirtual 128, 3) := by decide +kernel
theorem dX5_antenna_19 : decode cX5_antenna 19 = .ok (.i2l, 1) := by decide +kernel
theorem dX5_antenna_20 : decode cX5_antenna 20 = .ok (.ladd, 1) := by decide +kernel
theorem dX5_antenna_21 : decode cX5_antenna 21 = .ok (.lstore_n 3, 1) := by decide +kernel
theorem dX5_antenna_22 : decode cX5_antenna 22 = .ok (.iinc 5 1, 3) := by decide +kernel
theorem dX5_antenna_25 : decode cX5_antenna 25 = .ok (.goto (-20), 3) := by decide +kernel
theorem dX5_antenna_28 : decode cX5_antenna 28 = .ok (.lload_n 3, 1) := by decide +kernel
theorem dX5_antenna_29 : decode cX5_antenna 29 = .ok (.lreturn, 1) := by decide +kernel
theorem dX5_guard_0 : decode cX5_guard 0 = .ok (.aload_n 0, 1) := by decide +kernel
theorem dX5_guard_1 : decode cX5_guard 1 = .ok (.getfield 7, 3) := by decide +kernel
theorem dX5_guard_4 : decode cX5_guard 4 = .ok (.iload_n 1, 1) := by decide +kernel
theorem dX5_guard_5 : decode cX5_guard 5 = .ok (.laload, 1) := by decide +kernel
theorem dX5_guard_6 : decode cX5_guard 6 = .ok (.lstore_n 3, 1) := by decide +kernel
theorem dX5_guard_7 : decode cX5_guard 7 = .ok (.iconst 0, 1) := by decide +kernel
theorem dX5_guard_8 : decode cX5_guard 8 = .ok (.istore 5, 2) := by decide +kernel
theorem dX5_guard_10 : decode cX5_guard 10 = .ok (.iload 5, 2) := by decide +kernel
theorem dX5_guard_12 : decode cX5_guard 12 = .ok (.aload_n 0, 1) := by decide +kernel
theorem dX5_guard_13 : decode cX5_guard 13 = .ok (.getfield 136, 3) := by decide +kernel
theorem dX5_guard_16 : decode cX5_guard 16 = .ok (.if_icmp .ge 49, 3) := by decide +kernel
theorem dX5_guard_19 : decode cX5_guard 19 = .ok (.lload_n 3, 1) := by decide +kernel
theorem dX5_guard_20 : decode cX5_guard 20 = .ok (.aload_n 0, 1) := by decide +kernel
theorem dX5_guard_21 : decode cX5_guard 21 = .ok (.getfield 23, 3) := by decide +kernel
theorem dX5_guard_24 : decode cX5_guard 24 = .ok (.iload 5, 2) := by decide +kernel
theorem dX5_guard_26 : decode cX5_guard 26 = .ok (.iaload, 1) := by decide +kernel
theorem dX5_guard_27 : decode cX5_guard 27 = .ok (.iload_n 1, 1) := by decide +kernel
theorem dX5_guard_28 : decode cX5_guard 28 = .ok (.if_icmp .ne 28, 3) := by decide +kernel
theorem dX5_guard_31 : decode cX5_guard 31 = .ok (.aload_n 0, 1) := by decide +kernel
theorem dX5_guard_32 : decode cX5_guard 32 = .ok (.getfield 26, 3) := by decide +kernel
theorem dX5_guard_35 : decode cX5_guard 35 = .ok (.iload 5, 2) := by decide +kernel
theorem dX5_guard_37 : decode cX5_guard 37 = .ok (.iaload, 1) := by decide +kernel
theorem dX5_guard_38 : decode cX5_guard 38 = .ok (.iload_n 2, 1) := by decide +kernel
theorem dX5_guard_39 : decode cX5_guard 39 = .ok (.if_icmp .gt 17, 3) := by decide +kernel
theorem dX5_guard_42 : decode cX5_guard 42 = .ok (.ldc2_w 142, 3) := by decide +kernel
theorem dX5_guard_45 : decode cX5_guard 45 = .ok (.aload_n 0, 1) := by decide +kernel
theorem dX5_guard_46 : decode cX5_guard 46 = .ok (.getfield 29, 3) := by decide +kernel
theorem dX5_guard_49 : decode cX5_guard 49 = .ok (.iload 5, 2) := by decide +kernel
theorem dX5_guard_51 : decode cX5_guard 51 = .ok (.laload, 1) := by decide +kernel
theorem dX5_guard_52 : decode cX5_guard 52 = .ok (.lmul, 1) := by decide +kernel
theorem dX5_guard_53 : decode cX5_guard 53 = .ok (.goto 4, 3) := by decide +kernel
theorem dX5_guard_56 : decode cX5_guard 56 = .ok (.lconst 0, 1) := by decide +kernel
theorem dX5_guard_57 : decode cX5_guard 57 = .ok (.ladd, 1) := by decide +kernel
theorem dX5_guard_58 : decode cX5_guard 58 = .ok (.lstore_n 3, 1) := by decide +kernel
theorem dX5_guard_59 : decode cX5_guard 59 = .ok (.iinc 5 1, 3) := by decide +kernel
theorem dX5_guard_62 : decode cX5_guard 62 = .ok (.goto (-52), 3) := by decide +kernel
theorem dX5_guard_65 : decode cX5_guard 65 = .ok (.iconst 0, 1) := by decide +kernel
theorem dX5_guard_66 : decode cX5_guard 66 = .ok (.istore 5, 2) := by decide +kernel
theorem dX5_guard_68 : decode cX5_guard 68 = .ok (.iload 5, 2) := by decide +kernel
theorem dX5_guard_70 : decode cX5_guard 70 = .ok (.aload_n 0, 1) := by decide +kernel
theorem dX5_guard_71 : decode cX5_guard 71 = .ok (.getfield 139, 3) := by decide +kernel
theorem dX5_guard_74 : decode cX5_guard 74 = .ok (.if_icmp .ge 41, 3) := by decide +kernel
theorem dX5_guard_77 : decode cX5_guard 77 = .ok (.lload_n 3, 1) := by decide +kernel
theorem dX5_guard_78 : decode cX5_guard 78 = .ok (.aload_n 0, 1) := by decide +kernel
theorem dX5_guard_79 : decode cX5_guard 79 = .ok (.getfield 32, 3) := by decide +kernel
theorem dX5_guard_82 : decode cX5_guard 82 = .ok (.iload 5, 2) := by decide +kernel
theorem dX5_guard_84 : decode cX5_guard 84 = .ok (.iaload, 1) := by decide +kernel
theorem dX5_guard_85 : decode cX5_guard 85 = .ok (.iload_n 1, 1) := by decide +kernel
theorem dX5_guard_86 : decode cX5_guard 86 = .ok (.if_icmp .ne 20, 3) := by decide +kernel
theorem dX5_guard_89 : decode cX5_guard 89 = .ok (.aload_n 0, 1) := by decide +kernel
theorem dX5_guard_90 : decode cX5_guard 90 = .ok (.getfield 35, 3) := by decide +kernel
theorem dX5_guard_93 : decode cX5_guard 93 = .ok (.iload 5, 2) := by decide +kernel
theorem dX5_guard_95 : decode cX5_guard 95 = .ok (.iaload, 1) := by decide +kernel
theorem dX5_guard_96 : decode cX5_guard 96 = .ok (.iload_n 2, 1) := by decide +kernel
theorem dX5_guard_97 : decode cX5_guard 97 = .ok (.if_icmp .gt 9, 3) := by decide +kernel
theorem dX5_guard_100 : decode cX5_guard 100 = .ok (.ldc2_w 144, 3) := by decide +kernel
theorem dX5_guard_103 : decode cX5_guard 103 = .ok (.goto 4, 3) := by decide +kernel
theorem dX5_guard_106 : decode cX5_guard 106 = .ok (.lconst 0, 1) := by decide +kernel
theorem dX5_guard_107 : decode cX5_guard 107 = .ok (.ladd, 1) := by decide +kernel
theorem dX5_guard_108 : decode cX5_guard 108 = .ok (.lstore_n 3, 1) := by decide +kernel
theorem dX5_guard_109 : decode cX5_guard 109 = .ok (.iinc 5 1, 3) := by decide +kernel
theorem dX5_guard_112 : decode cX5_guard 112 = .ok (.goto (-44), 3) := by decide +kernel
theorem dX5_guard_115 : decode cX5_guard 115 = .ok (.lload_n 3, 1) := by decide +kernel
theorem dX5_guard_116 : decode cX5_guard 116 = .ok (.lreturn, 1) := by decide +kernel
theorem dX5_common_0 : decode cX5_common 0 = .ok (.lload_n 0, 1) := by decide +kernel
theorem dX5_common_1 : decode cX5_common 1 = .ok (.lstore 4, 2) := by decide +kernel
theorem dX5_common_3 : decode cX5_common 3 = .ok (.lload_n 2, 1) := by decide +kernel
theorem dX5_common_4 : decode cX5_common 4 = .ok (.lstore 6, 2) := by decide +kernel
theorem dX5_common_6 : decode cX5_common 6 = .ok (.lload 6, 2) := by decide +kernel
theorem dX5_common_8 : decode cX5_common 8 = .ok (.lconst 0, 1) := by decide +kernel
theorem dX5_common_9 : decode cX5_common 9 = .ok (.lcmp, 1) := by decide +kernel
theorem dX5_common_10 : decode cX5_common 10 = .ok (.ifCond .eq 21, 3) := by decide +kernel
theorem dX5_common_13 : decode cX5_common 13 = .ok (.lload 4, 2) := by decide +kernel
theorem dX5_common_15 : decode cX5_common 15 = .ok (.lload 6, 2) := by decide +kernel
theorem dX5_common_17 : decode cX5_common 17 = .ok (.lrem, 1) := by decide +kernel
theorem dX5_common_18 : decode cX5_common 18 = .ok (.lstore 8, 2) := by decide +kernel
theorem dX5_common_20 : decode cX5_common 20 = .ok (.lload 6, 2) := by decide +kernel
theorem dX5_common_22 : decode cX5_common 22 = .ok (.lstore 4, 2) := by decide +kernel
theorem dX5_common_24 : decode cX5_common 24 = .ok (.lload 8, 2) := by decide +kernel
theorem dX5_common_26 : decode cX5_common 26 = .ok (.lstore 6, 2) := by decide +kernel
theorem dX5_common_28 : decode cX5_common 28 = .ok (.goto (-22), 3) := by decide +kernel
theorem dX5_common_31 : decode cX5_common 31 = .ok (.lload 4, 2) := by decide +kernel
