theorem dX5_isPlaced_96 : decode cX5_isPlaced 96 = .ok (.invokestatic 109, 3) := by decide +kernel
theorem dX5_isPlaced_99 : decode cX5_isPlaced 99 = .ok (.iinc 3 1, 3) := by decide +kernel
theorem dX5_isPlaced_102 : decode cX5_isPlaced 102 = .ok (.goto (-78), 3) := by decide +kernel
theorem dX5_isPlaced_105 : decode cX5_isPlaced 105 = .ok (.iconst 0, 1) := by decide +kernel
theorem dX5_isPlaced_106 : decode cX5_isPlaced 106 = .ok (.istore_n 3, 1) := by decide +kernel
theorem dX5_isPlaced_107 : decode cX5_isPlaced 107 = .ok (.iload_n 3, 1) := by decide +kernel
theorem dX5_isPlaced_108 : decode cX5_isPlaced 108 = .ok (.sipush 16000, 3) := by decide +kernel
theorem dX5_isPlaced_111 : decode cX5_isPlaced 111 = .ok (.if_icmp .ge 120, 3) := by decide +kernel
theorem dX5_isPlaced_114 : decode cX5_isPlaced 114 = .ok (.aload_n 0, 1) := by decide +kernel
theorem dX5_isPlaced_115 : decode cX5_isPlaced 115 = .ok (.getfield 77, 3) := by decide +kernel
theorem dX5_isPlaced_118 : decode cX5_isPlaced 118 = .ok (.iload_n 3, 1) := by decide +kernel
theorem dX5_isPlaced_119 : decode cX5_isPlaced 119 = .ok (.laload, 1) := by decide +kernel
theorem dX5_isPlaced_120 : decode cX5_isPlaced 120 = .ok (.aload_n 0, 1) := by decide +kernel
theorem dX5_isPlaced_121 : decode cX5_isPlaced 121 = .ok (.getfield 74, 3) := by decide +kernel
theorem dX5_isPlaced_124 : decode cX5_isPlaced 124 = .ok (.iload_n 3, 1) := by decide +kernel
theorem dX5_isPlaced_125 : decode cX5_isPlaced 125 = .ok (.laload, 1) := by decide +kernel
theorem dX5_isPlaced_126 : decode cX5_isPlaced 126 = .ok (.ldc2_w 94, 3) := by decide +kernel
theorem dX5_isPlaced_129 : decode cX5_isPlaced 129 = .ok (.lxor, 1) := by decide +kernel
theorem dX5_isPlaced_130 : decode cX5_isPlaced 130 = .ok (.land, 1) := by decide +kernel
theorem dX5_isPlaced_131 : decode cX5_isPlaced 131 = .ok (.lstore 4, 2) := by decide +kernel
theorem dX5_isPlaced_133 : decode cX5_isPlaced 133 = .ok (.lload 4, 2) := by decide +kernel
theorem dX5_isPlaced_135 : decode cX5_isPlaced 135 = .ok (.lconst 0, 1) := by decide +kernel
theorem dX5_isPlaced_136 : decode cX5_isPlaced 136 = .ok (.lcmp, 1) := by decide +kernel
theorem dX5_isPlaced_137 : decode cX5_isPlaced 137 = .ok (.ifCond .eq 88, 3) := by decide +kernel
theorem dX5_isPlaced_140 : decode cX5_isPlaced 140 = .ok (.iconst 0, 1) := by decide +kernel
theorem dX5_isPlaced_141 : decode cX5_isPlaced 141 = .ok (.istore 6, 2) := by decide +kernel
theorem dX5_isPlaced_143 : decode cX5_isPlaced 143 = .ok (.lload 4, 2) := by decide +kernel
theorem dX5_isPlaced_145 : decode cX5_isPlaced 145 = .ok (.iload 6, 2) := by decide +kernel
theorem dX5_isPlaced_147 : decode cX5_isPlaced 147 = .ok (.lshr, 1) := by decide +kernel
theorem dX5_isPlaced_148 : decode cX5_isPlaced 148 = .ok (.lconst 1, 1) := by decide +kernel
theorem dX5_isPlaced_149 : decode cX5_isPlaced 149 = .ok (.land, 1) := by decide +kernel
theorem dX5_isPlaced_150 : decode cX5_isPlaced 150 = .ok (.lconst 0, 1) := by decide +kernel
theorem dX5_isPlaced_151 : decode cX5_isPlaced 151 = .ok (.lcmp, 1) := by decide +kernel
theorem dX5_isPlaced_152 : decode cX5_isPlaced 152 = .ok (.ifCond .ne 9, 3) := by decide +kernel
theorem dX5_isPlaced_155 : decode cX5_isPlaced 155 = .ok (.iinc 6 1, 3) := by decide +kernel
theorem dX5_isPlaced_158 : decode cX5_isPlaced 158 = .ok (.goto (-15), 3) := by decide +kernel
theorem dX5_isPlaced_161 : decode cX5_isPlaced 161 = .ok (.aload_n 0, 1) := by decide +kernel
theorem dX5_isPlaced_162 : decode cX5_isPlaced 162 = .ok (.getfield 32, 3) := by decide +kernel
theorem dX5_isPlaced_165 : decode cX5_isPlaced 165 = .ok (.aload_n 0, 1) := by decide +kernel
theorem dX5_isPlaced_166 : decode cX5_isPlaced 166 = .ok (.getfield 139, 3) := by decide +kernel
theorem dX5_isPlaced_169 : decode cX5_isPlaced 169 = .ok (.iload_n 1, 1) := by decide +kernel
theorem dX5_isPlaced_170 : decode cX5_isPlaced 170 = .ok (.iastore, 1) := by decide +kernel
theorem dX5_isPlaced_171 : decode cX5_isPlaced 171 = .ok (.aload_n 0, 1) := by decide +kernel
theorem dX5_isPlaced_172 : decode cX5_isPlaced 172 = .ok (.getfield 35, 3) := by decide +kernel
theorem dX5_isPlaced_175 : decode cX5_isPlaced 175 = .ok (.aload_n 0, 1) := by decide +kernel
theorem dX5_isPlaced_176 : decode cX5_isPlaced 176 = .ok (.getfield 139, 3) := by decide +kernel
theorem dX5_isPlaced_179 : decode cX5_isPlaced 179 = .ok (.iload_n 2, 1) := by decide +kernel
theorem dX5_isPlaced_180 : decode cX5_isPlaced 180 = .ok (.iastore, 1) := by decide +kernel
theorem dX5_isPlaced_181 : decode cX5_isPlaced 181 = .ok (.aload_n 0, 1) := by decide +kernel
theorem dX5_isPlaced_182 : decode cX5_isPlaced 182 = .ok (.getfield 38, 3) := by decide +kernel
theorem dX5_isPlaced_185 : decode cX5_isPlaced 185 = .ok (.aload_n 0, 1) := by decide +kernel
theorem dX5_isPlaced_186 : decode cX5_isPlaced 186 = .ok (.getfield 139, 3) := by decide +kernel
theorem dX5_isPlaced_189 : decode cX5_isPlaced 189 = .ok (.bipush 64, 2) := by decide +kernel
theorem dX5_isPlaced_191 : decode cX5_isPlaced 191 = .ok (.iload_n 3, 1) := by decide +kernel
theorem dX5_isPlaced_192 : decode cX5_isPlaced 192 = .ok (.bipush 16, 2) := by decide +kernel
theorem dX5_isPlaced_194 : decode cX5_isPlaced 194 = .ok (.irem, 1) := by decide +kernel
theorem dX5_isPlaced_195 : decode cX5_isPlaced 195 = .ok (.imul, 1) := by decide +kernel
theorem dX5_isPlaced_196 : decode cX5_isPlaced 196 = .ok (.iload 6, 2) := by decide +kernel
theorem dX5_isPlaced_198 : decode cX5_isPlaced 198 = .ok (.iadd, 1) := by decide +kernel
theorem dX5_isPlaced_199 : decode cX5_isPlaced 199 = .ok (.iastore, 1) := by decide +kernel
theorem dX5_isPlaced_200 : decode cX5_isPlaced 200 = .ok (.aload_n 0, 1) := by decide +kernel
theorem dX5_isPlaced_201 : decode cX5_isPlaced 201 = .ok (.getfield 41, 3) := by decide +kernel
theorem dX5_isPlaced_204 : decode cX5_isPlaced 204 = .ok (.aload_n 0, 1) := by decide +kernel
theorem dX5_isPlaced_205 : decode cX5_isPlaced 205 = .ok (.getfield 139, 3) := by decide +kernel
theorem dX5_isPlaced_208 : decode cX5_isPlaced 208 = .ok (.iload_n 3, 1) := by decide +kernel
theorem dX5_isPlaced_209 : decode cX5_isPlaced 209 = .ok (.bipush 16, 2) := by decide +kernel
theorem dX5_isPlaced_211 : decode cX5_isPlaced 211 = .ok (.idiv, 1) := by decide +kernel
theorem dX5_isPlaced_212 : decode cX5_isPlaced 212 = .ok (.iastore, 1) := by decide +kernel
theorem dX5_isPlaced_213 : decode cX5_isPlaced 213 = .ok (.aload_n 0, 1) := by decide +kernel
theorem dX5_isPlaced_214 : decode cX5_isPlaced 214 = .ok (.dup, 1) := by decide +kernel
theorem dX5_isPlaced_215 : decode cX5_isPlaced 215 = .ok (.getfield 139, 3) := by decide +kernel
theorem dX5_isPlaced_218 : decode cX5_isPlaced 218 = .ok (.iconst 1, 1) := by decide +kernel
theorem dX5_isPlaced_219 : decode cX5_isPlaced 219 = .ok (.iadd, 1) := by decide +kernel
theorem dX5_isPlaced_220 : decode cX5_isPlaced 220 = .ok (.putfield 139, 3) := by decide +kernel
theorem dX5_isPlaced_223 : decode cX5_isPlaced 223 = .ok (.iconst 1, 1) := by decide +kernel
theorem dX5_isPlaced_224 : decode cX5_isPlaced 224 = .ok (.ireturn, 1) := by decide +kernel
theorem dX5_isPlaced_225 : decode cX5_isPlaced 225 = .ok (.iinc 3 1, 3) := by decide +kernel
theorem dX5_isPlaced_228 : decode cX5_isPlaced 228 = .ok (.goto (-121), 3) := by decide +kernel
theorem dX5_isPlaced_231 : decode cX5_isPlaced 231 = .ok (.iconst 0, 1) := by decide +kernel
theorem dX5_isPlaced_232 : decode cX5_isPlaced 232 = .ok (.ireturn, 1) := by decide +kernel
set_option maxRecDepth 20000 in
theorem ggX5_repair_X5_coveredBy : GoodIn wsX5_repair wsX5_coveredBy := goodIn_r _ [9, 10, 11, 12, 13, 14, 15, 16, 8, 17, 18, 19, 20, 21, 22, 23, 24, 25, 26, 27, 28, 29, 30, 31, 71, 72, 73, 74, 75, 76, 77, 78, 79, 80, 81, 82, 83, 84, 85, 86, 87, 88, 89, 90, 91, 92, 93, 94, 95, 96, 97, 98, 99, 100, 101] (by decide +kernel) (by decide +kernel)
set_option maxRecDepth 20000 in
theorem gX5_repair_X5_coveredBy : GoodIn wsX5_repair (wsV RX5 128 RX5 yX5_coveredBy wsX5_coveredBy) := goodIn_app (goodIn_of _ (by decide +kernel)) ggX5_repair_X5_coveredBy
set_option maxRecDepth 20000 in
theorem ggX5_repair_X5_isOver : GoodIn wsX5_repair wsX5_isOver := goodIn_r _ [35, 4, 36, 37, 38, 39, 40, 8, 41, 42, 43, 44, 45, 46, 47, 48, 49, 50, 71, 72, 73, 74, 75, 76, 77, 78, 79, 80, 81, 82, 83, 84, 85, 86, 87, 88, 89, 90, 91, 92, 93, 94, 95, 96, 97, 98, 99, 100, 101] (by decide +kernel) (by decide +kernel)
set_option maxRecDepth 20000 in
theorem gX5_repair_X5_isOver : GoodIn wsX5_repair (wsV RX5 171 RX5 yX5_isOver wsX5_isOver) := goodIn_app (goodIn_of _ (by decide +kernel)) ggX5_repair_X5_isOver
set_option maxRecDepth 20000 in
theorem ggX5_repair_X5_isPlaced : GoodIn wsX5_repair wsX5_isPlaced := goodIn_r _ [54, 47, 55, 10, 11, 14, 13, 21, 48, 49, 56, 57, 58, 59, 60, 8, 61, 12, 62, 63, 64, 65, 66, 15, 16, 17, 18, 19, 20, 22, 23, 24, 67, 68, 69, 70, 71, 72, 73, 74, 75, 76, 77, 78, 79, 80, 81, 82, 83, 84, 85, 86, 87, 88, 89, 90, 91, 92, 93, 94, 95, 96, 97, 98, 99, 100, 101] (by decide +kernel) (by decide +kernel)
set_option maxRecDepth 20000 in
theorem gX5_repair_X5_isPlaced : GoodIn wsX5_repair (wsV RX5 175 RX5 yX5_isPlaced wsX5_isPlaced) := goodIn_app (goodIn_of _ (by decide +kernel)) ggX5_repair_X5_isPlaced
theorem dX5_repair_0 : decode cX5_repair 0 = .ok (.aload_n 0, 1) := by decide +kernel
theorem dX5_repair_1 : decode cX5_repair 1 = .ok (.iconst 0, 1) := by decide +kernel
theorem dX5_repair_2 : decode cX5_repair 2 = .ok (.putfield 84, 3) := by decide +kernel
theorem dX5_repair_5 : decode cX5_repair 5 = .ok (.iconst 0, 1) := by decide +kernel
theorem dX5_repair_6 : decode cX5_repair 6 = .ok (.istore_n 1, 1) := by decide +kernel
theorem dX5_repair_7 : decode cX5_repair 7 = .ok (.iconst 0, 1) := by decide +kernel
theorem dX5_repair_8 : decode cX5_repair 8 = .ok (.istore_n 2, 1) := by decide +kernel
theorem dX5_repair_9 : decode cX5_repair 9 = .ok (.iload_n 2, 1) := by decide +kernel
theorem dX5_repair_10 : decode cX5_repair 10 = .ok (.aload_n 0, 1) := by decide +kernel
theorem dX5_repair_11 : decode cX5_repair 11 = .ok (.getfield 87, 3) := by decide +kernel
theorem dX5_repair_14 : decode cX5_repair 14 = .ok (.if_icmp .ge 163, 3) := by decide +kernel
theorem dX5_repair_17 : decode cX5_repair 17 = .ok (.lconst 0, 1) := by decide +kernel
theorem dX5_repair_18 : decode cX5_repair 18 = .ok (.lstore_n 3, 1) := by decide +kernel
theorem dX5_repair_19 : decode cX5_repair 19 = .ok (.iconst 0, 1) := by decide +kernel
theorem dX5_repair_20 : decode cX5_repair 20 = .ok (.istore 5, 2) := by decide +kernel
theorem dX5_repair_22 : decode cX5_repair 22 = .ok (.iload 5, 2) := by decide +kernel
theorem dX5_repair_24 : decode cX5_repair 24 = .ok (.aload_n 0, 1) := by decide +kernel
theorem dX5_repair_25 : decode cX5_repair 25 = .ok (.getfield 80, 3) := by decide +kernel
theorem dX5_repair_28 : decode cX5_repair 28 = .ok (.if_icmp .ge 62, 3) := by decide +kernel
theorem dX5_repair_31 : decode cX5_repair 31 = .ok (.aload_n 0, 1) := by decide +kernel
theorem dX5_repair_32 : decode cX5_repair 32 = .ok (.getfield 7, 3) := by decide +kernel
theorem dX5_repair_35 : decode cX5_repair 35 = .ok (.iload_n 2, 1) := by decide +kernel
theorem dX5_repair_36 : decode cX5_repair 36 = .ok (.laload, 1) := by decide +kernel
theorem dX5_repair_37 : decode cX5_repair 37 = .ok (.lconst 0, 1) := by decide +kernel
theorem dX5_repair_38 : decode cX5_repair 38 = .ok (.lcmp, 1) := by decide +kernel
theorem dX5_repair_39 : decode cX5_repair 39 = .ok (.ifCond .le 51, 3) := by decide +kernel
theorem dX5_repair_42 : decode cX5_repair 42 = .ok (.lload_n 3, 1) := by decide +kernel
theorem dX5_repair_43 : decode cX5_repair 43 = .ok (.aload_n 0, 1) := by decide +kernel
theorem dX5_repair_44 : decode cX5_repair 44 = .ok (.iload_n 2, 1) := by decide +kernel
theorem dX5_repair_45 : decode cX5_repair 45 = .ok (.iload 5, 2) := by decide +kernel
theorem dX5_repair_47 : decode cX5_repair 47 = .ok (.invokevirtual 128, 3) := by decide +kernel
theorem dX5_repair_50 : decode cX5_repair 50 = .ok (.i2l, 1) := by decide +kernel
theorem dX5_repair_51 : decode cX5_repair 51 = .ok (.ladd, 1) := by decide +kernel
theorem dX5_repair_52 : decode cX5_repair 52 = .ok (.lstore_n 3, 1) := by decide +kernel
theorem dX5_repair_53 : decode cX5_repair 53 = .ok (.iconst 1, 1) := by decide +kernel
theorem dX5_repair_54 : decode cX5_repair 54 = .ok (.istore 6, 2) := by decide +kernel
theorem dX5_repair_56 : decode cX5_repair 56 = .ok (.iload 6, 2) := by decide +kernel
theorem dX5_repair_58 : decode cX5_repair 58 = .ok (.ifCond .eq 26, 3) := by decide +kernel
theorem dX5_repair_61 : decode cX5_repair 61 = .ok (.aload_n 0, 1) := by decide +kernel
theorem dX5_repair_62 : decode cX5_repair 62 = .ok (.iload_n 2, 1) := by decide +kernel
theorem dX5_repair_63 : decode cX5_repair 63 = .ok (.iload 5, 2) := by decide +kernel
theorem dX5_repair_65 : decode cX5_repair 65 = .ok (.lload_n 3, 1) := by decide +kernel
theorem dX5_repair_66 : decode cX5_repair 66 = .ok (.invokevirtual 171, 3) := by decide +kernel
theorem dX5_repair_69 : decode cX5_repair 69 = .ok (.ifCond .eq 15, 3) := by decide +kernel
theorem dX5_repair_72 : decode cX5_repair 72 = .ok (.aload_n 0, 1) := by decide +kernel
theorem dX5_repair_73 : decode cX5_repair 73 = .ok (.iload_n 2, 1) := by decide +kernel
theorem dX5_repair_74 : decode cX5_repair 74 = .ok (.iload 5, 2) := by decide +kernel
theorem dX5_repair_76 : decode cX5_repair 76 = .ok (.invokevirtual 175, 3) := by decide +kernel
theorem dX5_repair_79 : decode cX5_repair 79 = .ok (.istore 6, 2) := by decide +kernel
theorem dX5_repair_81 : decode cX5_repair 81 = .ok (.goto (-25), 3) := by decide +kernel
theorem dX5_repair_84 : decode cX5_repair 84 = .ok (.iinc 5 1, 3) := by decide +kernel
theorem dX5_repair_87 : decode cX5_repair 87 = .ok (.goto (-65), 3) := by decide +kernel
theorem dX5_repair_90 : decode cX5_repair 90 = .ok (.iconst 0, 1) := by decide +kernel
theorem dX5_repair_91 : decode cX5_repair 91 = .ok (.istore 5, 2) := by decide +kernel
theorem dX5_repair_93 : decode cX5_repair 93 = .ok (.lconst 0, 1) := by decide +kernel
theorem dX5_repair_94 : decode cX5_repair 94 = .ok (.lstore_n 3, 1) := by decide +kernel
theorem dX5_repair_95 : decode cX5_repair 95 = .ok (.iconst 0, 1) := by decide +kernel
theorem dX5_repair_96 : decode cX5_repair 96 = .ok (.istore 6, 2) := by decide +kernel
theorem dX5_repair_98 : decode cX5_repair 98 = .ok (.iload 6, 2) := by decide +kernel
theorem dX5_repair_100 : decode cX5_repair 100 = .ok (.aload_n 0, 1) := by decide +kernel
theorem dX5_repair_101 : decode cX5_repair 101 = .ok (.getfield 80, 3) := by decide +kernel
theorem dX5_repair_104 : decode cX5_repair 104 = .ok (.if_icmp .ge 54, 3) := by decide +kernel
theorem dX5_repair_107 : decode cX5_repair 107 = .ok (.aload_n 0, 1) := by decide +kernel
theorem dX5_repair_108 : decode cX5_repair 108 = .ok (.getfield 7, 3) := by decide +kernel
theorem dX5_repair_111 : decode cX5_repair 111 = .ok (.iload_n 2, 1) := by decide +kernel
theorem dX5_repair_112 : decode cX5_repair 112 = .ok (.laload, 1) := by decide +kernel
theorem dX5_repair_113 : decode cX5_repair 113 = .ok (.lconst 0, 1) := by decide +kernel
theorem dX5_repair_114 : decode cX5_repair 114 = .ok (.lcmp, 1) := by decide +kernel
theorem dX5_repair_115 : decode cX5_repair 115 = .ok (.ifCond .le 43, 3) := by decide +kernel
theorem dX5_repair_118 : decode cX5_repair 118 = .ok (.lload_n 3, 1) := by decide +kernel
theorem dX5_repair_119 : decode cX5_repair 119 = .ok (.aload_n 0, 1) := by decide +kernel
theorem dX5_repair_120 : decode cX5_repair 120 = .ok (.iload_n 2, 1) := by decide +kernel
theorem dX5_repair_121 : decode cX5_repair 121 = .ok (.iload 6, 2) := by decide +kernel
theorem dX5_repair_123 : decode cX5_repair 123 = .ok (.invokevirtual 128, 3) := by decide +kernel
theorem dX5_repair_126 : decode cX5_repair 126 = .ok (.i2l, 1) := by decide +kernel
theorem dX5_repair_127 : decode cX5_repair 127 = .ok (.ladd, 1) := by decide +kernel
theorem dX5_repair_128 : decode cX5_repair 128 = .ok (.lstore_n 3, 1) := by decide +kernel
theorem dX5_repair_129 : decode cX5_repair 129 = .ok (.iload 5, 2) := by decide +kernel
theorem dX5_repair_131 : decode cX5_repair 131 = .ok (.ifCond .ne 14, 3) := by decide +kernel
theorem dX5_repair_134 : decode cX5_repair 134 = .ok (.aload_n 0, 1) := by decide +kernel
theorem dX5_repair_135 : decode cX5_repair 135 = .ok (.iload_n 2, 1) := by decide +kernel
theorem dX5_repair_136 : decode cX5_repair 136 = .ok (.iload 6, 2) := by decide +kernel
theorem dX5_repair_138 : decode cX5_repair 138 = .ok (.lload_n 3, 1) := by decide +kernel
theorem dX5_repair_139 : decode cX5_repair 139 = .ok (.invokevirtual 171, 3) := by decide +kernel
theorem dX5_repair_142 : decode cX5_repair 142 = .ok (.ifCond .eq 7, 3) := by decide +kernel
theorem dX5_repair_145 : decode cX5_repair 145 = .ok (.iconst 1, 1) := by decide +kernel
theorem dX5_repair_146 : decode cX5_repair 146 = .ok (.goto 4, 3) := by decide +kernel
theorem dX5_repair_149 : decode cX5_repair 149 = .ok (.iconst 0, 1) := by decide +kernel
theorem dX5_repair_150 : decode cX5_repair 150 = .ok (.istore 5, 2) := by decide +kernel
theorem dX5_repair_152 : decode cX5_repair 152 = .ok (.iinc 6 1, 3) := by decide +kernel
theorem dX5_repair_155 : decode cX5_repair 155 = .ok (.goto (-57), 3) := by decide +kernel
theorem dX5_repair_158 : decode cX5_repair 158 = .ok (.iload_n 1, 1) := by decide +kernel
theorem dX5_repair_159 : decode cX5_repair 159 = .ok (.iload 5, 2) := by decide +kernel
theorem dX5_repair_161 : decode cX5_repair 161 = .ok (.ifCond .eq 7, 3) := by decide +kernel
theorem dX5_repair_164 : decode cX5_repair 164 = .ok (.iconst 1, 1) := by decide +kernel
theorem dX5_repair_165 : decode cX5_repair 165 = .ok (.goto 4, 3) := by decide +kernel
theorem dX5_repair_168 : decode cX5_repair 168 = .ok (.iconst 0, 1) := by decide +kernel
theorem dX5_repair_169 : decode cX5_repair 169 = .ok (.iadd, 1) := by decide +kernel
theorem dX5_repair_170 : decode cX5_repair 170 = .ok (.istore_n 1, 1) := by decide +kernel
theorem dX5_repair_171 : decode cX5_repair 171 = .ok (.iinc 2 1, 3) := by decide +kernel
theorem dX5_repair_174 : decode cX5_repair 174 = .ok (.goto (-165), 3) := by decide +kernel
theorem dX5_repair_177 : decode cX5_repair 177 = .ok (.iload_n 1, 1) := by decide +kernel
theorem dX5_repair_178 : decode cX5_repair 178 = .ok (.ireturn, 1) := by decide +kernel
theorem dX5_repaired_0 : decode cX5_repaired 0 = .ok (.aload_n 0, 1) := by decide +kernel
theorem dX5_repaired_1 : decode cX5_repaired 1 = .ok (.iload_n 1, 1) := by decide +kernel
theorem dX5_repaired_2 : decode cX5_repaired 2 = .ok (.ifCond .lt 20, 3) := by decide +kernel
theorem dX5_repaired_5 : decode cX5_repaired 5 = .ok (.iload_n 1, 1) := by decide +kernel
theorem dX5_repaired_6 : decode cX5_repaired 6 = .ok (.aload_n 0, 1) := by decide +kernel
theorem dX5_repaired_7 : decode cX5_repaired 7 = .ok (.getfield 139, 3) := by decide +kernel
theorem dX5_repaired_10 : decode cX5_repaired 10 = .ok (.if_icmp .ge 12, 3) := by decide +kernel
theorem dX5_repaired_13 : decode cX5_repaired 13 = .ok (.iload_n 2, 1) := by decide +kernel
theorem dX5_repaired_14 : decode cX5_repaired 14 = .ok (.ifCond .lt 8, 3) := by decide +kernel
theorem dX5_repaired_17 : decode cX5_repaired 17 = .ok (.iload_n 2, 1) := by decide +kernel
theorem dX5_repaired_18 : decode cX5_repaired 18 = .ok (.iconst 3, 1) := by decide +kernel
theorem dX5_repaired_19 : decode cX5_repaired 19 = .ok (.if_icmp .le 7, 3) := by decide +kernel
theorem dX5_repaired_22 : decode cX5_repaired 22 = .ok (.iconst 1, 1) := by decide +kernel
theorem dX5_repaired_23 : decode cX5_repaired 23 = .ok (.goto 4, 3) := by decide +kernel
theorem dX5_repaired_26 : decode cX5_repaired 26 = .ok (.iconst 0, 1) := by decide +kernel
theorem dX5_repaired_27 : decode cX5_repaired 27 = .ok (.putfield 84, 3) := by decide +kernel
theorem dX5_repaired_30 : decode cX5_repaired 30 = .ok (.aload_n 0, 1) := by decide +kernel
theorem dX5_repaired_31 : decode cX5_repaired 31 = .ok (.getfield 84, 3) := by decide +kernel
theorem dX5_repaired_34 : decode cX5_repaired 34 = .ok (.ifCond .le 7, 3) := by decide +kernel
theorem dX5_repaired_37 : decode cX5_repaired 37 = .ok (.iconst 0, 1) := by decide +kernel
theorem dX5_repaired_38 : decode cX5_repaired 38 = .ok (.goto 50, 3) := by decide +kernel
theorem dX5_repaired_41 : decode cX5_repaired 41 = .ok (.iload_n 2, 1) := by decide +kernel
theorem dX5_repaired_42 : decode cX5_repaired 42 = .ok (.ifCond .ne 12, 3) := by decide +kernel
theorem dX5_repaired_45 : decode cX5_repaired 45 = .ok (.aload_n 0, 1) := by decide +kernel
theorem dX5_repaired_46 : decode cX5_repaired 46 = .ok (.getfield 32, 3) := by decide +kernel
theorem dX5_repaired_49 : decode cX5_repaired 49 = .ok (.iload_n 1, 1) := by decide +kernel
theorem dX5_repaired_50 : decode cX5_repaired 50 = .ok (.iaload, 1) := by decide +kernel
theorem dX5_repaired_51 : decode cX5_repaired 51 = .ok (.goto 37, 3) := by decide +kernel
theorem dX5_repaired_54 : decode cX5_repaired 54 = .ok (.iload_n 2, 1) := by decide +kernel
theorem dX5_repaired_55 : decode cX5_repaired 55 = .ok (.iconst 1, 1) := by decide +kernel
theorem dX5_repaired_56 : decode cX5_repaired 56 = .ok (.if_icmp .ne 12, 3) := by decide +kernel
theorem dX5_repaired_59 : decode cX5_repaired 59 = .ok (.aload_n 0, 1) := by decide +kernel
theorem dX5_repaired_60 : decode cX5_repaired 60 = .ok (.getfield 35, 3) := by decide +kernel
theorem dX5_repaired_63 : decode cX5_repaired 63 = .ok (.iload_n 1, 1) := by decide +kernel
theorem dX5_repaired_64 : decode cX5_repaired 64 = .ok (.iaload, 1) := by decide +kernel
theorem dX5_repaired_65 : decode cX5_repaired 65 = .ok (.goto 23, 3) := by decide +kernel
theorem dX5_repaired_68 : decode cX5_repaired 68 = .ok (.iload_n 2, 1) := by decide +kernel
theorem dX5_repaired_69 : decode cX5_repaired 69 = .ok (.iconst 2, 1) := by decide +kernel
theorem dX5_repaired_70 : decode cX5_repaired 70 = .ok (.if_icmp .ne 12, 3) := by decide +kernel
theorem dX5_repaired_73 : decode cX5_repaired 73 = .ok (.aload_n 0, 1) := by decide +kernel
theorem dX5_repaired_74 : decode cX5_repaired 74 = .ok (.getfield 38, 3) := by decide +kernel
theorem dX5_repaired_77 : decode cX5_repaired 77 = .ok (.iload_n 1, 1) := by decide +kernel
theorem dX5_repaired_78 : decode cX5_repaired 78 = .ok (.iaload, 1) := by decide +kernel
theorem dX5_repaired_79 : decode cX5_repaired 79 = .ok (.goto 9, 3) := by decide +kernel
theorem dX5_repaired_82 : decode cX5_repaired 82 = .ok (.aload_n 0, 1) := by decide +kernel
theorem dX5_repaired_83 : decode cX5_repaired 83 = .ok (.getfield 41, 3) := by decide +kernel
theorem dX5_repaired_86 : decode cX5_repaired 86 = .ok (.iload_n 1, 1) := by decide +kernel
theorem dX5_repaired_87 : decode cX5_repaired 87 = .ok (.iaload, 1) := by decide +kernel
theorem dX5_repaired_88 : decode cX5_repaired 88 = .ok (.ireturn, 1) := by decide +kernel
set_option maxRecDepth 20000 in
theorem ggX5_cover_X5_clear : GoodIn wsX5_cover wsX5_clear := goodIn_r _ [16] (by decide +kernel) (by decide +kernel)
set_option maxRecDepth 20000 in
theorem gX5_cover_X5_clear : GoodIn wsX5_cover (va_wsS RX5 105 yX5_clear wsX5_clear) := goodIn_app (goodIn_of _ (by decide +kernel)) ggX5_cover_X5_clear
set_option maxRecDepth 20000 in
theorem ggX5_cover_X5_mark : GoodIn wsX5_cover wsX5_mark := goodIn_r _ [19, 20, 21, 22, 15, 23] (by decide +kernel) (by decide +kernel)
set_option maxRecDepth 20000 in
theorem gX5_cover_X5_mark : GoodIn wsX5_cover (va_wsS RX5 109 yX5_mark wsX5_mark) := goodIn_app (goodIn_of _ (by decide +kernel)) ggX5_cover_X5_mark
theorem dX5_cover_0 : decode cX5_cover 0 = .ok (.aload_n 0, 1) := by decide +kernel
theorem dX5_cover_1 : decode cX5_cover 1 = .ok (.getfield 74, 3) := by decide +kernel
theorem dX5_cover_4 : decode cX5_cover 4 = .ok (.invokestatic 105, 3) := by decide +kernel
theorem dX5_cover_7 : decode cX5_cover 7 = .ok (.iconst 0, 1) := by decide +kernel
theorem dX5_cover_8 : decode cX5_cover 8 = .ok (.istore_n 2, 1) := by decide +kernel
theorem dX5_cover_9 : decode cX5_cover 9 = .ok (.iload_n 2, 1) := by decide +kernel
theorem dX5_cover_10 : decode cX5_cover 10 = .ok (.aload_n 0, 1) := by decide +kernel
theorem dX5_cover_11 : decode cX5_cover 11 = .ok (.getfield 102, 3) := by decide +kernel
theorem dX5_cover_14 : decode cX5_cover 14 = .ok (.if_icmp .ge 64, 3) := by decide +kernel
theorem dX5_cover_17 : decode cX5_cover 17 = .ok (.aload_n 0, 1) := by decide +kernel
theorem dX5_cover_18 : decode cX5_cover 18 = .ok (.getfield 17, 3) := by decide +kernel
theorem dX5_cover_21 : decode cX5_cover 21 = .ok (.iload_n 2, 1) := by decide +kernel
theorem dX5_cover_22 : decode cX5_cover 22 = .ok (.iaload, 1) := by decide +kernel
theorem dX5_cover_23 : decode cX5_cover 23 = .ok (.iload_n 1, 1) := by decide +kernel
theorem dX5_cover_24 : decode cX5_cover 24 = .ok (.if_icmp .ne 48, 3) := by decide +kernel
theorem dX5_cover_27 : decode cX5_cover 27 = .ok (.aload_n 0, 1) := by decide +kernel
theorem dX5_cover_28 : decode cX5_cover 28 = .ok (.getfield 74, 3) := by decide +kernel
theorem dX5_cover_31 : decode cX5_cover 31 = .ok (.aload_n 0, 1) := by decide +kernel
theorem dX5_cover_32 : decode cX5_cover 32 = .ok (.getfield 20, 3) := by decide +kernel
theorem dX5_cover_35 : decode cX5_cover 35 = .ok (.iconst 4, 1) := by decide +kernel
theorem dX5_cover_36 : decode cX5_cover 36 = .ok (.iload_n 2, 1) := by decide +kernel
theorem dX5_cover_37 : decode cX5_cover 37 = .ok (.imul, 1) := by decide +kernel
theorem dX5_cover_38 : decode cX5_cover 38 = .ok (.iaload, 1) := by decide +kernel
theorem dX5_cover_39 : decode cX5_cover 39 = .ok (.aload_n 0, 1) := by decide +kernel
theorem dX5_cover_40 : decode cX5_cover 40 = .ok (.getfield 20, 3) := by decide +kernel
theorem dX5_cover_43 : decode cX5_cover 43 = .ok (.iconst 4, 1) := by decide +kernel
theorem dX5_cover_44 : decode cX5_cover 44 = .ok (.iload_n 2, 1) := by decide +kernel
theorem dX5_cover_45 : decode cX5_cover 45 = .ok (.imul, 1) := by decide +kernel
theorem dX5_cover_46 : decode cX5_cover 46 = .ok (.iconst 1, 1) := by decide +kernel
theorem dX5_cover_47 : decode cX5_cover 47 = .ok (.iadd, 1) := by decide +kernel
theorem dX5_cover_48 : decode cX5_cover 48 = .ok (.iaload, 1) := by decide +kernel
theorem dX5_cover_49 : decode cX5_cover 49 = .ok (.aload_n 0, 1) := by decide +kernel
theorem dX5_cover_50 : decode cX5_cover 50 = .ok (.getfield 20, 3) := by decide +kernel
theorem dX5_cover_53 : decode cX5_cover 53 = .ok (.iconst 4, 1) := by decide +kernel
theorem dX5_cover_54 : decode cX5_cover 54 = .ok (.iload_n 2, 1) := by decide +kernel
theorem dX5_cover_55 : decode cX5_cover 55 = .ok (.imul, 1) := by decide +kernel
theorem dX5_cover_56 : decode cX5_cover 56 = .ok (.iconst 2, 1) := by decide +kernel
theorem dX5_cover_57 : decode cX5_cover 57 = .ok (.iadd, 1) := by decide +kernel
theorem dX5_cover_58 : decode cX5_cover 58 = .ok (.iaload, 1) := by decide +kernel
theorem dX5_cover_59 : decode cX5_cover 59 = .ok (.aload_n 0, 1) := by decide +kernel
theorem dX5_cover_60 : decode cX5_cover 60 = .ok (.getfield 20, 3) := by decide +kernel
theorem dX5_cover_63 : decode cX5_cover 63 = .ok (.iconst 4, 1) := by decide +kernel
theorem dX5_cover_64 : decode cX5_cover 64 = .ok (.iload_n 2, 1) := by decide +kernel
theorem dX5_cover_65 : decode cX5_cover 65 = .ok (.imul, 1) := by decide +kernel
theorem dX5_cover_66 : decode cX5_cover 66 = .ok (.iconst 3, 1) := by decide +kernel
theorem dX5_cover_67 : decode cX5_cover 67 = .ok (.iadd, 1) := by decide +kernel
theorem dX5_cover_68 : decode cX5_cover 68 = .ok (.iaload, 1) := by decide +kernel
theorem dX5_cover_69 : decode cX5_cover 69 = .ok (.invokestatic 109, 3) := by decide +kernel
theorem dX5_cover_72 : decode cX5_cover 72 = .ok (.iinc 2 1, 3) := by decide +kernel
theorem dX5_cover_75 : decode cX5_cover 75 = .ok (.goto (-66), 3) := by decide +kernel
theorem dX5_cover_78 : decode cX5_cover 78 = .ok (.iconst 0, 1) := by decide +kernel
theorem dX5_cover_79 : decode cX5_cover 79 = .ok (.istore_n 2, 1) := by decide +kernel
theorem dX5_cover_80 : decode cX5_cover 80 = .ok (.iload_n 2, 1) := by decide +kernel
theorem dX5_cover_81 : decode cX5_cover 81 = .ok (.aload_n 0, 1) := by decide +kernel
theorem dX5_cover_82 : decode cX5_cover 82 = .ok (.getfield 139, 3) := by decide +kernel
theorem dX5_cover_85 : decode cX5_cover 85 = .ok (.if_icmp .ge 48, 3) := by decide +kernel
theorem dX5_cover_88 : decode cX5_cover 88 = .ok (.iload_n 1, 1) := by decide +kernel
theorem dX5_cover_89 : decode cX5_cover 89 = .ok (.ifCond .ne 44, 3) := by decide +kernel
theorem dX5_cover_92 : decode cX5_cover 92 = .ok (.aload_n 0, 1) := by decide +kernel
theorem dX5_cover_93 : decode cX5_cover 93 = .ok (.getfield 74, 3) := by decide +kernel
theorem dX5_cover_96 : decode cX5_cover 96 = .ok (.aload_n 0, 1) := by decide +kernel
theorem dX5_cover_97 : decode cX5_cover 97 = .ok (.getfield 38, 3) := by decide +kernel
theorem dX5_cover_100 : decode cX5_cover 100 = .ok (.iload_n 2, 1) := by decide +kernel
theorem dX5_cover_101 : decode cX5_cover 101 = .ok (.iaload, 1) := by decide +kernel
theorem dX5_cover_102 : decode cX5_cover 102 = .ok (.aload_n 0, 1) := by decide +kernel
theorem dX5_cover_103 : decode cX5_cover 103 = .ok (.getfield 41, 3) := by decide +kernel
theorem dX5_cover_106 : decode cX5_cover 106 = .ok (.iload_n 2, 1) := by decide +kernel
theorem dX5_cover_107 : decode cX5_cover 107 = .ok (.iaload, 1) := by decide +kernel
theorem dX5_cover_108 : decode cX5_cover 108 = .ok (.aload_n 0, 1) := by decide +kernel
theorem dX5_cover_109 : decode cX5_cover 109 = .ok (.getfield 38, 3) := by decide +kernel
theorem dX5_cover_112 : decode cX5_cover 112 = .ok (.iload_n 2, 1) := by decide +kernel
theorem dX5_cover_113 : decode cX5_cover 113 = .ok (.iaload, 1) := by decide +kernel
theorem dX5_cover_114 : decode cX5_cover 114 = .ok (.iconst 4, 1) := by decide +kernel
theorem dX5_cover_115 : decode cX5_cover 115 = .ok (.iadd, 1) := by decide +kernel
theorem dX5_cover_116 : decode cX5_cover 116 = .ok (.aload_n 0, 1) := by decide +kernel
theorem dX5_cover_117 : decode cX5_cover 117 = .ok (.getfield 41, 3) := by decide +kernel
theorem dX5_cover_120 : decode cX5_cover 120 = .ok (.iload_n 2, 1) := by decide +kernel
theorem dX5_cover_121 : decode cX5_cover 121 = .ok (.iaload, 1) := by decide +kernel
theorem dX5_cover_122 : decode cX5_cover 122 = .ok (.iconst 4, 1) := by decide +kernel
theorem dX5_cover_123 : decode cX5_cover 123 = .ok (.iadd, 1) := by decide +kernel
theorem dX5_cover_124 : decode cX5_cover 124 = .ok (.invokestatic 109, 3) := by decide +kernel
theorem dX5_cover_127 : decode cX5_cover 127 = .ok (.iinc 2 1, 3) := by decide +kernel
theorem dX5_cover_130 : decode cX5_cover 130 = .ok (.goto (-50), 3) := by decide +kernel
theorem dX5_cover_133 : decode cX5_cover 133 = .ok (.iconst 0, 1) := by decide +kernel
theorem dX5_cover_134 : decode cX5_cover 134 = .ok (.istore_n 2, 1) := by decide +kernel
theorem dX5_cover_135 : decode cX5_cover 135 = .ok (.iload_n 2, 1) := by decide +kernel
theorem dX5_cover_136 : decode cX5_cover 136 = .ok (.aload_n 0, 1) := by decide +kernel
theorem dX5_cover_137 : decode cX5_cover 137 = .ok (.getfield 165, 3) := by decide +kernel
theorem dX5_cover_140 : decode cX5_cover 140 = .ok (.if_icmp .ge 64, 3) := by decide +kernel
theorem dX5_cover_143 : decode cX5_cover 143 = .ok (.aload_n 0, 1) := by decide +kernel
theorem dX5_cover_144 : decode cX5_cover 144 = .ok (.getfield 56, 3) := by decide +kernel
theorem dX5_cover_147 : decode cX5_cover 147 = .ok (.iload_n 2, 1) := by decide +kernel
theorem dX5_cover_148 : decode cX5_cover 148 = .ok (.iaload, 1) := by decide +kernel
theorem dX5_cover_149 : decode cX5_cover 149 = .ok (.iload_n 1, 1) := by decide +kernel
theorem dX5_cover_150 : decode cX5_cover 150 = .ok (.if_icmp .ne 48, 3) := by decide +kernel
theorem dX5_cover_153 : decode cX5_cover 153 = .ok (.aload_n 0, 1) := by decide +kernel
theorem dX5_cover_154 : decode cX5_cover 154 = .ok (.getfield 74, 3) := by decide +kernel
theorem dX5_cover_157 : decode cX5_cover 157 = .ok (.aload_n 0, 1) := by decide +kernel
theorem dX5_cover_158 : decode cX5_cover 158 = .ok (.getfield 59, 3) := by decide +kernel
theorem dX5_cover_161 : decode cX5_cover 161 = .ok (.iload_n 2, 1) := by decide +kernel
theorem dX5_cover_162 : decode cX5_cover 162 = .ok (.iaload, 1) := by decide +kernel
theorem dX5_cover_163 : decode cX5_cover 163 = .ok (.aload_n 0, 1) := by decide +kernel
theorem dX5_cover_164 : decode cX5_cover 164 = .ok (.getfield 62, 3) := by decide +kernel
theorem dX5_cover_167 : decode cX5_cover 167 = .ok (.iload_n 2, 1) := by decide +kernel
theorem dX5_cover_168 : decode cX5_cover 168 = .ok (.iaload, 1) := by decide +kernel
theorem dX5_cover_169 : decode cX5_cover 169 = .ok (.aload_n 0, 1) := by decide +kernel
theorem dX5_cover_170 : decode cX5_cover 170 = .ok (.getfield 59, 3) := by decide +kernel
theorem dX5_cover_173 : decode cX5_cover 173 = .ok (.iload_n 2, 1) := by decide +kernel
theorem dX5_cover_174 : decode cX5_cover 174 = .ok (.iaload, 1) := by decide +kernel
theorem dX5_cover_175 : decode cX5_cover 175 = .ok (.aload_n 0, 1) := by decide +kernel
theorem dX5_cover_176 : decode cX5_cover 176 = .ok (.getfield 65, 3) := by decide +kernel
theorem dX5_cover_179 : decode cX5_cover 179 = .ok (.iload_n 2, 1) := by decide +kernel
theorem dX5_cover_180 : decode cX5_cover 180 = .ok (.iaload, 1) := by decide +kernel
theorem dX5_cover_181 : decode cX5_cover 181 = .ok (.iadd, 1) := by decide +kernel
theorem dX5_cover_182 : decode cX5_cover 182 = .ok (.aload_n 0, 1) := by decide +kernel
theorem dX5_cover_183 : decode cX5_cover 183 = .ok (.getfield 62, 3) := by decide +kernel
theorem dX5_cover_186 : decode cX5_cover 186 = .ok (.iload_n 2, 1) := by decide +kernel
theorem dX5_cover_187 : decode cX5_cover 187 = .ok (.iaload, 1) := by decide +kernel
theorem dX5_cover_188 : decode cX5_cover 188 = .ok (.aload_n 0, 1) := by decide +kernel
theorem dX5_cover_189 : decode cX5_cover 189 = .ok (.getfield 65, 3) := by decide +kernel
theorem dX5_cover_192 : decode cX5_cover 192 = .ok (.iload_n 2, 1) := by decide +kernel
theorem dX5_cover_193 : decode cX5_cover 193 = .ok (.iaload, 1) := by decide +kernel
theorem dX5_cover_194 : decode cX5_cover 194 = .ok (.iadd, 1) := by decide +kernel
theorem dX5_cover_195 : decode cX5_cover 195 = .ok (.invokestatic 109, 3) := by decide +kernel
theorem dX5_cover_198 : decode cX5_cover 198 = .ok (.iinc 2 1, 3) := by decide +kernel
theorem dX5_cover_201 : decode cX5_cover 201 = .ok (.goto (-66), 3) := by decide +kernel
theorem dX5_cover_204 : decode cX5_cover 204 = .ok (.return_, 1) := by decide +kernel
set_option maxRecDepth 20000 in
theorem ggX5_density_X5_isLayer : GoodIn wsX5_density wsX5_isLayer := goodIn_r _ [8, 9, 49, 50, 51, 52, 53, 54, 55, 56, 57, 58, 59, 60, 61, 62, 63, 64, 65, 66, 67, 68, 69, 70, 71, 72, 73, 74, 75, 76, 77, 78, 79] (by decide +kernel) (by decide +kernel)
set_option maxRecDepth 20000 in
theorem gX5_density_X5_isLayer : GoodIn wsX5_density (wsV RX5 121 RX5 yX5_isLayer wsX5_isLayer) := goodIn_app (goodIn_of _ (by decide +kernel)) ggX5_density_X5_isLayer
set_option maxRecDepth 20000 in
theorem ggX5_density_X5_cover : GoodIn wsX5_density wsX5_cover := goodIn_r _ [13, 14, 15, 16, 17, 18, 19, 20, 21, 22, 23, 24, 25, 26, 27, 7, 28, 29, 30, 31, 32, 33, 34, 35, 49, 50, 51, 52, 53, 54, 55, 56, 57, 58, 59, 60, 61, 62, 63, 64, 65, 66, 67, 68, 69, 70, 71, 72, 73, 74, 75, 76, 77, 78, 79] (by decide +kernel) (by decide +kernel)
set_option maxRecDepth 20000 in
theorem gX5_density_X5_cover : GoodIn wsX5_density (wsV RX5 181 RX5 yX5_cover wsX5_cover) := goodIn_app (goodIn_of _ (by decide +kernel)) ggX5_density_X5_cover
set_option maxRecDepth 20000 in
theorem ggX5_density_X5_marked : GoodIn wsX5_density wsX5_marked := goodIn_r _ [39, 32, 14, 40, 41, 7, 42, 49, 50, 51, 52, 53, 54, 55, 56, 57, 58, 59, 60, 61, 62, 63, 64, 65, 66, 67, 68, 69, 70, 71, 72, 73, 74, 75, 76, 77, 78, 79] (by decide +kernel) (by decide +kernel)
set_option maxRecDepth 20000 in
theorem gX5_density_X5_marked : GoodIn wsX5_density (wsV RX5 113 RX5 yX5_marked wsX5_marked) := goodIn_app (goodIn_of _ (by decide +kernel)) ggX5_density_X5_marked
set_option maxRecDepth 20000 in
theorem ggX5_density_X5_part : GoodIn wsX5_density wsX5_part := goodIn_r _ [45, 46, 47, 7, 48] (by decide +kernel) (by decide +kernel)
set_option maxRecDepth 20000 in
theorem gX5_density_X5_part : GoodIn wsX5_density (va_wsS RX5 157 yX5_part wsX5_part) := goodIn_app (goodIn_of _ (by decide +kernel)) ggX5_density_X5_part
theorem dX5_density_0 : decode cX5_density 0 = .ok (.aload_n 0, 1) := by decide +kernel
theorem dX5_density_1 : decode cX5_density 1 = .ok (.aload_n 0, 1) := by decide +kernel
theorem dX5_density_2 : decode cX5_density 2 = .ok (.iload_n 1, 1) := by decide +kernel
theorem dX5_density_3 : decode cX5_density 3 = .ok (.invokevirtual 121, 3) := by decide +kernel
theorem dX5_density_6 : decode cX5_density 6 = .ok (.ifCond .eq 14, 3) := by decide +kernel
theorem dX5_density_9 : decode cX5_density 9 = .ok (.iload 6, 2) := by decide +kernel
theorem dX5_density_11 : decode cX5_density 11 = .ok (.ifCond .lt 9, 3) := by decide +kernel
theorem dX5_density_14 : decode cX5_density 14 = .ok (.iload 6, 2) := by decide +kernel
theorem dX5_density_16 : decode cX5_density 16 = .ok (.iconst 1, 1) := by decide +kernel
theorem dX5_density_17 : decode cX5_density 17 = .ok (.if_icmp .le 7, 3) := by decide +kernel
theorem dX5_density_20 : decode cX5_density 20 = .ok (.iconst 1, 1) := by decide +kernel
theorem dX5_density_21 : decode cX5_density 21 = .ok (.goto 38, 3) := by decide +kernel
theorem dX5_density_24 : decode cX5_density 24 = .ok (.lload_n 2, 1) := by decide +kernel
theorem dX5_density_25 : decode cX5_density 25 = .ok (.lconst 0, 1) := by decide +kernel
theorem dX5_density_26 : decode cX5_density 26 = .ok (.lcmp, 1) := by decide +kernel
theorem dX5_density_27 : decode cX5_density 27 = .ok (.ifCond .lt 27, 3) := by decide +kernel
theorem dX5_density_30 : decode cX5_density 30 = .ok (.lload_n 2, 1) := by decide +kernel
theorem dX5_density_31 : decode cX5_density 31 = .ok (.ldc2_w 179, 3) := by decide +kernel
theorem dX5_density_34 : decode cX5_density 34 = .ok (.lcmp, 1) := by decide +kernel
theorem dX5_density_35 : decode cX5_density 35 = .ok (.ifCond .gt 19, 3) := by decide +kernel
theorem dX5_density_38 : decode cX5_density 38 = .ok (.lload 4, 2) := by decide +kernel
theorem dX5_density_40 : decode cX5_density 40 = .ok (.lconst 0, 1) := by decide +kernel
theorem dX5_density_41 : decode cX5_density 41 = .ok (.lcmp, 1) := by decide +kernel
theorem dX5_density_42 : decode cX5_density 42 = .ok (.ifCond .lt 12, 3) := by decide +kernel
theorem dX5_density_45 : decode cX5_density 45 = .ok (.lload 4, 2) := by decide +kernel
theorem dX5_density_47 : decode cX5_density 47 = .ok (.ldc2_w 179, 3) := by decide +kernel
theorem dX5_density_50 : decode cX5_density 50 = .ok (.lcmp, 1) := by decide +kernel
theorem dX5_density_51 : decode cX5_density 51 = .ok (.ifCond .le 7, 3) := by decide +kernel
theorem dX5_density_54 : decode cX5_density 54 = .ok (.iconst 2, 1) := by decide +kernel
theorem dX5_density_55 : decode cX5_density 55 = .ok (.goto 4, 3) := by decide +kernel
theorem dX5_density_58 : decode cX5_density 58 = .ok (.iconst 0, 1) := by decide +kernel
theorem dX5_density_59 : decode cX5_density 59 = .ok (.putfield 84, 3) := by decide +kernel
theorem dX5_density_62 : decode cX5_density 62 = .ok (.aload_n 0, 1) := by decide +kernel
theorem dX5_density_63 : decode cX5_density 63 = .ok (.getfield 84, 3) := by decide +kernel
theorem dX5_density_66 : decode cX5_density 66 = .ok (.ifCond .le 5, 3) := by decide +kernel
theorem dX5_density_69 : decode cX5_density 69 = .ok (.lconst 0, 1) := by decide +kernel
theorem dX5_density_70 : decode cX5_density 70 = .ok (.lreturn, 1) := by decide +kernel
theorem dX5_density_71 : decode cX5_density 71 = .ok (.aload_n 0, 1) := by decide +kernel
theorem dX5_density_72 : decode cX5_density 72 = .ok (.iload_n 1, 1) := by decide +kernel
theorem dX5_density_73 : decode cX5_density 73 = .ok (.invokevirtual 181, 3) := by decide +kernel
theorem dX5_density_76 : decode cX5_density 76 = .ok (.aload_n 0, 1) := by decide +kernel
theorem dX5_density_77 : decode cX5_density 77 = .ok (.lload_n 2, 1) := by decide +kernel
theorem dX5_density_78 : decode cX5_density 78 = .ok (.l2i, 1) := by decide +kernel
