theorem dX5_slot_71 : decode cX5_slot 71 = .ok (.iload 5, 2) := by decide +kernel
theorem dX5_slot_73 : decode cX5_slot 73 = .ok (.lload_n 2, 1) := by decide +kernel
theorem dX5_slot_74 : decode cX5_slot 74 = .ok (.l2i, 1) := by decide +kernel
theorem dX5_slot_75 : decode cX5_slot 75 = .ok (.invokevirtual 221, 3) := by decide +kernel
theorem dX5_slot_78 : decode cX5_slot 78 = .ok (.goto 4, 3) := by decide +kernel
theorem dX5_slot_81 : decode cX5_slot 81 = .ok (.iconst 0, 1) := by decide +kernel
theorem dX5_slot_82 : decode cX5_slot 82 = .ok (.iadd, 1) := by decide +kernel
theorem dX5_slot_83 : decode cX5_slot 83 = .ok (.istore 4, 2) := by decide +kernel
theorem dX5_slot_85 : decode cX5_slot 85 = .ok (.iinc 5 1, 3) := by decide +kernel
theorem dX5_slot_88 : decode cX5_slot 88 = .ok (.goto (-47), 3) := by decide +kernel
theorem dX5_slot_91 : decode cX5_slot 91 = .ok (.iload 4, 2) := by decide +kernel
theorem dX5_slot_93 : decode cX5_slot 93 = .ok (.ireturn, 1) := by decide +kernel
set_option maxRecDepth 20000 in
theorem ggX5_slotAt_X5_isLayer : GoodIn wsX5_slotAt wsX5_isLayer := goodIn_r _ [10, 11, 16, 17, 18, 19, 20, 21, 22, 23, 24, 25, 26, 27, 28, 29, 30, 31, 32, 33, 34, 35, 36, 37, 38, 39, 40, 41, 42, 43, 44, 45, 46] (by decide +kernel) (by decide +kernel)
set_option maxRecDepth 20000 in
theorem gX5_slotAt_X5_isLayer : GoodIn wsX5_slotAt (wsV RX5 121 RX5 yX5_isLayer wsX5_isLayer) := goodIn_app (goodIn_of _ (by decide +kernel)) ggX5_slotAt_X5_isLayer
set_option maxRecDepth 20000 in
theorem ggX5_slotAt_X5_slotsOf : GoodIn wsX5_slotAt wsX5_slotsOf := goodIn_r _ [15, 5, 16, 17, 18, 19, 20, 21, 22, 23, 24, 25, 26, 27, 28, 29, 30, 31, 32, 33, 34, 35, 36, 37, 38, 39, 40, 41, 42, 43, 44, 45, 46] (by decide +kernel) (by decide +kernel)
set_option maxRecDepth 20000 in
theorem gX5_slotAt_X5_slotsOf : GoodIn wsX5_slotAt (wsV RX5 221 RX5 yX5_slotsOf wsX5_slotsOf) := goodIn_app (goodIn_of _ (by decide +kernel)) ggX5_slotAt_X5_slotsOf
theorem dX5_slotAt_0 : decode cX5_slotAt 0 = .ok (.aload_n 0, 1) := by decide +kernel
theorem dX5_slotAt_1 : decode cX5_slotAt 1 = .ok (.aload_n 0, 1) := by decide +kernel
theorem dX5_slotAt_2 : decode cX5_slotAt 2 = .ok (.iload_n 1, 1) := by decide +kernel
theorem dX5_slotAt_3 : decode cX5_slotAt 3 = .ok (.invokevirtual 121, 3) := by decide +kernel
theorem dX5_slotAt_6 : decode cX5_slotAt 6 = .ok (.ifCond .eq 14, 3) := by decide +kernel
theorem dX5_slotAt_9 : decode cX5_slotAt 9 = .ok (.iload 5, 2) := by decide +kernel
theorem dX5_slotAt_11 : decode cX5_slotAt 11 = .ok (.ifCond .lt 9, 3) := by decide +kernel
theorem dX5_slotAt_14 : decode cX5_slotAt 14 = .ok (.iload 5, 2) := by decide +kernel
theorem dX5_slotAt_16 : decode cX5_slotAt 16 = .ok (.iconst 3, 1) := by decide +kernel
theorem dX5_slotAt_17 : decode cX5_slotAt 17 = .ok (.if_icmp .le 7, 3) := by decide +kernel
theorem dX5_slotAt_20 : decode cX5_slotAt 20 = .ok (.iconst 1, 1) := by decide +kernel
theorem dX5_slotAt_21 : decode cX5_slotAt 21 = .ok (.goto 22, 3) := by decide +kernel
theorem dX5_slotAt_24 : decode cX5_slotAt 24 = .ok (.lload_n 2, 1) := by decide +kernel
theorem dX5_slotAt_25 : decode cX5_slotAt 25 = .ok (.lconst 1, 1) := by decide +kernel
theorem dX5_slotAt_26 : decode cX5_slotAt 26 = .ok (.lcmp, 1) := by decide +kernel
theorem dX5_slotAt_27 : decode cX5_slotAt 27 = .ok (.ifCond .lt 11, 3) := by decide +kernel
theorem dX5_slotAt_30 : decode cX5_slotAt 30 = .ok (.lload_n 2, 1) := by decide +kernel
theorem dX5_slotAt_31 : decode cX5_slotAt 31 = .ok (.ldc2_w 219, 3) := by decide +kernel
theorem dX5_slotAt_34 : decode cX5_slotAt 34 = .ok (.lcmp, 1) := by decide +kernel
theorem dX5_slotAt_35 : decode cX5_slotAt 35 = .ok (.ifCond .le 7, 3) := by decide +kernel
theorem dX5_slotAt_38 : decode cX5_slotAt 38 = .ok (.iconst 2, 1) := by decide +kernel
theorem dX5_slotAt_39 : decode cX5_slotAt 39 = .ok (.goto 4, 3) := by decide +kernel
theorem dX5_slotAt_42 : decode cX5_slotAt 42 = .ok (.iconst 0, 1) := by decide +kernel
theorem dX5_slotAt_43 : decode cX5_slotAt 43 = .ok (.putfield 84, 3) := by decide +kernel
theorem dX5_slotAt_46 : decode cX5_slotAt 46 = .ok (.lload_n 2, 1) := by decide +kernel
theorem dX5_slotAt_47 : decode cX5_slotAt 47 = .ok (.l2i, 1) := by decide +kernel
theorem dX5_slotAt_48 : decode cX5_slotAt 48 = .ok (.istore 6, 2) := by decide +kernel
theorem dX5_slotAt_50 : decode cX5_slotAt 50 = .ok (.iload 4, 2) := by decide +kernel
theorem dX5_slotAt_52 : decode cX5_slotAt 52 = .ok (.istore 7, 2) := by decide +kernel
theorem dX5_slotAt_54 : decode cX5_slotAt 54 = .ok (.iconst 0, 1) := by decide +kernel
theorem dX5_slotAt_55 : decode cX5_slotAt 55 = .ok (.istore 8, 2) := by decide +kernel
theorem dX5_slotAt_57 : decode cX5_slotAt 57 = .ok (.iload 8, 2) := by decide +kernel
theorem dX5_slotAt_59 : decode cX5_slotAt 59 = .ok (.aload_n 0, 1) := by decide +kernel
theorem dX5_slotAt_60 : decode cX5_slotAt 60 = .ok (.getfield 102, 3) := by decide +kernel
theorem dX5_slotAt_63 : decode cX5_slotAt 63 = .ok (.if_icmp .ge 285, 3) := by decide +kernel
theorem dX5_slotAt_66 : decode cX5_slotAt 66 = .ok (.aload_n 0, 1) := by decide +kernel
theorem dX5_slotAt_67 : decode cX5_slotAt 67 = .ok (.getfield 84, 3) := by decide +kernel
theorem dX5_slotAt_70 : decode cX5_slotAt 70 = .ok (.ifCond .ne 278, 3) := by decide +kernel
theorem dX5_slotAt_73 : decode cX5_slotAt 73 = .ok (.iload 4, 2) := by decide +kernel
theorem dX5_slotAt_75 : decode cX5_slotAt 75 = .ok (.ifCond .lt 273, 3) := by decide +kernel
theorem dX5_slotAt_78 : decode cX5_slotAt 78 = .ok (.aload_n 0, 1) := by decide +kernel
theorem dX5_slotAt_79 : decode cX5_slotAt 79 = .ok (.getfield 17, 3) := by decide +kernel
theorem dX5_slotAt_82 : decode cX5_slotAt 82 = .ok (.iload 8, 2) := by decide +kernel
theorem dX5_slotAt_84 : decode cX5_slotAt 84 = .ok (.iaload, 1) := by decide +kernel
theorem dX5_slotAt_85 : decode cX5_slotAt 85 = .ok (.iload_n 1, 1) := by decide +kernel
theorem dX5_slotAt_86 : decode cX5_slotAt 86 = .ok (.if_icmp .ne 14, 3) := by decide +kernel
theorem dX5_slotAt_89 : decode cX5_slotAt 89 = .ok (.aload_n 0, 1) := by decide +kernel
theorem dX5_slotAt_90 : decode cX5_slotAt 90 = .ok (.iload 8, 2) := by decide +kernel
theorem dX5_slotAt_92 : decode cX5_slotAt 92 = .ok (.iload 6, 2) := by decide +kernel
theorem dX5_slotAt_94 : decode cX5_slotAt 94 = .ok (.invokevirtual 221, 3) := by decide +kernel
theorem dX5_slotAt_97 : decode cX5_slotAt 97 = .ok (.goto 4, 3) := by decide +kernel
theorem dX5_slotAt_100 : decode cX5_slotAt 100 = .ok (.iconst 0, 1) := by decide +kernel
theorem dX5_slotAt_101 : decode cX5_slotAt 101 = .ok (.istore 9, 2) := by decide +kernel
theorem dX5_slotAt_103 : decode cX5_slotAt 103 = .ok (.iload 7, 2) := by decide +kernel
theorem dX5_slotAt_105 : decode cX5_slotAt 105 = .ok (.iload 9, 2) := by decide +kernel
theorem dX5_slotAt_107 : decode cX5_slotAt 107 = .ok (.if_icmp .ge 228, 3) := by decide +kernel
theorem dX5_slotAt_110 : decode cX5_slotAt 110 = .ok (.aload_n 0, 1) := by decide +kernel
theorem dX5_slotAt_111 : decode cX5_slotAt 111 = .ok (.getfield 20, 3) := by decide +kernel
theorem dX5_slotAt_114 : decode cX5_slotAt 114 = .ok (.iconst 4, 1) := by decide +kernel
theorem dX5_slotAt_115 : decode cX5_slotAt 115 = .ok (.iload 8, 2) := by decide +kernel
theorem dX5_slotAt_117 : decode cX5_slotAt 117 = .ok (.imul, 1) := by decide +kernel
theorem dX5_slotAt_118 : decode cX5_slotAt 118 = .ok (.iconst 2, 1) := by decide +kernel
theorem dX5_slotAt_119 : decode cX5_slotAt 119 = .ok (.iadd, 1) := by decide +kernel
theorem dX5_slotAt_120 : decode cX5_slotAt 120 = .ok (.iaload, 1) := by decide +kernel
theorem dX5_slotAt_121 : decode cX5_slotAt 121 = .ok (.aload_n 0, 1) := by decide +kernel
theorem dX5_slotAt_122 : decode cX5_slotAt 122 = .ok (.getfield 20, 3) := by decide +kernel
theorem dX5_slotAt_125 : decode cX5_slotAt 125 = .ok (.iconst 4, 1) := by decide +kernel
theorem dX5_slotAt_126 : decode cX5_slotAt 126 = .ok (.iload 8, 2) := by decide +kernel
theorem dX5_slotAt_128 : decode cX5_slotAt 128 = .ok (.imul, 1) := by decide +kernel
theorem dX5_slotAt_129 : decode cX5_slotAt 129 = .ok (.iaload, 1) := by decide +kernel
theorem dX5_slotAt_130 : decode cX5_slotAt 130 = .ok (.isub, 1) := by decide +kernel
theorem dX5_slotAt_131 : decode cX5_slotAt 131 = .ok (.aload_n 0, 1) := by decide +kernel
theorem dX5_slotAt_132 : decode cX5_slotAt 132 = .ok (.getfield 20, 3) := by decide +kernel
theorem dX5_slotAt_135 : decode cX5_slotAt 135 = .ok (.iconst 4, 1) := by decide +kernel
theorem dX5_slotAt_136 : decode cX5_slotAt 136 = .ok (.iload 8, 2) := by decide +kernel
theorem dX5_slotAt_138 : decode cX5_slotAt 138 = .ok (.imul, 1) := by decide +kernel
theorem dX5_slotAt_139 : decode cX5_slotAt 139 = .ok (.iconst 3, 1) := by decide +kernel
theorem dX5_slotAt_140 : decode cX5_slotAt 140 = .ok (.iadd, 1) := by decide +kernel
theorem dX5_slotAt_141 : decode cX5_slotAt 141 = .ok (.iaload, 1) := by decide +kernel
theorem dX5_slotAt_142 : decode cX5_slotAt 142 = .ok (.aload_n 0, 1) := by decide +kernel
theorem dX5_slotAt_143 : decode cX5_slotAt 143 = .ok (.getfield 20, 3) := by decide +kernel
theorem dX5_slotAt_146 : decode cX5_slotAt 146 = .ok (.iconst 4, 1) := by decide +kernel
theorem dX5_slotAt_147 : decode cX5_slotAt 147 = .ok (.iload 8, 2) := by decide +kernel
theorem dX5_slotAt_149 : decode cX5_slotAt 149 = .ok (.imul, 1) := by decide +kernel
theorem dX5_slotAt_150 : decode cX5_slotAt 150 = .ok (.iconst 1, 1) := by decide +kernel
theorem dX5_slotAt_151 : decode cX5_slotAt 151 = .ok (.iadd, 1) := by decide +kernel
theorem dX5_slotAt_152 : decode cX5_slotAt 152 = .ok (.iaload, 1) := by decide +kernel
theorem dX5_slotAt_153 : decode cX5_slotAt 153 = .ok (.isub, 1) := by decide +kernel
theorem dX5_slotAt_154 : decode cX5_slotAt 154 = .ok (.if_icmp .lt 7, 3) := by decide +kernel
theorem dX5_slotAt_157 : decode cX5_slotAt 157 = .ok (.iconst 1, 1) := by decide +kernel
theorem dX5_slotAt_158 : decode cX5_slotAt 158 = .ok (.goto 4, 3) := by decide +kernel
theorem dX5_slotAt_161 : decode cX5_slotAt 161 = .ok (.iconst 0, 1) := by decide +kernel
theorem dX5_slotAt_162 : decode cX5_slotAt 162 = .ok (.istore 10, 2) := by decide +kernel
theorem dX5_slotAt_164 : decode cX5_slotAt 164 = .ok (.iload 6, 2) := by decide +kernel
theorem dX5_slotAt_166 : decode cX5_slotAt 166 = .ok (.iload 7, 2) := by decide +kernel
theorem dX5_slotAt_168 : decode cX5_slotAt 168 = .ok (.iload 6, 2) := by decide +kernel
theorem dX5_slotAt_170 : decode cX5_slotAt 170 = .ok (.iconst 2, 1) := by decide +kernel
theorem dX5_slotAt_171 : decode cX5_slotAt 171 = .ok (.iadd, 1) := by decide +kernel
theorem dX5_slotAt_172 : decode cX5_slotAt 172 = .ok (.imul, 1) := by decide +kernel
theorem dX5_slotAt_173 : decode cX5_slotAt 173 = .ok (.iadd, 1) := by decide +kernel
theorem dX5_slotAt_174 : decode cX5_slotAt 174 = .ok (.istore 11, 2) := by decide +kernel
theorem dX5_slotAt_176 : decode cX5_slotAt 176 = .ok (.iconst 4, 1) := by decide +kernel
theorem dX5_slotAt_177 : decode cX5_slotAt 177 = .ok (.iload 8, 2) := by decide +kernel
theorem dX5_slotAt_179 : decode cX5_slotAt 179 = .ok (.imul, 1) := by decide +kernel
theorem dX5_slotAt_180 : decode cX5_slotAt 180 = .ok (.istore 12, 2) := by decide +kernel
theorem dX5_slotAt_182 : decode cX5_slotAt 182 = .ok (.iload 10, 2) := by decide +kernel
theorem dX5_slotAt_184 : decode cX5_slotAt 184 = .ok (.ifCond .eq 78, 3) := by decide +kernel
theorem dX5_slotAt_187 : decode cX5_slotAt 187 = .ok (.iload 5, 2) := by decide +kernel
theorem dX5_slotAt_189 : decode cX5_slotAt 189 = .ok (.ifCond .ne 16, 3) := by decide +kernel
theorem dX5_slotAt_192 : decode cX5_slotAt 192 = .ok (.aload_n 0, 1) := by decide +kernel
theorem dX5_slotAt_193 : decode cX5_slotAt 193 = .ok (.getfield 20, 3) := by decide +kernel
theorem dX5_slotAt_196 : decode cX5_slotAt 196 = .ok (.iload 12, 2) := by decide +kernel
theorem dX5_slotAt_198 : decode cX5_slotAt 198 = .ok (.iaload, 1) := by decide +kernel
theorem dX5_slotAt_199 : decode cX5_slotAt 199 = .ok (.iload 6, 2) := by decide +kernel
theorem dX5_slotAt_201 : decode cX5_slotAt 201 = .ok (.iadd, 1) := by decide +kernel
theorem dX5_slotAt_202 : decode cX5_slotAt 202 = .ok (.goto 59, 3) := by decide +kernel
theorem dX5_slotAt_205 : decode cX5_slotAt 205 = .ok (.iload 5, 2) := by decide +kernel
theorem dX5_slotAt_207 : decode cX5_slotAt 207 = .ok (.iconst 2, 1) := by decide +kernel
theorem dX5_slotAt_208 : decode cX5_slotAt 208 = .ok (.if_icmp .ne 18, 3) := by decide +kernel
theorem dX5_slotAt_211 : decode cX5_slotAt 211 = .ok (.aload_n 0, 1) := by decide +kernel
theorem dX5_slotAt_212 : decode cX5_slotAt 212 = .ok (.getfield 20, 3) := by decide +kernel
theorem dX5_slotAt_215 : decode cX5_slotAt 215 = .ok (.iload 12, 2) := by decide +kernel
theorem dX5_slotAt_217 : decode cX5_slotAt 217 = .ok (.iconst 2, 1) := by decide +kernel
theorem dX5_slotAt_218 : decode cX5_slotAt 218 = .ok (.iadd, 1) := by decide +kernel
theorem dX5_slotAt_219 : decode cX5_slotAt 219 = .ok (.iaload, 1) := by decide +kernel
theorem dX5_slotAt_220 : decode cX5_slotAt 220 = .ok (.iload 6, 2) := by decide +kernel
theorem dX5_slotAt_222 : decode cX5_slotAt 222 = .ok (.isub, 1) := by decide +kernel
theorem dX5_slotAt_223 : decode cX5_slotAt 223 = .ok (.goto 38, 3) := by decide +kernel
theorem dX5_slotAt_226 : decode cX5_slotAt 226 = .ok (.iload 5, 2) := by decide +kernel
theorem dX5_slotAt_228 : decode cX5_slotAt 228 = .ok (.iconst 1, 1) := by decide +kernel
theorem dX5_slotAt_229 : decode cX5_slotAt 229 = .ok (.if_icmp .ne 18, 3) := by decide +kernel
theorem dX5_slotAt_232 : decode cX5_slotAt 232 = .ok (.aload_n 0, 1) := by decide +kernel
theorem dX5_slotAt_233 : decode cX5_slotAt 233 = .ok (.getfield 20, 3) := by decide +kernel
theorem dX5_slotAt_236 : decode cX5_slotAt 236 = .ok (.iload 12, 2) := by decide +kernel
theorem dX5_slotAt_238 : decode cX5_slotAt 238 = .ok (.iconst 1, 1) := by decide +kernel
theorem dX5_slotAt_239 : decode cX5_slotAt 239 = .ok (.iadd, 1) := by decide +kernel
theorem dX5_slotAt_240 : decode cX5_slotAt 240 = .ok (.iaload, 1) := by decide +kernel
theorem dX5_slotAt_241 : decode cX5_slotAt 241 = .ok (.iload 11, 2) := by decide +kernel
theorem dX5_slotAt_243 : decode cX5_slotAt 243 = .ok (.iadd, 1) := by decide +kernel
theorem dX5_slotAt_244 : decode cX5_slotAt 244 = .ok (.goto 17, 3) := by decide +kernel
theorem dX5_slotAt_247 : decode cX5_slotAt 247 = .ok (.aload_n 0, 1) := by decide +kernel
theorem dX5_slotAt_248 : decode cX5_slotAt 248 = .ok (.getfield 20, 3) := by decide +kernel
theorem dX5_slotAt_251 : decode cX5_slotAt 251 = .ok (.iload 12, 2) := by decide +kernel
theorem dX5_slotAt_253 : decode cX5_slotAt 253 = .ok (.iconst 1, 1) := by decide +kernel
theorem dX5_slotAt_254 : decode cX5_slotAt 254 = .ok (.iadd, 1) := by decide +kernel
theorem dX5_slotAt_255 : decode cX5_slotAt 255 = .ok (.iaload, 1) := by decide +kernel
theorem dX5_slotAt_256 : decode cX5_slotAt 256 = .ok (.iload 11, 2) := by decide +kernel
theorem dX5_slotAt_258 : decode cX5_slotAt 258 = .ok (.iadd, 1) := by decide +kernel
theorem dX5_slotAt_259 : decode cX5_slotAt 259 = .ok (.iconst 2, 1) := by decide +kernel
theorem dX5_slotAt_260 : decode cX5_slotAt 260 = .ok (.iadd, 1) := by decide +kernel
theorem dX5_slotAt_261 : decode cX5_slotAt 261 = .ok (.ireturn, 1) := by decide +kernel
theorem dX5_slotAt_262 : decode cX5_slotAt 262 = .ok (.iload 5, 2) := by decide +kernel
theorem dX5_slotAt_264 : decode cX5_slotAt 264 = .ok (.iconst 1, 1) := by decide +kernel
theorem dX5_slotAt_265 : decode cX5_slotAt 265 = .ok (.if_icmp .ne 18, 3) := by decide +kernel
theorem dX5_slotAt_268 : decode cX5_slotAt 268 = .ok (.aload_n 0, 1) := by decide +kernel
theorem dX5_slotAt_269 : decode cX5_slotAt 269 = .ok (.getfield 20, 3) := by decide +kernel
theorem dX5_slotAt_272 : decode cX5_slotAt 272 = .ok (.iload 12, 2) := by decide +kernel
theorem dX5_slotAt_274 : decode cX5_slotAt 274 = .ok (.iconst 1, 1) := by decide +kernel
theorem dX5_slotAt_275 : decode cX5_slotAt 275 = .ok (.iadd, 1) := by decide +kernel
theorem dX5_slotAt_276 : decode cX5_slotAt 276 = .ok (.iaload, 1) := by decide +kernel
theorem dX5_slotAt_277 : decode cX5_slotAt 277 = .ok (.iload 6, 2) := by decide +kernel
theorem dX5_slotAt_279 : decode cX5_slotAt 279 = .ok (.iadd, 1) := by decide +kernel
theorem dX5_slotAt_280 : decode cX5_slotAt 280 = .ok (.goto 54, 3) := by decide +kernel
theorem dX5_slotAt_283 : decode cX5_slotAt 283 = .ok (.iload 5, 2) := by decide +kernel
theorem dX5_slotAt_285 : decode cX5_slotAt 285 = .ok (.iconst 3, 1) := by decide +kernel
theorem dX5_slotAt_286 : decode cX5_slotAt 286 = .ok (.if_icmp .ne 18, 3) := by decide +kernel
theorem dX5_slotAt_289 : decode cX5_slotAt 289 = .ok (.aload_n 0, 1) := by decide +kernel
theorem dX5_slotAt_290 : decode cX5_slotAt 290 = .ok (.getfield 20, 3) := by decide +kernel
theorem dX5_slotAt_293 : decode cX5_slotAt 293 = .ok (.iload 12, 2) := by decide +kernel
theorem dX5_slotAt_295 : decode cX5_slotAt 295 = .ok (.iconst 3, 1) := by decide +kernel
theorem dX5_slotAt_296 : decode cX5_slotAt 296 = .ok (.iadd, 1) := by decide +kernel
theorem dX5_slotAt_297 : decode cX5_slotAt 297 = .ok (.iaload, 1) := by decide +kernel
theorem dX5_slotAt_298 : decode cX5_slotAt 298 = .ok (.iload 6, 2) := by decide +kernel
theorem dX5_slotAt_300 : decode cX5_slotAt 300 = .ok (.isub, 1) := by decide +kernel
theorem dX5_slotAt_301 : decode cX5_slotAt 301 = .ok (.goto 33, 3) := by decide +kernel
theorem dX5_slotAt_304 : decode cX5_slotAt 304 = .ok (.iload 5, 2) := by decide +kernel
theorem dX5_slotAt_306 : decode cX5_slotAt 306 = .ok (.ifCond .ne 16, 3) := by decide +kernel
theorem dX5_slotAt_309 : decode cX5_slotAt 309 = .ok (.aload_n 0, 1) := by decide +kernel
theorem dX5_slotAt_310 : decode cX5_slotAt 310 = .ok (.getfield 20, 3) := by decide +kernel
theorem dX5_slotAt_313 : decode cX5_slotAt 313 = .ok (.iload 12, 2) := by decide +kernel
theorem dX5_slotAt_315 : decode cX5_slotAt 315 = .ok (.iaload, 1) := by decide +kernel
theorem dX5_slotAt_316 : decode cX5_slotAt 316 = .ok (.iload 11, 2) := by decide +kernel
theorem dX5_slotAt_318 : decode cX5_slotAt 318 = .ok (.iadd, 1) := by decide +kernel
theorem dX5_slotAt_319 : decode cX5_slotAt 319 = .ok (.goto 15, 3) := by decide +kernel
theorem dX5_slotAt_322 : decode cX5_slotAt 322 = .ok (.aload_n 0, 1) := by decide +kernel
theorem dX5_slotAt_323 : decode cX5_slotAt 323 = .ok (.getfield 20, 3) := by decide +kernel
theorem dX5_slotAt_326 : decode cX5_slotAt 326 = .ok (.iload 12, 2) := by decide +kernel
theorem dX5_slotAt_328 : decode cX5_slotAt 328 = .ok (.iaload, 1) := by decide +kernel
theorem dX5_slotAt_329 : decode cX5_slotAt 329 = .ok (.iload 11, 2) := by decide +kernel
theorem dX5_slotAt_331 : decode cX5_slotAt 331 = .ok (.iadd, 1) := by decide +kernel
theorem dX5_slotAt_332 : decode cX5_slotAt 332 = .ok (.iconst 2, 1) := by decide +kernel
theorem dX5_slotAt_333 : decode cX5_slotAt 333 = .ok (.iadd, 1) := by decide +kernel
theorem dX5_slotAt_334 : decode cX5_slotAt 334 = .ok (.ireturn, 1) := by decide +kernel
theorem dX5_slotAt_335 : decode cX5_slotAt 335 = .ok (.iload 7, 2) := by decide +kernel
theorem dX5_slotAt_337 : decode cX5_slotAt 337 = .ok (.iload 9, 2) := by decide +kernel
theorem dX5_slotAt_339 : decode cX5_slotAt 339 = .ok (.isub, 1) := by decide +kernel
theorem dX5_slotAt_340 : decode cX5_slotAt 340 = .ok (.istore 7, 2) := by decide +kernel
theorem dX5_slotAt_342 : decode cX5_slotAt 342 = .ok (.iinc 8 1, 3) := by decide +kernel
theorem dX5_slotAt_345 : decode cX5_slotAt 345 = .ok (.goto (-288), 3) := by decide +kernel
theorem dX5_slotAt_348 : decode cX5_slotAt 348 = .ok (.aload_n 0, 1) := by decide +kernel
theorem dX5_slotAt_349 : decode cX5_slotAt 349 = .ok (.getfield 84, 3) := by decide +kernel
theorem dX5_slotAt_352 : decode cX5_slotAt 352 = .ok (.ifCond .le 7, 3) := by decide +kernel
theorem dX5_slotAt_355 : decode cX5_slotAt 355 = .ok (.iconst 0, 1) := by decide +kernel
theorem dX5_slotAt_356 : decode cX5_slotAt 356 = .ok (.goto 4, 3) := by decide +kernel
theorem dX5_slotAt_359 : decode cX5_slotAt 359 = .ok (.iconst (-1), 1) := by decide +kernel
theorem dX5_slotAt_360 : decode cX5_slotAt 360 = .ok (.ireturn, 1) := by decide +kernel
theorem dX5_count_0 : decode cX5_count 0 = .ok (.aload_n 0, 1) := by decide +kernel
theorem dX5_count_1 : decode cX5_count 1 = .ok (.iload_n 1, 1) := by decide +kernel
theorem dX5_count_2 : decode cX5_count 2 = .ok (.ifCond .lt 8, 3) := by decide +kernel
theorem dX5_count_5 : decode cX5_count 5 = .ok (.iload_n 1, 1) := by decide +kernel
theorem dX5_count_6 : decode cX5_count 6 = .ok (.iconst 4, 1) := by decide +kernel
theorem dX5_count_7 : decode cX5_count 7 = .ok (.if_icmp .le 7, 3) := by decide +kernel
theorem dX5_count_10 : decode cX5_count 10 = .ok (.iconst 1, 1) := by decide +kernel
theorem dX5_count_11 : decode cX5_count 11 = .ok (.goto 4, 3) := by decide +kernel
theorem dX5_count_14 : decode cX5_count 14 = .ok (.iconst 0, 1) := by decide +kernel
theorem dX5_count_15 : decode cX5_count 15 = .ok (.putfield 84, 3) := by decide +kernel
theorem dX5_count_18 : decode cX5_count 18 = .ok (.aload_n 0, 1) := by decide +kernel
theorem dX5_count_19 : decode cX5_count 19 = .ok (.getfield 84, 3) := by decide +kernel
theorem dX5_count_22 : decode cX5_count 22 = .ok (.ifCond .le 7, 3) := by decide +kernel
theorem dX5_count_25 : decode cX5_count 25 = .ok (.iconst 0, 1) := by decide +kernel
theorem dX5_count_26 : decode cX5_count 26 = .ok (.goto 54, 3) := by decide +kernel
theorem dX5_count_29 : decode cX5_count 29 = .ok (.iload_n 1, 1) := by decide +kernel
theorem dX5_count_30 : decode cX5_count 30 = .ok (.ifCond .ne 10, 3) := by decide +kernel
theorem dX5_count_33 : decode cX5_count 33 = .ok (.aload_n 0, 1) := by decide +kernel
theorem dX5_count_34 : decode cX5_count 34 = .ok (.getfield 87, 3) := by decide +kernel
theorem dX5_count_37 : decode cX5_count 37 = .ok (.goto 43, 3) := by decide +kernel
theorem dX5_count_40 : decode cX5_count 40 = .ok (.iload_n 1, 1) := by decide +kernel
theorem dX5_count_41 : decode cX5_count 41 = .ok (.iconst 1, 1) := by decide +kernel
theorem dX5_count_42 : decode cX5_count 42 = .ok (.if_icmp .ne 10, 3) := by decide +kernel
theorem dX5_count_45 : decode cX5_count 45 = .ok (.aload_n 0, 1) := by decide +kernel
theorem dX5_count_46 : decode cX5_count 46 = .ok (.getfield 102, 3) := by decide +kernel
theorem dX5_count_49 : decode cX5_count 49 = .ok (.goto 31, 3) := by decide +kernel
theorem dX5_count_52 : decode cX5_count 52 = .ok (.iload_n 1, 1) := by decide +kernel
theorem dX5_count_53 : decode cX5_count 53 = .ok (.iconst 2, 1) := by decide +kernel
theorem dX5_count_54 : decode cX5_count 54 = .ok (.if_icmp .ne 10, 3) := by decide +kernel
theorem dX5_count_57 : decode cX5_count 57 = .ok (.aload_n 0, 1) := by decide +kernel
theorem dX5_count_58 : decode cX5_count 58 = .ok (.getfield 136, 3) := by decide +kernel
theorem dX5_count_61 : decode cX5_count 61 = .ok (.goto 19, 3) := by decide +kernel
theorem dX5_count_64 : decode cX5_count 64 = .ok (.iload_n 1, 1) := by decide +kernel
theorem dX5_count_65 : decode cX5_count 65 = .ok (.iconst 3, 1) := by decide +kernel
theorem dX5_count_66 : decode cX5_count 66 = .ok (.if_icmp .ne 10, 3) := by decide +kernel
theorem dX5_count_69 : decode cX5_count 69 = .ok (.aload_n 0, 1) := by decide +kernel
theorem dX5_count_70 : decode cX5_count 70 = .ok (.getfield 139, 3) := by decide +kernel
theorem dX5_count_73 : decode cX5_count 73 = .ok (.goto 7, 3) := by decide +kernel
theorem dX5_count_76 : decode cX5_count 76 = .ok (.aload_n 0, 1) := by decide +kernel
theorem dX5_count_77 : decode cX5_count 77 = .ok (.getfield 165, 3) := by decide +kernel
theorem dX5_count_80 : decode cX5_count 80 = .ok (.ireturn, 1) := by decide +kernel
theorem dJ6_numberOfTrailingZeros_0f7a4_0 : decode cJ6_numberOfTrailingZeros_0f7a4 0 = .ok (.iload_n 0, 1) := by decide +kernel
theorem dJ6_numberOfTrailingZeros_0f7a4_1 : decode cJ6_numberOfTrailingZeros_0f7a4 1 = .ok (.iconst (-1), 1) := by decide +kernel
theorem dJ6_numberOfTrailingZeros_0f7a4_2 : decode cJ6_numberOfTrailingZeros_0f7a4 2 = .ok (.ixor, 1) := by decide +kernel
theorem dJ6_numberOfTrailingZeros_0f7a4_3 : decode cJ6_numberOfTrailingZeros_0f7a4 3 = .ok (.iload_n 0, 1) := by decide +kernel
theorem dJ6_numberOfTrailingZeros_0f7a4_4 : decode cJ6_numberOfTrailingZeros_0f7a4 4 = .ok (.iconst 1, 1) := by decide +kernel
theorem dJ6_numberOfTrailingZeros_0f7a4_5 : decode cJ6_numberOfTrailingZeros_0f7a4 5 = .ok (.isub, 1) := by decide +kernel
theorem dJ6_numberOfTrailingZeros_0f7a4_6 : decode cJ6_numberOfTrailingZeros_0f7a4 6 = .ok (.iand, 1) := by decide +kernel
theorem dJ6_numberOfTrailingZeros_0f7a4_7 : decode cJ6_numberOfTrailingZeros_0f7a4 7 = .ok (.istore_n 0, 1) := by decide +kernel
theorem dJ6_numberOfTrailingZeros_0f7a4_8 : decode cJ6_numberOfTrailingZeros_0f7a4 8 = .ok (.iload_n 0, 1) := by decide +kernel
theorem dJ6_numberOfTrailingZeros_0f7a4_9 : decode cJ6_numberOfTrailingZeros_0f7a4 9 = .ok (.ifCond .gt 8, 3) := by decide +kernel
theorem dJ6_numberOfTrailingZeros_0f7a4_12 : decode cJ6_numberOfTrailingZeros_0f7a4 12 = .ok (.iload_n 0, 1) := by decide +kernel
theorem dJ6_numberOfTrailingZeros_0f7a4_13 : decode cJ6_numberOfTrailingZeros_0f7a4 13 = .ok (.bipush 32, 2) := by decide +kernel
theorem dJ6_numberOfTrailingZeros_0f7a4_15 : decode cJ6_numberOfTrailingZeros_0f7a4 15 = .ok (.iand, 1) := by decide +kernel
theorem dJ6_numberOfTrailingZeros_0f7a4_16 : decode cJ6_numberOfTrailingZeros_0f7a4 16 = .ok (.ireturn, 1) := by decide +kernel
theorem dJ6_numberOfTrailingZeros_0f7a4_17 : decode cJ6_numberOfTrailingZeros_0f7a4 17 = .ok (.iconst 1, 1) := by decide +kernel
theorem dJ6_numberOfTrailingZeros_0f7a4_18 : decode cJ6_numberOfTrailingZeros_0f7a4 18 = .ok (.istore_n 1, 1) := by decide +kernel
theorem dJ6_numberOfTrailingZeros_0f7a4_19 : decode cJ6_numberOfTrailingZeros_0f7a4 19 = .ok (.iload_n 0, 1) := by decide +kernel
theorem dJ6_numberOfTrailingZeros_0f7a4_20 : decode cJ6_numberOfTrailingZeros_0f7a4 20 = .ok (.ldc_w 264, 3) := by decide +kernel
theorem dJ6_numberOfTrailingZeros_0f7a4_23 : decode cJ6_numberOfTrailingZeros_0f7a4 23 = .ok (.if_icmp .le 11, 3) := by decide +kernel
theorem dJ6_numberOfTrailingZeros_0f7a4_26 : decode cJ6_numberOfTrailingZeros_0f7a4 26 = .ok (.iinc 1 16, 3) := by decide +kernel
theorem dJ6_numberOfTrailingZeros_0f7a4_29 : decode cJ6_numberOfTrailingZeros_0f7a4 29 = .ok (.iload_n 0, 1) := by decide +kernel
theorem dJ6_numberOfTrailingZeros_0f7a4_30 : decode cJ6_numberOfTrailingZeros_0f7a4 30 = .ok (.bipush 16, 2) := by decide +kernel
theorem dJ6_numberOfTrailingZeros_0f7a4_32 : decode cJ6_numberOfTrailingZeros_0f7a4 32 = .ok (.iushr, 1) := by decide +kernel
theorem dJ6_numberOfTrailingZeros_0f7a4_33 : decode cJ6_numberOfTrailingZeros_0f7a4 33 = .ok (.istore_n 0, 1) := by decide +kernel
theorem dJ6_numberOfTrailingZeros_0f7a4_34 : decode cJ6_numberOfTrailingZeros_0f7a4 34 = .ok (.iload_n 0, 1) := by decide +kernel
theorem dJ6_numberOfTrailingZeros_0f7a4_35 : decode cJ6_numberOfTrailingZeros_0f7a4 35 = .ok (.sipush 256, 3) := by decide +kernel
theorem dJ6_numberOfTrailingZeros_0f7a4_38 : decode cJ6_numberOfTrailingZeros_0f7a4 38 = .ok (.if_icmp .le 11, 3) := by decide +kernel
theorem dJ6_numberOfTrailingZeros_0f7a4_41 : decode cJ6_numberOfTrailingZeros_0f7a4 41 = .ok (.iinc 1 8, 3) := by decide +kernel
theorem dJ6_numberOfTrailingZeros_0f7a4_44 : decode cJ6_numberOfTrailingZeros_0f7a4 44 = .ok (.iload_n 0, 1) := by decide +kernel
theorem dJ6_numberOfTrailingZeros_0f7a4_45 : decode cJ6_numberOfTrailingZeros_0f7a4 45 = .ok (.bipush 8, 2) := by decide +kernel
theorem dJ6_numberOfTrailingZeros_0f7a4_47 : decode cJ6_numberOfTrailingZeros_0f7a4 47 = .ok (.iushr, 1) := by decide +kernel
theorem dJ6_numberOfTrailingZeros_0f7a4_48 : decode cJ6_numberOfTrailingZeros_0f7a4 48 = .ok (.istore_n 0, 1) := by decide +kernel
theorem dJ6_numberOfTrailingZeros_0f7a4_49 : decode cJ6_numberOfTrailingZeros_0f7a4 49 = .ok (.iload_n 0, 1) := by decide +kernel
theorem dJ6_numberOfTrailingZeros_0f7a4_50 : decode cJ6_numberOfTrailingZeros_0f7a4 50 = .ok (.bipush 16, 2) := by decide +kernel
theorem dJ6_numberOfTrailingZeros_0f7a4_52 : decode cJ6_numberOfTrailingZeros_0f7a4 52 = .ok (.if_icmp .le 10, 3) := by decide +kernel
theorem dJ6_numberOfTrailingZeros_0f7a4_55 : decode cJ6_numberOfTrailingZeros_0f7a4 55 = .ok (.iinc 1 4, 3) := by decide +kernel
theorem dJ6_numberOfTrailingZeros_0f7a4_58 : decode cJ6_numberOfTrailingZeros_0f7a4 58 = .ok (.iload_n 0, 1) := by decide +kernel
theorem dJ6_numberOfTrailingZeros_0f7a4_59 : decode cJ6_numberOfTrailingZeros_0f7a4 59 = .ok (.iconst 4, 1) := by decide +kernel
theorem dJ6_numberOfTrailingZeros_0f7a4_60 : decode cJ6_numberOfTrailingZeros_0f7a4 60 = .ok (.iushr, 1) := by decide +kernel
theorem dJ6_numberOfTrailingZeros_0f7a4_61 : decode cJ6_numberOfTrailingZeros_0f7a4 61 = .ok (.istore_n 0, 1) := by decide +kernel
theorem dJ6_numberOfTrailingZeros_0f7a4_62 : decode cJ6_numberOfTrailingZeros_0f7a4 62 = .ok (.iload_n 0, 1) := by decide +kernel
theorem dJ6_numberOfTrailingZeros_0f7a4_63 : decode cJ6_numberOfTrailingZeros_0f7a4 63 = .ok (.iconst 4, 1) := by decide +kernel
theorem dJ6_numberOfTrailingZeros_0f7a4_64 : decode cJ6_numberOfTrailingZeros_0f7a4 64 = .ok (.if_icmp .le 10, 3) := by decide +kernel
theorem dJ6_numberOfTrailingZeros_0f7a4_67 : decode cJ6_numberOfTrailingZeros_0f7a4 67 = .ok (.iinc 1 2, 3) := by decide +kernel
theorem dJ6_numberOfTrailingZeros_0f7a4_70 : decode cJ6_numberOfTrailingZeros_0f7a4 70 = .ok (.iload_n 0, 1) := by decide +kernel
theorem dJ6_numberOfTrailingZeros_0f7a4_71 : decode cJ6_numberOfTrailingZeros_0f7a4 71 = .ok (.iconst 2, 1) := by decide +kernel
theorem dJ6_numberOfTrailingZeros_0f7a4_72 : decode cJ6_numberOfTrailingZeros_0f7a4 72 = .ok (.iushr, 1) := by decide +kernel
theorem dJ6_numberOfTrailingZeros_0f7a4_73 : decode cJ6_numberOfTrailingZeros_0f7a4 73 = .ok (.istore_n 0, 1) := by decide +kernel
theorem dJ6_numberOfTrailingZeros_0f7a4_74 : decode cJ6_numberOfTrailingZeros_0f7a4 74 = .ok (.iload_n 1, 1) := by decide +kernel
theorem dJ6_numberOfTrailingZeros_0f7a4_75 : decode cJ6_numberOfTrailingZeros_0f7a4 75 = .ok (.iload_n 0, 1) := by decide +kernel
theorem dJ6_numberOfTrailingZeros_0f7a4_76 : decode cJ6_numberOfTrailingZeros_0f7a4 76 = .ok (.iconst 1, 1) := by decide +kernel
theorem dJ6_numberOfTrailingZeros_0f7a4_77 : decode cJ6_numberOfTrailingZeros_0f7a4 77 = .ok (.iushr, 1) := by decide +kernel
theorem dJ6_numberOfTrailingZeros_0f7a4_78 : decode cJ6_numberOfTrailingZeros_0f7a4 78 = .ok (.iadd, 1) := by decide +kernel
theorem dJ6_numberOfTrailingZeros_0f7a4_79 : decode cJ6_numberOfTrailingZeros_0f7a4 79 = .ok (.ireturn, 1) := by decide +kernel
set_option maxRecDepth 20000 in
theorem ggJ13_numberOfTrailingZeros_95d88_J6_numberOfTrailingZeros_0f7a4 : GoodIn wsJ13_numberOfTrailingZeros_95d88 wsJ6_numberOfTrailingZeros_0f7a4 := goodIn_r _ [4, 5] (by decide +kernel) (by decide +kernel)
set_option maxRecDepth 20000 in
theorem gJ13_numberOfTrailingZeros_95d88_J6_numberOfTrailingZeros_0f7a4 : GoodIn wsJ13_numberOfTrailingZeros_95d88 (va_wsS RJ13 311 yJ6_numberOfTrailingZeros_0f7a4 wsJ6_numberOfTrailingZeros_0f7a4) := goodIn_app (goodIn_of _ (by decide +kernel)) ggJ13_numberOfTrailingZeros_95d88_J6_numberOfTrailingZeros_0f7a4
theorem dJ13_numberOfTrailingZeros_95d88_0 : decode cJ13_numberOfTrailingZeros_95d88 0 = .ok (.lload_n 0, 1) := by decide +kernel
theorem dJ13_numberOfTrailingZeros_95d88_1 : decode cJ13_numberOfTrailingZeros_95d88 1 = .ok (.l2i, 1) := by decide +kernel
theorem dJ13_numberOfTrailingZeros_95d88_2 : decode cJ13_numberOfTrailingZeros_95d88 2 = .ok (.istore_n 2, 1) := by decide +kernel
theorem dJ13_numberOfTrailingZeros_95d88_3 : decode cJ13_numberOfTrailingZeros_95d88 3 = .ok (.iload_n 2, 1) := by decide +kernel
theorem dJ13_numberOfTrailingZeros_95d88_4 : decode cJ13_numberOfTrailingZeros_95d88 4 = .ok (.ifCond .ne 17, 3) := by decide +kernel
theorem dJ13_numberOfTrailingZeros_95d88_7 : decode cJ13_numberOfTrailingZeros_95d88 7 = .ok (.bipush 32, 2) := by decide +kernel
theorem dJ13_numberOfTrailingZeros_95d88_9 : decode cJ13_numberOfTrailingZeros_95d88 9 = .ok (.lload_n 0, 1) := by decide +kernel
theorem dJ13_numberOfTrailingZeros_95d88_10 : decode cJ13_numberOfTrailingZeros_95d88 10 = .ok (.bipush 32, 2) := by decide +kernel
theorem dJ13_numberOfTrailingZeros_95d88_12 : decode cJ13_numberOfTrailingZeros_95d88 12 = .ok (.lushr, 1) := by decide +kernel
theorem dJ13_numberOfTrailingZeros_95d88_13 : decode cJ13_numberOfTrailingZeros_95d88 13 = .ok (.l2i, 1) := by decide +kernel
theorem dJ13_numberOfTrailingZeros_95d88_14 : decode cJ13_numberOfTrailingZeros_95d88 14 = .ok (.invokestatic 311, 3) := by decide +kernel
theorem dJ13_numberOfTrailingZeros_95d88_17 : decode cJ13_numberOfTrailingZeros_95d88 17 = .ok (.iadd, 1) := by decide +kernel
theorem dJ13_numberOfTrailingZeros_95d88_18 : decode cJ13_numberOfTrailingZeros_95d88 18 = .ok (.goto 7, 3) := by decide +kernel
theorem dJ13_numberOfTrailingZeros_95d88_21 : decode cJ13_numberOfTrailingZeros_95d88 21 = .ok (.iload_n 2, 1) := by decide +kernel
theorem dJ13_numberOfTrailingZeros_95d88_22 : decode cJ13_numberOfTrailingZeros_95d88 22 = .ok (.invokestatic 311, 3) := by decide +kernel
theorem dJ13_numberOfTrailingZeros_95d88_25 : decode cJ13_numberOfTrailingZeros_95d88 25 = .ok (.ireturn, 1) := by decide +kernel
theorem dJ9_floorDiv_7cf53_0 : decode cJ9_floorDiv_7cf53 0 = .ok (.iload_n 0, 1) := by decide +kernel
theorem dJ9_floorDiv_7cf53_1 : decode cJ9_floorDiv_7cf53 1 = .ok (.iload_n 1, 1) := by decide +kernel
theorem dJ9_floorDiv_7cf53_2 : decode cJ9_floorDiv_7cf53 2 = .ok (.idiv, 1) := by decide +kernel
theorem dJ9_floorDiv_7cf53_3 : decode cJ9_floorDiv_7cf53 3 = .ok (.istore_n 2, 1) := by decide +kernel
theorem dJ9_floorDiv_7cf53_4 : decode cJ9_floorDiv_7cf53 4 = .ok (.iload_n 0, 1) := by decide +kernel
theorem dJ9_floorDiv_7cf53_5 : decode cJ9_floorDiv_7cf53 5 = .ok (.iload_n 1, 1) := by decide +kernel
theorem dJ9_floorDiv_7cf53_6 : decode cJ9_floorDiv_7cf53 6 = .ok (.ixor, 1) := by decide +kernel
theorem dJ9_floorDiv_7cf53_7 : decode cJ9_floorDiv_7cf53 7 = .ok (.ifCond .ge 14, 3) := by decide +kernel
theorem dJ9_floorDiv_7cf53_10 : decode cJ9_floorDiv_7cf53 10 = .ok (.iload_n 2, 1) := by decide +kernel
theorem dJ9_floorDiv_7cf53_11 : decode cJ9_floorDiv_7cf53 11 = .ok (.iload_n 1, 1) := by decide +kernel
theorem dJ9_floorDiv_7cf53_12 : decode cJ9_floorDiv_7cf53 12 = .ok (.imul, 1) := by decide +kernel
theorem dJ9_floorDiv_7cf53_13 : decode cJ9_floorDiv_7cf53 13 = .ok (.iload_n 0, 1) := by decide +kernel
theorem dJ9_floorDiv_7cf53_14 : decode cJ9_floorDiv_7cf53 14 = .ok (.if_icmp .eq 7, 3) := by decide +kernel
theorem dJ9_floorDiv_7cf53_17 : decode cJ9_floorDiv_7cf53 17 = .ok (.iload_n 2, 1) := by decide +kernel
theorem dJ9_floorDiv_7cf53_18 : decode cJ9_floorDiv_7cf53 18 = .ok (.iconst 1, 1) := by decide +kernel
theorem dJ9_floorDiv_7cf53_19 : decode cJ9_floorDiv_7cf53 19 = .ok (.isub, 1) := by decide +kernel
theorem dJ9_floorDiv_7cf53_20 : decode cJ9_floorDiv_7cf53 20 = .ok (.ireturn, 1) := by decide +kernel
theorem dJ9_floorDiv_7cf53_21 : decode cJ9_floorDiv_7cf53 21 = .ok (.iload_n 2, 1) := by decide +kernel
theorem dJ9_floorDiv_7cf53_22 : decode cJ9_floorDiv_7cf53 22 = .ok (.ireturn, 1) := by decide +kernel
theorem dJ9_max_7cf53_0 : decode cJ9_max_7cf53 0 = .ok (.iload_n 0, 1) := by decide +kernel
theorem dJ9_max_7cf53_1 : decode cJ9_max_7cf53 1 = .ok (.iload_n 1, 1) := by decide +kernel
theorem dJ9_max_7cf53_2 : decode cJ9_max_7cf53 2 = .ok (.if_icmp .lt 7, 3) := by decide +kernel
theorem dJ9_max_7cf53_5 : decode cJ9_max_7cf53 5 = .ok (.iload_n 0, 1) := by decide +kernel
theorem dJ9_max_7cf53_6 : decode cJ9_max_7cf53 6 = .ok (.goto 4, 3) := by decide +kernel
theorem dJ9_max_7cf53_9 : decode cJ9_max_7cf53 9 = .ok (.iload_n 1, 1) := by decide +kernel
theorem dJ9_max_7cf53_10 : decode cJ9_max_7cf53 10 = .ok (.ireturn, 1) := by decide +kernel
theorem dJ9_min_7cf53_0 : decode cJ9_min_7cf53 0 = .ok (.iload_n 0, 1) := by decide +kernel
theorem dJ9_min_7cf53_1 : decode cJ9_min_7cf53 1 = .ok (.iload_n 1, 1) := by decide +kernel
theorem dJ9_min_7cf53_2 : decode cJ9_min_7cf53 2 = .ok (.if_icmp .gt 7, 3) := by decide +kernel
theorem dJ9_min_7cf53_5 : decode cJ9_min_7cf53 5 = .ok (.iload_n 0, 1) := by decide +kernel
theorem dJ9_min_7cf53_6 : decode cJ9_min_7cf53 6 = .ok (.goto 4, 3) := by decide +kernel
theorem dJ9_min_7cf53_9 : decode cJ9_min_7cf53 9 = .ok (.iload_n 1, 1) := by decide +kernel
theorem dJ9_min_7cf53_10 : decode cJ9_min_7cf53 10 = .ok (.ireturn, 1) := by decide +kernel
