theorem dX5_init_0 : decode cX5_init 0 = .ok (.aload_n 0, 1) := by decide +kernel
theorem dX5_init_1 : decode cX5_init 1 = .ok (.invokespecial 1, 3) := by decide +kernel
theorem dX5_init_4 : decode cX5_init 4 = .ok (.aload_n 0, 1) := by decide +kernel
theorem dX5_init_5 : decode cX5_init 5 = .ok (.bipush 40, 2) := by decide +kernel
theorem dX5_init_7 : decode cX5_init 7 = .ok (.newarray .long, 2) := by decide +kernel
theorem dX5_init_9 : decode cX5_init 9 = .ok (.putfield 7, 3) := by decide +kernel
theorem dX5_init_12 : decode cX5_init 12 = .ok (.aload_n 0, 1) := by decide +kernel
theorem dX5_init_13 : decode cX5_init 13 = .ok (.sipush 200, 3) := by decide +kernel
theorem dX5_init_16 : decode cX5_init 16 = .ok (.newarray .int, 2) := by decide +kernel
theorem dX5_init_18 : decode cX5_init 18 = .ok (.putfield 13, 3) := by decide +kernel
theorem dX5_init_21 : decode cX5_init 21 = .ok (.aload_n 0, 1) := by decide +kernel
theorem dX5_init_22 : decode cX5_init 22 = .ok (.sipush 200, 3) := by decide +kernel
theorem dX5_init_25 : decode cX5_init 25 = .ok (.newarray .int, 2) := by decide +kernel
theorem dX5_init_27 : decode cX5_init 27 = .ok (.putfield 17, 3) := by decide +kernel
theorem dX5_init_30 : decode cX5_init 30 = .ok (.aload_n 0, 1) := by decide +kernel
theorem dX5_init_31 : decode cX5_init 31 = .ok (.sipush 800, 3) := by decide +kernel
theorem dX5_init_34 : decode cX5_init 34 = .ok (.newarray .int, 2) := by decide +kernel
theorem dX5_init_36 : decode cX5_init 36 = .ok (.putfield 20, 3) := by decide +kernel
theorem dX5_init_39 : decode cX5_init 39 = .ok (.aload_n 0, 1) := by decide +kernel
theorem dX5_init_40 : decode cX5_init 40 = .ok (.bipush 100, 2) := by decide +kernel
theorem dX5_init_42 : decode cX5_init 42 = .ok (.newarray .int, 2) := by decide +kernel
theorem dX5_init_44 : decode cX5_init 44 = .ok (.putfield 23, 3) := by decide +kernel
theorem dX5_init_47 : decode cX5_init 47 = .ok (.aload_n 0, 1) := by decide +kernel
theorem dX5_init_48 : decode cX5_init 48 = .ok (.bipush 100, 2) := by decide +kernel
theorem dX5_init_50 : decode cX5_init 50 = .ok (.newarray .int, 2) := by decide +kernel
theorem dX5_init_52 : decode cX5_init 52 = .ok (.putfield 26, 3) := by decide +kernel
theorem dX5_init_55 : decode cX5_init 55 = .ok (.aload_n 0, 1) := by decide +kernel
theorem dX5_init_56 : decode cX5_init 56 = .ok (.bipush 100, 2) := by decide +kernel
theorem dX5_init_58 : decode cX5_init 58 = .ok (.newarray .long, 2) := by decide +kernel
theorem dX5_init_60 : decode cX5_init 60 = .ok (.putfield 29, 3) := by decide +kernel
theorem dX5_init_63 : decode cX5_init 63 = .ok (.aload_n 0, 1) := by decide +kernel
theorem dX5_init_64 : decode cX5_init 64 = .ok (.bipush 60, 2) := by decide +kernel
theorem dX5_init_66 : decode cX5_init 66 = .ok (.newarray .int, 2) := by decide +kernel
theorem dX5_init_68 : decode cX5_init 68 = .ok (.putfield 32, 3) := by decide +kernel
theorem dX5_init_71 : decode cX5_init 71 = .ok (.aload_n 0, 1) := by decide +kernel
theorem dX5_init_72 : decode cX5_init 72 = .ok (.bipush 60, 2) := by decide +kernel
theorem dX5_init_74 : decode cX5_init 74 = .ok (.newarray .int, 2) := by decide +kernel
theorem dX5_init_76 : decode cX5_init 76 = .ok (.putfield 35, 3) := by decide +kernel
theorem dX5_init_79 : decode cX5_init 79 = .ok (.aload_n 0, 1) := by decide +kernel
theorem dX5_init_80 : decode cX5_init 80 = .ok (.bipush 60, 2) := by decide +kernel
theorem dX5_init_82 : decode cX5_init 82 = .ok (.newarray .int, 2) := by decide +kernel
theorem dX5_init_84 : decode cX5_init 84 = .ok (.putfield 38, 3) := by decide +kernel
theorem dX5_init_87 : decode cX5_init 87 = .ok (.aload_n 0, 1) := by decide +kernel
theorem dX5_init_88 : decode cX5_init 88 = .ok (.bipush 60, 2) := by decide +kernel
theorem dX5_init_90 : decode cX5_init 90 = .ok (.newarray .int, 2) := by decide +kernel
theorem dX5_init_92 : decode cX5_init 92 = .ok (.putfield 41, 3) := by decide +kernel
theorem dX5_init_95 : decode cX5_init 95 = .ok (.aload_n 0, 1) := by decide +kernel
theorem dX5_init_96 : decode cX5_init 96 = .ok (.bipush 64, 2) := by decide +kernel
theorem dX5_init_98 : decode cX5_init 98 = .ok (.newarray .long, 2) := by decide +kernel
theorem dX5_init_100 : decode cX5_init 100 = .ok (.putfield 44, 3) := by decide +kernel
theorem dX5_init_103 : decode cX5_init 103 = .ok (.aload_n 0, 1) := by decide +kernel
theorem dX5_init_104 : decode cX5_init 104 = .ok (.bipush 64, 2) := by decide +kernel
theorem dX5_init_106 : decode cX5_init 106 = .ok (.newarray .long, 2) := by decide +kernel
theorem dX5_init_108 : decode cX5_init 108 = .ok (.putfield 47, 3) := by decide +kernel
theorem dX5_init_111 : decode cX5_init 111 = .ok (.aload_n 0, 1) := by decide +kernel
theorem dX5_init_112 : decode cX5_init 112 = .ok (.bipush 64, 2) := by decide +kernel
theorem dX5_init_114 : decode cX5_init 114 = .ok (.newarray .int, 2) := by decide +kernel
theorem dX5_init_116 : decode cX5_init 116 = .ok (.putfield 50, 3) := by decide +kernel
theorem dX5_init_119 : decode cX5_init 119 = .ok (.aload_n 0, 1) := by decide +kernel
theorem dX5_init_120 : decode cX5_init 120 = .ok (.bipush 64, 2) := by decide +kernel
theorem dX5_init_122 : decode cX5_init 122 = .ok (.newarray .int, 2) := by decide +kernel
theorem dX5_init_124 : decode cX5_init 124 = .ok (.putfield 53, 3) := by decide +kernel
theorem dX5_init_127 : decode cX5_init 127 = .ok (.aload_n 0, 1) := by decide +kernel
theorem dX5_init_128 : decode cX5_init 128 = .ok (.sipush 1500, 3) := by decide +kernel
theorem dX5_init_131 : decode cX5_init 131 = .ok (.newarray .int, 2) := by decide +kernel
theorem dX5_init_133 : decode cX5_init 133 = .ok (.putfield 56, 3) := by decide +kernel
theorem dX5_init_136 : decode cX5_init 136 = .ok (.aload_n 0, 1) := by decide +kernel
theorem dX5_init_137 : decode cX5_init 137 = .ok (.sipush 1500, 3) := by decide +kernel
theorem dX5_init_140 : decode cX5_init 140 = .ok (.newarray .int, 2) := by decide +kernel
theorem dX5_init_142 : decode cX5_init 142 = .ok (.putfield 59, 3) := by decide +kernel
theorem dX5_init_145 : decode cX5_init 145 = .ok (.aload_n 0, 1) := by decide +kernel
theorem dX5_init_146 : decode cX5_init 146 = .ok (.sipush 1500, 3) := by decide +kernel
theorem dX5_init_149 : decode cX5_init 149 = .ok (.newarray .int, 2) := by decide +kernel
theorem dX5_init_151 : decode cX5_init 151 = .ok (.putfield 62, 3) := by decide +kernel
theorem dX5_init_154 : decode cX5_init 154 = .ok (.aload_n 0, 1) := by decide +kernel
theorem dX5_init_155 : decode cX5_init 155 = .ok (.sipush 1500, 3) := by decide +kernel
theorem dX5_init_158 : decode cX5_init 158 = .ok (.newarray .int, 2) := by decide +kernel
theorem dX5_init_160 : decode cX5_init 160 = .ok (.putfield 65, 3) := by decide +kernel
theorem dX5_init_163 : decode cX5_init 163 = .ok (.aload_n 0, 1) := by decide +kernel
theorem dX5_init_164 : decode cX5_init 164 = .ok (.sipush 1500, 3) := by decide +kernel
theorem dX5_init_167 : decode cX5_init 167 = .ok (.newarray .int, 2) := by decide +kernel
theorem dX5_init_169 : decode cX5_init 169 = .ok (.putfield 68, 3) := by decide +kernel
theorem dX5_init_172 : decode cX5_init 172 = .ok (.aload_n 0, 1) := by decide +kernel
theorem dX5_init_173 : decode cX5_init 173 = .ok (.bipush 25, 2) := by decide +kernel
theorem dX5_init_175 : decode cX5_init 175 = .ok (.newarray .int, 2) := by decide +kernel
theorem dX5_init_177 : decode cX5_init 177 = .ok (.putfield 71, 3) := by decide +kernel
theorem dX5_init_180 : decode cX5_init 180 = .ok (.aload_n 0, 1) := by decide +kernel
theorem dX5_init_181 : decode cX5_init 181 = .ok (.sipush 16000, 3) := by decide +kernel
theorem dX5_init_184 : decode cX5_init 184 = .ok (.newarray .long, 2) := by decide +kernel
theorem dX5_init_186 : decode cX5_init 186 = .ok (.putfield 74, 3) := by decide +kernel
theorem dX5_init_189 : decode cX5_init 189 = .ok (.aload_n 0, 1) := by decide +kernel
theorem dX5_init_190 : decode cX5_init 190 = .ok (.sipush 16000, 3) := by decide +kernel
theorem dX5_init_193 : decode cX5_init 193 = .ok (.newarray .long, 2) := by decide +kernel
theorem dX5_init_195 : decode cX5_init 195 = .ok (.putfield 77, 3) := by decide +kernel
theorem dX5_init_198 : decode cX5_init 198 = .ok (.aload_n 0, 1) := by decide +kernel
theorem dX5_init_199 : decode cX5_init 199 = .ok (.iload_n 1, 1) := by decide +kernel
theorem dX5_init_200 : decode cX5_init 200 = .ok (.iconst 1, 1) := by decide +kernel
theorem dX5_init_201 : decode cX5_init 201 = .ok (.if_icmp .ge 7, 3) := by decide +kernel
theorem dX5_init_204 : decode cX5_init 204 = .ok (.iconst 1, 1) := by decide +kernel
theorem dX5_init_205 : decode cX5_init 205 = .ok (.goto 15, 3) := by decide +kernel
theorem dX5_init_208 : decode cX5_init 208 = .ok (.iload_n 1, 1) := by decide +kernel
theorem dX5_init_209 : decode cX5_init 209 = .ok (.bipush 64, 2) := by decide +kernel
theorem dX5_init_211 : decode cX5_init 211 = .ok (.if_icmp .le 8, 3) := by decide +kernel
theorem dX5_init_214 : decode cX5_init 214 = .ok (.bipush 64, 2) := by decide +kernel
theorem dX5_init_216 : decode cX5_init 216 = .ok (.goto 4, 3) := by decide +kernel
theorem dX5_init_219 : decode cX5_init 219 = .ok (.iload_n 1, 1) := by decide +kernel
theorem dX5_init_220 : decode cX5_init 220 = .ok (.putfield 80, 3) := by decide +kernel
theorem dX5_init_223 : decode cX5_init 223 = .ok (.iconst 0, 1) := by decide +kernel
theorem dX5_init_224 : decode cX5_init 224 = .ok (.istore_n 2, 1) := by decide +kernel
theorem dX5_init_225 : decode cX5_init 225 = .ok (.iload_n 2, 1) := by decide +kernel
theorem dX5_init_226 : decode cX5_init 226 = .ok (.bipush 64, 2) := by decide +kernel
theorem dX5_init_228 : decode cX5_init 228 = .ok (.if_icmp .ge 17, 3) := by decide +kernel
theorem dX5_init_231 : decode cX5_init 231 = .ok (.aload_n 0, 1) := by decide +kernel
theorem dX5_init_232 : decode cX5_init 232 = .ok (.getfield 53, 3) := by decide +kernel
theorem dX5_init_235 : decode cX5_init 235 = .ok (.iload_n 2, 1) := by decide +kernel
theorem dX5_init_236 : decode cX5_init 236 = .ok (.bipush 100, 2) := by decide +kernel
theorem dX5_init_238 : decode cX5_init 238 = .ok (.iastore, 1) := by decide +kernel
theorem dX5_init_239 : decode cX5_init 239 = .ok (.iinc 2 1, 3) := by decide +kernel
theorem dX5_init_242 : decode cX5_init 242 = .ok (.goto (-17), 3) := by decide +kernel
theorem dX5_init_245 : decode cX5_init 245 = .ok (.return_, 1) := by decide +kernel
theorem dX5_thrown_0 : decode cX5_thrown 0 = .ok (.aload_n 0, 1) := by decide +kernel
theorem dX5_thrown_1 : decode cX5_thrown 1 = .ok (.getfield 84, 3) := by decide +kernel
theorem dX5_thrown_4 : decode cX5_thrown 4 = .ok (.ireturn, 1) := by decide +kernel
theorem dX5_isNet_0 : decode cX5_isNet 0 = .ok (.iload_n 1, 1) := by decide +kernel
theorem dX5_isNet_1 : decode cX5_isNet 1 = .ok (.ifCond .lt 15, 3) := by decide +kernel
theorem dX5_isNet_4 : decode cX5_isNet 4 = .ok (.iload_n 1, 1) := by decide +kernel
theorem dX5_isNet_5 : decode cX5_isNet 5 = .ok (.aload_n 0, 1) := by decide +kernel
theorem dX5_isNet_6 : decode cX5_isNet 6 = .ok (.getfield 87, 3) := by decide +kernel
theorem dX5_isNet_9 : decode cX5_isNet 9 = .ok (.if_icmp .ge 7, 3) := by decide +kernel
theorem dX5_isNet_12 : decode cX5_isNet 12 = .ok (.iconst 1, 1) := by decide +kernel
theorem dX5_isNet_13 : decode cX5_isNet 13 = .ok (.goto 4, 3) := by decide +kernel
theorem dX5_isNet_16 : decode cX5_isNet 16 = .ok (.iconst 0, 1) := by decide +kernel
theorem dX5_isNet_17 : decode cX5_isNet 17 = .ok (.ireturn, 1) := by decide +kernel
theorem dX5_isLayer_0 : decode cX5_isLayer 0 = .ok (.iload_n 1, 1) := by decide +kernel
theorem dX5_isLayer_1 : decode cX5_isLayer 1 = .ok (.ifCond .lt 15, 3) := by decide +kernel
theorem dX5_isLayer_4 : decode cX5_isLayer 4 = .ok (.iload_n 1, 1) := by decide +kernel
theorem dX5_isLayer_5 : decode cX5_isLayer 5 = .ok (.aload_n 0, 1) := by decide +kernel
theorem dX5_isLayer_6 : decode cX5_isLayer 6 = .ok (.getfield 80, 3) := by decide +kernel
theorem dX5_isLayer_9 : decode cX5_isLayer 9 = .ok (.if_icmp .ge 7, 3) := by decide +kernel
theorem dX5_isLayer_12 : decode cX5_isLayer 12 = .ok (.iconst 1, 1) := by decide +kernel
theorem dX5_isLayer_13 : decode cX5_isLayer 13 = .ok (.goto 4, 3) := by decide +kernel
theorem dX5_isLayer_16 : decode cX5_isLayer 16 = .ok (.iconst 0, 1) := by decide +kernel
theorem dX5_isLayer_17 : decode cX5_isLayer 17 = .ok (.ireturn, 1) := by decide +kernel
theorem dX5_clear_0 : decode cX5_clear 0 = .ok (.iconst 0, 1) := by decide +kernel
theorem dX5_clear_1 : decode cX5_clear 1 = .ok (.istore_n 1, 1) := by decide +kernel
theorem dX5_clear_2 : decode cX5_clear 2 = .ok (.iload_n 1, 1) := by decide +kernel
theorem dX5_clear_3 : decode cX5_clear 3 = .ok (.sipush 16000, 3) := by decide +kernel
theorem dX5_clear_6 : decode cX5_clear 6 = .ok (.if_icmp .ge 13, 3) := by decide +kernel
theorem dX5_clear_9 : decode cX5_clear 9 = .ok (.aload_n 0, 1) := by decide +kernel
theorem dX5_clear_10 : decode cX5_clear 10 = .ok (.iload_n 1, 1) := by decide +kernel
theorem dX5_clear_11 : decode cX5_clear 11 = .ok (.lconst 0, 1) := by decide +kernel
theorem dX5_clear_12 : decode cX5_clear 12 = .ok (.lastore, 1) := by decide +kernel
theorem dX5_clear_13 : decode cX5_clear 13 = .ok (.iinc 1 1, 3) := by decide +kernel
theorem dX5_clear_16 : decode cX5_clear 16 = .ok (.goto (-14), 3) := by decide +kernel
theorem dX5_clear_19 : decode cX5_clear 19 = .ok (.return_, 1) := by decide +kernel
theorem dX5_within_0 : decode cX5_within 0 = .ok (.iload_n 0, 1) := by decide +kernel
theorem dX5_within_1 : decode cX5_within 1 = .ok (.ifCond .ge 7, 3) := by decide +kernel
theorem dX5_within_4 : decode cX5_within 4 = .ok (.iconst 0, 1) := by decide +kernel
theorem dX5_within_5 : decode cX5_within 5 = .ok (.goto 17, 3) := by decide +kernel
theorem dX5_within_8 : decode cX5_within 8 = .ok (.iload_n 0, 1) := by decide +kernel
theorem dX5_within_9 : decode cX5_within 9 = .ok (.sipush 1000, 3) := by decide +kernel
theorem dX5_within_12 : decode cX5_within 12 = .ok (.if_icmp .le 9, 3) := by decide +kernel
theorem dX5_within_15 : decode cX5_within 15 = .ok (.sipush 1000, 3) := by decide +kernel
theorem dX5_within_18 : decode cX5_within 18 = .ok (.goto 4, 3) := by decide +kernel
theorem dX5_within_21 : decode cX5_within 21 = .ok (.iload_n 0, 1) := by decide +kernel
theorem dX5_within_22 : decode cX5_within 22 = .ok (.ireturn, 1) := by decide +kernel
set_option maxRecDepth 20000 in
theorem ggX5_mark_X5_within : GoodIn wsX5_mark wsX5_within := goodIn_r _ [5] (by decide +kernel) (by decide +kernel)
set_option maxRecDepth 20000 in
theorem gX5_mark_X5_within : GoodIn wsX5_mark (va_wsS RX5 90 yX5_within wsX5_within) := goodIn_app (goodIn_of _ (by decide +kernel)) ggX5_mark_X5_within
theorem dX5_mark_0 : decode cX5_mark 0 = .ok (.iload_n 1, 1) := by decide +kernel
theorem dX5_mark_1 : decode cX5_mark 1 = .ok (.invokestatic 90, 3) := by decide +kernel
theorem dX5_mark_4 : decode cX5_mark 4 = .ok (.istore 5, 2) := by decide +kernel
theorem dX5_mark_6 : decode cX5_mark 6 = .ok (.iload_n 3, 1) := by decide +kernel
theorem dX5_mark_7 : decode cX5_mark 7 = .ok (.invokestatic 90, 3) := by decide +kernel
theorem dX5_mark_10 : decode cX5_mark 10 = .ok (.istore 6, 2) := by decide +kernel
theorem dX5_mark_12 : decode cX5_mark 12 = .ok (.iload_n 2, 1) := by decide +kernel
theorem dX5_mark_13 : decode cX5_mark 13 = .ok (.invokestatic 90, 3) := by decide +kernel
theorem dX5_mark_16 : decode cX5_mark 16 = .ok (.istore 7, 2) := by decide +kernel
theorem dX5_mark_18 : decode cX5_mark 18 = .ok (.iload 7, 2) := by decide +kernel
theorem dX5_mark_20 : decode cX5_mark 20 = .ok (.iload 4, 2) := by decide +kernel
theorem dX5_mark_22 : decode cX5_mark 22 = .ok (.invokestatic 90, 3) := by decide +kernel
theorem dX5_mark_25 : decode cX5_mark 25 = .ok (.if_icmp .ge 113, 3) := by decide +kernel
theorem dX5_mark_28 : decode cX5_mark 28 = .ok (.iload 5, 2) := by decide +kernel
theorem dX5_mark_30 : decode cX5_mark 30 = .ok (.bipush 64, 2) := by decide +kernel
theorem dX5_mark_32 : decode cX5_mark 32 = .ok (.idiv, 1) := by decide +kernel
theorem dX5_mark_33 : decode cX5_mark 33 = .ok (.istore 8, 2) := by decide +kernel
theorem dX5_mark_35 : decode cX5_mark 35 = .ok (.bipush 64, 2) := by decide +kernel
theorem dX5_mark_37 : decode cX5_mark 37 = .ok (.iload 8, 2) := by decide +kernel
theorem dX5_mark_39 : decode cX5_mark 39 = .ok (.imul, 1) := by decide +kernel
theorem dX5_mark_40 : decode cX5_mark 40 = .ok (.iload 6, 2) := by decide +kernel
theorem dX5_mark_42 : decode cX5_mark 42 = .ok (.if_icmp .ge 90, 3) := by decide +kernel
theorem dX5_mark_45 : decode cX5_mark 45 = .ok (.iload 5, 2) := by decide +kernel
theorem dX5_mark_47 : decode cX5_mark 47 = .ok (.bipush 64, 2) := by decide +kernel
theorem dX5_mark_49 : decode cX5_mark 49 = .ok (.iload 8, 2) := by decide +kernel
theorem dX5_mark_51 : decode cX5_mark 51 = .ok (.imul, 1) := by decide +kernel
theorem dX5_mark_52 : decode cX5_mark 52 = .ok (.if_icmp .le 18, 3) := by decide +kernel
theorem dX5_mark_55 : decode cX5_mark 55 = .ok (.ldc2_w 94, 3) := by decide +kernel
theorem dX5_mark_58 : decode cX5_mark 58 = .ok (.iload 5, 2) := by decide +kernel
theorem dX5_mark_60 : decode cX5_mark 60 = .ok (.bipush 64, 2) := by decide +kernel
theorem dX5_mark_62 : decode cX5_mark 62 = .ok (.iload 8, 2) := by decide +kernel
theorem dX5_mark_64 : decode cX5_mark 64 = .ok (.imul, 1) := by decide +kernel
theorem dX5_mark_65 : decode cX5_mark 65 = .ok (.isub, 1) := by decide +kernel
theorem dX5_mark_66 : decode cX5_mark 66 = .ok (.lshl, 1) := by decide +kernel
theorem dX5_mark_67 : decode cX5_mark 67 = .ok (.goto 6, 3) := by decide +kernel
theorem dX5_mark_70 : decode cX5_mark 70 = .ok (.ldc2_w 94, 3) := by decide +kernel
theorem dX5_mark_73 : decode cX5_mark 73 = .ok (.lstore 9, 2) := by decide +kernel
theorem dX5_mark_75 : decode cX5_mark 75 = .ok (.iload 6, 2) := by decide +kernel
theorem dX5_mark_77 : decode cX5_mark 77 = .ok (.bipush 64, 2) := by decide +kernel
theorem dX5_mark_79 : decode cX5_mark 79 = .ok (.iload 8, 2) := by decide +kernel
theorem dX5_mark_81 : decode cX5_mark 81 = .ok (.imul, 1) := by decide +kernel
theorem dX5_mark_82 : decode cX5_mark 82 = .ok (.bipush 64, 2) := by decide +kernel
theorem dX5_mark_84 : decode cX5_mark 84 = .ok (.iadd, 1) := by decide +kernel
theorem dX5_mark_85 : decode cX5_mark 85 = .ok (.if_icmp .ge 18, 3) := by decide +kernel
theorem dX5_mark_88 : decode cX5_mark 88 = .ok (.lconst 1, 1) := by decide +kernel
theorem dX5_mark_89 : decode cX5_mark 89 = .ok (.iload 6, 2) := by decide +kernel
theorem dX5_mark_91 : decode cX5_mark 91 = .ok (.bipush 64, 2) := by decide +kernel
theorem dX5_mark_93 : decode cX5_mark 93 = .ok (.iload 8, 2) := by decide +kernel
theorem dX5_mark_95 : decode cX5_mark 95 = .ok (.imul, 1) := by decide +kernel
theorem dX5_mark_96 : decode cX5_mark 96 = .ok (.isub, 1) := by decide +kernel
theorem dX5_mark_97 : decode cX5_mark 97 = .ok (.lshl, 1) := by decide +kernel
theorem dX5_mark_98 : decode cX5_mark 98 = .ok (.lconst 1, 1) := by decide +kernel
theorem dX5_mark_99 : decode cX5_mark 99 = .ok (.lsub, 1) := by decide +kernel
theorem dX5_mark_100 : decode cX5_mark 100 = .ok (.goto 6, 3) := by decide +kernel
theorem dX5_mark_103 : decode cX5_mark 103 = .ok (.ldc2_w 94, 3) := by decide +kernel
theorem dX5_mark_106 : decode cX5_mark 106 = .ok (.lstore 11, 2) := by decide +kernel
theorem dX5_mark_108 : decode cX5_mark 108 = .ok (.aload_n 0, 1) := by decide +kernel
theorem dX5_mark_109 : decode cX5_mark 109 = .ok (.bipush 16, 2) := by decide +kernel
theorem dX5_mark_111 : decode cX5_mark 111 = .ok (.iload 7, 2) := by decide +kernel
theorem dX5_mark_113 : decode cX5_mark 113 = .ok (.imul, 1) := by decide +kernel
theorem dX5_mark_114 : decode cX5_mark 114 = .ok (.iload 8, 2) := by decide +kernel
theorem dX5_mark_116 : decode cX5_mark 116 = .ok (.iadd, 1) := by decide +kernel
theorem dX5_mark_117 : decode cX5_mark 117 = .ok (.dup2, 1) := by decide +kernel
theorem dX5_mark_118 : decode cX5_mark 118 = .ok (.laload, 1) := by decide +kernel
theorem dX5_mark_119 : decode cX5_mark 119 = .ok (.lload 9, 2) := by decide +kernel
theorem dX5_mark_121 : decode cX5_mark 121 = .ok (.lload 11, 2) := by decide +kernel
theorem dX5_mark_123 : decode cX5_mark 123 = .ok (.land, 1) := by decide +kernel
theorem dX5_mark_124 : decode cX5_mark 124 = .ok (.lor, 1) := by decide +kernel
theorem dX5_mark_125 : decode cX5_mark 125 = .ok (.lastore, 1) := by decide +kernel
theorem dX5_mark_126 : decode cX5_mark 126 = .ok (.iinc 8 1, 3) := by decide +kernel
theorem dX5_mark_129 : decode cX5_mark 129 = .ok (.goto (-94), 3) := by decide +kernel
theorem dX5_mark_132 : decode cX5_mark 132 = .ok (.iinc 7 1, 3) := by decide +kernel
theorem dX5_mark_135 : decode cX5_mark 135 = .ok (.goto (-117), 3) := by decide +kernel
theorem dX5_mark_138 : decode cX5_mark 138 = .ok (.return_, 1) := by decide +kernel
theorem dX5_ones_0 : decode cX5_ones 0 = .ok (.iconst 0, 1) := by decide +kernel
theorem dX5_ones_1 : decode cX5_ones 1 = .ok (.istore_n 2, 1) := by decide +kernel
theorem dX5_ones_2 : decode cX5_ones 2 = .ok (.lload_n 0, 1) := by decide +kernel
theorem dX5_ones_3 : decode cX5_ones 3 = .ok (.lstore_n 3, 1) := by decide +kernel
theorem dX5_ones_4 : decode cX5_ones 4 = .ok (.lload_n 3, 1) := by decide +kernel
theorem dX5_ones_5 : decode cX5_ones 5 = .ok (.lconst 0, 1) := by decide +kernel
theorem dX5_ones_6 : decode cX5_ones 6 = .ok (.lcmp, 1) := by decide +kernel
theorem dX5_ones_7 : decode cX5_ones 7 = .ok (.ifCond .eq 15, 3) := by decide +kernel
theorem dX5_ones_10 : decode cX5_ones 10 = .ok (.iinc 2 1, 3) := by decide +kernel
theorem dX5_ones_13 : decode cX5_ones 13 = .ok (.lload_n 3, 1) := by decide +kernel
theorem dX5_ones_14 : decode cX5_ones 14 = .ok (.lload_n 3, 1) := by decide +kernel
theorem dX5_ones_15 : decode cX5_ones 15 = .ok (.lconst 1, 1) := by decide +kernel
theorem dX5_ones_16 : decode cX5_ones 16 = .ok (.lsub, 1) := by decide +kernel
theorem dX5_ones_17 : decode cX5_ones 17 = .ok (.land, 1) := by decide +kernel
theorem dX5_ones_18 : decode cX5_ones 18 = .ok (.lstore_n 3, 1) := by decide +kernel
theorem dX5_ones_19 : decode cX5_ones 19 = .ok (.goto (-15), 3) := by decide +kernel
theorem dX5_ones_22 : decode cX5_ones 22 = .ok (.iload_n 2, 1) := by decide +kernel
theorem dX5_ones_23 : decode cX5_ones 23 = .ok (.ireturn, 1) := by decide +kernel
set_option maxRecDepth 20000 in
theorem ggX5_marked_X5_ones : GoodIn wsX5_marked wsX5_ones := goodIn_r _ [6] (by decide +kernel) (by decide +kernel)
set_option maxRecDepth 20000 in
theorem gX5_marked_X5_ones : GoodIn wsX5_marked (va_wsS RX5 96 yX5_ones wsX5_ones) := goodIn_app (goodIn_of _ (by decide +kernel)) ggX5_marked_X5_ones
theorem dX5_marked_0 : decode cX5_marked 0 = .ok (.iconst 0, 1) := by decide +kernel
theorem dX5_marked_1 : decode cX5_marked 1 = .ok (.istore 5, 2) := by decide +kernel
theorem dX5_marked_3 : decode cX5_marked 3 = .ok (.iload_n 2, 1) := by decide +kernel
theorem dX5_marked_4 : decode cX5_marked 4 = .ok (.istore 6, 2) := by decide +kernel
theorem dX5_marked_6 : decode cX5_marked 6 = .ok (.iload 6, 2) := by decide +kernel
theorem dX5_marked_8 : decode cX5_marked 8 = .ok (.iload 4, 2) := by decide +kernel
theorem dX5_marked_10 : decode cX5_marked 10 = .ok (.if_icmp .ge 116, 3) := by decide +kernel
theorem dX5_marked_13 : decode cX5_marked 13 = .ok (.iload_n 1, 1) := by decide +kernel
theorem dX5_marked_14 : decode cX5_marked 14 = .ok (.bipush 64, 2) := by decide +kernel
theorem dX5_marked_16 : decode cX5_marked 16 = .ok (.idiv, 1) := by decide +kernel
theorem dX5_marked_17 : decode cX5_marked 17 = .ok (.istore 7, 2) := by decide +kernel
theorem dX5_marked_19 : decode cX5_marked 19 = .ok (.bipush 64, 2) := by decide +kernel
theorem dX5_marked_21 : decode cX5_marked 21 = .ok (.iload 7, 2) := by decide +kernel
theorem dX5_marked_23 : decode cX5_marked 23 = .ok (.imul, 1) := by decide +kernel
theorem dX5_marked_24 : decode cX5_marked 24 = .ok (.iload_n 3, 1) := by decide +kernel
theorem dX5_marked_25 : decode cX5_marked 25 = .ok (.if_icmp .ge 95, 3) := by decide +kernel
theorem dX5_marked_28 : decode cX5_marked 28 = .ok (.iload_n 1, 1) := by decide +kernel
theorem dX5_marked_29 : decode cX5_marked 29 = .ok (.bipush 64, 2) := by decide +kernel
theorem dX5_marked_31 : decode cX5_marked 31 = .ok (.iload 7, 2) := by decide +kernel
theorem dX5_marked_33 : decode cX5_marked 33 = .ok (.imul, 1) := by decide +kernel
theorem dX5_marked_34 : decode cX5_marked 34 = .ok (.if_icmp .le 17, 3) := by decide +kernel
theorem dX5_marked_37 : decode cX5_marked 37 = .ok (.ldc2_w 94, 3) := by decide +kernel
theorem dX5_marked_40 : decode cX5_marked 40 = .ok (.iload_n 1, 1) := by decide +kernel
theorem dX5_marked_41 : decode cX5_marked 41 = .ok (.bipush 64, 2) := by decide +kernel
theorem dX5_marked_43 : decode cX5_marked 43 = .ok (.iload 7, 2) := by decide +kernel
theorem dX5_marked_45 : decode cX5_marked 45 = .ok (.imul, 1) := by decide +kernel
theorem dX5_marked_46 : decode cX5_marked 46 = .ok (.isub, 1) := by decide +kernel
theorem dX5_marked_47 : decode cX5_marked 47 = .ok (.lshl, 1) := by decide +kernel
theorem dX5_marked_48 : decode cX5_marked 48 = .ok (.goto 6, 3) := by decide +kernel
theorem dX5_marked_51 : decode cX5_marked 51 = .ok (.ldc2_w 94, 3) := by decide +kernel
theorem dX5_marked_54 : decode cX5_marked 54 = .ok (.lstore 8, 2) := by decide +kernel
theorem dX5_marked_56 : decode cX5_marked 56 = .ok (.iload_n 3, 1) := by decide +kernel
theorem dX5_marked_57 : decode cX5_marked 57 = .ok (.bipush 64, 2) := by decide +kernel
theorem dX5_marked_59 : decode cX5_marked 59 = .ok (.iload 7, 2) := by decide +kernel
theorem dX5_marked_61 : decode cX5_marked 61 = .ok (.imul, 1) := by decide +kernel
theorem dX5_marked_62 : decode cX5_marked 62 = .ok (.bipush 64, 2) := by decide +kernel
theorem dX5_marked_64 : decode cX5_marked 64 = .ok (.iadd, 1) := by decide +kernel
theorem dX5_marked_65 : decode cX5_marked 65 = .ok (.if_icmp .ge 17, 3) := by decide +kernel
theorem dX5_marked_68 : decode cX5_marked 68 = .ok (.lconst 1, 1) := by decide +kernel
theorem dX5_marked_69 : decode cX5_marked 69 = .ok (.iload_n 3, 1) := by decide +kernel
theorem dX5_marked_70 : decode cX5_marked 70 = .ok (.bipush 64, 2) := by decide +kernel
theorem dX5_marked_72 : decode cX5_marked 72 = .ok (.iload 7, 2) := by decide +kernel
theorem dX5_marked_74 : decode cX5_marked 74 = .ok (.imul, 1) := by decide +kernel
theorem dX5_marked_75 : decode cX5_marked 75 = .ok (.isub, 1) := by decide +kernel
theorem dX5_marked_76 : decode cX5_marked 76 = .ok (.lshl, 1) := by decide +kernel
theorem dX5_marked_77 : decode cX5_marked 77 = .ok (.lconst 1, 1) := by decide +kernel
theorem dX5_marked_78 : decode cX5_marked 78 = .ok (.lsub, 1) := by decide +kernel
theorem dX5_marked_79 : decode cX5_marked 79 = .ok (.goto 6, 3) := by decide +kernel
theorem dX5_marked_82 : decode cX5_marked 82 = .ok (.ldc2_w 94, 3) := by decide +kernel
theorem dX5_marked_85 : decode cX5_marked 85 = .ok (.lstore 10, 2) := by decide +kernel
theorem dX5_marked_87 : decode cX5_marked 87 = .ok (.iload 5, 2) := by decide +kernel
theorem dX5_marked_89 : decode cX5_marked 89 = .ok (.aload_n 0, 1) := by decide +kernel
theorem dX5_marked_90 : decode cX5_marked 90 = .ok (.getfield 74, 3) := by decide +kernel
theorem dX5_marked_93 : decode cX5_marked 93 = .ok (.bipush 16, 2) := by decide +kernel
theorem dX5_marked_95 : decode cX5_marked 95 = .ok (.iload 6, 2) := by decide +kernel
theorem dX5_marked_97 : decode cX5_marked 97 = .ok (.imul, 1) := by decide +kernel
theorem dX5_marked_98 : decode cX5_marked 98 = .ok (.iload 7, 2) := by decide +kernel
theorem dX5_marked_100 : decode cX5_marked 100 = .ok (.iadd, 1) := by decide +kernel
theorem dX5_marked_101 : decode cX5_marked 101 = .ok (.laload, 1) := by decide +kernel
theorem dX5_marked_102 : decode cX5_marked 102 = .ok (.lload 8, 2) := by decide +kernel
theorem dX5_marked_104 : decode cX5_marked 104 = .ok (.land, 1) := by decide +kernel
theorem dX5_marked_105 : decode cX5_marked 105 = .ok (.lload 10, 2) := by decide +kernel
theorem dX5_marked_107 : decode cX5_marked 107 = .ok (.land, 1) := by decide +kernel
theorem dX5_marked_108 : decode cX5_marked 108 = .ok (.invokestatic 96, 3) := by decide +kernel
theorem dX5_marked_111 : decode cX5_marked 111 = .ok (.iadd, 1) := by decide +kernel
theorem dX5_marked_112 : decode cX5_marked 112 = .ok (.istore 5, 2) := by decide +kernel
theorem dX5_marked_114 : decode cX5_marked 114 = .ok (.iinc 7 1, 3) := by decide +kernel
theorem dX5_marked_117 : decode cX5_marked 117 = .ok (.goto (-98), 3) := by decide +kernel
theorem dX5_marked_120 : decode cX5_marked 120 = .ok (.iinc 6 1, 3) := by decide +kernel
theorem dX5_marked_123 : decode cX5_marked 123 = .ok (.goto (-117), 3) := by decide +kernel
theorem dX5_marked_126 : decode cX5_marked 126 = .ok (.iload 5, 2) := by decide +kernel
theorem dX5_marked_128 : decode cX5_marked 128 = .ok (.ireturn, 1) := by decide +kernel
theorem dX5_net_0 : decode cX5_net 0 = .ok (.aload_n 0, 1) := by decide +kernel
theorem dX5_net_1 : decode cX5_net 1 = .ok (.aload_n 0, 1) := by decide +kernel
theorem dX5_net_2 : decode cX5_net 2 = .ok (.getfield 87, 3) := by decide +kernel
theorem dX5_net_5 : decode cX5_net 5 = .ok (.bipush 40, 2) := by decide +kernel
theorem dX5_net_7 : decode cX5_net 7 = .ok (.if_icmp .ne 7, 3) := by decide +kernel
theorem dX5_net_10 : decode cX5_net 10 = .ok (.iconst 1, 1) := by decide +kernel
theorem dX5_net_11 : decode cX5_net 11 = .ok (.goto 4, 3) := by decide +kernel
theorem dX5_net_14 : decode cX5_net 14 = .ok (.iconst 0, 1) := by decide +kernel
theorem dX5_net_15 : decode cX5_net 15 = .ok (.putfield 84, 3) := by decide +kernel
theorem dX5_net_18 : decode cX5_net 18 = .ok (.aload_n 0, 1) := by decide +kernel
theorem dX5_net_19 : decode cX5_net 19 = .ok (.getfield 84, 3) := by decide +kernel
theorem dX5_net_22 : decode cX5_net 22 = .ok (.ifCond .le 5, 3) := by decide +kernel
theorem dX5_net_25 : decode cX5_net 25 = .ok (.iconst 0, 1) := by decide +kernel
theorem dX5_net_26 : decode cX5_net 26 = .ok (.ireturn, 1) := by decide +kernel
theorem dX5_net_27 : decode cX5_net 27 = .ok (.aload_n 0, 1) := by decide +kernel
theorem dX5_net_28 : decode cX5_net 28 = .ok (.dup, 1) := by decide +kernel
theorem dX5_net_29 : decode cX5_net 29 = .ok (.getfield 87, 3) := by decide +kernel
theorem dX5_net_32 : decode cX5_net 32 = .ok (.iconst 1, 1) := by decide +kernel
theorem dX5_net_33 : decode cX5_net 33 = .ok (.iadd, 1) := by decide +kernel
theorem dX5_net_34 : decode cX5_net 34 = .ok (.putfield 87, 3) := by decide +kernel
theorem dX5_net_37 : decode cX5_net 37 = .ok (.aload_n 0, 1) := by decide +kernel
theorem dX5_net_38 : decode cX5_net 38 = .ok (.getfield 87, 3) := by decide +kernel
theorem dX5_net_41 : decode cX5_net 41 = .ok (.iconst 1, 1) := by decide +kernel
theorem dX5_net_42 : decode cX5_net 42 = .ok (.isub, 1) := by decide +kernel
theorem dX5_net_43 : decode cX5_net 43 = .ok (.ireturn, 1) := by decide +kernel
theorem dX5_isSide_0 : decode cX5_isSide 0 = .ok (.lload_n 0, 1) := by decide +kernel
theorem dX5_isSide_1 : decode cX5_isSide 1 = .ok (.lconst 0, 1) := by decide +kernel
theorem dX5_isSide_2 : decode cX5_isSide 2 = .ok (.lcmp, 1) := by decide +kernel
theorem dX5_isSide_3 : decode cX5_isSide 3 = .ok (.ifCond .lt 21, 3) := by decide +kernel
theorem dX5_isSide_6 : decode cX5_isSide 6 = .ok (.lload_n 0, 1) := by decide +kernel
theorem dX5_isSide_7 : decode cX5_isSide 7 = .ok (.lload_n 2, 1) := by decide +kernel
theorem dX5_isSide_8 : decode cX5_isSide 8 = .ok (.lcmp, 1) := by decide +kernel
theorem dX5_isSide_9 : decode cX5_isSide 9 = .ok (.ifCond .ge 15, 3) := by decide +kernel
theorem dX5_isSide_12 : decode cX5_isSide 12 = .ok (.lload_n 2, 1) := by decide +kernel
theorem dX5_isSide_13 : decode cX5_isSide 13 = .ok (.ldc2_w 100, 3) := by decide +kernel
theorem dX5_isSide_16 : decode cX5_isSide 16 = .ok (.lcmp, 1) := by decide +kernel
theorem dX5_isSide_17 : decode cX5_isSide 17 = .ok (.ifCond .gt 7, 3) := by decide +kernel
theorem dX5_isSide_20 : decode cX5_isSide 20 = .ok (.iconst 1, 1) := by decide +kernel
theorem dX5_isSide_21 : decode cX5_isSide 21 = .ok (.goto 4, 3) := by decide +kernel
theorem dX5_isSide_24 : decode cX5_isSide 24 = .ok (.iconst 0, 1) := by decide +kernel
theorem dX5_isSide_25 : decode cX5_isSide 25 = .ok (.ireturn, 1) := by decide +kernel
set_option maxRecDepth 20000 in
theorem ggX5_coveredBy_X5_clear : GoodIn wsX5_coveredBy wsX5_clear := goodIn_r _ [9] (by decide +kernel) (by decide +kernel)
set_option maxRecDepth 20000 in
theorem gX5_coveredBy_X5_clear : GoodIn wsX5_coveredBy (va_wsS RX5 105 yX5_clear wsX5_clear) := goodIn_app (goodIn_of _ (by decide +kernel)) ggX5_coveredBy_X5_clear
set_option maxRecDepth 20000 in
theorem ggX5_coveredBy_X5_mark : GoodIn wsX5_coveredBy wsX5_mark := goodIn_r _ [12, 13, 14, 15, 8, 16] (by decide +kernel) (by decide +kernel)
set_option maxRecDepth 20000 in
theorem gX5_coveredBy_X5_mark : GoodIn wsX5_coveredBy (va_wsS RX5 109 yX5_mark wsX5_mark) := goodIn_app (goodIn_of _ (by decide +kernel)) ggX5_coveredBy_X5_mark
set_option maxRecDepth 20000 in
theorem ggX5_coveredBy_X5_marked : GoodIn wsX5_coveredBy wsX5_marked := goodIn_r _ [20, 13, 4, 21, 22, 8, 23, 24, 25, 26, 27, 28, 29, 30, 31, 32, 33, 34, 35, 36, 37, 38, 39, 40, 41, 42, 43, 44, 45, 46, 47, 48, 49, 50, 51, 52, 53, 54] (by decide +kernel) (by decide +kernel)
set_option maxRecDepth 20000 in
theorem gX5_coveredBy_X5_marked : GoodIn wsX5_coveredBy (wsV RX5 113 RX5 yX5_marked wsX5_marked) := goodIn_app (goodIn_of _ (by decide +kernel)) ggX5_coveredBy_X5_marked
theorem dX5_coveredBy_0 : decode cX5_coveredBy 0 = .ok (.iconst 0, 1) := by decide +kernel
theorem dX5_coveredBy_1 : decode cX5_coveredBy 1 = .ok (.istore_n 3, 1) := by decide +kernel
theorem dX5_coveredBy_2 : decode cX5_coveredBy 2 = .ok (.iconst 0, 1) := by decide +kernel
theorem dX5_coveredBy_3 : decode cX5_coveredBy 3 = .ok (.istore 4, 2) := by decide +kernel
theorem dX5_coveredBy_5 : decode cX5_coveredBy 5 = .ok (.iload 4, 2) := by decide +kernel
theorem dX5_coveredBy_7 : decode cX5_coveredBy 7 = .ok (.aload_n 0, 1) := by decide +kernel
theorem dX5_coveredBy_8 : decode cX5_coveredBy 8 = .ok (.getfield 102, 3) := by decide +kernel
theorem dX5_coveredBy_11 : decode cX5_coveredBy 11 = .ok (.if_icmp .ge 93, 3) := by decide +kernel
theorem dX5_coveredBy_14 : decode cX5_coveredBy 14 = .ok (.aload_n 0, 1) := by decide +kernel
theorem dX5_coveredBy_15 : decode cX5_coveredBy 15 = .ok (.getfield 13, 3) := by decide +kernel
theorem dX5_coveredBy_18 : decode cX5_coveredBy 18 = .ok (.iload 4, 2) := by decide +kernel
theorem dX5_coveredBy_20 : decode cX5_coveredBy 20 = .ok (.iaload, 1) := by decide +kernel
theorem dX5_coveredBy_21 : decode cX5_coveredBy 21 = .ok (.iload_n 1, 1) := by decide +kernel
theorem dX5_coveredBy_22 : decode cX5_coveredBy 22 = .ok (.if_icmp .ne 76, 3) := by decide +kernel
theorem dX5_coveredBy_25 : decode cX5_coveredBy 25 = .ok (.aload_n 0, 1) := by decide +kernel
theorem dX5_coveredBy_26 : decode cX5_coveredBy 26 = .ok (.getfield 17, 3) := by decide +kernel
theorem dX5_coveredBy_29 : decode cX5_coveredBy 29 = .ok (.iload 4, 2) := by decide +kernel
theorem dX5_coveredBy_31 : decode cX5_coveredBy 31 = .ok (.iaload, 1) := by decide +kernel
theorem dX5_coveredBy_32 : decode cX5_coveredBy 32 = .ok (.iload_n 2, 1) := by decide +kernel
theorem dX5_coveredBy_33 : decode cX5_coveredBy 33 = .ok (.if_icmp .ne 65, 3) := by decide +kernel
theorem dX5_coveredBy_36 : decode cX5_coveredBy 36 = .ok (.iload_n 3, 1) := by decide +kernel
theorem dX5_coveredBy_37 : decode cX5_coveredBy 37 = .ok (.ifCond .ne 10, 3) := by decide +kernel
theorem dX5_coveredBy_40 : decode cX5_coveredBy 40 = .ok (.aload_n 0, 1) := by decide +kernel
theorem dX5_coveredBy_41 : decode cX5_coveredBy 41 = .ok (.getfield 74, 3) := by decide +kernel
theorem dX5_coveredBy_44 : decode cX5_coveredBy 44 = .ok (.invokestatic 105, 3) := by decide +kernel
theorem dX5_coveredBy_47 : decode cX5_coveredBy 47 = .ok (.iconst 1, 1) := by decide +kernel
theorem dX5_coveredBy_48 : decode cX5_coveredBy 48 = .ok (.istore_n 3, 1) := by decide +kernel
theorem dX5_coveredBy_49 : decode cX5_coveredBy 49 = .ok (.aload_n 0, 1) := by decide +kernel
theorem dX5_coveredBy_50 : decode cX5_coveredBy 50 = .ok (.getfield 74, 3) := by decide +kernel
theorem dX5_coveredBy_53 : decode cX5_coveredBy 53 = .ok (.aload_n 0, 1) := by decide +kernel
theorem dX5_coveredBy_54 : decode cX5_coveredBy 54 = .ok (.getfield 20, 3) := by decide +kernel
theorem dX5_coveredBy_57 : decode cX5_coveredBy 57 = .ok (.iconst 4, 1) := by decide +kernel
theorem dX5_coveredBy_58 : decode cX5_coveredBy 58 = .ok (.iload 4, 2) := by decide +kernel
theorem dX5_coveredBy_60 : decode cX5_coveredBy 60 = .ok (.imul, 1) := by decide +kernel
theorem dX5_coveredBy_61 : decode cX5_coveredBy 61 = .ok (.iaload, 1) := by decide +kernel
theorem dX5_coveredBy_62 : decode cX5_coveredBy 62 = .ok (.aload_n 0, 1) := by decide +kernel
theorem dX5_coveredBy_63 : decode cX5_coveredBy 63 = .ok (.getfield 20, 3) := by decide +kernel
theorem dX5_coveredBy_66 : decode cX5_coveredBy 66 = .ok (.iconst 4, 1) := by decide +kernel
theorem dX5_coveredBy_67 : decode cX5_coveredBy 67 = .ok (.iload 4, 2) := by decide +kernel
