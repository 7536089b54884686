set_option maxRecDepth 20000 in
theorem ggX4_init_X0_init : GoodIn wsX4_init wsX0_init := goodIn_r _ [43, 44, 2, 3, 20, 45, 46, 47, 48, 49, 50, 90, 91, 92, 93, 94, 95, 96] (by decide +kernel) (by decide +kernel)
set_option maxRecDepth 20000 in
theorem gX4_init_X0_init : GoodIn wsX4_init (wsX0_init) := ggX4_init_X0_init
set_option maxRecDepth 20000 in
theorem ggX4_init_X1_init : GoodIn wsX4_init wsX1_init := goodIn_r _ [53, 54, 2, 3, 20, 55, 56, 57, 58, 59, 60, 61, 62, 97, 98, 99, 100, 101, 102, 103, 104, 105, 106, 107, 108] (by decide +kernel) (by decide +kernel)
set_option maxRecDepth 20000 in
theorem gX4_init_X1_init : GoodIn wsX4_init (wsX1_init) := ggX4_init_X1_init
set_option maxRecDepth 20000 in
theorem ggX4_init_X3_init : GoodIn wsX4_init wsX3_init := goodIn_r _ [64, 65, 2, 3, 12, 66, 109, 110] (by decide +kernel) (by decide +kernel)
set_option maxRecDepth 20000 in
theorem gX4_init_X3_init_n75 : GoodIn wsX4_init (wsX3_init) := ggX4_init_X3_init
set_option maxRecDepth 20000 in
theorem ggX4_init_X2_init : GoodIn wsX4_init wsX2_init := goodIn_r _ [68, 69, 2, 3, 12, 70, 111, 112, 113, 114, 115, 116] (by decide +kernel) (by decide +kernel)
set_option maxRecDepth 20000 in
theorem gX4_init_X2_init_n82 : GoodIn wsX4_init (wsX2_init) := ggX4_init_X2_init
theorem dX4_init_0 : decode cX4_init 0 = .ok (.aload_n 0, 1) := by decide +kernel
theorem dX4_init_1 : decode cX4_init 1 = .ok (.invokespecial 3, 3) := by decide +kernel
theorem dX4_init_4 : decode cX4_init 4 = .ok (.aload_n 0, 1) := by decide +kernel
theorem dX4_init_5 : decode cX4_init 5 = .ok (.iconst 1, 1) := by decide +kernel
theorem dX4_init_6 : decode cX4_init 6 = .ok (.bipush 64, 2) := by decide +kernel
theorem dX4_init_8 : decode cX4_init 8 = .ok (.iload_n 1, 1) := by decide +kernel
theorem dX4_init_9 : decode cX4_init 9 = .ok (.invokestatic 9, 3) := by decide +kernel
theorem dX4_init_12 : decode cX4_init 12 = .ok (.invokestatic 15, 3) := by decide +kernel
theorem dX4_init_15 : decode cX4_init 15 = .ok (.putfield 18, 3) := by decide +kernel
theorem dX4_init_18 : decode cX4_init 18 = .ok (.aload_n 0, 1) := by decide +kernel
theorem dX4_init_19 : decode cX4_init 19 = .ok (.bipush 40, 2) := by decide +kernel
theorem dX4_init_21 : decode cX4_init 21 = .ok (.newarray .long, 2) := by decide +kernel
theorem dX4_init_23 : decode cX4_init 23 = .ok (.putfield 22, 3) := by decide +kernel
theorem dX4_init_26 : decode cX4_init 26 = .ok (.aload_n 0, 1) := by decide +kernel
theorem dX4_init_27 : decode cX4_init 27 = .ok (.new 26, 3) := by decide +kernel
theorem dX4_init_30 : decode cX4_init 30 = .ok (.dup, 1) := by decide +kernel
theorem dX4_init_31 : decode cX4_init 31 = .ok (.sipush 200, 3) := by decide +kernel
theorem dX4_init_34 : decode cX4_init 34 = .ok (.invokespecial 28, 3) := by decide +kernel
theorem dX4_init_37 : decode cX4_init 37 = .ok (.putfield 31, 3) := by decide +kernel
theorem dX4_init_40 : decode cX4_init 40 = .ok (.aload_n 0, 1) := by decide +kernel
theorem dX4_init_41 : decode cX4_init 41 = .ok (.new 26, 3) := by decide +kernel
theorem dX4_init_44 : decode cX4_init 44 = .ok (.dup, 1) := by decide +kernel
theorem dX4_init_45 : decode cX4_init 45 = .ok (.bipush 60, 2) := by decide +kernel
theorem dX4_init_47 : decode cX4_init 47 = .ok (.invokespecial 28, 3) := by decide +kernel
theorem dX4_init_50 : decode cX4_init 50 = .ok (.putfield 35, 3) := by decide +kernel
theorem dX4_init_53 : decode cX4_init 53 = .ok (.aload_n 0, 1) := by decide +kernel
theorem dX4_init_54 : decode cX4_init 54 = .ok (.new 26, 3) := by decide +kernel
theorem dX4_init_57 : decode cX4_init 57 = .ok (.dup, 1) := by decide +kernel
theorem dX4_init_58 : decode cX4_init 58 = .ok (.sipush 1500, 3) := by decide +kernel
theorem dX4_init_61 : decode cX4_init 61 = .ok (.invokespecial 28, 3) := by decide +kernel
theorem dX4_init_64 : decode cX4_init 64 = .ok (.putfield 38, 3) := by decide +kernel
theorem dX4_init_67 : decode cX4_init 67 = .ok (.aload_n 0, 1) := by decide +kernel
theorem dX4_init_68 : decode cX4_init 68 = .ok (.bipush 60, 2) := by decide +kernel
theorem dX4_init_70 : decode cX4_init 70 = .ok (.newarray .int, 2) := by decide +kernel
theorem dX4_init_72 : decode cX4_init 72 = .ok (.putfield 41, 3) := by decide +kernel
theorem dX4_init_75 : decode cX4_init 75 = .ok (.aload_n 0, 1) := by decide +kernel
theorem dX4_init_76 : decode cX4_init 76 = .ok (.bipush 40, 2) := by decide +kernel
theorem dX4_init_78 : decode cX4_init 78 = .ok (.aload_n 0, 1) := by decide +kernel
theorem dX4_init_79 : decode cX4_init 79 = .ok (.getfield 18, 3) := by decide +kernel
theorem dX4_init_82 : decode cX4_init 82 = .ok (.imul, 1) := by decide +kernel
theorem dX4_init_83 : decode cX4_init 83 = .ok (.newarray .long, 2) := by decide +kernel
theorem dX4_init_85 : decode cX4_init 85 = .ok (.putfield 45, 3) := by decide +kernel
theorem dX4_init_88 : decode cX4_init 88 = .ok (.aload_n 0, 1) := by decide +kernel
theorem dX4_init_89 : decode cX4_init 89 = .ok (.bipush 40, 2) := by decide +kernel
theorem dX4_init_91 : decode cX4_init 91 = .ok (.aload_n 0, 1) := by decide +kernel
theorem dX4_init_92 : decode cX4_init 92 = .ok (.getfield 18, 3) := by decide +kernel
theorem dX4_init_95 : decode cX4_init 95 = .ok (.imul, 1) := by decide +kernel
theorem dX4_init_96 : decode cX4_init 96 = .ok (.newarray .long, 2) := by decide +kernel
theorem dX4_init_98 : decode cX4_init 98 = .ok (.putfield 48, 3) := by decide +kernel
theorem dX4_init_101 : decode cX4_init 101 = .ok (.aload_n 0, 1) := by decide +kernel
theorem dX4_init_102 : decode cX4_init 102 = .ok (.aload_n 0, 1) := by decide +kernel
theorem dX4_init_103 : decode cX4_init 103 = .ok (.getfield 18, 3) := by decide +kernel
theorem dX4_init_106 : decode cX4_init 106 = .ok (.newarray .long, 2) := by decide +kernel
theorem dX4_init_108 : decode cX4_init 108 = .ok (.putfield 51, 3) := by decide +kernel
theorem dX4_init_111 : decode cX4_init 111 = .ok (.aload_n 0, 1) := by decide +kernel
theorem dX4_init_112 : decode cX4_init 112 = .ok (.aload_n 0, 1) := by decide +kernel
theorem dX4_init_113 : decode cX4_init 113 = .ok (.getfield 18, 3) := by decide +kernel
theorem dX4_init_116 : decode cX4_init 116 = .ok (.newarray .long, 2) := by decide +kernel
theorem dX4_init_118 : decode cX4_init 118 = .ok (.putfield 54, 3) := by decide +kernel
theorem dX4_init_121 : decode cX4_init 121 = .ok (.aload_n 0, 1) := by decide +kernel
theorem dX4_init_122 : decode cX4_init 122 = .ok (.aload_n 0, 1) := by decide +kernel
theorem dX4_init_123 : decode cX4_init 123 = .ok (.getfield 18, 3) := by decide +kernel
theorem dX4_init_126 : decode cX4_init 126 = .ok (.newarray .int, 2) := by decide +kernel
theorem dX4_init_128 : decode cX4_init 128 = .ok (.putfield 57, 3) := by decide +kernel
theorem dX4_init_131 : decode cX4_init 131 = .ok (.aload_n 0, 1) := by decide +kernel
theorem dX4_init_132 : decode cX4_init 132 = .ok (.aload_n 0, 1) := by decide +kernel
theorem dX4_init_133 : decode cX4_init 133 = .ok (.getfield 18, 3) := by decide +kernel
theorem dX4_init_136 : decode cX4_init 136 = .ok (.newarray .int, 2) := by decide +kernel
theorem dX4_init_138 : decode cX4_init 138 = .ok (.putfield 60, 3) := by decide +kernel
theorem dX4_init_141 : decode cX4_init 141 = .ok (.iconst 0, 1) := by decide +kernel
theorem dX4_init_142 : decode cX4_init 142 = .ok (.istore_n 2, 1) := by decide +kernel
theorem dX4_init_143 : decode cX4_init 143 = .ok (.iload_n 2, 1) := by decide +kernel
theorem dX4_init_144 : decode cX4_init 144 = .ok (.aload_n 0, 1) := by decide +kernel
theorem dX4_init_145 : decode cX4_init 145 = .ok (.getfield 18, 3) := by decide +kernel
theorem dX4_init_148 : decode cX4_init 148 = .ok (.if_icmp .ge 17, 3) := by decide +kernel
theorem dX4_init_151 : decode cX4_init 151 = .ok (.aload_n 0, 1) := by decide +kernel
theorem dX4_init_152 : decode cX4_init 152 = .ok (.getfield 60, 3) := by decide +kernel
theorem dX4_init_155 : decode cX4_init 155 = .ok (.iload_n 2, 1) := by decide +kernel
theorem dX4_init_156 : decode cX4_init 156 = .ok (.bipush 100, 2) := by decide +kernel
theorem dX4_init_158 : decode cX4_init 158 = .ok (.iastore, 1) := by decide +kernel
theorem dX4_init_159 : decode cX4_init 159 = .ok (.iinc 2 1, 3) := by decide +kernel
theorem dX4_init_162 : decode cX4_init 162 = .ok (.goto (-19), 3) := by decide +kernel
theorem dX4_init_165 : decode cX4_init 165 = .ok (.aload_n 0, 1) := by decide +kernel
theorem dX4_init_166 : decode cX4_init 166 = .ok (.bipush 25, 2) := by decide +kernel
theorem dX4_init_168 : decode cX4_init 168 = .ok (.newarray .int, 2) := by decide +kernel
theorem dX4_init_170 : decode cX4_init 170 = .ok (.putfield 63, 3) := by decide +kernel
theorem dX4_init_173 : decode cX4_init 173 = .ok (.aload_n 0, 1) := by decide +kernel
theorem dX4_init_174 : decode cX4_init 174 = .ok (.new 66, 3) := by decide +kernel
theorem dX4_init_177 : decode cX4_init 177 = .ok (.dup, 1) := by decide +kernel
theorem dX4_init_178 : decode cX4_init 178 = .ok (.sipush 1760, 3) := by decide +kernel
theorem dX4_init_181 : decode cX4_init 181 = .ok (.invokespecial 68, 3) := by decide +kernel
theorem dX4_init_184 : decode cX4_init 184 = .ok (.putfield 69, 3) := by decide +kernel
theorem dX4_init_187 : decode cX4_init 187 = .ok (.aload_n 0, 1) := by decide +kernel
theorem dX4_init_188 : decode cX4_init 188 = .ok (.new 73, 3) := by decide +kernel
theorem dX4_init_191 : decode cX4_init 191 = .ok (.dup, 1) := by decide +kernel
theorem dX4_init_192 : decode cX4_init 192 = .ok (.invokespecial 75, 3) := by decide +kernel
theorem dX4_init_195 : decode cX4_init 195 = .ok (.putfield 76, 3) := by decide +kernel
theorem dX4_init_198 : decode cX4_init 198 = .ok (.aload_n 0, 1) := by decide +kernel
theorem dX4_init_199 : decode cX4_init 199 = .ok (.new 80, 3) := by decide +kernel
theorem dX4_init_202 : decode cX4_init 202 = .ok (.dup, 1) := by decide +kernel
theorem dX4_init_203 : decode cX4_init 203 = .ok (.invokespecial 82, 3) := by decide +kernel
theorem dX4_init_206 : decode cX4_init 206 = .ok (.putfield 83, 3) := by decide +kernel
theorem dX4_init_209 : decode cX4_init 209 = .ok (.return_, 1) := by decide +kernel
theorem dX4_net_0 : decode cX4_net 0 = .ok (.aload_n 0, 1) := by decide +kernel
theorem dX4_net_1 : decode cX4_net 1 = .ok (.getfield 87, 3) := by decide +kernel
theorem dX4_net_4 : decode cX4_net 4 = .ok (.bipush 40, 2) := by decide +kernel
theorem dX4_net_6 : decode cX4_net 6 = .ok (.if_icmp .lt 13, 3) := by decide +kernel
theorem dX4_net_9 : decode cX4_net 9 = .ok (.new 90, 3) := by decide +kernel
theorem dX4_net_12 : decode cX4_net 12 = .ok (.dup, 1) := by decide +kernel
theorem dX4_net_13 : decode cX4_net 13 = .ok (.ldc 92, 2) := by decide +kernel
theorem dX4_net_15 : decode cX4_net 15 = .ok (.invokespecial 94, 3) := by decide +kernel
theorem dX4_net_18 : decode cX4_net 18 = .ok (.athrow, 1) := by decide +kernel
theorem dX4_net_19 : decode cX4_net 19 = .ok (.aload_n 0, 1) := by decide +kernel
theorem dX4_net_20 : decode cX4_net 20 = .ok (.dup, 1) := by decide +kernel
theorem dX4_net_21 : decode cX4_net 21 = .ok (.getfield 87, 3) := by decide +kernel
theorem dX4_net_24 : decode cX4_net 24 = .ok (.iconst 1, 1) := by decide +kernel
theorem dX4_net_25 : decode cX4_net 25 = .ok (.iadd, 1) := by decide +kernel
theorem dX4_net_26 : decode cX4_net 26 = .ok (.putfield 87, 3) := by decide +kernel
theorem dX4_net_29 : decode cX4_net 29 = .ok (.aload_n 0, 1) := by decide +kernel
theorem dX4_net_30 : decode cX4_net 30 = .ok (.getfield 87, 3) := by decide +kernel
theorem dX4_net_33 : decode cX4_net 33 = .ok (.iconst 1, 1) := by decide +kernel
theorem dX4_net_34 : decode cX4_net 34 = .ok (.isub, 1) := by decide +kernel
theorem dX4_net_35 : decode cX4_net 35 = .ok (.ireturn, 1) := by decide +kernel
set_option maxRecDepth 20000 in
theorem ggX4_shape_X4_checkNet : GoodIn wsX4_shape wsX4_checkNet := goodIn_ca (goodIn_r _ [17, 18, 19, 20, 16, 21, 22, 23, 95, 96, 97, 98, 99, 100, 101, 102, 103, 104, 105, 106, 107, 108, 109, 110, 111, 112, 113] (by decide +kernel) (by decide +kernel)) (goodIn_sub (fun _ h => List.mem_cons_of_mem _ (List.mem_append_right _ h)) (by decide +kernel))
set_option maxRecDepth 20000 in
theorem gX4_shape_X4_checkNet : GoodIn wsX4_shape (wsV RX4 97 RX4 yX4_checkNet wsX4_checkNet) := goodIn_app (goodIn_of _ (by decide +kernel)) ggX4_shape_X4_checkNet
set_option maxRecDepth 20000 in
theorem ggX4_shape_X4_checkLayer : GoodIn wsX4_shape wsX4_checkLayer := goodIn_ca (goodIn_r _ [27, 10, 19, 20, 16, 21, 22, 23, 95, 96, 97, 98, 99, 100, 101, 102, 103, 104, 105, 106, 107, 108, 109, 110, 111, 112, 113] (by decide +kernel) (by decide +kernel)) (goodIn_sub (fun _ h => List.mem_cons_of_mem _ (List.mem_append_right _ h)) (by decide +kernel))
set_option maxRecDepth 20000 in
theorem gX4_shape_X4_checkLayer : GoodIn wsX4_shape (wsV RX4 100 RX4 yX4_checkLayer wsX4_checkLayer) := goodIn_app (goodIn_of _ (by decide +kernel)) ggX4_shape_X4_checkLayer
set_option maxRecDepth 20000 in
theorem ggX4_shape_X1_open : GoodIn wsX4_shape wsX1_open := goodIn_r _ [32, 33, 34, 35, 36, 37, 123, 124, 125, 126, 127, 128, 129, 130, 131, 132, 133, 134] (by decide +kernel) (by decide +kernel)
set_option maxRecDepth 20000 in
theorem gX4_shape_X1_open : GoodIn wsX4_shape (wsV RX4 115 RX1 yX1_open wsX1_open) := goodIn_app (goodIn_of _ (by decide +kernel)) ggX4_shape_X1_open
set_option maxRecDepth 20000 in
theorem ggX4_shape_X1_take : GoodIn wsX4_shape wsX1_take := goodIn_r _ [41, 42, 43, 44, 45, 46, 47, 48, 49, 50, 51, 31, 52, 34, 53, 54, 55, 56, 35, 36, 57, 58, 59, 37, 33, 60, 61, 62, 63, 114, 115, 116, 117, 118, 119, 120, 123, 124, 125, 126, 127, 128, 129, 130, 131, 132, 133, 134] (by decide +kernel) (by decide +kernel)
set_option maxRecDepth 20000 in
theorem gX4_shape_X1_take : GoodIn wsX4_shape (wsV RX4 119 RX1 yX1_take wsX1_take) := goodIn_app (goodIn_of _ (by decide +kernel)) ggX4_shape_X1_take
set_option maxRecDepth 20000 in
theorem ggX4_shape_X1_area : GoodIn wsX4_shape wsX1_area := goodIn_r _ [67, 33, 37, 68, 69, 70, 71, 31, 72, 36, 73, 60, 74, 75, 76, 77, 78, 61, 63, 79, 80, 81, 82, 62, 53, 54, 55, 56, 123, 124, 125, 126, 127, 128, 129, 130, 131, 132, 133, 134] (by decide +kernel) (by decide +kernel)
set_option maxRecDepth 20000 in
theorem gX4_shape_X1_area : GoodIn wsX4_shape (wsV RX4 123 RX1 yX1_area wsX1_area) := goodIn_app (goodIn_of _ (by decide +kernel)) ggX4_shape_X1_area
set_option maxRecDepth 20000 in
theorem ggX4_shape_X0_put : GoodIn wsX4_shape wsX0_put := goodIn_r _ [87, 88, 89, 90, 91, 92, 93, 94, 114, 115, 116, 117, 118, 119, 120] (by decide +kernel) (by decide +kernel)
set_option maxRecDepth 20000 in
theorem gX4_shape_X0_put : GoodIn wsX4_shape (wsV RX4 127 RX0 yX0_put wsX0_put) := goodIn_app (goodIn_of _ (by decide +kernel)) ggX4_shape_X0_put
theorem dX4_shape_0 : decode cX4_shape 0 = .ok (.aload_n 0, 1) := by decide +kernel
theorem dX4_shape_1 : decode cX4_shape 1 = .ok (.iload_n 1, 1) := by decide +kernel
theorem dX4_shape_2 : decode cX4_shape 2 = .ok (.invokevirtual 97, 3) := by decide +kernel
theorem dX4_shape_5 : decode cX4_shape 5 = .ok (.aload_n 0, 1) := by decide +kernel
theorem dX4_shape_6 : decode cX4_shape 6 = .ok (.iload_n 2, 1) := by decide +kernel
theorem dX4_shape_7 : decode cX4_shape 7 = .ok (.invokevirtual 100, 3) := by decide +kernel
theorem dX4_shape_10 : decode cX4_shape 10 = .ok (.aload_n 0, 1) := by decide +kernel
theorem dX4_shape_11 : decode cX4_shape 11 = .ok (.getfield 31, 3) := by decide +kernel
theorem dX4_shape_14 : decode cX4_shape 14 = .ok (.getfield 103, 3) := by decide +kernel
theorem dX4_shape_17 : decode cX4_shape 17 = .ok (.sipush 200, 3) := by decide +kernel
theorem dX4_shape_20 : decode cX4_shape 20 = .ok (.if_icmp .lt 13, 3) := by decide +kernel
theorem dX4_shape_23 : decode cX4_shape 23 = .ok (.new 90, 3) := by decide +kernel
theorem dX4_shape_26 : decode cX4_shape 26 = .ok (.dup, 1) := by decide +kernel
theorem dX4_shape_27 : decode cX4_shape 27 = .ok (.ldc 106, 2) := by decide +kernel
theorem dX4_shape_29 : decode cX4_shape 29 = .ok (.invokespecial 94, 3) := by decide +kernel
theorem dX4_shape_32 : decode cX4_shape 32 = .ok (.athrow, 1) := by decide +kernel
theorem dX4_shape_33 : decode cX4_shape 33 = .ok (.lload_n 3, 1) := by decide +kernel
theorem dX4_shape_34 : decode cX4_shape 34 = .ok (.lconst 0, 1) := by decide +kernel
theorem dX4_shape_35 : decode cX4_shape 35 = .ok (.lcmp, 1) := by decide +kernel
theorem dX4_shape_36 : decode cX4_shape 36 = .ok (.ifCond .lt 43, 3) := by decide +kernel
theorem dX4_shape_39 : decode cX4_shape 39 = .ok (.lload 5, 2) := by decide +kernel
theorem dX4_shape_41 : decode cX4_shape 41 = .ok (.lconst 0, 1) := by decide +kernel
theorem dX4_shape_42 : decode cX4_shape 42 = .ok (.lcmp, 1) := by decide +kernel
theorem dX4_shape_43 : decode cX4_shape 43 = .ok (.ifCond .lt 36, 3) := by decide +kernel
theorem dX4_shape_46 : decode cX4_shape 46 = .ok (.lload 7, 2) := by decide +kernel
theorem dX4_shape_48 : decode cX4_shape 48 = .ok (.ldc2_w 108, 3) := by decide +kernel
theorem dX4_shape_51 : decode cX4_shape 51 = .ok (.lcmp, 1) := by decide +kernel
theorem dX4_shape_52 : decode cX4_shape 52 = .ok (.ifCond .gt 27, 3) := by decide +kernel
theorem dX4_shape_55 : decode cX4_shape 55 = .ok (.lload 9, 2) := by decide +kernel
theorem dX4_shape_57 : decode cX4_shape 57 = .ok (.ldc2_w 108, 3) := by decide +kernel
theorem dX4_shape_60 : decode cX4_shape 60 = .ok (.lcmp, 1) := by decide +kernel
theorem dX4_shape_61 : decode cX4_shape 61 = .ok (.ifCond .gt 18, 3) := by decide +kernel
theorem dX4_shape_64 : decode cX4_shape 64 = .ok (.lload_n 3, 1) := by decide +kernel
theorem dX4_shape_65 : decode cX4_shape 65 = .ok (.lload 7, 2) := by decide +kernel
theorem dX4_shape_67 : decode cX4_shape 67 = .ok (.lcmp, 1) := by decide +kernel
theorem dX4_shape_68 : decode cX4_shape 68 = .ok (.ifCond .ge 11, 3) := by decide +kernel
theorem dX4_shape_71 : decode cX4_shape 71 = .ok (.lload 5, 2) := by decide +kernel
theorem dX4_shape_73 : decode cX4_shape 73 = .ok (.lload 9, 2) := by decide +kernel
theorem dX4_shape_75 : decode cX4_shape 75 = .ok (.lcmp, 1) := by decide +kernel
theorem dX4_shape_76 : decode cX4_shape 76 = .ok (.ifCond .lt 13, 3) := by decide +kernel
theorem dX4_shape_79 : decode cX4_shape 79 = .ok (.new 110, 3) := by decide +kernel
theorem dX4_shape_82 : decode cX4_shape 82 = .ok (.dup, 1) := by decide +kernel
theorem dX4_shape_83 : decode cX4_shape 83 = .ok (.ldc 112, 2) := by decide +kernel
theorem dX4_shape_85 : decode cX4_shape 85 = .ok (.invokespecial 114, 3) := by decide +kernel
theorem dX4_shape_88 : decode cX4_shape 88 = .ok (.athrow, 1) := by decide +kernel
theorem dX4_shape_89 : decode cX4_shape 89 = .ok (.aload_n 0, 1) := by decide +kernel
theorem dX4_shape_90 : decode cX4_shape 90 = .ok (.getfield 69, 3) := by decide +kernel
theorem dX4_shape_93 : decode cX4_shape 93 = .ok (.lload_n 3, 1) := by decide +kernel
theorem dX4_shape_94 : decode cX4_shape 94 = .ok (.l2i, 1) := by decide +kernel
theorem dX4_shape_95 : decode cX4_shape 95 = .ok (.lload 5, 2) := by decide +kernel
theorem dX4_shape_97 : decode cX4_shape 97 = .ok (.l2i, 1) := by decide +kernel
theorem dX4_shape_98 : decode cX4_shape 98 = .ok (.lload 7, 2) := by decide +kernel
theorem dX4_shape_100 : decode cX4_shape 100 = .ok (.l2i, 1) := by decide +kernel
theorem dX4_shape_101 : decode cX4_shape 101 = .ok (.lload 9, 2) := by decide +kernel
theorem dX4_shape_103 : decode cX4_shape 103 = .ok (.l2i, 1) := by decide +kernel
theorem dX4_shape_104 : decode cX4_shape 104 = .ok (.invokevirtual 115, 3) := by decide +kernel
theorem dX4_shape_107 : decode cX4_shape 107 = .ok (.aload_n 0, 1) := by decide +kernel
theorem dX4_shape_108 : decode cX4_shape 108 = .ok (.getfield 69, 3) := by decide +kernel
theorem dX4_shape_111 : decode cX4_shape 111 = .ok (.aload_n 0, 1) := by decide +kernel
theorem dX4_shape_112 : decode cX4_shape 112 = .ok (.getfield 31, 3) := by decide +kernel
theorem dX4_shape_115 : decode cX4_shape 115 = .ok (.iload_n 2, 1) := by decide +kernel
theorem dX4_shape_116 : decode cX4_shape 116 = .ok (.iload_n 1, 1) := by decide +kernel
theorem dX4_shape_117 : decode cX4_shape 117 = .ok (.invokevirtual 119, 3) := by decide +kernel
theorem dX4_shape_120 : decode cX4_shape 120 = .ok (.lload 7, 2) := by decide +kernel
theorem dX4_shape_122 : decode cX4_shape 122 = .ok (.lload_n 3, 1) := by decide +kernel
theorem dX4_shape_123 : decode cX4_shape 123 = .ok (.lsub, 1) := by decide +kernel
theorem dX4_shape_124 : decode cX4_shape 124 = .ok (.lload 9, 2) := by decide +kernel
theorem dX4_shape_126 : decode cX4_shape 126 = .ok (.lload 5, 2) := by decide +kernel
theorem dX4_shape_128 : decode cX4_shape 128 = .ok (.lsub, 1) := by decide +kernel
theorem dX4_shape_129 : decode cX4_shape 129 = .ok (.lmul, 1) := by decide +kernel
theorem dX4_shape_130 : decode cX4_shape 130 = .ok (.aload_n 0, 1) := by decide +kernel
theorem dX4_shape_131 : decode cX4_shape 131 = .ok (.getfield 69, 3) := by decide +kernel
theorem dX4_shape_134 : decode cX4_shape 134 = .ok (.invokevirtual 123, 3) := by decide +kernel
theorem dX4_shape_137 : decode cX4_shape 137 = .ok (.lsub, 1) := by decide +kernel
theorem dX4_shape_138 : decode cX4_shape 138 = .ok (.lstore 11, 2) := by decide +kernel
theorem dX4_shape_140 : decode cX4_shape 140 = .ok (.aload_n 0, 1) := by decide +kernel
theorem dX4_shape_141 : decode cX4_shape 141 = .ok (.getfield 31, 3) := by decide +kernel
theorem dX4_shape_144 : decode cX4_shape 144 = .ok (.iload_n 1, 1) := by decide +kernel
theorem dX4_shape_145 : decode cX4_shape 145 = .ok (.iload_n 2, 1) := by decide +kernel
theorem dX4_shape_146 : decode cX4_shape 146 = .ok (.lload_n 3, 1) := by decide +kernel
theorem dX4_shape_147 : decode cX4_shape 147 = .ok (.l2i, 1) := by decide +kernel
theorem dX4_shape_148 : decode cX4_shape 148 = .ok (.lload 5, 2) := by decide +kernel
theorem dX4_shape_150 : decode cX4_shape 150 = .ok (.l2i, 1) := by decide +kernel
theorem dX4_shape_151 : decode cX4_shape 151 = .ok (.lload 7, 2) := by decide +kernel
theorem dX4_shape_153 : decode cX4_shape 153 = .ok (.l2i, 1) := by decide +kernel
theorem dX4_shape_154 : decode cX4_shape 154 = .ok (.lload 9, 2) := by decide +kernel
theorem dX4_shape_156 : decode cX4_shape 156 = .ok (.l2i, 1) := by decide +kernel
theorem dX4_shape_157 : decode cX4_shape 157 = .ok (.invokevirtual 127, 3) := by decide +kernel
theorem dX4_shape_160 : decode cX4_shape 160 = .ok (.aload_n 0, 1) := by decide +kernel
theorem dX4_shape_161 : decode cX4_shape 161 = .ok (.getfield 45, 3) := by decide +kernel
theorem dX4_shape_164 : decode cX4_shape 164 = .ok (.iload_n 1, 1) := by decide +kernel
theorem dX4_shape_165 : decode cX4_shape 165 = .ok (.aload_n 0, 1) := by decide +kernel
theorem dX4_shape_166 : decode cX4_shape 166 = .ok (.getfield 18, 3) := by decide +kernel
theorem dX4_shape_169 : decode cX4_shape 169 = .ok (.imul, 1) := by decide +kernel
theorem dX4_shape_170 : decode cX4_shape 170 = .ok (.iload_n 2, 1) := by decide +kernel
theorem dX4_shape_171 : decode cX4_shape 171 = .ok (.iadd, 1) := by decide +kernel
theorem dX4_shape_172 : decode cX4_shape 172 = .ok (.dup2, 1) := by decide +kernel
theorem dX4_shape_173 : decode cX4_shape 173 = .ok (.laload, 1) := by decide +kernel
theorem dX4_shape_174 : decode cX4_shape 174 = .ok (.lload 11, 2) := by decide +kernel
theorem dX4_shape_176 : decode cX4_shape 176 = .ok (.ladd, 1) := by decide +kernel
theorem dX4_shape_177 : decode cX4_shape 177 = .ok (.lastore, 1) := by decide +kernel
theorem dX4_shape_178 : decode cX4_shape 178 = .ok (.iload_n 2, 1) := by decide +kernel
theorem dX4_shape_179 : decode cX4_shape 179 = .ok (.ifCond .ne 11, 3) := by decide +kernel
theorem dX4_shape_182 : decode cX4_shape 182 = .ok (.aload_n 0, 1) := by decide +kernel
theorem dX4_shape_183 : decode cX4_shape 183 = .ok (.getfield 76, 3) := by decide +kernel
theorem dX4_shape_186 : decode cX4_shape 186 = .ok (.iconst 0, 1) := by decide +kernel
theorem dX4_shape_187 : decode cX4_shape 187 = .ok (.putfield 131, 3) := by decide +kernel
theorem dX4_shape_190 : decode cX4_shape 190 = .ok (.lload 11, 2) := by decide +kernel
theorem dX4_shape_192 : decode cX4_shape 192 = .ok (.lconst 0, 1) := by decide +kernel
theorem dX4_shape_193 : decode cX4_shape 193 = .ok (.lcmp, 1) := by decide +kernel
theorem dX4_shape_194 : decode cX4_shape 194 = .ok (.ifCond .le 7, 3) := by decide +kernel
theorem dX4_shape_197 : decode cX4_shape 197 = .ok (.iconst 1, 1) := by decide +kernel
theorem dX4_shape_198 : decode cX4_shape 198 = .ok (.goto 4, 3) := by decide +kernel
theorem dX4_shape_201 : decode cX4_shape 201 = .ok (.iconst 0, 1) := by decide +kernel
theorem dX4_shape_202 : decode cX4_shape 202 = .ok (.ireturn, 1) := by decide +kernel
set_option maxRecDepth 20000 in
theorem ggX4_gate_X4_checkNet : GoodIn wsX4_gate wsX4_checkNet := goodIn_ca (goodIn_r _ [9, 10, 11, 12, 8, 13, 14, 15, 23, 24, 25, 26, 27, 28, 29, 30, 31, 32, 33, 34, 35, 36, 37, 38, 39, 40, 41] (by decide +kernel) (by decide +kernel)) (goodIn_sub (fun _ h => List.mem_cons_of_mem _ (List.mem_append_right _ h)) (by decide +kernel))
set_option maxRecDepth 20000 in
theorem gX4_gate_X4_checkNet : GoodIn wsX4_gate (wsV RX4 97 RX4 yX4_checkNet wsX4_checkNet) := goodIn_app (goodIn_of _ (by decide +kernel)) ggX4_gate_X4_checkNet
set_option maxRecDepth 20000 in
theorem ggX4_gate_X4_checkArea : GoodIn wsX4_gate wsX4_checkArea := goodIn_ca (goodIn_r _ [18, 19, 20, 21, 8, 22, 1, 2] (by decide +kernel) (by decide +kernel)) (goodIn_sub (fun _ h => List.mem_cons_of_mem _ (List.mem_append_left _ (List.mem_append_right _ h))) (by decide +kernel))
set_option maxRecDepth 20000 in
theorem gX4_gate_X4_checkArea : GoodIn wsX4_gate (va_wsS RX4 135 yX4_checkArea wsX4_checkArea) := goodIn_app (goodIn_of _ (by decide +kernel)) ggX4_gate_X4_checkArea
theorem dX4_gate_0 : decode cX4_gate 0 = .ok (.aload_n 0, 1) := by decide +kernel
theorem dX4_gate_1 : decode cX4_gate 1 = .ok (.iload_n 1, 1) := by decide +kernel
theorem dX4_gate_2 : decode cX4_gate 2 = .ok (.invokevirtual 97, 3) := by decide +kernel
theorem dX4_gate_5 : decode cX4_gate 5 = .ok (.lload_n 2, 1) := by decide +kernel
theorem dX4_gate_6 : decode cX4_gate 6 = .ok (.invokestatic 135, 3) := by decide +kernel
theorem dX4_gate_9 : decode cX4_gate 9 = .ok (.aload_n 0, 1) := by decide +kernel
theorem dX4_gate_10 : decode cX4_gate 10 = .ok (.getfield 22, 3) := by decide +kernel
theorem dX4_gate_13 : decode cX4_gate 13 = .ok (.iload_n 1, 1) := by decide +kernel
theorem dX4_gate_14 : decode cX4_gate 14 = .ok (.laload, 1) := by decide +kernel
theorem dX4_gate_15 : decode cX4_gate 15 = .ok (.lload_n 2, 1) := by decide +kernel
theorem dX4_gate_16 : decode cX4_gate 16 = .ok (.ladd, 1) := by decide +kernel
theorem dX4_gate_17 : decode cX4_gate 17 = .ok (.ldc2_w 139, 3) := by decide +kernel
theorem dX4_gate_20 : decode cX4_gate 20 = .ok (.lcmp, 1) := by decide +kernel
theorem dX4_gate_21 : decode cX4_gate 21 = .ok (.ifCond .le 13, 3) := by decide +kernel
theorem dX4_gate_24 : decode cX4_gate 24 = .ok (.new 110, 3) := by decide +kernel
theorem dX4_gate_27 : decode cX4_gate 27 = .ok (.dup, 1) := by decide +kernel
theorem dX4_gate_28 : decode cX4_gate 28 = .ok (.ldc 141, 2) := by decide +kernel
theorem dX4_gate_30 : decode cX4_gate 30 = .ok (.invokespecial 114, 3) := by decide +kernel
theorem dX4_gate_33 : decode cX4_gate 33 = .ok (.athrow, 1) := by decide +kernel
theorem dX4_gate_34 : decode cX4_gate 34 = .ok (.aload_n 0, 1) := by decide +kernel
theorem dX4_gate_35 : decode cX4_gate 35 = .ok (.getfield 22, 3) := by decide +kernel
theorem dX4_gate_38 : decode cX4_gate 38 = .ok (.iload_n 1, 1) := by decide +kernel
theorem dX4_gate_39 : decode cX4_gate 39 = .ok (.dup2, 1) := by decide +kernel
theorem dX4_gate_40 : decode cX4_gate 40 = .ok (.laload, 1) := by decide +kernel
theorem dX4_gate_41 : decode cX4_gate 41 = .ok (.lload_n 2, 1) := by decide +kernel
theorem dX4_gate_42 : decode cX4_gate 42 = .ok (.ladd, 1) := by decide +kernel
theorem dX4_gate_43 : decode cX4_gate 43 = .ok (.lastore, 1) := by decide +kernel
theorem dX4_gate_44 : decode cX4_gate 44 = .ok (.aload_n 0, 1) := by decide +kernel
theorem dX4_gate_45 : decode cX4_gate 45 = .ok (.getfield 22, 3) := by decide +kernel
theorem dX4_gate_48 : decode cX4_gate 48 = .ok (.iload_n 1, 1) := by decide +kernel
theorem dX4_gate_49 : decode cX4_gate 49 = .ok (.laload, 1) := by decide +kernel
theorem dX4_gate_50 : decode cX4_gate 50 = .ok (.lreturn, 1) := by decide +kernel
set_option maxRecDepth 20000 in
theorem ggX4_diode_X4_checkNet : GoodIn wsX4_diode wsX4_checkNet := goodIn_ca (goodIn_r _ [10, 11, 12, 13, 9, 14, 15, 16, 30, 31, 32, 33, 34, 35, 36, 37, 38, 39, 40, 41, 42, 43, 44, 45, 46, 47, 48] (by decide +kernel) (by decide +kernel)) (goodIn_sub (fun _ h => List.mem_cons_of_mem _ (List.mem_append_left _ (List.mem_append_right _ h))) (by decide +kernel))
set_option maxRecDepth 20000 in
theorem gX4_diode_X4_checkNet : GoodIn wsX4_diode (wsV RX4 97 RX4 yX4_checkNet wsX4_checkNet) := goodIn_app (goodIn_of _ (by decide +kernel)) ggX4_diode_X4_checkNet
set_option maxRecDepth 20000 in
theorem ggX4_diode_X4_checkLayer : GoodIn wsX4_diode wsX4_checkLayer := goodIn_ca (goodIn_r _ [20, 4, 12, 13, 9, 14, 15, 16, 30, 31, 32, 33, 34, 35, 36, 37, 38, 39, 40, 41, 42, 43, 44, 45, 46, 47, 48] (by decide +kernel) (by decide +kernel)) (goodIn_sub (fun _ h => List.mem_cons_of_mem _ (List.mem_append_left _ (List.mem_append_right _ h))) (by decide +kernel))
set_option maxRecDepth 20000 in
theorem gX4_diode_X4_checkLayer : GoodIn wsX4_diode (wsV RX4 100 RX4 yX4_checkLayer wsX4_checkLayer) := goodIn_app (goodIn_of _ (by decide +kernel)) ggX4_diode_X4_checkLayer
set_option maxRecDepth 20000 in
theorem ggX4_diode_X4_checkArea : GoodIn wsX4_diode wsX4_checkArea := goodIn_ca (goodIn_r _ [23, 24, 25, 26, 9, 27, 28, 29] (by decide +kernel) (by decide +kernel)) (goodIn_sub (fun _ h => List.mem_cons_of_mem _ (List.mem_append_right _ h)) (by decide +kernel))
set_option maxRecDepth 20000 in
theorem gX4_diode_X4_checkArea : GoodIn wsX4_diode (va_wsS RX4 135 yX4_checkArea wsX4_checkArea) := goodIn_app (goodIn_of _ (by decide +kernel)) ggX4_diode_X4_checkArea
theorem dX4_diode_0 : decode cX4_diode 0 = .ok (.aload_n 0, 1) := by decide +kernel
theorem dX4_diode_1 : decode cX4_diode 1 = .ok (.iload_n 1, 1) := by decide +kernel
theorem dX4_diode_2 : decode cX4_diode 2 = .ok (.invokevirtual 97, 3) := by decide +kernel
theorem dX4_diode_5 : decode cX4_diode 5 = .ok (.aload_n 0, 1) := by decide +kernel
theorem dX4_diode_6 : decode cX4_diode 6 = .ok (.iload_n 2, 1) := by decide +kernel
theorem dX4_diode_7 : decode cX4_diode 7 = .ok (.invokevirtual 100, 3) := by decide +kernel
theorem dX4_diode_10 : decode cX4_diode 10 = .ok (.aload_n 0, 1) := by decide +kernel
theorem dX4_diode_11 : decode cX4_diode 11 = .ok (.getfield 143, 3) := by decide +kernel
theorem dX4_diode_14 : decode cX4_diode 14 = .ok (.bipush 100, 2) := by decide +kernel
theorem dX4_diode_16 : decode cX4_diode 16 = .ok (.if_icmp .lt 13, 3) := by decide +kernel
theorem dX4_diode_19 : decode cX4_diode 19 = .ok (.new 90, 3) := by decide +kernel
theorem dX4_diode_22 : decode cX4_diode 22 = .ok (.dup, 1) := by decide +kernel
theorem dX4_diode_23 : decode cX4_diode 23 = .ok (.ldc 146, 2) := by decide +kernel
theorem dX4_diode_25 : decode cX4_diode 25 = .ok (.invokespecial 94, 3) := by decide +kernel
theorem dX4_diode_28 : decode cX4_diode 28 = .ok (.athrow, 1) := by decide +kernel
theorem dX4_diode_29 : decode cX4_diode 29 = .ok (.lload_n 3, 1) := by decide +kernel
theorem dX4_diode_30 : decode cX4_diode 30 = .ok (.invokestatic 135, 3) := by decide +kernel
theorem dX4_diode_33 : decode cX4_diode 33 = .ok (.iload_n 1, 1) := by decide +kernel
theorem dX4_diode_34 : decode cX4_diode 34 = .ok (.aload_n 0, 1) := by decide +kernel
theorem dX4_diode_35 : decode cX4_diode 35 = .ok (.getfield 18, 3) := by decide +kernel
theorem dX4_diode_38 : decode cX4_diode 38 = .ok (.imul, 1) := by decide +kernel
theorem dX4_diode_39 : decode cX4_diode 39 = .ok (.iload_n 2, 1) := by decide +kernel
theorem dX4_diode_40 : decode cX4_diode 40 = .ok (.iadd, 1) := by decide +kernel
theorem dX4_diode_41 : decode cX4_diode 41 = .ok (.istore 5, 2) := by decide +kernel
theorem dX4_diode_43 : decode cX4_diode 43 = .ok (.aload_n 0, 1) := by decide +kernel
theorem dX4_diode_44 : decode cX4_diode 44 = .ok (.getfield 48, 3) := by decide +kernel
theorem dX4_diode_47 : decode cX4_diode 47 = .ok (.iload 5, 2) := by decide +kernel
theorem dX4_diode_49 : decode cX4_diode 49 = .ok (.laload, 1) := by decide +kernel
theorem dX4_diode_50 : decode cX4_diode 50 = .ok (.lconst 0, 1) := by decide +kernel
theorem dX4_diode_51 : decode cX4_diode 51 = .ok (.lcmp, 1) := by decide +kernel
theorem dX4_diode_52 : decode cX4_diode 52 = .ok (.ifCond .ne 7, 3) := by decide +kernel
theorem dX4_diode_55 : decode cX4_diode 55 = .ok (.iconst 1, 1) := by decide +kernel
theorem dX4_diode_56 : decode cX4_diode 56 = .ok (.goto 4, 3) := by decide +kernel
theorem dX4_diode_59 : decode cX4_diode 59 = .ok (.iconst 0, 1) := by decide +kernel
theorem dX4_diode_60 : decode cX4_diode 60 = .ok (.istore 6, 2) := by decide +kernel
theorem dX4_diode_62 : decode cX4_diode 62 = .ok (.aload_n 0, 1) := by decide +kernel
theorem dX4_diode_63 : decode cX4_diode 63 = .ok (.getfield 48, 3) := by decide +kernel
theorem dX4_diode_66 : decode cX4_diode 66 = .ok (.iload 5, 2) := by decide +kernel
theorem dX4_diode_68 : decode cX4_diode 68 = .ok (.dup2, 1) := by decide +kernel
theorem dX4_diode_69 : decode cX4_diode 69 = .ok (.laload, 1) := by decide +kernel
theorem dX4_diode_70 : decode cX4_diode 70 = .ok (.lload_n 3, 1) := by decide +kernel
theorem dX4_diode_71 : decode cX4_diode 71 = .ok (.ladd, 1) := by decide +kernel
theorem dX4_diode_72 : decode cX4_diode 72 = .ok (.lastore, 1) := by decide +kernel
theorem dX4_diode_73 : decode cX4_diode 73 = .ok (.aload_n 0, 1) := by decide +kernel
theorem dX4_diode_74 : decode cX4_diode 74 = .ok (.dup, 1) := by decide +kernel
theorem dX4_diode_75 : decode cX4_diode 75 = .ok (.getfield 143, 3) := by decide +kernel
theorem dX4_diode_78 : decode cX4_diode 78 = .ok (.iconst 1, 1) := by decide +kernel
theorem dX4_diode_79 : decode cX4_diode 79 = .ok (.iadd, 1) := by decide +kernel
theorem dX4_diode_80 : decode cX4_diode 80 = .ok (.putfield 143, 3) := by decide +kernel
theorem dX4_diode_83 : decode cX4_diode 83 = .ok (.iload 6, 2) := by decide +kernel
theorem dX4_diode_85 : decode cX4_diode 85 = .ok (.ireturn, 1) := by decide +kernel
set_option maxRecDepth 20000 in
theorem ggX4_ratio_X4_checkNet : GoodIn wsX4_ratio wsX4_checkNet := goodIn_ca (goodIn_r _ [7, 8, 9, 10, 6, 11, 12, 13, 32, 33, 34, 35, 36, 37, 38, 39, 40, 41, 42, 43, 44, 45, 46, 47, 48, 49, 50] (by decide +kernel) (by decide +kernel)) (goodIn_sub (fun _ h => List.mem_cons_of_mem _ (List.mem_append_right _ h)) (by decide +kernel))
set_option maxRecDepth 20000 in
theorem gX4_ratio_X4_checkNet : GoodIn wsX4_ratio (wsV RX4 97 RX4 yX4_checkNet wsX4_checkNet) := goodIn_app (goodIn_of _ (by decide +kernel)) ggX4_ratio_X4_checkNet
set_option maxRecDepth 20000 in
theorem ggX4_ratio_X4_checkLayer : GoodIn wsX4_ratio wsX4_checkLayer := goodIn_ca (goodIn_r _ [17, 18, 9, 10, 6, 11, 12, 13, 32, 33, 34, 35, 36, 37, 38, 39, 40, 41, 42, 43, 44, 45, 46, 47, 48, 49, 50] (by decide +kernel) (by decide +kernel)) (goodIn_sub (fun _ h => List.mem_cons_of_mem _ (List.mem_append_right _ h)) (by decide +kernel))
set_option maxRecDepth 20000 in
theorem gX4_ratio_X4_checkLayer : GoodIn wsX4_ratio (wsV RX4 100 RX4 yX4_checkLayer wsX4_checkLayer) := goodIn_app (goodIn_of _ (by decide +kernel)) ggX4_ratio_X4_checkLayer
set_option maxRecDepth 20000 in
theorem ggX4_ratio_X4_checkIndex : GoodIn wsX4_ratio wsX4_checkIndex := goodIn_ca (goodIn_r _ [11, 12, 13] (by decide +kernel) (by decide +kernel)) (goodIn_sub (fun _ h => List.mem_cons_of_mem _ (List.mem_append_right _ h)) (by decide +kernel))
set_option maxRecDepth 20000 in
theorem gX4_ratio_X4_checkIndex : GoodIn wsX4_ratio (va_wsS RX4 148 yX4_checkIndex wsX4_checkIndex) := goodIn_app (goodIn_of _ (by decide +kernel)) ggX4_ratio_X4_checkIndex
set_option maxRecDepth 20000 in
theorem ggX4_ratio_X4_sumUpTo : GoodIn wsX4_ratio wsX4_sumUpTo := goodIn_r _ [22, 18, 32, 33, 34, 35, 36, 37, 38, 39, 40, 41, 42, 43, 44, 45, 46, 47, 48, 49, 50] (by decide +kernel) (by decide +kernel)
set_option maxRecDepth 20000 in
theorem gX4_ratio_X4_sumUpTo : GoodIn wsX4_ratio (wsV RX4 152 RX4 yX4_sumUpTo wsX4_sumUpTo) := goodIn_app (goodIn_of _ (by decide +kernel)) ggX4_ratio_X4_sumUpTo
set_option maxRecDepth 20000 in
theorem ggX4_ratio_X4_guardOf : GoodIn wsX4_ratio wsX4_guardOf := goodIn_r _ [26, 1, 27, 28, 19, 20, 21, 6, 22, 18, 32, 33, 34, 35, 36, 37, 38, 39, 40, 41, 42, 43, 44, 45, 46, 47, 48, 49, 50] (by decide +kernel) (by decide +kernel)
set_option maxRecDepth 20000 in
theorem gX4_ratio_X4_guardOf : GoodIn wsX4_ratio (wsV RX4 156 RX4 yX4_guardOf wsX4_guardOf) := goodIn_app (goodIn_of _ (by decide +kernel)) ggX4_ratio_X4_guardOf
set_option maxRecDepth 20000 in
theorem ggX4_ratio_X4_inLowestTerms : GoodIn wsX4_ratio wsX4_inLowestTerms := goodIn_r _ [31] (by decide +kernel) (by decide +kernel)
set_option maxRecDepth 20000 in
theorem gX4_ratio_X4_inLowestTerms : GoodIn wsX4_ratio (va_wsS RX4 160 yX4_inLowestTerms wsX4_inLowestTerms) := goodIn_app (goodIn_of _ (by decide +kernel)) ggX4_ratio_X4_inLowestTerms
theorem dX4_ratio_0 : decode cX4_ratio 0 = .ok (.aload_n 0, 1) := by decide +kernel
theorem dX4_ratio_1 : decode cX4_ratio 1 = .ok (.iload_n 1, 1) := by decide +kernel
theorem dX4_ratio_2 : decode cX4_ratio 2 = .ok (.invokevirtual 97, 3) := by decide +kernel
theorem dX4_ratio_5 : decode cX4_ratio 5 = .ok (.aload_n 0, 1) := by decide +kernel
theorem dX4_ratio_6 : decode cX4_ratio 6 = .ok (.iload_n 2, 1) := by decide +kernel
theorem dX4_ratio_7 : decode cX4_ratio 7 = .ok (.invokevirtual 100, 3) := by decide +kernel
theorem dX4_ratio_10 : decode cX4_ratio 10 = .ok (.iload_n 3, 1) := by decide +kernel
theorem dX4_ratio_11 : decode cX4_ratio 11 = .ok (.iconst 2, 1) := by decide +kernel
theorem dX4_ratio_12 : decode cX4_ratio 12 = .ok (.invokestatic 148, 3) := by decide +kernel
theorem dX4_ratio_15 : decode cX4_ratio 15 = .ok (.aload_n 0, 1) := by decide +kernel
theorem dX4_ratio_16 : decode cX4_ratio 16 = .ok (.getfield 22, 3) := by decide +kernel
theorem dX4_ratio_19 : decode cX4_ratio 19 = .ok (.iload_n 1, 1) := by decide +kernel
theorem dX4_ratio_20 : decode cX4_ratio 20 = .ok (.laload, 1) := by decide +kernel
theorem dX4_ratio_21 : decode cX4_ratio 21 = .ok (.lconst 0, 1) := by decide +kernel
theorem dX4_ratio_22 : decode cX4_ratio 22 = .ok (.lcmp, 1) := by decide +kernel
theorem dX4_ratio_23 : decode cX4_ratio 23 = .ok (.ifCond .ne 6, 3) := by decide +kernel
theorem dX4_ratio_26 : decode cX4_ratio 26 = .ok (.iload_n 3, 1) := by decide +kernel
theorem dX4_ratio_27 : decode cX4_ratio 27 = .ok (.i2l, 1) := by decide +kernel
theorem dX4_ratio_28 : decode cX4_ratio 28 = .ok (.lreturn, 1) := by decide +kernel
theorem dX4_ratio_29 : decode cX4_ratio 29 = .ok (.aload_n 0, 1) := by decide +kernel
theorem dX4_ratio_30 : decode cX4_ratio 30 = .ok (.aload_n 0, 1) := by decide +kernel
theorem dX4_ratio_31 : decode cX4_ratio 31 = .ok (.getfield 45, 3) := by decide +kernel
theorem dX4_ratio_34 : decode cX4_ratio 34 = .ok (.iload_n 1, 1) := by decide +kernel
theorem dX4_ratio_35 : decode cX4_ratio 35 = .ok (.iload_n 2, 1) := by decide +kernel
theorem dX4_ratio_36 : decode cX4_ratio 36 = .ok (.invokevirtual 152, 3) := by decide +kernel
theorem dX4_ratio_39 : decode cX4_ratio 39 = .ok (.aload_n 0, 1) := by decide +kernel
theorem dX4_ratio_40 : decode cX4_ratio 40 = .ok (.iload_n 1, 1) := by decide +kernel
theorem dX4_ratio_41 : decode cX4_ratio 41 = .ok (.iload_n 2, 1) := by decide +kernel
theorem dX4_ratio_42 : decode cX4_ratio 42 = .ok (.invokevirtual 156, 3) := by decide +kernel
theorem dX4_ratio_45 : decode cX4_ratio 45 = .ok (.iload_n 3, 1) := by decide +kernel
theorem dX4_ratio_46 : decode cX4_ratio 46 = .ok (.invokestatic 160, 3) := by decide +kernel
theorem dX4_ratio_49 : decode cX4_ratio 49 = .ok (.lreturn, 1) := by decide +kernel
set_option maxRecDepth 20000 in
theorem ggX4_limit_X4_checkLayer : GoodIn wsX4_limit wsX4_checkLayer := goodIn_ca (goodIn_r _ [10, 11, 12, 13, 9, 14, 15, 16, 17, 18, 19, 20, 21, 22, 23, 24, 25, 26, 27, 28, 29, 30, 31, 32, 33, 34, 35] (by decide +kernel) (by decide +kernel)) (goodIn_sub (fun _ h => List.mem_cons_of_mem _ (List.mem_append_right _ h)) (by decide +kernel))
set_option maxRecDepth 20000 in
theorem gX4_limit_X4_checkLayer : GoodIn wsX4_limit (wsV RX4 100 RX4 yX4_checkLayer wsX4_checkLayer) := goodIn_app (goodIn_of _ (by decide +kernel)) ggX4_limit_X4_checkLayer
theorem dX4_limit_0 : decode cX4_limit 0 = .ok (.aload_n 0, 1) := by decide +kernel
theorem dX4_limit_1 : decode cX4_limit 1 = .ok (.iload_n 1, 1) := by decide +kernel
theorem dX4_limit_2 : decode cX4_limit 2 = .ok (.invokevirtual 100, 3) := by decide +kernel
theorem dX4_limit_5 : decode cX4_limit 5 = .ok (.lload_n 2, 1) := by decide +kernel
theorem dX4_limit_6 : decode cX4_limit 6 = .ok (.lconst 0, 1) := by decide +kernel
theorem dX4_limit_7 : decode cX4_limit 7 = .ok (.lcmp, 1) := by decide +kernel
theorem dX4_limit_8 : decode cX4_limit 8 = .ok (.ifCond .lt 27, 3) := by decide +kernel
theorem dX4_limit_11 : decode cX4_limit 11 = .ok (.lload_n 2, 1) := by decide +kernel
theorem dX4_limit_12 : decode cX4_limit 12 = .ok (.ldc2_w 164, 3) := by decide +kernel
theorem dX4_limit_15 : decode cX4_limit 15 = .ok (.lcmp, 1) := by decide +kernel
theorem dX4_limit_16 : decode cX4_limit 16 = .ok (.ifCond .gt 19, 3) := by decide +kernel
theorem dX4_limit_19 : decode cX4_limit 19 = .ok (.lload 4, 2) := by decide +kernel
theorem dX4_limit_21 : decode cX4_limit 21 = .ok (.lconst 1, 1) := by decide +kernel
theorem dX4_limit_22 : decode cX4_limit 22 = .ok (.lcmp, 1) := by decide +kernel
theorem dX4_limit_23 : decode cX4_limit 23 = .ok (.ifCond .lt 12, 3) := by decide +kernel
theorem dX4_limit_26 : decode cX4_limit 26 = .ok (.lload 4, 2) := by decide +kernel
theorem dX4_limit_28 : decode cX4_limit 28 = .ok (.ldc2_w 164, 3) := by decide +kernel
theorem dX4_limit_31 : decode cX4_limit 31 = .ok (.lcmp, 1) := by decide +kernel
theorem dX4_limit_32 : decode cX4_limit 32 = .ok (.ifCond .le 13, 3) := by decide +kernel
theorem dX4_limit_35 : decode cX4_limit 35 = .ok (.new 110, 3) := by decide +kernel
theorem dX4_limit_38 : decode cX4_limit 38 = .ok (.dup, 1) := by decide +kernel
theorem dX4_limit_39 : decode cX4_limit 39 = .ok (.ldc 166, 2) := by decide +kernel
theorem dX4_limit_41 : decode cX4_limit 41 = .ok (.invokespecial 114, 3) := by decide +kernel
