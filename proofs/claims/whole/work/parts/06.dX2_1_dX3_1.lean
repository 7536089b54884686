theorem dX2_init_0 : decode cX2_init 0 = .ok (.aload_n 0, 1) := by decide +kernel
theorem dX2_init_1 : decode cX2_init 1 = .ok (.invokespecial 3, 3) := by decide +kernel
theorem dX2_init_4 : decode cX2_init 4 = .ok (.aload_n 0, 1) := by decide +kernel
theorem dX2_init_5 : decode cX2_init 5 = .ok (.bipush 50, 2) := by decide +kernel
theorem dX2_init_7 : decode cX2_init 7 = .ok (.newarray .long, 2) := by decide +kernel
theorem dX2_init_9 : decode cX2_init 9 = .ok (.putfield 11, 3) := by decide +kernel
theorem dX2_init_12 : decode cX2_init 12 = .ok (.return_, 1) := by decide +kernel
theorem dX2_open_0 : decode cX2_open 0 = .ok (.aload_n 0, 1) := by decide +kernel
theorem dX2_open_1 : decode cX2_open 1 = .ok (.iload_n 1, 1) := by decide +kernel
theorem dX2_open_2 : decode cX2_open 2 = .ok (.putfield 15, 3) := by decide +kernel
theorem dX2_open_5 : decode cX2_open 5 = .ok (.aload_n 0, 1) := by decide +kernel
theorem dX2_open_6 : decode cX2_open 6 = .ok (.iload_n 2, 1) := by decide +kernel
theorem dX2_open_7 : decode cX2_open 7 = .ok (.putfield 19, 3) := by decide +kernel
theorem dX2_open_10 : decode cX2_open 10 = .ok (.aload_n 0, 1) := by decide +kernel
theorem dX2_open_11 : decode cX2_open 11 = .ok (.iload_n 3, 1) := by decide +kernel
theorem dX2_open_12 : decode cX2_open 12 = .ok (.putfield 22, 3) := by decide +kernel
theorem dX2_open_15 : decode cX2_open 15 = .ok (.aload_n 0, 1) := by decide +kernel
theorem dX2_open_16 : decode cX2_open 16 = .ok (.iconst 1, 1) := by decide +kernel
theorem dX2_open_17 : decode cX2_open 17 = .ok (.iload 4, 2) := by decide +kernel
theorem dX2_open_19 : decode cX2_open 19 = .ok (.invokestatic 25, 3) := by decide +kernel
theorem dX2_open_22 : decode cX2_open 22 = .ok (.putfield 31, 3) := by decide +kernel
theorem dX2_open_25 : decode cX2_open 25 = .ok (.aload_n 0, 1) := by decide +kernel
theorem dX2_open_26 : decode cX2_open 26 = .ok (.bipush 50, 2) := by decide +kernel
theorem dX2_open_28 : decode cX2_open 28 = .ok (.sipush 200, 3) := by decide +kernel
theorem dX2_open_31 : decode cX2_open 31 = .ok (.iload_n 3, 1) := by decide +kernel
theorem dX2_open_32 : decode cX2_open 32 = .ok (.isub, 1) := by decide +kernel
theorem dX2_open_33 : decode cX2_open 33 = .ok (.aload_n 0, 1) := by decide +kernel
theorem dX2_open_34 : decode cX2_open 34 = .ok (.getfield 31, 3) := by decide +kernel
theorem dX2_open_37 : decode cX2_open 37 = .ok (.idiv, 1) := by decide +kernel
theorem dX2_open_38 : decode cX2_open 38 = .ok (.iconst 1, 1) := by decide +kernel
theorem dX2_open_39 : decode cX2_open 39 = .ok (.iadd, 1) := by decide +kernel
theorem dX2_open_40 : decode cX2_open 40 = .ok (.invokestatic 34, 3) := by decide +kernel
theorem dX2_open_43 : decode cX2_open 43 = .ok (.putfield 37, 3) := by decide +kernel
theorem dX2_open_46 : decode cX2_open 46 = .ok (.iconst 0, 1) := by decide +kernel
theorem dX2_open_47 : decode cX2_open 47 = .ok (.istore 5, 2) := by decide +kernel
theorem dX2_open_49 : decode cX2_open 49 = .ok (.iload 5, 2) := by decide +kernel
theorem dX2_open_51 : decode cX2_open 51 = .ok (.bipush 50, 2) := by decide +kernel
theorem dX2_open_53 : decode cX2_open 53 = .ok (.if_icmp .ge 17, 3) := by decide +kernel
theorem dX2_open_56 : decode cX2_open 56 = .ok (.aload_n 0, 1) := by decide +kernel
theorem dX2_open_57 : decode cX2_open 57 = .ok (.getfield 11, 3) := by decide +kernel
theorem dX2_open_60 : decode cX2_open 60 = .ok (.iload 5, 2) := by decide +kernel
theorem dX2_open_62 : decode cX2_open 62 = .ok (.lconst 0, 1) := by decide +kernel
theorem dX2_open_63 : decode cX2_open 63 = .ok (.lastore, 1) := by decide +kernel
theorem dX2_open_64 : decode cX2_open 64 = .ok (.iinc 5 1, 3) := by decide +kernel
theorem dX2_open_67 : decode cX2_open 67 = .ok (.goto (-18), 3) := by decide +kernel
theorem dX2_open_70 : decode cX2_open 70 = .ok (.return_, 1) := by decide +kernel
set_option maxRecDepth 20000 in
theorem ggX2_closeAround_X2_firstTouching : GoodIn wsX2_closeAround wsX2_firstTouching := goodIn_r _ [15, 16, 17, 18, 19, 20, 21, 22, 23, 24, 25, 41, 42, 43, 44, 45, 46] (by decide +kernel) (by decide +kernel)
set_option maxRecDepth 20000 in
theorem gX2_closeAround_X2_firstTouching : GoodIn wsX2_closeAround (wsV RX2 52 RX2 yX2_firstTouching wsX2_firstTouching) := goodIn_app (goodIn_of _ (by decide +kernel)) ggX2_closeAround_X2_firstTouching
set_option maxRecDepth 20000 in
theorem ggX2_closeAround_X2_lastTouching : GoodIn wsX2_closeAround wsX2_lastTouching := goodIn_r _ [29, 30, 17, 31, 32, 20, 33, 22, 23, 24, 25, 41, 42, 43, 44, 45, 46] (by decide +kernel) (by decide +kernel)
set_option maxRecDepth 20000 in
theorem gX2_closeAround_X2_lastTouching : GoodIn wsX2_closeAround (wsV RX2 58 RX2 yX2_lastTouching wsX2_lastTouching) := goodIn_app (goodIn_of _ (by decide +kernel)) ggX2_closeAround_X2_lastTouching
theorem dX2_closeAround_0 : decode cX2_closeAround 0 = .ok (.iconst 0, 1) := by decide +kernel
theorem dX2_closeAround_1 : decode cX2_closeAround 1 = .ok (.istore 4, 2) := by decide +kernel
theorem dX2_closeAround_3 : decode cX2_closeAround 3 = .ok (.iload 4, 2) := by decide +kernel
theorem dX2_closeAround_5 : decode cX2_closeAround 5 = .ok (.aload_n 1, 1) := by decide +kernel
theorem dX2_closeAround_6 : decode cX2_closeAround 6 = .ok (.getfield 40, 3) := by decide +kernel
theorem dX2_closeAround_9 : decode cX2_closeAround 9 = .ok (.if_icmp .ge 146, 3) := by decide +kernel
theorem dX2_closeAround_12 : decode cX2_closeAround 12 = .ok (.aload_n 1, 1) := by decide +kernel
theorem dX2_closeAround_13 : decode cX2_closeAround 13 = .ok (.getfield 45, 3) := by decide +kernel
theorem dX2_closeAround_16 : decode cX2_closeAround 16 = .ok (.iload 4, 2) := by decide +kernel
theorem dX2_closeAround_18 : decode cX2_closeAround 18 = .ok (.iaload, 1) := by decide +kernel
theorem dX2_closeAround_19 : decode cX2_closeAround 19 = .ok (.iload_n 2, 1) := by decide +kernel
theorem dX2_closeAround_20 : decode cX2_closeAround 20 = .ok (.if_icmp .ne 129, 3) := by decide +kernel
theorem dX2_closeAround_23 : decode cX2_closeAround 23 = .ok (.aload_n 0, 1) := by decide +kernel
theorem dX2_closeAround_24 : decode cX2_closeAround 24 = .ok (.aload_n 1, 1) := by decide +kernel
theorem dX2_closeAround_25 : decode cX2_closeAround 25 = .ok (.getfield 49, 3) := by decide +kernel
theorem dX2_closeAround_28 : decode cX2_closeAround 28 = .ok (.iload 4, 2) := by decide +kernel
theorem dX2_closeAround_30 : decode cX2_closeAround 30 = .ok (.iaload, 1) := by decide +kernel
theorem dX2_closeAround_31 : decode cX2_closeAround 31 = .ok (.aload_n 0, 1) := by decide +kernel
theorem dX2_closeAround_32 : decode cX2_closeAround 32 = .ok (.getfield 15, 3) := by decide +kernel
theorem dX2_closeAround_35 : decode cX2_closeAround 35 = .ok (.isub, 1) := by decide +kernel
theorem dX2_closeAround_36 : decode cX2_closeAround 36 = .ok (.iload_n 3, 1) := by decide +kernel
theorem dX2_closeAround_37 : decode cX2_closeAround 37 = .ok (.invokevirtual 52, 3) := by decide +kernel
theorem dX2_closeAround_40 : decode cX2_closeAround 40 = .ok (.istore 5, 2) := by decide +kernel
theorem dX2_closeAround_42 : decode cX2_closeAround 42 = .ok (.aload_n 0, 1) := by decide +kernel
theorem dX2_closeAround_43 : decode cX2_closeAround 43 = .ok (.aload_n 1, 1) := by decide +kernel
theorem dX2_closeAround_44 : decode cX2_closeAround 44 = .ok (.getfield 55, 3) := by decide +kernel
theorem dX2_closeAround_47 : decode cX2_closeAround 47 = .ok (.iload 4, 2) := by decide +kernel
theorem dX2_closeAround_49 : decode cX2_closeAround 49 = .ok (.iaload, 1) := by decide +kernel
theorem dX2_closeAround_50 : decode cX2_closeAround 50 = .ok (.aload_n 0, 1) := by decide +kernel
theorem dX2_closeAround_51 : decode cX2_closeAround 51 = .ok (.getfield 15, 3) := by decide +kernel
theorem dX2_closeAround_54 : decode cX2_closeAround 54 = .ok (.isub, 1) := by decide +kernel
theorem dX2_closeAround_55 : decode cX2_closeAround 55 = .ok (.iload_n 3, 1) := by decide +kernel
theorem dX2_closeAround_56 : decode cX2_closeAround 56 = .ok (.invokevirtual 58, 3) := by decide +kernel
theorem dX2_closeAround_59 : decode cX2_closeAround 59 = .ok (.istore 6, 2) := by decide +kernel
theorem dX2_closeAround_61 : decode cX2_closeAround 61 = .ok (.aload_n 0, 1) := by decide +kernel
theorem dX2_closeAround_62 : decode cX2_closeAround 62 = .ok (.aload_n 1, 1) := by decide +kernel
theorem dX2_closeAround_63 : decode cX2_closeAround 63 = .ok (.getfield 61, 3) := by decide +kernel
theorem dX2_closeAround_66 : decode cX2_closeAround 66 = .ok (.iload 4, 2) := by decide +kernel
theorem dX2_closeAround_68 : decode cX2_closeAround 68 = .ok (.iaload, 1) := by decide +kernel
theorem dX2_closeAround_69 : decode cX2_closeAround 69 = .ok (.aload_n 0, 1) := by decide +kernel
theorem dX2_closeAround_70 : decode cX2_closeAround 70 = .ok (.getfield 19, 3) := by decide +kernel
theorem dX2_closeAround_73 : decode cX2_closeAround 73 = .ok (.isub, 1) := by decide +kernel
theorem dX2_closeAround_74 : decode cX2_closeAround 74 = .ok (.iload_n 3, 1) := by decide +kernel
theorem dX2_closeAround_75 : decode cX2_closeAround 75 = .ok (.invokevirtual 58, 3) := by decide +kernel
theorem dX2_closeAround_78 : decode cX2_closeAround 78 = .ok (.istore 7, 2) := by decide +kernel
theorem dX2_closeAround_80 : decode cX2_closeAround 80 = .ok (.iload 5, 2) := by decide +kernel
theorem dX2_closeAround_82 : decode cX2_closeAround 82 = .ok (.iload 6, 2) := by decide +kernel
theorem dX2_closeAround_84 : decode cX2_closeAround 84 = .ok (.if_icmp .gt 65, 3) := by decide +kernel
theorem dX2_closeAround_87 : decode cX2_closeAround 87 = .ok (.ldc2_w 64, 3) := by decide +kernel
theorem dX2_closeAround_90 : decode cX2_closeAround 90 = .ok (.iload 5, 2) := by decide +kernel
theorem dX2_closeAround_92 : decode cX2_closeAround 92 = .ok (.lshl, 1) := by decide +kernel
theorem dX2_closeAround_93 : decode cX2_closeAround 93 = .ok (.ldc2_w 64, 3) := by decide +kernel
theorem dX2_closeAround_96 : decode cX2_closeAround 96 = .ok (.bipush 63, 2) := by decide +kernel
theorem dX2_closeAround_98 : decode cX2_closeAround 98 = .ok (.iload 6, 2) := by decide +kernel
theorem dX2_closeAround_100 : decode cX2_closeAround 100 = .ok (.isub, 1) := by decide +kernel
theorem dX2_closeAround_101 : decode cX2_closeAround 101 = .ok (.lushr, 1) := by decide +kernel
theorem dX2_closeAround_102 : decode cX2_closeAround 102 = .ok (.land, 1) := by decide +kernel
theorem dX2_closeAround_103 : decode cX2_closeAround 103 = .ok (.lstore 8, 2) := by decide +kernel
theorem dX2_closeAround_105 : decode cX2_closeAround 105 = .ok (.aload_n 0, 1) := by decide +kernel
theorem dX2_closeAround_106 : decode cX2_closeAround 106 = .ok (.aload_n 1, 1) := by decide +kernel
theorem dX2_closeAround_107 : decode cX2_closeAround 107 = .ok (.getfield 66, 3) := by decide +kernel
theorem dX2_closeAround_110 : decode cX2_closeAround 110 = .ok (.iload 4, 2) := by decide +kernel
theorem dX2_closeAround_112 : decode cX2_closeAround 112 = .ok (.iaload, 1) := by decide +kernel
theorem dX2_closeAround_113 : decode cX2_closeAround 113 = .ok (.aload_n 0, 1) := by decide +kernel
theorem dX2_closeAround_114 : decode cX2_closeAround 114 = .ok (.getfield 19, 3) := by decide +kernel
theorem dX2_closeAround_117 : decode cX2_closeAround 117 = .ok (.isub, 1) := by decide +kernel
theorem dX2_closeAround_118 : decode cX2_closeAround 118 = .ok (.iload_n 3, 1) := by decide +kernel
theorem dX2_closeAround_119 : decode cX2_closeAround 119 = .ok (.invokevirtual 52, 3) := by decide +kernel
theorem dX2_closeAround_122 : decode cX2_closeAround 122 = .ok (.istore 10, 2) := by decide +kernel
theorem dX2_closeAround_124 : decode cX2_closeAround 124 = .ok (.iload 10, 2) := by decide +kernel
theorem dX2_closeAround_126 : decode cX2_closeAround 126 = .ok (.iload 7, 2) := by decide +kernel
theorem dX2_closeAround_128 : decode cX2_closeAround 128 = .ok (.if_icmp .gt 21, 3) := by decide +kernel
theorem dX2_closeAround_131 : decode cX2_closeAround 131 = .ok (.aload_n 0, 1) := by decide +kernel
theorem dX2_closeAround_132 : decode cX2_closeAround 132 = .ok (.getfield 11, 3) := by decide +kernel
theorem dX2_closeAround_135 : decode cX2_closeAround 135 = .ok (.iload 10, 2) := by decide +kernel
theorem dX2_closeAround_137 : decode cX2_closeAround 137 = .ok (.dup2, 1) := by decide +kernel
theorem dX2_closeAround_138 : decode cX2_closeAround 138 = .ok (.laload, 1) := by decide +kernel
theorem dX2_closeAround_139 : decode cX2_closeAround 139 = .ok (.lload 8, 2) := by decide +kernel
theorem dX2_closeAround_141 : decode cX2_closeAround 141 = .ok (.lor, 1) := by decide +kernel
theorem dX2_closeAround_142 : decode cX2_closeAround 142 = .ok (.lastore, 1) := by decide +kernel
theorem dX2_closeAround_143 : decode cX2_closeAround 143 = .ok (.iinc 10 1, 3) := by decide +kernel
theorem dX2_closeAround_146 : decode cX2_closeAround 146 = .ok (.goto (-22), 3) := by decide +kernel
theorem dX2_closeAround_149 : decode cX2_closeAround 149 = .ok (.iinc 4 1, 3) := by decide +kernel
theorem dX2_closeAround_152 : decode cX2_closeAround 152 = .ok (.goto (-149), 3) := by decide +kernel
theorem dX2_closeAround_155 : decode cX2_closeAround 155 = .ok (.return_, 1) := by decide +kernel
theorem dX2_isOpen_0 : decode cX2_isOpen 0 = .ok (.aload_n 0, 1) := by decide +kernel
theorem dX2_isOpen_1 : decode cX2_isOpen 1 = .ok (.getfield 11, 3) := by decide +kernel
theorem dX2_isOpen_4 : decode cX2_isOpen 4 = .ok (.iload_n 2, 1) := by decide +kernel
theorem dX2_isOpen_5 : decode cX2_isOpen 5 = .ok (.laload, 1) := by decide +kernel
theorem dX2_isOpen_6 : decode cX2_isOpen 6 = .ok (.iload_n 1, 1) := by decide +kernel
theorem dX2_isOpen_7 : decode cX2_isOpen 7 = .ok (.lshr, 1) := by decide +kernel
theorem dX2_isOpen_8 : decode cX2_isOpen 8 = .ok (.lconst 1, 1) := by decide +kernel
theorem dX2_isOpen_9 : decode cX2_isOpen 9 = .ok (.land, 1) := by decide +kernel
theorem dX2_isOpen_10 : decode cX2_isOpen 10 = .ok (.lconst 0, 1) := by decide +kernel
theorem dX2_isOpen_11 : decode cX2_isOpen 11 = .ok (.lcmp, 1) := by decide +kernel
theorem dX2_isOpen_12 : decode cX2_isOpen 12 = .ok (.ifCond .ne 7, 3) := by decide +kernel
theorem dX2_isOpen_15 : decode cX2_isOpen 15 = .ok (.iconst 1, 1) := by decide +kernel
theorem dX2_isOpen_16 : decode cX2_isOpen 16 = .ok (.goto 4, 3) := by decide +kernel
theorem dX2_isOpen_19 : decode cX2_isOpen 19 = .ok (.iconst 0, 1) := by decide +kernel
theorem dX2_isOpen_20 : decode cX2_isOpen 20 = .ok (.ireturn, 1) := by decide +kernel
set_option maxRecDepth 20000 in
theorem ggX2_firstTouching_J9_floorDiv_7cf53 : GoodIn wsX2_firstTouching wsJ9_floorDiv_7cf53 := goodIn_r _ [10] (by decide +kernel) (by decide +kernel)
set_option maxRecDepth 20000 in
theorem gX2_firstTouching_J9_floorDiv_7cf53 : GoodIn wsX2_firstTouching (va_wsS RX2 69 yJ9_floorDiv_7cf53 wsJ9_floorDiv_7cf53) := goodIn_app (goodIn_of _ (by decide +kernel)) ggX2_firstTouching_J9_floorDiv_7cf53
theorem dX2_firstTouching_0 : decode cX2_firstTouching 0 = .ok (.iconst 0, 1) := by decide +kernel
theorem dX2_firstTouching_1 : decode cX2_firstTouching 1 = .ok (.iload_n 1, 1) := by decide +kernel
theorem dX2_firstTouching_2 : decode cX2_firstTouching 2 = .ok (.iload_n 2, 1) := by decide +kernel
theorem dX2_firstTouching_3 : decode cX2_firstTouching 3 = .ok (.isub, 1) := by decide +kernel
theorem dX2_firstTouching_4 : decode cX2_firstTouching 4 = .ok (.aload_n 0, 1) := by decide +kernel
theorem dX2_firstTouching_5 : decode cX2_firstTouching 5 = .ok (.getfield 22, 3) := by decide +kernel
theorem dX2_firstTouching_8 : decode cX2_firstTouching 8 = .ok (.isub, 1) := by decide +kernel
theorem dX2_firstTouching_9 : decode cX2_firstTouching 9 = .ok (.aload_n 0, 1) := by decide +kernel
theorem dX2_firstTouching_10 : decode cX2_firstTouching 10 = .ok (.getfield 31, 3) := by decide +kernel
theorem dX2_firstTouching_13 : decode cX2_firstTouching 13 = .ok (.invokestatic 69, 3) := by decide +kernel
theorem dX2_firstTouching_16 : decode cX2_firstTouching 16 = .ok (.iconst 1, 1) := by decide +kernel
theorem dX2_firstTouching_17 : decode cX2_firstTouching 17 = .ok (.iadd, 1) := by decide +kernel
theorem dX2_firstTouching_18 : decode cX2_firstTouching 18 = .ok (.invokestatic 25, 3) := by decide +kernel
theorem dX2_firstTouching_21 : decode cX2_firstTouching 21 = .ok (.ireturn, 1) := by decide +kernel
set_option maxRecDepth 20000 in
theorem ggX2_lastTouching_J9_floorDiv_7cf53 : GoodIn wsX2_lastTouching wsJ9_floorDiv_7cf53 := goodIn_r _ [10] (by decide +kernel) (by decide +kernel)
set_option maxRecDepth 20000 in
theorem gX2_lastTouching_J9_floorDiv_7cf53 : GoodIn wsX2_lastTouching (va_wsS RX2 69 yJ9_floorDiv_7cf53 wsJ9_floorDiv_7cf53) := goodIn_app (goodIn_of _ (by decide +kernel)) ggX2_lastTouching_J9_floorDiv_7cf53
theorem dX2_lastTouching_0 : decode cX2_lastTouching 0 = .ok (.aload_n 0, 1) := by decide +kernel
theorem dX2_lastTouching_1 : decode cX2_lastTouching 1 = .ok (.getfield 37, 3) := by decide +kernel
theorem dX2_lastTouching_4 : decode cX2_lastTouching 4 = .ok (.iconst 1, 1) := by decide +kernel
theorem dX2_lastTouching_5 : decode cX2_lastTouching 5 = .ok (.isub, 1) := by decide +kernel
theorem dX2_lastTouching_6 : decode cX2_lastTouching 6 = .ok (.iload_n 1, 1) := by decide +kernel
theorem dX2_lastTouching_7 : decode cX2_lastTouching 7 = .ok (.iload_n 2, 1) := by decide +kernel
theorem dX2_lastTouching_8 : decode cX2_lastTouching 8 = .ok (.iadd, 1) := by decide +kernel
theorem dX2_lastTouching_9 : decode cX2_lastTouching 9 = .ok (.iconst 1, 1) := by decide +kernel
theorem dX2_lastTouching_10 : decode cX2_lastTouching 10 = .ok (.isub, 1) := by decide +kernel
theorem dX2_lastTouching_11 : decode cX2_lastTouching 11 = .ok (.aload_n 0, 1) := by decide +kernel
theorem dX2_lastTouching_12 : decode cX2_lastTouching 12 = .ok (.getfield 31, 3) := by decide +kernel
theorem dX2_lastTouching_15 : decode cX2_lastTouching 15 = .ok (.invokestatic 69, 3) := by decide +kernel
theorem dX2_lastTouching_18 : decode cX2_lastTouching 18 = .ok (.invokestatic 34, 3) := by decide +kernel
theorem dX2_lastTouching_21 : decode cX2_lastTouching 21 = .ok (.ireturn, 1) := by decide +kernel
theorem dX3_init_0 : decode cX3_init 0 = .ok (.aload_n 0, 1) := by decide +kernel
theorem dX3_init_1 : decode cX3_init 1 = .ok (.invokespecial 3, 3) := by decide +kernel
theorem dX3_init_4 : decode cX3_init 4 = .ok (.aload_n 0, 1) := by decide +kernel
theorem dX3_init_5 : decode cX3_init 5 = .ok (.sipush 16000, 3) := by decide +kernel
theorem dX3_init_8 : decode cX3_init 8 = .ok (.newarray .long, 2) := by decide +kernel
theorem dX3_init_10 : decode cX3_init 10 = .ok (.putfield 11, 3) := by decide +kernel
theorem dX3_init_13 : decode cX3_init 13 = .ok (.return_, 1) := by decide +kernel
theorem dX3_openAll_0 : decode cX3_openAll 0 = .ok (.iconst 0, 1) := by decide +kernel
theorem dX3_openAll_1 : decode cX3_openAll 1 = .ok (.istore_n 1, 1) := by decide +kernel
theorem dX3_openAll_2 : decode cX3_openAll 2 = .ok (.iload_n 1, 1) := by decide +kernel
theorem dX3_openAll_3 : decode cX3_openAll 3 = .ok (.aload_n 0, 1) := by decide +kernel
theorem dX3_openAll_4 : decode cX3_openAll 4 = .ok (.getfield 11, 3) := by decide +kernel
theorem dX3_openAll_7 : decode cX3_openAll 7 = .ok (.arraylength, 1) := by decide +kernel
theorem dX3_openAll_8 : decode cX3_openAll 8 = .ok (.if_icmp .ge 16, 3) := by decide +kernel
theorem dX3_openAll_11 : decode cX3_openAll 11 = .ok (.aload_n 0, 1) := by decide +kernel
theorem dX3_openAll_12 : decode cX3_openAll 12 = .ok (.getfield 11, 3) := by decide +kernel
theorem dX3_openAll_15 : decode cX3_openAll 15 = .ok (.iload_n 1, 1) := by decide +kernel
theorem dX3_openAll_16 : decode cX3_openAll 16 = .ok (.lconst 0, 1) := by decide +kernel
theorem dX3_openAll_17 : decode cX3_openAll 17 = .ok (.lastore, 1) := by decide +kernel
theorem dX3_openAll_18 : decode cX3_openAll 18 = .ok (.iinc 1 1, 3) := by decide +kernel
theorem dX3_openAll_21 : decode cX3_openAll 21 = .ok (.goto (-19), 3) := by decide +kernel
theorem dX3_openAll_24 : decode cX3_openAll 24 = .ok (.return_, 1) := by decide +kernel
set_option maxRecDepth 20000 in
theorem ggX3_closeAroundAll_X3_closeAround : GoodIn wsX3_closeAroundAll wsX3_closeAround := goodIn_r _ [11, 12, 13, 14, 10, 15, 16, 17, 18, 19, 20, 21, 22, 23, 24, 25, 26, 27, 28, 29, 37, 38] (by decide +kernel) (by decide +kernel)
set_option maxRecDepth 20000 in
theorem gX3_closeAroundAll_X3_closeAround : GoodIn wsX3_closeAroundAll (wsV RX3 37 RX3 yX3_closeAround wsX3_closeAround) := goodIn_app (goodIn_of _ (by decide +kernel)) ggX3_closeAroundAll_X3_closeAround
theorem dX3_closeAroundAll_0 : decode cX3_closeAroundAll 0 = .ok (.iconst 0, 1) := by decide +kernel
theorem dX3_closeAroundAll_1 : decode cX3_closeAroundAll 1 = .ok (.istore_n 2, 1) := by decide +kernel
theorem dX3_closeAroundAll_2 : decode cX3_closeAroundAll 2 = .ok (.iload_n 2, 1) := by decide +kernel
theorem dX3_closeAroundAll_3 : decode cX3_closeAroundAll 3 = .ok (.aload_n 1, 1) := by decide +kernel
theorem dX3_closeAroundAll_4 : decode cX3_closeAroundAll 4 = .ok (.getfield 15, 3) := by decide +kernel
theorem dX3_closeAroundAll_7 : decode cX3_closeAroundAll 7 = .ok (.if_icmp .ge 46, 3) := by decide +kernel
theorem dX3_closeAroundAll_10 : decode cX3_closeAroundAll 10 = .ok (.aload_n 1, 1) := by decide +kernel
theorem dX3_closeAroundAll_11 : decode cX3_closeAroundAll 11 = .ok (.getfield 21, 3) := by decide +kernel
theorem dX3_closeAroundAll_14 : decode cX3_closeAroundAll 14 = .ok (.iload_n 2, 1) := by decide +kernel
theorem dX3_closeAroundAll_15 : decode cX3_closeAroundAll 15 = .ok (.iaload, 1) := by decide +kernel
theorem dX3_closeAroundAll_16 : decode cX3_closeAroundAll 16 = .ok (.ifCond .ne 31, 3) := by decide +kernel
theorem dX3_closeAroundAll_19 : decode cX3_closeAroundAll 19 = .ok (.aload_n 0, 1) := by decide +kernel
theorem dX3_closeAroundAll_20 : decode cX3_closeAroundAll 20 = .ok (.aload_n 1, 1) := by decide +kernel
theorem dX3_closeAroundAll_21 : decode cX3_closeAroundAll 21 = .ok (.getfield 25, 3) := by decide +kernel
theorem dX3_closeAroundAll_24 : decode cX3_closeAroundAll 24 = .ok (.iload_n 2, 1) := by decide +kernel
theorem dX3_closeAroundAll_25 : decode cX3_closeAroundAll 25 = .ok (.iaload, 1) := by decide +kernel
theorem dX3_closeAroundAll_26 : decode cX3_closeAroundAll 26 = .ok (.aload_n 1, 1) := by decide +kernel
theorem dX3_closeAroundAll_27 : decode cX3_closeAroundAll 27 = .ok (.getfield 28, 3) := by decide +kernel
theorem dX3_closeAroundAll_30 : decode cX3_closeAroundAll 30 = .ok (.iload_n 2, 1) := by decide +kernel
theorem dX3_closeAroundAll_31 : decode cX3_closeAroundAll 31 = .ok (.iaload, 1) := by decide +kernel
theorem dX3_closeAroundAll_32 : decode cX3_closeAroundAll 32 = .ok (.aload_n 1, 1) := by decide +kernel
theorem dX3_closeAroundAll_33 : decode cX3_closeAroundAll 33 = .ok (.getfield 31, 3) := by decide +kernel
theorem dX3_closeAroundAll_36 : decode cX3_closeAroundAll 36 = .ok (.iload_n 2, 1) := by decide +kernel
theorem dX3_closeAroundAll_37 : decode cX3_closeAroundAll 37 = .ok (.iaload, 1) := by decide +kernel
theorem dX3_closeAroundAll_38 : decode cX3_closeAroundAll 38 = .ok (.aload_n 1, 1) := by decide +kernel
theorem dX3_closeAroundAll_39 : decode cX3_closeAroundAll 39 = .ok (.getfield 34, 3) := by decide +kernel
theorem dX3_closeAroundAll_42 : decode cX3_closeAroundAll 42 = .ok (.iload_n 2, 1) := by decide +kernel
theorem dX3_closeAroundAll_43 : decode cX3_closeAroundAll 43 = .ok (.iaload, 1) := by decide +kernel
theorem dX3_closeAroundAll_44 : decode cX3_closeAroundAll 44 = .ok (.invokevirtual 37, 3) := by decide +kernel
theorem dX3_closeAroundAll_47 : decode cX3_closeAroundAll 47 = .ok (.iinc 2 1, 3) := by decide +kernel
theorem dX3_closeAroundAll_50 : decode cX3_closeAroundAll 50 = .ok (.goto (-48), 3) := by decide +kernel
theorem dX3_closeAroundAll_53 : decode cX3_closeAroundAll 53 = .ok (.return_, 1) := by decide +kernel
set_option maxRecDepth 20000 in
theorem ggX3_closeAround_X3_firstTouching : GoodIn wsX3_closeAround wsX3_firstTouching := goodIn_r _ [5, 6, 7, 8, 9] (by decide +kernel) (by decide +kernel)
set_option maxRecDepth 20000 in
theorem gX3_closeAround_X3_firstTouching : GoodIn wsX3_closeAround (va_wsS RX3 41 yX3_firstTouching wsX3_firstTouching) := goodIn_app (goodIn_of _ (by decide +kernel)) ggX3_closeAround_X3_firstTouching
set_option maxRecDepth 20000 in
theorem ggX3_closeAround_X3_lastTouching : GoodIn wsX3_closeAround wsX3_lastTouching := goodIn_r _ [12, 13, 14, 8, 15] (by decide +kernel) (by decide +kernel)
set_option maxRecDepth 20000 in
theorem gX3_closeAround_X3_lastTouching : GoodIn wsX3_closeAround (va_wsS RX3 45 yX3_lastTouching wsX3_lastTouching) := goodIn_app (goodIn_of _ (by decide +kernel)) ggX3_closeAround_X3_lastTouching
set_option maxRecDepth 20000 in
theorem ggX3_closeAround_X3_bitsBetween : GoodIn wsX3_closeAround wsX3_bitsBetween := goodIn_r _ [18, 6, 7, 8, 9, 13, 14, 15, 19] (by decide +kernel) (by decide +kernel)
set_option maxRecDepth 20000 in
theorem gX3_closeAround_X3_bitsBetween : GoodIn wsX3_closeAround (va_wsS RX3 48 yX3_bitsBetween wsX3_bitsBetween) := goodIn_app (goodIn_of _ (by decide +kernel)) ggX3_closeAround_X3_bitsBetween
theorem dX3_closeAround_0 : decode cX3_closeAround 0 = .ok (.iload_n 1, 1) := by decide +kernel
theorem dX3_closeAround_1 : decode cX3_closeAround 1 = .ok (.iconst 2, 1) := by decide +kernel
theorem dX3_closeAround_2 : decode cX3_closeAround 2 = .ok (.invokestatic 41, 3) := by decide +kernel
theorem dX3_closeAround_5 : decode cX3_closeAround 5 = .ok (.istore 5, 2) := by decide +kernel
theorem dX3_closeAround_7 : decode cX3_closeAround 7 = .ok (.iload_n 3, 1) := by decide +kernel
theorem dX3_closeAround_8 : decode cX3_closeAround 8 = .ok (.iconst 2, 1) := by decide +kernel
theorem dX3_closeAround_9 : decode cX3_closeAround 9 = .ok (.invokestatic 45, 3) := by decide +kernel
theorem dX3_closeAround_12 : decode cX3_closeAround 12 = .ok (.istore 6, 2) := by decide +kernel
theorem dX3_closeAround_14 : decode cX3_closeAround 14 = .ok (.iload 4, 2) := by decide +kernel
theorem dX3_closeAround_16 : decode cX3_closeAround 16 = .ok (.iconst 2, 1) := by decide +kernel
theorem dX3_closeAround_17 : decode cX3_closeAround 17 = .ok (.invokestatic 45, 3) := by decide +kernel
theorem dX3_closeAround_20 : decode cX3_closeAround 20 = .ok (.istore 7, 2) := by decide +kernel
theorem dX3_closeAround_22 : decode cX3_closeAround 22 = .ok (.iload_n 2, 1) := by decide +kernel
theorem dX3_closeAround_23 : decode cX3_closeAround 23 = .ok (.iconst 2, 1) := by decide +kernel
theorem dX3_closeAround_24 : decode cX3_closeAround 24 = .ok (.invokestatic 41, 3) := by decide +kernel
theorem dX3_closeAround_27 : decode cX3_closeAround 27 = .ok (.istore 8, 2) := by decide +kernel
theorem dX3_closeAround_29 : decode cX3_closeAround 29 = .ok (.iload 8, 2) := by decide +kernel
theorem dX3_closeAround_31 : decode cX3_closeAround 31 = .ok (.iload 7, 2) := by decide +kernel
theorem dX3_closeAround_33 : decode cX3_closeAround 33 = .ok (.if_icmp .gt 57, 3) := by decide +kernel
theorem dX3_closeAround_36 : decode cX3_closeAround 36 = .ok (.iload 5, 2) := by decide +kernel
theorem dX3_closeAround_38 : decode cX3_closeAround 38 = .ok (.bipush 6, 2) := by decide +kernel
theorem dX3_closeAround_40 : decode cX3_closeAround 40 = .ok (.ishr, 1) := by decide +kernel
theorem dX3_closeAround_41 : decode cX3_closeAround 41 = .ok (.istore 9, 2) := by decide +kernel
theorem dX3_closeAround_43 : decode cX3_closeAround 43 = .ok (.iload 9, 2) := by decide +kernel
theorem dX3_closeAround_45 : decode cX3_closeAround 45 = .ok (.iload 6, 2) := by decide +kernel
theorem dX3_closeAround_47 : decode cX3_closeAround 47 = .ok (.bipush 6, 2) := by decide +kernel
theorem dX3_closeAround_49 : decode cX3_closeAround 49 = .ok (.ishr, 1) := by decide +kernel
theorem dX3_closeAround_50 : decode cX3_closeAround 50 = .ok (.if_icmp .gt 34, 3) := by decide +kernel
theorem dX3_closeAround_53 : decode cX3_closeAround 53 = .ok (.aload_n 0, 1) := by decide +kernel
theorem dX3_closeAround_54 : decode cX3_closeAround 54 = .ok (.getfield 11, 3) := by decide +kernel
theorem dX3_closeAround_57 : decode cX3_closeAround 57 = .ok (.iload 8, 2) := by decide +kernel
theorem dX3_closeAround_59 : decode cX3_closeAround 59 = .ok (.bipush 16, 2) := by decide +kernel
theorem dX3_closeAround_61 : decode cX3_closeAround 61 = .ok (.imul, 1) := by decide +kernel
theorem dX3_closeAround_62 : decode cX3_closeAround 62 = .ok (.iload 9, 2) := by decide +kernel
theorem dX3_closeAround_64 : decode cX3_closeAround 64 = .ok (.iadd, 1) := by decide +kernel
theorem dX3_closeAround_65 : decode cX3_closeAround 65 = .ok (.dup2, 1) := by decide +kernel
theorem dX3_closeAround_66 : decode cX3_closeAround 66 = .ok (.laload, 1) := by decide +kernel
theorem dX3_closeAround_67 : decode cX3_closeAround 67 = .ok (.iload 9, 2) := by decide +kernel
theorem dX3_closeAround_69 : decode cX3_closeAround 69 = .ok (.iload 5, 2) := by decide +kernel
theorem dX3_closeAround_71 : decode cX3_closeAround 71 = .ok (.iload 6, 2) := by decide +kernel
theorem dX3_closeAround_73 : decode cX3_closeAround 73 = .ok (.invokestatic 48, 3) := by decide +kernel
theorem dX3_closeAround_76 : decode cX3_closeAround 76 = .ok (.lor, 1) := by decide +kernel
theorem dX3_closeAround_77 : decode cX3_closeAround 77 = .ok (.lastore, 1) := by decide +kernel
theorem dX3_closeAround_78 : decode cX3_closeAround 78 = .ok (.iinc 9 1, 3) := by decide +kernel
theorem dX3_closeAround_81 : decode cX3_closeAround 81 = .ok (.goto (-38), 3) := by decide +kernel
theorem dX3_closeAround_84 : decode cX3_closeAround 84 = .ok (.iinc 8 1, 3) := by decide +kernel
theorem dX3_closeAround_87 : decode cX3_closeAround 87 = .ok (.goto (-58), 3) := by decide +kernel
theorem dX3_closeAround_90 : decode cX3_closeAround 90 = .ok (.return_, 1) := by decide +kernel
set_option maxRecDepth 20000 in
theorem ggX3_firstNear_X3_firstTouching : GoodIn wsX3_firstNear wsX3_firstTouching := goodIn_r _ [6, 7, 8, 9, 10] (by decide +kernel) (by decide +kernel)
set_option maxRecDepth 20000 in
theorem gX3_firstNear_X3_firstTouching : GoodIn wsX3_firstNear (va_wsS RX3 41 yX3_firstTouching wsX3_firstTouching) := goodIn_app (goodIn_of _ (by decide +kernel)) ggX3_firstNear_X3_firstTouching
set_option maxRecDepth 20000 in
theorem ggX3_firstNear_X3_lastTouching : GoodIn wsX3_firstNear wsX3_lastTouching := goodIn_r _ [13, 14, 15, 9, 16] (by decide +kernel) (by decide +kernel)
set_option maxRecDepth 20000 in
theorem gX3_firstNear_X3_lastTouching : GoodIn wsX3_firstNear (va_wsS RX3 45 yX3_lastTouching wsX3_lastTouching) := goodIn_app (goodIn_of _ (by decide +kernel)) ggX3_firstNear_X3_lastTouching
set_option maxRecDepth 20000 in
theorem ggX3_firstNear_X3_bitsBetween : GoodIn wsX3_firstNear wsX3_bitsBetween := goodIn_r _ [19, 7, 8, 9, 10, 14, 15, 16, 2] (by decide +kernel) (by decide +kernel)
set_option maxRecDepth 20000 in
theorem gX3_firstNear_X3_bitsBetween : GoodIn wsX3_firstNear (va_wsS RX3 48 yX3_bitsBetween wsX3_bitsBetween) := goodIn_app (goodIn_of _ (by decide +kernel)) ggX3_firstNear_X3_bitsBetween
set_option maxRecDepth 20000 in
theorem ggX3_firstNear_J13_numberOfTrailingZeros_95d88 : GoodIn wsX3_firstNear wsJ13_numberOfTrailingZeros_95d88 := goodIn_r _ [23, 24, 25, 26, 27, 28] (by decide +kernel) (by decide +kernel)
set_option maxRecDepth 20000 in
theorem gX3_firstNear_J13_numberOfTrailingZeros_95d88 : GoodIn wsX3_firstNear (va_wsS RX3 54 yJ13_numberOfTrailingZeros_95d88 wsJ13_numberOfTrailingZeros_95d88) := goodIn_app (goodIn_of _ (by decide +kernel)) ggX3_firstNear_J13_numberOfTrailingZeros_95d88
theorem dX3_firstNear_0 : decode cX3_firstNear 0 = .ok (.iload_n 1, 1) := by decide +kernel
theorem dX3_firstNear_1 : decode cX3_firstNear 1 = .ok (.bipush 20, 2) := by decide +kernel
theorem dX3_firstNear_3 : decode cX3_firstNear 3 = .ok (.invokestatic 41, 3) := by decide +kernel
theorem dX3_firstNear_6 : decode cX3_firstNear 6 = .ok (.istore 5, 2) := by decide +kernel
theorem dX3_firstNear_8 : decode cX3_firstNear 8 = .ok (.iload_n 3, 1) := by decide +kernel
theorem dX3_firstNear_9 : decode cX3_firstNear 9 = .ok (.bipush 20, 2) := by decide +kernel
theorem dX3_firstNear_11 : decode cX3_firstNear 11 = .ok (.invokestatic 45, 3) := by decide +kernel
theorem dX3_firstNear_14 : decode cX3_firstNear 14 = .ok (.istore 6, 2) := by decide +kernel
theorem dX3_firstNear_16 : decode cX3_firstNear 16 = .ok (.iload 4, 2) := by decide +kernel
theorem dX3_firstNear_18 : decode cX3_firstNear 18 = .ok (.bipush 20, 2) := by decide +kernel
theorem dX3_firstNear_20 : decode cX3_firstNear 20 = .ok (.invokestatic 45, 3) := by decide +kernel
theorem dX3_firstNear_23 : decode cX3_firstNear 23 = .ok (.istore 7, 2) := by decide +kernel
theorem dX3_firstNear_25 : decode cX3_firstNear 25 = .ok (.iload_n 2, 1) := by decide +kernel
theorem dX3_firstNear_26 : decode cX3_firstNear 26 = .ok (.bipush 20, 2) := by decide +kernel
theorem dX3_firstNear_28 : decode cX3_firstNear 28 = .ok (.invokestatic 41, 3) := by decide +kernel
theorem dX3_firstNear_31 : decode cX3_firstNear 31 = .ok (.istore 8, 2) := by decide +kernel
theorem dX3_firstNear_33 : decode cX3_firstNear 33 = .ok (.iload 8, 2) := by decide +kernel
theorem dX3_firstNear_35 : decode cX3_firstNear 35 = .ok (.iload 7, 2) := by decide +kernel
theorem dX3_firstNear_37 : decode cX3_firstNear 37 = .ok (.if_icmp .gt 87, 3) := by decide +kernel
theorem dX3_firstNear_40 : decode cX3_firstNear 40 = .ok (.iload 5, 2) := by decide +kernel
theorem dX3_firstNear_42 : decode cX3_firstNear 42 = .ok (.bipush 6, 2) := by decide +kernel
theorem dX3_firstNear_44 : decode cX3_firstNear 44 = .ok (.ishr, 1) := by decide +kernel
theorem dX3_firstNear_45 : decode cX3_firstNear 45 = .ok (.istore 9, 2) := by decide +kernel
theorem dX3_firstNear_47 : decode cX3_firstNear 47 = .ok (.iload 9, 2) := by decide +kernel
theorem dX3_firstNear_49 : decode cX3_firstNear 49 = .ok (.iload 6, 2) := by decide +kernel
theorem dX3_firstNear_51 : decode cX3_firstNear 51 = .ok (.bipush 6, 2) := by decide +kernel
theorem dX3_firstNear_53 : decode cX3_firstNear 53 = .ok (.ishr, 1) := by decide +kernel
theorem dX3_firstNear_54 : decode cX3_firstNear 54 = .ok (.if_icmp .gt 64, 3) := by decide +kernel
theorem dX3_firstNear_57 : decode cX3_firstNear 57 = .ok (.aload_n 0, 1) := by decide +kernel
theorem dX3_firstNear_58 : decode cX3_firstNear 58 = .ok (.getfield 11, 3) := by decide +kernel
theorem dX3_firstNear_61 : decode cX3_firstNear 61 = .ok (.iload 8, 2) := by decide +kernel
theorem dX3_firstNear_63 : decode cX3_firstNear 63 = .ok (.bipush 16, 2) := by decide +kernel
theorem dX3_firstNear_65 : decode cX3_firstNear 65 = .ok (.imul, 1) := by decide +kernel
theorem dX3_firstNear_66 : decode cX3_firstNear 66 = .ok (.iload 9, 2) := by decide +kernel
theorem dX3_firstNear_68 : decode cX3_firstNear 68 = .ok (.iadd, 1) := by decide +kernel
theorem dX3_firstNear_69 : decode cX3_firstNear 69 = .ok (.laload, 1) := by decide +kernel
theorem dX3_firstNear_70 : decode cX3_firstNear 70 = .ok (.ldc2_w 52, 3) := by decide +kernel
theorem dX3_firstNear_73 : decode cX3_firstNear 73 = .ok (.lxor, 1) := by decide +kernel
theorem dX3_firstNear_74 : decode cX3_firstNear 74 = .ok (.iload 9, 2) := by decide +kernel
theorem dX3_firstNear_76 : decode cX3_firstNear 76 = .ok (.iload 5, 2) := by decide +kernel
theorem dX3_firstNear_78 : decode cX3_firstNear 78 = .ok (.iload 6, 2) := by decide +kernel
theorem dX3_firstNear_80 : decode cX3_firstNear 80 = .ok (.invokestatic 48, 3) := by decide +kernel
theorem dX3_firstNear_83 : decode cX3_firstNear 83 = .ok (.land, 1) := by decide +kernel
theorem dX3_firstNear_84 : decode cX3_firstNear 84 = .ok (.lstore 10, 2) := by decide +kernel
theorem dX3_firstNear_86 : decode cX3_firstNear 86 = .ok (.lload 10, 2) := by decide +kernel
theorem dX3_firstNear_88 : decode cX3_firstNear 88 = .ok (.lconst 0, 1) := by decide +kernel
theorem dX3_firstNear_89 : decode cX3_firstNear 89 = .ok (.lcmp, 1) := by decide +kernel
theorem dX3_firstNear_90 : decode cX3_firstNear 90 = .ok (.ifCond .eq 22, 3) := by decide +kernel
theorem dX3_firstNear_93 : decode cX3_firstNear 93 = .ok (.iload 8, 2) := by decide +kernel
theorem dX3_firstNear_95 : decode cX3_firstNear 95 = .ok (.sipush 1000, 3) := by decide +kernel
theorem dX3_firstNear_98 : decode cX3_firstNear 98 = .ok (.imul, 1) := by decide +kernel
theorem dX3_firstNear_99 : decode cX3_firstNear 99 = .ok (.iload 9, 2) := by decide +kernel
theorem dX3_firstNear_101 : decode cX3_firstNear 101 = .ok (.bipush 64, 2) := by decide +kernel
theorem dX3_firstNear_103 : decode cX3_firstNear 103 = .ok (.imul, 1) := by decide +kernel
theorem dX3_firstNear_104 : decode cX3_firstNear 104 = .ok (.iadd, 1) := by decide +kernel
theorem dX3_firstNear_105 : decode cX3_firstNear 105 = .ok (.lload 10, 2) := by decide +kernel
theorem dX3_firstNear_107 : decode cX3_firstNear 107 = .ok (.invokestatic 54, 3) := by decide +kernel
theorem dX3_firstNear_110 : decode cX3_firstNear 110 = .ok (.iadd, 1) := by decide +kernel
theorem dX3_firstNear_111 : decode cX3_firstNear 111 = .ok (.ireturn, 1) := by decide +kernel
theorem dX3_firstNear_112 : decode cX3_firstNear 112 = .ok (.iinc 9 1, 3) := by decide +kernel
theorem dX3_firstNear_115 : decode cX3_firstNear 115 = .ok (.goto (-68), 3) := by decide +kernel
theorem dX3_firstNear_118 : decode cX3_firstNear 118 = .ok (.iinc 8 1, 3) := by decide +kernel
theorem dX3_firstNear_121 : decode cX3_firstNear 121 = .ok (.goto (-88), 3) := by decide +kernel
theorem dX3_firstNear_124 : decode cX3_firstNear 124 = .ok (.iconst (-1), 1) := by decide +kernel
theorem dX3_firstNear_125 : decode cX3_firstNear 125 = .ok (.ireturn, 1) := by decide +kernel
theorem dX3_firstTouching_0 : decode cX3_firstTouching 0 = .ok (.iconst 2, 1) := by decide +kernel
theorem dX3_firstTouching_1 : decode cX3_firstTouching 1 = .ok (.iload_n 0, 1) := by decide +kernel
theorem dX3_firstTouching_2 : decode cX3_firstTouching 2 = .ok (.iconst 4, 1) := by decide +kernel
theorem dX3_firstTouching_3 : decode cX3_firstTouching 3 = .ok (.isub, 1) := by decide +kernel
theorem dX3_firstTouching_4 : decode cX3_firstTouching 4 = .ok (.iload_n 1, 1) := by decide +kernel
theorem dX3_firstTouching_5 : decode cX3_firstTouching 5 = .ok (.isub, 1) := by decide +kernel
theorem dX3_firstTouching_6 : decode cX3_firstTouching 6 = .ok (.iconst 1, 1) := by decide +kernel
theorem dX3_firstTouching_7 : decode cX3_firstTouching 7 = .ok (.iadd, 1) := by decide +kernel
theorem dX3_firstTouching_8 : decode cX3_firstTouching 8 = .ok (.invokestatic 60, 3) := by decide +kernel
theorem dX3_firstTouching_11 : decode cX3_firstTouching 11 = .ok (.ireturn, 1) := by decide +kernel
theorem dX3_lastTouching_0 : decode cX3_lastTouching 0 = .ok (.sipush 994, 3) := by decide +kernel
theorem dX3_lastTouching_3 : decode cX3_lastTouching 3 = .ok (.iload_n 0, 1) := by decide +kernel
theorem dX3_lastTouching_4 : decode cX3_lastTouching 4 = .ok (.iload_n 1, 1) := by decide +kernel
theorem dX3_lastTouching_5 : decode cX3_lastTouching 5 = .ok (.iadd, 1) := by decide +kernel
theorem dX3_lastTouching_6 : decode cX3_lastTouching 6 = .ok (.iconst 1, 1) := by decide +kernel
theorem dX3_lastTouching_7 : decode cX3_lastTouching 7 = .ok (.isub, 1) := by decide +kernel
theorem dX3_lastTouching_8 : decode cX3_lastTouching 8 = .ok (.invokestatic 65, 3) := by decide +kernel
theorem dX3_lastTouching_11 : decode cX3_lastTouching 11 = .ok (.ireturn, 1) := by decide +kernel
theorem dX3_bitsBetween_0 : decode cX3_bitsBetween 0 = .ok (.iload_n 1, 1) := by decide +kernel
theorem dX3_bitsBetween_1 : decode cX3_bitsBetween 1 = .ok (.iload_n 0, 1) := by decide +kernel
theorem dX3_bitsBetween_2 : decode cX3_bitsBetween 2 = .ok (.bipush 64, 2) := by decide +kernel
theorem dX3_bitsBetween_4 : decode cX3_bitsBetween 4 = .ok (.imul, 1) := by decide +kernel
theorem dX3_bitsBetween_5 : decode cX3_bitsBetween 5 = .ok (.isub, 1) := by decide +kernel
theorem dX3_bitsBetween_6 : decode cX3_bitsBetween 6 = .ok (.iconst 0, 1) := by decide +kernel
theorem dX3_bitsBetween_7 : decode cX3_bitsBetween 7 = .ok (.invokestatic 60, 3) := by decide +kernel
theorem dX3_bitsBetween_10 : decode cX3_bitsBetween 10 = .ok (.istore_n 3, 1) := by decide +kernel
theorem dX3_bitsBetween_11 : decode cX3_bitsBetween 11 = .ok (.iload_n 2, 1) := by decide +kernel
theorem dX3_bitsBetween_12 : decode cX3_bitsBetween 12 = .ok (.iload_n 0, 1) := by decide +kernel
theorem dX3_bitsBetween_13 : decode cX3_bitsBetween 13 = .ok (.bipush 64, 2) := by decide +kernel
theorem dX3_bitsBetween_15 : decode cX3_bitsBetween 15 = .ok (.imul, 1) := by decide +kernel
theorem dX3_bitsBetween_16 : decode cX3_bitsBetween 16 = .ok (.isub, 1) := by decide +kernel
theorem dX3_bitsBetween_17 : decode cX3_bitsBetween 17 = .ok (.bipush 63, 2) := by decide +kernel
theorem dX3_bitsBetween_19 : decode cX3_bitsBetween 19 = .ok (.invokestatic 65, 3) := by decide +kernel
theorem dX3_bitsBetween_22 : decode cX3_bitsBetween 22 = .ok (.istore 4, 2) := by decide +kernel
theorem dX3_bitsBetween_24 : decode cX3_bitsBetween 24 = .ok (.ldc2_w 52, 3) := by decide +kernel
theorem dX3_bitsBetween_27 : decode cX3_bitsBetween 27 = .ok (.iload_n 3, 1) := by decide +kernel
theorem dX3_bitsBetween_28 : decode cX3_bitsBetween 28 = .ok (.lshl, 1) := by decide +kernel
theorem dX3_bitsBetween_29 : decode cX3_bitsBetween 29 = .ok (.ldc2_w 52, 3) := by decide +kernel
theorem dX3_bitsBetween_32 : decode cX3_bitsBetween 32 = .ok (.bipush 63, 2) := by decide +kernel
theorem dX3_bitsBetween_34 : decode cX3_bitsBetween 34 = .ok (.iload 4, 2) := by decide +kernel
theorem dX3_bitsBetween_36 : decode cX3_bitsBetween 36 = .ok (.isub, 1) := by decide +kernel
theorem dX3_bitsBetween_37 : decode cX3_bitsBetween 37 = .ok (.lushr, 1) := by decide +kernel
theorem dX3_bitsBetween_38 : decode cX3_bitsBetween 38 = .ok (.land, 1) := by decide +kernel
theorem dX3_bitsBetween_39 : decode cX3_bitsBetween 39 = .ok (.lreturn, 1) := by decide +kernel
