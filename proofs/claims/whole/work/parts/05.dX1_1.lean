theorem dX1_init_0 : decode cX1_init 0 = .ok (.aload_n 0, 1) := by decide +kernel
theorem dX1_init_1 : decode cX1_init 1 = .ok (.invokespecial 3, 3) := by decide +kernel
theorem dX1_init_4 : decode cX1_init 4 = .ok (.aload_n 0, 1) := by decide +kernel
theorem dX1_init_5 : decode cX1_init 5 = .ok (.iload_n 1, 1) := by decide +kernel
theorem dX1_init_6 : decode cX1_init 6 = .ok (.newarray .int, 2) := by decide +kernel
theorem dX1_init_8 : decode cX1_init 8 = .ok (.putfield 9, 3) := by decide +kernel
theorem dX1_init_11 : decode cX1_init 11 = .ok (.aload_n 0, 1) := by decide +kernel
theorem dX1_init_12 : decode cX1_init 12 = .ok (.iload_n 1, 1) := by decide +kernel
theorem dX1_init_13 : decode cX1_init 13 = .ok (.newarray .int, 2) := by decide +kernel
theorem dX1_init_15 : decode cX1_init 15 = .ok (.putfield 15, 3) := by decide +kernel
theorem dX1_init_18 : decode cX1_init 18 = .ok (.aload_n 0, 1) := by decide +kernel
theorem dX1_init_19 : decode cX1_init 19 = .ok (.iload_n 1, 1) := by decide +kernel
theorem dX1_init_20 : decode cX1_init 20 = .ok (.newarray .int, 2) := by decide +kernel
theorem dX1_init_22 : decode cX1_init 22 = .ok (.putfield 18, 3) := by decide +kernel
theorem dX1_init_25 : decode cX1_init 25 = .ok (.aload_n 0, 1) := by decide +kernel
theorem dX1_init_26 : decode cX1_init 26 = .ok (.iload_n 1, 1) := by decide +kernel
theorem dX1_init_27 : decode cX1_init 27 = .ok (.newarray .int, 2) := by decide +kernel
theorem dX1_init_29 : decode cX1_init 29 = .ok (.putfield 21, 3) := by decide +kernel
theorem dX1_init_32 : decode cX1_init 32 = .ok (.aload_n 0, 1) := by decide +kernel
theorem dX1_init_33 : decode cX1_init 33 = .ok (.iload_n 1, 1) := by decide +kernel
theorem dX1_init_34 : decode cX1_init 34 = .ok (.newarray .int, 2) := by decide +kernel
theorem dX1_init_36 : decode cX1_init 36 = .ok (.putfield 24, 3) := by decide +kernel
theorem dX1_init_39 : decode cX1_init 39 = .ok (.aload_n 0, 1) := by decide +kernel
theorem dX1_init_40 : decode cX1_init 40 = .ok (.sipush 1001, 3) := by decide +kernel
theorem dX1_init_43 : decode cX1_init 43 = .ok (.newarray .int, 2) := by decide +kernel
theorem dX1_init_45 : decode cX1_init 45 = .ok (.putfield 27, 3) := by decide +kernel
theorem dX1_init_48 : decode cX1_init 48 = .ok (.aload_n 0, 1) := by decide +kernel
theorem dX1_init_49 : decode cX1_init 49 = .ok (.sipush 1001, 3) := by decide +kernel
theorem dX1_init_52 : decode cX1_init 52 = .ok (.newarray .boolean, 2) := by decide +kernel
theorem dX1_init_54 : decode cX1_init 54 = .ok (.putfield 30, 3) := by decide +kernel
theorem dX1_init_57 : decode cX1_init 57 = .ok (.return_, 1) := by decide +kernel
theorem dX1_open_0 : decode cX1_open 0 = .ok (.aload_n 0, 1) := by decide +kernel
theorem dX1_open_1 : decode cX1_open 1 = .ok (.iconst 0, 1) := by decide +kernel
theorem dX1_open_2 : decode cX1_open 2 = .ok (.putfield 34, 3) := by decide +kernel
theorem dX1_open_5 : decode cX1_open 5 = .ok (.aload_n 0, 1) := by decide +kernel
theorem dX1_open_6 : decode cX1_open 6 = .ok (.iload_n 1, 1) := by decide +kernel
theorem dX1_open_7 : decode cX1_open 7 = .ok (.putfield 38, 3) := by decide +kernel
theorem dX1_open_10 : decode cX1_open 10 = .ok (.aload_n 0, 1) := by decide +kernel
theorem dX1_open_11 : decode cX1_open 11 = .ok (.iload_n 2, 1) := by decide +kernel
theorem dX1_open_12 : decode cX1_open 12 = .ok (.putfield 41, 3) := by decide +kernel
theorem dX1_open_15 : decode cX1_open 15 = .ok (.aload_n 0, 1) := by decide +kernel
theorem dX1_open_16 : decode cX1_open 16 = .ok (.iload_n 3, 1) := by decide +kernel
theorem dX1_open_17 : decode cX1_open 17 = .ok (.iload_n 1, 1) := by decide +kernel
theorem dX1_open_18 : decode cX1_open 18 = .ok (.isub, 1) := by decide +kernel
theorem dX1_open_19 : decode cX1_open 19 = .ok (.putfield 44, 3) := by decide +kernel
theorem dX1_open_22 : decode cX1_open 22 = .ok (.aload_n 0, 1) := by decide +kernel
theorem dX1_open_23 : decode cX1_open 23 = .ok (.iload 4, 2) := by decide +kernel
theorem dX1_open_25 : decode cX1_open 25 = .ok (.iload_n 2, 1) := by decide +kernel
theorem dX1_open_26 : decode cX1_open 26 = .ok (.isub, 1) := by decide +kernel
theorem dX1_open_27 : decode cX1_open 27 = .ok (.putfield 47, 3) := by decide +kernel
theorem dX1_open_30 : decode cX1_open 30 = .ok (.return_, 1) := by decide +kernel
set_option maxRecDepth 20000 in
theorem ggX1_take_X1_takeClipped : GoodIn wsX1_take wsX1_takeClipped := goodIn_r _ [12, 13, 14, 15, 16, 17, 18, 19, 20, 21, 22, 23, 24, 25, 26, 27, 28, 36, 37, 38, 39, 40, 41, 42, 43, 44, 45, 46, 47] (by decide +kernel) (by decide +kernel)
set_option maxRecDepth 20000 in
theorem gX1_take_X1_takeClipped : GoodIn wsX1_take (wsV RX1 63 RX1 yX1_takeClipped wsX1_takeClipped) := goodIn_app (goodIn_of _ (by decide +kernel)) ggX1_take_X1_takeClipped
theorem dX1_take_0 : decode cX1_take 0 = .ok (.iconst 0, 1) := by decide +kernel
theorem dX1_take_1 : decode cX1_take 1 = .ok (.istore 4, 2) := by decide +kernel
theorem dX1_take_3 : decode cX1_take 3 = .ok (.iload 4, 2) := by decide +kernel
theorem dX1_take_5 : decode cX1_take 5 = .ok (.aload_n 1, 1) := by decide +kernel
theorem dX1_take_6 : decode cX1_take 6 = .ok (.getfield 50, 3) := by decide +kernel
theorem dX1_take_9 : decode cX1_take 9 = .ok (.if_icmp .ge 68, 3) := by decide +kernel
theorem dX1_take_12 : decode cX1_take 12 = .ok (.aload_n 1, 1) := by decide +kernel
theorem dX1_take_13 : decode cX1_take 13 = .ok (.getfield 53, 3) := by decide +kernel
theorem dX1_take_16 : decode cX1_take 16 = .ok (.iload 4, 2) := by decide +kernel
theorem dX1_take_18 : decode cX1_take 18 = .ok (.iaload, 1) := by decide +kernel
theorem dX1_take_19 : decode cX1_take 19 = .ok (.iload_n 2, 1) := by decide +kernel
theorem dX1_take_20 : decode cX1_take 20 = .ok (.if_icmp .ne 51, 3) := by decide +kernel
theorem dX1_take_23 : decode cX1_take 23 = .ok (.iload_n 3, 1) := by decide +kernel
theorem dX1_take_24 : decode cX1_take 24 = .ok (.iconst (-1), 1) := by decide +kernel
theorem dX1_take_25 : decode cX1_take 25 = .ok (.if_icmp .eq 14, 3) := by decide +kernel
theorem dX1_take_28 : decode cX1_take 28 = .ok (.aload_n 1, 1) := by decide +kernel
theorem dX1_take_29 : decode cX1_take 29 = .ok (.getfield 56, 3) := by decide +kernel
theorem dX1_take_32 : decode cX1_take 32 = .ok (.iload 4, 2) := by decide +kernel
theorem dX1_take_34 : decode cX1_take 34 = .ok (.iaload, 1) := by decide +kernel
theorem dX1_take_35 : decode cX1_take 35 = .ok (.iload_n 3, 1) := by decide +kernel
theorem dX1_take_36 : decode cX1_take 36 = .ok (.if_icmp .ne 35, 3) := by decide +kernel
theorem dX1_take_39 : decode cX1_take 39 = .ok (.aload_n 0, 1) := by decide +kernel
theorem dX1_take_40 : decode cX1_take 40 = .ok (.aload_n 1, 1) := by decide +kernel
theorem dX1_take_41 : decode cX1_take 41 = .ok (.getfield 59, 3) := by decide +kernel
theorem dX1_take_44 : decode cX1_take 44 = .ok (.iload 4, 2) := by decide +kernel
theorem dX1_take_46 : decode cX1_take 46 = .ok (.iaload, 1) := by decide +kernel
theorem dX1_take_47 : decode cX1_take 47 = .ok (.aload_n 1, 1) := by decide +kernel
theorem dX1_take_48 : decode cX1_take 48 = .ok (.getfield 60, 3) := by decide +kernel
theorem dX1_take_51 : decode cX1_take 51 = .ok (.iload 4, 2) := by decide +kernel
theorem dX1_take_53 : decode cX1_take 53 = .ok (.iaload, 1) := by decide +kernel
theorem dX1_take_54 : decode cX1_take 54 = .ok (.aload_n 1, 1) := by decide +kernel
theorem dX1_take_55 : decode cX1_take 55 = .ok (.getfield 61, 3) := by decide +kernel
theorem dX1_take_58 : decode cX1_take 58 = .ok (.iload 4, 2) := by decide +kernel
theorem dX1_take_60 : decode cX1_take 60 = .ok (.iaload, 1) := by decide +kernel
theorem dX1_take_61 : decode cX1_take 61 = .ok (.aload_n 1, 1) := by decide +kernel
theorem dX1_take_62 : decode cX1_take 62 = .ok (.getfield 62, 3) := by decide +kernel
theorem dX1_take_65 : decode cX1_take 65 = .ok (.iload 4, 2) := by decide +kernel
theorem dX1_take_67 : decode cX1_take 67 = .ok (.iaload, 1) := by decide +kernel
theorem dX1_take_68 : decode cX1_take 68 = .ok (.invokevirtual 63, 3) := by decide +kernel
theorem dX1_take_71 : decode cX1_take 71 = .ok (.iinc 4 1, 3) := by decide +kernel
theorem dX1_take_74 : decode cX1_take 74 = .ok (.goto (-71), 3) := by decide +kernel
theorem dX1_take_77 : decode cX1_take 77 = .ok (.return_, 1) := by decide +kernel
theorem dX1_takeClipped_0 : decode cX1_takeClipped 0 = .ok (.iconst 0, 1) := by decide +kernel
theorem dX1_takeClipped_1 : decode cX1_takeClipped 1 = .ok (.iload_n 1, 1) := by decide +kernel
theorem dX1_takeClipped_2 : decode cX1_takeClipped 2 = .ok (.aload_n 0, 1) := by decide +kernel
theorem dX1_takeClipped_3 : decode cX1_takeClipped 3 = .ok (.getfield 38, 3) := by decide +kernel
theorem dX1_takeClipped_6 : decode cX1_takeClipped 6 = .ok (.isub, 1) := by decide +kernel
theorem dX1_takeClipped_7 : decode cX1_takeClipped 7 = .ok (.invokestatic 67, 3) := by decide +kernel
theorem dX1_takeClipped_10 : decode cX1_takeClipped 10 = .ok (.istore 5, 2) := by decide +kernel
theorem dX1_takeClipped_12 : decode cX1_takeClipped 12 = .ok (.iconst 0, 1) := by decide +kernel
theorem dX1_takeClipped_13 : decode cX1_takeClipped 13 = .ok (.iload_n 2, 1) := by decide +kernel
theorem dX1_takeClipped_14 : decode cX1_takeClipped 14 = .ok (.aload_n 0, 1) := by decide +kernel
theorem dX1_takeClipped_15 : decode cX1_takeClipped 15 = .ok (.getfield 41, 3) := by decide +kernel
theorem dX1_takeClipped_18 : decode cX1_takeClipped 18 = .ok (.isub, 1) := by decide +kernel
theorem dX1_takeClipped_19 : decode cX1_takeClipped 19 = .ok (.invokestatic 67, 3) := by decide +kernel
theorem dX1_takeClipped_22 : decode cX1_takeClipped 22 = .ok (.istore 6, 2) := by decide +kernel
theorem dX1_takeClipped_24 : decode cX1_takeClipped 24 = .ok (.aload_n 0, 1) := by decide +kernel
theorem dX1_takeClipped_25 : decode cX1_takeClipped 25 = .ok (.getfield 44, 3) := by decide +kernel
theorem dX1_takeClipped_28 : decode cX1_takeClipped 28 = .ok (.iload_n 3, 1) := by decide +kernel
theorem dX1_takeClipped_29 : decode cX1_takeClipped 29 = .ok (.aload_n 0, 1) := by decide +kernel
theorem dX1_takeClipped_30 : decode cX1_takeClipped 30 = .ok (.getfield 38, 3) := by decide +kernel
theorem dX1_takeClipped_33 : decode cX1_takeClipped 33 = .ok (.isub, 1) := by decide +kernel
theorem dX1_takeClipped_34 : decode cX1_takeClipped 34 = .ok (.invokestatic 73, 3) := by decide +kernel
theorem dX1_takeClipped_37 : decode cX1_takeClipped 37 = .ok (.istore 7, 2) := by decide +kernel
theorem dX1_takeClipped_39 : decode cX1_takeClipped 39 = .ok (.aload_n 0, 1) := by decide +kernel
theorem dX1_takeClipped_40 : decode cX1_takeClipped 40 = .ok (.getfield 47, 3) := by decide +kernel
theorem dX1_takeClipped_43 : decode cX1_takeClipped 43 = .ok (.iload 4, 2) := by decide +kernel
theorem dX1_takeClipped_45 : decode cX1_takeClipped 45 = .ok (.aload_n 0, 1) := by decide +kernel
theorem dX1_takeClipped_46 : decode cX1_takeClipped 46 = .ok (.getfield 41, 3) := by decide +kernel
theorem dX1_takeClipped_49 : decode cX1_takeClipped 49 = .ok (.isub, 1) := by decide +kernel
theorem dX1_takeClipped_50 : decode cX1_takeClipped 50 = .ok (.invokestatic 73, 3) := by decide +kernel
theorem dX1_takeClipped_53 : decode cX1_takeClipped 53 = .ok (.istore 8, 2) := by decide +kernel
theorem dX1_takeClipped_55 : decode cX1_takeClipped 55 = .ok (.iload 5, 2) := by decide +kernel
theorem dX1_takeClipped_57 : decode cX1_takeClipped 57 = .ok (.iload 7, 2) := by decide +kernel
theorem dX1_takeClipped_59 : decode cX1_takeClipped 59 = .ok (.if_icmp .ge 76, 3) := by decide +kernel
theorem dX1_takeClipped_62 : decode cX1_takeClipped 62 = .ok (.iload 6, 2) := by decide +kernel
theorem dX1_takeClipped_64 : decode cX1_takeClipped 64 = .ok (.iload 8, 2) := by decide +kernel
theorem dX1_takeClipped_66 : decode cX1_takeClipped 66 = .ok (.if_icmp .ge 69, 3) := by decide +kernel
theorem dX1_takeClipped_69 : decode cX1_takeClipped 69 = .ok (.aload_n 0, 1) := by decide +kernel
theorem dX1_takeClipped_70 : decode cX1_takeClipped 70 = .ok (.getfield 34, 3) := by decide +kernel
theorem dX1_takeClipped_73 : decode cX1_takeClipped 73 = .ok (.aload_n 0, 1) := by decide +kernel
theorem dX1_takeClipped_74 : decode cX1_takeClipped 74 = .ok (.getfield 9, 3) := by decide +kernel
theorem dX1_takeClipped_77 : decode cX1_takeClipped 77 = .ok (.arraylength, 1) := by decide +kernel
theorem dX1_takeClipped_78 : decode cX1_takeClipped 78 = .ok (.if_icmp .ge 57, 3) := by decide +kernel
theorem dX1_takeClipped_81 : decode cX1_takeClipped 81 = .ok (.aload_n 0, 1) := by decide +kernel
theorem dX1_takeClipped_82 : decode cX1_takeClipped 82 = .ok (.getfield 9, 3) := by decide +kernel
theorem dX1_takeClipped_85 : decode cX1_takeClipped 85 = .ok (.aload_n 0, 1) := by decide +kernel
theorem dX1_takeClipped_86 : decode cX1_takeClipped 86 = .ok (.getfield 34, 3) := by decide +kernel
theorem dX1_takeClipped_89 : decode cX1_takeClipped 89 = .ok (.iload 5, 2) := by decide +kernel
theorem dX1_takeClipped_91 : decode cX1_takeClipped 91 = .ok (.iastore, 1) := by decide +kernel
theorem dX1_takeClipped_92 : decode cX1_takeClipped 92 = .ok (.aload_n 0, 1) := by decide +kernel
theorem dX1_takeClipped_93 : decode cX1_takeClipped 93 = .ok (.getfield 15, 3) := by decide +kernel
theorem dX1_takeClipped_96 : decode cX1_takeClipped 96 = .ok (.aload_n 0, 1) := by decide +kernel
theorem dX1_takeClipped_97 : decode cX1_takeClipped 97 = .ok (.getfield 34, 3) := by decide +kernel
theorem dX1_takeClipped_100 : decode cX1_takeClipped 100 = .ok (.iload 6, 2) := by decide +kernel
theorem dX1_takeClipped_102 : decode cX1_takeClipped 102 = .ok (.iastore, 1) := by decide +kernel
theorem dX1_takeClipped_103 : decode cX1_takeClipped 103 = .ok (.aload_n 0, 1) := by decide +kernel
theorem dX1_takeClipped_104 : decode cX1_takeClipped 104 = .ok (.getfield 18, 3) := by decide +kernel
theorem dX1_takeClipped_107 : decode cX1_takeClipped 107 = .ok (.aload_n 0, 1) := by decide +kernel
theorem dX1_takeClipped_108 : decode cX1_takeClipped 108 = .ok (.getfield 34, 3) := by decide +kernel
theorem dX1_takeClipped_111 : decode cX1_takeClipped 111 = .ok (.iload 7, 2) := by decide +kernel
theorem dX1_takeClipped_113 : decode cX1_takeClipped 113 = .ok (.iastore, 1) := by decide +kernel
theorem dX1_takeClipped_114 : decode cX1_takeClipped 114 = .ok (.aload_n 0, 1) := by decide +kernel
theorem dX1_takeClipped_115 : decode cX1_takeClipped 115 = .ok (.getfield 21, 3) := by decide +kernel
theorem dX1_takeClipped_118 : decode cX1_takeClipped 118 = .ok (.aload_n 0, 1) := by decide +kernel
theorem dX1_takeClipped_119 : decode cX1_takeClipped 119 = .ok (.getfield 34, 3) := by decide +kernel
theorem dX1_takeClipped_122 : decode cX1_takeClipped 122 = .ok (.iload 8, 2) := by decide +kernel
theorem dX1_takeClipped_124 : decode cX1_takeClipped 124 = .ok (.iastore, 1) := by decide +kernel
theorem dX1_takeClipped_125 : decode cX1_takeClipped 125 = .ok (.aload_n 0, 1) := by decide +kernel
theorem dX1_takeClipped_126 : decode cX1_takeClipped 126 = .ok (.dup, 1) := by decide +kernel
theorem dX1_takeClipped_127 : decode cX1_takeClipped 127 = .ok (.getfield 34, 3) := by decide +kernel
theorem dX1_takeClipped_130 : decode cX1_takeClipped 130 = .ok (.iconst 1, 1) := by decide +kernel
theorem dX1_takeClipped_131 : decode cX1_takeClipped 131 = .ok (.iadd, 1) := by decide +kernel
theorem dX1_takeClipped_132 : decode cX1_takeClipped 132 = .ok (.putfield 34, 3) := by decide +kernel
theorem dX1_takeClipped_135 : decode cX1_takeClipped 135 = .ok (.return_, 1) := by decide +kernel
set_option maxRecDepth 20000 in
theorem ggX1_area_X1_sortByLeft : GoodIn wsX1_area wsX1_sortByLeft := goodIn_r _ [8, 9, 10, 1, 11, 12, 28, 29, 30, 31, 32, 33, 34, 35, 36, 37, 38, 39] (by decide +kernel) (by decide +kernel)
set_option maxRecDepth 20000 in
theorem gX1_area_X1_sortByLeft : GoodIn wsX1_area (wsV RX1 76 RX1 yX1_sortByLeft wsX1_sortByLeft) := goodIn_app (goodIn_of _ (by decide +kernel)) ggX1_area_X1_sortByLeft
set_option maxRecDepth 20000 in
theorem ggX1_area_X1_markCuts : GoodIn wsX1_area wsX1_markCuts := goodIn_r _ [16, 2, 3, 1, 17, 18, 28, 29, 30, 31, 32, 33, 34, 35, 36, 37, 38, 39] (by decide +kernel) (by decide +kernel)
set_option maxRecDepth 20000 in
theorem gX1_area_X1_markCuts : GoodIn wsX1_area (wsV RX1 79 RX1 yX1_markCuts wsX1_markCuts) := goodIn_app (goodIn_of _ (by decide +kernel)) ggX1_area_X1_markCuts
set_option maxRecDepth 20000 in
theorem ggX1_area_X1_lengthInRow : GoodIn wsX1_area wsX1_lengthInRow := goodIn_r _ [22, 1, 12, 17, 18, 23, 11, 24, 25, 26, 27, 28, 29, 30, 31, 32, 33, 34, 35, 36, 37, 38, 39] (by decide +kernel) (by decide +kernel)
set_option maxRecDepth 20000 in
theorem gX1_area_X1_lengthInRow : GoodIn wsX1_area (wsV RX1 82 RX1 yX1_lengthInRow wsX1_lengthInRow) := goodIn_app (goodIn_of _ (by decide +kernel)) ggX1_area_X1_lengthInRow
theorem dX1_area_0 : decode cX1_area 0 = .ok (.aload_n 0, 1) := by decide +kernel
theorem dX1_area_1 : decode cX1_area 1 = .ok (.getfield 34, 3) := by decide +kernel
theorem dX1_area_4 : decode cX1_area 4 = .ok (.ifCond .ne 5, 3) := by decide +kernel
theorem dX1_area_7 : decode cX1_area 7 = .ok (.lconst 0, 1) := by decide +kernel
theorem dX1_area_8 : decode cX1_area 8 = .ok (.lreturn, 1) := by decide +kernel
theorem dX1_area_9 : decode cX1_area 9 = .ok (.aload_n 0, 1) := by decide +kernel
theorem dX1_area_10 : decode cX1_area 10 = .ok (.invokevirtual 76, 3) := by decide +kernel
theorem dX1_area_13 : decode cX1_area 13 = .ok (.aload_n 0, 1) := by decide +kernel
theorem dX1_area_14 : decode cX1_area 14 = .ok (.invokevirtual 79, 3) := by decide +kernel
theorem dX1_area_17 : decode cX1_area 17 = .ok (.lconst 0, 1) := by decide +kernel
theorem dX1_area_18 : decode cX1_area 18 = .ok (.lstore_n 1, 1) := by decide +kernel
theorem dX1_area_19 : decode cX1_area 19 = .ok (.iconst 0, 1) := by decide +kernel
theorem dX1_area_20 : decode cX1_area 20 = .ok (.istore_n 3, 1) := by decide +kernel
theorem dX1_area_21 : decode cX1_area 21 = .ok (.iconst 1, 1) := by decide +kernel
theorem dX1_area_22 : decode cX1_area 22 = .ok (.istore 4, 2) := by decide +kernel
theorem dX1_area_24 : decode cX1_area 24 = .ok (.iload 4, 2) := by decide +kernel
theorem dX1_area_26 : decode cX1_area 26 = .ok (.aload_n 0, 1) := by decide +kernel
theorem dX1_area_27 : decode cX1_area 27 = .ok (.getfield 47, 3) := by decide +kernel
theorem dX1_area_30 : decode cX1_area 30 = .ok (.if_icmp .gt 37, 3) := by decide +kernel
theorem dX1_area_33 : decode cX1_area 33 = .ok (.aload_n 0, 1) := by decide +kernel
theorem dX1_area_34 : decode cX1_area 34 = .ok (.getfield 30, 3) := by decide +kernel
theorem dX1_area_37 : decode cX1_area 37 = .ok (.iload 4, 2) := by decide +kernel
theorem dX1_area_39 : decode cX1_area 39 = .ok (.baload, 1) := by decide +kernel
theorem dX1_area_40 : decode cX1_area 40 = .ok (.ifCond .eq 21, 3) := by decide +kernel
theorem dX1_area_43 : decode cX1_area 43 = .ok (.lload_n 1, 1) := by decide +kernel
theorem dX1_area_44 : decode cX1_area 44 = .ok (.iload 4, 2) := by decide +kernel
theorem dX1_area_46 : decode cX1_area 46 = .ok (.iload_n 3, 1) := by decide +kernel
theorem dX1_area_47 : decode cX1_area 47 = .ok (.isub, 1) := by decide +kernel
theorem dX1_area_48 : decode cX1_area 48 = .ok (.i2l, 1) := by decide +kernel
theorem dX1_area_49 : decode cX1_area 49 = .ok (.aload_n 0, 1) := by decide +kernel
theorem dX1_area_50 : decode cX1_area 50 = .ok (.iload_n 3, 1) := by decide +kernel
theorem dX1_area_51 : decode cX1_area 51 = .ok (.invokevirtual 82, 3) := by decide +kernel
theorem dX1_area_54 : decode cX1_area 54 = .ok (.i2l, 1) := by decide +kernel
theorem dX1_area_55 : decode cX1_area 55 = .ok (.lmul, 1) := by decide +kernel
theorem dX1_area_56 : decode cX1_area 56 = .ok (.ladd, 1) := by decide +kernel
theorem dX1_area_57 : decode cX1_area 57 = .ok (.lstore_n 1, 1) := by decide +kernel
theorem dX1_area_58 : decode cX1_area 58 = .ok (.iload 4, 2) := by decide +kernel
theorem dX1_area_60 : decode cX1_area 60 = .ok (.istore_n 3, 1) := by decide +kernel
theorem dX1_area_61 : decode cX1_area 61 = .ok (.iinc 4 1, 3) := by decide +kernel
theorem dX1_area_64 : decode cX1_area 64 = .ok (.goto (-40), 3) := by decide +kernel
theorem dX1_area_67 : decode cX1_area 67 = .ok (.lload_n 1, 1) := by decide +kernel
theorem dX1_area_68 : decode cX1_area 68 = .ok (.lreturn, 1) := by decide +kernel
theorem dX1_sortByLeft_0 : decode cX1_sortByLeft 0 = .ok (.iconst 0, 1) := by decide +kernel
theorem dX1_sortByLeft_1 : decode cX1_sortByLeft 1 = .ok (.istore_n 1, 1) := by decide +kernel
theorem dX1_sortByLeft_2 : decode cX1_sortByLeft 2 = .ok (.iload_n 1, 1) := by decide +kernel
theorem dX1_sortByLeft_3 : decode cX1_sortByLeft 3 = .ok (.aload_n 0, 1) := by decide +kernel
theorem dX1_sortByLeft_4 : decode cX1_sortByLeft 4 = .ok (.getfield 44, 3) := by decide +kernel
theorem dX1_sortByLeft_7 : decode cX1_sortByLeft 7 = .ok (.if_icmp .gt 16, 3) := by decide +kernel
theorem dX1_sortByLeft_10 : decode cX1_sortByLeft 10 = .ok (.aload_n 0, 1) := by decide +kernel
theorem dX1_sortByLeft_11 : decode cX1_sortByLeft 11 = .ok (.getfield 27, 3) := by decide +kernel
theorem dX1_sortByLeft_14 : decode cX1_sortByLeft 14 = .ok (.iload_n 1, 1) := by decide +kernel
theorem dX1_sortByLeft_15 : decode cX1_sortByLeft 15 = .ok (.iconst 0, 1) := by decide +kernel
theorem dX1_sortByLeft_16 : decode cX1_sortByLeft 16 = .ok (.iastore, 1) := by decide +kernel
theorem dX1_sortByLeft_17 : decode cX1_sortByLeft 17 = .ok (.iinc 1 1, 3) := by decide +kernel
theorem dX1_sortByLeft_20 : decode cX1_sortByLeft 20 = .ok (.goto (-18), 3) := by decide +kernel
theorem dX1_sortByLeft_23 : decode cX1_sortByLeft 23 = .ok (.iconst 0, 1) := by decide +kernel
theorem dX1_sortByLeft_24 : decode cX1_sortByLeft 24 = .ok (.istore_n 1, 1) := by decide +kernel
theorem dX1_sortByLeft_25 : decode cX1_sortByLeft 25 = .ok (.iload_n 1, 1) := by decide +kernel
theorem dX1_sortByLeft_26 : decode cX1_sortByLeft 26 = .ok (.aload_n 0, 1) := by decide +kernel
theorem dX1_sortByLeft_27 : decode cX1_sortByLeft 27 = .ok (.getfield 34, 3) := by decide +kernel
theorem dX1_sortByLeft_30 : decode cX1_sortByLeft 30 = .ok (.if_icmp .ge 26, 3) := by decide +kernel
theorem dX1_sortByLeft_33 : decode cX1_sortByLeft 33 = .ok (.aload_n 0, 1) := by decide +kernel
theorem dX1_sortByLeft_34 : decode cX1_sortByLeft 34 = .ok (.getfield 27, 3) := by decide +kernel
theorem dX1_sortByLeft_37 : decode cX1_sortByLeft 37 = .ok (.aload_n 0, 1) := by decide +kernel
theorem dX1_sortByLeft_38 : decode cX1_sortByLeft 38 = .ok (.getfield 9, 3) := by decide +kernel
theorem dX1_sortByLeft_41 : decode cX1_sortByLeft 41 = .ok (.iload_n 1, 1) := by decide +kernel
theorem dX1_sortByLeft_42 : decode cX1_sortByLeft 42 = .ok (.iaload, 1) := by decide +kernel
theorem dX1_sortByLeft_43 : decode cX1_sortByLeft 43 = .ok (.iconst 1, 1) := by decide +kernel
theorem dX1_sortByLeft_44 : decode cX1_sortByLeft 44 = .ok (.iadd, 1) := by decide +kernel
theorem dX1_sortByLeft_45 : decode cX1_sortByLeft 45 = .ok (.dup2, 1) := by decide +kernel
theorem dX1_sortByLeft_46 : decode cX1_sortByLeft 46 = .ok (.iaload, 1) := by decide +kernel
theorem dX1_sortByLeft_47 : decode cX1_sortByLeft 47 = .ok (.iconst 1, 1) := by decide +kernel
theorem dX1_sortByLeft_48 : decode cX1_sortByLeft 48 = .ok (.iadd, 1) := by decide +kernel
theorem dX1_sortByLeft_49 : decode cX1_sortByLeft 49 = .ok (.iastore, 1) := by decide +kernel
theorem dX1_sortByLeft_50 : decode cX1_sortByLeft 50 = .ok (.iinc 1 1, 3) := by decide +kernel
theorem dX1_sortByLeft_53 : decode cX1_sortByLeft 53 = .ok (.goto (-28), 3) := by decide +kernel
theorem dX1_sortByLeft_56 : decode cX1_sortByLeft 56 = .ok (.iconst 1, 1) := by decide +kernel
theorem dX1_sortByLeft_57 : decode cX1_sortByLeft 57 = .ok (.istore_n 1, 1) := by decide +kernel
theorem dX1_sortByLeft_58 : decode cX1_sortByLeft 58 = .ok (.iload_n 1, 1) := by decide +kernel
theorem dX1_sortByLeft_59 : decode cX1_sortByLeft 59 = .ok (.aload_n 0, 1) := by decide +kernel
theorem dX1_sortByLeft_60 : decode cX1_sortByLeft 60 = .ok (.getfield 44, 3) := by decide +kernel
theorem dX1_sortByLeft_63 : decode cX1_sortByLeft 63 = .ok (.if_icmp .gt 26, 3) := by decide +kernel
theorem dX1_sortByLeft_66 : decode cX1_sortByLeft 66 = .ok (.aload_n 0, 1) := by decide +kernel
theorem dX1_sortByLeft_67 : decode cX1_sortByLeft 67 = .ok (.getfield 27, 3) := by decide +kernel
theorem dX1_sortByLeft_70 : decode cX1_sortByLeft 70 = .ok (.iload_n 1, 1) := by decide +kernel
theorem dX1_sortByLeft_71 : decode cX1_sortByLeft 71 = .ok (.dup2, 1) := by decide +kernel
theorem dX1_sortByLeft_72 : decode cX1_sortByLeft 72 = .ok (.iaload, 1) := by decide +kernel
theorem dX1_sortByLeft_73 : decode cX1_sortByLeft 73 = .ok (.aload_n 0, 1) := by decide +kernel
theorem dX1_sortByLeft_74 : decode cX1_sortByLeft 74 = .ok (.getfield 27, 3) := by decide +kernel
theorem dX1_sortByLeft_77 : decode cX1_sortByLeft 77 = .ok (.iload_n 1, 1) := by decide +kernel
theorem dX1_sortByLeft_78 : decode cX1_sortByLeft 78 = .ok (.iconst 1, 1) := by decide +kernel
theorem dX1_sortByLeft_79 : decode cX1_sortByLeft 79 = .ok (.isub, 1) := by decide +kernel
theorem dX1_sortByLeft_80 : decode cX1_sortByLeft 80 = .ok (.iaload, 1) := by decide +kernel
theorem dX1_sortByLeft_81 : decode cX1_sortByLeft 81 = .ok (.iadd, 1) := by decide +kernel
theorem dX1_sortByLeft_82 : decode cX1_sortByLeft 82 = .ok (.iastore, 1) := by decide +kernel
theorem dX1_sortByLeft_83 : decode cX1_sortByLeft 83 = .ok (.iinc 1 1, 3) := by decide +kernel
theorem dX1_sortByLeft_86 : decode cX1_sortByLeft 86 = .ok (.goto (-28), 3) := by decide +kernel
theorem dX1_sortByLeft_89 : decode cX1_sortByLeft 89 = .ok (.iconst 0, 1) := by decide +kernel
theorem dX1_sortByLeft_90 : decode cX1_sortByLeft 90 = .ok (.istore_n 1, 1) := by decide +kernel
theorem dX1_sortByLeft_91 : decode cX1_sortByLeft 91 = .ok (.iload_n 1, 1) := by decide +kernel
theorem dX1_sortByLeft_92 : decode cX1_sortByLeft 92 = .ok (.aload_n 0, 1) := by decide +kernel
theorem dX1_sortByLeft_93 : decode cX1_sortByLeft 93 = .ok (.getfield 34, 3) := by decide +kernel
theorem dX1_sortByLeft_96 : decode cX1_sortByLeft 96 = .ok (.if_icmp .ge 41, 3) := by decide +kernel
theorem dX1_sortByLeft_99 : decode cX1_sortByLeft 99 = .ok (.aload_n 0, 1) := by decide +kernel
theorem dX1_sortByLeft_100 : decode cX1_sortByLeft 100 = .ok (.getfield 24, 3) := by decide +kernel
theorem dX1_sortByLeft_103 : decode cX1_sortByLeft 103 = .ok (.aload_n 0, 1) := by decide +kernel
theorem dX1_sortByLeft_104 : decode cX1_sortByLeft 104 = .ok (.getfield 27, 3) := by decide +kernel
theorem dX1_sortByLeft_107 : decode cX1_sortByLeft 107 = .ok (.aload_n 0, 1) := by decide +kernel
theorem dX1_sortByLeft_108 : decode cX1_sortByLeft 108 = .ok (.getfield 9, 3) := by decide +kernel
theorem dX1_sortByLeft_111 : decode cX1_sortByLeft 111 = .ok (.iload_n 1, 1) := by decide +kernel
theorem dX1_sortByLeft_112 : decode cX1_sortByLeft 112 = .ok (.iaload, 1) := by decide +kernel
theorem dX1_sortByLeft_113 : decode cX1_sortByLeft 113 = .ok (.iaload, 1) := by decide +kernel
theorem dX1_sortByLeft_114 : decode cX1_sortByLeft 114 = .ok (.iload_n 1, 1) := by decide +kernel
theorem dX1_sortByLeft_115 : decode cX1_sortByLeft 115 = .ok (.iastore, 1) := by decide +kernel
theorem dX1_sortByLeft_116 : decode cX1_sortByLeft 116 = .ok (.aload_n 0, 1) := by decide +kernel
theorem dX1_sortByLeft_117 : decode cX1_sortByLeft 117 = .ok (.getfield 27, 3) := by decide +kernel
theorem dX1_sortByLeft_120 : decode cX1_sortByLeft 120 = .ok (.aload_n 0, 1) := by decide +kernel
theorem dX1_sortByLeft_121 : decode cX1_sortByLeft 121 = .ok (.getfield 9, 3) := by decide +kernel
theorem dX1_sortByLeft_124 : decode cX1_sortByLeft 124 = .ok (.iload_n 1, 1) := by decide +kernel
theorem dX1_sortByLeft_125 : decode cX1_sortByLeft 125 = .ok (.iaload, 1) := by decide +kernel
theorem dX1_sortByLeft_126 : decode cX1_sortByLeft 126 = .ok (.dup2, 1) := by decide +kernel
theorem dX1_sortByLeft_127 : decode cX1_sortByLeft 127 = .ok (.iaload, 1) := by decide +kernel
theorem dX1_sortByLeft_128 : decode cX1_sortByLeft 128 = .ok (.iconst 1, 1) := by decide +kernel
theorem dX1_sortByLeft_129 : decode cX1_sortByLeft 129 = .ok (.iadd, 1) := by decide +kernel
theorem dX1_sortByLeft_130 : decode cX1_sortByLeft 130 = .ok (.iastore, 1) := by decide +kernel
theorem dX1_sortByLeft_131 : decode cX1_sortByLeft 131 = .ok (.iinc 1 1, 3) := by decide +kernel
theorem dX1_sortByLeft_134 : decode cX1_sortByLeft 134 = .ok (.goto (-43), 3) := by decide +kernel
theorem dX1_sortByLeft_137 : decode cX1_sortByLeft 137 = .ok (.return_, 1) := by decide +kernel
theorem dX1_markCuts_0 : decode cX1_markCuts 0 = .ok (.iconst 0, 1) := by decide +kernel
theorem dX1_markCuts_1 : decode cX1_markCuts 1 = .ok (.istore_n 1, 1) := by decide +kernel
theorem dX1_markCuts_2 : decode cX1_markCuts 2 = .ok (.iload_n 1, 1) := by decide +kernel
theorem dX1_markCuts_3 : decode cX1_markCuts 3 = .ok (.aload_n 0, 1) := by decide +kernel
theorem dX1_markCuts_4 : decode cX1_markCuts 4 = .ok (.getfield 47, 3) := by decide +kernel
theorem dX1_markCuts_7 : decode cX1_markCuts 7 = .ok (.if_icmp .gt 16, 3) := by decide +kernel
theorem dX1_markCuts_10 : decode cX1_markCuts 10 = .ok (.aload_n 0, 1) := by decide +kernel
theorem dX1_markCuts_11 : decode cX1_markCuts 11 = .ok (.getfield 30, 3) := by decide +kernel
theorem dX1_markCuts_14 : decode cX1_markCuts 14 = .ok (.iload_n 1, 1) := by decide +kernel
theorem dX1_markCuts_15 : decode cX1_markCuts 15 = .ok (.iconst 0, 1) := by decide +kernel
theorem dX1_markCuts_16 : decode cX1_markCuts 16 = .ok (.bastore, 1) := by decide +kernel
theorem dX1_markCuts_17 : decode cX1_markCuts 17 = .ok (.iinc 1 1, 3) := by decide +kernel
theorem dX1_markCuts_20 : decode cX1_markCuts 20 = .ok (.goto (-18), 3) := by decide +kernel
theorem dX1_markCuts_23 : decode cX1_markCuts 23 = .ok (.iconst 0, 1) := by decide +kernel
theorem dX1_markCuts_24 : decode cX1_markCuts 24 = .ok (.istore_n 1, 1) := by decide +kernel
theorem dX1_markCuts_25 : decode cX1_markCuts 25 = .ok (.iload_n 1, 1) := by decide +kernel
theorem dX1_markCuts_26 : decode cX1_markCuts 26 = .ok (.aload_n 0, 1) := by decide +kernel
theorem dX1_markCuts_27 : decode cX1_markCuts 27 = .ok (.getfield 34, 3) := by decide +kernel
theorem dX1_markCuts_30 : decode cX1_markCuts 30 = .ok (.if_icmp .ge 33, 3) := by decide +kernel
theorem dX1_markCuts_33 : decode cX1_markCuts 33 = .ok (.aload_n 0, 1) := by decide +kernel
theorem dX1_markCuts_34 : decode cX1_markCuts 34 = .ok (.getfield 30, 3) := by decide +kernel
theorem dX1_markCuts_37 : decode cX1_markCuts 37 = .ok (.aload_n 0, 1) := by decide +kernel
theorem dX1_markCuts_38 : decode cX1_markCuts 38 = .ok (.getfield 15, 3) := by decide +kernel
theorem dX1_markCuts_41 : decode cX1_markCuts 41 = .ok (.iload_n 1, 1) := by decide +kernel
theorem dX1_markCuts_42 : decode cX1_markCuts 42 = .ok (.iaload, 1) := by decide +kernel
theorem dX1_markCuts_43 : decode cX1_markCuts 43 = .ok (.iconst 1, 1) := by decide +kernel
theorem dX1_markCuts_44 : decode cX1_markCuts 44 = .ok (.bastore, 1) := by decide +kernel
theorem dX1_markCuts_45 : decode cX1_markCuts 45 = .ok (.aload_n 0, 1) := by decide +kernel
theorem dX1_markCuts_46 : decode cX1_markCuts 46 = .ok (.getfield 30, 3) := by decide +kernel
theorem dX1_markCuts_49 : decode cX1_markCuts 49 = .ok (.aload_n 0, 1) := by decide +kernel
theorem dX1_markCuts_50 : decode cX1_markCuts 50 = .ok (.getfield 21, 3) := by decide +kernel
theorem dX1_markCuts_53 : decode cX1_markCuts 53 = .ok (.iload_n 1, 1) := by decide +kernel
theorem dX1_markCuts_54 : decode cX1_markCuts 54 = .ok (.iaload, 1) := by decide +kernel
theorem dX1_markCuts_55 : decode cX1_markCuts 55 = .ok (.iconst 1, 1) := by decide +kernel
theorem dX1_markCuts_56 : decode cX1_markCuts 56 = .ok (.bastore, 1) := by decide +kernel
theorem dX1_markCuts_57 : decode cX1_markCuts 57 = .ok (.iinc 1 1, 3) := by decide +kernel
theorem dX1_markCuts_60 : decode cX1_markCuts 60 = .ok (.goto (-35), 3) := by decide +kernel
theorem dX1_markCuts_63 : decode cX1_markCuts 63 = .ok (.return_, 1) := by decide +kernel
theorem dX1_lengthInRow_0 : decode cX1_lengthInRow 0 = .ok (.iconst 0, 1) := by decide +kernel
theorem dX1_lengthInRow_1 : decode cX1_lengthInRow 1 = .ok (.istore_n 2, 1) := by decide +kernel
theorem dX1_lengthInRow_2 : decode cX1_lengthInRow 2 = .ok (.iconst 0, 1) := by decide +kernel
theorem dX1_lengthInRow_3 : decode cX1_lengthInRow 3 = .ok (.istore_n 3, 1) := by decide +kernel
theorem dX1_lengthInRow_4 : decode cX1_lengthInRow 4 = .ok (.iconst 0, 1) := by decide +kernel
theorem dX1_lengthInRow_5 : decode cX1_lengthInRow 5 = .ok (.istore 4, 2) := by decide +kernel
theorem dX1_lengthInRow_7 : decode cX1_lengthInRow 7 = .ok (.iload 4, 2) := by decide +kernel
theorem dX1_lengthInRow_9 : decode cX1_lengthInRow 9 = .ok (.aload_n 0, 1) := by decide +kernel
theorem dX1_lengthInRow_10 : decode cX1_lengthInRow 10 = .ok (.getfield 34, 3) := by decide +kernel
theorem dX1_lengthInRow_13 : decode cX1_lengthInRow 13 = .ok (.if_icmp .ge 81, 3) := by decide +kernel
theorem dX1_lengthInRow_16 : decode cX1_lengthInRow 16 = .ok (.aload_n 0, 1) := by decide +kernel
theorem dX1_lengthInRow_17 : decode cX1_lengthInRow 17 = .ok (.getfield 24, 3) := by decide +kernel
theorem dX1_lengthInRow_20 : decode cX1_lengthInRow 20 = .ok (.iload 4, 2) := by decide +kernel
theorem dX1_lengthInRow_22 : decode cX1_lengthInRow 22 = .ok (.iaload, 1) := by decide +kernel
theorem dX1_lengthInRow_23 : decode cX1_lengthInRow 23 = .ok (.istore 5, 2) := by decide +kernel
theorem dX1_lengthInRow_25 : decode cX1_lengthInRow 25 = .ok (.aload_n 0, 1) := by decide +kernel
theorem dX1_lengthInRow_26 : decode cX1_lengthInRow 26 = .ok (.getfield 15, 3) := by decide +kernel
theorem dX1_lengthInRow_29 : decode cX1_lengthInRow 29 = .ok (.iload 5, 2) := by decide +kernel
theorem dX1_lengthInRow_31 : decode cX1_lengthInRow 31 = .ok (.iaload, 1) := by decide +kernel
theorem dX1_lengthInRow_32 : decode cX1_lengthInRow 32 = .ok (.iload_n 1, 1) := by decide +kernel
theorem dX1_lengthInRow_33 : decode cX1_lengthInRow 33 = .ok (.if_icmp .gt 55, 3) := by decide +kernel
theorem dX1_lengthInRow_36 : decode cX1_lengthInRow 36 = .ok (.iload_n 1, 1) := by decide +kernel
theorem dX1_lengthInRow_37 : decode cX1_lengthInRow 37 = .ok (.aload_n 0, 1) := by decide +kernel
theorem dX1_lengthInRow_38 : decode cX1_lengthInRow 38 = .ok (.getfield 21, 3) := by decide +kernel
theorem dX1_lengthInRow_41 : decode cX1_lengthInRow 41 = .ok (.iload 5, 2) := by decide +kernel
theorem dX1_lengthInRow_43 : decode cX1_lengthInRow 43 = .ok (.iaload, 1) := by decide +kernel
theorem dX1_lengthInRow_44 : decode cX1_lengthInRow 44 = .ok (.if_icmp .ge 44, 3) := by decide +kernel
theorem dX1_lengthInRow_47 : decode cX1_lengthInRow 47 = .ok (.aload_n 0, 1) := by decide +kernel
theorem dX1_lengthInRow_48 : decode cX1_lengthInRow 48 = .ok (.getfield 18, 3) := by decide +kernel
theorem dX1_lengthInRow_51 : decode cX1_lengthInRow 51 = .ok (.iload 5, 2) := by decide +kernel
theorem dX1_lengthInRow_53 : decode cX1_lengthInRow 53 = .ok (.iaload, 1) := by decide +kernel
theorem dX1_lengthInRow_54 : decode cX1_lengthInRow 54 = .ok (.iload_n 3, 1) := by decide +kernel
theorem dX1_lengthInRow_55 : decode cX1_lengthInRow 55 = .ok (.if_icmp .le 33, 3) := by decide +kernel
theorem dX1_lengthInRow_58 : decode cX1_lengthInRow 58 = .ok (.iload_n 2, 1) := by decide +kernel
theorem dX1_lengthInRow_59 : decode cX1_lengthInRow 59 = .ok (.aload_n 0, 1) := by decide +kernel
theorem dX1_lengthInRow_60 : decode cX1_lengthInRow 60 = .ok (.getfield 18, 3) := by decide +kernel
theorem dX1_lengthInRow_63 : decode cX1_lengthInRow 63 = .ok (.iload 5, 2) := by decide +kernel
theorem dX1_lengthInRow_65 : decode cX1_lengthInRow 65 = .ok (.iaload, 1) := by decide +kernel
theorem dX1_lengthInRow_66 : decode cX1_lengthInRow 66 = .ok (.aload_n 0, 1) := by decide +kernel
theorem dX1_lengthInRow_67 : decode cX1_lengthInRow 67 = .ok (.getfield 9, 3) := by decide +kernel
theorem dX1_lengthInRow_70 : decode cX1_lengthInRow 70 = .ok (.iload 5, 2) := by decide +kernel
theorem dX1_lengthInRow_72 : decode cX1_lengthInRow 72 = .ok (.iaload, 1) := by decide +kernel
theorem dX1_lengthInRow_73 : decode cX1_lengthInRow 73 = .ok (.iload_n 3, 1) := by decide +kernel
theorem dX1_lengthInRow_74 : decode cX1_lengthInRow 74 = .ok (.invokestatic 67, 3) := by decide +kernel
theorem dX1_lengthInRow_77 : decode cX1_lengthInRow 77 = .ok (.isub, 1) := by decide +kernel
theorem dX1_lengthInRow_78 : decode cX1_lengthInRow 78 = .ok (.iadd, 1) := by decide +kernel
theorem dX1_lengthInRow_79 : decode cX1_lengthInRow 79 = .ok (.istore_n 2, 1) := by decide +kernel
theorem dX1_lengthInRow_80 : decode cX1_lengthInRow 80 = .ok (.aload_n 0, 1) := by decide +kernel
theorem dX1_lengthInRow_81 : decode cX1_lengthInRow 81 = .ok (.getfield 18, 3) := by decide +kernel
theorem dX1_lengthInRow_84 : decode cX1_lengthInRow 84 = .ok (.iload 5, 2) := by decide +kernel
theorem dX1_lengthInRow_86 : decode cX1_lengthInRow 86 = .ok (.iaload, 1) := by decide +kernel
theorem dX1_lengthInRow_87 : decode cX1_lengthInRow 87 = .ok (.istore_n 3, 1) := by decide +kernel
theorem dX1_lengthInRow_88 : decode cX1_lengthInRow 88 = .ok (.iinc 4 1, 3) := by decide +kernel
theorem dX1_lengthInRow_91 : decode cX1_lengthInRow 91 = .ok (.goto (-84), 3) := by decide +kernel
theorem dX1_lengthInRow_94 : decode cX1_lengthInRow 94 = .ok (.iload_n 2, 1) := by decide +kernel
theorem dX1_lengthInRow_95 : decode cX1_lengthInRow 95 = .ok (.ireturn, 1) := by decide +kernel
