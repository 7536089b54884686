theorem dX5_density_79 : decode cX5_density 79 = .ok (.lload 4, 2) := by decide +kernel
theorem dX5_density_81 : decode cX5_density 81 = .ok (.l2i, 1) := by decide +kernel
theorem dX5_density_82 : decode cX5_density 82 = .ok (.lload_n 2, 1) := by decide +kernel
theorem dX5_density_83 : decode cX5_density 83 = .ok (.l2i, 1) := by decide +kernel
theorem dX5_density_84 : decode cX5_density 84 = .ok (.sipush 200, 3) := by decide +kernel
theorem dX5_density_87 : decode cX5_density 87 = .ok (.iadd, 1) := by decide +kernel
theorem dX5_density_88 : decode cX5_density 88 = .ok (.lload 4, 2) := by decide +kernel
theorem dX5_density_90 : decode cX5_density 90 = .ok (.l2i, 1) := by decide +kernel
theorem dX5_density_91 : decode cX5_density 91 = .ok (.sipush 200, 3) := by decide +kernel
theorem dX5_density_94 : decode cX5_density 94 = .ok (.iadd, 1) := by decide +kernel
theorem dX5_density_95 : decode cX5_density 95 = .ok (.invokevirtual 113, 3) := by decide +kernel
theorem dX5_density_98 : decode cX5_density 98 = .ok (.i2l, 1) := by decide +kernel
theorem dX5_density_99 : decode cX5_density 99 = .ok (.ldc2_w 185, 3) := by decide +kernel
theorem dX5_density_102 : decode cX5_density 102 = .ok (.iload 6, 2) := by decide +kernel
theorem dX5_density_104 : decode cX5_density 104 = .ok (.invokestatic 157, 3) := by decide +kernel
theorem dX5_density_107 : decode cX5_density 107 = .ok (.lreturn, 1) := by decide +kernel
set_option maxRecDepth 20000 in
theorem ggX5_bounds_X5_isLayer : GoodIn wsX5_bounds wsX5_isLayer := goodIn_r _ [8, 9, 10, 11, 12, 13, 14, 15, 16, 17, 18, 19, 20, 21, 22, 23, 24, 25, 26, 27, 28, 29, 30, 31, 32, 33, 34, 35, 36, 37, 38, 39, 40] (by decide +kernel) (by decide +kernel)
set_option maxRecDepth 20000 in
theorem gX5_bounds_X5_isLayer : GoodIn wsX5_bounds (wsV RX5 121 RX5 yX5_isLayer wsX5_isLayer) := goodIn_app (goodIn_of _ (by decide +kernel)) ggX5_bounds_X5_isLayer
theorem dX5_bounds_0 : decode cX5_bounds 0 = .ok (.aload_n 0, 1) := by decide +kernel
theorem dX5_bounds_1 : decode cX5_bounds 1 = .ok (.aload_n 0, 1) := by decide +kernel
theorem dX5_bounds_2 : decode cX5_bounds 2 = .ok (.iload_n 1, 1) := by decide +kernel
theorem dX5_bounds_3 : decode cX5_bounds 3 = .ok (.invokevirtual 121, 3) := by decide +kernel
theorem dX5_bounds_6 : decode cX5_bounds 6 = .ok (.ifCond .ne 7, 3) := by decide +kernel
theorem dX5_bounds_9 : decode cX5_bounds 9 = .ok (.iconst 1, 1) := by decide +kernel
theorem dX5_bounds_10 : decode cX5_bounds 10 = .ok (.goto 23, 3) := by decide +kernel
theorem dX5_bounds_13 : decode cX5_bounds 13 = .ok (.iload_n 2, 1) := by decide +kernel
theorem dX5_bounds_14 : decode cX5_bounds 14 = .ok (.ifCond .lt 14, 3) := by decide +kernel
theorem dX5_bounds_17 : decode cX5_bounds 17 = .ok (.iload_n 2, 1) := by decide +kernel
theorem dX5_bounds_18 : decode cX5_bounds 18 = .ok (.iload_n 3, 1) := by decide +kernel
theorem dX5_bounds_19 : decode cX5_bounds 19 = .ok (.if_icmp .gt 9, 3) := by decide +kernel
theorem dX5_bounds_22 : decode cX5_bounds 22 = .ok (.iload_n 3, 1) := by decide +kernel
theorem dX5_bounds_23 : decode cX5_bounds 23 = .ok (.bipush 100, 2) := by decide +kernel
theorem dX5_bounds_25 : decode cX5_bounds 25 = .ok (.if_icmp .le 7, 3) := by decide +kernel
theorem dX5_bounds_28 : decode cX5_bounds 28 = .ok (.iconst 2, 1) := by decide +kernel
theorem dX5_bounds_29 : decode cX5_bounds 29 = .ok (.goto 4, 3) := by decide +kernel
theorem dX5_bounds_32 : decode cX5_bounds 32 = .ok (.iconst 0, 1) := by decide +kernel
theorem dX5_bounds_33 : decode cX5_bounds 33 = .ok (.putfield 84, 3) := by decide +kernel
theorem dX5_bounds_36 : decode cX5_bounds 36 = .ok (.aload_n 0, 1) := by decide +kernel
theorem dX5_bounds_37 : decode cX5_bounds 37 = .ok (.getfield 84, 3) := by decide +kernel
theorem dX5_bounds_40 : decode cX5_bounds 40 = .ok (.ifCond .le 5, 3) := by decide +kernel
theorem dX5_bounds_43 : decode cX5_bounds 43 = .ok (.iconst 0, 1) := by decide +kernel
theorem dX5_bounds_44 : decode cX5_bounds 44 = .ok (.ireturn, 1) := by decide +kernel
theorem dX5_bounds_45 : decode cX5_bounds 45 = .ok (.aload_n 0, 1) := by decide +kernel
theorem dX5_bounds_46 : decode cX5_bounds 46 = .ok (.getfield 50, 3) := by decide +kernel
theorem dX5_bounds_49 : decode cX5_bounds 49 = .ok (.iload_n 1, 1) := by decide +kernel
theorem dX5_bounds_50 : decode cX5_bounds 50 = .ok (.iaload, 1) := by decide +kernel
theorem dX5_bounds_51 : decode cX5_bounds 51 = .ok (.iload_n 2, 1) := by decide +kernel
theorem dX5_bounds_52 : decode cX5_bounds 52 = .ok (.if_icmp .ne 13, 3) := by decide +kernel
theorem dX5_bounds_55 : decode cX5_bounds 55 = .ok (.aload_n 0, 1) := by decide +kernel
theorem dX5_bounds_56 : decode cX5_bounds 56 = .ok (.getfield 53, 3) := by decide +kernel
theorem dX5_bounds_59 : decode cX5_bounds 59 = .ok (.iload_n 1, 1) := by decide +kernel
theorem dX5_bounds_60 : decode cX5_bounds 60 = .ok (.iaload, 1) := by decide +kernel
theorem dX5_bounds_61 : decode cX5_bounds 61 = .ok (.iload_n 3, 1) := by decide +kernel
theorem dX5_bounds_62 : decode cX5_bounds 62 = .ok (.if_icmp .eq 7, 3) := by decide +kernel
theorem dX5_bounds_65 : decode cX5_bounds 65 = .ok (.iconst 1, 1) := by decide +kernel
theorem dX5_bounds_66 : decode cX5_bounds 66 = .ok (.goto 4, 3) := by decide +kernel
theorem dX5_bounds_69 : decode cX5_bounds 69 = .ok (.iconst 0, 1) := by decide +kernel
theorem dX5_bounds_70 : decode cX5_bounds 70 = .ok (.istore 4, 2) := by decide +kernel
theorem dX5_bounds_72 : decode cX5_bounds 72 = .ok (.aload_n 0, 1) := by decide +kernel
theorem dX5_bounds_73 : decode cX5_bounds 73 = .ok (.getfield 50, 3) := by decide +kernel
theorem dX5_bounds_76 : decode cX5_bounds 76 = .ok (.iload_n 1, 1) := by decide +kernel
theorem dX5_bounds_77 : decode cX5_bounds 77 = .ok (.iload_n 2, 1) := by decide +kernel
theorem dX5_bounds_78 : decode cX5_bounds 78 = .ok (.iastore, 1) := by decide +kernel
theorem dX5_bounds_79 : decode cX5_bounds 79 = .ok (.aload_n 0, 1) := by decide +kernel
theorem dX5_bounds_80 : decode cX5_bounds 80 = .ok (.getfield 53, 3) := by decide +kernel
theorem dX5_bounds_83 : decode cX5_bounds 83 = .ok (.iload_n 1, 1) := by decide +kernel
theorem dX5_bounds_84 : decode cX5_bounds 84 = .ok (.iload_n 3, 1) := by decide +kernel
theorem dX5_bounds_85 : decode cX5_bounds 85 = .ok (.iastore, 1) := by decide +kernel
theorem dX5_bounds_86 : decode cX5_bounds 86 = .ok (.iload 4, 2) := by decide +kernel
theorem dX5_bounds_88 : decode cX5_bounds 88 = .ok (.ireturn, 1) := by decide +kernel
theorem dX5_dropPieces_0 : decode cX5_dropPieces 0 = .ok (.iconst 0, 1) := by decide +kernel
theorem dX5_dropPieces_1 : decode cX5_dropPieces 1 = .ok (.istore_n 2, 1) := by decide +kernel
theorem dX5_dropPieces_2 : decode cX5_dropPieces 2 = .ok (.iconst 0, 1) := by decide +kernel
theorem dX5_dropPieces_3 : decode cX5_dropPieces 3 = .ok (.istore_n 3, 1) := by decide +kernel
theorem dX5_dropPieces_4 : decode cX5_dropPieces 4 = .ok (.iload_n 3, 1) := by decide +kernel
theorem dX5_dropPieces_5 : decode cX5_dropPieces 5 = .ok (.aload_n 0, 1) := by decide +kernel
theorem dX5_dropPieces_6 : decode cX5_dropPieces 6 = .ok (.getfield 165, 3) := by decide +kernel
theorem dX5_dropPieces_9 : decode cX5_dropPieces 9 = .ok (.if_icmp .ge 82, 3) := by decide +kernel
theorem dX5_dropPieces_12 : decode cX5_dropPieces 12 = .ok (.aload_n 0, 1) := by decide +kernel
theorem dX5_dropPieces_13 : decode cX5_dropPieces 13 = .ok (.getfield 56, 3) := by decide +kernel
theorem dX5_dropPieces_16 : decode cX5_dropPieces 16 = .ok (.iload_n 3, 1) := by decide +kernel
theorem dX5_dropPieces_17 : decode cX5_dropPieces 17 = .ok (.iaload, 1) := by decide +kernel
theorem dX5_dropPieces_18 : decode cX5_dropPieces 18 = .ok (.iload_n 1, 1) := by decide +kernel
theorem dX5_dropPieces_19 : decode cX5_dropPieces 19 = .ok (.if_icmp .eq 66, 3) := by decide +kernel
theorem dX5_dropPieces_22 : decode cX5_dropPieces 22 = .ok (.aload_n 0, 1) := by decide +kernel
theorem dX5_dropPieces_23 : decode cX5_dropPieces 23 = .ok (.getfield 56, 3) := by decide +kernel
theorem dX5_dropPieces_26 : decode cX5_dropPieces 26 = .ok (.iload_n 2, 1) := by decide +kernel
theorem dX5_dropPieces_27 : decode cX5_dropPieces 27 = .ok (.aload_n 0, 1) := by decide +kernel
theorem dX5_dropPieces_28 : decode cX5_dropPieces 28 = .ok (.getfield 56, 3) := by decide +kernel
theorem dX5_dropPieces_31 : decode cX5_dropPieces 31 = .ok (.iload_n 3, 1) := by decide +kernel
theorem dX5_dropPieces_32 : decode cX5_dropPieces 32 = .ok (.iaload, 1) := by decide +kernel
theorem dX5_dropPieces_33 : decode cX5_dropPieces 33 = .ok (.iastore, 1) := by decide +kernel
theorem dX5_dropPieces_34 : decode cX5_dropPieces 34 = .ok (.aload_n 0, 1) := by decide +kernel
theorem dX5_dropPieces_35 : decode cX5_dropPieces 35 = .ok (.getfield 59, 3) := by decide +kernel
theorem dX5_dropPieces_38 : decode cX5_dropPieces 38 = .ok (.iload_n 2, 1) := by decide +kernel
theorem dX5_dropPieces_39 : decode cX5_dropPieces 39 = .ok (.aload_n 0, 1) := by decide +kernel
theorem dX5_dropPieces_40 : decode cX5_dropPieces 40 = .ok (.getfield 59, 3) := by decide +kernel
theorem dX5_dropPieces_43 : decode cX5_dropPieces 43 = .ok (.iload_n 3, 1) := by decide +kernel
theorem dX5_dropPieces_44 : decode cX5_dropPieces 44 = .ok (.iaload, 1) := by decide +kernel
theorem dX5_dropPieces_45 : decode cX5_dropPieces 45 = .ok (.iastore, 1) := by decide +kernel
theorem dX5_dropPieces_46 : decode cX5_dropPieces 46 = .ok (.aload_n 0, 1) := by decide +kernel
theorem dX5_dropPieces_47 : decode cX5_dropPieces 47 = .ok (.getfield 62, 3) := by decide +kernel
theorem dX5_dropPieces_50 : decode cX5_dropPieces 50 = .ok (.iload_n 2, 1) := by decide +kernel
theorem dX5_dropPieces_51 : decode cX5_dropPieces 51 = .ok (.aload_n 0, 1) := by decide +kernel
theorem dX5_dropPieces_52 : decode cX5_dropPieces 52 = .ok (.getfield 62, 3) := by decide +kernel
theorem dX5_dropPieces_55 : decode cX5_dropPieces 55 = .ok (.iload_n 3, 1) := by decide +kernel
theorem dX5_dropPieces_56 : decode cX5_dropPieces 56 = .ok (.iaload, 1) := by decide +kernel
theorem dX5_dropPieces_57 : decode cX5_dropPieces 57 = .ok (.iastore, 1) := by decide +kernel
theorem dX5_dropPieces_58 : decode cX5_dropPieces 58 = .ok (.aload_n 0, 1) := by decide +kernel
theorem dX5_dropPieces_59 : decode cX5_dropPieces 59 = .ok (.getfield 65, 3) := by decide +kernel
theorem dX5_dropPieces_62 : decode cX5_dropPieces 62 = .ok (.iload_n 2, 1) := by decide +kernel
theorem dX5_dropPieces_63 : decode cX5_dropPieces 63 = .ok (.aload_n 0, 1) := by decide +kernel
theorem dX5_dropPieces_64 : decode cX5_dropPieces 64 = .ok (.getfield 65, 3) := by decide +kernel
theorem dX5_dropPieces_67 : decode cX5_dropPieces 67 = .ok (.iload_n 3, 1) := by decide +kernel
theorem dX5_dropPieces_68 : decode cX5_dropPieces 68 = .ok (.iaload, 1) := by decide +kernel
theorem dX5_dropPieces_69 : decode cX5_dropPieces 69 = .ok (.iastore, 1) := by decide +kernel
theorem dX5_dropPieces_70 : decode cX5_dropPieces 70 = .ok (.aload_n 0, 1) := by decide +kernel
theorem dX5_dropPieces_71 : decode cX5_dropPieces 71 = .ok (.getfield 68, 3) := by decide +kernel
theorem dX5_dropPieces_74 : decode cX5_dropPieces 74 = .ok (.iload_n 2, 1) := by decide +kernel
theorem dX5_dropPieces_75 : decode cX5_dropPieces 75 = .ok (.aload_n 0, 1) := by decide +kernel
theorem dX5_dropPieces_76 : decode cX5_dropPieces 76 = .ok (.getfield 68, 3) := by decide +kernel
theorem dX5_dropPieces_79 : decode cX5_dropPieces 79 = .ok (.iload_n 3, 1) := by decide +kernel
theorem dX5_dropPieces_80 : decode cX5_dropPieces 80 = .ok (.iaload, 1) := by decide +kernel
theorem dX5_dropPieces_81 : decode cX5_dropPieces 81 = .ok (.iastore, 1) := by decide +kernel
theorem dX5_dropPieces_82 : decode cX5_dropPieces 82 = .ok (.iinc 2 1, 3) := by decide +kernel
theorem dX5_dropPieces_85 : decode cX5_dropPieces 85 = .ok (.iinc 3 1, 3) := by decide +kernel
theorem dX5_dropPieces_88 : decode cX5_dropPieces 88 = .ok (.goto (-84), 3) := by decide +kernel
theorem dX5_dropPieces_91 : decode cX5_dropPieces 91 = .ok (.aload_n 0, 1) := by decide +kernel
theorem dX5_dropPieces_92 : decode cX5_dropPieces 92 = .ok (.iload_n 2, 1) := by decide +kernel
theorem dX5_dropPieces_93 : decode cX5_dropPieces 93 = .ok (.putfield 165, 3) := by decide +kernel
theorem dX5_dropPieces_96 : decode cX5_dropPieces 96 = .ok (.return_, 1) := by decide +kernel
theorem dX5_areOver_0 : decode cX5_areOver 0 = .ok (.iload_n 0, 1) := by decide +kernel
theorem dX5_areOver_1 : decode cX5_areOver 1 = .ok (.iload 6, 2) := by decide +kernel
theorem dX5_areOver_3 : decode cX5_areOver 3 = .ok (.if_icmp .ge 25, 3) := by decide +kernel
theorem dX5_areOver_6 : decode cX5_areOver 6 = .ok (.iload 4, 2) := by decide +kernel
theorem dX5_areOver_8 : decode cX5_areOver 8 = .ok (.iload_n 2, 1) := by decide +kernel
theorem dX5_areOver_9 : decode cX5_areOver 9 = .ok (.if_icmp .ge 19, 3) := by decide +kernel
theorem dX5_areOver_12 : decode cX5_areOver 12 = .ok (.iload_n 1, 1) := by decide +kernel
theorem dX5_areOver_13 : decode cX5_areOver 13 = .ok (.iload 7, 2) := by decide +kernel
theorem dX5_areOver_15 : decode cX5_areOver 15 = .ok (.if_icmp .ge 13, 3) := by decide +kernel
theorem dX5_areOver_18 : decode cX5_areOver 18 = .ok (.iload 5, 2) := by decide +kernel
theorem dX5_areOver_20 : decode cX5_areOver 20 = .ok (.iload_n 3, 1) := by decide +kernel
theorem dX5_areOver_21 : decode cX5_areOver 21 = .ok (.if_icmp .ge 7, 3) := by decide +kernel
theorem dX5_areOver_24 : decode cX5_areOver 24 = .ok (.iconst 1, 1) := by decide +kernel
theorem dX5_areOver_25 : decode cX5_areOver 25 = .ok (.goto 4, 3) := by decide +kernel
theorem dX5_areOver_28 : decode cX5_areOver 28 = .ok (.iconst 0, 1) := by decide +kernel
theorem dX5_areOver_29 : decode cX5_areOver 29 = .ok (.ireturn, 1) := by decide +kernel
set_option maxRecDepth 20000 in
theorem ggX5_fits_X5_areOver : GoodIn wsX5_fits wsX5_areOver := goodIn_r _ [16] (by decide +kernel) (by decide +kernel)
set_option maxRecDepth 20000 in
theorem gX5_fits_X5_areOver : GoodIn wsX5_fits (va_wsS RX5 187 yX5_areOver wsX5_areOver) := goodIn_app (goodIn_of _ (by decide +kernel)) ggX5_fits_X5_areOver
theorem dX5_fits_0 : decode cX5_fits 0 = .ok (.iconst 1, 1) := by decide +kernel
theorem dX5_fits_1 : decode cX5_fits 1 = .ok (.istore 8, 2) := by decide +kernel
theorem dX5_fits_3 : decode cX5_fits 3 = .ok (.iconst 0, 1) := by decide +kernel
theorem dX5_fits_4 : decode cX5_fits 4 = .ok (.istore 9, 2) := by decide +kernel
theorem dX5_fits_6 : decode cX5_fits 6 = .ok (.iload 9, 2) := by decide +kernel
theorem dX5_fits_8 : decode cX5_fits 8 = .ok (.aload_n 0, 1) := by decide +kernel
theorem dX5_fits_9 : decode cX5_fits 9 = .ok (.getfield 102, 3) := by decide +kernel
theorem dX5_fits_12 : decode cX5_fits 12 = .ok (.if_icmp .ge 104, 3) := by decide +kernel
theorem dX5_fits_15 : decode cX5_fits 15 = .ok (.iload 8, 2) := by decide +kernel
theorem dX5_fits_17 : decode cX5_fits 17 = .ok (.ifCond .eq 99, 3) := by decide +kernel
theorem dX5_fits_20 : decode cX5_fits 20 = .ok (.aload_n 0, 1) := by decide +kernel
theorem dX5_fits_21 : decode cX5_fits 21 = .ok (.getfield 17, 3) := by decide +kernel
theorem dX5_fits_24 : decode cX5_fits 24 = .ok (.iload 9, 2) := by decide +kernel
theorem dX5_fits_26 : decode cX5_fits 26 = .ok (.iaload, 1) := by decide +kernel
theorem dX5_fits_27 : decode cX5_fits 27 = .ok (.iload_n 1, 1) := by decide +kernel
theorem dX5_fits_28 : decode cX5_fits 28 = .ok (.if_icmp .ne 75, 3) := by decide +kernel
theorem dX5_fits_31 : decode cX5_fits 31 = .ok (.iload_n 3, 1) := by decide +kernel
theorem dX5_fits_32 : decode cX5_fits 32 = .ok (.iload 7, 2) := by decide +kernel
theorem dX5_fits_34 : decode cX5_fits 34 = .ok (.isub, 1) := by decide +kernel
theorem dX5_fits_35 : decode cX5_fits 35 = .ok (.iload 4, 2) := by decide +kernel
theorem dX5_fits_37 : decode cX5_fits 37 = .ok (.iload 7, 2) := by decide +kernel
theorem dX5_fits_39 : decode cX5_fits 39 = .ok (.isub, 1) := by decide +kernel
theorem dX5_fits_40 : decode cX5_fits 40 = .ok (.iload_n 3, 1) := by decide +kernel
theorem dX5_fits_41 : decode cX5_fits 41 = .ok (.iload 5, 2) := by decide +kernel
theorem dX5_fits_43 : decode cX5_fits 43 = .ok (.iadd, 1) := by decide +kernel
theorem dX5_fits_44 : decode cX5_fits 44 = .ok (.iload 7, 2) := by decide +kernel
theorem dX5_fits_46 : decode cX5_fits 46 = .ok (.iadd, 1) := by decide +kernel
theorem dX5_fits_47 : decode cX5_fits 47 = .ok (.iload 4, 2) := by decide +kernel
theorem dX5_fits_49 : decode cX5_fits 49 = .ok (.iload 5, 2) := by decide +kernel
theorem dX5_fits_51 : decode cX5_fits 51 = .ok (.iadd, 1) := by decide +kernel
theorem dX5_fits_52 : decode cX5_fits 52 = .ok (.iload 7, 2) := by decide +kernel
theorem dX5_fits_54 : decode cX5_fits 54 = .ok (.iadd, 1) := by decide +kernel
theorem dX5_fits_55 : decode cX5_fits 55 = .ok (.aload_n 0, 1) := by decide +kernel
theorem dX5_fits_56 : decode cX5_fits 56 = .ok (.getfield 20, 3) := by decide +kernel
theorem dX5_fits_59 : decode cX5_fits 59 = .ok (.iconst 4, 1) := by decide +kernel
theorem dX5_fits_60 : decode cX5_fits 60 = .ok (.iload 9, 2) := by decide +kernel
theorem dX5_fits_62 : decode cX5_fits 62 = .ok (.imul, 1) := by decide +kernel
theorem dX5_fits_63 : decode cX5_fits 63 = .ok (.iaload, 1) := by decide +kernel
theorem dX5_fits_64 : decode cX5_fits 64 = .ok (.aload_n 0, 1) := by decide +kernel
theorem dX5_fits_65 : decode cX5_fits 65 = .ok (.getfield 20, 3) := by decide +kernel
theorem dX5_fits_68 : decode cX5_fits 68 = .ok (.iconst 4, 1) := by decide +kernel
theorem dX5_fits_69 : decode cX5_fits 69 = .ok (.iload 9, 2) := by decide +kernel
theorem dX5_fits_71 : decode cX5_fits 71 = .ok (.imul, 1) := by decide +kernel
theorem dX5_fits_72 : decode cX5_fits 72 = .ok (.iconst 1, 1) := by decide +kernel
theorem dX5_fits_73 : decode cX5_fits 73 = .ok (.iadd, 1) := by decide +kernel
theorem dX5_fits_74 : decode cX5_fits 74 = .ok (.iaload, 1) := by decide +kernel
theorem dX5_fits_75 : decode cX5_fits 75 = .ok (.aload_n 0, 1) := by decide +kernel
theorem dX5_fits_76 : decode cX5_fits 76 = .ok (.getfield 20, 3) := by decide +kernel
theorem dX5_fits_79 : decode cX5_fits 79 = .ok (.iconst 4, 1) := by decide +kernel
theorem dX5_fits_80 : decode cX5_fits 80 = .ok (.iload 9, 2) := by decide +kernel
theorem dX5_fits_82 : decode cX5_fits 82 = .ok (.imul, 1) := by decide +kernel
theorem dX5_fits_83 : decode cX5_fits 83 = .ok (.iconst 2, 1) := by decide +kernel
theorem dX5_fits_84 : decode cX5_fits 84 = .ok (.iadd, 1) := by decide +kernel
theorem dX5_fits_85 : decode cX5_fits 85 = .ok (.iaload, 1) := by decide +kernel
theorem dX5_fits_86 : decode cX5_fits 86 = .ok (.aload_n 0, 1) := by decide +kernel
theorem dX5_fits_87 : decode cX5_fits 87 = .ok (.getfield 20, 3) := by decide +kernel
theorem dX5_fits_90 : decode cX5_fits 90 = .ok (.iconst 4, 1) := by decide +kernel
theorem dX5_fits_91 : decode cX5_fits 91 = .ok (.iload 9, 2) := by decide +kernel
theorem dX5_fits_93 : decode cX5_fits 93 = .ok (.imul, 1) := by decide +kernel
theorem dX5_fits_94 : decode cX5_fits 94 = .ok (.iconst 3, 1) := by decide +kernel
theorem dX5_fits_95 : decode cX5_fits 95 = .ok (.iadd, 1) := by decide +kernel
theorem dX5_fits_96 : decode cX5_fits 96 = .ok (.iaload, 1) := by decide +kernel
theorem dX5_fits_97 : decode cX5_fits 97 = .ok (.invokestatic 187, 3) := by decide +kernel
theorem dX5_fits_100 : decode cX5_fits 100 = .ok (.ifCond .ne 7, 3) := by decide +kernel
theorem dX5_fits_103 : decode cX5_fits 103 = .ok (.iconst 1, 1) := by decide +kernel
theorem dX5_fits_104 : decode cX5_fits 104 = .ok (.goto 4, 3) := by decide +kernel
theorem dX5_fits_107 : decode cX5_fits 107 = .ok (.iconst 0, 1) := by decide +kernel
theorem dX5_fits_108 : decode cX5_fits 108 = .ok (.istore 8, 2) := by decide +kernel
theorem dX5_fits_110 : decode cX5_fits 110 = .ok (.iinc 9 1, 3) := by decide +kernel
theorem dX5_fits_113 : decode cX5_fits 113 = .ok (.goto (-107), 3) := by decide +kernel
theorem dX5_fits_116 : decode cX5_fits 116 = .ok (.iconst 0, 1) := by decide +kernel
theorem dX5_fits_117 : decode cX5_fits 117 = .ok (.istore 9, 2) := by decide +kernel
theorem dX5_fits_119 : decode cX5_fits 119 = .ok (.iload 9, 2) := by decide +kernel
theorem dX5_fits_121 : decode cX5_fits 121 = .ok (.aload_n 0, 1) := by decide +kernel
theorem dX5_fits_122 : decode cX5_fits 122 = .ok (.getfield 139, 3) := by decide +kernel
theorem dX5_fits_125 : decode cX5_fits 125 = .ok (.if_icmp .ge 87, 3) := by decide +kernel
theorem dX5_fits_128 : decode cX5_fits 128 = .ok (.iload 8, 2) := by decide +kernel
theorem dX5_fits_130 : decode cX5_fits 130 = .ok (.ifCond .eq 82, 3) := by decide +kernel
theorem dX5_fits_133 : decode cX5_fits 133 = .ok (.iload_n 1, 1) := by decide +kernel
theorem dX5_fits_134 : decode cX5_fits 134 = .ok (.ifCond .ne 78, 3) := by decide +kernel
theorem dX5_fits_137 : decode cX5_fits 137 = .ok (.iload_n 3, 1) := by decide +kernel
theorem dX5_fits_138 : decode cX5_fits 138 = .ok (.iload 7, 2) := by decide +kernel
theorem dX5_fits_140 : decode cX5_fits 140 = .ok (.isub, 1) := by decide +kernel
theorem dX5_fits_141 : decode cX5_fits 141 = .ok (.iload 4, 2) := by decide +kernel
theorem dX5_fits_143 : decode cX5_fits 143 = .ok (.iload 7, 2) := by decide +kernel
theorem dX5_fits_145 : decode cX5_fits 145 = .ok (.isub, 1) := by decide +kernel
theorem dX5_fits_146 : decode cX5_fits 146 = .ok (.iload_n 3, 1) := by decide +kernel
theorem dX5_fits_147 : decode cX5_fits 147 = .ok (.iload 5, 2) := by decide +kernel
theorem dX5_fits_149 : decode cX5_fits 149 = .ok (.iadd, 1) := by decide +kernel
theorem dX5_fits_150 : decode cX5_fits 150 = .ok (.iload 7, 2) := by decide +kernel
theorem dX5_fits_152 : decode cX5_fits 152 = .ok (.iadd, 1) := by decide +kernel
theorem dX5_fits_153 : decode cX5_fits 153 = .ok (.iload 4, 2) := by decide +kernel
theorem dX5_fits_155 : decode cX5_fits 155 = .ok (.iload 5, 2) := by decide +kernel
theorem dX5_fits_157 : decode cX5_fits 157 = .ok (.iadd, 1) := by decide +kernel
theorem dX5_fits_158 : decode cX5_fits 158 = .ok (.iload 7, 2) := by decide +kernel
theorem dX5_fits_160 : decode cX5_fits 160 = .ok (.iadd, 1) := by decide +kernel
theorem dX5_fits_161 : decode cX5_fits 161 = .ok (.aload_n 0, 1) := by decide +kernel
theorem dX5_fits_162 : decode cX5_fits 162 = .ok (.getfield 38, 3) := by decide +kernel
theorem dX5_fits_165 : decode cX5_fits 165 = .ok (.iload 9, 2) := by decide +kernel
theorem dX5_fits_167 : decode cX5_fits 167 = .ok (.iaload, 1) := by decide +kernel
theorem dX5_fits_168 : decode cX5_fits 168 = .ok (.aload_n 0, 1) := by decide +kernel
theorem dX5_fits_169 : decode cX5_fits 169 = .ok (.getfield 41, 3) := by decide +kernel
theorem dX5_fits_172 : decode cX5_fits 172 = .ok (.iload 9, 2) := by decide +kernel
theorem dX5_fits_174 : decode cX5_fits 174 = .ok (.iaload, 1) := by decide +kernel
theorem dX5_fits_175 : decode cX5_fits 175 = .ok (.aload_n 0, 1) := by decide +kernel
theorem dX5_fits_176 : decode cX5_fits 176 = .ok (.getfield 38, 3) := by decide +kernel
theorem dX5_fits_179 : decode cX5_fits 179 = .ok (.iload 9, 2) := by decide +kernel
theorem dX5_fits_181 : decode cX5_fits 181 = .ok (.iaload, 1) := by decide +kernel
theorem dX5_fits_182 : decode cX5_fits 182 = .ok (.iconst 4, 1) := by decide +kernel
theorem dX5_fits_183 : decode cX5_fits 183 = .ok (.iadd, 1) := by decide +kernel
theorem dX5_fits_184 : decode cX5_fits 184 = .ok (.aload_n 0, 1) := by decide +kernel
theorem dX5_fits_185 : decode cX5_fits 185 = .ok (.getfield 41, 3) := by decide +kernel
theorem dX5_fits_188 : decode cX5_fits 188 = .ok (.iload 9, 2) := by decide +kernel
theorem dX5_fits_190 : decode cX5_fits 190 = .ok (.iaload, 1) := by decide +kernel
theorem dX5_fits_191 : decode cX5_fits 191 = .ok (.iconst 4, 1) := by decide +kernel
theorem dX5_fits_192 : decode cX5_fits 192 = .ok (.iadd, 1) := by decide +kernel
theorem dX5_fits_193 : decode cX5_fits 193 = .ok (.invokestatic 187, 3) := by decide +kernel
theorem dX5_fits_196 : decode cX5_fits 196 = .ok (.ifCond .ne 7, 3) := by decide +kernel
theorem dX5_fits_199 : decode cX5_fits 199 = .ok (.iconst 1, 1) := by decide +kernel
theorem dX5_fits_200 : decode cX5_fits 200 = .ok (.goto 4, 3) := by decide +kernel
theorem dX5_fits_203 : decode cX5_fits 203 = .ok (.iconst 0, 1) := by decide +kernel
theorem dX5_fits_204 : decode cX5_fits 204 = .ok (.istore 8, 2) := by decide +kernel
theorem dX5_fits_206 : decode cX5_fits 206 = .ok (.iinc 9 1, 3) := by decide +kernel
theorem dX5_fits_209 : decode cX5_fits 209 = .ok (.goto (-90), 3) := by decide +kernel
theorem dX5_fits_212 : decode cX5_fits 212 = .ok (.iconst 0, 1) := by decide +kernel
theorem dX5_fits_213 : decode cX5_fits 213 = .ok (.istore 9, 2) := by decide +kernel
theorem dX5_fits_215 : decode cX5_fits 215 = .ok (.iload 9, 2) := by decide +kernel
theorem dX5_fits_217 : decode cX5_fits 217 = .ok (.aload_n 0, 1) := by decide +kernel
theorem dX5_fits_218 : decode cX5_fits 218 = .ok (.getfield 165, 3) := by decide +kernel
theorem dX5_fits_221 : decode cX5_fits 221 = .ok (.if_icmp .ge 129, 3) := by decide +kernel
theorem dX5_fits_224 : decode cX5_fits 224 = .ok (.iload 8, 2) := by decide +kernel
theorem dX5_fits_226 : decode cX5_fits 226 = .ok (.ifCond .eq 124, 3) := by decide +kernel
theorem dX5_fits_229 : decode cX5_fits 229 = .ok (.aload_n 0, 1) := by decide +kernel
theorem dX5_fits_230 : decode cX5_fits 230 = .ok (.getfield 56, 3) := by decide +kernel
theorem dX5_fits_233 : decode cX5_fits 233 = .ok (.iload 9, 2) := by decide +kernel
theorem dX5_fits_235 : decode cX5_fits 235 = .ok (.iaload, 1) := by decide +kernel
theorem dX5_fits_236 : decode cX5_fits 236 = .ok (.iload_n 1, 1) := by decide +kernel
theorem dX5_fits_237 : decode cX5_fits 237 = .ok (.if_icmp .ne 18, 3) := by decide +kernel
theorem dX5_fits_240 : decode cX5_fits 240 = .ok (.aload_n 0, 1) := by decide +kernel
theorem dX5_fits_241 : decode cX5_fits 241 = .ok (.getfield 68, 3) := by decide +kernel
theorem dX5_fits_244 : decode cX5_fits 244 = .ok (.iload 9, 2) := by decide +kernel
theorem dX5_fits_246 : decode cX5_fits 246 = .ok (.iaload, 1) := by decide +kernel
theorem dX5_fits_247 : decode cX5_fits 247 = .ok (.iload_n 2, 1) := by decide +kernel
theorem dX5_fits_248 : decode cX5_fits 248 = .ok (.if_icmp .eq 7, 3) := by decide +kernel
theorem dX5_fits_251 : decode cX5_fits 251 = .ok (.iconst 1, 1) := by decide +kernel
theorem dX5_fits_252 : decode cX5_fits 252 = .ok (.goto 4, 3) := by decide +kernel
theorem dX5_fits_255 : decode cX5_fits 255 = .ok (.iconst 0, 1) := by decide +kernel
theorem dX5_fits_256 : decode cX5_fits 256 = .ok (.istore 10, 2) := by decide +kernel
theorem dX5_fits_258 : decode cX5_fits 258 = .ok (.iload 10, 2) := by decide +kernel
theorem dX5_fits_260 : decode cX5_fits 260 = .ok (.ifCond .eq 77, 3) := by decide +kernel
theorem dX5_fits_263 : decode cX5_fits 263 = .ok (.iload_n 3, 1) := by decide +kernel
theorem dX5_fits_264 : decode cX5_fits 264 = .ok (.iload 6, 2) := by decide +kernel
theorem dX5_fits_266 : decode cX5_fits 266 = .ok (.isub, 1) := by decide +kernel
theorem dX5_fits_267 : decode cX5_fits 267 = .ok (.iload 4, 2) := by decide +kernel
theorem dX5_fits_269 : decode cX5_fits 269 = .ok (.iload 6, 2) := by decide +kernel
theorem dX5_fits_271 : decode cX5_fits 271 = .ok (.isub, 1) := by decide +kernel
theorem dX5_fits_272 : decode cX5_fits 272 = .ok (.iload_n 3, 1) := by decide +kernel
theorem dX5_fits_273 : decode cX5_fits 273 = .ok (.iload 5, 2) := by decide +kernel
theorem dX5_fits_275 : decode cX5_fits 275 = .ok (.iadd, 1) := by decide +kernel
theorem dX5_fits_276 : decode cX5_fits 276 = .ok (.iload 6, 2) := by decide +kernel
theorem dX5_fits_278 : decode cX5_fits 278 = .ok (.iadd, 1) := by decide +kernel
theorem dX5_fits_279 : decode cX5_fits 279 = .ok (.iload 4, 2) := by decide +kernel
theorem dX5_fits_281 : decode cX5_fits 281 = .ok (.iload 5, 2) := by decide +kernel
theorem dX5_fits_283 : decode cX5_fits 283 = .ok (.iadd, 1) := by decide +kernel
theorem dX5_fits_284 : decode cX5_fits 284 = .ok (.iload 6, 2) := by decide +kernel
theorem dX5_fits_286 : decode cX5_fits 286 = .ok (.iadd, 1) := by decide +kernel
theorem dX5_fits_287 : decode cX5_fits 287 = .ok (.aload_n 0, 1) := by decide +kernel
theorem dX5_fits_288 : decode cX5_fits 288 = .ok (.getfield 59, 3) := by decide +kernel
theorem dX5_fits_291 : decode cX5_fits 291 = .ok (.iload 9, 2) := by decide +kernel
theorem dX5_fits_293 : decode cX5_fits 293 = .ok (.iaload, 1) := by decide +kernel
theorem dX5_fits_294 : decode cX5_fits 294 = .ok (.aload_n 0, 1) := by decide +kernel
theorem dX5_fits_295 : decode cX5_fits 295 = .ok (.getfield 62, 3) := by decide +kernel
theorem dX5_fits_298 : decode cX5_fits 298 = .ok (.iload 9, 2) := by decide +kernel
theorem dX5_fits_300 : decode cX5_fits 300 = .ok (.iaload, 1) := by decide +kernel
theorem dX5_fits_301 : decode cX5_fits 301 = .ok (.aload_n 0, 1) := by decide +kernel
theorem dX5_fits_302 : decode cX5_fits 302 = .ok (.getfield 59, 3) := by decide +kernel
theorem dX5_fits_305 : decode cX5_fits 305 = .ok (.iload 9, 2) := by decide +kernel
theorem dX5_fits_307 : decode cX5_fits 307 = .ok (.iaload, 1) := by decide +kernel
theorem dX5_fits_308 : decode cX5_fits 308 = .ok (.aload_n 0, 1) := by decide +kernel
theorem dX5_fits_309 : decode cX5_fits 309 = .ok (.getfield 65, 3) := by decide +kernel
theorem dX5_fits_312 : decode cX5_fits 312 = .ok (.iload 9, 2) := by decide +kernel
theorem dX5_fits_314 : decode cX5_fits 314 = .ok (.iaload, 1) := by decide +kernel
theorem dX5_fits_315 : decode cX5_fits 315 = .ok (.iadd, 1) := by decide +kernel
theorem dX5_fits_316 : decode cX5_fits 316 = .ok (.aload_n 0, 1) := by decide +kernel
theorem dX5_fits_317 : decode cX5_fits 317 = .ok (.getfield 62, 3) := by decide +kernel
theorem dX5_fits_320 : decode cX5_fits 320 = .ok (.iload 9, 2) := by decide +kernel
theorem dX5_fits_322 : decode cX5_fits 322 = .ok (.iaload, 1) := by decide +kernel
theorem dX5_fits_323 : decode cX5_fits 323 = .ok (.aload_n 0, 1) := by decide +kernel
theorem dX5_fits_324 : decode cX5_fits 324 = .ok (.getfield 65, 3) := by decide +kernel
theorem dX5_fits_327 : decode cX5_fits 327 = .ok (.iload 9, 2) := by decide +kernel
theorem dX5_fits_329 : decode cX5_fits 329 = .ok (.iaload, 1) := by decide +kernel
theorem dX5_fits_330 : decode cX5_fits 330 = .ok (.iadd, 1) := by decide +kernel
theorem dX5_fits_331 : decode cX5_fits 331 = .ok (.invokestatic 187, 3) := by decide +kernel
theorem dX5_fits_334 : decode cX5_fits 334 = .ok (.ifCond .ne 7, 3) := by decide +kernel
theorem dX5_fits_337 : decode cX5_fits 337 = .ok (.iconst 1, 1) := by decide +kernel
theorem dX5_fits_338 : decode cX5_fits 338 = .ok (.goto 4, 3) := by decide +kernel
theorem dX5_fits_341 : decode cX5_fits 341 = .ok (.iconst 0, 1) := by decide +kernel
theorem dX5_fits_342 : decode cX5_fits 342 = .ok (.istore 8, 2) := by decide +kernel
theorem dX5_fits_344 : decode cX5_fits 344 = .ok (.iinc 9 1, 3) := by decide +kernel
theorem dX5_fits_347 : decode cX5_fits 347 = .ok (.goto (-132), 3) := by decide +kernel
theorem dX5_fits_350 : decode cX5_fits 350 = .ok (.iload 8, 2) := by decide +kernel
theorem dX5_fits_352 : decode cX5_fits 352 = .ok (.ireturn, 1) := by decide +kernel
theorem dX5_put_0 : decode cX5_put 0 = .ok (.aload_n 0, 1) := by decide +kernel
theorem dX5_put_1 : decode cX5_put 1 = .ok (.getfield 56, 3) := by decide +kernel
theorem dX5_put_4 : decode cX5_put 4 = .ok (.aload_n 0, 1) := by decide +kernel
theorem dX5_put_5 : decode cX5_put 5 = .ok (.getfield 165, 3) := by decide +kernel
theorem dX5_put_8 : decode cX5_put 8 = .ok (.iload_n 1, 1) := by decide +kernel
theorem dX5_put_9 : decode cX5_put 9 = .ok (.iastore, 1) := by decide +kernel
theorem dX5_put_10 : decode cX5_put 10 = .ok (.aload_n 0, 1) := by decide +kernel
theorem dX5_put_11 : decode cX5_put 11 = .ok (.getfield 68, 3) := by decide +kernel
theorem dX5_put_14 : decode cX5_put 14 = .ok (.aload_n 0, 1) := by decide +kernel
theorem dX5_put_15 : decode cX5_put 15 = .ok (.getfield 165, 3) := by decide +kernel
theorem dX5_put_18 : decode cX5_put 18 = .ok (.iload_n 2, 1) := by decide +kernel
theorem dX5_put_19 : decode cX5_put 19 = .ok (.iastore, 1) := by decide +kernel
theorem dX5_put_20 : decode cX5_put 20 = .ok (.aload_n 0, 1) := by decide +kernel
theorem dX5_put_21 : decode cX5_put 21 = .ok (.getfield 59, 3) := by decide +kernel
theorem dX5_put_24 : decode cX5_put 24 = .ok (.aload_n 0, 1) := by decide +kernel
theorem dX5_put_25 : decode cX5_put 25 = .ok (.getfield 165, 3) := by decide +kernel
theorem dX5_put_28 : decode cX5_put 28 = .ok (.iload_n 3, 1) := by decide +kernel
theorem dX5_put_29 : decode cX5_put 29 = .ok (.iastore, 1) := by decide +kernel
theorem dX5_put_30 : decode cX5_put 30 = .ok (.aload_n 0, 1) := by decide +kernel
theorem dX5_put_31 : decode cX5_put 31 = .ok (.getfield 62, 3) := by decide +kernel
theorem dX5_put_34 : decode cX5_put 34 = .ok (.aload_n 0, 1) := by decide +kernel
theorem dX5_put_35 : decode cX5_put 35 = .ok (.getfield 165, 3) := by decide +kernel
theorem dX5_put_38 : decode cX5_put 38 = .ok (.iload 4, 2) := by decide +kernel
theorem dX5_put_40 : decode cX5_put 40 = .ok (.iastore, 1) := by decide +kernel
theorem dX5_put_41 : decode cX5_put 41 = .ok (.aload_n 0, 1) := by decide +kernel
theorem dX5_put_42 : decode cX5_put 42 = .ok (.getfield 65, 3) := by decide +kernel
theorem dX5_put_45 : decode cX5_put 45 = .ok (.aload_n 0, 1) := by decide +kernel
theorem dX5_put_46 : decode cX5_put 46 = .ok (.getfield 165, 3) := by decide +kernel
theorem dX5_put_49 : decode cX5_put 49 = .ok (.iload 5, 2) := by decide +kernel
theorem dX5_put_51 : decode cX5_put 51 = .ok (.iastore, 1) := by decide +kernel
theorem dX5_put_52 : decode cX5_put 52 = .ok (.aload_n 0, 1) := by decide +kernel
theorem dX5_put_53 : decode cX5_put 53 = .ok (.dup, 1) := by decide +kernel
theorem dX5_put_54 : decode cX5_put 54 = .ok (.getfield 165, 3) := by decide +kernel
theorem dX5_put_57 : decode cX5_put 57 = .ok (.iconst 1, 1) := by decide +kernel
theorem dX5_put_58 : decode cX5_put 58 = .ok (.iadd, 1) := by decide +kernel
theorem dX5_put_59 : decode cX5_put 59 = .ok (.putfield 165, 3) := by decide +kernel
theorem dX5_put_62 : decode cX5_put 62 = .ok (.return_, 1) := by decide +kernel
set_option maxRecDepth 20000 in
theorem ggX5_inTile_X5_marked : GoodIn wsX5_inTile wsX5_marked := goodIn_r _ [5, 6, 7, 8, 9, 4, 10, 11, 12, 13, 14, 15, 16, 17, 18, 19, 20, 21, 22, 23, 24, 25, 26, 27, 28, 29, 30, 31, 32, 33, 34, 35, 36, 37, 38, 39, 40, 41] (by decide +kernel) (by decide +kernel)
set_option maxRecDepth 20000 in
theorem gX5_inTile_X5_marked : GoodIn wsX5_inTile (wsV RX5 113 RX5 yX5_marked wsX5_marked) := goodIn_app (goodIn_of _ (by decide +kernel)) ggX5_inTile_X5_marked
theorem dX5_inTile_0 : decode cX5_inTile 0 = .ok (.sipush 200, 3) := by decide +kernel
theorem dX5_inTile_3 : decode cX5_inTile 3 = .ok (.iload_n 1, 1) := by decide +kernel
theorem dX5_inTile_4 : decode cX5_inTile 4 = .ok (.iconst 5, 1) := by decide +kernel
theorem dX5_inTile_5 : decode cX5_inTile 5 = .ok (.irem, 1) := by decide +kernel
theorem dX5_inTile_6 : decode cX5_inTile 6 = .ok (.imul, 1) := by decide +kernel
theorem dX5_inTile_7 : decode cX5_inTile 7 = .ok (.istore_n 2, 1) := by decide +kernel
theorem dX5_inTile_8 : decode cX5_inTile 8 = .ok (.sipush 200, 3) := by decide +kernel
theorem dX5_inTile_11 : decode cX5_inTile 11 = .ok (.iload_n 1, 1) := by decide +kernel
theorem dX5_inTile_12 : decode cX5_inTile 12 = .ok (.iconst 5, 1) := by decide +kernel
theorem dX5_inTile_13 : decode cX5_inTile 13 = .ok (.idiv, 1) := by decide +kernel
theorem dX5_inTile_14 : decode cX5_inTile 14 = .ok (.imul, 1) := by decide +kernel
theorem dX5_inTile_15 : decode cX5_inTile 15 = .ok (.istore_n 3, 1) := by decide +kernel
theorem dX5_inTile_16 : decode cX5_inTile 16 = .ok (.aload_n 0, 1) := by decide +kernel
theorem dX5_inTile_17 : decode cX5_inTile 17 = .ok (.iload_n 2, 1) := by decide +kernel
theorem dX5_inTile_18 : decode cX5_inTile 18 = .ok (.iload_n 3, 1) := by decide +kernel
theorem dX5_inTile_19 : decode cX5_inTile 19 = .ok (.iload_n 2, 1) := by decide +kernel
theorem dX5_inTile_20 : decode cX5_inTile 20 = .ok (.sipush 200, 3) := by decide +kernel
theorem dX5_inTile_23 : decode cX5_inTile 23 = .ok (.iadd, 1) := by decide +kernel
theorem dX5_inTile_24 : decode cX5_inTile 24 = .ok (.iload_n 3, 1) := by decide +kernel
theorem dX5_inTile_25 : decode cX5_inTile 25 = .ok (.sipush 200, 3) := by decide +kernel
theorem dX5_inTile_28 : decode cX5_inTile 28 = .ok (.iadd, 1) := by decide +kernel
theorem dX5_inTile_29 : decode cX5_inTile 29 = .ok (.invokevirtual 113, 3) := by decide +kernel
theorem dX5_inTile_32 : decode cX5_inTile 32 = .ok (.ireturn, 1) := by decide +kernel
set_option maxRecDepth 20000 in
theorem ggX5_fillTile_X5_inTile : GoodIn wsX5_fillTile wsX5_inTile := goodIn_r _ [8, 9, 10, 11, 7, 12, 13, 14, 15, 16, 17, 40, 41, 42, 43, 44, 45, 46, 47, 48, 49, 50, 51, 52, 53, 54, 55, 56, 57, 58, 59, 60, 61, 62, 63, 64, 65, 66, 67, 68, 69, 70] (by decide +kernel) (by decide +kernel)
set_option maxRecDepth 20000 in
theorem gX5_fillTile_X5_inTile : GoodIn wsX5_fillTile (wsV RX5 191 RX5 yX5_inTile wsX5_inTile) := goodIn_app (goodIn_of _ (by decide +kernel)) ggX5_fillTile_X5_inTile
set_option maxRecDepth 20000 in
theorem ggX5_fillTile_X5_fits : GoodIn wsX5_fillTile wsX5_fits := goodIn_r _ [21, 22, 23, 24, 25, 26, 27, 3, 28, 29, 30, 31, 32, 33, 34, 7, 35, 40, 41, 42, 43, 44, 45, 46, 47, 48, 49, 50, 51, 52, 53, 54, 55, 56, 57, 58, 59, 60, 61, 62, 63, 64, 65, 66, 67, 68, 69, 70] (by decide +kernel) (by decide +kernel)
set_option maxRecDepth 20000 in
theorem gX5_fillTile_X5_fits : GoodIn wsX5_fillTile (wsV RX5 195 RX5 yX5_fits wsX5_fits) := goodIn_app (goodIn_of _ (by decide +kernel)) ggX5_fillTile_X5_fits
set_option maxRecDepth 20000 in
theorem ggX5_fillTile_X5_put : GoodIn wsX5_fillTile wsX5_put := goodIn_r _ [39, 28, 3, 29, 30, 31, 32, 40, 41, 42, 43, 44, 45, 46, 47, 48, 49, 50, 51, 52, 53, 54, 55, 56, 57, 58, 59, 60, 61, 62, 63, 64, 65, 66, 67, 68, 69, 70] (by decide +kernel) (by decide +kernel)
set_option maxRecDepth 20000 in
theorem gX5_fillTile_X5_put : GoodIn wsX5_fillTile (wsV RX5 199 RX5 yX5_put wsX5_put) := goodIn_app (goodIn_of _ (by decide +kernel)) ggX5_fillTile_X5_put
theorem dX5_fillTile_0 : decode cX5_fillTile 0 = .ok (.aload_n 0, 1) := by decide +kernel
