theorem dX0_init_0 : decode cX0_init 0 = .ok (.aload_n 0, 1) := by decide +kernel
theorem dX0_init_1 : decode cX0_init 1 = .ok (.invokespecial 3, 3) := by decide +kernel
theorem dX0_init_4 : decode cX0_init 4 = .ok (.aload_n 0, 1) := by decide +kernel
theorem dX0_init_5 : decode cX0_init 5 = .ok (.iload_n 1, 1) := by decide +kernel
theorem dX0_init_6 : decode cX0_init 6 = .ok (.newarray .int, 2) := by decide +kernel
theorem dX0_init_8 : decode cX0_init 8 = .ok (.putfield 9, 3) := by decide +kernel
theorem dX0_init_11 : decode cX0_init 11 = .ok (.aload_n 0, 1) := by decide +kernel
theorem dX0_init_12 : decode cX0_init 12 = .ok (.iload_n 1, 1) := by decide +kernel
theorem dX0_init_13 : decode cX0_init 13 = .ok (.newarray .int, 2) := by decide +kernel
theorem dX0_init_15 : decode cX0_init 15 = .ok (.putfield 15, 3) := by decide +kernel
theorem dX0_init_18 : decode cX0_init 18 = .ok (.aload_n 0, 1) := by decide +kernel
theorem dX0_init_19 : decode cX0_init 19 = .ok (.iload_n 1, 1) := by decide +kernel
theorem dX0_init_20 : decode cX0_init 20 = .ok (.newarray .int, 2) := by decide +kernel
theorem dX0_init_22 : decode cX0_init 22 = .ok (.putfield 18, 3) := by decide +kernel
theorem dX0_init_25 : decode cX0_init 25 = .ok (.aload_n 0, 1) := by decide +kernel
theorem dX0_init_26 : decode cX0_init 26 = .ok (.iload_n 1, 1) := by decide +kernel
theorem dX0_init_27 : decode cX0_init 27 = .ok (.newarray .int, 2) := by decide +kernel
theorem dX0_init_29 : decode cX0_init 29 = .ok (.putfield 21, 3) := by decide +kernel
theorem dX0_init_32 : decode cX0_init 32 = .ok (.aload_n 0, 1) := by decide +kernel
theorem dX0_init_33 : decode cX0_init 33 = .ok (.iload_n 1, 1) := by decide +kernel
theorem dX0_init_34 : decode cX0_init 34 = .ok (.newarray .int, 2) := by decide +kernel
theorem dX0_init_36 : decode cX0_init 36 = .ok (.putfield 24, 3) := by decide +kernel
theorem dX0_init_39 : decode cX0_init 39 = .ok (.aload_n 0, 1) := by decide +kernel
theorem dX0_init_40 : decode cX0_init 40 = .ok (.iload_n 1, 1) := by decide +kernel
theorem dX0_init_41 : decode cX0_init 41 = .ok (.newarray .int, 2) := by decide +kernel
theorem dX0_init_43 : decode cX0_init 43 = .ok (.putfield 27, 3) := by decide +kernel
theorem dX0_init_46 : decode cX0_init 46 = .ok (.return_, 1) := by decide +kernel
theorem dX0_put_0 : decode cX0_put 0 = .ok (.aload_n 0, 1) := by decide +kernel
theorem dX0_put_1 : decode cX0_put 1 = .ok (.getfield 30, 3) := by decide +kernel
theorem dX0_put_4 : decode cX0_put 4 = .ok (.aload_n 0, 1) := by decide +kernel
theorem dX0_put_5 : decode cX0_put 5 = .ok (.getfield 9, 3) := by decide +kernel
theorem dX0_put_8 : decode cX0_put 8 = .ok (.arraylength, 1) := by decide +kernel
theorem dX0_put_9 : decode cX0_put 9 = .ok (.if_icmp .ge 76, 3) := by decide +kernel
theorem dX0_put_12 : decode cX0_put 12 = .ok (.aload_n 0, 1) := by decide +kernel
theorem dX0_put_13 : decode cX0_put 13 = .ok (.getfield 9, 3) := by decide +kernel
theorem dX0_put_16 : decode cX0_put 16 = .ok (.aload_n 0, 1) := by decide +kernel
theorem dX0_put_17 : decode cX0_put 17 = .ok (.getfield 30, 3) := by decide +kernel
theorem dX0_put_20 : decode cX0_put 20 = .ok (.iload_n 1, 1) := by decide +kernel
theorem dX0_put_21 : decode cX0_put 21 = .ok (.iastore, 1) := by decide +kernel
theorem dX0_put_22 : decode cX0_put 22 = .ok (.aload_n 0, 1) := by decide +kernel
theorem dX0_put_23 : decode cX0_put 23 = .ok (.getfield 15, 3) := by decide +kernel
theorem dX0_put_26 : decode cX0_put 26 = .ok (.aload_n 0, 1) := by decide +kernel
theorem dX0_put_27 : decode cX0_put 27 = .ok (.getfield 30, 3) := by decide +kernel
theorem dX0_put_30 : decode cX0_put 30 = .ok (.iload_n 2, 1) := by decide +kernel
theorem dX0_put_31 : decode cX0_put 31 = .ok (.iastore, 1) := by decide +kernel
theorem dX0_put_32 : decode cX0_put 32 = .ok (.aload_n 0, 1) := by decide +kernel
theorem dX0_put_33 : decode cX0_put 33 = .ok (.getfield 18, 3) := by decide +kernel
theorem dX0_put_36 : decode cX0_put 36 = .ok (.aload_n 0, 1) := by decide +kernel
theorem dX0_put_37 : decode cX0_put 37 = .ok (.getfield 30, 3) := by decide +kernel
theorem dX0_put_40 : decode cX0_put 40 = .ok (.iload_n 3, 1) := by decide +kernel
theorem dX0_put_41 : decode cX0_put 41 = .ok (.iastore, 1) := by decide +kernel
theorem dX0_put_42 : decode cX0_put 42 = .ok (.aload_n 0, 1) := by decide +kernel
theorem dX0_put_43 : decode cX0_put 43 = .ok (.getfield 21, 3) := by decide +kernel
theorem dX0_put_46 : decode cX0_put 46 = .ok (.aload_n 0, 1) := by decide +kernel
theorem dX0_put_47 : decode cX0_put 47 = .ok (.getfield 30, 3) := by decide +kernel
theorem dX0_put_50 : decode cX0_put 50 = .ok (.iload 4, 2) := by decide +kernel
theorem dX0_put_52 : decode cX0_put 52 = .ok (.iastore, 1) := by decide +kernel
theorem dX0_put_53 : decode cX0_put 53 = .ok (.aload_n 0, 1) := by decide +kernel
theorem dX0_put_54 : decode cX0_put 54 = .ok (.getfield 24, 3) := by decide +kernel
theorem dX0_put_57 : decode cX0_put 57 = .ok (.aload_n 0, 1) := by decide +kernel
theorem dX0_put_58 : decode cX0_put 58 = .ok (.getfield 30, 3) := by decide +kernel
theorem dX0_put_61 : decode cX0_put 61 = .ok (.iload 5, 2) := by decide +kernel
theorem dX0_put_63 : decode cX0_put 63 = .ok (.iastore, 1) := by decide +kernel
theorem dX0_put_64 : decode cX0_put 64 = .ok (.aload_n 0, 1) := by decide +kernel
theorem dX0_put_65 : decode cX0_put 65 = .ok (.getfield 27, 3) := by decide +kernel
theorem dX0_put_68 : decode cX0_put 68 = .ok (.aload_n 0, 1) := by decide +kernel
theorem dX0_put_69 : decode cX0_put 69 = .ok (.getfield 30, 3) := by decide +kernel
theorem dX0_put_72 : decode cX0_put 72 = .ok (.iload 6, 2) := by decide +kernel
theorem dX0_put_74 : decode cX0_put 74 = .ok (.iastore, 1) := by decide +kernel
theorem dX0_put_75 : decode cX0_put 75 = .ok (.aload_n 0, 1) := by decide +kernel
theorem dX0_put_76 : decode cX0_put 76 = .ok (.dup, 1) := by decide +kernel
theorem dX0_put_77 : decode cX0_put 77 = .ok (.getfield 30, 3) := by decide +kernel
theorem dX0_put_80 : decode cX0_put 80 = .ok (.iconst 1, 1) := by decide +kernel
theorem dX0_put_81 : decode cX0_put 81 = .ok (.iadd, 1) := by decide +kernel
theorem dX0_put_82 : decode cX0_put 82 = .ok (.putfield 30, 3) := by decide +kernel
theorem dX0_put_85 : decode cX0_put 85 = .ok (.return_, 1) := by decide +kernel
set_option maxRecDepth 20000 in
theorem ggX0_dropLayer_X0_put : GoodIn wsX0_dropLayer wsX0_put := goodIn_r _ [12, 1, 3, 2, 4, 5, 6, 7, 13, 14, 15, 16, 17, 18, 19] (by decide +kernel) (by decide +kernel)
set_option maxRecDepth 20000 in
theorem gX0_dropLayer_X0_put : GoodIn wsX0_dropLayer (wsV RX0 34 RX0 yX0_put wsX0_put) := goodIn_app (goodIn_of _ (by decide +kernel)) ggX0_dropLayer_X0_put
theorem dX0_dropLayer_0 : decode cX0_dropLayer 0 = .ok (.aload_n 0, 1) := by decide +kernel
theorem dX0_dropLayer_1 : decode cX0_dropLayer 1 = .ok (.getfield 30, 3) := by decide +kernel
theorem dX0_dropLayer_4 : decode cX0_dropLayer 4 = .ok (.istore_n 2, 1) := by decide +kernel
theorem dX0_dropLayer_5 : decode cX0_dropLayer 5 = .ok (.aload_n 0, 1) := by decide +kernel
theorem dX0_dropLayer_6 : decode cX0_dropLayer 6 = .ok (.iconst 0, 1) := by decide +kernel
theorem dX0_dropLayer_7 : decode cX0_dropLayer 7 = .ok (.putfield 30, 3) := by decide +kernel
theorem dX0_dropLayer_10 : decode cX0_dropLayer 10 = .ok (.iconst 0, 1) := by decide +kernel
theorem dX0_dropLayer_11 : decode cX0_dropLayer 11 = .ok (.istore_n 3, 1) := by decide +kernel
theorem dX0_dropLayer_12 : decode cX0_dropLayer 12 = .ok (.iload_n 3, 1) := by decide +kernel
theorem dX0_dropLayer_13 : decode cX0_dropLayer 13 = .ok (.iload_n 2, 1) := by decide +kernel
theorem dX0_dropLayer_14 : decode cX0_dropLayer 14 = .ok (.if_icmp .ge 59, 3) := by decide +kernel
theorem dX0_dropLayer_17 : decode cX0_dropLayer 17 = .ok (.aload_n 0, 1) := by decide +kernel
theorem dX0_dropLayer_18 : decode cX0_dropLayer 18 = .ok (.getfield 15, 3) := by decide +kernel
theorem dX0_dropLayer_21 : decode cX0_dropLayer 21 = .ok (.iload_n 3, 1) := by decide +kernel
theorem dX0_dropLayer_22 : decode cX0_dropLayer 22 = .ok (.iaload, 1) := by decide +kernel
theorem dX0_dropLayer_23 : decode cX0_dropLayer 23 = .ok (.iload_n 1, 1) := by decide +kernel
theorem dX0_dropLayer_24 : decode cX0_dropLayer 24 = .ok (.if_icmp .eq 43, 3) := by decide +kernel
theorem dX0_dropLayer_27 : decode cX0_dropLayer 27 = .ok (.aload_n 0, 1) := by decide +kernel
theorem dX0_dropLayer_28 : decode cX0_dropLayer 28 = .ok (.aload_n 0, 1) := by decide +kernel
theorem dX0_dropLayer_29 : decode cX0_dropLayer 29 = .ok (.getfield 9, 3) := by decide +kernel
theorem dX0_dropLayer_32 : decode cX0_dropLayer 32 = .ok (.iload_n 3, 1) := by decide +kernel
theorem dX0_dropLayer_33 : decode cX0_dropLayer 33 = .ok (.iaload, 1) := by decide +kernel
theorem dX0_dropLayer_34 : decode cX0_dropLayer 34 = .ok (.aload_n 0, 1) := by decide +kernel
theorem dX0_dropLayer_35 : decode cX0_dropLayer 35 = .ok (.getfield 15, 3) := by decide +kernel
theorem dX0_dropLayer_38 : decode cX0_dropLayer 38 = .ok (.iload_n 3, 1) := by decide +kernel
theorem dX0_dropLayer_39 : decode cX0_dropLayer 39 = .ok (.iaload, 1) := by decide +kernel
theorem dX0_dropLayer_40 : decode cX0_dropLayer 40 = .ok (.aload_n 0, 1) := by decide +kernel
theorem dX0_dropLayer_41 : decode cX0_dropLayer 41 = .ok (.getfield 18, 3) := by decide +kernel
theorem dX0_dropLayer_44 : decode cX0_dropLayer 44 = .ok (.iload_n 3, 1) := by decide +kernel
theorem dX0_dropLayer_45 : decode cX0_dropLayer 45 = .ok (.iaload, 1) := by decide +kernel
theorem dX0_dropLayer_46 : decode cX0_dropLayer 46 = .ok (.aload_n 0, 1) := by decide +kernel
theorem dX0_dropLayer_47 : decode cX0_dropLayer 47 = .ok (.getfield 21, 3) := by decide +kernel
theorem dX0_dropLayer_50 : decode cX0_dropLayer 50 = .ok (.iload_n 3, 1) := by decide +kernel
theorem dX0_dropLayer_51 : decode cX0_dropLayer 51 = .ok (.iaload, 1) := by decide +kernel
theorem dX0_dropLayer_52 : decode cX0_dropLayer 52 = .ok (.aload_n 0, 1) := by decide +kernel
theorem dX0_dropLayer_53 : decode cX0_dropLayer 53 = .ok (.getfield 24, 3) := by decide +kernel
theorem dX0_dropLayer_56 : decode cX0_dropLayer 56 = .ok (.iload_n 3, 1) := by decide +kernel
theorem dX0_dropLayer_57 : decode cX0_dropLayer 57 = .ok (.iaload, 1) := by decide +kernel
theorem dX0_dropLayer_58 : decode cX0_dropLayer 58 = .ok (.aload_n 0, 1) := by decide +kernel
theorem dX0_dropLayer_59 : decode cX0_dropLayer 59 = .ok (.getfield 27, 3) := by decide +kernel
theorem dX0_dropLayer_62 : decode cX0_dropLayer 62 = .ok (.iload_n 3, 1) := by decide +kernel
theorem dX0_dropLayer_63 : decode cX0_dropLayer 63 = .ok (.iaload, 1) := by decide +kernel
theorem dX0_dropLayer_64 : decode cX0_dropLayer 64 = .ok (.invokevirtual 34, 3) := by decide +kernel
theorem dX0_dropLayer_67 : decode cX0_dropLayer 67 = .ok (.iinc 3 1, 3) := by decide +kernel
theorem dX0_dropLayer_70 : decode cX0_dropLayer 70 = .ok (.goto (-58), 3) := by decide +kernel
theorem dX0_dropLayer_73 : decode cX0_dropLayer 73 = .ok (.return_, 1) := by decide +kernel
theorem dX0_sizeOnLayer_0 : decode cX0_sizeOnLayer 0 = .ok (.iconst 0, 1) := by decide +kernel
theorem dX0_sizeOnLayer_1 : decode cX0_sizeOnLayer 1 = .ok (.istore_n 2, 1) := by decide +kernel
theorem dX0_sizeOnLayer_2 : decode cX0_sizeOnLayer 2 = .ok (.iconst 0, 1) := by decide +kernel
theorem dX0_sizeOnLayer_3 : decode cX0_sizeOnLayer 3 = .ok (.istore_n 3, 1) := by decide +kernel
theorem dX0_sizeOnLayer_4 : decode cX0_sizeOnLayer 4 = .ok (.iload_n 3, 1) := by decide +kernel
theorem dX0_sizeOnLayer_5 : decode cX0_sizeOnLayer 5 = .ok (.aload_n 0, 1) := by decide +kernel
theorem dX0_sizeOnLayer_6 : decode cX0_sizeOnLayer 6 = .ok (.getfield 30, 3) := by decide +kernel
theorem dX0_sizeOnLayer_9 : decode cX0_sizeOnLayer 9 = .ok (.if_icmp .ge 22, 3) := by decide +kernel
theorem dX0_sizeOnLayer_12 : decode cX0_sizeOnLayer 12 = .ok (.aload_n 0, 1) := by decide +kernel
theorem dX0_sizeOnLayer_13 : decode cX0_sizeOnLayer 13 = .ok (.getfield 15, 3) := by decide +kernel
theorem dX0_sizeOnLayer_16 : decode cX0_sizeOnLayer 16 = .ok (.iload_n 3, 1) := by decide +kernel
theorem dX0_sizeOnLayer_17 : decode cX0_sizeOnLayer 17 = .ok (.iaload, 1) := by decide +kernel
theorem dX0_sizeOnLayer_18 : decode cX0_sizeOnLayer 18 = .ok (.iload_n 1, 1) := by decide +kernel
theorem dX0_sizeOnLayer_19 : decode cX0_sizeOnLayer 19 = .ok (.if_icmp .ne 6, 3) := by decide +kernel
theorem dX0_sizeOnLayer_22 : decode cX0_sizeOnLayer 22 = .ok (.iinc 2 1, 3) := by decide +kernel
theorem dX0_sizeOnLayer_25 : decode cX0_sizeOnLayer 25 = .ok (.iinc 3 1, 3) := by decide +kernel
theorem dX0_sizeOnLayer_28 : decode cX0_sizeOnLayer 28 = .ok (.goto (-24), 3) := by decide +kernel
theorem dX0_sizeOnLayer_31 : decode cX0_sizeOnLayer 31 = .ok (.iload_n 2, 1) := by decide +kernel
theorem dX0_sizeOnLayer_32 : decode cX0_sizeOnLayer 32 = .ok (.ireturn, 1) := by decide +kernel
theorem dX0_indexOnLayer_0 : decode cX0_indexOnLayer 0 = .ok (.iconst 0, 1) := by decide +kernel
theorem dX0_indexOnLayer_1 : decode cX0_indexOnLayer 1 = .ok (.istore_n 3, 1) := by decide +kernel
theorem dX0_indexOnLayer_2 : decode cX0_indexOnLayer 2 = .ok (.iconst 0, 1) := by decide +kernel
theorem dX0_indexOnLayer_3 : decode cX0_indexOnLayer 3 = .ok (.istore 4, 2) := by decide +kernel
theorem dX0_indexOnLayer_5 : decode cX0_indexOnLayer 5 = .ok (.iload 4, 2) := by decide +kernel
theorem dX0_indexOnLayer_7 : decode cX0_indexOnLayer 7 = .ok (.aload_n 0, 1) := by decide +kernel
theorem dX0_indexOnLayer_8 : decode cX0_indexOnLayer 8 = .ok (.getfield 30, 3) := by decide +kernel
theorem dX0_indexOnLayer_11 : decode cX0_indexOnLayer 11 = .ok (.if_icmp .ge 31, 3) := by decide +kernel
theorem dX0_indexOnLayer_14 : decode cX0_indexOnLayer 14 = .ok (.aload_n 0, 1) := by decide +kernel
theorem dX0_indexOnLayer_15 : decode cX0_indexOnLayer 15 = .ok (.getfield 15, 3) := by decide +kernel
theorem dX0_indexOnLayer_18 : decode cX0_indexOnLayer 18 = .ok (.iload 4, 2) := by decide +kernel
theorem dX0_indexOnLayer_20 : decode cX0_indexOnLayer 20 = .ok (.iaload, 1) := by decide +kernel
theorem dX0_indexOnLayer_21 : decode cX0_indexOnLayer 21 = .ok (.iload_n 1, 1) := by decide +kernel
theorem dX0_indexOnLayer_22 : decode cX0_indexOnLayer 22 = .ok (.if_icmp .ne 14, 3) := by decide +kernel
theorem dX0_indexOnLayer_25 : decode cX0_indexOnLayer 25 = .ok (.iload_n 3, 1) := by decide +kernel
theorem dX0_indexOnLayer_26 : decode cX0_indexOnLayer 26 = .ok (.iload_n 2, 1) := by decide +kernel
theorem dX0_indexOnLayer_27 : decode cX0_indexOnLayer 27 = .ok (.if_icmp .ne 6, 3) := by decide +kernel
theorem dX0_indexOnLayer_30 : decode cX0_indexOnLayer 30 = .ok (.iload 4, 2) := by decide +kernel
theorem dX0_indexOnLayer_32 : decode cX0_indexOnLayer 32 = .ok (.ireturn, 1) := by decide +kernel
theorem dX0_indexOnLayer_33 : decode cX0_indexOnLayer 33 = .ok (.iinc 3 1, 3) := by decide +kernel
theorem dX0_indexOnLayer_36 : decode cX0_indexOnLayer 36 = .ok (.iinc 4 1, 3) := by decide +kernel
theorem dX0_indexOnLayer_39 : decode cX0_indexOnLayer 39 = .ok (.goto (-34), 3) := by decide +kernel
theorem dX0_indexOnLayer_42 : decode cX0_indexOnLayer 42 = .ok (.iconst (-1), 1) := by decide +kernel
theorem dX0_indexOnLayer_43 : decode cX0_indexOnLayer 43 = .ok (.ireturn, 1) := by decide +kernel
