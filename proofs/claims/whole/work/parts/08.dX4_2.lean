theorem dX4_limit_44 : decode cX4_limit 44 = .ok (.athrow, 1) := by decide +kernel
theorem dX4_limit_45 : decode cX4_limit 45 = .ok (.aload_n 0, 1) := by decide +kernel
theorem dX4_limit_46 : decode cX4_limit 46 = .ok (.getfield 54, 3) := by decide +kernel
theorem dX4_limit_49 : decode cX4_limit 49 = .ok (.iload_n 1, 1) := by decide +kernel
theorem dX4_limit_50 : decode cX4_limit 50 = .ok (.laload, 1) := by decide +kernel
theorem dX4_limit_51 : decode cX4_limit 51 = .ok (.lconst 0, 1) := by decide +kernel
theorem dX4_limit_52 : decode cX4_limit 52 = .ok (.lcmp, 1) := by decide +kernel
theorem dX4_limit_53 : decode cX4_limit 53 = .ok (.ifCond .eq 24, 3) := by decide +kernel
theorem dX4_limit_56 : decode cX4_limit 56 = .ok (.lload_n 2, 1) := by decide +kernel
theorem dX4_limit_57 : decode cX4_limit 57 = .ok (.aload_n 0, 1) := by decide +kernel
theorem dX4_limit_58 : decode cX4_limit 58 = .ok (.getfield 54, 3) := by decide +kernel
theorem dX4_limit_61 : decode cX4_limit 61 = .ok (.iload_n 1, 1) := by decide +kernel
theorem dX4_limit_62 : decode cX4_limit 62 = .ok (.laload, 1) := by decide +kernel
theorem dX4_limit_63 : decode cX4_limit 63 = .ok (.lmul, 1) := by decide +kernel
theorem dX4_limit_64 : decode cX4_limit 64 = .ok (.aload_n 0, 1) := by decide +kernel
theorem dX4_limit_65 : decode cX4_limit 65 = .ok (.getfield 51, 3) := by decide +kernel
theorem dX4_limit_68 : decode cX4_limit 68 = .ok (.iload_n 1, 1) := by decide +kernel
theorem dX4_limit_69 : decode cX4_limit 69 = .ok (.laload, 1) := by decide +kernel
theorem dX4_limit_70 : decode cX4_limit 70 = .ok (.lload 4, 2) := by decide +kernel
theorem dX4_limit_72 : decode cX4_limit 72 = .ok (.lmul, 1) := by decide +kernel
theorem dX4_limit_73 : decode cX4_limit 73 = .ok (.lcmp, 1) := by decide +kernel
theorem dX4_limit_74 : decode cX4_limit 74 = .ok (.ifCond .eq 7, 3) := by decide +kernel
theorem dX4_limit_77 : decode cX4_limit 77 = .ok (.iconst 1, 1) := by decide +kernel
theorem dX4_limit_78 : decode cX4_limit 78 = .ok (.goto 4, 3) := by decide +kernel
theorem dX4_limit_81 : decode cX4_limit 81 = .ok (.iconst 0, 1) := by decide +kernel
theorem dX4_limit_82 : decode cX4_limit 82 = .ok (.istore 6, 2) := by decide +kernel
theorem dX4_limit_84 : decode cX4_limit 84 = .ok (.aload_n 0, 1) := by decide +kernel
theorem dX4_limit_85 : decode cX4_limit 85 = .ok (.getfield 51, 3) := by decide +kernel
theorem dX4_limit_88 : decode cX4_limit 88 = .ok (.iload_n 1, 1) := by decide +kernel
theorem dX4_limit_89 : decode cX4_limit 89 = .ok (.lload_n 2, 1) := by decide +kernel
theorem dX4_limit_90 : decode cX4_limit 90 = .ok (.lastore, 1) := by decide +kernel
theorem dX4_limit_91 : decode cX4_limit 91 = .ok (.aload_n 0, 1) := by decide +kernel
theorem dX4_limit_92 : decode cX4_limit 92 = .ok (.getfield 54, 3) := by decide +kernel
theorem dX4_limit_95 : decode cX4_limit 95 = .ok (.iload_n 1, 1) := by decide +kernel
theorem dX4_limit_96 : decode cX4_limit 96 = .ok (.lload 4, 2) := by decide +kernel
theorem dX4_limit_98 : decode cX4_limit 98 = .ok (.lastore, 1) := by decide +kernel
theorem dX4_limit_99 : decode cX4_limit 99 = .ok (.iload 6, 2) := by decide +kernel
theorem dX4_limit_101 : decode cX4_limit 101 = .ok (.ireturn, 1) := by decide +kernel
set_option maxRecDepth 20000 in
theorem ggX4_repair_X4_learnSites : GoodIn wsX4_repair wsX4_learnSites := goodIn_r _ [8, 1, 9, 10, 11, 2, 12, 13, 14, 15, 16, 17, 18, 19, 20, 21, 22, 23, 24, 25, 26, 27, 28, 29, 30, 31, 32, 33, 34, 35, 36, 37, 38, 39, 40, 41, 42, 43, 44, 45, 46, 47, 48, 118, 119, 120, 121, 122, 123, 124, 125, 126, 127, 128, 129, 130, 131, 132, 133, 134, 135, 136, 137, 138, 139, 140, 141, 142, 143, 144, 145] (by decide +kernel) (by decide +kernel)
set_option maxRecDepth 20000 in
theorem gX4_repair_X4_learnSites : GoodIn wsX4_repair (wsV RX4 168 RX4 yX4_learnSites wsX4_learnSites) := goodIn_app (goodIn_of _ (by decide +kernel)) ggX4_repair_X4_learnSites
set_option maxRecDepth 20000 in
theorem ggX4_repair_X4_placeDiodesFor : GoodIn wsX4_repair wsX4_placeDiodesFor := goodIn_r _ [52, 53, 54, 55, 56, 7, 57, 58, 59, 60, 61, 62, 63, 64, 65, 66, 67, 68, 69, 70, 71, 72, 73, 74, 75, 10, 76, 77, 1, 78, 79, 80, 81, 82, 9, 83, 84, 85, 86, 87, 88, 89, 90, 15, 91, 17, 48, 32, 33, 34, 35, 36, 37, 38, 39, 40, 41, 42, 43, 44, 45, 46, 47, 92, 93, 94, 95, 96, 97, 98, 99, 100, 101, 102, 103, 104, 105, 106, 107, 108, 109, 110, 111, 112, 113, 29, 30, 31, 118, 119, 120, 121, 122, 123, 124, 125, 126, 127, 128, 129, 130, 131, 132, 133, 134, 135, 136, 139, 140, 141, 142, 143, 144, 145, 137, 138] (by decide +kernel) (by decide +kernel)
set_option maxRecDepth 20000 in
theorem gX4_repair_X4_placeDiodesFor : GoodIn wsX4_repair (wsV RX4 171 RX4 yX4_placeDiodesFor wsX4_placeDiodesFor) := goodIn_app (goodIn_of _ (by decide +kernel)) ggX4_repair_X4_placeDiodesFor
set_option maxRecDepth 20000 in
theorem ggX4_repair_X4_isOverSomewhere : GoodIn wsX4_repair wsX4_isOverSomewhere := goodIn_r _ [117, 53, 54, 55, 56, 7, 57, 58, 59, 60, 61, 62, 63, 64, 65, 66, 67, 68, 69, 70, 71, 118, 119, 120, 121, 122, 123, 124, 125, 126, 127, 128, 129, 130, 131, 132, 133, 134, 135, 136] (by decide +kernel) (by decide +kernel)
set_option maxRecDepth 20000 in
theorem gX4_repair_X4_isOverSomewhere : GoodIn wsX4_repair (wsV RX4 174 RX4 yX4_isOverSomewhere wsX4_isOverSomewhere) := goodIn_app (goodIn_of _ (by decide +kernel)) ggX4_repair_X4_isOverSomewhere
theorem dX4_repair_0 : decode cX4_repair 0 = .ok (.aload_n 0, 1) := by decide +kernel
theorem dX4_repair_1 : decode cX4_repair 1 = .ok (.getfield 76, 3) := by decide +kernel
theorem dX4_repair_4 : decode cX4_repair 4 = .ok (.getfield 131, 3) := by decide +kernel
theorem dX4_repair_7 : decode cX4_repair 7 = .ok (.ifCond .ne 7, 3) := by decide +kernel
theorem dX4_repair_10 : decode cX4_repair 10 = .ok (.aload_n 0, 1) := by decide +kernel
theorem dX4_repair_11 : decode cX4_repair 11 = .ok (.invokevirtual 168, 3) := by decide +kernel
theorem dX4_repair_14 : decode cX4_repair 14 = .ok (.iconst 0, 1) := by decide +kernel
theorem dX4_repair_15 : decode cX4_repair 15 = .ok (.istore_n 1, 1) := by decide +kernel
theorem dX4_repair_16 : decode cX4_repair 16 = .ok (.iload_n 1, 1) := by decide +kernel
theorem dX4_repair_17 : decode cX4_repair 17 = .ok (.aload_n 0, 1) := by decide +kernel
theorem dX4_repair_18 : decode cX4_repair 18 = .ok (.getfield 87, 3) := by decide +kernel
theorem dX4_repair_21 : decode cX4_repair 21 = .ok (.if_icmp .ge 14, 3) := by decide +kernel
theorem dX4_repair_24 : decode cX4_repair 24 = .ok (.aload_n 0, 1) := by decide +kernel
theorem dX4_repair_25 : decode cX4_repair 25 = .ok (.iload_n 1, 1) := by decide +kernel
theorem dX4_repair_26 : decode cX4_repair 26 = .ok (.invokevirtual 171, 3) := by decide +kernel
theorem dX4_repair_29 : decode cX4_repair 29 = .ok (.iinc 1 1, 3) := by decide +kernel
theorem dX4_repair_32 : decode cX4_repair 32 = .ok (.goto (-16), 3) := by decide +kernel
theorem dX4_repair_35 : decode cX4_repair 35 = .ok (.iconst 0, 1) := by decide +kernel
theorem dX4_repair_36 : decode cX4_repair 36 = .ok (.istore_n 1, 1) := by decide +kernel
theorem dX4_repair_37 : decode cX4_repair 37 = .ok (.iconst 0, 1) := by decide +kernel
theorem dX4_repair_38 : decode cX4_repair 38 = .ok (.istore_n 2, 1) := by decide +kernel
theorem dX4_repair_39 : decode cX4_repair 39 = .ok (.iload_n 2, 1) := by decide +kernel
theorem dX4_repair_40 : decode cX4_repair 40 = .ok (.aload_n 0, 1) := by decide +kernel
theorem dX4_repair_41 : decode cX4_repair 41 = .ok (.getfield 87, 3) := by decide +kernel
theorem dX4_repair_44 : decode cX4_repair 44 = .ok (.if_icmp .ge 20, 3) := by decide +kernel
theorem dX4_repair_47 : decode cX4_repair 47 = .ok (.aload_n 0, 1) := by decide +kernel
theorem dX4_repair_48 : decode cX4_repair 48 = .ok (.iload_n 2, 1) := by decide +kernel
theorem dX4_repair_49 : decode cX4_repair 49 = .ok (.invokevirtual 174, 3) := by decide +kernel
theorem dX4_repair_52 : decode cX4_repair 52 = .ok (.ifCond .eq 6, 3) := by decide +kernel
theorem dX4_repair_55 : decode cX4_repair 55 = .ok (.iinc 1 1, 3) := by decide +kernel
theorem dX4_repair_58 : decode cX4_repair 58 = .ok (.iinc 2 1, 3) := by decide +kernel
theorem dX4_repair_61 : decode cX4_repair 61 = .ok (.goto (-22), 3) := by decide +kernel
theorem dX4_repair_64 : decode cX4_repair 64 = .ok (.iload_n 1, 1) := by decide +kernel
theorem dX4_repair_65 : decode cX4_repair 65 = .ok (.ireturn, 1) := by decide +kernel
set_option maxRecDepth 20000 in
theorem ggX4_repaired_X4_checkIndex : GoodIn wsX4_repaired wsX4_checkIndex := goodIn_ca (goodIn_r _ [10, 11, 12] (by decide +kernel) (by decide +kernel)) (goodIn_sub (fun _ h => List.mem_cons_of_mem _ (List.mem_append_right _ h)) (by decide +kernel))
set_option maxRecDepth 20000 in
theorem gX4_repaired_X4_checkIndex : GoodIn wsX4_repaired (va_wsS RX4 148 yX4_checkIndex wsX4_checkIndex) := goodIn_app (goodIn_of _ (by decide +kernel)) ggX4_repaired_X4_checkIndex
theorem dX4_repaired_0 : decode cX4_repaired 0 = .ok (.iload_n 1, 1) := by decide +kernel
theorem dX4_repaired_1 : decode cX4_repaired 1 = .ok (.aload_n 0, 1) := by decide +kernel
theorem dX4_repaired_2 : decode cX4_repaired 2 = .ok (.getfield 35, 3) := by decide +kernel
theorem dX4_repaired_5 : decode cX4_repaired 5 = .ok (.getfield 103, 3) := by decide +kernel
theorem dX4_repaired_8 : decode cX4_repaired 8 = .ok (.invokestatic 148, 3) := by decide +kernel
theorem dX4_repaired_11 : decode cX4_repaired 11 = .ok (.iload_n 2, 1) := by decide +kernel
theorem dX4_repaired_12 : decode cX4_repaired 12 = .ok (.iconst 4, 1) := by decide +kernel
theorem dX4_repaired_13 : decode cX4_repaired 13 = .ok (.invokestatic 148, 3) := by decide +kernel
theorem dX4_repaired_16 : decode cX4_repaired 16 = .ok (.iload_n 2, 1) := by decide +kernel
theorem dX4_repaired_17 : decode cX4_repaired 17 = .ok (.tableswitch 54 0 2 #[27, 37, 44], 27) := by decide +kernel
theorem dX4_repaired_44 : decode cX4_repaired 44 = .ok (.aload_n 0, 1) := by decide +kernel
theorem dX4_repaired_45 : decode cX4_repaired 45 = .ok (.getfield 35, 3) := by decide +kernel
theorem dX4_repaired_48 : decode cX4_repaired 48 = .ok (.getfield 178, 3) := by decide +kernel
theorem dX4_repaired_51 : decode cX4_repaired 51 = .ok (.iload_n 1, 1) := by decide +kernel
theorem dX4_repaired_52 : decode cX4_repaired 52 = .ok (.iaload, 1) := by decide +kernel
theorem dX4_repaired_53 : decode cX4_repaired 53 = .ok (.ireturn, 1) := by decide +kernel
theorem dX4_repaired_54 : decode cX4_repaired 54 = .ok (.aload_n 0, 1) := by decide +kernel
theorem dX4_repaired_55 : decode cX4_repaired 55 = .ok (.getfield 41, 3) := by decide +kernel
theorem dX4_repaired_58 : decode cX4_repaired 58 = .ok (.iload_n 1, 1) := by decide +kernel
theorem dX4_repaired_59 : decode cX4_repaired 59 = .ok (.iaload, 1) := by decide +kernel
theorem dX4_repaired_60 : decode cX4_repaired 60 = .ok (.ireturn, 1) := by decide +kernel
theorem dX4_repaired_61 : decode cX4_repaired 61 = .ok (.aload_n 0, 1) := by decide +kernel
theorem dX4_repaired_62 : decode cX4_repaired 62 = .ok (.getfield 35, 3) := by decide +kernel
theorem dX4_repaired_65 : decode cX4_repaired 65 = .ok (.getfield 181, 3) := by decide +kernel
theorem dX4_repaired_68 : decode cX4_repaired 68 = .ok (.iload_n 1, 1) := by decide +kernel
theorem dX4_repaired_69 : decode cX4_repaired 69 = .ok (.iaload, 1) := by decide +kernel
theorem dX4_repaired_70 : decode cX4_repaired 70 = .ok (.ireturn, 1) := by decide +kernel
theorem dX4_repaired_71 : decode cX4_repaired 71 = .ok (.aload_n 0, 1) := by decide +kernel
theorem dX4_repaired_72 : decode cX4_repaired 72 = .ok (.getfield 35, 3) := by decide +kernel
theorem dX4_repaired_75 : decode cX4_repaired 75 = .ok (.getfield 184, 3) := by decide +kernel
theorem dX4_repaired_78 : decode cX4_repaired 78 = .ok (.iload_n 1, 1) := by decide +kernel
theorem dX4_repaired_79 : decode cX4_repaired 79 = .ok (.iaload, 1) := by decide +kernel
theorem dX4_repaired_80 : decode cX4_repaired 80 = .ok (.ireturn, 1) := by decide +kernel
set_option maxRecDepth 20000 in
theorem ggX4_density_X4_checkLayer : GoodIn wsX4_density wsX4_checkLayer := goodIn_ca (goodIn_r _ [7, 8, 9, 10, 6, 11, 12, 13, 85, 86, 87, 88, 89, 90, 91, 92, 93, 94, 95, 96, 97, 98, 99, 100, 101, 102, 103] (by decide +kernel) (by decide +kernel)) (goodIn_sub (fun _ h => List.mem_cons_of_mem _ (List.mem_append_left _ (List.mem_append_right _ h))) (by decide +kernel))
set_option maxRecDepth 20000 in
theorem gX4_density_X4_checkLayer : GoodIn wsX4_density (wsV RX4 100 RX4 yX4_checkLayer wsX4_checkLayer) := goodIn_app (goodIn_of _ (by decide +kernel)) ggX4_density_X4_checkLayer
set_option maxRecDepth 20000 in
theorem ggX4_density_X4_checkIndex : GoodIn wsX4_density wsX4_checkIndex := goodIn_ca (goodIn_r _ [11, 12, 13] (by decide +kernel) (by decide +kernel)) (goodIn_sub (fun _ h => List.mem_cons_of_mem _ (List.mem_append_left _ (List.mem_append_right _ h))) (by decide +kernel))
set_option maxRecDepth 20000 in
theorem gX4_density_X4_checkIndex : GoodIn wsX4_density (va_wsS RX4 148 yX4_checkIndex wsX4_checkIndex) := goodIn_app (goodIn_of _ (by decide +kernel)) ggX4_density_X4_checkIndex
set_option maxRecDepth 20000 in
theorem ggX4_density_X4_checkRange : GoodIn wsX4_density wsX4_checkRange := goodIn_ca (goodIn_r _ [16, 17, 18] (by decide +kernel) (by decide +kernel)) (goodIn_sub (fun _ h => List.mem_cons_of_mem _ (List.mem_append_right _ h)) (by decide +kernel))
set_option maxRecDepth 20000 in
theorem gX4_density_X4_checkRange : GoodIn wsX4_density (va_wsS RX4 189 yX4_checkRange wsX4_checkRange) := goodIn_app (goodIn_of _ (by decide +kernel)) ggX4_density_X4_checkRange
set_option maxRecDepth 20000 in
theorem ggX4_density_X4_coveredInWindow : GoodIn wsX4_density wsX4_coveredInWindow := goodIn_r _ [22, 23, 24, 25, 26, 27, 28, 29, 30, 31, 32, 33, 34, 35, 36, 37, 38, 39, 40, 41, 42, 43, 44, 45, 46, 47, 48, 49, 50, 51, 52, 53, 54, 55, 56, 57, 58, 59, 60, 61, 62, 63, 64, 65, 66, 67, 68, 69, 70, 71, 72, 73, 74, 75, 76, 77, 78, 79, 80, 81, 85, 86, 87, 88, 89, 90, 91, 92, 93, 94, 95, 96, 97, 98, 99, 100, 101, 102, 103, 104, 105, 106, 107, 108, 109, 110, 111, 112, 113, 114, 115, 116, 117, 118, 119, 120, 121, 122] (by decide +kernel) (by decide +kernel)
set_option maxRecDepth 20000 in
theorem gX4_density_X4_coveredInWindow : GoodIn wsX4_density (wsV RX4 193 RX4 yX4_coveredInWindow wsX4_coveredInWindow) := goodIn_app (goodIn_of _ (by decide +kernel)) ggX4_density_X4_coveredInWindow
set_option maxRecDepth 20000 in
theorem ggX4_density_X4_inLowestTerms : GoodIn wsX4_density wsX4_inLowestTerms := goodIn_r _ [84] (by decide +kernel) (by decide +kernel)
set_option maxRecDepth 20000 in
theorem gX4_density_X4_inLowestTerms : GoodIn wsX4_density (va_wsS RX4 160 yX4_inLowestTerms wsX4_inLowestTerms) := goodIn_app (goodIn_of _ (by decide +kernel)) ggX4_density_X4_inLowestTerms
theorem dX4_density_0 : decode cX4_density 0 = .ok (.aload_n 0, 1) := by decide +kernel
theorem dX4_density_1 : decode cX4_density 1 = .ok (.iload_n 1, 1) := by decide +kernel
theorem dX4_density_2 : decode cX4_density 2 = .ok (.invokevirtual 100, 3) := by decide +kernel
theorem dX4_density_5 : decode cX4_density 5 = .ok (.iload 6, 2) := by decide +kernel
theorem dX4_density_7 : decode cX4_density 7 = .ok (.iconst 2, 1) := by decide +kernel
theorem dX4_density_8 : decode cX4_density 8 = .ok (.invokestatic 148, 3) := by decide +kernel
theorem dX4_density_11 : decode cX4_density 11 = .ok (.lload_n 2, 1) := by decide +kernel
theorem dX4_density_12 : decode cX4_density 12 = .ok (.lconst 0, 1) := by decide +kernel
theorem dX4_density_13 : decode cX4_density 13 = .ok (.ldc2_w 187, 3) := by decide +kernel
theorem dX4_density_16 : decode cX4_density 16 = .ok (.invokestatic 189, 3) := by decide +kernel
theorem dX4_density_19 : decode cX4_density 19 = .ok (.lload 4, 2) := by decide +kernel
theorem dX4_density_21 : decode cX4_density 21 = .ok (.lconst 0, 1) := by decide +kernel
theorem dX4_density_22 : decode cX4_density 22 = .ok (.ldc2_w 187, 3) := by decide +kernel
theorem dX4_density_25 : decode cX4_density 25 = .ok (.invokestatic 189, 3) := by decide +kernel
theorem dX4_density_28 : decode cX4_density 28 = .ok (.aload_n 0, 1) := by decide +kernel
theorem dX4_density_29 : decode cX4_density 29 = .ok (.iload_n 1, 1) := by decide +kernel
theorem dX4_density_30 : decode cX4_density 30 = .ok (.lload_n 2, 1) := by decide +kernel
theorem dX4_density_31 : decode cX4_density 31 = .ok (.l2i, 1) := by decide +kernel
theorem dX4_density_32 : decode cX4_density 32 = .ok (.lload 4, 2) := by decide +kernel
theorem dX4_density_34 : decode cX4_density 34 = .ok (.l2i, 1) := by decide +kernel
theorem dX4_density_35 : decode cX4_density 35 = .ok (.invokevirtual 193, 3) := by decide +kernel
theorem dX4_density_38 : decode cX4_density 38 = .ok (.ldc2_w 197, 3) := by decide +kernel
theorem dX4_density_41 : decode cX4_density 41 = .ok (.iload 6, 2) := by decide +kernel
theorem dX4_density_43 : decode cX4_density 43 = .ok (.invokestatic 160, 3) := by decide +kernel
theorem dX4_density_46 : decode cX4_density 46 = .ok (.lreturn, 1) := by decide +kernel
set_option maxRecDepth 20000 in
theorem ggX4_bounds_X4_checkLayer : GoodIn wsX4_bounds wsX4_checkLayer := goodIn_ca (goodIn_r _ [8, 9, 10, 11, 7, 12, 13, 14, 20, 21, 22, 23, 24, 25, 26, 27, 28, 29, 30, 31, 32, 33, 34, 35, 36, 37, 38] (by decide +kernel) (by decide +kernel)) (goodIn_sub (fun _ h => List.mem_cons_of_mem _ (List.mem_append_left _ (List.mem_append_right _ h))) (by decide +kernel))
set_option maxRecDepth 20000 in
theorem gX4_bounds_X4_checkLayer : GoodIn wsX4_bounds (wsV RX4 100 RX4 yX4_checkLayer wsX4_checkLayer) := goodIn_app (goodIn_of _ (by decide +kernel)) ggX4_bounds_X4_checkLayer
set_option maxRecDepth 20000 in
theorem ggX4_bounds_X4_checkRange : GoodIn wsX4_bounds wsX4_checkRange := goodIn_ca (goodIn_r _ [17, 18, 19] (by decide +kernel) (by decide +kernel)) (goodIn_sub (fun _ h => List.mem_cons_of_mem _ (List.mem_append_right _ h)) (by decide +kernel))
set_option maxRecDepth 20000 in
theorem gX4_bounds_X4_checkRange : GoodIn wsX4_bounds (va_wsS RX4 189 yX4_checkRange wsX4_checkRange) := goodIn_app (goodIn_of _ (by decide +kernel)) ggX4_bounds_X4_checkRange
theorem dX4_bounds_0 : decode cX4_bounds 0 = .ok (.aload_n 0, 1) := by decide +kernel
theorem dX4_bounds_1 : decode cX4_bounds 1 = .ok (.iload_n 1, 1) := by decide +kernel
theorem dX4_bounds_2 : decode cX4_bounds 2 = .ok (.invokevirtual 100, 3) := by decide +kernel
theorem dX4_bounds_5 : decode cX4_bounds 5 = .ok (.iload_n 2, 1) := by decide +kernel
theorem dX4_bounds_6 : decode cX4_bounds 6 = .ok (.i2l, 1) := by decide +kernel
theorem dX4_bounds_7 : decode cX4_bounds 7 = .ok (.lconst 0, 1) := by decide +kernel
theorem dX4_bounds_8 : decode cX4_bounds 8 = .ok (.ldc2_w 199, 3) := by decide +kernel
theorem dX4_bounds_11 : decode cX4_bounds 11 = .ok (.invokestatic 189, 3) := by decide +kernel
theorem dX4_bounds_14 : decode cX4_bounds 14 = .ok (.iload_n 3, 1) := by decide +kernel
theorem dX4_bounds_15 : decode cX4_bounds 15 = .ok (.i2l, 1) := by decide +kernel
theorem dX4_bounds_16 : decode cX4_bounds 16 = .ok (.iload_n 2, 1) := by decide +kernel
theorem dX4_bounds_17 : decode cX4_bounds 17 = .ok (.i2l, 1) := by decide +kernel
theorem dX4_bounds_18 : decode cX4_bounds 18 = .ok (.ldc2_w 199, 3) := by decide +kernel
theorem dX4_bounds_21 : decode cX4_bounds 21 = .ok (.invokestatic 189, 3) := by decide +kernel
theorem dX4_bounds_24 : decode cX4_bounds 24 = .ok (.aload_n 0, 1) := by decide +kernel
theorem dX4_bounds_25 : decode cX4_bounds 25 = .ok (.getfield 57, 3) := by decide +kernel
theorem dX4_bounds_28 : decode cX4_bounds 28 = .ok (.iload_n 1, 1) := by decide +kernel
theorem dX4_bounds_29 : decode cX4_bounds 29 = .ok (.iaload, 1) := by decide +kernel
theorem dX4_bounds_30 : decode cX4_bounds 30 = .ok (.iload_n 2, 1) := by decide +kernel
theorem dX4_bounds_31 : decode cX4_bounds 31 = .ok (.if_icmp .ne 13, 3) := by decide +kernel
theorem dX4_bounds_34 : decode cX4_bounds 34 = .ok (.aload_n 0, 1) := by decide +kernel
theorem dX4_bounds_35 : decode cX4_bounds 35 = .ok (.getfield 60, 3) := by decide +kernel
theorem dX4_bounds_38 : decode cX4_bounds 38 = .ok (.iload_n 1, 1) := by decide +kernel
theorem dX4_bounds_39 : decode cX4_bounds 39 = .ok (.iaload, 1) := by decide +kernel
theorem dX4_bounds_40 : decode cX4_bounds 40 = .ok (.iload_n 3, 1) := by decide +kernel
theorem dX4_bounds_41 : decode cX4_bounds 41 = .ok (.if_icmp .eq 7, 3) := by decide +kernel
theorem dX4_bounds_44 : decode cX4_bounds 44 = .ok (.iconst 1, 1) := by decide +kernel
theorem dX4_bounds_45 : decode cX4_bounds 45 = .ok (.goto 4, 3) := by decide +kernel
theorem dX4_bounds_48 : decode cX4_bounds 48 = .ok (.iconst 0, 1) := by decide +kernel
theorem dX4_bounds_49 : decode cX4_bounds 49 = .ok (.istore 4, 2) := by decide +kernel
theorem dX4_bounds_51 : decode cX4_bounds 51 = .ok (.aload_n 0, 1) := by decide +kernel
theorem dX4_bounds_52 : decode cX4_bounds 52 = .ok (.getfield 57, 3) := by decide +kernel
theorem dX4_bounds_55 : decode cX4_bounds 55 = .ok (.iload_n 1, 1) := by decide +kernel
theorem dX4_bounds_56 : decode cX4_bounds 56 = .ok (.iload_n 2, 1) := by decide +kernel
theorem dX4_bounds_57 : decode cX4_bounds 57 = .ok (.iastore, 1) := by decide +kernel
theorem dX4_bounds_58 : decode cX4_bounds 58 = .ok (.aload_n 0, 1) := by decide +kernel
theorem dX4_bounds_59 : decode cX4_bounds 59 = .ok (.getfield 60, 3) := by decide +kernel
theorem dX4_bounds_62 : decode cX4_bounds 62 = .ok (.iload_n 1, 1) := by decide +kernel
theorem dX4_bounds_63 : decode cX4_bounds 63 = .ok (.iload_n 3, 1) := by decide +kernel
theorem dX4_bounds_64 : decode cX4_bounds 64 = .ok (.iastore, 1) := by decide +kernel
theorem dX4_bounds_65 : decode cX4_bounds 65 = .ok (.iload 4, 2) := by decide +kernel
theorem dX4_bounds_67 : decode cX4_bounds 67 = .ok (.ireturn, 1) := by decide +kernel
set_option maxRecDepth 20000 in
theorem ggX4_fill_X4_checkLayer : GoodIn wsX4_fill wsX4_checkLayer := goodIn_ca (goodIn_r _ [14, 15, 16, 17, 13, 18, 19, 20, 161, 162, 163, 164, 165, 166, 167, 168, 169, 170, 171, 172, 173, 174, 175, 176, 177, 178, 179] (by decide +kernel) (by decide +kernel)) (goodIn_sub (fun _ h => List.mem_cons_of_mem _ (List.mem_append_left _ (List.mem_append_right _ h))) (by decide +kernel))
set_option maxRecDepth 20000 in
theorem gX4_fill_X4_checkLayer : GoodIn wsX4_fill (wsV RX4 100 RX4 yX4_checkLayer wsX4_checkLayer) := goodIn_app (goodIn_of _ (by decide +kernel)) ggX4_fill_X4_checkLayer
set_option maxRecDepth 20000 in
theorem ggX4_fill_X4_checkRange : GoodIn wsX4_fill wsX4_checkRange := goodIn_ca (goodIn_r _ [23, 24, 25] (by decide +kernel) (by decide +kernel)) (goodIn_sub (fun _ h => List.mem_cons_of_mem _ (List.mem_append_right _ h)) (by decide +kernel))
set_option maxRecDepth 20000 in
theorem gX4_fill_X4_checkRange : GoodIn wsX4_fill (va_wsS RX4 189 yX4_checkRange wsX4_checkRange) := goodIn_app (goodIn_of _ (by decide +kernel)) ggX4_fill_X4_checkRange
set_option maxRecDepth 20000 in
theorem ggX4_fill_X0_dropLayer : GoodIn wsX4_fill wsX0_dropLayer := goodIn_r _ [30, 31, 32, 33, 34, 35, 36, 37, 38, 39, 40, 29, 41, 182, 183, 184, 185, 186, 187, 188] (by decide +kernel) (by decide +kernel)
set_option maxRecDepth 20000 in
theorem gX4_fill_X0_dropLayer : GoodIn wsX4_fill (wsV RX4 203 RX0 yX0_dropLayer wsX0_dropLayer) := goodIn_app (goodIn_of _ (by decide +kernel)) ggX4_fill_X0_dropLayer
set_option maxRecDepth 20000 in
theorem ggX4_fill_X4_fillTile : GoodIn wsX4_fill wsX4_fillTile := goodIn_r _ [45, 5, 46, 47, 48, 3, 49, 50, 51, 52, 53, 54, 13, 55, 56, 57, 58, 59, 60, 61, 62, 63, 64, 65, 66, 67, 68, 69, 70, 71, 72, 73, 74, 75, 76, 77, 78, 79, 80, 81, 82, 83, 84, 85, 86, 87, 88, 89, 90, 91, 92, 93, 94, 95, 96, 97, 98, 99, 100, 101, 102, 103, 104, 105, 106, 107, 108, 109, 110, 111, 112, 113, 114, 115, 116, 117, 118, 119, 120, 121, 122, 123, 124, 125, 126, 127, 128, 129, 130, 131, 132, 133, 134, 135, 136, 137, 138, 139, 140, 141, 142, 143, 144, 145, 146, 147, 148, 149, 150, 151, 152, 153, 154, 155, 156, 39, 40, 29, 41, 31, 33, 32, 34, 35, 36, 37, 161, 162, 163, 164, 165, 166, 167, 168, 169, 170, 171, 172, 173, 174, 175, 176, 177, 178, 179, 189, 190, 191, 192, 193, 194, 182, 183, 184, 185, 186, 187, 188, 195, 196, 197, 198, 199, 200, 201, 202, 203, 204, 205, 206] (by decide +kernel) (by decide +kernel)
set_option maxRecDepth 20000 in
theorem gX4_fill_X4_fillTile : GoodIn wsX4_fill (wsV RX4 209 RX4 yX4_fillTile wsX4_fillTile) := goodIn_app (goodIn_of _ (by decide +kernel)) ggX4_fill_X4_fillTile
set_option maxRecDepth 20000 in
theorem ggX4_fill_X4_areaOfPercent : GoodIn wsX4_fill wsX4_areaOfPercent := goodIn_r _ [114, 115] (by decide +kernel) (by decide +kernel)
set_option maxRecDepth 20000 in
theorem gX4_fill_X4_areaOfPercent : GoodIn wsX4_fill (va_wsS RX4 213 yX4_areaOfPercent wsX4_areaOfPercent) := goodIn_app (goodIn_of _ (by decide +kernel)) ggX4_fill_X4_areaOfPercent
set_option maxRecDepth 20000 in
theorem ggX4_fill_X0_sizeOnLayer : GoodIn wsX4_fill wsX0_sizeOnLayer := goodIn_r _ [160, 31, 32, 182, 183, 184, 185, 186, 187, 188] (by decide +kernel) (by decide +kernel)
set_option maxRecDepth 20000 in
theorem gX4_fill_X0_sizeOnLayer : GoodIn wsX4_fill (wsV RX4 217 RX0 yX0_sizeOnLayer wsX0_sizeOnLayer) := goodIn_app (goodIn_of _ (by decide +kernel)) ggX4_fill_X0_sizeOnLayer
theorem dX4_fill_0 : decode cX4_fill 0 = .ok (.aload_n 0, 1) := by decide +kernel
theorem dX4_fill_1 : decode cX4_fill 1 = .ok (.iload_n 1, 1) := by decide +kernel
theorem dX4_fill_2 : decode cX4_fill 2 = .ok (.invokevirtual 100, 3) := by decide +kernel
theorem dX4_fill_5 : decode cX4_fill 5 = .ok (.lload_n 2, 1) := by decide +kernel
theorem dX4_fill_6 : decode cX4_fill 6 = .ok (.ldc2_w 201, 3) := by decide +kernel
theorem dX4_fill_9 : decode cX4_fill 9 = .ok (.ldc2_w 199, 3) := by decide +kernel
theorem dX4_fill_12 : decode cX4_fill 12 = .ok (.invokestatic 189, 3) := by decide +kernel
theorem dX4_fill_15 : decode cX4_fill 15 = .ok (.lload 4, 2) := by decide +kernel
theorem dX4_fill_17 : decode cX4_fill 17 = .ok (.lconst 0, 1) := by decide +kernel
theorem dX4_fill_18 : decode cX4_fill 18 = .ok (.ldc2_w 199, 3) := by decide +kernel
theorem dX4_fill_21 : decode cX4_fill 21 = .ok (.invokestatic 189, 3) := by decide +kernel
theorem dX4_fill_24 : decode cX4_fill 24 = .ok (.lload 6, 2) := by decide +kernel
theorem dX4_fill_26 : decode cX4_fill 26 = .ok (.lconst 0, 1) := by decide +kernel
theorem dX4_fill_27 : decode cX4_fill 27 = .ok (.ldc2_w 199, 3) := by decide +kernel
theorem dX4_fill_30 : decode cX4_fill 30 = .ok (.invokestatic 189, 3) := by decide +kernel
theorem dX4_fill_33 : decode cX4_fill 33 = .ok (.aload_n 0, 1) := by decide +kernel
theorem dX4_fill_34 : decode cX4_fill 34 = .ok (.getfield 38, 3) := by decide +kernel
theorem dX4_fill_37 : decode cX4_fill 37 = .ok (.iload_n 1, 1) := by decide +kernel
theorem dX4_fill_38 : decode cX4_fill 38 = .ok (.invokevirtual 203, 3) := by decide +kernel
theorem dX4_fill_41 : decode cX4_fill 41 = .ok (.aload_n 0, 1) := by decide +kernel
theorem dX4_fill_42 : decode cX4_fill 42 = .ok (.iconst 0, 1) := by decide +kernel
theorem dX4_fill_43 : decode cX4_fill 43 = .ok (.putfield 206, 3) := by decide +kernel
theorem dX4_fill_46 : decode cX4_fill 46 = .ok (.iconst 0, 1) := by decide +kernel
theorem dX4_fill_47 : decode cX4_fill 47 = .ok (.istore 8, 2) := by decide +kernel
theorem dX4_fill_49 : decode cX4_fill 49 = .ok (.iload 8, 2) := by decide +kernel
theorem dX4_fill_51 : decode cX4_fill 51 = .ok (.bipush 25, 2) := by decide +kernel
theorem dX4_fill_53 : decode cX4_fill 53 = .ok (.if_icmp .ge 77, 3) := by decide +kernel
theorem dX4_fill_56 : decode cX4_fill 56 = .ok (.aload_n 0, 1) := by decide +kernel
theorem dX4_fill_57 : decode cX4_fill 57 = .ok (.iload_n 1, 1) := by decide +kernel
theorem dX4_fill_58 : decode cX4_fill 58 = .ok (.iload 8, 2) := by decide +kernel
theorem dX4_fill_60 : decode cX4_fill 60 = .ok (.lload_n 2, 1) := by decide +kernel
theorem dX4_fill_61 : decode cX4_fill 61 = .ok (.l2i, 1) := by decide +kernel
theorem dX4_fill_62 : decode cX4_fill 62 = .ok (.lload 4, 2) := by decide +kernel
theorem dX4_fill_64 : decode cX4_fill 64 = .ok (.l2i, 1) := by decide +kernel
theorem dX4_fill_65 : decode cX4_fill 65 = .ok (.lload 6, 2) := by decide +kernel
theorem dX4_fill_67 : decode cX4_fill 67 = .ok (.l2i, 1) := by decide +kernel
theorem dX4_fill_68 : decode cX4_fill 68 = .ok (.invokevirtual 209, 3) := by decide +kernel
theorem dX4_fill_71 : decode cX4_fill 71 = .ok (.lstore 9, 2) := by decide +kernel
theorem dX4_fill_73 : decode cX4_fill 73 = .ok (.lload 9, 2) := by decide +kernel
theorem dX4_fill_75 : decode cX4_fill 75 = .ok (.aload_n 0, 1) := by decide +kernel
theorem dX4_fill_76 : decode cX4_fill 76 = .ok (.getfield 57, 3) := by decide +kernel
theorem dX4_fill_79 : decode cX4_fill 79 = .ok (.iload_n 1, 1) := by decide +kernel
theorem dX4_fill_80 : decode cX4_fill 80 = .ok (.iaload, 1) := by decide +kernel
theorem dX4_fill_81 : decode cX4_fill 81 = .ok (.invokestatic 213, 3) := by decide +kernel
theorem dX4_fill_84 : decode cX4_fill 84 = .ok (.lcmp, 1) := by decide +kernel
theorem dX4_fill_85 : decode cX4_fill 85 = .ok (.ifCond .lt 18, 3) := by decide +kernel
theorem dX4_fill_88 : decode cX4_fill 88 = .ok (.lload 9, 2) := by decide +kernel
theorem dX4_fill_90 : decode cX4_fill 90 = .ok (.aload_n 0, 1) := by decide +kernel
theorem dX4_fill_91 : decode cX4_fill 91 = .ok (.getfield 60, 3) := by decide +kernel
theorem dX4_fill_94 : decode cX4_fill 94 = .ok (.iload_n 1, 1) := by decide +kernel
theorem dX4_fill_95 : decode cX4_fill 95 = .ok (.iaload, 1) := by decide +kernel
theorem dX4_fill_96 : decode cX4_fill 96 = .ok (.invokestatic 213, 3) := by decide +kernel
theorem dX4_fill_99 : decode cX4_fill 99 = .ok (.lcmp, 1) := by decide +kernel
theorem dX4_fill_100 : decode cX4_fill 100 = .ok (.ifCond .le 24, 3) := by decide +kernel
theorem dX4_fill_103 : decode cX4_fill 103 = .ok (.aload_n 0, 1) := by decide +kernel
theorem dX4_fill_104 : decode cX4_fill 104 = .ok (.getfield 63, 3) := by decide +kernel
theorem dX4_fill_107 : decode cX4_fill 107 = .ok (.aload_n 0, 1) := by decide +kernel
theorem dX4_fill_108 : decode cX4_fill 108 = .ok (.getfield 206, 3) := by decide +kernel
theorem dX4_fill_111 : decode cX4_fill 111 = .ok (.iload 8, 2) := by decide +kernel
theorem dX4_fill_113 : decode cX4_fill 113 = .ok (.iastore, 1) := by decide +kernel
theorem dX4_fill_114 : decode cX4_fill 114 = .ok (.aload_n 0, 1) := by decide +kernel
theorem dX4_fill_115 : decode cX4_fill 115 = .ok (.dup, 1) := by decide +kernel
theorem dX4_fill_116 : decode cX4_fill 116 = .ok (.getfield 206, 3) := by decide +kernel
theorem dX4_fill_119 : decode cX4_fill 119 = .ok (.iconst 1, 1) := by decide +kernel
theorem dX4_fill_120 : decode cX4_fill 120 = .ok (.iadd, 1) := by decide +kernel
theorem dX4_fill_121 : decode cX4_fill 121 = .ok (.putfield 206, 3) := by decide +kernel
theorem dX4_fill_124 : decode cX4_fill 124 = .ok (.iinc 8 1, 3) := by decide +kernel
theorem dX4_fill_127 : decode cX4_fill 127 = .ok (.goto (-78), 3) := by decide +kernel
theorem dX4_fill_130 : decode cX4_fill 130 = .ok (.iload_n 1, 1) := by decide +kernel
theorem dX4_fill_131 : decode cX4_fill 131 = .ok (.ifCond .ne 11, 3) := by decide +kernel
theorem dX4_fill_134 : decode cX4_fill 134 = .ok (.aload_n 0, 1) := by decide +kernel
theorem dX4_fill_135 : decode cX4_fill 135 = .ok (.getfield 76, 3) := by decide +kernel
theorem dX4_fill_138 : decode cX4_fill 138 = .ok (.iconst 0, 1) := by decide +kernel
theorem dX4_fill_139 : decode cX4_fill 139 = .ok (.putfield 131, 3) := by decide +kernel
theorem dX4_fill_142 : decode cX4_fill 142 = .ok (.aload_n 0, 1) := by decide +kernel
theorem dX4_fill_143 : decode cX4_fill 143 = .ok (.getfield 38, 3) := by decide +kernel
theorem dX4_fill_146 : decode cX4_fill 146 = .ok (.iload_n 1, 1) := by decide +kernel
theorem dX4_fill_147 : decode cX4_fill 147 = .ok (.invokevirtual 217, 3) := by decide +kernel
theorem dX4_fill_150 : decode cX4_fill 150 = .ok (.ireturn, 1) := by decide +kernel
set_option maxRecDepth 20000 in
theorem ggX4_piece_X4_checkLayer : GoodIn wsX4_piece wsX4_checkLayer := goodIn_ca (goodIn_r _ [9, 10, 11, 12, 8, 13, 14, 15, 27, 28, 29, 30, 31, 32, 33, 34, 35, 36, 37, 38, 39, 40, 41, 42, 43, 44, 45] (by decide +kernel) (by decide +kernel)) (goodIn_sub (fun _ h => List.mem_cons_of_mem _ (List.mem_append_right _ h)) (by decide +kernel))
set_option maxRecDepth 20000 in
theorem gX4_piece_X4_checkLayer : GoodIn wsX4_piece (wsV RX4 100 RX4 yX4_checkLayer wsX4_checkLayer) := goodIn_app (goodIn_of _ (by decide +kernel)) ggX4_piece_X4_checkLayer
set_option maxRecDepth 20000 in
theorem ggX4_piece_X0_sizeOnLayer : GoodIn wsX4_piece wsX0_sizeOnLayer := goodIn_r _ [20, 21, 22, 46, 47, 48, 49, 50, 51, 52] (by decide +kernel) (by decide +kernel)
set_option maxRecDepth 20000 in
theorem gX4_piece_X0_sizeOnLayer : GoodIn wsX4_piece (wsV RX4 217 RX0 yX0_sizeOnLayer wsX0_sizeOnLayer) := goodIn_app (goodIn_of _ (by decide +kernel)) ggX4_piece_X0_sizeOnLayer
set_option maxRecDepth 20000 in
theorem ggX4_piece_X4_checkIndex : GoodIn wsX4_piece wsX4_checkIndex := goodIn_ca (goodIn_r _ [13, 14, 15] (by decide +kernel) (by decide +kernel)) (goodIn_sub (fun _ h => List.mem_cons_of_mem _ (List.mem_append_right _ h)) (by decide +kernel))
set_option maxRecDepth 20000 in
theorem gX4_piece_X4_checkIndex : GoodIn wsX4_piece (va_wsS RX4 148 yX4_checkIndex wsX4_checkIndex) := goodIn_app (goodIn_of _ (by decide +kernel)) ggX4_piece_X4_checkIndex
set_option maxRecDepth 20000 in
theorem ggX4_piece_X0_indexOnLayer : GoodIn wsX4_piece wsX0_indexOnLayer := goodIn_r _ [26, 21, 22, 46, 47, 48, 49, 50, 51, 52] (by decide +kernel) (by decide +kernel)
set_option maxRecDepth 20000 in
theorem gX4_piece_X0_indexOnLayer : GoodIn wsX4_piece (wsV RX4 221 RX0 yX0_indexOnLayer wsX0_indexOnLayer) := goodIn_app (goodIn_of _ (by decide +kernel)) ggX4_piece_X0_indexOnLayer
theorem dX4_piece_0 : decode cX4_piece 0 = .ok (.aload_n 0, 1) := by decide +kernel
theorem dX4_piece_1 : decode cX4_piece 1 = .ok (.iload_n 1, 1) := by decide +kernel
theorem dX4_piece_2 : decode cX4_piece 2 = .ok (.invokevirtual 100, 3) := by decide +kernel
theorem dX4_piece_5 : decode cX4_piece 5 = .ok (.iload_n 2, 1) := by decide +kernel
theorem dX4_piece_6 : decode cX4_piece 6 = .ok (.aload_n 0, 1) := by decide +kernel
theorem dX4_piece_7 : decode cX4_piece 7 = .ok (.getfield 38, 3) := by decide +kernel
theorem dX4_piece_10 : decode cX4_piece 10 = .ok (.iload_n 1, 1) := by decide +kernel
theorem dX4_piece_11 : decode cX4_piece 11 = .ok (.invokevirtual 217, 3) := by decide +kernel
theorem dX4_piece_14 : decode cX4_piece 14 = .ok (.invokestatic 148, 3) := by decide +kernel
theorem dX4_piece_17 : decode cX4_piece 17 = .ok (.iload_n 3, 1) := by decide +kernel
theorem dX4_piece_18 : decode cX4_piece 18 = .ok (.iconst 2, 1) := by decide +kernel
theorem dX4_piece_19 : decode cX4_piece 19 = .ok (.invokestatic 148, 3) := by decide +kernel
theorem dX4_piece_22 : decode cX4_piece 22 = .ok (.aload_n 0, 1) := by decide +kernel
theorem dX4_piece_23 : decode cX4_piece 23 = .ok (.getfield 38, 3) := by decide +kernel
theorem dX4_piece_26 : decode cX4_piece 26 = .ok (.iload_n 1, 1) := by decide +kernel
theorem dX4_piece_27 : decode cX4_piece 27 = .ok (.iload_n 2, 1) := by decide +kernel
theorem dX4_piece_28 : decode cX4_piece 28 = .ok (.invokevirtual 221, 3) := by decide +kernel
theorem dX4_piece_31 : decode cX4_piece 31 = .ok (.istore 4, 2) := by decide +kernel
theorem dX4_piece_33 : decode cX4_piece 33 = .ok (.iload 4, 2) := by decide +kernel
theorem dX4_piece_35 : decode cX4_piece 35 = .ok (.iconst (-1), 1) := by decide +kernel
theorem dX4_piece_36 : decode cX4_piece 36 = .ok (.if_icmp .ne 7, 3) := by decide +kernel
theorem dX4_piece_39 : decode cX4_piece 39 = .ok (.ldc2_w 224, 3) := by decide +kernel
theorem dX4_piece_42 : decode cX4_piece 42 = .ok (.lreturn, 1) := by decide +kernel
theorem dX4_piece_43 : decode cX4_piece 43 = .ok (.iload_n 3, 1) := by decide +kernel
theorem dX4_piece_44 : decode cX4_piece 44 = .ok (.ifCond .ne 17, 3) := by decide +kernel
theorem dX4_piece_47 : decode cX4_piece 47 = .ok (.aload_n 0, 1) := by decide +kernel
theorem dX4_piece_48 : decode cX4_piece 48 = .ok (.getfield 38, 3) := by decide +kernel
theorem dX4_piece_51 : decode cX4_piece 51 = .ok (.getfield 181, 3) := by decide +kernel
theorem dX4_piece_54 : decode cX4_piece 54 = .ok (.iload 4, 2) := by decide +kernel
theorem dX4_piece_56 : decode cX4_piece 56 = .ok (.iaload, 1) := by decide +kernel
theorem dX4_piece_57 : decode cX4_piece 57 = .ok (.i2l, 1) := by decide +kernel
theorem dX4_piece_58 : decode cX4_piece 58 = .ok (.goto 14, 3) := by decide +kernel
theorem dX4_piece_61 : decode cX4_piece 61 = .ok (.aload_n 0, 1) := by decide +kernel
theorem dX4_piece_62 : decode cX4_piece 62 = .ok (.getfield 38, 3) := by decide +kernel
theorem dX4_piece_65 : decode cX4_piece 65 = .ok (.getfield 184, 3) := by decide +kernel
theorem dX4_piece_68 : decode cX4_piece 68 = .ok (.iload 4, 2) := by decide +kernel
theorem dX4_piece_70 : decode cX4_piece 70 = .ok (.iaload, 1) := by decide +kernel
theorem dX4_piece_71 : decode cX4_piece 71 = .ok (.i2l, 1) := by decide +kernel
theorem dX4_piece_72 : decode cX4_piece 72 = .ok (.lreturn, 1) := by decide +kernel
theorem dX4_told_0 : decode cX4_told 0 = .ok (.iload_n 1, 1) := by decide +kernel
theorem dX4_told_1 : decode cX4_told 1 = .ok (.ifCond .ge 13, 3) := by decide +kernel
theorem dX4_told_4 : decode cX4_told 4 = .ok (.new 226, 3) := by decide +kernel
theorem dX4_told_7 : decode cX4_told 7 = .ok (.dup, 1) := by decide +kernel
theorem dX4_told_8 : decode cX4_told 8 = .ok (.ldc 228, 2) := by decide +kernel
theorem dX4_told_10 : decode cX4_told 10 = .ok (.invokespecial 230, 3) := by decide +kernel
theorem dX4_told_13 : decode cX4_told 13 = .ok (.athrow, 1) := by decide +kernel
theorem dX4_told_14 : decode cX4_told 14 = .ok (.iload_n 1, 1) := by decide +kernel
theorem dX4_told_15 : decode cX4_told 15 = .ok (.aload_n 0, 1) := by decide +kernel
theorem dX4_told_16 : decode cX4_told 16 = .ok (.getfield 206, 3) := by decide +kernel
theorem dX4_told_19 : decode cX4_told 19 = .ok (.if_icmp .ge 12, 3) := by decide +kernel
theorem dX4_told_22 : decode cX4_told 22 = .ok (.aload_n 0, 1) := by decide +kernel
theorem dX4_told_23 : decode cX4_told 23 = .ok (.getfield 63, 3) := by decide +kernel
theorem dX4_told_26 : decode cX4_told 26 = .ok (.iload_n 1, 1) := by decide +kernel
theorem dX4_told_27 : decode cX4_told 27 = .ok (.iaload, 1) := by decide +kernel
theorem dX4_told_28 : decode cX4_told 28 = .ok (.goto 4, 3) := by decide +kernel
theorem dX4_told_31 : decode cX4_told 31 = .ok (.iconst (-1), 1) := by decide +kernel
theorem dX4_told_32 : decode cX4_told 32 = .ok (.ireturn, 1) := by decide +kernel
set_option maxRecDepth 20000 in
theorem ggX4_slot_X4_checkLayer : GoodIn wsX4_slot wsX4_checkLayer := goodIn_ca (goodIn_r _ [9, 10, 11, 12, 8, 13, 14, 15, 33, 34, 35, 36, 37, 38, 39, 40, 41, 42, 43, 44, 45, 46, 47, 48, 49, 50, 51] (by decide +kernel) (by decide +kernel)) (goodIn_sub (fun _ h => List.mem_cons_of_mem _ (List.mem_append_left _ (List.mem_append_right _ h))) (by decide +kernel))
set_option maxRecDepth 20000 in
theorem gX4_slot_X4_checkLayer : GoodIn wsX4_slot (wsV RX4 100 RX4 yX4_checkLayer wsX4_checkLayer) := goodIn_app (goodIn_of _ (by decide +kernel)) ggX4_slot_X4_checkLayer
set_option maxRecDepth 20000 in
theorem ggX4_slot_X4_checkRange : GoodIn wsX4_slot wsX4_checkRange := goodIn_ca (goodIn_r _ [18, 19, 20] (by decide +kernel) (by decide +kernel)) (goodIn_sub (fun _ h => List.mem_cons_of_mem _ (List.mem_append_right _ h)) (by decide +kernel))
set_option maxRecDepth 20000 in
theorem gX4_slot_X4_checkRange : GoodIn wsX4_slot (va_wsS RX4 189 yX4_checkRange wsX4_checkRange) := goodIn_app (goodIn_of _ (by decide +kernel)) ggX4_slot_X4_checkRange
set_option maxRecDepth 20000 in
theorem ggX4_slot_X4_slotsInShape : GoodIn wsX4_slot wsX4_slotsInShape := goodIn_r _ [24, 2, 25, 26, 27, 28, 29, 30, 31, 32, 33, 34, 35, 36, 37, 38, 39, 40, 41, 42, 43, 44, 45, 46, 47, 48, 49, 50, 51, 52, 53, 54, 55, 56, 57, 58] (by decide +kernel) (by decide +kernel)
set_option maxRecDepth 20000 in
theorem gX4_slot_X4_slotsInShape : GoodIn wsX4_slot (wsV RX4 236 RX4 yX4_slotsInShape wsX4_slotsInShape) := goodIn_app (goodIn_of _ (by decide +kernel)) ggX4_slot_X4_slotsInShape
theorem dX4_slot_0 : decode cX4_slot 0 = .ok (.aload_n 0, 1) := by decide +kernel
theorem dX4_slot_1 : decode cX4_slot 1 = .ok (.iload_n 1, 1) := by decide +kernel
theorem dX4_slot_2 : decode cX4_slot 2 = .ok (.invokevirtual 100, 3) := by decide +kernel
theorem dX4_slot_5 : decode cX4_slot 5 = .ok (.lload_n 2, 1) := by decide +kernel
theorem dX4_slot_6 : decode cX4_slot 6 = .ok (.lconst 1, 1) := by decide +kernel
theorem dX4_slot_7 : decode cX4_slot 7 = .ok (.ldc2_w 231, 3) := by decide +kernel
theorem dX4_slot_10 : decode cX4_slot 10 = .ok (.invokestatic 189, 3) := by decide +kernel
theorem dX4_slot_13 : decode cX4_slot 13 = .ok (.iconst 0, 1) := by decide +kernel
theorem dX4_slot_14 : decode cX4_slot 14 = .ok (.istore 4, 2) := by decide +kernel
theorem dX4_slot_16 : decode cX4_slot 16 = .ok (.iconst 0, 1) := by decide +kernel
theorem dX4_slot_17 : decode cX4_slot 17 = .ok (.istore 5, 2) := by decide +kernel
theorem dX4_slot_19 : decode cX4_slot 19 = .ok (.iload 5, 2) := by decide +kernel
theorem dX4_slot_21 : decode cX4_slot 21 = .ok (.aload_n 0, 1) := by decide +kernel
theorem dX4_slot_22 : decode cX4_slot 22 = .ok (.getfield 31, 3) := by decide +kernel
theorem dX4_slot_25 : decode cX4_slot 25 = .ok (.getfield 103, 3) := by decide +kernel
theorem dX4_slot_28 : decode cX4_slot 28 = .ok (.if_icmp .ge 36, 3) := by decide +kernel
theorem dX4_slot_31 : decode cX4_slot 31 = .ok (.aload_n 0, 1) := by decide +kernel
theorem dX4_slot_32 : decode cX4_slot 32 = .ok (.getfield 31, 3) := by decide +kernel
theorem dX4_slot_35 : decode cX4_slot 35 = .ok (.getfield 233, 3) := by decide +kernel
theorem dX4_slot_38 : decode cX4_slot 38 = .ok (.iload 5, 2) := by decide +kernel
theorem dX4_slot_40 : decode cX4_slot 40 = .ok (.iaload, 1) := by decide +kernel
theorem dX4_slot_41 : decode cX4_slot 41 = .ok (.iload_n 1, 1) := by decide +kernel
theorem dX4_slot_42 : decode cX4_slot 42 = .ok (.if_icmp .ne 16, 3) := by decide +kernel
theorem dX4_slot_45 : decode cX4_slot 45 = .ok (.iload 4, 2) := by decide +kernel
theorem dX4_slot_47 : decode cX4_slot 47 = .ok (.aload_n 0, 1) := by decide +kernel
theorem dX4_slot_48 : decode cX4_slot 48 = .ok (.iload 5, 2) := by decide +kernel
theorem dX4_slot_50 : decode cX4_slot 50 = .ok (.lload_n 2, 1) := by decide +kernel
theorem dX4_slot_51 : decode cX4_slot 51 = .ok (.l2i, 1) := by decide +kernel
theorem dX4_slot_52 : decode cX4_slot 52 = .ok (.invokevirtual 236, 3) := by decide +kernel
theorem dX4_slot_55 : decode cX4_slot 55 = .ok (.iadd, 1) := by decide +kernel
theorem dX4_slot_56 : decode cX4_slot 56 = .ok (.istore 4, 2) := by decide +kernel
theorem dX4_slot_58 : decode cX4_slot 58 = .ok (.iinc 5 1, 3) := by decide +kernel
theorem dX4_slot_61 : decode cX4_slot 61 = .ok (.goto (-42), 3) := by decide +kernel
theorem dX4_slot_64 : decode cX4_slot 64 = .ok (.iload 4, 2) := by decide +kernel
theorem dX4_slot_66 : decode cX4_slot 66 = .ok (.ireturn, 1) := by decide +kernel
set_option maxRecDepth 20000 in
theorem ggX4_slotAt_X4_checkLayer : GoodIn wsX4_slotAt wsX4_checkLayer := goodIn_ca (goodIn_r _ [9, 10, 11, 12, 8, 13, 14, 15, 37, 38, 39, 40, 41, 42, 43, 44, 45, 46, 47, 48, 49, 50, 51, 52, 53, 54, 55] (by decide +kernel) (by decide +kernel)) (goodIn_sub (fun _ h => List.mem_cons_of_mem _ (List.mem_append_left _ (List.mem_append_right _ h))) (by decide +kernel))
set_option maxRecDepth 20000 in
theorem gX4_slotAt_X4_checkLayer : GoodIn wsX4_slotAt (wsV RX4 100 RX4 yX4_checkLayer wsX4_checkLayer) := goodIn_app (goodIn_of _ (by decide +kernel)) ggX4_slotAt_X4_checkLayer
set_option maxRecDepth 20000 in
theorem ggX4_slotAt_X4_checkIndex : GoodIn wsX4_slotAt wsX4_checkIndex := goodIn_ca (goodIn_r _ [13, 14, 15] (by decide +kernel) (by decide +kernel)) (goodIn_sub (fun _ h => List.mem_cons_of_mem _ (List.mem_append_left _ (List.mem_append_right _ h))) (by decide +kernel))
set_option maxRecDepth 20000 in
theorem gX4_slotAt_X4_checkIndex : GoodIn wsX4_slotAt (va_wsS RX4 148 yX4_checkIndex wsX4_checkIndex) := goodIn_app (goodIn_of _ (by decide +kernel)) ggX4_slotAt_X4_checkIndex
set_option maxRecDepth 20000 in
theorem ggX4_slotAt_X4_checkRange : GoodIn wsX4_slotAt wsX4_checkRange := goodIn_ca (goodIn_r _ [18, 19, 20] (by decide +kernel) (by decide +kernel)) (goodIn_sub (fun _ h => List.mem_cons_of_mem _ (List.mem_append_right _ h)) (by decide +kernel))
set_option maxRecDepth 20000 in
theorem gX4_slotAt_X4_checkRange : GoodIn wsX4_slotAt (va_wsS RX4 189 yX4_checkRange wsX4_checkRange) := goodIn_app (goodIn_of _ (by decide +kernel)) ggX4_slotAt_X4_checkRange
set_option maxRecDepth 20000 in
theorem ggX4_slotAt_X4_slotsInShape : GoodIn wsX4_slotAt wsX4_slotsInShape := goodIn_r _ [24, 2, 25, 26, 27, 28, 29, 30, 31, 32, 37, 38, 39, 40, 41, 42, 43, 44, 45, 46, 47, 48, 49, 50, 51, 52, 53, 54, 55, 56, 57, 58, 59, 60, 61, 62] (by decide +kernel) (by decide +kernel)
set_option maxRecDepth 20000 in
theorem gX4_slotAt_X4_slotsInShape : GoodIn wsX4_slotAt (wsV RX4 236 RX4 yX4_slotsInShape wsX4_slotsInShape) := goodIn_app (goodIn_of _ (by decide +kernel)) ggX4_slotAt_X4_slotsInShape
set_option maxRecDepth 20000 in
theorem ggX4_slotAt_X4_slotSide : GoodIn wsX4_slotAt wsX4_slotSide := goodIn_r _ [36, 2, 25, 26, 27, 28, 37, 38, 39, 40, 41, 42, 43, 44, 45, 46, 47, 48, 49, 50, 51, 52, 53, 54, 55, 56, 57, 58, 59, 60, 61, 62] (by decide +kernel) (by decide +kernel)
set_option maxRecDepth 20000 in
theorem gX4_slotAt_X4_slotSide : GoodIn wsX4_slotAt (wsV RX4 239 RX4 yX4_slotSide wsX4_slotSide) := goodIn_app (goodIn_of _ (by decide +kernel)) ggX4_slotAt_X4_slotSide
theorem dX4_slotAt_0 : decode cX4_slotAt 0 = .ok (.aload_n 0, 1) := by decide +kernel
theorem dX4_slotAt_1 : decode cX4_slotAt 1 = .ok (.iload_n 1, 1) := by decide +kernel
theorem dX4_slotAt_2 : decode cX4_slotAt 2 = .ok (.invokevirtual 100, 3) := by decide +kernel
theorem dX4_slotAt_5 : decode cX4_slotAt 5 = .ok (.iload 5, 2) := by decide +kernel
theorem dX4_slotAt_7 : decode cX4_slotAt 7 = .ok (.iconst 4, 1) := by decide +kernel
theorem dX4_slotAt_8 : decode cX4_slotAt 8 = .ok (.invokestatic 148, 3) := by decide +kernel
theorem dX4_slotAt_11 : decode cX4_slotAt 11 = .ok (.lload_n 2, 1) := by decide +kernel
theorem dX4_slotAt_12 : decode cX4_slotAt 12 = .ok (.lconst 1, 1) := by decide +kernel
theorem dX4_slotAt_13 : decode cX4_slotAt 13 = .ok (.ldc2_w 231, 3) := by decide +kernel
theorem dX4_slotAt_16 : decode cX4_slotAt 16 = .ok (.invokestatic 189, 3) := by decide +kernel
theorem dX4_slotAt_19 : decode cX4_slotAt 19 = .ok (.iload 4, 2) := by decide +kernel
theorem dX4_slotAt_21 : decode cX4_slotAt 21 = .ok (.istore 6, 2) := by decide +kernel
theorem dX4_slotAt_23 : decode cX4_slotAt 23 = .ok (.iconst 0, 1) := by decide +kernel
theorem dX4_slotAt_24 : decode cX4_slotAt 24 = .ok (.istore 7, 2) := by decide +kernel
theorem dX4_slotAt_26 : decode cX4_slotAt 26 = .ok (.iload 7, 2) := by decide +kernel
theorem dX4_slotAt_28 : decode cX4_slotAt 28 = .ok (.aload_n 0, 1) := by decide +kernel
theorem dX4_slotAt_29 : decode cX4_slotAt 29 = .ok (.getfield 31, 3) := by decide +kernel
theorem dX4_slotAt_32 : decode cX4_slotAt 32 = .ok (.getfield 103, 3) := by decide +kernel
theorem dX4_slotAt_35 : decode cX4_slotAt 35 = .ok (.if_icmp .ge 65, 3) := by decide +kernel
