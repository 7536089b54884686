theorem dX4_slotAt_38 : decode cX4_slotAt 38 = .ok (.iload 6, 2) := by decide +kernel
theorem dX4_slotAt_40 : decode cX4_slotAt 40 = .ok (.ifCond .lt 60, 3) := by decide +kernel
theorem dX4_slotAt_43 : decode cX4_slotAt 43 = .ok (.aload_n 0, 1) := by decide +kernel
theorem dX4_slotAt_44 : decode cX4_slotAt 44 = .ok (.getfield 31, 3) := by decide +kernel
theorem dX4_slotAt_47 : decode cX4_slotAt 47 = .ok (.getfield 233, 3) := by decide +kernel
theorem dX4_slotAt_50 : decode cX4_slotAt 50 = .ok (.iload 7, 2) := by decide +kernel
theorem dX4_slotAt_52 : decode cX4_slotAt 52 = .ok (.iaload, 1) := by decide +kernel
theorem dX4_slotAt_53 : decode cX4_slotAt 53 = .ok (.iload_n 1, 1) := by decide +kernel
theorem dX4_slotAt_54 : decode cX4_slotAt 54 = .ok (.if_icmp .ne 40, 3) := by decide +kernel
theorem dX4_slotAt_57 : decode cX4_slotAt 57 = .ok (.aload_n 0, 1) := by decide +kernel
theorem dX4_slotAt_58 : decode cX4_slotAt 58 = .ok (.iload 7, 2) := by decide +kernel
theorem dX4_slotAt_60 : decode cX4_slotAt 60 = .ok (.lload_n 2, 1) := by decide +kernel
theorem dX4_slotAt_61 : decode cX4_slotAt 61 = .ok (.l2i, 1) := by decide +kernel
theorem dX4_slotAt_62 : decode cX4_slotAt 62 = .ok (.invokevirtual 236, 3) := by decide +kernel
theorem dX4_slotAt_65 : decode cX4_slotAt 65 = .ok (.istore 8, 2) := by decide +kernel
theorem dX4_slotAt_67 : decode cX4_slotAt 67 = .ok (.iload 6, 2) := by decide +kernel
theorem dX4_slotAt_69 : decode cX4_slotAt 69 = .ok (.iload 8, 2) := by decide +kernel
theorem dX4_slotAt_71 : decode cX4_slotAt 71 = .ok (.if_icmp .ge 16, 3) := by decide +kernel
theorem dX4_slotAt_74 : decode cX4_slotAt 74 = .ok (.aload_n 0, 1) := by decide +kernel
theorem dX4_slotAt_75 : decode cX4_slotAt 75 = .ok (.iload 7, 2) := by decide +kernel
theorem dX4_slotAt_77 : decode cX4_slotAt 77 = .ok (.lload_n 2, 1) := by decide +kernel
theorem dX4_slotAt_78 : decode cX4_slotAt 78 = .ok (.l2i, 1) := by decide +kernel
theorem dX4_slotAt_79 : decode cX4_slotAt 79 = .ok (.iload 6, 2) := by decide +kernel
theorem dX4_slotAt_81 : decode cX4_slotAt 81 = .ok (.iload 5, 2) := by decide +kernel
theorem dX4_slotAt_83 : decode cX4_slotAt 83 = .ok (.invokevirtual 239, 3) := by decide +kernel
theorem dX4_slotAt_86 : decode cX4_slotAt 86 = .ok (.ireturn, 1) := by decide +kernel
theorem dX4_slotAt_87 : decode cX4_slotAt 87 = .ok (.iload 6, 2) := by decide +kernel
theorem dX4_slotAt_89 : decode cX4_slotAt 89 = .ok (.iload 8, 2) := by decide +kernel
theorem dX4_slotAt_91 : decode cX4_slotAt 91 = .ok (.isub, 1) := by decide +kernel
theorem dX4_slotAt_92 : decode cX4_slotAt 92 = .ok (.istore 6, 2) := by decide +kernel
theorem dX4_slotAt_94 : decode cX4_slotAt 94 = .ok (.iinc 7 1, 3) := by decide +kernel
theorem dX4_slotAt_97 : decode cX4_slotAt 97 = .ok (.goto (-71), 3) := by decide +kernel
theorem dX4_slotAt_100 : decode cX4_slotAt 100 = .ok (.iconst (-1), 1) := by decide +kernel
theorem dX4_slotAt_101 : decode cX4_slotAt 101 = .ok (.ireturn, 1) := by decide +kernel
set_option maxRecDepth 20000 in
theorem ggX4_count_X4_checkIndex : GoodIn wsX4_count wsX4_checkIndex := goodIn_ca (goodIn_r _ [10, 11, 12] (by decide +kernel) (by decide +kernel)) (goodIn_sub (fun _ h => List.mem_cons_of_mem _ (List.mem_append_right _ h)) (by decide +kernel))
set_option maxRecDepth 20000 in
theorem gX4_count_X4_checkIndex : GoodIn wsX4_count (va_wsS RX4 148 yX4_checkIndex wsX4_checkIndex) := goodIn_app (goodIn_of _ (by decide +kernel)) ggX4_count_X4_checkIndex
theorem dX4_count_0 : decode cX4_count 0 = .ok (.iload_n 1, 1) := by decide +kernel
theorem dX4_count_1 : decode cX4_count 1 = .ok (.iconst 5, 1) := by decide +kernel
theorem dX4_count_2 : decode cX4_count 2 = .ok (.invokestatic 148, 3) := by decide +kernel
theorem dX4_count_5 : decode cX4_count 5 = .ok (.iload_n 1, 1) := by decide +kernel
theorem dX4_count_6 : decode cX4_count 6 = .ok (.tableswitch 56 0 3 #[30, 35, 43, 48], 30) := by decide +kernel
theorem dX4_count_36 : decode cX4_count 36 = .ok (.aload_n 0, 1) := by decide +kernel
theorem dX4_count_37 : decode cX4_count 37 = .ok (.getfield 87, 3) := by decide +kernel
theorem dX4_count_40 : decode cX4_count 40 = .ok (.ireturn, 1) := by decide +kernel
theorem dX4_count_41 : decode cX4_count 41 = .ok (.aload_n 0, 1) := by decide +kernel
theorem dX4_count_42 : decode cX4_count 42 = .ok (.getfield 31, 3) := by decide +kernel
theorem dX4_count_45 : decode cX4_count 45 = .ok (.getfield 103, 3) := by decide +kernel
theorem dX4_count_48 : decode cX4_count 48 = .ok (.ireturn, 1) := by decide +kernel
theorem dX4_count_49 : decode cX4_count 49 = .ok (.aload_n 0, 1) := by decide +kernel
theorem dX4_count_50 : decode cX4_count 50 = .ok (.getfield 143, 3) := by decide +kernel
theorem dX4_count_53 : decode cX4_count 53 = .ok (.ireturn, 1) := by decide +kernel
theorem dX4_count_54 : decode cX4_count 54 = .ok (.aload_n 0, 1) := by decide +kernel
theorem dX4_count_55 : decode cX4_count 55 = .ok (.getfield 35, 3) := by decide +kernel
theorem dX4_count_58 : decode cX4_count 58 = .ok (.getfield 103, 3) := by decide +kernel
theorem dX4_count_61 : decode cX4_count 61 = .ok (.ireturn, 1) := by decide +kernel
theorem dX4_count_62 : decode cX4_count 62 = .ok (.aload_n 0, 1) := by decide +kernel
theorem dX4_count_63 : decode cX4_count 63 = .ok (.getfield 38, 3) := by decide +kernel
theorem dX4_count_66 : decode cX4_count 66 = .ok (.getfield 103, 3) := by decide +kernel
theorem dX4_count_69 : decode cX4_count 69 = .ok (.ireturn, 1) := by decide +kernel
set_option maxRecDepth 20000 in
theorem ggX4_checkNet_X4_checkIndex : GoodIn wsX4_checkNet wsX4_checkIndex := goodIn_ca (goodIn_r _ [5, 6, 7] (by decide +kernel) (by decide +kernel)) (goodIn_sub (fun _ h => List.mem_cons_of_mem _ (List.mem_append_right _ h)) (by decide +kernel))
set_option maxRecDepth 20000 in
theorem gX4_checkNet_X4_checkIndex : GoodIn wsX4_checkNet (va_wsS RX4 148 yX4_checkIndex wsX4_checkIndex) := goodIn_app (goodIn_of _ (by decide +kernel)) ggX4_checkNet_X4_checkIndex
theorem dX4_checkNet_0 : decode cX4_checkNet 0 = .ok (.iload_n 1, 1) := by decide +kernel
theorem dX4_checkNet_1 : decode cX4_checkNet 1 = .ok (.aload_n 0, 1) := by decide +kernel
theorem dX4_checkNet_2 : decode cX4_checkNet 2 = .ok (.getfield 87, 3) := by decide +kernel
theorem dX4_checkNet_5 : decode cX4_checkNet 5 = .ok (.invokestatic 148, 3) := by decide +kernel
theorem dX4_checkNet_8 : decode cX4_checkNet 8 = .ok (.return_, 1) := by decide +kernel
set_option maxRecDepth 20000 in
theorem ggX4_checkLayer_X4_checkIndex : GoodIn wsX4_checkLayer wsX4_checkIndex := goodIn_ca (goodIn_r _ [5, 6, 7] (by decide +kernel) (by decide +kernel)) (goodIn_sub (fun _ h => List.mem_cons_of_mem _ (List.mem_append_right _ h)) (by decide +kernel))
set_option maxRecDepth 20000 in
theorem gX4_checkLayer_X4_checkIndex : GoodIn wsX4_checkLayer (va_wsS RX4 148 yX4_checkIndex wsX4_checkIndex) := goodIn_app (goodIn_of _ (by decide +kernel)) ggX4_checkLayer_X4_checkIndex
theorem dX4_checkLayer_0 : decode cX4_checkLayer 0 = .ok (.iload_n 1, 1) := by decide +kernel
theorem dX4_checkLayer_1 : decode cX4_checkLayer 1 = .ok (.aload_n 0, 1) := by decide +kernel
theorem dX4_checkLayer_2 : decode cX4_checkLayer 2 = .ok (.getfield 18, 3) := by decide +kernel
theorem dX4_checkLayer_5 : decode cX4_checkLayer 5 = .ok (.invokestatic 148, 3) := by decide +kernel
theorem dX4_checkLayer_8 : decode cX4_checkLayer 8 = .ok (.return_, 1) := by decide +kernel
theorem dX4_checkIndex_0 : decode cX4_checkIndex 0 = .ok (.iload_n 0, 1) := by decide +kernel
theorem dX4_checkIndex_1 : decode cX4_checkIndex 1 = .ok (.ifCond .lt 8, 3) := by decide +kernel
theorem dX4_checkIndex_4 : decode cX4_checkIndex 4 = .ok (.iload_n 0, 1) := by decide +kernel
theorem dX4_checkIndex_5 : decode cX4_checkIndex 5 = .ok (.iload_n 1, 1) := by decide +kernel
theorem dX4_checkIndex_6 : decode cX4_checkIndex 6 = .ok (.if_icmp .lt 13, 3) := by decide +kernel
theorem dX4_checkIndex_9 : decode cX4_checkIndex 9 = .ok (.new 226, 3) := by decide +kernel
theorem dX4_checkIndex_12 : decode cX4_checkIndex 12 = .ok (.dup, 1) := by decide +kernel
theorem dX4_checkIndex_13 : decode cX4_checkIndex 13 = .ok (.ldc 243, 2) := by decide +kernel
theorem dX4_checkIndex_15 : decode cX4_checkIndex 15 = .ok (.invokespecial 230, 3) := by decide +kernel
theorem dX4_checkIndex_18 : decode cX4_checkIndex 18 = .ok (.athrow, 1) := by decide +kernel
theorem dX4_checkIndex_19 : decode cX4_checkIndex 19 = .ok (.return_, 1) := by decide +kernel
set_option maxRecDepth 20000 in
theorem ggX4_checkArea_X4_checkRange : GoodIn wsX4_checkArea wsX4_checkRange := goodIn_ca (goodIn_r _ [5, 6, 7] (by decide +kernel) (by decide +kernel)) (goodIn_sub (fun _ h => List.mem_cons_of_mem _ (List.mem_append_right _ h)) (by decide +kernel))
set_option maxRecDepth 20000 in
theorem gX4_checkArea_X4_checkRange : GoodIn wsX4_checkArea (va_wsS RX4 189 yX4_checkRange wsX4_checkRange) := goodIn_app (goodIn_of _ (by decide +kernel)) ggX4_checkArea_X4_checkRange
theorem dX4_checkArea_0 : decode cX4_checkArea 0 = .ok (.lload_n 0, 1) := by decide +kernel
theorem dX4_checkArea_1 : decode cX4_checkArea 1 = .ok (.lconst 1, 1) := by decide +kernel
theorem dX4_checkArea_2 : decode cX4_checkArea 2 = .ok (.ldc2_w 164, 3) := by decide +kernel
theorem dX4_checkArea_5 : decode cX4_checkArea 5 = .ok (.invokestatic 189, 3) := by decide +kernel
theorem dX4_checkArea_8 : decode cX4_checkArea 8 = .ok (.return_, 1) := by decide +kernel
theorem dX4_checkRange_0 : decode cX4_checkRange 0 = .ok (.lload_n 0, 1) := by decide +kernel
theorem dX4_checkRange_1 : decode cX4_checkRange 1 = .ok (.lload_n 2, 1) := by decide +kernel
theorem dX4_checkRange_2 : decode cX4_checkRange 2 = .ok (.lcmp, 1) := by decide +kernel
theorem dX4_checkRange_3 : decode cX4_checkRange 3 = .ok (.ifCond .lt 10, 3) := by decide +kernel
theorem dX4_checkRange_6 : decode cX4_checkRange 6 = .ok (.lload_n 0, 1) := by decide +kernel
theorem dX4_checkRange_7 : decode cX4_checkRange 7 = .ok (.lload 4, 2) := by decide +kernel
theorem dX4_checkRange_9 : decode cX4_checkRange 9 = .ok (.lcmp, 1) := by decide +kernel
theorem dX4_checkRange_10 : decode cX4_checkRange 10 = .ok (.ifCond .le 13, 3) := by decide +kernel
theorem dX4_checkRange_13 : decode cX4_checkRange 13 = .ok (.new 110, 3) := by decide +kernel
theorem dX4_checkRange_16 : decode cX4_checkRange 16 = .ok (.dup, 1) := by decide +kernel
theorem dX4_checkRange_17 : decode cX4_checkRange 17 = .ok (.ldc 245, 2) := by decide +kernel
theorem dX4_checkRange_19 : decode cX4_checkRange 19 = .ok (.invokespecial 114, 3) := by decide +kernel
theorem dX4_checkRange_22 : decode cX4_checkRange 22 = .ok (.athrow, 1) := by decide +kernel
theorem dX4_checkRange_23 : decode cX4_checkRange 23 = .ok (.return_, 1) := by decide +kernel
theorem dX4_inLowestTerms_0 : decode cX4_inLowestTerms 0 = .ok (.lload_n 0, 1) := by decide +kernel
theorem dX4_inLowestTerms_1 : decode cX4_inLowestTerms 1 = .ok (.lstore 5, 2) := by decide +kernel
theorem dX4_inLowestTerms_3 : decode cX4_inLowestTerms 3 = .ok (.lload_n 2, 1) := by decide +kernel
theorem dX4_inLowestTerms_4 : decode cX4_inLowestTerms 4 = .ok (.lstore 7, 2) := by decide +kernel
theorem dX4_inLowestTerms_6 : decode cX4_inLowestTerms 6 = .ok (.iconst 0, 1) := by decide +kernel
theorem dX4_inLowestTerms_7 : decode cX4_inLowestTerms 7 = .ok (.istore 9, 2) := by decide +kernel
theorem dX4_inLowestTerms_9 : decode cX4_inLowestTerms 9 = .ok (.iload 9, 2) := by decide +kernel
theorem dX4_inLowestTerms_11 : decode cX4_inLowestTerms 11 = .ok (.sipush 200, 3) := by decide +kernel
theorem dX4_inLowestTerms_14 : decode cX4_inLowestTerms 14 = .ok (.if_icmp .ge 31, 3) := by decide +kernel
theorem dX4_inLowestTerms_17 : decode cX4_inLowestTerms 17 = .ok (.lload 7, 2) := by decide +kernel
theorem dX4_inLowestTerms_19 : decode cX4_inLowestTerms 19 = .ok (.lconst 0, 1) := by decide +kernel
theorem dX4_inLowestTerms_20 : decode cX4_inLowestTerms 20 = .ok (.lcmp, 1) := by decide +kernel
theorem dX4_inLowestTerms_21 : decode cX4_inLowestTerms 21 = .ok (.ifCond .eq 24, 3) := by decide +kernel
theorem dX4_inLowestTerms_24 : decode cX4_inLowestTerms 24 = .ok (.lload 5, 2) := by decide +kernel
theorem dX4_inLowestTerms_26 : decode cX4_inLowestTerms 26 = .ok (.lload 7, 2) := by decide +kernel
theorem dX4_inLowestTerms_28 : decode cX4_inLowestTerms 28 = .ok (.lrem, 1) := by decide +kernel
theorem dX4_inLowestTerms_29 : decode cX4_inLowestTerms 29 = .ok (.lstore 10, 2) := by decide +kernel
theorem dX4_inLowestTerms_31 : decode cX4_inLowestTerms 31 = .ok (.lload 7, 2) := by decide +kernel
theorem dX4_inLowestTerms_33 : decode cX4_inLowestTerms 33 = .ok (.lstore 5, 2) := by decide +kernel
theorem dX4_inLowestTerms_35 : decode cX4_inLowestTerms 35 = .ok (.lload 10, 2) := by decide +kernel
theorem dX4_inLowestTerms_37 : decode cX4_inLowestTerms 37 = .ok (.lstore 7, 2) := by decide +kernel
theorem dX4_inLowestTerms_39 : decode cX4_inLowestTerms 39 = .ok (.iinc 9 1, 3) := by decide +kernel
theorem dX4_inLowestTerms_42 : decode cX4_inLowestTerms 42 = .ok (.goto (-33), 3) := by decide +kernel
theorem dX4_inLowestTerms_45 : decode cX4_inLowestTerms 45 = .ok (.iload 4, 2) := by decide +kernel
theorem dX4_inLowestTerms_47 : decode cX4_inLowestTerms 47 = .ok (.ifCond .ne 7, 3) := by decide +kernel
theorem dX4_inLowestTerms_50 : decode cX4_inLowestTerms 50 = .ok (.lload_n 0, 1) := by decide +kernel
theorem dX4_inLowestTerms_51 : decode cX4_inLowestTerms 51 = .ok (.goto 4, 3) := by decide +kernel
theorem dX4_inLowestTerms_54 : decode cX4_inLowestTerms 54 = .ok (.lload_n 2, 1) := by decide +kernel
theorem dX4_inLowestTerms_55 : decode cX4_inLowestTerms 55 = .ok (.lstore 9, 2) := by decide +kernel
theorem dX4_inLowestTerms_57 : decode cX4_inLowestTerms 57 = .ok (.lload 5, 2) := by decide +kernel
theorem dX4_inLowestTerms_59 : decode cX4_inLowestTerms 59 = .ok (.lconst 0, 1) := by decide +kernel
theorem dX4_inLowestTerms_60 : decode cX4_inLowestTerms 60 = .ok (.lcmp, 1) := by decide +kernel
theorem dX4_inLowestTerms_61 : decode cX4_inLowestTerms 61 = .ok (.ifCond .le 11, 3) := by decide +kernel
theorem dX4_inLowestTerms_64 : decode cX4_inLowestTerms 64 = .ok (.lload 9, 2) := by decide +kernel
theorem dX4_inLowestTerms_66 : decode cX4_inLowestTerms 66 = .ok (.lload 5, 2) := by decide +kernel
theorem dX4_inLowestTerms_68 : decode cX4_inLowestTerms 68 = .ok (.ldiv, 1) := by decide +kernel
theorem dX4_inLowestTerms_69 : decode cX4_inLowestTerms 69 = .ok (.goto 5, 3) := by decide +kernel
theorem dX4_inLowestTerms_72 : decode cX4_inLowestTerms 72 = .ok (.lload 9, 2) := by decide +kernel
theorem dX4_inLowestTerms_74 : decode cX4_inLowestTerms 74 = .ok (.lreturn, 1) := by decide +kernel
theorem dX4_sumUpTo_0 : decode cX4_sumUpTo 0 = .ok (.lconst 0, 1) := by decide +kernel
theorem dX4_sumUpTo_1 : decode cX4_sumUpTo 1 = .ok (.lstore 4, 2) := by decide +kernel
theorem dX4_sumUpTo_3 : decode cX4_sumUpTo 3 = .ok (.iconst 0, 1) := by decide +kernel
theorem dX4_sumUpTo_4 : decode cX4_sumUpTo 4 = .ok (.istore 6, 2) := by decide +kernel
theorem dX4_sumUpTo_6 : decode cX4_sumUpTo 6 = .ok (.iload 6, 2) := by decide +kernel
theorem dX4_sumUpTo_8 : decode cX4_sumUpTo 8 = .ok (.iload_n 3, 1) := by decide +kernel
theorem dX4_sumUpTo_9 : decode cX4_sumUpTo 9 = .ok (.if_icmp .gt 25, 3) := by decide +kernel
theorem dX4_sumUpTo_12 : decode cX4_sumUpTo 12 = .ok (.lload 4, 2) := by decide +kernel
theorem dX4_sumUpTo_14 : decode cX4_sumUpTo 14 = .ok (.aload_n 1, 1) := by decide +kernel
theorem dX4_sumUpTo_15 : decode cX4_sumUpTo 15 = .ok (.iload_n 2, 1) := by decide +kernel
theorem dX4_sumUpTo_16 : decode cX4_sumUpTo 16 = .ok (.aload_n 0, 1) := by decide +kernel
theorem dX4_sumUpTo_17 : decode cX4_sumUpTo 17 = .ok (.getfield 18, 3) := by decide +kernel
theorem dX4_sumUpTo_20 : decode cX4_sumUpTo 20 = .ok (.imul, 1) := by decide +kernel
theorem dX4_sumUpTo_21 : decode cX4_sumUpTo 21 = .ok (.iload 6, 2) := by decide +kernel
theorem dX4_sumUpTo_23 : decode cX4_sumUpTo 23 = .ok (.iadd, 1) := by decide +kernel
theorem dX4_sumUpTo_24 : decode cX4_sumUpTo 24 = .ok (.laload, 1) := by decide +kernel
theorem dX4_sumUpTo_25 : decode cX4_sumUpTo 25 = .ok (.ladd, 1) := by decide +kernel
theorem dX4_sumUpTo_26 : decode cX4_sumUpTo 26 = .ok (.lstore 4, 2) := by decide +kernel
theorem dX4_sumUpTo_28 : decode cX4_sumUpTo 28 = .ok (.iinc 6 1, 3) := by decide +kernel
theorem dX4_sumUpTo_31 : decode cX4_sumUpTo 31 = .ok (.goto (-25), 3) := by decide +kernel
theorem dX4_sumUpTo_34 : decode cX4_sumUpTo 34 = .ok (.lload 4, 2) := by decide +kernel
theorem dX4_sumUpTo_36 : decode cX4_sumUpTo 36 = .ok (.lreturn, 1) := by decide +kernel
set_option maxRecDepth 20000 in
theorem ggX4_guardOf_X4_sumUpTo : GoodIn wsX4_guardOf wsX4_sumUpTo := goodIn_r _ [8, 9, 10, 11, 12, 13, 14, 15, 16, 17, 18, 19, 20, 21, 22, 23, 24, 25, 26, 27, 28] (by decide +kernel) (by decide +kernel)
set_option maxRecDepth 20000 in
theorem gX4_guardOf_X4_sumUpTo : GoodIn wsX4_guardOf (wsV RX4 152 RX4 yX4_sumUpTo wsX4_sumUpTo) := goodIn_app (goodIn_of _ (by decide +kernel)) ggX4_guardOf_X4_sumUpTo
theorem dX4_guardOf_0 : decode cX4_guardOf 0 = .ok (.aload_n 0, 1) := by decide +kernel
theorem dX4_guardOf_1 : decode cX4_guardOf 1 = .ok (.getfield 22, 3) := by decide +kernel
theorem dX4_guardOf_4 : decode cX4_guardOf 4 = .ok (.iload_n 1, 1) := by decide +kernel
theorem dX4_guardOf_5 : decode cX4_guardOf 5 = .ok (.laload, 1) := by decide +kernel
theorem dX4_guardOf_6 : decode cX4_guardOf 6 = .ok (.ldc2_w 247, 3) := by decide +kernel
theorem dX4_guardOf_9 : decode cX4_guardOf 9 = .ok (.aload_n 0, 1) := by decide +kernel
theorem dX4_guardOf_10 : decode cX4_guardOf 10 = .ok (.aload_n 0, 1) := by decide +kernel
theorem dX4_guardOf_11 : decode cX4_guardOf 11 = .ok (.getfield 48, 3) := by decide +kernel
theorem dX4_guardOf_14 : decode cX4_guardOf 14 = .ok (.iload_n 1, 1) := by decide +kernel
theorem dX4_guardOf_15 : decode cX4_guardOf 15 = .ok (.iload_n 2, 1) := by decide +kernel
theorem dX4_guardOf_16 : decode cX4_guardOf 16 = .ok (.invokevirtual 152, 3) := by decide +kernel
theorem dX4_guardOf_19 : decode cX4_guardOf 19 = .ok (.lmul, 1) := by decide +kernel
theorem dX4_guardOf_20 : decode cX4_guardOf 20 = .ok (.ladd, 1) := by decide +kernel
theorem dX4_guardOf_21 : decode cX4_guardOf 21 = .ok (.lreturn, 1) := by decide +kernel
set_option maxRecDepth 20000 in
theorem ggX4_isOver_X4_sumUpTo : GoodIn wsX4_isOver wsX4_sumUpTo := goodIn_r _ [9, 10, 17, 18, 19, 20, 21, 22, 23, 24, 25, 26, 27, 28, 29, 30, 31, 32, 33, 34, 35] (by decide +kernel) (by decide +kernel)
set_option maxRecDepth 20000 in
theorem gX4_isOver_X4_sumUpTo : GoodIn wsX4_isOver (wsV RX4 152 RX4 yX4_sumUpTo wsX4_sumUpTo) := goodIn_app (goodIn_of _ (by decide +kernel)) ggX4_isOver_X4_sumUpTo
set_option maxRecDepth 20000 in
theorem ggX4_isOver_X4_guardOf : GoodIn wsX4_isOver wsX4_guardOf := goodIn_r _ [14, 1, 15, 16, 5, 6, 7, 8, 9, 10, 17, 18, 19, 20, 21, 22, 23, 24, 25, 26, 27, 28, 29, 30, 31, 32, 33, 34, 35] (by decide +kernel) (by decide +kernel)
set_option maxRecDepth 20000 in
theorem gX4_isOver_X4_guardOf : GoodIn wsX4_isOver (wsV RX4 156 RX4 yX4_guardOf wsX4_guardOf) := goodIn_app (goodIn_of _ (by decide +kernel)) ggX4_isOver_X4_guardOf
theorem dX4_isOver_0 : decode cX4_isOver 0 = .ok (.aload_n 0, 1) := by decide +kernel
theorem dX4_isOver_1 : decode cX4_isOver 1 = .ok (.getfield 22, 3) := by decide +kernel
theorem dX4_isOver_4 : decode cX4_isOver 4 = .ok (.iload_n 1, 1) := by decide +kernel
theorem dX4_isOver_5 : decode cX4_isOver 5 = .ok (.laload, 1) := by decide +kernel
theorem dX4_isOver_6 : decode cX4_isOver 6 = .ok (.lconst 0, 1) := by decide +kernel
theorem dX4_isOver_7 : decode cX4_isOver 7 = .ok (.lcmp, 1) := by decide +kernel
theorem dX4_isOver_8 : decode cX4_isOver 8 = .ok (.ifCond .eq 14, 3) := by decide +kernel
theorem dX4_isOver_11 : decode cX4_isOver 11 = .ok (.aload_n 0, 1) := by decide +kernel
theorem dX4_isOver_12 : decode cX4_isOver 12 = .ok (.getfield 54, 3) := by decide +kernel
theorem dX4_isOver_15 : decode cX4_isOver 15 = .ok (.iload_n 2, 1) := by decide +kernel
theorem dX4_isOver_16 : decode cX4_isOver 16 = .ok (.laload, 1) := by decide +kernel
theorem dX4_isOver_17 : decode cX4_isOver 17 = .ok (.lconst 0, 1) := by decide +kernel
theorem dX4_isOver_18 : decode cX4_isOver 18 = .ok (.lcmp, 1) := by decide +kernel
theorem dX4_isOver_19 : decode cX4_isOver 19 = .ok (.ifCond .ne 5, 3) := by decide +kernel
theorem dX4_isOver_22 : decode cX4_isOver 22 = .ok (.iconst 0, 1) := by decide +kernel
theorem dX4_isOver_23 : decode cX4_isOver 23 = .ok (.ireturn, 1) := by decide +kernel
theorem dX4_isOver_24 : decode cX4_isOver 24 = .ok (.aload_n 0, 1) := by decide +kernel
theorem dX4_isOver_25 : decode cX4_isOver 25 = .ok (.aload_n 0, 1) := by decide +kernel
theorem dX4_isOver_26 : decode cX4_isOver 26 = .ok (.getfield 45, 3) := by decide +kernel
theorem dX4_isOver_29 : decode cX4_isOver 29 = .ok (.iload_n 1, 1) := by decide +kernel
theorem dX4_isOver_30 : decode cX4_isOver 30 = .ok (.iload_n 2, 1) := by decide +kernel
theorem dX4_isOver_31 : decode cX4_isOver 31 = .ok (.invokevirtual 152, 3) := by decide +kernel
theorem dX4_isOver_34 : decode cX4_isOver 34 = .ok (.lstore_n 3, 1) := by decide +kernel
theorem dX4_isOver_35 : decode cX4_isOver 35 = .ok (.lload_n 3, 1) := by decide +kernel
theorem dX4_isOver_36 : decode cX4_isOver 36 = .ok (.aload_n 0, 1) := by decide +kernel
theorem dX4_isOver_37 : decode cX4_isOver 37 = .ok (.getfield 54, 3) := by decide +kernel
theorem dX4_isOver_40 : decode cX4_isOver 40 = .ok (.iload_n 2, 1) := by decide +kernel
theorem dX4_isOver_41 : decode cX4_isOver 41 = .ok (.laload, 1) := by decide +kernel
theorem dX4_isOver_42 : decode cX4_isOver 42 = .ok (.lmul, 1) := by decide +kernel
theorem dX4_isOver_43 : decode cX4_isOver 43 = .ok (.aload_n 0, 1) := by decide +kernel
theorem dX4_isOver_44 : decode cX4_isOver 44 = .ok (.getfield 51, 3) := by decide +kernel
theorem dX4_isOver_47 : decode cX4_isOver 47 = .ok (.iload_n 2, 1) := by decide +kernel
theorem dX4_isOver_48 : decode cX4_isOver 48 = .ok (.laload, 1) := by decide +kernel
theorem dX4_isOver_49 : decode cX4_isOver 49 = .ok (.aload_n 0, 1) := by decide +kernel
theorem dX4_isOver_50 : decode cX4_isOver 50 = .ok (.iload_n 1, 1) := by decide +kernel
theorem dX4_isOver_51 : decode cX4_isOver 51 = .ok (.iload_n 2, 1) := by decide +kernel
theorem dX4_isOver_52 : decode cX4_isOver 52 = .ok (.invokevirtual 156, 3) := by decide +kernel
theorem dX4_isOver_55 : decode cX4_isOver 55 = .ok (.lmul, 1) := by decide +kernel
theorem dX4_isOver_56 : decode cX4_isOver 56 = .ok (.lcmp, 1) := by decide +kernel
theorem dX4_isOver_57 : decode cX4_isOver 57 = .ok (.ifCond .le 7, 3) := by decide +kernel
theorem dX4_isOver_60 : decode cX4_isOver 60 = .ok (.iconst 1, 1) := by decide +kernel
theorem dX4_isOver_61 : decode cX4_isOver 61 = .ok (.goto 4, 3) := by decide +kernel
theorem dX4_isOver_64 : decode cX4_isOver 64 = .ok (.iconst 0, 1) := by decide +kernel
theorem dX4_isOver_65 : decode cX4_isOver 65 = .ok (.ireturn, 1) := by decide +kernel
set_option maxRecDepth 20000 in
theorem ggX4_isOverSomewhere_X4_isOver : GoodIn wsX4_isOverSomewhere wsX4_isOver := goodIn_r _ [6, 7, 8, 9, 10, 11, 12, 13, 5, 14, 1, 15, 16, 17, 18, 19, 20, 21, 22, 23, 24, 25, 26, 27, 28, 29, 30, 31, 32, 33, 34, 35, 36, 37, 38, 39] (by decide +kernel) (by decide +kernel)
set_option maxRecDepth 20000 in
theorem gX4_isOverSomewhere_X4_isOver : GoodIn wsX4_isOverSomewhere (wsV RX4 249 RX4 yX4_isOver wsX4_isOver) := goodIn_app (goodIn_of _ (by decide +kernel)) ggX4_isOverSomewhere_X4_isOver
theorem dX4_isOverSomewhere_0 : decode cX4_isOverSomewhere 0 = .ok (.iconst 0, 1) := by decide +kernel
theorem dX4_isOverSomewhere_1 : decode cX4_isOverSomewhere 1 = .ok (.istore_n 2, 1) := by decide +kernel
theorem dX4_isOverSomewhere_2 : decode cX4_isOverSomewhere 2 = .ok (.iload_n 2, 1) := by decide +kernel
theorem dX4_isOverSomewhere_3 : decode cX4_isOverSomewhere 3 = .ok (.aload_n 0, 1) := by decide +kernel
theorem dX4_isOverSomewhere_4 : decode cX4_isOverSomewhere 4 = .ok (.getfield 18, 3) := by decide +kernel
theorem dX4_isOverSomewhere_7 : decode cX4_isOverSomewhere 7 = .ok (.if_icmp .ge 20, 3) := by decide +kernel
theorem dX4_isOverSomewhere_10 : decode cX4_isOverSomewhere 10 = .ok (.aload_n 0, 1) := by decide +kernel
theorem dX4_isOverSomewhere_11 : decode cX4_isOverSomewhere 11 = .ok (.iload_n 1, 1) := by decide +kernel
theorem dX4_isOverSomewhere_12 : decode cX4_isOverSomewhere 12 = .ok (.iload_n 2, 1) := by decide +kernel
theorem dX4_isOverSomewhere_13 : decode cX4_isOverSomewhere 13 = .ok (.invokevirtual 249, 3) := by decide +kernel
theorem dX4_isOverSomewhere_16 : decode cX4_isOverSomewhere 16 = .ok (.ifCond .eq 5, 3) := by decide +kernel
theorem dX4_isOverSomewhere_19 : decode cX4_isOverSomewhere 19 = .ok (.iconst 1, 1) := by decide +kernel
theorem dX4_isOverSomewhere_20 : decode cX4_isOverSomewhere 20 = .ok (.ireturn, 1) := by decide +kernel
theorem dX4_isOverSomewhere_21 : decode cX4_isOverSomewhere 21 = .ok (.iinc 2 1, 3) := by decide +kernel
theorem dX4_isOverSomewhere_24 : decode cX4_isOverSomewhere 24 = .ok (.goto (-22), 3) := by decide +kernel
theorem dX4_isOverSomewhere_27 : decode cX4_isOverSomewhere 27 = .ok (.iconst 0, 1) := by decide +kernel
theorem dX4_isOverSomewhere_28 : decode cX4_isOverSomewhere 28 = .ok (.ireturn, 1) := by decide +kernel
set_option maxRecDepth 20000 in
theorem ggX4_placeDiodesFor_X4_isOver : GoodIn wsX4_placeDiodesFor wsX4_isOver := goodIn_r _ [6, 7, 8, 9, 10, 11, 12, 13, 5, 14, 1, 15, 16, 17, 18, 19, 20, 88, 89, 90, 91, 92, 93, 94, 95, 96, 97, 98, 99, 100, 101, 102, 103, 104, 105, 106] (by decide +kernel) (by decide +kernel)
set_option maxRecDepth 20000 in
theorem gX4_placeDiodesFor_X4_isOver : GoodIn wsX4_placeDiodesFor (wsV RX4 249 RX4 yX4_isOver wsX4_isOver) := goodIn_app (goodIn_of _ (by decide +kernel)) ggX4_placeDiodesFor_X4_isOver
set_option maxRecDepth 20000 in
theorem ggX4_placeDiodesFor_X4_placeDiode : GoodIn wsX4_placeDiodesFor wsX4_placeDiode := goodIn_r _ [24, 25, 26, 27, 28, 20, 1, 29, 30, 31, 32, 5, 33, 34, 35, 36, 37, 38, 39, 40, 41, 42, 43, 44, 45, 46, 47, 48, 49, 50, 51, 52, 53, 54, 55, 56, 57, 58, 59, 60, 61, 62, 63, 64, 65, 66, 67, 68, 69, 70, 71, 72, 73, 74, 75, 76, 77, 78, 79, 80, 81, 82, 83, 84, 85, 86, 87, 88, 89, 90, 91, 92, 93, 94, 95, 96, 97, 98, 99, 100, 101, 102, 103, 104, 105, 106, 107, 108, 109, 110, 111, 112, 113, 114, 115] (by decide +kernel) (by decide +kernel)
set_option maxRecDepth 20000 in
theorem gX4_placeDiodesFor_X4_placeDiode : GoodIn wsX4_placeDiodesFor (wsV RX4 253 RX4 yX4_placeDiode wsX4_placeDiode) := goodIn_app (goodIn_of _ (by decide +kernel)) ggX4_placeDiodesFor_X4_placeDiode
theorem dX4_placeDiodesFor_0 : decode cX4_placeDiodesFor 0 = .ok (.iconst 1, 1) := by decide +kernel
theorem dX4_placeDiodesFor_1 : decode cX4_placeDiodesFor 1 = .ok (.istore_n 2, 1) := by decide +kernel
theorem dX4_placeDiodesFor_2 : decode cX4_placeDiodesFor 2 = .ok (.iconst 0, 1) := by decide +kernel
theorem dX4_placeDiodesFor_3 : decode cX4_placeDiodesFor 3 = .ok (.istore_n 3, 1) := by decide +kernel
theorem dX4_placeDiodesFor_4 : decode cX4_placeDiodesFor 4 = .ok (.iload_n 3, 1) := by decide +kernel
theorem dX4_placeDiodesFor_5 : decode cX4_placeDiodesFor 5 = .ok (.aload_n 0, 1) := by decide +kernel
theorem dX4_placeDiodesFor_6 : decode cX4_placeDiodesFor 6 = .ok (.getfield 18, 3) := by decide +kernel
theorem dX4_placeDiodesFor_9 : decode cX4_placeDiodesFor 9 = .ok (.if_icmp .ge 49, 3) := by decide +kernel
theorem dX4_placeDiodesFor_12 : decode cX4_placeDiodesFor 12 = .ok (.iload_n 2, 1) := by decide +kernel
theorem dX4_placeDiodesFor_13 : decode cX4_placeDiodesFor 13 = .ok (.ifCond .eq 45, 3) := by decide +kernel
theorem dX4_placeDiodesFor_16 : decode cX4_placeDiodesFor 16 = .ok (.iconst 0, 1) := by decide +kernel
theorem dX4_placeDiodesFor_17 : decode cX4_placeDiodesFor 17 = .ok (.istore 4, 2) := by decide +kernel
theorem dX4_placeDiodesFor_19 : decode cX4_placeDiodesFor 19 = .ok (.iload 4, 2) := by decide +kernel
theorem dX4_placeDiodesFor_21 : decode cX4_placeDiodesFor 21 = .ok (.bipush 60, 2) := by decide +kernel
theorem dX4_placeDiodesFor_23 : decode cX4_placeDiodesFor 23 = .ok (.if_icmp .gt 29, 3) := by decide +kernel
theorem dX4_placeDiodesFor_26 : decode cX4_placeDiodesFor 26 = .ok (.iload_n 2, 1) := by decide +kernel
theorem dX4_placeDiodesFor_27 : decode cX4_placeDiodesFor 27 = .ok (.ifCond .eq 25, 3) := by decide +kernel
theorem dX4_placeDiodesFor_30 : decode cX4_placeDiodesFor 30 = .ok (.aload_n 0, 1) := by decide +kernel
theorem dX4_placeDiodesFor_31 : decode cX4_placeDiodesFor 31 = .ok (.iload_n 1, 1) := by decide +kernel
theorem dX4_placeDiodesFor_32 : decode cX4_placeDiodesFor 32 = .ok (.iload_n 3, 1) := by decide +kernel
theorem dX4_placeDiodesFor_33 : decode cX4_placeDiodesFor 33 = .ok (.invokevirtual 249, 3) := by decide +kernel
theorem dX4_placeDiodesFor_36 : decode cX4_placeDiodesFor 36 = .ok (.ifCond .eq 16, 3) := by decide +kernel
theorem dX4_placeDiodesFor_39 : decode cX4_placeDiodesFor 39 = .ok (.aload_n 0, 1) := by decide +kernel
theorem dX4_placeDiodesFor_40 : decode cX4_placeDiodesFor 40 = .ok (.iload_n 1, 1) := by decide +kernel
theorem dX4_placeDiodesFor_41 : decode cX4_placeDiodesFor 41 = .ok (.iload_n 3, 1) := by decide +kernel
theorem dX4_placeDiodesFor_42 : decode cX4_placeDiodesFor 42 = .ok (.invokevirtual 253, 3) := by decide +kernel
theorem dX4_placeDiodesFor_45 : decode cX4_placeDiodesFor 45 = .ok (.istore_n 2, 1) := by decide +kernel
theorem dX4_placeDiodesFor_46 : decode cX4_placeDiodesFor 46 = .ok (.iinc 4 1, 3) := by decide +kernel
theorem dX4_placeDiodesFor_49 : decode cX4_placeDiodesFor 49 = .ok (.goto (-30), 3) := by decide +kernel
theorem dX4_placeDiodesFor_52 : decode cX4_placeDiodesFor 52 = .ok (.iinc 3 1, 3) := by decide +kernel
theorem dX4_placeDiodesFor_55 : decode cX4_placeDiodesFor 55 = .ok (.goto (-51), 3) := by decide +kernel
theorem dX4_placeDiodesFor_58 : decode cX4_placeDiodesFor 58 = .ok (.return_, 1) := by decide +kernel
set_option maxRecDepth 20000 in
theorem ggX4_placeDiode_X4_findPlace : GoodIn wsX4_placeDiode wsX4_findPlace := goodIn_r _ [12, 13, 2, 14, 4, 15, 16, 17, 18, 19, 20, 21, 22, 23, 24, 25, 26, 27, 28, 29, 30, 31, 32, 33, 34, 35, 36, 37, 38, 39, 40, 41, 42, 43, 44, 45, 46, 47, 48, 49, 50, 67, 68, 69, 70, 71, 72, 73, 74, 75, 76, 77, 78, 79, 80, 81, 82, 83, 84, 85, 86, 87, 88, 89, 90, 91, 92, 93, 94] (by decide +kernel) (by decide +kernel)
set_option maxRecDepth 20000 in
theorem gX4_placeDiode_X4_findPlace : GoodIn wsX4_placeDiode (wsV RX4 256 RX4 yX4_findPlace wsX4_findPlace) := goodIn_app (goodIn_of _ (by decide +kernel)) ggX4_placeDiode_X4_findPlace
set_option maxRecDepth 20000 in
theorem ggX4_placeDiode_X0_put : GoodIn wsX4_placeDiode wsX0_put := goodIn_r _ [55, 56, 57, 58, 59, 60, 61, 62, 86, 87, 88, 89, 90, 91, 92] (by decide +kernel) (by decide +kernel)
set_option maxRecDepth 20000 in
theorem gX4_placeDiode_X0_put : GoodIn wsX4_placeDiode (wsV RX4 127 RX0 yX0_put wsX0_put) := goodIn_app (goodIn_of _ (by decide +kernel)) ggX4_placeDiode_X0_put
set_option maxRecDepth 20000 in
theorem ggX4_placeDiode_X3_closeAround : GoodIn wsX4_placeDiode wsX3_closeAround := goodIn_r _ [66, 24, 26, 27, 22, 28, 29, 30, 31, 32, 33, 34, 35, 36, 37, 38, 39, 40, 41, 25, 93, 94] (by decide +kernel) (by decide +kernel)
set_option maxRecDepth 20000 in
theorem gX4_placeDiode_X3_closeAround : GoodIn wsX4_placeDiode (wsV RX4 259 RX3 yX3_closeAround wsX3_closeAround) := goodIn_app (goodIn_of _ (by decide +kernel)) ggX4_placeDiode_X3_closeAround
theorem dX4_placeDiode_0 : decode cX4_placeDiode 0 = .ok (.aload_n 0, 1) := by decide +kernel
theorem dX4_placeDiode_1 : decode cX4_placeDiode 1 = .ok (.getfield 35, 3) := by decide +kernel
theorem dX4_placeDiode_4 : decode cX4_placeDiode 4 = .ok (.getfield 103, 3) := by decide +kernel
theorem dX4_placeDiode_7 : decode cX4_placeDiode 7 = .ok (.bipush 60, 2) := by decide +kernel
theorem dX4_placeDiode_9 : decode cX4_placeDiode 9 = .ok (.if_icmp .lt 5, 3) := by decide +kernel
theorem dX4_placeDiode_12 : decode cX4_placeDiode 12 = .ok (.iconst 0, 1) := by decide +kernel
theorem dX4_placeDiode_13 : decode cX4_placeDiode 13 = .ok (.ireturn, 1) := by decide +kernel
theorem dX4_placeDiode_14 : decode cX4_placeDiode 14 = .ok (.aload_n 0, 1) := by decide +kernel
theorem dX4_placeDiode_15 : decode cX4_placeDiode 15 = .ok (.iload_n 1, 1) := by decide +kernel
theorem dX4_placeDiode_16 : decode cX4_placeDiode 16 = .ok (.invokevirtual 256, 3) := by decide +kernel
theorem dX4_placeDiode_19 : decode cX4_placeDiode 19 = .ok (.istore_n 3, 1) := by decide +kernel
theorem dX4_placeDiode_20 : decode cX4_placeDiode 20 = .ok (.iload_n 3, 1) := by decide +kernel
theorem dX4_placeDiode_21 : decode cX4_placeDiode 21 = .ok (.iconst (-1), 1) := by decide +kernel
theorem dX4_placeDiode_22 : decode cX4_placeDiode 22 = .ok (.if_icmp .ne 5, 3) := by decide +kernel
theorem dX4_placeDiode_25 : decode cX4_placeDiode 25 = .ok (.iconst 0, 1) := by decide +kernel
theorem dX4_placeDiode_26 : decode cX4_placeDiode 26 = .ok (.ireturn, 1) := by decide +kernel
theorem dX4_placeDiode_27 : decode cX4_placeDiode 27 = .ok (.iload_n 3, 1) := by decide +kernel
theorem dX4_placeDiode_28 : decode cX4_placeDiode 28 = .ok (.sipush 1000, 3) := by decide +kernel
theorem dX4_placeDiode_31 : decode cX4_placeDiode 31 = .ok (.irem, 1) := by decide +kernel
theorem dX4_placeDiode_32 : decode cX4_placeDiode 32 = .ok (.istore 4, 2) := by decide +kernel
theorem dX4_placeDiode_34 : decode cX4_placeDiode 34 = .ok (.iload_n 3, 1) := by decide +kernel
theorem dX4_placeDiode_35 : decode cX4_placeDiode 35 = .ok (.sipush 1000, 3) := by decide +kernel
theorem dX4_placeDiode_38 : decode cX4_placeDiode 38 = .ok (.idiv, 1) := by decide +kernel
theorem dX4_placeDiode_39 : decode cX4_placeDiode 39 = .ok (.istore 5, 2) := by decide +kernel
theorem dX4_placeDiode_41 : decode cX4_placeDiode 41 = .ok (.aload_n 0, 1) := by decide +kernel
theorem dX4_placeDiode_42 : decode cX4_placeDiode 42 = .ok (.getfield 41, 3) := by decide +kernel
theorem dX4_placeDiode_45 : decode cX4_placeDiode 45 = .ok (.aload_n 0, 1) := by decide +kernel
theorem dX4_placeDiode_46 : decode cX4_placeDiode 46 = .ok (.getfield 35, 3) := by decide +kernel
theorem dX4_placeDiode_49 : decode cX4_placeDiode 49 = .ok (.getfield 103, 3) := by decide +kernel
theorem dX4_placeDiode_52 : decode cX4_placeDiode 52 = .ok (.iload_n 2, 1) := by decide +kernel
theorem dX4_placeDiode_53 : decode cX4_placeDiode 53 = .ok (.iastore, 1) := by decide +kernel
theorem dX4_placeDiode_54 : decode cX4_placeDiode 54 = .ok (.aload_n 0, 1) := by decide +kernel
theorem dX4_placeDiode_55 : decode cX4_placeDiode 55 = .ok (.getfield 35, 3) := by decide +kernel
theorem dX4_placeDiode_58 : decode cX4_placeDiode 58 = .ok (.iload_n 1, 1) := by decide +kernel
theorem dX4_placeDiode_59 : decode cX4_placeDiode 59 = .ok (.iconst 0, 1) := by decide +kernel
theorem dX4_placeDiode_60 : decode cX4_placeDiode 60 = .ok (.iload 4, 2) := by decide +kernel
theorem dX4_placeDiode_62 : decode cX4_placeDiode 62 = .ok (.iload 5, 2) := by decide +kernel
theorem dX4_placeDiode_64 : decode cX4_placeDiode 64 = .ok (.iload 4, 2) := by decide +kernel
theorem dX4_placeDiode_66 : decode cX4_placeDiode 66 = .ok (.iconst 4, 1) := by decide +kernel
theorem dX4_placeDiode_67 : decode cX4_placeDiode 67 = .ok (.iadd, 1) := by decide +kernel
theorem dX4_placeDiode_68 : decode cX4_placeDiode 68 = .ok (.iload 5, 2) := by decide +kernel
theorem dX4_placeDiode_70 : decode cX4_placeDiode 70 = .ok (.iconst 4, 1) := by decide +kernel
theorem dX4_placeDiode_71 : decode cX4_placeDiode 71 = .ok (.iadd, 1) := by decide +kernel
theorem dX4_placeDiode_72 : decode cX4_placeDiode 72 = .ok (.invokevirtual 127, 3) := by decide +kernel
theorem dX4_placeDiode_75 : decode cX4_placeDiode 75 = .ok (.aload_n 0, 1) := by decide +kernel
theorem dX4_placeDiode_76 : decode cX4_placeDiode 76 = .ok (.getfield 76, 3) := by decide +kernel
theorem dX4_placeDiode_79 : decode cX4_placeDiode 79 = .ok (.iload 4, 2) := by decide +kernel
theorem dX4_placeDiode_81 : decode cX4_placeDiode 81 = .ok (.iload 5, 2) := by decide +kernel
theorem dX4_placeDiode_83 : decode cX4_placeDiode 83 = .ok (.iload 4, 2) := by decide +kernel
theorem dX4_placeDiode_85 : decode cX4_placeDiode 85 = .ok (.iconst 4, 1) := by decide +kernel
theorem dX4_placeDiode_86 : decode cX4_placeDiode 86 = .ok (.iadd, 1) := by decide +kernel
theorem dX4_placeDiode_87 : decode cX4_placeDiode 87 = .ok (.iload 5, 2) := by decide +kernel
theorem dX4_placeDiode_89 : decode cX4_placeDiode 89 = .ok (.iconst 4, 1) := by decide +kernel
theorem dX4_placeDiode_90 : decode cX4_placeDiode 90 = .ok (.iadd, 1) := by decide +kernel
theorem dX4_placeDiode_91 : decode cX4_placeDiode 91 = .ok (.invokevirtual 259, 3) := by decide +kernel
theorem dX4_placeDiode_94 : decode cX4_placeDiode 94 = .ok (.aload_n 0, 1) := by decide +kernel
theorem dX4_placeDiode_95 : decode cX4_placeDiode 95 = .ok (.getfield 48, 3) := by decide +kernel
theorem dX4_placeDiode_98 : decode cX4_placeDiode 98 = .ok (.iload_n 1, 1) := by decide +kernel
theorem dX4_placeDiode_99 : decode cX4_placeDiode 99 = .ok (.aload_n 0, 1) := by decide +kernel
theorem dX4_placeDiode_100 : decode cX4_placeDiode 100 = .ok (.getfield 18, 3) := by decide +kernel
theorem dX4_placeDiode_103 : decode cX4_placeDiode 103 = .ok (.imul, 1) := by decide +kernel
theorem dX4_placeDiode_104 : decode cX4_placeDiode 104 = .ok (.iload_n 2, 1) := by decide +kernel
theorem dX4_placeDiode_105 : decode cX4_placeDiode 105 = .ok (.iadd, 1) := by decide +kernel
theorem dX4_placeDiode_106 : decode cX4_placeDiode 106 = .ok (.dup2, 1) := by decide +kernel
theorem dX4_placeDiode_107 : decode cX4_placeDiode 107 = .ok (.laload, 1) := by decide +kernel
theorem dX4_placeDiode_108 : decode cX4_placeDiode 108 = .ok (.ldc2_w 262, 3) := by decide +kernel
theorem dX4_placeDiode_111 : decode cX4_placeDiode 111 = .ok (.ladd, 1) := by decide +kernel
theorem dX4_placeDiode_112 : decode cX4_placeDiode 112 = .ok (.lastore, 1) := by decide +kernel
theorem dX4_placeDiode_113 : decode cX4_placeDiode 113 = .ok (.iconst 1, 1) := by decide +kernel
theorem dX4_placeDiode_114 : decode cX4_placeDiode 114 = .ok (.ireturn, 1) := by decide +kernel
set_option maxRecDepth 20000 in
theorem ggX4_findPlace_X3_firstNear : GoodIn wsX4_findPlace wsX3_firstNear := goodIn_r _ [13, 14, 15, 16, 17, 12, 18, 19, 20, 21, 22, 23, 24, 25, 26, 27, 28, 29, 30, 31, 32, 33, 34, 35, 36, 37, 38, 39, 40, 67, 68] (by decide +kernel) (by decide +kernel)
set_option maxRecDepth 20000 in
theorem gX4_findPlace_X3_firstNear : GoodIn wsX4_findPlace (wsV RX4 270 RX3 yX3_firstNear wsX3_firstNear) := goodIn_app (goodIn_of _ (by decide +kernel)) ggX4_findPlace_X3_firstNear
theorem dX4_findPlace_0 : decode cX4_findPlace 0 = .ok (.iconst (-1), 1) := by decide +kernel
theorem dX4_findPlace_1 : decode cX4_findPlace 1 = .ok (.istore_n 2, 1) := by decide +kernel
theorem dX4_findPlace_2 : decode cX4_findPlace 2 = .ok (.iconst 0, 1) := by decide +kernel
theorem dX4_findPlace_3 : decode cX4_findPlace 3 = .ok (.istore_n 3, 1) := by decide +kernel
theorem dX4_findPlace_4 : decode cX4_findPlace 4 = .ok (.iload_n 3, 1) := by decide +kernel
theorem dX4_findPlace_5 : decode cX4_findPlace 5 = .ok (.aload_n 0, 1) := by decide +kernel
theorem dX4_findPlace_6 : decode cX4_findPlace 6 = .ok (.getfield 31, 3) := by decide +kernel
theorem dX4_findPlace_9 : decode cX4_findPlace 9 = .ok (.getfield 103, 3) := by decide +kernel
theorem dX4_findPlace_12 : decode cX4_findPlace 12 = .ok (.if_icmp .ge 87, 3) := by decide +kernel
theorem dX4_findPlace_15 : decode cX4_findPlace 15 = .ok (.aload_n 0, 1) := by decide +kernel
theorem dX4_findPlace_16 : decode cX4_findPlace 16 = .ok (.getfield 31, 3) := by decide +kernel
theorem dX4_findPlace_19 : decode cX4_findPlace 19 = .ok (.getfield 178, 3) := by decide +kernel
theorem dX4_findPlace_22 : decode cX4_findPlace 22 = .ok (.iload_n 3, 1) := by decide +kernel
theorem dX4_findPlace_23 : decode cX4_findPlace 23 = .ok (.iaload, 1) := by decide +kernel
theorem dX4_findPlace_24 : decode cX4_findPlace 24 = .ok (.iload_n 1, 1) := by decide +kernel
theorem dX4_findPlace_25 : decode cX4_findPlace 25 = .ok (.if_icmp .ne 68, 3) := by decide +kernel
theorem dX4_findPlace_28 : decode cX4_findPlace 28 = .ok (.aload_n 0, 1) := by decide +kernel
theorem dX4_findPlace_29 : decode cX4_findPlace 29 = .ok (.getfield 76, 3) := by decide +kernel
theorem dX4_findPlace_32 : decode cX4_findPlace 32 = .ok (.aload_n 0, 1) := by decide +kernel
theorem dX4_findPlace_33 : decode cX4_findPlace 33 = .ok (.getfield 31, 3) := by decide +kernel
theorem dX4_findPlace_36 : decode cX4_findPlace 36 = .ok (.getfield 181, 3) := by decide +kernel
theorem dX4_findPlace_39 : decode cX4_findPlace 39 = .ok (.iload_n 3, 1) := by decide +kernel
theorem dX4_findPlace_40 : decode cX4_findPlace 40 = .ok (.iaload, 1) := by decide +kernel
theorem dX4_findPlace_41 : decode cX4_findPlace 41 = .ok (.aload_n 0, 1) := by decide +kernel
theorem dX4_findPlace_42 : decode cX4_findPlace 42 = .ok (.getfield 31, 3) := by decide +kernel
theorem dX4_findPlace_45 : decode cX4_findPlace 45 = .ok (.getfield 184, 3) := by decide +kernel
theorem dX4_findPlace_48 : decode cX4_findPlace 48 = .ok (.iload_n 3, 1) := by decide +kernel
theorem dX4_findPlace_49 : decode cX4_findPlace 49 = .ok (.iaload, 1) := by decide +kernel
theorem dX4_findPlace_50 : decode cX4_findPlace 50 = .ok (.aload_n 0, 1) := by decide +kernel
theorem dX4_findPlace_51 : decode cX4_findPlace 51 = .ok (.getfield 31, 3) := by decide +kernel
theorem dX4_findPlace_54 : decode cX4_findPlace 54 = .ok (.getfield 264, 3) := by decide +kernel
theorem dX4_findPlace_57 : decode cX4_findPlace 57 = .ok (.iload_n 3, 1) := by decide +kernel
theorem dX4_findPlace_58 : decode cX4_findPlace 58 = .ok (.iaload, 1) := by decide +kernel
theorem dX4_findPlace_59 : decode cX4_findPlace 59 = .ok (.aload_n 0, 1) := by decide +kernel
theorem dX4_findPlace_60 : decode cX4_findPlace 60 = .ok (.getfield 31, 3) := by decide +kernel
theorem dX4_findPlace_63 : decode cX4_findPlace 63 = .ok (.getfield 267, 3) := by decide +kernel
theorem dX4_findPlace_66 : decode cX4_findPlace 66 = .ok (.iload_n 3, 1) := by decide +kernel
theorem dX4_findPlace_67 : decode cX4_findPlace 67 = .ok (.iaload, 1) := by decide +kernel
theorem dX4_findPlace_68 : decode cX4_findPlace 68 = .ok (.invokevirtual 270, 3) := by decide +kernel
theorem dX4_findPlace_71 : decode cX4_findPlace 71 = .ok (.istore 4, 2) := by decide +kernel
theorem dX4_findPlace_73 : decode cX4_findPlace 73 = .ok (.iload 4, 2) := by decide +kernel
theorem dX4_findPlace_75 : decode cX4_findPlace 75 = .ok (.iconst (-1), 1) := by decide +kernel
theorem dX4_findPlace_76 : decode cX4_findPlace 76 = .ok (.if_icmp .eq 17, 3) := by decide +kernel
theorem dX4_findPlace_79 : decode cX4_findPlace 79 = .ok (.iload_n 2, 1) := by decide +kernel
theorem dX4_findPlace_80 : decode cX4_findPlace 80 = .ok (.iconst (-1), 1) := by decide +kernel
theorem dX4_findPlace_81 : decode cX4_findPlace 81 = .ok (.if_icmp .eq 9, 3) := by decide +kernel
theorem dX4_findPlace_84 : decode cX4_findPlace 84 = .ok (.iload 4, 2) := by decide +kernel
theorem dX4_findPlace_86 : decode cX4_findPlace 86 = .ok (.iload_n 2, 1) := by decide +kernel
theorem dX4_findPlace_87 : decode cX4_findPlace 87 = .ok (.if_icmp .ge 6, 3) := by decide +kernel
theorem dX4_findPlace_90 : decode cX4_findPlace 90 = .ok (.iload 4, 2) := by decide +kernel
theorem dX4_findPlace_92 : decode cX4_findPlace 92 = .ok (.istore_n 2, 1) := by decide +kernel
theorem dX4_findPlace_93 : decode cX4_findPlace 93 = .ok (.iinc 3 1, 3) := by decide +kernel
theorem dX4_findPlace_96 : decode cX4_findPlace 96 = .ok (.goto (-92), 3) := by decide +kernel
theorem dX4_findPlace_99 : decode cX4_findPlace 99 = .ok (.iload_n 2, 1) := by decide +kernel
theorem dX4_findPlace_100 : decode cX4_findPlace 100 = .ok (.ireturn, 1) := by decide +kernel
set_option maxRecDepth 20000 in
theorem ggX4_learnSites_X3_openAll : GoodIn wsX4_learnSites wsX3_openAll := goodIn_r _ [10, 11, 62, 63] (by decide +kernel) (by decide +kernel)
set_option maxRecDepth 20000 in
theorem gX4_learnSites_X3_openAll : GoodIn wsX4_learnSites (wsV RX4 273 RX3 yX3_openAll wsX3_openAll) := goodIn_app (goodIn_of _ (by decide +kernel)) ggX4_learnSites_X3_openAll
