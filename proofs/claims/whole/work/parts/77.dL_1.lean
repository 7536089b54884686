theorem dL_cell_0 : decode cL_cell 0 = .ok (.iload_n 1, 1) := by decide +kernel
theorem dL_cell_1 : decode cL_cell 1 = .ok (.aload_n 0, 1) := by decide +kernel
theorem dL_cell_2 : decode cL_cell 2 = .ok (.arraylength, 1) := by decide +kernel
theorem dL_cell_3 : decode cL_cell 3 = .ok (.if_icmp .ge 9, 3) := by decide +kernel
theorem dL_cell_6 : decode cL_cell 6 = .ok (.aload_n 0, 1) := by decide +kernel
theorem dL_cell_7 : decode cL_cell 7 = .ok (.iload_n 1, 1) := by decide +kernel
theorem dL_cell_8 : decode cL_cell 8 = .ok (.iaload, 1) := by decide +kernel
theorem dL_cell_9 : decode cL_cell 9 = .ok (.goto 4, 3) := by decide +kernel
theorem dL_cell_12 : decode cL_cell 12 = .ok (.iconst 0, 1) := by decide +kernel
theorem dL_cell_13 : decode cL_cell 13 = .ok (.ireturn, 1) := by decide +kernel
set_option maxRecDepth 20000 in
theorem ggL_net_X4_net : GoodIn wsL_net wsX4_net := goodIn_ca (goodIn_r _ [6, 7, 8, 9, 10, 11, 12, 13, 14, 15, 16, 17, 18, 19, 20, 21, 22, 23, 24, 25, 26, 27, 28] (by decide +kernel) (by decide +kernel)) (goodIn_sub (fun _ h => List.mem_cons_of_mem _ (List.mem_append_right _ h)) (by decide +kernel))
set_option maxRecDepth 20000 in
theorem gL_net_X4_net : GoodIn wsL_net (wsV RL 7 RX4 yX4_net wsX4_net) := goodIn_app (goodIn_of _ (by decide +kernel)) ggL_net_X4_net
theorem dL_net_0 : decode cL_net 0 = .ok (.aload_n 1, 1) := by decide +kernel
theorem dL_net_1 : decode cL_net 1 = .ok (.iconst 0, 1) := by decide +kernel
theorem dL_net_2 : decode cL_net 2 = .ok (.aload_n 0, 1) := by decide +kernel
theorem dL_net_3 : decode cL_net 3 = .ok (.invokevirtual 7, 3) := by decide +kernel
theorem dL_net_6 : decode cL_net 6 = .ok (.i2l, 1) := by decide +kernel
theorem dL_net_7 : decode cL_net 7 = .ok (.lastore, 1) := by decide +kernel
theorem dL_net_8 : decode cL_net 8 = .ok (.goto 6, 3) := by decide +kernel
theorem dL_net_11 : decode cL_net 11 = .ok (.astore_n 2, 1) := by decide +kernel
theorem dL_net_12 : decode cL_net 12 = .ok (.iconst 1, 1) := by decide +kernel
theorem dL_net_13 : decode cL_net 13 = .ok (.ireturn, 1) := by decide +kernel
theorem dL_net_14 : decode cL_net 14 = .ok (.iconst 0, 1) := by decide +kernel
theorem dL_net_15 : decode cL_net 15 = .ok (.ireturn, 1) := by decide +kernel
set_option maxRecDepth 20000 in
theorem ggL_shape_X4_shape : GoodIn wsL_shape wsX4_shape := goodIn_ca (goodIn_ca (goodIn_ca (goodIn_r _ [8, 9, 10, 11, 12, 13, 14, 15, 16, 17, 18, 19, 20, 21, 22, 23, 7, 24, 25, 26, 27, 28, 29, 30, 31, 32, 33, 34, 35, 36, 37, 38, 39, 40, 41, 42, 43, 44, 45, 46, 47, 48, 49, 50, 51, 52, 53, 54, 55, 56, 57, 58, 59, 60, 61, 62, 63, 64, 65, 66, 67, 68, 69, 70, 71, 72, 73, 74, 75, 76, 77, 78, 79, 80, 81, 82, 83, 84, 85, 86, 87, 88, 89, 90, 91, 92, 93, 94, 95, 96, 97, 98, 99, 100, 101, 102, 103, 104, 105, 106, 107, 108, 109, 110, 111, 112, 113, 114, 115, 116, 117, 118, 119, 120, 121, 122, 123, 124, 125, 126, 127, 128, 129, 130, 131, 132, 133, 134, 135, 136, 137, 138, 139, 140, 141] (by decide +kernel) (by decide +kernel)) (goodIn_sub (fun _ h => List.mem_cons_of_mem _ (List.mem_append_left _ (List.mem_append_left _ (List.mem_append_right _ h)))) (by decide +kernel))) (goodIn_sub (fun _ h => List.mem_cons_of_mem _ (List.mem_append_left _ (List.mem_append_right _ h))) (by decide +kernel))) (goodIn_sub (fun _ h => List.mem_cons_of_mem _ (List.mem_append_right _ h)) (by decide +kernel))
set_option maxRecDepth 20000 in
theorem gL_shape_X4_shape : GoodIn wsL_shape (wsV RL 15 RX4 yX4_shape wsX4_shape) := goodIn_app (goodIn_of _ (by decide +kernel)) ggL_shape_X4_shape
theorem dL_shape_0 : decode cL_shape 0 = .ok (.aload 11, 2) := by decide +kernel
theorem dL_shape_2 : decode cL_shape 2 = .ok (.iconst 0, 1) := by decide +kernel
theorem dL_shape_3 : decode cL_shape 3 = .ok (.aload_n 0, 1) := by decide +kernel
theorem dL_shape_4 : decode cL_shape 4 = .ok (.iload_n 1, 1) := by decide +kernel
theorem dL_shape_5 : decode cL_shape 5 = .ok (.iload_n 2, 1) := by decide +kernel
theorem dL_shape_6 : decode cL_shape 6 = .ok (.lload_n 3, 1) := by decide +kernel
theorem dL_shape_7 : decode cL_shape 7 = .ok (.lload 5, 2) := by decide +kernel
theorem dL_shape_9 : decode cL_shape 9 = .ok (.lload 7, 2) := by decide +kernel
theorem dL_shape_11 : decode cL_shape 11 = .ok (.lload 9, 2) := by decide +kernel
theorem dL_shape_13 : decode cL_shape 13 = .ok (.invokevirtual 15, 3) := by decide +kernel
theorem dL_shape_16 : decode cL_shape 16 = .ok (.ifCond .eq 7, 3) := by decide +kernel
theorem dL_shape_19 : decode cL_shape 19 = .ok (.lconst 1, 1) := by decide +kernel
theorem dL_shape_20 : decode cL_shape 20 = .ok (.goto 4, 3) := by decide +kernel
theorem dL_shape_23 : decode cL_shape 23 = .ok (.lconst 0, 1) := by decide +kernel
theorem dL_shape_24 : decode cL_shape 24 = .ok (.lastore, 1) := by decide +kernel
theorem dL_shape_25 : decode cL_shape 25 = .ok (.goto 15, 3) := by decide +kernel
theorem dL_shape_28 : decode cL_shape 28 = .ok (.astore 12, 2) := by decide +kernel
theorem dL_shape_30 : decode cL_shape 30 = .ok (.iconst 1, 1) := by decide +kernel
theorem dL_shape_31 : decode cL_shape 31 = .ok (.ireturn, 1) := by decide +kernel
theorem dL_shape_32 : decode cL_shape 32 = .ok (.astore 12, 2) := by decide +kernel
theorem dL_shape_34 : decode cL_shape 34 = .ok (.iconst 2, 1) := by decide +kernel
theorem dL_shape_35 : decode cL_shape 35 = .ok (.ireturn, 1) := by decide +kernel
theorem dL_shape_36 : decode cL_shape 36 = .ok (.astore 12, 2) := by decide +kernel
theorem dL_shape_38 : decode cL_shape 38 = .ok (.iconst 3, 1) := by decide +kernel
theorem dL_shape_39 : decode cL_shape 39 = .ok (.ireturn, 1) := by decide +kernel
theorem dL_shape_40 : decode cL_shape 40 = .ok (.iconst 0, 1) := by decide +kernel
theorem dL_shape_41 : decode cL_shape 41 = .ok (.ireturn, 1) := by decide +kernel
set_option maxRecDepth 20000 in
theorem ggL_gate_X4_gate : GoodIn wsL_gate wsX4_gate := goodIn_ca (goodIn_ca (goodIn_r _ [7, 8, 9, 10, 11, 12, 13, 14, 6, 15, 16, 17, 18, 19, 20, 21, 22, 23, 24, 25, 26, 27, 28, 29, 30, 31, 32, 33, 34, 35, 36, 37, 38, 39, 40, 41, 42, 43, 44, 45, 46, 47] (by decide +kernel) (by decide +kernel)) (goodIn_sub (fun _ h => List.mem_cons_of_mem _ (List.mem_append_left _ (List.mem_append_right _ h))) (by decide +kernel))) (goodIn_sub (fun _ h => List.mem_cons_of_mem _ (List.mem_append_right _ h)) (by decide +kernel))
set_option maxRecDepth 20000 in
theorem gL_gate_X4_gate : GoodIn wsL_gate (wsV RL 23 RX4 yX4_gate wsX4_gate) := goodIn_app (goodIn_of _ (by decide +kernel)) ggL_gate_X4_gate
theorem dL_gate_0 : decode cL_gate 0 = .ok (.aload 4, 2) := by decide +kernel
theorem dL_gate_2 : decode cL_gate 2 = .ok (.iconst 0, 1) := by decide +kernel
theorem dL_gate_3 : decode cL_gate 3 = .ok (.aload_n 0, 1) := by decide +kernel
theorem dL_gate_4 : decode cL_gate 4 = .ok (.iload_n 1, 1) := by decide +kernel
theorem dL_gate_5 : decode cL_gate 5 = .ok (.lload_n 2, 1) := by decide +kernel
theorem dL_gate_6 : decode cL_gate 6 = .ok (.invokevirtual 23, 3) := by decide +kernel
theorem dL_gate_9 : decode cL_gate 9 = .ok (.lastore, 1) := by decide +kernel
theorem dL_gate_10 : decode cL_gate 10 = .ok (.goto 11, 3) := by decide +kernel
theorem dL_gate_13 : decode cL_gate 13 = .ok (.astore 5, 2) := by decide +kernel
theorem dL_gate_15 : decode cL_gate 15 = .ok (.iconst 1, 1) := by decide +kernel
theorem dL_gate_16 : decode cL_gate 16 = .ok (.ireturn, 1) := by decide +kernel
theorem dL_gate_17 : decode cL_gate 17 = .ok (.astore 5, 2) := by decide +kernel
theorem dL_gate_19 : decode cL_gate 19 = .ok (.iconst 2, 1) := by decide +kernel
theorem dL_gate_20 : decode cL_gate 20 = .ok (.ireturn, 1) := by decide +kernel
theorem dL_gate_21 : decode cL_gate 21 = .ok (.iconst 0, 1) := by decide +kernel
theorem dL_gate_22 : decode cL_gate 22 = .ok (.ireturn, 1) := by decide +kernel
set_option maxRecDepth 20000 in
theorem ggL_diode_X4_diode : GoodIn wsL_diode wsX4_diode := goodIn_ca (goodIn_ca (goodIn_ca (goodIn_r _ [8, 9, 10, 11, 12, 13, 14, 15, 16, 7, 17, 18, 19, 20, 21, 22, 23, 24, 25, 26, 27, 28, 29, 30, 31, 32, 33, 34, 35, 36, 37, 38, 39, 40, 41, 42, 43, 44, 45, 46, 47, 48, 49, 50, 51, 52, 53, 54, 55] (by decide +kernel) (by decide +kernel)) (goodIn_sub (fun _ h => List.mem_cons_of_mem _ (List.mem_append_left _ (List.mem_append_left _ (List.mem_append_right _ h)))) (by decide +kernel))) (goodIn_sub (fun _ h => List.mem_cons_of_mem _ (List.mem_append_left _ (List.mem_append_right _ h))) (by decide +kernel))) (goodIn_sub (fun _ h => List.mem_cons_of_mem _ (List.mem_append_right _ h)) (by decide +kernel))
set_option maxRecDepth 20000 in
theorem gL_diode_X4_diode : GoodIn wsL_diode (wsV RL 27 RX4 yX4_diode wsX4_diode) := goodIn_app (goodIn_of _ (by decide +kernel)) ggL_diode_X4_diode
theorem dL_diode_0 : decode cL_diode 0 = .ok (.aload 5, 2) := by decide +kernel
theorem dL_diode_2 : decode cL_diode 2 = .ok (.iconst 0, 1) := by decide +kernel
theorem dL_diode_3 : decode cL_diode 3 = .ok (.aload_n 0, 1) := by decide +kernel
theorem dL_diode_4 : decode cL_diode 4 = .ok (.iload_n 1, 1) := by decide +kernel
theorem dL_diode_5 : decode cL_diode 5 = .ok (.iload_n 2, 1) := by decide +kernel
theorem dL_diode_6 : decode cL_diode 6 = .ok (.lload_n 3, 1) := by decide +kernel
theorem dL_diode_7 : decode cL_diode 7 = .ok (.invokevirtual 27, 3) := by decide +kernel
theorem dL_diode_10 : decode cL_diode 10 = .ok (.ifCond .eq 7, 3) := by decide +kernel
theorem dL_diode_13 : decode cL_diode 13 = .ok (.lconst 1, 1) := by decide +kernel
theorem dL_diode_14 : decode cL_diode 14 = .ok (.goto 4, 3) := by decide +kernel
theorem dL_diode_17 : decode cL_diode 17 = .ok (.lconst 0, 1) := by decide +kernel
theorem dL_diode_18 : decode cL_diode 18 = .ok (.lastore, 1) := by decide +kernel
theorem dL_diode_19 : decode cL_diode 19 = .ok (.goto 15, 3) := by decide +kernel
theorem dL_diode_22 : decode cL_diode 22 = .ok (.astore 6, 2) := by decide +kernel
theorem dL_diode_24 : decode cL_diode 24 = .ok (.iconst 1, 1) := by decide +kernel
theorem dL_diode_25 : decode cL_diode 25 = .ok (.ireturn, 1) := by decide +kernel
theorem dL_diode_26 : decode cL_diode 26 = .ok (.astore 6, 2) := by decide +kernel
theorem dL_diode_28 : decode cL_diode 28 = .ok (.iconst 2, 1) := by decide +kernel
theorem dL_diode_29 : decode cL_diode 29 = .ok (.ireturn, 1) := by decide +kernel
theorem dL_diode_30 : decode cL_diode 30 = .ok (.astore 6, 2) := by decide +kernel
theorem dL_diode_32 : decode cL_diode 32 = .ok (.iconst 3, 1) := by decide +kernel
theorem dL_diode_33 : decode cL_diode 33 = .ok (.ireturn, 1) := by decide +kernel
theorem dL_diode_34 : decode cL_diode 34 = .ok (.iconst 0, 1) := by decide +kernel
theorem dL_diode_35 : decode cL_diode 35 = .ok (.ireturn, 1) := by decide +kernel
set_option maxRecDepth 20000 in
theorem ggL_ratio_X4_ratio : GoodIn wsL_ratio wsX4_ratio := goodIn_ca (goodIn_r _ [6, 7, 8, 9, 10, 11, 5, 12, 13, 14, 15, 16, 17, 18, 19, 20, 21, 22, 23, 24, 25, 26, 27, 28, 29, 30, 31, 32, 33, 34, 35, 36, 37, 38, 39, 40, 41, 42, 43, 44, 45, 46, 47, 48, 49, 50, 51, 52, 53, 54, 55] (by decide +kernel) (by decide +kernel)) (goodIn_sub (fun _ h => List.mem_cons_of_mem _ (List.mem_append_right _ h)) (by decide +kernel))
set_option maxRecDepth 20000 in
theorem gL_ratio_X4_ratio : GoodIn wsL_ratio (wsV RL 31 RX4 yX4_ratio wsX4_ratio) := goodIn_app (goodIn_of _ (by decide +kernel)) ggL_ratio_X4_ratio
theorem dL_ratio_0 : decode cL_ratio 0 = .ok (.aload 4, 2) := by decide +kernel
theorem dL_ratio_2 : decode cL_ratio 2 = .ok (.iconst 0, 1) := by decide +kernel
theorem dL_ratio_3 : decode cL_ratio 3 = .ok (.aload_n 0, 1) := by decide +kernel
theorem dL_ratio_4 : decode cL_ratio 4 = .ok (.iload_n 1, 1) := by decide +kernel
theorem dL_ratio_5 : decode cL_ratio 5 = .ok (.iload_n 2, 1) := by decide +kernel
theorem dL_ratio_6 : decode cL_ratio 6 = .ok (.iload_n 3, 1) := by decide +kernel
theorem dL_ratio_7 : decode cL_ratio 7 = .ok (.invokevirtual 31, 3) := by decide +kernel
theorem dL_ratio_10 : decode cL_ratio 10 = .ok (.lastore, 1) := by decide +kernel
theorem dL_ratio_11 : decode cL_ratio 11 = .ok (.goto 7, 3) := by decide +kernel
theorem dL_ratio_14 : decode cL_ratio 14 = .ok (.astore 5, 2) := by decide +kernel
theorem dL_ratio_16 : decode cL_ratio 16 = .ok (.iconst 1, 1) := by decide +kernel
theorem dL_ratio_17 : decode cL_ratio 17 = .ok (.ireturn, 1) := by decide +kernel
theorem dL_ratio_18 : decode cL_ratio 18 = .ok (.iconst 0, 1) := by decide +kernel
theorem dL_ratio_19 : decode cL_ratio 19 = .ok (.ireturn, 1) := by decide +kernel
set_option maxRecDepth 20000 in
theorem ggL_limit_X4_limit : GoodIn wsL_limit wsX4_limit := goodIn_ca (goodIn_ca (goodIn_r _ [7, 8, 9, 10, 11, 12, 13, 14, 15, 6, 16, 17, 18, 19, 20, 21, 22, 23, 24, 25, 26, 27, 28, 29, 30, 31, 32, 33, 34, 35, 36, 37, 38, 39, 40, 41] (by decide +kernel) (by decide +kernel)) (goodIn_sub (fun _ h => List.mem_cons_of_mem _ (List.mem_append_left _ (List.mem_append_right _ h))) (by decide +kernel))) (goodIn_sub (fun _ h => List.mem_cons_of_mem _ (List.mem_append_right _ h)) (by decide +kernel))
set_option maxRecDepth 20000 in
theorem gL_limit_X4_limit : GoodIn wsL_limit (wsV RL 35 RX4 yX4_limit wsX4_limit) := goodIn_app (goodIn_of _ (by decide +kernel)) ggL_limit_X4_limit
theorem dL_limit_0 : decode cL_limit 0 = .ok (.aload 6, 2) := by decide +kernel
theorem dL_limit_2 : decode cL_limit 2 = .ok (.iconst 0, 1) := by decide +kernel
theorem dL_limit_3 : decode cL_limit 3 = .ok (.aload_n 0, 1) := by decide +kernel
theorem dL_limit_4 : decode cL_limit 4 = .ok (.iload_n 1, 1) := by decide +kernel
theorem dL_limit_5 : decode cL_limit 5 = .ok (.lload_n 2, 1) := by decide +kernel
theorem dL_limit_6 : decode cL_limit 6 = .ok (.lload 4, 2) := by decide +kernel
theorem dL_limit_8 : decode cL_limit 8 = .ok (.invokevirtual 35, 3) := by decide +kernel
theorem dL_limit_11 : decode cL_limit 11 = .ok (.ifCond .eq 7, 3) := by decide +kernel
theorem dL_limit_14 : decode cL_limit 14 = .ok (.lconst 1, 1) := by decide +kernel
theorem dL_limit_15 : decode cL_limit 15 = .ok (.goto 4, 3) := by decide +kernel
theorem dL_limit_18 : decode cL_limit 18 = .ok (.lconst 0, 1) := by decide +kernel
theorem dL_limit_19 : decode cL_limit 19 = .ok (.lastore, 1) := by decide +kernel
theorem dL_limit_20 : decode cL_limit 20 = .ok (.goto 11, 3) := by decide +kernel
theorem dL_limit_23 : decode cL_limit 23 = .ok (.astore 7, 2) := by decide +kernel
theorem dL_limit_25 : decode cL_limit 25 = .ok (.iconst 1, 1) := by decide +kernel
theorem dL_limit_26 : decode cL_limit 26 = .ok (.ireturn, 1) := by decide +kernel
theorem dL_limit_27 : decode cL_limit 27 = .ok (.astore 7, 2) := by decide +kernel
theorem dL_limit_29 : decode cL_limit 29 = .ok (.iconst 2, 1) := by decide +kernel
theorem dL_limit_30 : decode cL_limit 30 = .ok (.ireturn, 1) := by decide +kernel
theorem dL_limit_31 : decode cL_limit 31 = .ok (.iconst 0, 1) := by decide +kernel
theorem dL_limit_32 : decode cL_limit 32 = .ok (.ireturn, 1) := by decide +kernel
set_option maxRecDepth 20000 in
theorem ggL_repaired_X4_repaired : GoodIn wsL_repaired wsX4_repaired := goodIn_ca (goodIn_r _ [6, 7, 8, 9, 10, 11, 12, 13, 14, 5, 15, 16, 17, 18, 19, 20, 21, 22, 23, 24, 25, 26, 27, 28, 29, 30, 31, 32, 33, 34, 35, 36, 37, 38, 39, 40, 41, 42, 43] (by decide +kernel) (by decide +kernel)) (goodIn_sub (fun _ h => List.mem_cons_of_mem _ (List.mem_append_right _ h)) (by decide +kernel))
set_option maxRecDepth 20000 in
theorem gL_repaired_X4_repaired : GoodIn wsL_repaired (wsV RL 39 RX4 yX4_repaired wsX4_repaired) := goodIn_app (goodIn_of _ (by decide +kernel)) ggL_repaired_X4_repaired
theorem dL_repaired_0 : decode cL_repaired 0 = .ok (.aload_n 3, 1) := by decide +kernel
theorem dL_repaired_1 : decode cL_repaired 1 = .ok (.iconst 0, 1) := by decide +kernel
theorem dL_repaired_2 : decode cL_repaired 2 = .ok (.aload_n 0, 1) := by decide +kernel
theorem dL_repaired_3 : decode cL_repaired 3 = .ok (.iload_n 1, 1) := by decide +kernel
theorem dL_repaired_4 : decode cL_repaired 4 = .ok (.iload_n 2, 1) := by decide +kernel
theorem dL_repaired_5 : decode cL_repaired 5 = .ok (.invokevirtual 39, 3) := by decide +kernel
theorem dL_repaired_8 : decode cL_repaired 8 = .ok (.i2l, 1) := by decide +kernel
theorem dL_repaired_9 : decode cL_repaired 9 = .ok (.lastore, 1) := by decide +kernel
theorem dL_repaired_10 : decode cL_repaired 10 = .ok (.goto 7, 3) := by decide +kernel
theorem dL_repaired_13 : decode cL_repaired 13 = .ok (.astore 4, 2) := by decide +kernel
theorem dL_repaired_15 : decode cL_repaired 15 = .ok (.iconst 1, 1) := by decide +kernel
theorem dL_repaired_16 : decode cL_repaired 16 = .ok (.ireturn, 1) := by decide +kernel
theorem dL_repaired_17 : decode cL_repaired 17 = .ok (.iconst 0, 1) := by decide +kernel
theorem dL_repaired_18 : decode cL_repaired 18 = .ok (.ireturn, 1) := by decide +kernel
set_option maxRecDepth 20000 in
theorem ggL_density_X4_density : GoodIn wsL_density wsX4_density := goodIn_ca (goodIn_ca (goodIn_r _ [7, 8, 9, 10, 11, 12, 6, 13, 14, 15, 16, 17, 18, 19, 20, 21, 22, 23, 24, 25, 26, 27, 28, 29, 30, 31, 32, 33, 34, 35, 36, 37, 38, 39, 40, 41, 42, 43, 44, 45, 46, 47, 48, 49, 50, 51, 52, 53, 54, 55, 56, 57, 58, 59, 60, 61, 62, 63, 64, 65, 66, 67, 68, 69, 70, 71, 72, 73, 74, 75, 76, 77, 78, 79, 80, 81, 82, 83, 84, 85, 86, 87, 88, 89, 90, 91, 92, 93, 94, 95, 96, 97, 98, 99, 100, 101, 102, 103, 104, 105, 106, 107, 108, 109, 110, 111, 112, 113, 114, 115, 116, 117, 118, 119, 120, 121, 122, 123, 124, 125, 126, 127, 128] (by decide +kernel) (by decide +kernel)) (goodIn_sub (fun _ h => List.mem_cons_of_mem _ (List.mem_append_left _ (List.mem_append_right _ h))) (by decide +kernel))) (goodIn_sub (fun _ h => List.mem_cons_of_mem _ (List.mem_append_right _ h)) (by decide +kernel))
set_option maxRecDepth 20000 in
theorem gL_density_X4_density : GoodIn wsL_density (wsV RL 43 RX4 yX4_density wsX4_density) := goodIn_app (goodIn_of _ (by decide +kernel)) ggL_density_X4_density
theorem dL_density_0 : decode cL_density 0 = .ok (.aload 7, 2) := by decide +kernel
theorem dL_density_2 : decode cL_density 2 = .ok (.iconst 0, 1) := by decide +kernel
theorem dL_density_3 : decode cL_density 3 = .ok (.aload_n 0, 1) := by decide +kernel
theorem dL_density_4 : decode cL_density 4 = .ok (.iload_n 1, 1) := by decide +kernel
theorem dL_density_5 : decode cL_density 5 = .ok (.lload_n 2, 1) := by decide +kernel
theorem dL_density_6 : decode cL_density 6 = .ok (.lload 4, 2) := by decide +kernel
theorem dL_density_8 : decode cL_density 8 = .ok (.iload 6, 2) := by decide +kernel
theorem dL_density_10 : decode cL_density 10 = .ok (.invokevirtual 43, 3) := by decide +kernel
theorem dL_density_13 : decode cL_density 13 = .ok (.lastore, 1) := by decide +kernel
theorem dL_density_14 : decode cL_density 14 = .ok (.goto 11, 3) := by decide +kernel
theorem dL_density_17 : decode cL_density 17 = .ok (.astore 8, 2) := by decide +kernel
theorem dL_density_19 : decode cL_density 19 = .ok (.iconst 1, 1) := by decide +kernel
theorem dL_density_20 : decode cL_density 20 = .ok (.ireturn, 1) := by decide +kernel
theorem dL_density_21 : decode cL_density 21 = .ok (.astore 8, 2) := by decide +kernel
theorem dL_density_23 : decode cL_density 23 = .ok (.iconst 2, 1) := by decide +kernel
theorem dL_density_24 : decode cL_density 24 = .ok (.ireturn, 1) := by decide +kernel
theorem dL_density_25 : decode cL_density 25 = .ok (.iconst 0, 1) := by decide +kernel
theorem dL_density_26 : decode cL_density 26 = .ok (.ireturn, 1) := by decide +kernel
set_option maxRecDepth 20000 in
theorem ggL_bounds_X4_bounds : GoodIn wsL_bounds wsX4_bounds := goodIn_ca (goodIn_ca (goodIn_r _ [7, 8, 9, 10, 11, 12, 13, 6, 14, 15, 16, 17, 18, 19, 20, 21, 22, 23, 24, 25, 26, 27, 28, 29, 30, 31, 32, 33, 34, 35, 36, 37, 38, 39, 40, 41, 42, 43, 44] (by decide +kernel) (by decide +kernel)) (goodIn_sub (fun _ h => List.mem_cons_of_mem _ (List.mem_append_left _ (List.mem_append_right _ h))) (by decide +kernel))) (goodIn_sub (fun _ h => List.mem_cons_of_mem _ (List.mem_append_right _ h)) (by decide +kernel))
set_option maxRecDepth 20000 in
theorem gL_bounds_X4_bounds : GoodIn wsL_bounds (wsV RL 47 RX4 yX4_bounds wsX4_bounds) := goodIn_app (goodIn_of _ (by decide +kernel)) ggL_bounds_X4_bounds
theorem dL_bounds_0 : decode cL_bounds 0 = .ok (.aload 4, 2) := by decide +kernel
theorem dL_bounds_2 : decode cL_bounds 2 = .ok (.iconst 0, 1) := by decide +kernel
theorem dL_bounds_3 : decode cL_bounds 3 = .ok (.aload_n 0, 1) := by decide +kernel
theorem dL_bounds_4 : decode cL_bounds 4 = .ok (.iload_n 1, 1) := by decide +kernel
theorem dL_bounds_5 : decode cL_bounds 5 = .ok (.iload_n 2, 1) := by decide +kernel
theorem dL_bounds_6 : decode cL_bounds 6 = .ok (.iload_n 3, 1) := by decide +kernel
theorem dL_bounds_7 : decode cL_bounds 7 = .ok (.invokevirtual 47, 3) := by decide +kernel
theorem dL_bounds_10 : decode cL_bounds 10 = .ok (.ifCond .eq 7, 3) := by decide +kernel
theorem dL_bounds_13 : decode cL_bounds 13 = .ok (.lconst 1, 1) := by decide +kernel
theorem dL_bounds_14 : decode cL_bounds 14 = .ok (.goto 4, 3) := by decide +kernel
theorem dL_bounds_17 : decode cL_bounds 17 = .ok (.lconst 0, 1) := by decide +kernel
theorem dL_bounds_18 : decode cL_bounds 18 = .ok (.lastore, 1) := by decide +kernel
theorem dL_bounds_19 : decode cL_bounds 19 = .ok (.goto 11, 3) := by decide +kernel
theorem dL_bounds_22 : decode cL_bounds 22 = .ok (.astore 5, 2) := by decide +kernel
theorem dL_bounds_24 : decode cL_bounds 24 = .ok (.iconst 1, 1) := by decide +kernel
theorem dL_bounds_25 : decode cL_bounds 25 = .ok (.ireturn, 1) := by decide +kernel
theorem dL_bounds_26 : decode cL_bounds 26 = .ok (.astore 5, 2) := by decide +kernel
theorem dL_bounds_28 : decode cL_bounds 28 = .ok (.iconst 2, 1) := by decide +kernel
theorem dL_bounds_29 : decode cL_bounds 29 = .ok (.ireturn, 1) := by decide +kernel
theorem dL_bounds_30 : decode cL_bounds 30 = .ok (.iconst 0, 1) := by decide +kernel
theorem dL_bounds_31 : decode cL_bounds 31 = .ok (.ireturn, 1) := by decide +kernel
set_option maxRecDepth 20000 in
theorem ggL_fill_X4_fill : GoodIn wsL_fill wsX4_fill := goodIn_ca (goodIn_ca (goodIn_r _ [7, 8, 9, 10, 11, 12, 13, 14, 15, 16, 17, 18, 19, 6, 20, 21, 22, 23, 24, 25, 26, 27, 28, 29, 30, 31, 32, 33, 34, 35, 36, 37, 38, 39, 40, 41, 42, 43, 44, 45, 46, 47, 48, 49, 50, 51, 52, 53, 54, 55, 56, 57, 58, 59, 60, 61, 62, 63, 64, 65, 66, 67, 68, 69, 70, 71, 72, 73, 74, 75, 76, 77, 78, 79, 80, 81, 82, 83, 84, 85, 86, 87, 88, 89, 90, 91, 92, 93, 94, 95, 96, 97, 98, 99, 100, 101, 102, 103, 104, 105, 106, 107, 108, 109, 110, 111, 112, 113, 114, 115, 116, 117, 118, 119, 120, 121, 122, 123, 124, 125, 126, 127, 128, 129, 130, 131, 132, 133, 134, 135, 136, 137, 138, 139, 140, 141, 142, 143, 144, 145, 146, 147, 148, 149, 150, 151, 152, 153, 154, 155, 156, 157, 158, 159, 160, 161, 162, 163, 164, 165, 166, 167, 168, 169, 170, 171, 172, 173, 174, 175, 176, 177, 178, 179, 180, 181, 182, 183, 184, 185, 186, 187, 188, 189, 190, 191, 192, 193, 194, 195, 196, 197, 198, 199, 200, 201, 202, 203, 204, 205, 206, 207, 208, 209, 210, 211, 212] (by decide +kernel) (by decide +kernel)) (goodIn_sub (fun _ h => List.mem_cons_of_mem _ (List.mem_append_left _ (List.mem_append_right _ h))) (by decide +kernel))) (goodIn_sub (fun _ h => List.mem_cons_of_mem _ (List.mem_append_right _ h)) (by decide +kernel))
set_option maxRecDepth 20000 in
theorem gL_fill_X4_fill : GoodIn wsL_fill (wsV RL 51 RX4 yX4_fill wsX4_fill) := goodIn_app (goodIn_of _ (by decide +kernel)) ggL_fill_X4_fill
theorem dL_fill_0 : decode cL_fill 0 = .ok (.aload 8, 2) := by decide +kernel
theorem dL_fill_2 : decode cL_fill 2 = .ok (.iconst 0, 1) := by decide +kernel
theorem dL_fill_3 : decode cL_fill 3 = .ok (.aload_n 0, 1) := by decide +kernel
theorem dL_fill_4 : decode cL_fill 4 = .ok (.iload_n 1, 1) := by decide +kernel
theorem dL_fill_5 : decode cL_fill 5 = .ok (.lload_n 2, 1) := by decide +kernel
theorem dL_fill_6 : decode cL_fill 6 = .ok (.lload 4, 2) := by decide +kernel
theorem dL_fill_8 : decode cL_fill 8 = .ok (.lload 6, 2) := by decide +kernel
theorem dL_fill_10 : decode cL_fill 10 = .ok (.invokevirtual 51, 3) := by decide +kernel
theorem dL_fill_13 : decode cL_fill 13 = .ok (.i2l, 1) := by decide +kernel
theorem dL_fill_14 : decode cL_fill 14 = .ok (.lastore, 1) := by decide +kernel
theorem dL_fill_15 : decode cL_fill 15 = .ok (.goto 11, 3) := by decide +kernel
theorem dL_fill_18 : decode cL_fill 18 = .ok (.astore 9, 2) := by decide +kernel
theorem dL_fill_20 : decode cL_fill 20 = .ok (.iconst 1, 1) := by decide +kernel
theorem dL_fill_21 : decode cL_fill 21 = .ok (.ireturn, 1) := by decide +kernel
theorem dL_fill_22 : decode cL_fill 22 = .ok (.astore 9, 2) := by decide +kernel
theorem dL_fill_24 : decode cL_fill 24 = .ok (.iconst 2, 1) := by decide +kernel
theorem dL_fill_25 : decode cL_fill 25 = .ok (.ireturn, 1) := by decide +kernel
theorem dL_fill_26 : decode cL_fill 26 = .ok (.iconst 0, 1) := by decide +kernel
theorem dL_fill_27 : decode cL_fill 27 = .ok (.ireturn, 1) := by decide +kernel
set_option maxRecDepth 20000 in
theorem ggL_piece_X4_piece : GoodIn wsL_piece wsX4_piece := goodIn_ca (goodIn_r _ [6, 7, 8, 9, 10, 11, 12, 13, 5, 14, 15, 16, 17, 18, 19, 20, 21, 22, 23, 24, 25, 26, 27, 28, 29, 30, 31, 32, 33, 34, 35, 36, 37, 38, 39, 40, 41, 42, 43, 44, 45, 46, 47, 48, 49, 50, 51, 52, 53, 54, 55, 56, 57] (by decide +kernel) (by decide +kernel)) (goodIn_sub (fun _ h => List.mem_cons_of_mem _ (List.mem_append_right _ h)) (by decide +kernel))
set_option maxRecDepth 20000 in
theorem gL_piece_X4_piece : GoodIn wsL_piece (wsV RL 55 RX4 yX4_piece wsX4_piece) := goodIn_app (goodIn_of _ (by decide +kernel)) ggL_piece_X4_piece
theorem dL_piece_0 : decode cL_piece 0 = .ok (.aload 4, 2) := by decide +kernel
theorem dL_piece_2 : decode cL_piece 2 = .ok (.iconst 0, 1) := by decide +kernel
theorem dL_piece_3 : decode cL_piece 3 = .ok (.aload_n 0, 1) := by decide +kernel
theorem dL_piece_4 : decode cL_piece 4 = .ok (.iload_n 1, 1) := by decide +kernel
theorem dL_piece_5 : decode cL_piece 5 = .ok (.iload_n 2, 1) := by decide +kernel
theorem dL_piece_6 : decode cL_piece 6 = .ok (.iload_n 3, 1) := by decide +kernel
theorem dL_piece_7 : decode cL_piece 7 = .ok (.invokevirtual 55, 3) := by decide +kernel
theorem dL_piece_10 : decode cL_piece 10 = .ok (.lastore, 1) := by decide +kernel
theorem dL_piece_11 : decode cL_piece 11 = .ok (.goto 7, 3) := by decide +kernel
theorem dL_piece_14 : decode cL_piece 14 = .ok (.astore 5, 2) := by decide +kernel
theorem dL_piece_16 : decode cL_piece 16 = .ok (.iconst 1, 1) := by decide +kernel
theorem dL_piece_17 : decode cL_piece 17 = .ok (.ireturn, 1) := by decide +kernel
theorem dL_piece_18 : decode cL_piece 18 = .ok (.iconst 0, 1) := by decide +kernel
theorem dL_piece_19 : decode cL_piece 19 = .ok (.ireturn, 1) := by decide +kernel
set_option maxRecDepth 20000 in
theorem ggL_told_X4_told : GoodIn wsL_told wsX4_told := goodIn_ca (goodIn_r _ [6, 7, 8, 9, 10, 11, 12, 13, 14, 15, 16, 17, 18, 19, 20, 21, 22, 23, 24, 25, 26, 27, 28, 29] (by decide +kernel) (by decide +kernel)) (goodIn_sub (fun _ h => List.mem_cons_of_mem _ (List.mem_append_right _ h)) (by decide +kernel))
set_option maxRecDepth 20000 in
theorem gL_told_X4_told : GoodIn wsL_told (wsV RL 58 RX4 yX4_told wsX4_told) := goodIn_app (goodIn_of _ (by decide +kernel)) ggL_told_X4_told
theorem dL_told_0 : decode cL_told 0 = .ok (.aload_n 2, 1) := by decide +kernel
theorem dL_told_1 : decode cL_told 1 = .ok (.iconst 0, 1) := by decide +kernel
theorem dL_told_2 : decode cL_told 2 = .ok (.aload_n 0, 1) := by decide +kernel
theorem dL_told_3 : decode cL_told 3 = .ok (.iload_n 1, 1) := by decide +kernel
theorem dL_told_4 : decode cL_told 4 = .ok (.invokevirtual 58, 3) := by decide +kernel
theorem dL_told_7 : decode cL_told 7 = .ok (.i2l, 1) := by decide +kernel
theorem dL_told_8 : decode cL_told 8 = .ok (.lastore, 1) := by decide +kernel
theorem dL_told_9 : decode cL_told 9 = .ok (.goto 6, 3) := by decide +kernel
theorem dL_told_12 : decode cL_told 12 = .ok (.astore_n 3, 1) := by decide +kernel
theorem dL_told_13 : decode cL_told 13 = .ok (.iconst 1, 1) := by decide +kernel
theorem dL_told_14 : decode cL_told 14 = .ok (.ireturn, 1) := by decide +kernel
theorem dL_told_15 : decode cL_told 15 = .ok (.iconst 0, 1) := by decide +kernel
theorem dL_told_16 : decode cL_told 16 = .ok (.ireturn, 1) := by decide +kernel
set_option maxRecDepth 20000 in
theorem ggL_slot_X4_slot : GoodIn wsL_slot wsX4_slot := goodIn_ca (goodIn_ca (goodIn_r _ [7, 8, 9, 10, 11, 12, 13, 14, 6, 15, 16, 17, 18, 19, 20, 21, 22, 23, 24, 25, 26, 27, 28, 29, 30, 31, 32, 33, 34, 35, 36, 37, 38, 39, 40, 41, 42, 43, 44, 45, 46, 47, 48, 49, 50, 51, 52, 53, 54, 55, 56, 57, 58, 59, 60, 61, 62, 63, 64] (by decide +kernel) (by decide +kernel)) (goodIn_sub (fun _ h => List.mem_cons_of_mem _ (List.mem_append_left _ (List.mem_append_right _ h))) (by decide +kernel))) (goodIn_sub (fun _ h => List.mem_cons_of_mem _ (List.mem_append_right _ h)) (by decide +kernel))
set_option maxRecDepth 20000 in
theorem gL_slot_X4_slot : GoodIn wsL_slot (wsV RL 62 RX4 yX4_slot wsX4_slot) := goodIn_app (goodIn_of _ (by decide +kernel)) ggL_slot_X4_slot
theorem dL_slot_0 : decode cL_slot 0 = .ok (.aload 4, 2) := by decide +kernel
theorem dL_slot_2 : decode cL_slot 2 = .ok (.iconst 0, 1) := by decide +kernel
theorem dL_slot_3 : decode cL_slot 3 = .ok (.aload_n 0, 1) := by decide +kernel
theorem dL_slot_4 : decode cL_slot 4 = .ok (.iload_n 1, 1) := by decide +kernel
theorem dL_slot_5 : decode cL_slot 5 = .ok (.lload_n 2, 1) := by decide +kernel
theorem dL_slot_6 : decode cL_slot 6 = .ok (.invokevirtual 62, 3) := by decide +kernel
theorem dL_slot_9 : decode cL_slot 9 = .ok (.i2l, 1) := by decide +kernel
theorem dL_slot_10 : decode cL_slot 10 = .ok (.lastore, 1) := by decide +kernel
theorem dL_slot_11 : decode cL_slot 11 = .ok (.goto 11, 3) := by decide +kernel
theorem dL_slot_14 : decode cL_slot 14 = .ok (.astore 5, 2) := by decide +kernel
theorem dL_slot_16 : decode cL_slot 16 = .ok (.iconst 1, 1) := by decide +kernel
theorem dL_slot_17 : decode cL_slot 17 = .ok (.ireturn, 1) := by decide +kernel
theorem dL_slot_18 : decode cL_slot 18 = .ok (.astore 5, 2) := by decide +kernel
theorem dL_slot_20 : decode cL_slot 20 = .ok (.iconst 2, 1) := by decide +kernel
theorem dL_slot_21 : decode cL_slot 21 = .ok (.ireturn, 1) := by decide +kernel
theorem dL_slot_22 : decode cL_slot 22 = .ok (.iconst 0, 1) := by decide +kernel
theorem dL_slot_23 : decode cL_slot 23 = .ok (.ireturn, 1) := by decide +kernel
set_option maxRecDepth 20000 in
theorem ggL_slotAt_X4_slotAt : GoodIn wsL_slotAt wsX4_slotAt := goodIn_ca (goodIn_ca (goodIn_r _ [7, 8, 9, 10, 11, 12, 13, 14, 6, 15, 16, 17, 18, 19, 20, 21, 22, 23, 24, 25, 26, 27, 28, 29, 30, 31, 32, 33, 34, 35, 36, 37, 38, 39, 40, 41, 42, 43, 44, 45, 46, 47, 48, 49, 50, 51, 52, 53, 54, 55, 56, 57, 58, 59, 60, 61, 62, 63, 64, 65, 66, 67, 68] (by decide +kernel) (by decide +kernel)) (goodIn_sub (fun _ h => List.mem_cons_of_mem _ (List.mem_append_left _ (List.mem_append_right _ h))) (by decide +kernel))) (goodIn_sub (fun _ h => List.mem_cons_of_mem _ (List.mem_append_right _ h)) (by decide +kernel))
set_option maxRecDepth 20000 in
theorem gL_slotAt_X4_slotAt : GoodIn wsL_slotAt (wsV RL 66 RX4 yX4_slotAt wsX4_slotAt) := goodIn_app (goodIn_of _ (by decide +kernel)) ggL_slotAt_X4_slotAt
theorem dL_slotAt_0 : decode cL_slotAt 0 = .ok (.aload 6, 2) := by decide +kernel
theorem dL_slotAt_2 : decode cL_slotAt 2 = .ok (.iconst 0, 1) := by decide +kernel
theorem dL_slotAt_3 : decode cL_slotAt 3 = .ok (.aload_n 0, 1) := by decide +kernel
theorem dL_slotAt_4 : decode cL_slotAt 4 = .ok (.iload_n 1, 1) := by decide +kernel
theorem dL_slotAt_5 : decode cL_slotAt 5 = .ok (.lload_n 2, 1) := by decide +kernel
theorem dL_slotAt_6 : decode cL_slotAt 6 = .ok (.iload 4, 2) := by decide +kernel
theorem dL_slotAt_8 : decode cL_slotAt 8 = .ok (.iload 5, 2) := by decide +kernel
theorem dL_slotAt_10 : decode cL_slotAt 10 = .ok (.invokevirtual 66, 3) := by decide +kernel
theorem dL_slotAt_13 : decode cL_slotAt 13 = .ok (.i2l, 1) := by decide +kernel
theorem dL_slotAt_14 : decode cL_slotAt 14 = .ok (.lastore, 1) := by decide +kernel
theorem dL_slotAt_15 : decode cL_slotAt 15 = .ok (.goto 11, 3) := by decide +kernel
theorem dL_slotAt_18 : decode cL_slotAt 18 = .ok (.astore 7, 2) := by decide +kernel
theorem dL_slotAt_20 : decode cL_slotAt 20 = .ok (.iconst 1, 1) := by decide +kernel
theorem dL_slotAt_21 : decode cL_slotAt 21 = .ok (.ireturn, 1) := by decide +kernel
theorem dL_slotAt_22 : decode cL_slotAt 22 = .ok (.astore 7, 2) := by decide +kernel
theorem dL_slotAt_24 : decode cL_slotAt 24 = .ok (.iconst 2, 1) := by decide +kernel
theorem dL_slotAt_25 : decode cL_slotAt 25 = .ok (.ireturn, 1) := by decide +kernel
theorem dL_slotAt_26 : decode cL_slotAt 26 = .ok (.iconst 0, 1) := by decide +kernel
theorem dL_slotAt_27 : decode cL_slotAt 27 = .ok (.ireturn, 1) := by decide +kernel
set_option maxRecDepth 20000 in
theorem ggL_count_X4_count : GoodIn wsL_count wsX4_count := goodIn_ca (goodIn_r _ [6, 7, 8, 9, 10, 11, 12, 13, 14, 5, 15, 16, 17, 18, 19, 20, 21, 22, 23, 24, 25, 26, 27, 28, 29, 30, 31, 32, 33, 34, 35, 36, 37, 38, 39, 40, 41, 42, 43] (by decide +kernel) (by decide +kernel)) (goodIn_sub (fun _ h => List.mem_cons_of_mem _ (List.mem_append_right _ h)) (by decide +kernel))
set_option maxRecDepth 20000 in
theorem gL_count_X4_count : GoodIn wsL_count (wsV RL 70 RX4 yX4_count wsX4_count) := goodIn_app (goodIn_of _ (by decide +kernel)) ggL_count_X4_count
theorem dL_count_0 : decode cL_count 0 = .ok (.aload_n 2, 1) := by decide +kernel
theorem dL_count_1 : decode cL_count 1 = .ok (.iconst 0, 1) := by decide +kernel
theorem dL_count_2 : decode cL_count 2 = .ok (.aload_n 0, 1) := by decide +kernel
theorem dL_count_3 : decode cL_count 3 = .ok (.iload_n 1, 1) := by decide +kernel
theorem dL_count_4 : decode cL_count 4 = .ok (.invokevirtual 70, 3) := by decide +kernel
theorem dL_count_7 : decode cL_count 7 = .ok (.i2l, 1) := by decide +kernel
theorem dL_count_8 : decode cL_count 8 = .ok (.lastore, 1) := by decide +kernel
theorem dL_count_9 : decode cL_count 9 = .ok (.goto 6, 3) := by decide +kernel
theorem dL_count_12 : decode cL_count 12 = .ok (.astore_n 3, 1) := by decide +kernel
theorem dL_count_13 : decode cL_count 13 = .ok (.iconst 1, 1) := by decide +kernel
theorem dL_count_14 : decode cL_count 14 = .ok (.ireturn, 1) := by decide +kernel
theorem dL_count_15 : decode cL_count 15 = .ok (.iconst 0, 1) := by decide +kernel
theorem dL_count_16 : decode cL_count 16 = .ok (.ireturn, 1) := by decide +kernel
set_option maxRecDepth 20000 in
theorem ggL_law_L_cell : GoodIn wsL_law wsL_cell := goodIn_r _ [11] (by decide +kernel) (by decide +kernel)
set_option maxRecDepth 20000 in
theorem gL_law_L_cell : GoodIn wsL_law (va_wsS RL 73 yL_cell wsL_cell) := goodIn_app (goodIn_of _ (by decide +kernel)) ggL_law_L_cell
set_option maxRecDepth 20000 in
theorem ggL_law_X4_init : GoodIn wsL_law wsX4_init := goodIn_r _ [14, 15, 16, 17, 18, 19, 20, 21, 22, 23, 24, 25, 6, 26, 27, 28, 29, 30, 31, 32, 33, 34, 35, 36, 37, 38, 39, 40, 41, 42, 43, 44, 45, 46, 47, 48, 49, 50, 51, 52, 53, 54, 55, 56, 57, 58, 59, 60, 61, 62, 63, 64, 65, 66, 67, 68, 69, 70, 71, 72, 73, 74, 75, 76, 77, 78, 79, 80, 81, 82, 83, 650, 651, 652, 653, 654, 655, 656, 657, 658, 659, 660, 661, 662, 663, 664, 665, 666, 667, 668, 700, 701, 702, 703, 704, 705, 706, 707, 708, 709, 710, 711, 712, 713, 714, 715, 716, 717, 718, 719, 720, 721, 722, 723, 724, 725, 726] (by decide +kernel) (by decide +kernel)
set_option maxRecDepth 20000 in
theorem gL_law_X4_init : GoodIn wsL_law (wsX4_init) := ggL_law_X4_init
set_option maxRecDepth 20000 in
theorem ggL_law_X5_init : GoodIn wsL_law wsX5_init := goodIn_r _ [86, 87, 16, 17, 6, 88, 33, 89, 90, 91, 92, 93, 94, 95, 96, 97, 98, 99, 100, 101, 102, 103, 104, 105, 106, 107, 108, 109, 110, 111, 669, 670, 671, 672, 673, 674, 675, 676, 677, 678, 679, 680, 681, 682, 683, 684, 685, 686, 687, 688, 689, 690, 691, 692, 693, 694, 695, 696, 697, 698, 699] (by decide +kernel) (by decide +kernel)
set_option maxRecDepth 20000 in
theorem gL_law_X5_init : GoodIn wsL_law (wsX5_init) := ggL_law_X5_init
set_option maxRecDepth 20000 in
theorem ggL_law_L_net : GoodIn wsL_law wsL_net := goodIn_ca (goodIn_r _ [114, 115, 116, 117, 118, 2, 119, 120, 121, 122, 650, 651, 652, 653, 654, 655, 656, 657, 658, 659, 660, 661, 662, 663, 664, 665, 666, 667, 668] (by decide +kernel) (by decide +kernel)) (goodIn_sub (fun _ h => List.mem_append_left _ (List.mem_append_left _ (List.mem_append_right _ h))) (by decide +kernel))
set_option maxRecDepth 20000 in
theorem gL_law_L_net : GoodIn wsL_law (va_wsS RL 85 yL_net wsL_net) := goodIn_app (goodIn_of _ (by decide +kernel)) ggL_law_L_net
set_option maxRecDepth 20000 in
theorem ggL_law_X5_net : GoodIn wsL_law wsX5_net := goodIn_r _ [126, 127, 128, 669, 670, 671, 672, 673, 674, 675, 676, 677, 678, 679, 680, 681, 682, 683, 684, 685, 686, 687, 688, 689, 690, 691, 692, 693, 694, 695, 696, 697, 698, 699] (by decide +kernel) (by decide +kernel)
set_option maxRecDepth 20000 in
theorem gL_law_X5_net : GoodIn wsL_law (wsV RL 88 RX5 yX5_net wsX5_net) := goodIn_app (goodIn_of _ (by decide +kernel)) ggL_law_X5_net
set_option maxRecDepth 20000 in
theorem ggL_law_X5_thrown : GoodIn wsL_law wsX5_thrown := goodIn_r _ [132, 128, 669, 670, 671, 672, 673, 674, 675, 676, 677, 678, 679, 680, 681, 682, 683, 684, 685, 686, 687, 688, 689, 690, 691, 692, 693, 694, 695, 696, 697, 698, 699] (by decide +kernel) (by decide +kernel)
set_option maxRecDepth 20000 in
theorem gL_law_X5_thrown : GoodIn wsL_law (wsV RL 89 RX5 yX5_thrown wsX5_thrown) := goodIn_app (goodIn_of _ (by decide +kernel)) ggL_law_X5_thrown
set_option maxRecDepth 20000 in
theorem ggL_law_L_shape : GoodIn wsL_law wsL_shape := goodIn_ca (goodIn_ca (goodIn_ca (goodIn_r _ [135, 136, 115, 137, 138, 139, 140, 2, 141, 120, 121, 142, 143, 30, 144, 145, 45, 35, 25, 49, 146, 147, 148, 149, 150, 122, 151, 152, 153, 154, 155, 156, 157, 158, 159, 160, 161, 162, 44, 163, 164, 165, 166, 167, 168, 169, 170, 171, 172, 173, 174, 175, 176, 177, 178, 179, 180, 181, 182, 183, 184, 23, 20, 24, 185, 19, 21, 68, 69, 70, 71, 186, 187, 188, 189, 75, 190, 191, 192, 193, 73, 72, 194, 195, 196, 197, 198, 199, 200, 201, 202, 203, 204, 29, 205, 206, 58, 59, 60, 61, 62, 63, 650, 651, 652, 653, 654, 655, 656, 657, 658, 659, 660, 661, 662, 663, 664, 665, 666, 667, 668, 700, 701, 702, 703, 704, 705, 706, 719, 720, 707, 708, 709, 710, 711, 712, 713, 714, 715, 716, 717, 718] (by decide +kernel) (by decide +kernel)) (goodIn_sub (fun _ h => List.mem_append_left _ (List.mem_append_left _ (List.mem_append_right _ h))) (by decide +kernel))) (goodIn_sub (fun _ h => List.mem_append_left _ (List.mem_append_right _ h)) (by decide +kernel))) (goodIn_sub (fun _ h => List.mem_append_right _ h) (by decide +kernel))
set_option maxRecDepth 20000 in
theorem gL_law_L_shape : GoodIn wsL_law (va_wsS RL 94 yL_shape wsL_shape) := goodIn_app (goodIn_of _ (by decide +kernel)) ggL_law_L_shape
set_option maxRecDepth 20000 in
theorem ggL_law_X5_shape : GoodIn wsL_law wsX5_shape := goodIn_r _ [210, 211, 128, 89, 90, 91, 212, 213, 214, 5, 215, 127, 216, 217, 218, 219, 111, 220, 221, 222, 223, 224, 225, 226, 227, 109, 228, 229, 230, 231, 232, 233, 234, 235, 236, 237, 238, 239, 240, 241, 242, 243, 244, 669, 670, 671, 672, 673, 674, 675, 676, 677, 678, 679, 680, 681, 682, 683, 684, 685, 686, 687, 688, 689, 690, 691, 692, 693, 694, 695, 696, 697, 698, 699] (by decide +kernel) (by decide +kernel)
set_option maxRecDepth 20000 in
theorem gL_law_X5_shape : GoodIn wsL_law (wsV RL 97 RX5 yX5_shape wsX5_shape) := goodIn_app (goodIn_of _ (by decide +kernel)) ggL_law_X5_shape
set_option maxRecDepth 20000 in
theorem ggL_law_L_gate : GoodIn wsL_law wsL_gate := goodIn_ca (goodIn_ca (goodIn_r _ [247, 136, 137, 248, 249, 250, 2, 251, 142, 143, 26, 252, 147, 148, 149, 150, 122, 151, 152, 153, 154, 155, 253, 254, 255, 256, 257, 258, 259, 650, 651, 652, 653, 654, 655, 656, 657, 658, 659, 660, 661, 662, 663, 664, 665, 666, 667, 668] (by decide +kernel) (by decide +kernel)) (goodIn_sub (fun _ h => List.mem_append_left _ (List.mem_append_right _ h)) (by decide +kernel))) (goodIn_sub (fun _ h => List.mem_append_right _ h) (by decide +kernel))
set_option maxRecDepth 20000 in
theorem gL_law_L_gate : GoodIn wsL_law (va_wsS RL 98 yL_gate wsL_gate) := goodIn_app (goodIn_of _ (by decide +kernel)) ggL_law_L_gate
set_option maxRecDepth 20000 in
theorem ggL_law_X5_gate : GoodIn wsL_law wsX5_gate := goodIn_r _ [263, 264, 88, 265, 128, 212, 213, 214, 5, 215, 127, 669, 670, 671, 672, 673, 674, 675, 676, 677, 678, 679, 680, 681, 682, 683, 684, 685, 686, 687, 688, 689, 690, 691, 692, 693, 694, 695, 696, 697, 698, 699] (by decide +kernel) (by decide +kernel)
set_option maxRecDepth 20000 in
theorem gL_law_X5_gate : GoodIn wsL_law (wsV RL 101 RX5 yX5_gate wsX5_gate) := goodIn_app (goodIn_of _ (by decide +kernel)) ggL_law_X5_gate
set_option maxRecDepth 20000 in
theorem ggL_law_L_diode : GoodIn wsL_law wsL_diode := goodIn_ca (goodIn_ca (goodIn_ca (goodIn_r _ [268, 136, 115, 137, 269, 270, 271, 2, 272, 120, 121, 273, 25, 36, 147, 148, 149, 150, 122, 151, 152, 153, 154, 155, 156, 157, 158, 159, 253, 254, 255, 256, 257, 258, 259, 142, 143, 650, 651, 652, 653, 654, 655, 656, 657, 658, 659, 660, 661, 662, 663, 664, 665, 666, 667, 668] (by decide +kernel) (by decide +kernel)) (goodIn_sub (fun _ h => List.mem_append_left _ (List.mem_append_left _ (List.mem_append_right _ h))) (by decide +kernel))) (goodIn_sub (fun _ h => List.mem_append_right _ h) (by decide +kernel))) (goodIn_sub (fun _ h => List.mem_append_left _ (List.mem_append_right _ h)) (by decide +kernel))
set_option maxRecDepth 20000 in
theorem gL_law_L_diode : GoodIn wsL_law (va_wsS RL 102 yL_diode wsL_diode) := goodIn_app (goodIn_of _ (by decide +kernel)) ggL_law_L_diode
set_option maxRecDepth 20000 in
theorem ggL_law_X5_diode : GoodIn wsL_law wsX5_diode := goodIn_r _ [277, 278, 264, 128, 92, 93, 279, 95, 96, 94, 212, 213, 214, 5, 215, 127, 216, 217, 218, 219, 111, 669, 670, 671, 672, 673, 674, 675, 676, 677, 678, 679, 680, 681, 682, 683, 684, 685, 686, 687, 688, 689, 690, 691, 692, 693, 694, 695, 696, 697, 698, 699] (by decide +kernel) (by decide +kernel)
set_option maxRecDepth 20000 in
theorem gL_law_X5_diode : GoodIn wsL_law (wsV RL 105 RX5 yX5_diode wsX5_diode) := goodIn_app (goodIn_of _ (by decide +kernel)) ggL_law_X5_diode
set_option maxRecDepth 20000 in
theorem ggL_law_L_ratio : GoodIn wsL_law wsL_ratio := goodIn_ca (goodIn_r _ [282, 136, 283, 284, 285, 2, 286, 26, 35, 147, 148, 149, 150, 122, 151, 152, 153, 154, 155, 156, 157, 158, 159, 25, 287, 288, 289, 290, 291, 292, 293, 294, 295, 36, 296, 297, 298, 650, 651, 652, 653, 654, 655, 656, 657, 658, 659, 660, 661, 662, 663, 664, 665, 666, 667, 668] (by decide +kernel) (by decide +kernel)) (goodIn_sub (fun _ h => List.mem_append_right _ h) (by decide +kernel))
set_option maxRecDepth 20000 in
theorem gL_law_L_ratio : GoodIn wsL_law (va_wsS RL 106 yL_ratio wsL_ratio) := goodIn_app (goodIn_of _ (by decide +kernel)) ggL_law_L_ratio
set_option maxRecDepth 20000 in
theorem ggL_law_X5_ratio : GoodIn wsL_law wsX5_ratio := goodIn_r _ [302, 128, 88, 212, 213, 214, 5, 215, 127, 216, 217, 218, 219, 111, 303, 304, 305, 306, 224, 225, 226, 227, 211, 89, 90, 109, 91, 228, 229, 230, 231, 232, 233, 234, 235, 236, 237, 238, 239, 240, 241, 242, 243, 244, 307, 308, 309, 310, 278, 92, 93, 311, 94, 279, 95, 96, 312, 313, 314, 315, 316, 317, 318, 669, 670, 671, 672, 673, 674, 675, 676, 677, 678, 679, 680, 681, 682, 683, 684, 685, 686, 687, 688, 689, 690, 691, 692, 693, 694, 695, 696, 697, 698, 699] (by decide +kernel) (by decide +kernel)
set_option maxRecDepth 20000 in
theorem gL_law_X5_ratio : GoodIn wsL_law (wsV RL 109 RX5 yX5_ratio wsX5_ratio) := goodIn_app (goodIn_of _ (by decide +kernel)) ggL_law_X5_ratio
set_option maxRecDepth 20000 in
theorem ggL_law_L_limit : GoodIn wsL_law wsL_limit := goodIn_ca (goodIn_ca (goodIn_r _ [321, 136, 137, 322, 323, 324, 2, 325, 142, 143, 256, 38, 37, 156, 157, 158, 159, 25, 151, 152, 153, 154, 155, 650, 651, 652, 653, 654, 655, 656, 657, 658, 659, 660, 661, 662, 663, 664, 665, 666, 667, 668] (by decide +kernel) (by decide +kernel)) (goodIn_sub (fun _ h => List.mem_append_left _ (List.mem_append_right _ h)) (by decide +kernel))) (goodIn_sub (fun _ h => List.mem_append_right _ h) (by decide +kernel))
set_option maxRecDepth 20000 in
theorem gL_law_L_limit : GoodIn wsL_law (va_wsS RL 110 yL_limit wsL_limit) := goodIn_app (goodIn_of _ (by decide +kernel)) ggL_law_L_limit
set_option maxRecDepth 20000 in
theorem ggL_law_X5_limit : GoodIn wsL_law wsX5_limit := goodIn_r _ [329, 264, 128, 100, 99, 216, 217, 218, 5, 219, 111, 669, 670, 671, 672, 673, 674, 675, 676, 677, 678, 679, 680, 681, 682, 683, 684, 685, 686, 687, 688, 689, 690, 691, 692, 693, 694, 695, 696, 697, 698, 699] (by decide +kernel) (by decide +kernel)
set_option maxRecDepth 20000 in
theorem gL_law_X5_limit : GoodIn wsL_law (wsV RL 113 RX5 yX5_limit wsX5_limit) := goodIn_app (goodIn_of _ (by decide +kernel)) ggL_law_X5_limit
set_option maxRecDepth 20000 in
theorem ggL_law_X4_repair : GoodIn wsL_law wsX4_repair := goodIn_r _ [333, 49, 146, 122, 334, 335, 336, 2, 337, 30, 31, 32, 338, 339, 340, 48, 341, 79, 342, 343, 344, 345, 346, 347, 348, 349, 350, 351, 352, 353, 354, 355, 356, 357, 358, 359, 23, 20, 24, 360, 361, 362, 363, 19, 21, 364, 365, 366, 367, 368, 369, 370, 371, 25, 372, 373, 374, 375, 26, 38, 35, 37, 287, 288, 289, 290, 291, 292, 293, 294, 295, 36, 376, 377, 378, 379, 144, 34, 380, 381, 382, 383, 384, 385, 386, 387, 388, 389, 390, 391, 392, 393, 394, 395, 396, 397, 398, 399, 400, 401, 402, 202, 203, 204, 29, 205, 206, 58, 59, 60, 61, 62, 63, 403, 404, 405, 406, 407, 650, 651, 652, 653, 654, 655, 656, 657, 658, 659, 660, 661, 662, 663, 664, 665, 666, 667, 668, 719, 720, 700, 701, 702, 703, 704, 705, 706] (by decide +kernel) (by decide +kernel)
set_option maxRecDepth 20000 in
theorem gL_law_X4_repair : GoodIn wsL_law (wsV RL 114 RX4 yX4_repair wsX4_repair) := goodIn_app (goodIn_of _ (by decide +kernel)) ggL_law_X4_repair
set_option maxRecDepth 20000 in
theorem ggL_law_X5_repair : GoodIn wsL_law wsX5_repair := goodIn_r _ [411, 128, 127, 111, 88, 224, 225, 226, 5, 227, 211, 89, 90, 109, 91, 228, 229, 230, 231, 232, 233, 234, 235, 236, 237, 238, 239, 240, 241, 242, 243, 244, 412, 413, 414, 415, 100, 99, 307, 308, 309, 310, 278, 92, 93, 311, 94, 279, 95, 96, 312, 416, 417, 418, 419, 110, 97, 98, 420, 421, 422, 423, 424, 103, 104, 105, 106, 425, 426, 427, 428, 669, 670, 671, 672, 673, 674, 675, 676, 677, 678, 679, 680, 681, 682, 683, 684, 685, 686, 687, 688, 689, 690, 691, 692, 693, 694, 695, 696, 697, 698, 699] (by decide +kernel) (by decide +kernel)
set_option maxRecDepth 20000 in
theorem gL_law_X5_repair : GoodIn wsL_law (wsV RL 117 RX5 yX5_repair wsX5_repair) := goodIn_app (goodIn_of _ (by decide +kernel)) ggL_law_X5_repair
set_option maxRecDepth 20000 in
theorem ggL_law_L_repaired : GoodIn wsL_law wsL_repaired := goodIn_ca (goodIn_r _ [431, 136, 432, 433, 434, 2, 435, 31, 144, 385, 34, 386, 387, 151, 152, 153, 154, 155, 650, 651, 652, 653, 654, 655, 656, 657, 658, 659, 660, 661, 662, 663, 664, 665, 666, 667, 668, 700, 701, 702, 703, 704, 705, 706] (by decide +kernel) (by decide +kernel)) (goodIn_sub (fun _ h => List.mem_append_right _ h) (by decide +kernel))
set_option maxRecDepth 20000 in
theorem gL_law_L_repaired : GoodIn wsL_law (va_wsS RL 118 yL_repaired wsL_repaired) := goodIn_app (goodIn_of _ (by decide +kernel)) ggL_law_L_repaired
set_option maxRecDepth 20000 in
theorem ggL_law_X5_repaired : GoodIn wsL_law wsX5_repaired := goodIn_r _ [439, 279, 128, 95, 96, 97, 98, 669, 670, 671, 672, 673, 674, 675, 676, 677, 678, 679, 680, 681, 682, 683, 684, 685, 686, 687, 688, 689, 690, 691, 692, 693, 694, 695, 696, 697, 698, 699] (by decide +kernel) (by decide +kernel)
set_option maxRecDepth 20000 in
theorem gL_law_X5_repaired : GoodIn wsL_law (wsV RL 121 RX5 yX5_repaired wsX5_repaired) := goodIn_app (goodIn_of _ (by decide +kernel)) ggL_law_X5_repaired
set_option maxRecDepth 20000 in
theorem ggL_law_L_density : GoodIn wsL_law wsL_density := goodIn_ca (goodIn_ca (goodIn_r _ [442, 136, 137, 443, 444, 445, 2, 446, 447, 448, 156, 157, 158, 159, 25, 151, 152, 153, 154, 155, 257, 258, 259, 142, 143, 449, 450, 451, 452, 45, 30, 31, 32, 160, 161, 162, 44, 163, 164, 165, 166, 167, 168, 169, 170, 171, 172, 173, 174, 175, 176, 177, 178, 179, 180, 181, 182, 183, 184, 23, 20, 24, 185, 19, 21, 68, 69, 70, 71, 186, 187, 188, 189, 75, 190, 191, 192, 193, 73, 72, 194, 195, 196, 197, 198, 199, 200, 201, 296, 297, 298, 650, 651, 652, 653, 654, 655, 656, 657, 658, 659, 660, 661, 662, 663, 664, 665, 666, 667, 668, 707, 708, 709, 710, 711, 712, 713, 714, 715, 716, 717, 718, 700, 701, 702, 703, 704, 705, 706] (by decide +kernel) (by decide +kernel)) (goodIn_sub (fun _ h => List.mem_append_right _ h) (by decide +kernel))) (goodIn_sub (fun _ h => List.mem_append_left _ (List.mem_append_right _ h)) (by decide +kernel))
set_option maxRecDepth 20000 in
theorem gL_law_L_density : GoodIn wsL_law (va_wsS RL 122 yL_density wsL_density) := goodIn_app (goodIn_of _ (by decide +kernel)) ggL_law_L_density
set_option maxRecDepth 20000 in
theorem ggL_law_X5_density : GoodIn wsL_law wsX5_density := goodIn_r _ [456, 457, 128, 458, 216, 217, 218, 5, 219, 111, 459, 460, 461, 462, 109, 211, 90, 91, 279, 97, 98, 424, 103, 104, 105, 106, 228, 229, 230, 231, 232, 233, 234, 235, 236, 237, 238, 239, 240, 241, 242, 243, 244, 313, 314, 315, 316, 317, 318, 669, 670, 671, 672, 673, 674, 675, 676, 677, 678, 679, 680, 681, 682, 683, 684, 685, 686, 687, 688, 689, 690, 691, 692, 693, 694, 695, 696, 697, 698, 699] (by decide +kernel) (by decide +kernel)
set_option maxRecDepth 20000 in
theorem gL_law_X5_density : GoodIn wsL_law (wsV RL 125 RX5 yX5_density wsX5_density) := goodIn_app (goodIn_of _ (by decide +kernel)) ggL_law_X5_density
set_option maxRecDepth 20000 in
theorem ggL_law_L_bounds : GoodIn wsL_law wsL_bounds := goodIn_ca (goodIn_ca (goodIn_r _ [465, 136, 137, 466, 467, 468, 2, 469, 470, 39, 40, 156, 157, 158, 159, 25, 151, 152, 153, 154, 155, 257, 258, 259, 142, 143, 650, 651, 652, 653, 654, 655, 656, 657, 658, 659, 660, 661, 662, 663, 664, 665, 666, 667, 668] (by decide +kernel) (by decide +kernel)) (goodIn_sub (fun _ h => List.mem_append_right _ h) (by decide +kernel))) (goodIn_sub (fun _ h => List.mem_append_left _ (List.mem_append_right _ h)) (by decide +kernel))
set_option maxRecDepth 20000 in
theorem gL_law_L_bounds : GoodIn wsL_law (va_wsS RL 126 yL_bounds wsL_bounds) := goodIn_app (goodIn_of _ (by decide +kernel)) ggL_law_L_bounds
set_option maxRecDepth 20000 in
theorem ggL_law_X5_bounds : GoodIn wsL_law wsX5_bounds := goodIn_r _ [474, 128, 101, 102, 216, 217, 218, 5, 219, 111, 669, 670, 671, 672, 673, 674, 675, 676, 677, 678, 679, 680, 681, 682, 683, 684, 685, 686, 687, 688, 689, 690, 691, 692, 693, 694, 695, 696, 697, 698, 699] (by decide +kernel) (by decide +kernel)
set_option maxRecDepth 20000 in
theorem gL_law_X5_bounds : GoodIn wsL_law (wsV RL 128 RX5 yX5_bounds wsX5_bounds) := goodIn_app (goodIn_of _ (by decide +kernel)) ggL_law_X5_bounds
set_option maxRecDepth 20000 in
theorem ggL_law_L_fill : GoodIn wsL_law wsL_fill := goodIn_ca (goodIn_ca (goodIn_r _ [477, 136, 137, 478, 479, 480, 2, 481, 482, 470, 32, 483, 39, 40, 41, 49, 146, 156, 157, 158, 159, 25, 151, 152, 153, 154, 155, 257, 258, 259, 142, 143, 484, 485, 486, 29, 487, 206, 59, 58, 60, 61, 62, 63, 488, 203, 204, 205, 489, 490, 491, 492, 53, 30, 31, 493, 144, 494, 449, 450, 451, 452, 45, 160, 161, 162, 44, 163, 164, 165, 166, 167, 168, 169, 170, 171, 172, 173, 174, 175, 176, 177, 178, 179, 180, 181, 182, 183, 184, 23, 20, 24, 185, 19, 21, 68, 69, 70, 71, 186, 187, 188, 189, 75, 190, 191, 192, 193, 73, 72, 194, 195, 196, 197, 198, 199, 200, 201, 495, 496, 497, 498, 499, 500, 501, 52, 502, 503, 504, 505, 506, 507, 508, 509, 83, 510, 511, 512, 513, 514, 515, 516, 517, 518, 519, 520, 521, 522, 523, 524, 525, 526, 527, 528, 529, 530, 531, 532, 533, 534, 535, 536, 202, 537, 538, 539, 540, 650, 651, 652, 653, 654, 655, 656, 657, 658, 659, 660, 661, 662, 663, 664, 665, 666, 667, 668, 719, 720, 700, 701, 702, 703, 704, 705, 706, 721, 722, 723, 724, 725, 726, 707, 708, 709, 710, 711, 712, 713, 714, 715, 716, 717, 718] (by decide +kernel) (by decide +kernel)) (goodIn_sub (fun _ h => List.mem_append_right _ h) (by decide +kernel))) (goodIn_sub (fun _ h => List.mem_append_left _ (List.mem_append_right _ h)) (by decide +kernel))
set_option maxRecDepth 20000 in
theorem gL_law_L_fill : GoodIn wsL_law (va_wsS RL 129 yL_fill wsL_fill) := goodIn_app (goodIn_of _ (by decide +kernel)) ggL_law_L_fill
set_option maxRecDepth 20000 in
theorem ggL_law_X5_fill : GoodIn wsL_law wsX5_fill := goodIn_r _ [544, 545, 546, 128, 547, 548, 101, 102, 108, 216, 217, 218, 5, 219, 111, 549, 550, 551, 552, 424, 103, 104, 105, 106, 107, 459, 460, 461, 462, 109, 211, 90, 91, 279, 97, 98, 228, 229, 230, 231, 232, 233, 234, 235, 236, 237, 553, 554, 555, 556, 557, 558, 559, 560, 238, 239, 240, 241, 242, 243, 244, 561, 562, 563, 564, 565, 566, 567, 568, 569, 570, 571, 572, 573, 574, 575, 669, 670, 671, 672, 673, 674, 675, 676, 677, 678, 679, 680, 681, 682, 683, 684, 685, 686, 687, 688, 689, 690, 691, 692, 693, 694, 695, 696, 697, 698, 699] (by decide +kernel) (by decide +kernel)
set_option maxRecDepth 20000 in
theorem gL_law_X5_fill : GoodIn wsL_law (wsV RL 132 RX5 yX5_fill wsX5_fill) := goodIn_app (goodIn_of _ (by decide +kernel)) ggL_law_X5_fill
set_option maxRecDepth 20000 in
theorem ggL_law_L_piece : GoodIn wsL_law wsL_piece := goodIn_ca (goodIn_r _ [578, 136, 579, 580, 581, 2, 582, 32, 583, 386, 387, 156, 157, 158, 159, 25, 151, 152, 153, 154, 155, 537, 538, 539, 29, 540, 206, 59, 584, 585, 586, 587, 650, 651, 652, 653, 654, 655, 656, 657, 658, 659, 660, 661, 662, 663, 664, 665, 666, 667, 668, 700, 701, 702, 703, 704, 705, 706] (by decide +kernel) (by decide +kernel)) (goodIn_sub (fun _ h => List.mem_append_right _ h) (by decide +kernel))
set_option maxRecDepth 20000 in
theorem gL_law_L_piece : GoodIn wsL_law (va_wsS RL 133 yL_piece wsL_piece) := goodIn_app (goodIn_of _ (by decide +kernel)) ggL_law_L_piece
set_option maxRecDepth 20000 in
theorem ggL_law_X5_piece : GoodIn wsL_law wsX5_piece := goodIn_r _ [591, 128, 424, 103, 104, 105, 216, 217, 218, 5, 219, 111, 669, 670, 671, 672, 673, 674, 675, 676, 677, 678, 679, 680, 681, 682, 683, 684, 685, 686, 687, 688, 689, 690, 691, 692, 693, 694, 695, 696, 697, 698, 699] (by decide +kernel) (by decide +kernel)
set_option maxRecDepth 20000 in
theorem gL_law_X5_piece : GoodIn wsL_law (wsV RL 135 RX5 yX5_piece wsX5_piece) := goodIn_app (goodIn_of _ (by decide +kernel)) ggL_law_X5_piece
set_option maxRecDepth 20000 in
theorem ggL_law_L_told : GoodIn wsL_law wsL_told := goodIn_ca (goodIn_r _ [594, 136, 595, 596, 597, 2, 598, 154, 155, 483, 41, 650, 651, 652, 653, 654, 655, 656, 657, 658, 659, 660, 661, 662, 663, 664, 665, 666, 667, 668] (by decide +kernel) (by decide +kernel)) (goodIn_sub (fun _ h => List.mem_append_right _ h) (by decide +kernel))
set_option maxRecDepth 20000 in
theorem gL_law_L_told : GoodIn wsL_law (va_wsS RL 136 yL_told wsL_told) := goodIn_app (goodIn_of _ (by decide +kernel)) ggL_law_L_told
set_option maxRecDepth 20000 in
theorem ggL_law_X5_told : GoodIn wsL_law wsX5_told := goodIn_r _ [602, 128, 547, 108, 669, 670, 671, 672, 673, 674, 675, 676, 677, 678, 679, 680, 681, 682, 683, 684, 685, 686, 687, 688, 689, 690, 691, 692, 693, 694, 695, 696, 697, 698, 699] (by decide +kernel) (by decide +kernel)
set_option maxRecDepth 20000 in
theorem gL_law_X5_told : GoodIn wsL_law (wsV RL 139 RX5 yX5_told wsX5_told) := goodIn_app (goodIn_of _ (by decide +kernel)) ggL_law_X5_told
set_option maxRecDepth 20000 in
theorem ggL_law_L_slot : GoodIn wsL_law wsL_slot := goodIn_ca (goodIn_ca (goodIn_r _ [605, 136, 137, 606, 607, 608, 2, 609, 498, 30, 144, 610, 156, 157, 158, 159, 25, 151, 152, 153, 154, 155, 257, 258, 259, 142, 143, 611, 612, 613, 614, 388, 386, 389, 387, 18, 19, 20, 21, 650, 651, 652, 653, 654, 655, 656, 657, 658, 659, 660, 661, 662, 663, 664, 665, 666, 667, 668, 700, 701, 702, 703, 704, 705, 706] (by decide +kernel) (by decide +kernel)) (goodIn_sub (fun _ h => List.mem_append_right _ h) (by decide +kernel))) (goodIn_sub (fun _ h => List.mem_append_left _ (List.mem_append_right _ h)) (by decide +kernel))
set_option maxRecDepth 20000 in
theorem gL_law_L_slot : GoodIn wsL_law (va_wsS RL 140 yL_slot wsL_slot) := goodIn_app (goodIn_of _ (by decide +kernel)) ggL_law_L_slot
set_option maxRecDepth 20000 in
theorem ggL_law_X5_slot : GoodIn wsL_law wsX5_slot := goodIn_r _ [618, 619, 128, 211, 90, 216, 217, 218, 5, 219, 111, 620, 621, 622, 623, 91, 669, 670, 671, 672, 673, 674, 675, 676, 677, 678, 679, 680, 681, 682, 683, 684, 685, 686, 687, 688, 689, 690, 691, 692, 693, 694, 695, 696, 697, 698, 699] (by decide +kernel) (by decide +kernel)
set_option maxRecDepth 20000 in
theorem gL_law_X5_slot : GoodIn wsL_law (wsV RL 142 RX5 yX5_slot wsX5_slot) := goodIn_app (goodIn_of _ (by decide +kernel)) ggL_law_X5_slot
set_option maxRecDepth 20000 in
theorem ggL_law_L_slotAt : GoodIn wsL_law wsL_slotAt := goodIn_ca (goodIn_ca (goodIn_r _ [626, 136, 137, 627, 628, 629, 2, 630, 498, 30, 144, 610, 156, 157, 158, 159, 25, 151, 152, 153, 154, 155, 257, 258, 259, 142, 143, 611, 612, 613, 614, 388, 386, 389, 387, 18, 19, 20, 21, 631, 632, 633, 634, 650, 651, 652, 653, 654, 655, 656, 657, 658, 659, 660, 661, 662, 663, 664, 665, 666, 667, 668, 700, 701, 702, 703, 704, 705, 706] (by decide +kernel) (by decide +kernel)) (goodIn_sub (fun _ h => List.mem_append_right _ h) (by decide +kernel))) (goodIn_sub (fun _ h => List.mem_append_left _ (List.mem_append_right _ h)) (by decide +kernel))
set_option maxRecDepth 20000 in
theorem gL_law_L_slotAt : GoodIn wsL_law (va_wsS RL 143 yL_slotAt wsL_slotAt) := goodIn_app (goodIn_of _ (by decide +kernel)) ggL_law_L_slotAt
set_option maxRecDepth 20000 in
theorem ggL_law_X5_slotAt : GoodIn wsL_law wsX5_slotAt := goodIn_r _ [638, 619, 128, 211, 90, 91, 216, 217, 218, 5, 219, 111, 620, 621, 622, 623, 669, 670, 671, 672, 673, 674, 675, 676, 677, 678, 679, 680, 681, 682, 683, 684, 685, 686, 687, 688, 689, 690, 691, 692, 693, 694, 695, 696, 697, 698, 699] (by decide +kernel) (by decide +kernel)
set_option maxRecDepth 20000 in
theorem gL_law_X5_slotAt : GoodIn wsL_law (wsV RL 146 RX5 yX5_slotAt wsX5_slotAt) := goodIn_app (goodIn_of _ (by decide +kernel)) ggL_law_X5_slotAt
set_option maxRecDepth 20000 in
theorem ggL_law_L_count : GoodIn wsL_law wsL_count := goodIn_ca (goodIn_r _ [641, 136, 642, 643, 644, 2, 645, 122, 30, 144, 273, 31, 32, 151, 152, 153, 154, 155, 650, 651, 652, 653, 654, 655, 656, 657, 658, 659, 660, 661, 662, 663, 664, 665, 666, 667, 668, 700, 701, 702, 703, 704, 705, 706] (by decide +kernel) (by decide +kernel)) (goodIn_sub (fun _ h => List.mem_append_right _ h) (by decide +kernel))
set_option maxRecDepth 20000 in
theorem gL_law_L_count : GoodIn wsL_law (va_wsS RL 147 yL_count wsL_count) := goodIn_app (goodIn_of _ (by decide +kernel)) ggL_law_L_count
set_option maxRecDepth 20000 in
theorem ggL_law_X5_count : GoodIn wsL_law wsX5_count := goodIn_r _ [649, 128, 127, 211, 278, 279, 424, 669, 670, 671, 672, 673, 674, 675, 676, 677, 678, 679, 680, 681, 682, 683, 684, 685, 686, 687, 688, 689, 690, 691, 692, 693, 694, 695, 696, 697, 698, 699] (by decide +kernel) (by decide +kernel)
set_option maxRecDepth 20000 in
theorem gL_law_X5_count : GoodIn wsL_law (wsV RL 149 RX5 yX5_count wsX5_count) := goodIn_app (goodIn_of _ (by decide +kernel)) ggL_law_X5_count
theorem dL_law_0 : decode cL_law 0 = .ok (.new 8, 3) := by decide +kernel
theorem dL_law_3 : decode cL_law 3 = .ok (.dup, 1) := by decide +kernel
theorem dL_law_4 : decode cL_law 4 = .ok (.aload_n 0, 1) := by decide +kernel
theorem dL_law_5 : decode cL_law 5 = .ok (.iconst 0, 1) := by decide +kernel
theorem dL_law_6 : decode cL_law 6 = .ok (.invokestatic 73, 3) := by decide +kernel
theorem dL_law_9 : decode cL_law 9 = .ok (.invokespecial 79, 3) := by decide +kernel
theorem dL_law_12 : decode cL_law 12 = .ok (.astore_n 1, 1) := by decide +kernel
theorem dL_law_13 : decode cL_law 13 = .ok (.new 82, 3) := by decide +kernel
theorem dL_law_16 : decode cL_law 16 = .ok (.dup, 1) := by decide +kernel
theorem dL_law_17 : decode cL_law 17 = .ok (.aload_n 0, 1) := by decide +kernel
theorem dL_law_18 : decode cL_law 18 = .ok (.iconst 0, 1) := by decide +kernel
theorem dL_law_19 : decode cL_law 19 = .ok (.invokestatic 73, 3) := by decide +kernel
theorem dL_law_22 : decode cL_law 22 = .ok (.invokespecial 84, 3) := by decide +kernel
theorem dL_law_25 : decode cL_law 25 = .ok (.astore_n 2, 1) := by decide +kernel
theorem dL_law_26 : decode cL_law 26 = .ok (.iconst 1, 1) := by decide +kernel
theorem dL_law_27 : decode cL_law 27 = .ok (.newarray .long, 2) := by decide +kernel
theorem dL_law_29 : decode cL_law 29 = .ok (.astore_n 3, 1) := by decide +kernel
theorem dL_law_30 : decode cL_law 30 = .ok (.iconst 1, 1) := by decide +kernel
theorem dL_law_31 : decode cL_law 31 = .ok (.istore 4, 2) := by decide +kernel
theorem dL_law_33 : decode cL_law 33 = .ok (.iload 4, 2) := by decide +kernel
theorem dL_law_35 : decode cL_law 35 = .ok (.aload_n 0, 1) := by decide +kernel
theorem dL_law_36 : decode cL_law 36 = .ok (.arraylength, 1) := by decide +kernel
theorem dL_law_37 : decode cL_law 37 = .ok (.bipush 11, 2) := by decide +kernel
theorem dL_law_39 : decode cL_law 39 = .ok (.isub, 1) := by decide +kernel
theorem dL_law_40 : decode cL_law 40 = .ok (.if_icmp .gt 1779, 3) := by decide +kernel
theorem dL_law_43 : decode cL_law 43 = .ok (.aload_n 0, 1) := by decide +kernel
theorem dL_law_44 : decode cL_law 44 = .ok (.iload 4, 2) := by decide +kernel
theorem dL_law_46 : decode cL_law 46 = .ok (.iaload, 1) := by decide +kernel
theorem dL_law_47 : decode cL_law 47 = .ok (.bipush 15, 2) := by decide +kernel
theorem dL_law_49 : decode cL_law 49 = .ok (.iand, 1) := by decide +kernel
theorem dL_law_50 : decode cL_law 50 = .ok (.tableswitch 1763 0 15 #[78, 122, 383, 482, 601, 680, 831, 844, 912, 1069, 1156, 1348, 1427, 1483, 1583, 1707], 78) := by decide +kernel
theorem dL_law_128 : decode cL_law 128 = .ok (.aload_n 1, 1) := by decide +kernel
theorem dL_law_129 : decode cL_law 129 = .ok (.aload_n 3, 1) := by decide +kernel
theorem dL_law_130 : decode cL_law 130 = .ok (.invokestatic 85, 3) := by decide +kernel
theorem dL_law_133 : decode cL_law 133 = .ok (.istore 5, 2) := by decide +kernel
theorem dL_law_135 : decode cL_law 135 = .ok (.aload_n 2, 1) := by decide +kernel
theorem dL_law_136 : decode cL_law 136 = .ok (.invokevirtual 88, 3) := by decide +kernel
theorem dL_law_139 : decode cL_law 139 = .ok (.istore 6, 2) := by decide +kernel
theorem dL_law_141 : decode cL_law 141 = .ok (.aload_n 2, 1) := by decide +kernel
theorem dL_law_142 : decode cL_law 142 = .ok (.invokevirtual 89, 3) := by decide +kernel
theorem dL_law_145 : decode cL_law 145 = .ok (.iload 5, 2) := by decide +kernel
theorem dL_law_147 : decode cL_law 147 = .ok (.if_icmp .eq 5, 3) := by decide +kernel
theorem dL_law_150 : decode cL_law 150 = .ok (.iconst 0, 1) := by decide +kernel
theorem dL_law_151 : decode cL_law 151 = .ok (.ireturn, 1) := by decide +kernel
theorem dL_law_152 : decode cL_law 152 = .ok (.iload 5, 2) := by decide +kernel
theorem dL_law_154 : decode cL_law 154 = .ok (.ifCond .ne 15, 3) := by decide +kernel
