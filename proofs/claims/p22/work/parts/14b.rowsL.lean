theorem dL_below_0 : decode cL_below 0 = .ok (.iload_n 0, 1) := by decide +kernel
theorem dL_below_1 : decode cL_below 1 = .ok (.ldc 7, 2) := by decide +kernel
theorem dL_below_3 : decode cL_below 3 = .ok (.iand, 1) := by decide +kernel
theorem dL_below_4 : decode cL_below 4 = .ok (.iload_n 1, 1) := by decide +kernel
theorem dL_below_5 : decode cL_below 5 = .ok (.irem, 1) := by decide +kernel
theorem dL_below_6 : decode cL_below 6 = .ok (.ireturn, 1) := by decide +kernel
theorem dL_cell_0 : decode cL_cell 0 = .ok (.iload_n 1, 1) := by decide +kernel
theorem dL_cell_1 : decode cL_cell 1 = .ok (.aload_n 0, 1) := by decide +kernel
theorem dL_cell_2 : decode cL_cell 2 = .ok (.arraylength, 1) := by decide +kernel
theorem dL_cell_3 : decode cL_cell 3 = .ok (.if_icmp .ge 9, 3) := by decide +kernel
theorem dL_cell_6 : decode cL_cell 6 = .ok (.aload_n 0, 1) := by decide +kernel
theorem dL_cell_7 : decode cL_cell 7 = .ok (.iload_n 1, 1) := by decide +kernel
theorem dL_cell_8 : decode cL_cell 8 = .ok (.iaload, 1) := by decide +kernel
theorem dL_cell_9 : decode cL_cell 9 = .ok (.goto 9, 3) := by decide +kernel
theorem dL_cell_12 : decode cL_cell 12 = .ok (.ldc 8, 2) := by decide +kernel
theorem dL_cell_14 : decode cL_cell 14 = .ok (.iload_n 1, 1) := by decide +kernel
theorem dL_cell_15 : decode cL_cell 15 = .ok (.iconst 3, 1) := by decide +kernel
theorem dL_cell_16 : decode cL_cell 16 = .ok (.iadd, 1) := by decide +kernel
theorem dL_cell_17 : decode cL_cell 17 = .ok (.imul, 1) := by decide +kernel
theorem dL_cell_18 : decode cL_cell 18 = .ok (.ireturn, 1) := by decide +kernel
set_option maxRecDepth 20000 in
theorem ggL_waterway_X4_init : GoodIn wsL_waterway wsX4_init := goodIn_r _ [6, 7, 8, 9, 10, 11, 12, 13, 14, 15, 16, 17, 18, 19, 20, 21, 22, 23, 24, 25, 26, 27, 28, 29, 30, 31, 32, 33, 34, 35, 36, 37, 38, 39, 40, 41, 42, 43, 44, 45, 46, 47, 48, 49, 50, 51, 52, 53, 54, 55, 56, 103, 104, 105, 106, 107, 108, 109, 101, 102, 110, 111, 112, 113, 114, 115, 116, 117, 118, 119, 120, 121, 122, 123, 124, 125, 126] (by decide +kernel) (by decide +kernel)
set_option maxRecDepth 20000 in
theorem gL_waterway_X4_init : GoodIn wsL_waterway (wsX4_init) := ggL_waterway_X4_init
set_option maxRecDepth 20000 in
theorem ggL_waterway_L_cell : GoodIn wsL_waterway wsL_cell := goodIn_r _ [60, 61] (by decide +kernel) (by decide +kernel)
set_option maxRecDepth 20000 in
theorem gL_waterway_L_cell : GoodIn wsL_waterway (va_wsS RL 12 yL_cell wsL_cell) := goodIn_app (goodIn_of _ (by decide +kernel)) ggL_waterway_L_cell
set_option maxRecDepth 20000 in
theorem ggL_waterway_L_below : GoodIn wsL_waterway wsL_below := goodIn_r _ [64, 65] (by decide +kernel) (by decide +kernel)
set_option maxRecDepth 20000 in
theorem gL_waterway_L_below : GoodIn wsL_waterway (va_wsS RL 18 yL_below wsL_below) := goodIn_app (goodIn_of _ (by decide +kernel)) ggL_waterway_L_below
set_option maxRecDepth 20000 in
theorem ggL_waterway_X4_bed : GoodIn wsL_waterway wsX4_bed := goodIn_ca (goodIn_ca (goodIn_ca (goodIn_r _ [69, 70, 71, 72, 73, 13, 74, 75, 3, 76, 77, 78, 79, 80, 81, 22, 82, 83, 84, 85, 86, 87, 36, 37, 38, 39, 101, 102, 103, 104, 105, 106, 107, 108, 109, 110, 111, 112, 113, 114, 115, 116, 117, 118, 119] (by decide +kernel) (by decide +kernel)) (goodIn_sub (fun _ h => List.mem_cons_of_mem _ (List.mem_append_left _ (List.mem_append_left _ (List.mem_append_right _ h)))) (by decide +kernel))) (goodIn_sub (fun _ h => List.mem_cons_of_mem _ (List.mem_append_left _ (List.mem_append_right _ h))) (by decide +kernel))) (goodIn_sub (fun _ h => List.mem_cons_of_mem _ (List.mem_append_right _ h)) (by decide +kernel))
set_option maxRecDepth 20000 in
theorem gL_waterway_X4_bed : GoodIn wsL_waterway (wsV RL 22 RX4 yX4_bed wsX4_bed) := goodIn_app (goodIn_of _ (by decide +kernel)) ggL_waterway_X4_bed
set_option maxRecDepth 20000 in
theorem ggL_waterway_X4_barge : GoodIn wsL_waterway wsX4_barge := goodIn_ca (goodIn_ca (goodIn_r _ [91, 72, 73, 13, 74, 75, 3, 76, 77, 78, 92, 93, 94, 26, 95, 96, 97, 98, 99, 100, 48, 49, 101, 102, 103, 104, 105, 106, 107, 108, 109, 120, 121, 122, 123, 124, 125] (by decide +kernel) (by decide +kernel)) (goodIn_sub (fun _ h => List.mem_cons_of_mem _ (List.mem_append_left _ (List.mem_append_right _ h))) (by decide +kernel))) (goodIn_sub (fun _ h => List.mem_cons_of_mem _ (List.mem_append_right _ h)) (by decide +kernel))
set_option maxRecDepth 20000 in
theorem gL_waterway_X4_barge : GoodIn wsL_waterway (wsV RL 26 RX4 yX4_barge wsX4_barge) := goodIn_app (goodIn_of _ (by decide +kernel)) ggL_waterway_X4_barge
theorem dL_waterway_0 : decode cL_waterway 0 = .ok (.new 9, 3) := by decide +kernel
theorem dL_waterway_3 : decode cL_waterway 3 = .ok (.dup, 1) := by decide +kernel
theorem dL_waterway_4 : decode cL_waterway 4 = .ok (.invokespecial 11, 3) := by decide +kernel
theorem dL_waterway_7 : decode cL_waterway 7 = .ok (.astore_n 1, 1) := by decide +kernel
theorem dL_waterway_8 : decode cL_waterway 8 = .ok (.iconst 0, 1) := by decide +kernel
theorem dL_waterway_9 : decode cL_waterway 9 = .ok (.istore_n 2, 1) := by decide +kernel
theorem dL_waterway_10 : decode cL_waterway 10 = .ok (.iload_n 2, 1) := by decide +kernel
theorem dL_waterway_11 : decode cL_waterway 11 = .ok (.iconst 4, 1) := by decide +kernel
theorem dL_waterway_12 : decode cL_waterway 12 = .ok (.if_icmp .ge 51, 3) := by decide +kernel
theorem dL_waterway_15 : decode cL_waterway 15 = .ok (.aload_n 1, 1) := by decide +kernel
theorem dL_waterway_16 : decode cL_waterway 16 = .ok (.aload_n 0, 1) := by decide +kernel
theorem dL_waterway_17 : decode cL_waterway 17 = .ok (.iload_n 2, 1) := by decide +kernel
theorem dL_waterway_18 : decode cL_waterway 18 = .ok (.invokestatic 12, 3) := by decide +kernel
theorem dL_waterway_21 : decode cL_waterway 21 = .ok (.bipush 31, 2) := by decide +kernel
theorem dL_waterway_23 : decode cL_waterway 23 = .ok (.invokestatic 18, 3) := by decide +kernel
theorem dL_waterway_26 : decode cL_waterway 26 = .ok (.iconst 1, 1) := by decide +kernel
theorem dL_waterway_27 : decode cL_waterway 27 = .ok (.aload_n 0, 1) := by decide +kernel
theorem dL_waterway_28 : decode cL_waterway 28 = .ok (.iload_n 2, 1) := by decide +kernel
theorem dL_waterway_29 : decode cL_waterway 29 = .ok (.invokestatic 12, 3) := by decide +kernel
theorem dL_waterway_32 : decode cL_waterway 32 = .ok (.iconst 5, 1) := by decide +kernel
theorem dL_waterway_33 : decode cL_waterway 33 = .ok (.ishr, 1) := by decide +kernel
theorem dL_waterway_34 : decode cL_waterway 34 = .ok (.bipush 9, 2) := by decide +kernel
theorem dL_waterway_36 : decode cL_waterway 36 = .ok (.invokestatic 18, 3) := by decide +kernel
theorem dL_waterway_39 : decode cL_waterway 39 = .ok (.iadd, 1) := by decide +kernel
theorem dL_waterway_40 : decode cL_waterway 40 = .ok (.aload_n 0, 1) := by decide +kernel
theorem dL_waterway_41 : decode cL_waterway 41 = .ok (.iload_n 2, 1) := by decide +kernel
theorem dL_waterway_42 : decode cL_waterway 42 = .ok (.invokestatic 12, 3) := by decide +kernel
theorem dL_waterway_45 : decode cL_waterway 45 = .ok (.bipush 9, 2) := by decide +kernel
theorem dL_waterway_47 : decode cL_waterway 47 = .ok (.ishr, 1) := by decide +kernel
theorem dL_waterway_48 : decode cL_waterway 48 = .ok (.bipush 101, 2) := by decide +kernel
theorem dL_waterway_50 : decode cL_waterway 50 = .ok (.invokestatic 18, 3) := by decide +kernel
theorem dL_waterway_53 : decode cL_waterway 53 = .ok (.invokevirtual 22, 3) := by decide +kernel
theorem dL_waterway_56 : decode cL_waterway 56 = .ok (.pop, 1) := by decide +kernel
theorem dL_waterway_57 : decode cL_waterway 57 = .ok (.iinc 2 1, 3) := by decide +kernel
theorem dL_waterway_60 : decode cL_waterway 60 = .ok (.goto (-50), 3) := by decide +kernel
theorem dL_waterway_63 : decode cL_waterway 63 = .ok (.aload_n 1, 1) := by decide +kernel
theorem dL_waterway_64 : decode cL_waterway 64 = .ok (.aload_n 0, 1) := by decide +kernel
theorem dL_waterway_65 : decode cL_waterway 65 = .ok (.iconst 4, 1) := by decide +kernel
theorem dL_waterway_66 : decode cL_waterway 66 = .ok (.invokestatic 12, 3) := by decide +kernel
theorem dL_waterway_69 : decode cL_waterway 69 = .ok (.bipush 31, 2) := by decide +kernel
theorem dL_waterway_71 : decode cL_waterway 71 = .ok (.invokestatic 18, 3) := by decide +kernel
theorem dL_waterway_74 : decode cL_waterway 74 = .ok (.invokevirtual 26, 3) := by decide +kernel
theorem dL_waterway_77 : decode cL_waterway 77 = .ok (.pop, 1) := by decide +kernel
theorem dL_waterway_78 : decode cL_waterway 78 = .ok (.aload_n 1, 1) := by decide +kernel
theorem dL_waterway_79 : decode cL_waterway 79 = .ok (.aload_n 0, 1) := by decide +kernel
theorem dL_waterway_80 : decode cL_waterway 80 = .ok (.iconst 4, 1) := by decide +kernel
theorem dL_waterway_81 : decode cL_waterway 81 = .ok (.invokestatic 12, 3) := by decide +kernel
theorem dL_waterway_84 : decode cL_waterway 84 = .ok (.bipush 6, 2) := by decide +kernel
theorem dL_waterway_86 : decode cL_waterway 86 = .ok (.ishr, 1) := by decide +kernel
theorem dL_waterway_87 : decode cL_waterway 87 = .ok (.bipush 31, 2) := by decide +kernel
theorem dL_waterway_89 : decode cL_waterway 89 = .ok (.invokestatic 18, 3) := by decide +kernel
theorem dL_waterway_92 : decode cL_waterway 92 = .ok (.invokevirtual 26, 3) := by decide +kernel
theorem dL_waterway_95 : decode cL_waterway 95 = .ok (.pop, 1) := by decide +kernel
theorem dL_waterway_96 : decode cL_waterway 96 = .ok (.aload_n 1, 1) := by decide +kernel
theorem dL_waterway_97 : decode cL_waterway 97 = .ok (.areturn, 1) := by decide +kernel
