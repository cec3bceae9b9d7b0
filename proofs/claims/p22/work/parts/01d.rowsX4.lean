set_option maxRecDepth 20000 in
theorem ggX4_init_X3_init : GoodIn wsX4_init wsX3_init := goodIn_r _ [10, 11, 2, 3, 12, 13, 14, 15, 16, 17, 18, 19, 20, 21, 22, 23, 24, 25, 26, 27, 28, 29, 30, 31, 32, 33, 34, 35, 36, 37, 38, 39, 40, 41, 42, 43, 44, 45, 46, 47, 48, 49, 50, 51, 52, 53, 54, 55, 56, 57, 60, 61, 62, 63, 64, 65, 66, 67, 68, 69, 70, 71, 72, 73, 74, 75, 76] (by decide +kernel) (by decide +kernel)
set_option maxRecDepth 20000 in
theorem gX4_init_X3_init_n9 : GoodIn wsX4_init (wsX3_init) := ggX4_init_X3_init
theorem dX4_init_0 : decode cX4_init 0 = .ok (.aload_n 0, 1) := by decide +kernel
theorem dX4_init_1 : decode cX4_init 1 = .ok (.invokespecial 1, 3) := by decide +kernel
theorem dX4_init_4 : decode cX4_init 4 = .ok (.aload_n 0, 1) := by decide +kernel
theorem dX4_init_5 : decode cX4_init 5 = .ok (.new 7, 3) := by decide +kernel
theorem dX4_init_8 : decode cX4_init 8 = .ok (.dup, 1) := by decide +kernel
theorem dX4_init_9 : decode cX4_init 9 = .ok (.invokespecial 9, 3) := by decide +kernel
theorem dX4_init_12 : decode cX4_init 12 = .ok (.putfield 10, 3) := by decide +kernel
theorem dX4_init_15 : decode cX4_init 15 = .ok (.aload_n 0, 1) := by decide +kernel
theorem dX4_init_16 : decode cX4_init 16 = .ok (.new 7, 3) := by decide +kernel
theorem dX4_init_19 : decode cX4_init 19 = .ok (.dup, 1) := by decide +kernel
theorem dX4_init_20 : decode cX4_init 20 = .ok (.invokespecial 9, 3) := by decide +kernel
theorem dX4_init_23 : decode cX4_init 23 = .ok (.putfield 16, 3) := by decide +kernel
theorem dX4_init_26 : decode cX4_init 26 = .ok (.return_, 1) := by decide +kernel
set_option maxRecDepth 20000 in
theorem ggX4_bed_X4_needPlace : GoodIn wsX4_bed wsX4_needPlace := goodIn_ca (goodIn_r _ [9, 10, 11] (by decide +kernel) (by decide +kernel)) (goodIn_sub (fun _ h => List.mem_cons_of_mem _ (List.mem_append_right _ h)) (by decide +kernel))
set_option maxRecDepth 20000 in
theorem gX4_bed_X4_needPlace : GoodIn wsX4_bed (va_wsS RX4 19 yX4_needPlace wsX4_needPlace) := goodIn_app (goodIn_of _ (by decide +kernel)) ggX4_bed_X4_needPlace
set_option maxRecDepth 20000 in
theorem ggX4_bed_X1_areFull : GoodIn wsX4_bed wsX1_areFull := goodIn_r _ [16, 17, 35, 36, 37, 38, 39, 40, 41, 42, 43, 44] (by decide +kernel) (by decide +kernel)
set_option maxRecDepth 20000 in
theorem gX4_bed_X1_areFull : GoodIn wsX4_bed (wsV RX4 36 RX1 yX1_areFull wsX1_areFull) := goodIn_app (goodIn_of _ (by decide +kernel)) ggX4_bed_X1_areFull
set_option maxRecDepth 20000 in
theorem ggX4_bed_X1_add : GoodIn wsX4_bed wsX1_add := goodIn_r _ [21, 17, 22, 23, 24, 25, 35, 36, 37, 38, 39, 40, 41, 42, 43, 44] (by decide +kernel) (by decide +kernel)
set_option maxRecDepth 20000 in
theorem gX4_bed_X1_add : GoodIn wsX4_bed (wsV RX4 47 RX1 yX1_add wsX1_add) := goodIn_app (goodIn_of _ (by decide +kernel)) ggX4_bed_X1_add
theorem dX4_bed_0 : decode cX4_bed 0 = .ok (.iload_n 1, 1) := by decide +kernel
theorem dX4_bed_1 : decode cX4_bed 1 = .ok (.invokestatic 19, 3) := by decide +kernel
theorem dX4_bed_4 : decode cX4_bed 4 = .ok (.iload_n 2, 1) := by decide +kernel
theorem dX4_bed_5 : decode cX4_bed 5 = .ok (.iconst 1, 1) := by decide +kernel
theorem dX4_bed_6 : decode cX4_bed 6 = .ok (.if_icmp .lt 9, 3) := by decide +kernel
theorem dX4_bed_9 : decode cX4_bed 9 = .ok (.iload_n 2, 1) := by decide +kernel
theorem dX4_bed_10 : decode cX4_bed 10 = .ok (.bipush 9, 2) := by decide +kernel
theorem dX4_bed_12 : decode cX4_bed 12 = .ok (.if_icmp .le 13, 3) := by decide +kernel
theorem dX4_bed_15 : decode cX4_bed 15 = .ok (.new 23, 3) := by decide +kernel
theorem dX4_bed_18 : decode cX4_bed 18 = .ok (.dup, 1) := by decide +kernel
theorem dX4_bed_19 : decode cX4_bed 19 = .ok (.ldc 25, 2) := by decide +kernel
theorem dX4_bed_21 : decode cX4_bed 21 = .ok (.invokespecial 27, 3) := by decide +kernel
theorem dX4_bed_24 : decode cX4_bed 24 = .ok (.athrow, 1) := by decide +kernel
theorem dX4_bed_25 : decode cX4_bed 25 = .ok (.iload_n 3, 1) := by decide +kernel
theorem dX4_bed_26 : decode cX4_bed 26 = .ok (.ifCond .lt 9, 3) := by decide +kernel
theorem dX4_bed_29 : decode cX4_bed 29 = .ok (.iload_n 3, 1) := by decide +kernel
theorem dX4_bed_30 : decode cX4_bed 30 = .ok (.bipush 100, 2) := by decide +kernel
theorem dX4_bed_32 : decode cX4_bed 32 = .ok (.if_icmp .le 13, 3) := by decide +kernel
theorem dX4_bed_35 : decode cX4_bed 35 = .ok (.new 23, 3) := by decide +kernel
theorem dX4_bed_38 : decode cX4_bed 38 = .ok (.dup, 1) := by decide +kernel
theorem dX4_bed_39 : decode cX4_bed 39 = .ok (.ldc 30, 2) := by decide +kernel
theorem dX4_bed_41 : decode cX4_bed 41 = .ok (.invokespecial 27, 3) := by decide +kernel
theorem dX4_bed_44 : decode cX4_bed 44 = .ok (.athrow, 1) := by decide +kernel
theorem dX4_bed_45 : decode cX4_bed 45 = .ok (.aload_n 0, 1) := by decide +kernel
theorem dX4_bed_46 : decode cX4_bed 46 = .ok (.getfield 10, 3) := by decide +kernel
theorem dX4_bed_49 : decode cX4_bed 49 = .ok (.getfield 32, 3) := by decide +kernel
theorem dX4_bed_52 : decode cX4_bed 52 = .ok (.invokevirtual 36, 3) := by decide +kernel
theorem dX4_bed_55 : decode cX4_bed 55 = .ok (.ifCond .eq 13, 3) := by decide +kernel
theorem dX4_bed_58 : decode cX4_bed 58 = .ok (.new 42, 3) := by decide +kernel
theorem dX4_bed_61 : decode cX4_bed 61 = .ok (.dup, 1) := by decide +kernel
theorem dX4_bed_62 : decode cX4_bed 62 = .ok (.ldc 44, 2) := by decide +kernel
theorem dX4_bed_64 : decode cX4_bed 64 = .ok (.invokespecial 46, 3) := by decide +kernel
theorem dX4_bed_67 : decode cX4_bed 67 = .ok (.athrow, 1) := by decide +kernel
theorem dX4_bed_68 : decode cX4_bed 68 = .ok (.aload_n 0, 1) := by decide +kernel
theorem dX4_bed_69 : decode cX4_bed 69 = .ok (.getfield 10, 3) := by decide +kernel
theorem dX4_bed_72 : decode cX4_bed 72 = .ok (.getfield 32, 3) := by decide +kernel
theorem dX4_bed_75 : decode cX4_bed 75 = .ok (.iload_n 1, 1) := by decide +kernel
theorem dX4_bed_76 : decode cX4_bed 76 = .ok (.iload_n 2, 1) := by decide +kernel
theorem dX4_bed_77 : decode cX4_bed 77 = .ok (.iload_n 3, 1) := by decide +kernel
theorem dX4_bed_78 : decode cX4_bed 78 = .ok (.invokevirtual 47, 3) := by decide +kernel
theorem dX4_bed_81 : decode cX4_bed 81 = .ok (.ireturn, 1) := by decide +kernel
set_option maxRecDepth 20000 in
theorem ggX4_cut_X4_needBed : GoodIn wsX4_cut wsX4_needBed := goodIn_ca (goodIn_r _ [8, 9, 10, 3, 29, 30, 31, 32, 33, 34, 35, 36, 37, 38, 39, 40, 41, 42, 43, 44, 45, 46, 47] (by decide +kernel) (by decide +kernel)) (goodIn_sub (fun _ h => List.mem_cons_of_mem _ (List.mem_append_right _ h)) (by decide +kernel))
set_option maxRecDepth 20000 in
theorem gX4_cut_X4_needBed : GoodIn wsX4_cut (wsV RX4 51 RX4 yX4_needBed wsX4_needBed) := goodIn_app (goodIn_of _ (by decide +kernel)) ggX4_cut_X4_needBed
set_option maxRecDepth 20000 in
theorem ggX4_cut_X1_cutDown : GoodIn wsX4_cut wsX1_cutDown := goodIn_r _ [15, 16, 17, 18, 19, 20, 21, 14, 22, 23, 24, 25, 26, 27, 28, 38, 39, 40, 41, 42, 43, 44, 45, 46, 47] (by decide +kernel) (by decide +kernel)
set_option maxRecDepth 20000 in
theorem gX4_cut_X1_cutDown : GoodIn wsX4_cut (wsV RX4 60 RX1 yX1_cutDown wsX1_cutDown) := goodIn_app (goodIn_of _ (by decide +kernel)) ggX4_cut_X1_cutDown
theorem dX4_cut_0 : decode cX4_cut 0 = .ok (.aload_n 0, 1) := by decide +kernel
theorem dX4_cut_1 : decode cX4_cut 1 = .ok (.iload_n 1, 1) := by decide +kernel
theorem dX4_cut_2 : decode cX4_cut 2 = .ok (.invokevirtual 51, 3) := by decide +kernel
theorem dX4_cut_5 : decode cX4_cut 5 = .ok (.aload_n 0, 1) := by decide +kernel
theorem dX4_cut_6 : decode cX4_cut 6 = .ok (.getfield 10, 3) := by decide +kernel
theorem dX4_cut_9 : decode cX4_cut 9 = .ok (.getfield 32, 3) := by decide +kernel
theorem dX4_cut_12 : decode cX4_cut 12 = .ok (.getfield 54, 3) := by decide +kernel
theorem dX4_cut_15 : decode cX4_cut 15 = .ok (.iload_n 1, 1) := by decide +kernel
theorem dX4_cut_16 : decode cX4_cut 16 = .ok (.iaload, 1) := by decide +kernel
theorem dX4_cut_17 : decode cX4_cut 17 = .ok (.ifCond .ne 13, 3) := by decide +kernel
theorem dX4_cut_20 : decode cX4_cut 20 = .ok (.new 42, 3) := by decide +kernel
theorem dX4_cut_23 : decode cX4_cut 23 = .ok (.dup, 1) := by decide +kernel
theorem dX4_cut_24 : decode cX4_cut 24 = .ok (.ldc 58, 2) := by decide +kernel
theorem dX4_cut_26 : decode cX4_cut 26 = .ok (.invokespecial 46, 3) := by decide +kernel
theorem dX4_cut_29 : decode cX4_cut 29 = .ok (.athrow, 1) := by decide +kernel
theorem dX4_cut_30 : decode cX4_cut 30 = .ok (.aload_n 0, 1) := by decide +kernel
theorem dX4_cut_31 : decode cX4_cut 31 = .ok (.getfield 10, 3) := by decide +kernel
theorem dX4_cut_34 : decode cX4_cut 34 = .ok (.getfield 32, 3) := by decide +kernel
theorem dX4_cut_37 : decode cX4_cut 37 = .ok (.iload_n 1, 1) := by decide +kernel
theorem dX4_cut_38 : decode cX4_cut 38 = .ok (.invokevirtual 60, 3) := by decide +kernel
theorem dX4_cut_41 : decode cX4_cut 41 = .ok (.ireturn, 1) := by decide +kernel
set_option maxRecDepth 20000 in
theorem ggX4_tie_X4_needBed : GoodIn wsX4_tie wsX4_needBed := goodIn_ca (goodIn_r _ [6, 7, 8, 1, 22, 23, 24, 25, 26, 27, 28, 29, 30, 31, 32, 33, 34, 35, 36, 37, 38, 39, 40] (by decide +kernel) (by decide +kernel)) (goodIn_sub (fun _ h => List.mem_cons_of_mem _ (List.mem_append_right _ h)) (by decide +kernel))
set_option maxRecDepth 20000 in
theorem gX4_tie_X4_needBed : GoodIn wsX4_tie (wsV RX4 51 RX4 yX4_needBed wsX4_needBed) := goodIn_app (goodIn_of _ (by decide +kernel)) ggX4_tie_X4_needBed
set_option maxRecDepth 20000 in
theorem ggX4_tie_X1_tieUp : GoodIn wsX4_tie wsX1_tieUp := goodIn_r _ [13, 14, 15, 16, 17, 18, 19, 20, 21, 31, 32, 33, 34, 35, 36, 37, 38, 39, 40] (by decide +kernel) (by decide +kernel)
set_option maxRecDepth 20000 in
theorem gX4_tie_X1_tieUp : GoodIn wsX4_tie (wsV RX4 68 RX1 yX1_tieUp wsX1_tieUp) := goodIn_app (goodIn_of _ (by decide +kernel)) ggX4_tie_X1_tieUp
theorem dX4_tie_0 : decode cX4_tie 0 = .ok (.aload_n 0, 1) := by decide +kernel
theorem dX4_tie_1 : decode cX4_tie 1 = .ok (.iload_n 1, 1) := by decide +kernel
theorem dX4_tie_2 : decode cX4_tie 2 = .ok (.invokevirtual 51, 3) := by decide +kernel
theorem dX4_tie_5 : decode cX4_tie 5 = .ok (.aload_n 0, 1) := by decide +kernel
theorem dX4_tie_6 : decode cX4_tie 6 = .ok (.getfield 10, 3) := by decide +kernel
theorem dX4_tie_9 : decode cX4_tie 9 = .ok (.getfield 32, 3) := by decide +kernel
theorem dX4_tie_12 : decode cX4_tie 12 = .ok (.iload_n 1, 1) := by decide +kernel
theorem dX4_tie_13 : decode cX4_tie 13 = .ok (.aload_n 0, 1) := by decide +kernel
theorem dX4_tie_14 : decode cX4_tie 14 = .ok (.getfield 10, 3) := by decide +kernel
theorem dX4_tie_17 : decode cX4_tie 17 = .ok (.getfield 64, 3) := by decide +kernel
theorem dX4_tie_20 : decode cX4_tie 20 = .ok (.invokevirtual 68, 3) := by decide +kernel
theorem dX4_tie_23 : decode cX4_tie 23 = .ok (.istore_n 2, 1) := by decide +kernel
theorem dX4_tie_24 : decode cX4_tie 24 = .ok (.aload_n 0, 1) := by decide +kernel
theorem dX4_tie_25 : decode cX4_tie 25 = .ok (.getfield 10, 3) := by decide +kernel
theorem dX4_tie_28 : decode cX4_tie 28 = .ok (.dup, 1) := by decide +kernel
theorem dX4_tie_29 : decode cX4_tie 29 = .ok (.getfield 64, 3) := by decide +kernel
theorem dX4_tie_32 : decode cX4_tie 32 = .ok (.iload_n 2, 1) := by decide +kernel
theorem dX4_tie_33 : decode cX4_tie 33 = .ok (.isub, 1) := by decide +kernel
theorem dX4_tie_34 : decode cX4_tie 34 = .ok (.putfield 64, 3) := by decide +kernel
theorem dX4_tie_37 : decode cX4_tie 37 = .ok (.iload_n 2, 1) := by decide +kernel
theorem dX4_tie_38 : decode cX4_tie 38 = .ok (.ireturn, 1) := by decide +kernel
set_option maxRecDepth 20000 in
theorem ggX4_about_X4_needBed : GoodIn wsX4_about wsX4_needBed := goodIn_ca (goodIn_r _ [6, 7, 8, 1, 33, 34, 35, 36, 37, 38, 39, 40, 41, 42, 43, 44, 45, 46, 47, 48, 49, 50, 51] (by decide +kernel) (by decide +kernel)) (goodIn_sub (fun _ h => List.mem_cons_of_mem _ (List.mem_append_right _ h)) (by decide +kernel))
set_option maxRecDepth 20000 in
theorem gX4_about_X4_needBed : GoodIn wsX4_about (wsV RX4 51 RX4 yX4_needBed wsX4_needBed) := goodIn_app (goodIn_of _ (by decide +kernel)) ggX4_about_X4_needBed
set_option maxRecDepth 20000 in
theorem ggX4_about_X4_needFigure : GoodIn wsX4_about wsX4_needFigure := goodIn_ca (goodIn_r _ [11, 7, 8] (by decide +kernel) (by decide +kernel)) (goodIn_sub (fun _ h => List.mem_cons_of_mem _ (List.mem_append_right _ h)) (by decide +kernel))
set_option maxRecDepth 20000 in
theorem gX4_about_X4_needFigure : GoodIn wsX4_about (va_wsS RX4 82 yX4_needFigure wsX4_needFigure) := goodIn_app (goodIn_of _ (by decide +kernel)) ggX4_about_X4_needFigure
set_option maxRecDepth 20000 in
theorem ggX4_about_X1_tell : GoodIn wsX4_about wsX1_tell := goodIn_r _ [16, 17, 18, 19, 20, 21, 22, 23, 24, 25, 26, 27, 15, 28, 29, 30, 31, 32, 42, 43, 44, 45, 46, 47, 48, 49, 50, 51] (by decide +kernel) (by decide +kernel)
set_option maxRecDepth 20000 in
theorem gX4_about_X1_tell : GoodIn wsX4_about (wsV RX4 86 RX1 yX1_tell wsX1_tell) := goodIn_app (goodIn_of _ (by decide +kernel)) ggX4_about_X1_tell
theorem dX4_about_0 : decode cX4_about 0 = .ok (.aload_n 0, 1) := by decide +kernel
theorem dX4_about_1 : decode cX4_about 1 = .ok (.iload_n 1, 1) := by decide +kernel
theorem dX4_about_2 : decode cX4_about 2 = .ok (.invokevirtual 51, 3) := by decide +kernel
theorem dX4_about_5 : decode cX4_about 5 = .ok (.iload_n 2, 1) := by decide +kernel
theorem dX4_about_6 : decode cX4_about 6 = .ok (.bipush 10, 2) := by decide +kernel
theorem dX4_about_8 : decode cX4_about 8 = .ok (.invokestatic 82, 3) := by decide +kernel
theorem dX4_about_11 : decode cX4_about 11 = .ok (.aload_n 0, 1) := by decide +kernel
theorem dX4_about_12 : decode cX4_about 12 = .ok (.getfield 10, 3) := by decide +kernel
theorem dX4_about_15 : decode cX4_about 15 = .ok (.getfield 32, 3) := by decide +kernel
theorem dX4_about_18 : decode cX4_about 18 = .ok (.iload_n 1, 1) := by decide +kernel
theorem dX4_about_19 : decode cX4_about 19 = .ok (.iload_n 2, 1) := by decide +kernel
theorem dX4_about_20 : decode cX4_about 20 = .ok (.invokevirtual 86, 3) := by decide +kernel
theorem dX4_about_23 : decode cX4_about 23 = .ok (.ireturn, 1) := by decide +kernel
set_option maxRecDepth 20000 in
theorem ggX4_best_X4_needBed : GoodIn wsX4_best wsX4_needBed := goodIn_ca (goodIn_r _ [7, 8, 9, 2, 54, 55, 56, 57, 58, 59, 60, 61, 62, 63, 64, 65, 66, 67, 68, 69, 70, 71, 72] (by decide +kernel) (by decide +kernel)) (goodIn_sub (fun _ h => List.mem_cons_of_mem _ (List.mem_append_right _ h)) (by decide +kernel))
set_option maxRecDepth 20000 in
theorem gX4_best_X4_needBed : GoodIn wsX4_best (wsV RX4 51 RX4 yX4_needBed wsX4_needBed) := goodIn_app (goodIn_of _ (by decide +kernel)) ggX4_best_X4_needBed
set_option maxRecDepth 20000 in
theorem ggX4_best_X1_copyFrom : GoodIn wsX4_best wsX1_copyFrom := goodIn_r _ [14, 15, 16, 17, 18, 19, 20, 21, 22, 23, 63, 64, 65, 66, 67, 68, 69, 70, 71, 72] (by decide +kernel) (by decide +kernel)
set_option maxRecDepth 20000 in
theorem gX4_best_X1_copyFrom : GoodIn wsX4_best (wsV RX4 89 RX1 yX1_copyFrom wsX1_copyFrom) := goodIn_app (goodIn_of _ (by decide +kernel)) ggX4_best_X1_copyFrom
set_option maxRecDepth 20000 in
theorem ggX4_best_X1_sedgeGiven : GoodIn wsX4_best wsX1_sedgeGiven := goodIn_r _ [27, 19, 28, 29, 30, 13, 31, 18, 17, 63, 64, 65, 66, 67, 68, 69, 70, 71, 72] (by decide +kernel) (by decide +kernel)
set_option maxRecDepth 20000 in
theorem gX4_best_X1_sedgeGiven : GoodIn wsX4_best (wsV RX4 93 RX1 yX1_sedgeGiven wsX1_sedgeGiven) := goodIn_app (goodIn_of _ (by decide +kernel)) ggX4_best_X1_sedgeGiven
set_option maxRecDepth 20000 in
theorem ggX4_best_X1_endYear : GoodIn wsX4_best wsX1_endYear := goodIn_r _ [35, 15, 36, 18, 19, 37, 38, 39, 40, 41, 42, 43, 44, 45, 13, 46, 47, 48, 49, 50, 16, 51, 52, 53, 63, 64, 65, 66, 67, 68, 69, 70, 71, 72] (by decide +kernel) (by decide +kernel)
set_option maxRecDepth 20000 in
theorem gX4_best_X1_endYear : GoodIn wsX4_best (wsV RX4 96 RX1 yX1_endYear wsX1_endYear) := goodIn_app (goodIn_of _ (by decide +kernel)) ggX4_best_X1_endYear
theorem dX4_best_0 : decode cX4_best 0 = .ok (.aload_n 0, 1) := by decide +kernel
theorem dX4_best_1 : decode cX4_best 1 = .ok (.iload_n 1, 1) := by decide +kernel
theorem dX4_best_2 : decode cX4_best 2 = .ok (.invokevirtual 51, 3) := by decide +kernel
theorem dX4_best_5 : decode cX4_best 5 = .ok (.aload_n 0, 1) := by decide +kernel
theorem dX4_best_6 : decode cX4_best 6 = .ok (.getfield 16, 3) := by decide +kernel
theorem dX4_best_9 : decode cX4_best 9 = .ok (.getfield 32, 3) := by decide +kernel
theorem dX4_best_12 : decode cX4_best 12 = .ok (.aload_n 0, 1) := by decide +kernel
theorem dX4_best_13 : decode cX4_best 13 = .ok (.getfield 10, 3) := by decide +kernel
theorem dX4_best_16 : decode cX4_best 16 = .ok (.getfield 32, 3) := by decide +kernel
theorem dX4_best_19 : decode cX4_best 19 = .ok (.invokevirtual 89, 3) := by decide +kernel
theorem dX4_best_22 : decode cX4_best 22 = .ok (.iconst 0, 1) := by decide +kernel
theorem dX4_best_23 : decode cX4_best 23 = .ok (.istore_n 2, 1) := by decide +kernel
theorem dX4_best_24 : decode cX4_best 24 = .ok (.aload_n 0, 1) := by decide +kernel
theorem dX4_best_25 : decode cX4_best 25 = .ok (.getfield 16, 3) := by decide +kernel
theorem dX4_best_28 : decode cX4_best 28 = .ok (.getfield 32, 3) := by decide +kernel
theorem dX4_best_31 : decode cX4_best 31 = .ok (.iload_n 1, 1) := by decide +kernel
theorem dX4_best_32 : decode cX4_best 32 = .ok (.invokevirtual 93, 3) := by decide +kernel
theorem dX4_best_35 : decode cX4_best 35 = .ok (.istore_n 3, 1) := by decide +kernel
theorem dX4_best_36 : decode cX4_best 36 = .ok (.iconst 1, 1) := by decide +kernel
theorem dX4_best_37 : decode cX4_best 37 = .ok (.istore 4, 2) := by decide +kernel
theorem dX4_best_39 : decode cX4_best 39 = .ok (.iload 4, 2) := by decide +kernel
theorem dX4_best_41 : decode cX4_best 41 = .ok (.bipush 9, 2) := by decide +kernel
theorem dX4_best_43 : decode cX4_best 43 = .ok (.if_icmp .gt 44, 3) := by decide +kernel
theorem dX4_best_46 : decode cX4_best 46 = .ok (.aload_n 0, 1) := by decide +kernel
theorem dX4_best_47 : decode cX4_best 47 = .ok (.getfield 16, 3) := by decide +kernel
theorem dX4_best_50 : decode cX4_best 50 = .ok (.getfield 32, 3) := by decide +kernel
theorem dX4_best_53 : decode cX4_best 53 = .ok (.invokevirtual 96, 3) := by decide +kernel
theorem dX4_best_56 : decode cX4_best 56 = .ok (.aload_n 0, 1) := by decide +kernel
theorem dX4_best_57 : decode cX4_best 57 = .ok (.getfield 16, 3) := by decide +kernel
theorem dX4_best_60 : decode cX4_best 60 = .ok (.getfield 32, 3) := by decide +kernel
theorem dX4_best_63 : decode cX4_best 63 = .ok (.iload_n 1, 1) := by decide +kernel
theorem dX4_best_64 : decode cX4_best 64 = .ok (.invokevirtual 93, 3) := by decide +kernel
theorem dX4_best_67 : decode cX4_best 67 = .ok (.istore 5, 2) := by decide +kernel
theorem dX4_best_69 : decode cX4_best 69 = .ok (.iload 5, 2) := by decide +kernel
theorem dX4_best_71 : decode cX4_best 71 = .ok (.iload_n 3, 1) := by decide +kernel
theorem dX4_best_72 : decode cX4_best 72 = .ok (.if_icmp .le 9, 3) := by decide +kernel
theorem dX4_best_75 : decode cX4_best 75 = .ok (.iload 5, 2) := by decide +kernel
theorem dX4_best_77 : decode cX4_best 77 = .ok (.istore_n 3, 1) := by decide +kernel
theorem dX4_best_78 : decode cX4_best 78 = .ok (.iload 4, 2) := by decide +kernel
theorem dX4_best_80 : decode cX4_best 80 = .ok (.istore_n 2, 1) := by decide +kernel
theorem dX4_best_81 : decode cX4_best 81 = .ok (.iinc 4 1, 3) := by decide +kernel
theorem dX4_best_84 : decode cX4_best 84 = .ok (.goto (-45), 3) := by decide +kernel
theorem dX4_best_87 : decode cX4_best 87 = .ok (.iload_n 2, 1) := by decide +kernel
theorem dX4_best_88 : decode cX4_best 88 = .ok (.ireturn, 1) := by decide +kernel
set_option maxRecDepth 20000 in
theorem ggX4_barge_X4_needPlace : GoodIn wsX4_barge wsX4_needPlace := goodIn_ca (goodIn_r _ [7, 8, 9] (by decide +kernel) (by decide +kernel)) (goodIn_sub (fun _ h => List.mem_cons_of_mem _ (List.mem_append_right _ h)) (by decide +kernel))
set_option maxRecDepth 20000 in
theorem gX4_barge_X4_needPlace : GoodIn wsX4_barge (va_wsS RX4 19 yX4_needPlace wsX4_needPlace) := goodIn_app (goodIn_of _ (by decide +kernel)) ggX4_barge_X4_needPlace
set_option maxRecDepth 20000 in
theorem ggX4_barge_X0_areFull : GoodIn wsX4_barge wsX0_areFull := goodIn_r _ [14, 15, 31, 32, 33, 34, 35, 36] (by decide +kernel) (by decide +kernel)
set_option maxRecDepth 20000 in
theorem gX4_barge_X0_areFull : GoodIn wsX4_barge (wsV RX4 103 RX0 yX0_areFull wsX0_areFull) := goodIn_app (goodIn_of _ (by decide +kernel)) ggX4_barge_X0_areFull
set_option maxRecDepth 20000 in
theorem ggX4_barge_X0_add : GoodIn wsX4_barge wsX0_add := goodIn_r _ [19, 15, 20, 21, 31, 32, 33, 34, 35, 36] (by decide +kernel) (by decide +kernel)
set_option maxRecDepth 20000 in
theorem gX4_barge_X0_add : GoodIn wsX4_barge (wsV RX4 108 RX0 yX0_add wsX0_add) := goodIn_app (goodIn_of _ (by decide +kernel)) ggX4_barge_X0_add
theorem dX4_barge_0 : decode cX4_barge 0 = .ok (.iload_n 1, 1) := by decide +kernel
theorem dX4_barge_1 : decode cX4_barge 1 = .ok (.invokestatic 19, 3) := by decide +kernel
theorem dX4_barge_4 : decode cX4_barge 4 = .ok (.aload_n 0, 1) := by decide +kernel
theorem dX4_barge_5 : decode cX4_barge 5 = .ok (.getfield 10, 3) := by decide +kernel
theorem dX4_barge_8 : decode cX4_barge 8 = .ok (.getfield 99, 3) := by decide +kernel
theorem dX4_barge_11 : decode cX4_barge 11 = .ok (.invokevirtual 103, 3) := by decide +kernel
theorem dX4_barge_14 : decode cX4_barge 14 = .ok (.ifCond .eq 13, 3) := by decide +kernel
theorem dX4_barge_17 : decode cX4_barge 17 = .ok (.new 42, 3) := by decide +kernel
theorem dX4_barge_20 : decode cX4_barge 20 = .ok (.dup, 1) := by decide +kernel
theorem dX4_barge_21 : decode cX4_barge 21 = .ok (.ldc 106, 2) := by decide +kernel
theorem dX4_barge_23 : decode cX4_barge 23 = .ok (.invokespecial 46, 3) := by decide +kernel
theorem dX4_barge_26 : decode cX4_barge 26 = .ok (.athrow, 1) := by decide +kernel
theorem dX4_barge_27 : decode cX4_barge 27 = .ok (.aload_n 0, 1) := by decide +kernel
theorem dX4_barge_28 : decode cX4_barge 28 = .ok (.getfield 10, 3) := by decide +kernel
theorem dX4_barge_31 : decode cX4_barge 31 = .ok (.getfield 99, 3) := by decide +kernel
theorem dX4_barge_34 : decode cX4_barge 34 = .ok (.iload_n 1, 1) := by decide +kernel
theorem dX4_barge_35 : decode cX4_barge 35 = .ok (.invokevirtual 108, 3) := by decide +kernel
theorem dX4_barge_38 : decode cX4_barge 38 = .ok (.ireturn, 1) := by decide +kernel
set_option maxRecDepth 20000 in
theorem ggX4_sail_X4_needBarge : GoodIn wsX4_sail wsX4_needBarge := goodIn_ca (goodIn_r _ [6, 7, 8, 1, 23, 24, 25, 26, 27, 28, 29, 30, 31, 32, 33, 34, 35, 36, 37] (by decide +kernel) (by decide +kernel)) (goodIn_sub (fun _ h => List.mem_cons_of_mem _ (List.mem_append_right _ h)) (by decide +kernel))
set_option maxRecDepth 20000 in
theorem gX4_sail_X4_needBarge : GoodIn wsX4_sail (wsV RX4 110 RX4 yX4_needBarge wsX4_needBarge) := goodIn_app (goodIn_of _ (by decide +kernel)) ggX4_sail_X4_needBarge
set_option maxRecDepth 20000 in
theorem ggX4_sail_X4_needPlace : GoodIn wsX4_sail wsX4_needPlace := goodIn_ca (goodIn_r _ [11, 7, 8] (by decide +kernel) (by decide +kernel)) (goodIn_sub (fun _ h => List.mem_cons_of_mem _ (List.mem_append_right _ h)) (by decide +kernel))
set_option maxRecDepth 20000 in
theorem gX4_sail_X4_needPlace : GoodIn wsX4_sail (va_wsS RX4 19 yX4_needPlace wsX4_needPlace) := goodIn_app (goodIn_of _ (by decide +kernel)) ggX4_sail_X4_needPlace
set_option maxRecDepth 20000 in
theorem ggX4_sail_X0_send : GoodIn wsX4_sail wsX0_send := goodIn_r _ [16, 17, 18, 19, 20, 21, 22, 32, 33, 34, 35, 36, 37] (by decide +kernel) (by decide +kernel)
set_option maxRecDepth 20000 in
theorem gX4_sail_X0_send : GoodIn wsX4_sail (wsV RX4 113 RX0 yX0_send wsX0_send) := goodIn_app (goodIn_of _ (by decide +kernel)) ggX4_sail_X0_send
theorem dX4_sail_0 : decode cX4_sail 0 = .ok (.aload_n 0, 1) := by decide +kernel
theorem dX4_sail_1 : decode cX4_sail 1 = .ok (.iload_n 1, 1) := by decide +kernel
theorem dX4_sail_2 : decode cX4_sail 2 = .ok (.invokevirtual 110, 3) := by decide +kernel
theorem dX4_sail_5 : decode cX4_sail 5 = .ok (.iload_n 2, 1) := by decide +kernel
theorem dX4_sail_6 : decode cX4_sail 6 = .ok (.invokestatic 19, 3) := by decide +kernel
theorem dX4_sail_9 : decode cX4_sail 9 = .ok (.aload_n 0, 1) := by decide +kernel
theorem dX4_sail_10 : decode cX4_sail 10 = .ok (.getfield 10, 3) := by decide +kernel
theorem dX4_sail_13 : decode cX4_sail 13 = .ok (.getfield 99, 3) := by decide +kernel
theorem dX4_sail_16 : decode cX4_sail 16 = .ok (.iload_n 1, 1) := by decide +kernel
theorem dX4_sail_17 : decode cX4_sail 17 = .ok (.iload_n 2, 1) := by decide +kernel
theorem dX4_sail_18 : decode cX4_sail 18 = .ok (.invokevirtual 113, 3) := by decide +kernel
theorem dX4_sail_21 : decode cX4_sail 21 = .ok (.ireturn, 1) := by decide +kernel
set_option maxRecDepth 20000 in
theorem ggX4_load_X4_needBarge : GoodIn wsX4_load wsX4_needBarge := goodIn_ca (goodIn_r _ [8, 9, 10, 3, 33, 34, 35, 36, 37, 38, 39, 40, 41, 42, 43, 44, 45, 46, 47] (by decide +kernel) (by decide +kernel)) (goodIn_sub (fun _ h => List.mem_cons_of_mem _ (List.mem_append_right _ h)) (by decide +kernel))
set_option maxRecDepth 20000 in
theorem gX4_load_X4_needBarge : GoodIn wsX4_load (wsV RX4 110 RX4 yX4_needBarge wsX4_needBarge) := goodIn_app (goodIn_of _ (by decide +kernel)) ggX4_load_X4_needBarge
set_option maxRecDepth 20000 in
theorem ggX4_load_X4_needBed : GoodIn wsX4_load wsX4_needBed := goodIn_ca (goodIn_r _ [14, 9, 10, 3, 33, 34, 35, 36, 37, 38, 39, 40, 41, 48, 49, 50, 51, 52, 53, 54, 55, 56, 57] (by decide +kernel) (by decide +kernel)) (goodIn_sub (fun _ h => List.mem_cons_of_mem _ (List.mem_append_right _ h)) (by decide +kernel))
set_option maxRecDepth 20000 in
theorem gX4_load_X4_needBed : GoodIn wsX4_load (wsV RX4 51 RX4 yX4_needBed wsX4_needBed) := goodIn_app (goodIn_of _ (by decide +kernel)) ggX4_load_X4_needBed
set_option maxRecDepth 20000 in
theorem ggX4_load_X3_takeAboard : GoodIn wsX4_load wsX3_takeAboard := goodIn_r _ [19, 20, 21, 22, 23, 24, 25, 26, 27, 28, 29, 30, 31, 32, 35, 36, 37, 38, 39, 40, 41, 48, 49, 50, 51, 52, 53, 54, 55, 56, 57, 42, 43, 44, 45, 46, 47] (by decide +kernel) (by decide +kernel)
set_option maxRecDepth 20000 in
theorem gX4_load_X3_takeAboard : GoodIn wsX4_load (wsV RX4 122 RX3 yX3_takeAboard wsX3_takeAboard) := goodIn_app (goodIn_of _ (by decide +kernel)) ggX4_load_X3_takeAboard
theorem dX4_load_0 : decode cX4_load 0 = .ok (.aload_n 0, 1) := by decide +kernel
theorem dX4_load_1 : decode cX4_load 1 = .ok (.iload_n 1, 1) := by decide +kernel
theorem dX4_load_2 : decode cX4_load 2 = .ok (.invokevirtual 110, 3) := by decide +kernel
theorem dX4_load_5 : decode cX4_load 5 = .ok (.aload_n 0, 1) := by decide +kernel
theorem dX4_load_6 : decode cX4_load 6 = .ok (.iload_n 2, 1) := by decide +kernel
theorem dX4_load_7 : decode cX4_load 7 = .ok (.invokevirtual 51, 3) := by decide +kernel
theorem dX4_load_10 : decode cX4_load 10 = .ok (.aload_n 0, 1) := by decide +kernel
theorem dX4_load_11 : decode cX4_load 11 = .ok (.getfield 10, 3) := by decide +kernel
theorem dX4_load_14 : decode cX4_load 14 = .ok (.getfield 99, 3) := by decide +kernel
theorem dX4_load_17 : decode cX4_load 17 = .ok (.getfield 116, 3) := by decide +kernel
theorem dX4_load_20 : decode cX4_load 20 = .ok (.iload_n 1, 1) := by decide +kernel
theorem dX4_load_21 : decode cX4_load 21 = .ok (.iaload, 1) := by decide +kernel
theorem dX4_load_22 : decode cX4_load 22 = .ok (.aload_n 0, 1) := by decide +kernel
theorem dX4_load_23 : decode cX4_load 23 = .ok (.getfield 10, 3) := by decide +kernel
theorem dX4_load_26 : decode cX4_load 26 = .ok (.getfield 32, 3) := by decide +kernel
theorem dX4_load_29 : decode cX4_load 29 = .ok (.getfield 119, 3) := by decide +kernel
theorem dX4_load_32 : decode cX4_load 32 = .ok (.iload_n 2, 1) := by decide +kernel
theorem dX4_load_33 : decode cX4_load 33 = .ok (.iaload, 1) := by decide +kernel
theorem dX4_load_34 : decode cX4_load 34 = .ok (.if_icmp .eq 13, 3) := by decide +kernel
theorem dX4_load_37 : decode cX4_load 37 = .ok (.new 42, 3) := by decide +kernel
theorem dX4_load_40 : decode cX4_load 40 = .ok (.dup, 1) := by decide +kernel
theorem dX4_load_41 : decode cX4_load 41 = .ok (.ldc 120, 2) := by decide +kernel
theorem dX4_load_43 : decode cX4_load 43 = .ok (.invokespecial 46, 3) := by decide +kernel
theorem dX4_load_46 : decode cX4_load 46 = .ok (.athrow, 1) := by decide +kernel
theorem dX4_load_47 : decode cX4_load 47 = .ok (.aload_n 0, 1) := by decide +kernel
theorem dX4_load_48 : decode cX4_load 48 = .ok (.getfield 10, 3) := by decide +kernel
theorem dX4_load_51 : decode cX4_load 51 = .ok (.iload_n 1, 1) := by decide +kernel
theorem dX4_load_52 : decode cX4_load 52 = .ok (.iload_n 2, 1) := by decide +kernel
theorem dX4_load_53 : decode cX4_load 53 = .ok (.invokevirtual 122, 3) := by decide +kernel
theorem dX4_load_56 : decode cX4_load 56 = .ok (.ireturn, 1) := by decide +kernel
set_option maxRecDepth 20000 in
theorem ggX4_sell_X4_needBarge : GoodIn wsX4_sell wsX4_needBarge := goodIn_ca (goodIn_r _ [8, 9, 10, 3, 45, 46, 47, 48, 49, 50, 51, 52, 53, 54, 55, 56, 57, 58, 59] (by decide +kernel) (by decide +kernel)) (goodIn_sub (fun _ h => List.mem_cons_of_mem _ (List.mem_append_right _ h)) (by decide +kernel))
set_option maxRecDepth 20000 in
theorem gX4_sell_X4_needBarge : GoodIn wsX4_sell (wsV RX4 110 RX4 yX4_needBarge wsX4_needBarge) := goodIn_app (goodIn_of _ (by decide +kernel)) ggX4_sell_X4_needBarge
set_option maxRecDepth 20000 in
theorem ggX4_sell_X4_landingAt : GoodIn wsX4_sell wsX4_landingAt := goodIn_r _ [13, 14] (by decide +kernel) (by decide +kernel)
set_option maxRecDepth 20000 in
theorem gX4_sell_X4_landingAt : GoodIn wsX4_sell (va_wsS RX4 125 yX4_landingAt wsX4_landingAt) := goodIn_app (goodIn_of _ (by decide +kernel)) ggX4_sell_X4_landingAt
set_option maxRecDepth 20000 in
theorem ggX4_sell_X3_sellAll : GoodIn wsX4_sell wsX3_sellAll := goodIn_r _ [19, 20, 21, 22, 23, 24, 25, 26, 27, 28, 29, 30, 31, 32, 33, 34, 35, 36, 37, 38, 39, 40, 41, 42, 43, 44, 47, 48, 49, 50, 51, 52, 53, 54, 55, 56, 57, 58, 59, 60] (by decide +kernel) (by decide +kernel)
set_option maxRecDepth 20000 in
theorem gX4_sell_X3_sellAll : GoodIn wsX4_sell (wsV RX4 130 RX3 yX3_sellAll wsX3_sellAll) := goodIn_app (goodIn_of _ (by decide +kernel)) ggX4_sell_X3_sellAll
theorem dX4_sell_0 : decode cX4_sell 0 = .ok (.aload_n 0, 1) := by decide +kernel
theorem dX4_sell_1 : decode cX4_sell 1 = .ok (.iload_n 1, 1) := by decide +kernel
theorem dX4_sell_2 : decode cX4_sell 2 = .ok (.invokevirtual 110, 3) := by decide +kernel
theorem dX4_sell_5 : decode cX4_sell 5 = .ok (.aload_n 0, 1) := by decide +kernel
theorem dX4_sell_6 : decode cX4_sell 6 = .ok (.getfield 10, 3) := by decide +kernel
theorem dX4_sell_9 : decode cX4_sell 9 = .ok (.getfield 99, 3) := by decide +kernel
theorem dX4_sell_12 : decode cX4_sell 12 = .ok (.getfield 116, 3) := by decide +kernel
theorem dX4_sell_15 : decode cX4_sell 15 = .ok (.iload_n 1, 1) := by decide +kernel
theorem dX4_sell_16 : decode cX4_sell 16 = .ok (.iaload, 1) := by decide +kernel
theorem dX4_sell_17 : decode cX4_sell 17 = .ok (.invokestatic 125, 3) := by decide +kernel
theorem dX4_sell_20 : decode cX4_sell 20 = .ok (.istore_n 2, 1) := by decide +kernel
theorem dX4_sell_21 : decode cX4_sell 21 = .ok (.iload_n 2, 1) := by decide +kernel
theorem dX4_sell_22 : decode cX4_sell 22 = .ok (.iconst (-1), 1) := by decide +kernel
theorem dX4_sell_23 : decode cX4_sell 23 = .ok (.if_icmp .ne 13, 3) := by decide +kernel
theorem dX4_sell_26 : decode cX4_sell 26 = .ok (.new 42, 3) := by decide +kernel
theorem dX4_sell_29 : decode cX4_sell 29 = .ok (.dup, 1) := by decide +kernel
theorem dX4_sell_30 : decode cX4_sell 30 = .ok (.ldc 128, 2) := by decide +kernel
theorem dX4_sell_32 : decode cX4_sell 32 = .ok (.invokespecial 46, 3) := by decide +kernel
theorem dX4_sell_35 : decode cX4_sell 35 = .ok (.athrow, 1) := by decide +kernel
theorem dX4_sell_36 : decode cX4_sell 36 = .ok (.aload_n 0, 1) := by decide +kernel
theorem dX4_sell_37 : decode cX4_sell 37 = .ok (.getfield 10, 3) := by decide +kernel
theorem dX4_sell_40 : decode cX4_sell 40 = .ok (.iload_n 1, 1) := by decide +kernel
theorem dX4_sell_41 : decode cX4_sell 41 = .ok (.iload_n 2, 1) := by decide +kernel
theorem dX4_sell_42 : decode cX4_sell 42 = .ok (.invokevirtual 130, 3) := by decide +kernel
theorem dX4_sell_45 : decode cX4_sell 45 = .ok (.ireturn, 1) := by decide +kernel
set_option maxRecDepth 20000 in
theorem ggX4_told_X4_needBarge : GoodIn wsX4_told wsX4_needBarge := goodIn_ca (goodIn_r _ [6, 7, 8, 1, 25, 26, 27, 28, 29, 30, 31, 32, 33, 34, 35, 36, 37, 38, 39] (by decide +kernel) (by decide +kernel)) (goodIn_sub (fun _ h => List.mem_cons_of_mem _ (List.mem_append_right _ h)) (by decide +kernel))
set_option maxRecDepth 20000 in
theorem gX4_told_X4_needBarge : GoodIn wsX4_told (wsV RX4 110 RX4 yX4_needBarge wsX4_needBarge) := goodIn_app (goodIn_of _ (by decide +kernel)) ggX4_told_X4_needBarge
set_option maxRecDepth 20000 in
theorem ggX4_told_X4_needFigure : GoodIn wsX4_told wsX4_needFigure := goodIn_ca (goodIn_r _ [11, 7, 8] (by decide +kernel) (by decide +kernel)) (goodIn_sub (fun _ h => List.mem_cons_of_mem _ (List.mem_append_right _ h)) (by decide +kernel))
set_option maxRecDepth 20000 in
theorem gX4_told_X4_needFigure : GoodIn wsX4_told (va_wsS RX4 82 yX4_needFigure wsX4_needFigure) := goodIn_app (goodIn_of _ (by decide +kernel)) ggX4_told_X4_needFigure
set_option maxRecDepth 20000 in
theorem ggX4_told_X0_tell : GoodIn wsX4_told wsX0_tell := goodIn_r _ [16, 17, 18, 19, 20, 21, 22, 5, 23, 24, 34, 35, 36, 37, 38, 39] (by decide +kernel) (by decide +kernel)
set_option maxRecDepth 20000 in
theorem gX4_told_X0_tell : GoodIn wsX4_told (wsV RX4 133 RX0 yX0_tell wsX0_tell) := goodIn_app (goodIn_of _ (by decide +kernel)) ggX4_told_X0_tell
theorem dX4_told_0 : decode cX4_told 0 = .ok (.aload_n 0, 1) := by decide +kernel
theorem dX4_told_1 : decode cX4_told 1 = .ok (.iload_n 1, 1) := by decide +kernel
theorem dX4_told_2 : decode cX4_told 2 = .ok (.invokevirtual 110, 3) := by decide +kernel
theorem dX4_told_5 : decode cX4_told 5 = .ok (.iload_n 2, 1) := by decide +kernel
theorem dX4_told_6 : decode cX4_told 6 = .ok (.bipush 6, 2) := by decide +kernel
theorem dX4_told_8 : decode cX4_told 8 = .ok (.invokestatic 82, 3) := by decide +kernel
theorem dX4_told_11 : decode cX4_told 11 = .ok (.aload_n 0, 1) := by decide +kernel
theorem dX4_told_12 : decode cX4_told 12 = .ok (.getfield 10, 3) := by decide +kernel
theorem dX4_told_15 : decode cX4_told 15 = .ok (.getfield 99, 3) := by decide +kernel
theorem dX4_told_18 : decode cX4_told 18 = .ok (.iload_n 1, 1) := by decide +kernel
theorem dX4_told_19 : decode cX4_told 19 = .ok (.iload_n 2, 1) := by decide +kernel
theorem dX4_told_20 : decode cX4_told 20 = .ok (.invokevirtual 133, 3) := by decide +kernel
theorem dX4_told_23 : decode cX4_told 23 = .ok (.ireturn, 1) := by decide +kernel
set_option maxRecDepth 20000 in
theorem ggX4_landing_X4_needLanding : GoodIn wsX4_landing wsX4_needLanding := goodIn_ca (goodIn_r _ [5, 6, 7] (by decide +kernel) (by decide +kernel)) (goodIn_sub (fun _ h => List.mem_cons_of_mem _ (List.mem_append_right _ h)) (by decide +kernel))
set_option maxRecDepth 20000 in
theorem gX4_landing_X4_needLanding : GoodIn wsX4_landing (va_wsS RX4 134 yX4_needLanding wsX4_needLanding) := goodIn_app (goodIn_of _ (by decide +kernel)) ggX4_landing_X4_needLanding
set_option maxRecDepth 20000 in
theorem ggX4_landing_X4_needFigure : GoodIn wsX4_landing wsX4_needFigure := goodIn_ca (goodIn_r _ [10, 6, 7] (by decide +kernel) (by decide +kernel)) (goodIn_sub (fun _ h => List.mem_cons_of_mem _ (List.mem_append_right _ h)) (by decide +kernel))
set_option maxRecDepth 20000 in
theorem gX4_landing_X4_needFigure : GoodIn wsX4_landing (va_wsS RX4 82 yX4_needFigure wsX4_needFigure) := goodIn_app (goodIn_of _ (by decide +kernel)) ggX4_landing_X4_needFigure
set_option maxRecDepth 20000 in
theorem ggX4_landing_X2_tell : GoodIn wsX4_landing wsX2_tell := goodIn_r _ [15, 16, 17, 18, 19, 14, 20, 21, 22, 23, 24, 25, 26, 27, 28, 38] (by decide +kernel) (by decide +kernel)
set_option maxRecDepth 20000 in
theorem gX4_landing_X2_tell : GoodIn wsX4_landing (wsV RX4 141 RX2 yX2_tell wsX2_tell) := goodIn_app (goodIn_of _ (by decide +kernel)) ggX4_landing_X2_tell
theorem dX4_landing_0 : decode cX4_landing 0 = .ok (.iload_n 1, 1) := by decide +kernel
theorem dX4_landing_1 : decode cX4_landing 1 = .ok (.invokestatic 134, 3) := by decide +kernel
theorem dX4_landing_4 : decode cX4_landing 4 = .ok (.iload_n 2, 1) := by decide +kernel
theorem dX4_landing_5 : decode cX4_landing 5 = .ok (.iconst 4, 1) := by decide +kernel
theorem dX4_landing_6 : decode cX4_landing 6 = .ok (.invokestatic 82, 3) := by decide +kernel
theorem dX4_landing_9 : decode cX4_landing 9 = .ok (.aload_n 0, 1) := by decide +kernel
theorem dX4_landing_10 : decode cX4_landing 10 = .ok (.getfield 10, 3) := by decide +kernel
theorem dX4_landing_13 : decode cX4_landing 13 = .ok (.getfield 137, 3) := by decide +kernel
theorem dX4_landing_16 : decode cX4_landing 16 = .ok (.iload_n 1, 1) := by decide +kernel
theorem dX4_landing_17 : decode cX4_landing 17 = .ok (.iload_n 2, 1) := by decide +kernel
theorem dX4_landing_18 : decode cX4_landing 18 = .ok (.invokevirtual 141, 3) := by decide +kernel
theorem dX4_landing_21 : decode cX4_landing 21 = .ok (.ireturn, 1) := by decide +kernel
set_option maxRecDepth 20000 in
theorem ggX4_would_X4_needBarge : GoodIn wsX4_would wsX4_needBarge := goodIn_ca (goodIn_r _ [8, 9, 10, 2, 128, 129, 130, 131, 132, 133, 134, 135, 136, 137, 138, 139, 140, 141, 142] (by decide +kernel) (by decide +kernel)) (goodIn_sub (fun _ h => List.mem_cons_of_mem _ (List.mem_append_right _ h)) (by decide +kernel))
set_option maxRecDepth 20000 in
theorem gX4_would_X4_needBarge : GoodIn wsX4_would (wsV RX4 110 RX4 yX4_needBarge wsX4_needBarge) := goodIn_app (goodIn_of _ (by decide +kernel)) ggX4_would_X4_needBarge
set_option maxRecDepth 20000 in
theorem ggX4_would_X4_needLanding : GoodIn wsX4_would wsX4_needLanding := goodIn_ca (goodIn_r _ [13, 9, 10] (by decide +kernel) (by decide +kernel)) (goodIn_sub (fun _ h => List.mem_cons_of_mem _ (List.mem_append_right _ h)) (by decide +kernel))
set_option maxRecDepth 20000 in
theorem gX4_would_X4_needLanding : GoodIn wsX4_would (va_wsS RX4 134 yX4_needLanding wsX4_needLanding) := goodIn_app (goodIn_of _ (by decide +kernel)) ggX4_would_X4_needLanding
set_option maxRecDepth 20000 in
theorem ggX4_would_X3_copyFrom : GoodIn wsX4_would wsX3_copyFrom := goodIn_r _ [18, 19, 20, 21, 22, 23, 24, 25, 26, 27, 28, 29, 30, 31, 32, 33, 34, 35, 36, 37, 38, 39, 40, 41, 42, 43, 44, 45, 46, 47, 48, 49, 50, 51, 52, 53, 54, 55, 56, 130, 131, 132, 133, 134, 135, 136, 143, 144, 145, 146, 147, 148, 149, 150, 151, 152, 137, 138, 139, 140, 141, 142, 153] (by decide +kernel) (by decide +kernel)
set_option maxRecDepth 20000 in
theorem gX4_would_X3_copyFrom : GoodIn wsX4_would (wsV RX4 144 RX3 yX3_copyFrom wsX3_copyFrom) := goodIn_app (goodIn_of _ (by decide +kernel)) ggX4_would_X3_copyFrom
set_option maxRecDepth 20000 in
theorem ggX4_would_X0_send : GoodIn wsX4_would wsX0_send := goodIn_r _ [60, 46, 61, 62, 63, 64, 47, 137, 138, 139, 140, 141, 142] (by decide +kernel) (by decide +kernel)
set_option maxRecDepth 20000 in
theorem gX4_would_X0_send : GoodIn wsX4_would (wsV RX4 113 RX0 yX0_send wsX0_send) := goodIn_app (goodIn_of _ (by decide +kernel)) ggX4_would_X0_send
set_option maxRecDepth 20000 in
theorem ggX4_would_X3_passDays : GoodIn wsX4_would wsX3_passDays := goodIn_r _ [68, 22, 69, 70, 71, 17, 72, 24, 23, 25, 19, 73, 74, 75, 43, 76, 45, 47, 46, 77, 78, 63, 79, 80, 81, 82, 83, 84, 85, 29, 86, 31, 36, 37, 87, 7, 88, 89, 90, 91, 54, 92, 56, 93, 94, 95, 96, 97, 98, 99, 34, 35, 100, 101, 102, 103, 104, 105, 106, 107, 108, 32, 109, 62, 64, 130, 131, 132, 133, 134, 135, 136, 137, 138, 139, 140, 141, 142, 143, 144, 145, 146, 147, 148, 149, 150, 151, 152, 153] (by decide +kernel) (by decide +kernel)
set_option maxRecDepth 20000 in
theorem gX4_would_X3_passDays : GoodIn wsX4_would (wsV RX4 150 RX3 yX3_passDays wsX3_passDays) := goodIn_app (goodIn_of _ (by decide +kernel)) ggX4_would_X3_passDays
set_option maxRecDepth 20000 in
theorem ggX4_would_X3_sellAll : GoodIn wsX4_would wsX3_sellAll := goodIn_r _ [113, 24, 25, 20, 114, 115, 116, 43, 117, 48, 49, 118, 119, 120, 54, 121, 56, 122, 81, 63, 82, 123, 124, 125, 126, 127, 130, 131, 132, 133, 134, 135, 136, 137, 138, 139, 140, 141, 142, 153] (by decide +kernel) (by decide +kernel)
set_option maxRecDepth 20000 in
theorem gX4_would_X3_sellAll : GoodIn wsX4_would (wsV RX4 130 RX3 yX3_sellAll wsX3_sellAll) := goodIn_app (goodIn_of _ (by decide +kernel)) ggX4_would_X3_sellAll
theorem dX4_would_0 : decode cX4_would 0 = .ok (.aload_n 0, 1) := by decide +kernel
theorem dX4_would_1 : decode cX4_would 1 = .ok (.iload_n 1, 1) := by decide +kernel
theorem dX4_would_2 : decode cX4_would 2 = .ok (.invokevirtual 110, 3) := by decide +kernel
theorem dX4_would_5 : decode cX4_would 5 = .ok (.iload_n 2, 1) := by decide +kernel
theorem dX4_would_6 : decode cX4_would 6 = .ok (.invokestatic 134, 3) := by decide +kernel
theorem dX4_would_9 : decode cX4_would 9 = .ok (.aload_n 0, 1) := by decide +kernel
theorem dX4_would_10 : decode cX4_would 10 = .ok (.getfield 16, 3) := by decide +kernel
theorem dX4_would_13 : decode cX4_would 13 = .ok (.aload_n 0, 1) := by decide +kernel
theorem dX4_would_14 : decode cX4_would 14 = .ok (.getfield 10, 3) := by decide +kernel
theorem dX4_would_17 : decode cX4_would 17 = .ok (.invokevirtual 144, 3) := by decide +kernel
theorem dX4_would_20 : decode cX4_would 20 = .ok (.aload_n 0, 1) := by decide +kernel
theorem dX4_would_21 : decode cX4_would 21 = .ok (.getfield 16, 3) := by decide +kernel
theorem dX4_would_24 : decode cX4_would 24 = .ok (.getfield 99, 3) := by decide +kernel
theorem dX4_would_27 : decode cX4_would 27 = .ok (.iload_n 1, 1) := by decide +kernel
theorem dX4_would_28 : decode cX4_would 28 = .ok (.getstatic 147, 3) := by decide +kernel
theorem dX4_would_31 : decode cX4_would 31 = .ok (.iload_n 2, 1) := by decide +kernel
theorem dX4_would_32 : decode cX4_would 32 = .ok (.iaload, 1) := by decide +kernel
theorem dX4_would_33 : decode cX4_would 33 = .ok (.invokevirtual 113, 3) := by decide +kernel
theorem dX4_would_36 : decode cX4_would 36 = .ok (.istore_n 3, 1) := by decide +kernel
theorem dX4_would_37 : decode cX4_would 37 = .ok (.aload_n 0, 1) := by decide +kernel
theorem dX4_would_38 : decode cX4_would 38 = .ok (.getfield 16, 3) := by decide +kernel
theorem dX4_would_41 : decode cX4_would 41 = .ok (.iload_n 3, 1) := by decide +kernel
theorem dX4_would_42 : decode cX4_would 42 = .ok (.invokevirtual 150, 3) := by decide +kernel
theorem dX4_would_45 : decode cX4_would 45 = .ok (.pop, 1) := by decide +kernel
theorem dX4_would_46 : decode cX4_would 46 = .ok (.aload_n 0, 1) := by decide +kernel
theorem dX4_would_47 : decode cX4_would 47 = .ok (.getfield 16, 3) := by decide +kernel
theorem dX4_would_50 : decode cX4_would 50 = .ok (.iload_n 1, 1) := by decide +kernel
theorem dX4_would_51 : decode cX4_would 51 = .ok (.iload_n 2, 1) := by decide +kernel
theorem dX4_would_52 : decode cX4_would 52 = .ok (.invokevirtual 130, 3) := by decide +kernel
theorem dX4_would_55 : decode cX4_would 55 = .ok (.ireturn, 1) := by decide +kernel
set_option maxRecDepth 20000 in
theorem ggX4_advise_X4_needBarge : GoodIn wsX4_advise wsX4_needBarge := goodIn_ca (goodIn_r _ [5, 6, 7, 8, 132, 133, 134, 135, 136, 137, 138, 139, 140, 141, 142, 143, 144, 145, 146] (by decide +kernel) (by decide +kernel)) (goodIn_sub (fun _ h => List.mem_cons_of_mem _ (List.mem_append_right _ h)) (by decide +kernel))
set_option maxRecDepth 20000 in
theorem gX4_advise_X4_needBarge : GoodIn wsX4_advise (wsV RX4 110 RX4 yX4_needBarge wsX4_needBarge) := goodIn_app (goodIn_of _ (by decide +kernel)) ggX4_advise_X4_needBarge
set_option maxRecDepth 20000 in
theorem ggX4_advise_X4_would : GoodIn wsX4_advise wsX4_would := goodIn_ca (goodIn_r _ [12, 13, 8, 14, 1, 2, 3, 4, 5, 6, 7, 15, 16, 17, 18, 19, 20, 21, 22, 23, 24, 25, 26, 27, 28, 29, 30, 31, 32, 33, 34, 35, 36, 37, 38, 39, 40, 41, 42, 43, 44, 45, 46, 47, 48, 49, 50, 51, 52, 53, 54, 55, 56, 57, 58, 59, 60, 61, 62, 63, 64, 65, 66, 67, 68, 69, 70, 71, 72, 73, 74, 75, 76, 77, 78, 79, 80, 81, 82, 83, 84, 85, 86, 87, 88, 89, 90, 91, 92, 93, 94, 95, 96, 97, 98, 99, 100, 101, 102, 103, 104, 105, 106, 107, 108, 109, 110, 111, 112, 113, 114, 115, 116, 117, 118, 119, 120, 121, 122, 123, 124, 125, 126, 127, 128, 129, 130, 131, 132, 133, 134, 135, 136, 137, 138, 139, 140, 141, 142, 143, 144, 145, 146, 147, 148, 149, 150, 151, 152, 153, 154, 155, 156, 157] (by decide +kernel) (by decide +kernel)) (goodIn_sub (fun _ h => List.mem_cons_of_mem _ (List.mem_append_right _ h)) (by decide +kernel))
set_option maxRecDepth 20000 in
theorem gX4_advise_X4_would : GoodIn wsX4_advise (wsV RX4 153 RX4 yX4_would wsX4_would) := goodIn_app (goodIn_of _ (by decide +kernel)) ggX4_advise_X4_would
theorem dX4_advise_0 : decode cX4_advise 0 = .ok (.aload_n 0, 1) := by decide +kernel
theorem dX4_advise_1 : decode cX4_advise 1 = .ok (.iload_n 1, 1) := by decide +kernel
theorem dX4_advise_2 : decode cX4_advise 2 = .ok (.invokevirtual 110, 3) := by decide +kernel
theorem dX4_advise_5 : decode cX4_advise 5 = .ok (.iconst 0, 1) := by decide +kernel
theorem dX4_advise_6 : decode cX4_advise 6 = .ok (.istore_n 2, 1) := by decide +kernel
theorem dX4_advise_7 : decode cX4_advise 7 = .ok (.aload_n 0, 1) := by decide +kernel
theorem dX4_advise_8 : decode cX4_advise 8 = .ok (.iload_n 1, 1) := by decide +kernel
theorem dX4_advise_9 : decode cX4_advise 9 = .ok (.iconst 0, 1) := by decide +kernel
theorem dX4_advise_10 : decode cX4_advise 10 = .ok (.invokevirtual 153, 3) := by decide +kernel
theorem dX4_advise_13 : decode cX4_advise 13 = .ok (.istore_n 3, 1) := by decide +kernel
theorem dX4_advise_14 : decode cX4_advise 14 = .ok (.iconst 1, 1) := by decide +kernel
theorem dX4_advise_15 : decode cX4_advise 15 = .ok (.istore 4, 2) := by decide +kernel
theorem dX4_advise_17 : decode cX4_advise 17 = .ok (.iload 4, 2) := by decide +kernel
theorem dX4_advise_19 : decode cX4_advise 19 = .ok (.iconst 3, 1) := by decide +kernel
theorem dX4_advise_20 : decode cX4_advise 20 = .ok (.if_icmp .ge 30, 3) := by decide +kernel
theorem dX4_advise_23 : decode cX4_advise 23 = .ok (.aload_n 0, 1) := by decide +kernel
theorem dX4_advise_24 : decode cX4_advise 24 = .ok (.iload_n 1, 1) := by decide +kernel
theorem dX4_advise_25 : decode cX4_advise 25 = .ok (.iload 4, 2) := by decide +kernel
theorem dX4_advise_27 : decode cX4_advise 27 = .ok (.invokevirtual 153, 3) := by decide +kernel
theorem dX4_advise_30 : decode cX4_advise 30 = .ok (.istore 5, 2) := by decide +kernel
theorem dX4_advise_32 : decode cX4_advise 32 = .ok (.iload 5, 2) := by decide +kernel
theorem dX4_advise_34 : decode cX4_advise 34 = .ok (.iload_n 3, 1) := by decide +kernel
theorem dX4_advise_35 : decode cX4_advise 35 = .ok (.if_icmp .le 9, 3) := by decide +kernel
theorem dX4_advise_38 : decode cX4_advise 38 = .ok (.iload 5, 2) := by decide +kernel
theorem dX4_advise_40 : decode cX4_advise 40 = .ok (.istore_n 3, 1) := by decide +kernel
theorem dX4_advise_41 : decode cX4_advise 41 = .ok (.iload 4, 2) := by decide +kernel
theorem dX4_advise_43 : decode cX4_advise 43 = .ok (.istore_n 2, 1) := by decide +kernel
theorem dX4_advise_44 : decode cX4_advise 44 = .ok (.iinc 4 1, 3) := by decide +kernel
theorem dX4_advise_47 : decode cX4_advise 47 = .ok (.goto (-30), 3) := by decide +kernel
theorem dX4_advise_50 : decode cX4_advise 50 = .ok (.iload_n 2, 1) := by decide +kernel
theorem dX4_advise_51 : decode cX4_advise 51 = .ok (.ireturn, 1) := by decide +kernel
set_option maxRecDepth 20000 in
theorem ggX4_count_X4_needFigure : GoodIn wsX4_count wsX4_needFigure := goodIn_ca (goodIn_r _ [5, 6, 7] (by decide +kernel) (by decide +kernel)) (goodIn_sub (fun _ h => List.mem_cons_of_mem _ (List.mem_append_right _ h)) (by decide +kernel))
set_option maxRecDepth 20000 in
theorem gX4_count_X4_needFigure : GoodIn wsX4_count (va_wsS RX4 82 yX4_needFigure wsX4_needFigure) := goodIn_app (goodIn_of _ (by decide +kernel)) ggX4_count_X4_needFigure
set_option maxRecDepth 20000 in
theorem ggX4_count_X3_tell : GoodIn wsX4_count wsX3_tell := goodIn_r _ [12, 13, 14, 15, 16, 17, 18, 19, 20, 21, 22, 23, 24, 25, 26, 27, 28, 29, 30, 31, 32, 33, 34, 35, 36, 37, 38, 39, 40, 41, 42, 43, 44, 45, 46, 47, 48, 49, 50, 51, 52, 53, 54, 55, 56, 57, 58, 59, 60, 61, 64, 65, 66, 67, 68, 69, 70, 71, 72, 73, 74, 75, 76, 77, 78, 79, 80, 81, 82, 83, 84, 85, 86, 87] (by decide +kernel) (by decide +kernel)
set_option maxRecDepth 20000 in
theorem gX4_count_X3_tell : GoodIn wsX4_count (wsV RX4 156 RX3 yX3_tell wsX3_tell) := goodIn_app (goodIn_of _ (by decide +kernel)) ggX4_count_X3_tell
theorem dX4_count_0 : decode cX4_count 0 = .ok (.iload_n 1, 1) := by decide +kernel
theorem dX4_count_1 : decode cX4_count 1 = .ok (.bipush 11, 2) := by decide +kernel
theorem dX4_count_3 : decode cX4_count 3 = .ok (.invokestatic 82, 3) := by decide +kernel
theorem dX4_count_6 : decode cX4_count 6 = .ok (.aload_n 0, 1) := by decide +kernel
theorem dX4_count_7 : decode cX4_count 7 = .ok (.getfield 10, 3) := by decide +kernel
theorem dX4_count_10 : decode cX4_count 10 = .ok (.iload_n 1, 1) := by decide +kernel
theorem dX4_count_11 : decode cX4_count 11 = .ok (.invokevirtual 156, 3) := by decide +kernel
theorem dX4_count_14 : decode cX4_count 14 = .ok (.ireturn, 1) := by decide +kernel
set_option maxRecDepth 20000 in
theorem ggX4_pass_X4_needDays : GoodIn wsX4_pass wsX4_needDays := goodIn_ca (goodIn_r _ [5, 6, 7] (by decide +kernel) (by decide +kernel)) (goodIn_sub (fun _ h => List.mem_cons_of_mem _ (List.mem_append_right _ h)) (by decide +kernel))
set_option maxRecDepth 20000 in
theorem gX4_pass_X4_needDays : GoodIn wsX4_pass (va_wsS RX4 158 yX4_needDays wsX4_needDays) := goodIn_app (goodIn_of _ (by decide +kernel)) ggX4_pass_X4_needDays
set_option maxRecDepth 20000 in
theorem ggX4_pass_X3_passDays : GoodIn wsX4_pass wsX3_passDays := goodIn_r _ [12, 13, 14, 15, 16, 11, 17, 18, 19, 20, 21, 22, 23, 24, 25, 26, 27, 28, 29, 30, 31, 32, 33, 34, 35, 36, 37, 38, 39, 40, 41, 42, 43, 44, 45, 4, 46, 47, 48, 49, 50, 51, 52, 53, 54, 55, 56, 57, 58, 59, 60, 61, 62, 63, 64, 65, 66, 67, 68, 69, 70, 71, 72, 73, 74, 77, 78, 79, 80, 81, 82, 83, 84, 85, 86, 87, 88, 89, 90, 91, 92, 93, 94, 95, 96, 97, 98, 99, 100] (by decide +kernel) (by decide +kernel)
set_option maxRecDepth 20000 in
theorem gX4_pass_X3_passDays : GoodIn wsX4_pass (wsV RX4 150 RX3 yX3_passDays wsX3_passDays) := goodIn_app (goodIn_of _ (by decide +kernel)) ggX4_pass_X3_passDays
theorem dX4_pass_0 : decode cX4_pass 0 = .ok (.iload_n 1, 1) := by decide +kernel
theorem dX4_pass_1 : decode cX4_pass 1 = .ok (.invokestatic 158, 3) := by decide +kernel
theorem dX4_pass_4 : decode cX4_pass 4 = .ok (.aload_n 0, 1) := by decide +kernel
theorem dX4_pass_5 : decode cX4_pass 5 = .ok (.getfield 10, 3) := by decide +kernel
theorem dX4_pass_8 : decode cX4_pass 8 = .ok (.iload_n 1, 1) := by decide +kernel
theorem dX4_pass_9 : decode cX4_pass 9 = .ok (.invokevirtual 150, 3) := by decide +kernel
theorem dX4_pass_12 : decode cX4_pass 12 = .ok (.ireturn, 1) := by decide +kernel
set_option maxRecDepth 20000 in
theorem ggX4_foresee_X4_needDays : GoodIn wsX4_foresee wsX4_needDays := goodIn_ca (goodIn_r _ [8, 9, 10] (by decide +kernel) (by decide +kernel)) (goodIn_sub (fun _ h => List.mem_cons_of_mem _ (List.mem_append_right _ h)) (by decide +kernel))
set_option maxRecDepth 20000 in
theorem gX4_foresee_X4_needDays : GoodIn wsX4_foresee (va_wsS RX4 158 yX4_needDays wsX4_needDays) := goodIn_app (goodIn_of _ (by decide +kernel)) ggX4_foresee_X4_needDays
set_option maxRecDepth 20000 in
theorem ggX4_foresee_X3_copyFrom : GoodIn wsX4_foresee wsX3_copyFrom := goodIn_r _ [15, 16, 17, 18, 19, 20, 21, 22, 23, 24, 25, 26, 27, 28, 29, 30, 31, 32, 33, 34, 35, 36, 37, 38, 39, 40, 41, 42, 43, 44, 45, 46, 47, 48, 49, 50, 51, 52, 53, 136, 137, 138, 139, 140, 141, 142, 143, 144, 145, 146, 147, 148, 149, 150, 151, 152, 153, 154, 155, 156, 157, 158, 159] (by decide +kernel) (by decide +kernel)
set_option maxRecDepth 20000 in
theorem gX4_foresee_X3_copyFrom : GoodIn wsX4_foresee (wsV RX4 144 RX3 yX3_copyFrom wsX3_copyFrom) := goodIn_app (goodIn_of _ (by decide +kernel)) ggX4_foresee_X3_copyFrom
set_option maxRecDepth 20000 in
theorem ggX4_foresee_X3_passDays : GoodIn wsX4_foresee wsX3_passDays := goodIn_r _ [57, 19, 58, 59, 60, 14, 61, 21, 20, 22, 16, 62, 63, 64, 40, 65, 42, 44, 43, 66, 67, 68, 69, 70, 71, 72, 73, 74, 75, 26, 76, 28, 33, 34, 77, 7, 78, 79, 80, 81, 51, 82, 53, 83, 84, 85, 86, 87, 88, 89, 31, 32, 90, 91, 92, 93, 94, 95, 96, 97, 98, 29, 99, 100, 101, 136, 137, 138, 139, 140, 141, 142, 153, 154, 155, 156, 157, 158, 143, 144, 145, 146, 147, 148, 149, 150, 151, 152, 159] (by decide +kernel) (by decide +kernel)
set_option maxRecDepth 20000 in
theorem gX4_foresee_X3_passDays : GoodIn wsX4_foresee (wsV RX4 150 RX3 yX3_passDays wsX3_passDays) := goodIn_app (goodIn_of _ (by decide +kernel)) ggX4_foresee_X3_passDays
set_option maxRecDepth 20000 in
theorem ggX4_foresee_X3_tell : GoodIn wsX4_foresee wsX3_tell := goodIn_r _ [105, 16, 17, 18, 20, 21, 22, 19, 106, 107, 108, 26, 109, 28, 110, 111, 112, 113, 31, 30, 114, 115, 116, 117, 33, 34, 118, 119, 120, 121, 35, 36, 122, 123, 124, 40, 125, 42, 126, 127, 128, 129, 45, 46, 130, 131, 132, 51, 133, 53, 136, 137, 138, 139, 140, 141, 142, 143, 144, 145, 146, 147, 148, 149, 150, 151, 152, 153, 154, 155, 156, 157, 158, 159] (by decide +kernel) (by decide +kernel)
set_option maxRecDepth 20000 in
theorem gX4_foresee_X3_tell : GoodIn wsX4_foresee (wsV RX4 156 RX3 yX3_tell wsX3_tell) := goodIn_app (goodIn_of _ (by decide +kernel)) ggX4_foresee_X3_tell
theorem dX4_foresee_0 : decode cX4_foresee 0 = .ok (.iload_n 1, 1) := by decide +kernel
theorem dX4_foresee_1 : decode cX4_foresee 1 = .ok (.invokestatic 158, 3) := by decide +kernel
theorem dX4_foresee_4 : decode cX4_foresee 4 = .ok (.iload_n 2, 1) := by decide +kernel
theorem dX4_foresee_5 : decode cX4_foresee 5 = .ok (.iconst 4, 1) := by decide +kernel
theorem dX4_foresee_6 : decode cX4_foresee 6 = .ok (.if_icmp .eq 30, 3) := by decide +kernel
theorem dX4_foresee_9 : decode cX4_foresee 9 = .ok (.iload_n 2, 1) := by decide +kernel
theorem dX4_foresee_10 : decode cX4_foresee 10 = .ok (.iconst 5, 1) := by decide +kernel
theorem dX4_foresee_11 : decode cX4_foresee 11 = .ok (.if_icmp .eq 25, 3) := by decide +kernel
theorem dX4_foresee_14 : decode cX4_foresee 14 = .ok (.iload_n 2, 1) := by decide +kernel
theorem dX4_foresee_15 : decode cX4_foresee 15 = .ok (.bipush 9, 2) := by decide +kernel
theorem dX4_foresee_17 : decode cX4_foresee 17 = .ok (.if_icmp .eq 19, 3) := by decide +kernel
theorem dX4_foresee_20 : decode cX4_foresee 20 = .ok (.iload_n 2, 1) := by decide +kernel
theorem dX4_foresee_21 : decode cX4_foresee 21 = .ok (.bipush 10, 2) := by decide +kernel
theorem dX4_foresee_23 : decode cX4_foresee 23 = .ok (.if_icmp .eq 13, 3) := by decide +kernel
theorem dX4_foresee_26 : decode cX4_foresee 26 = .ok (.new 161, 3) := by decide +kernel
theorem dX4_foresee_29 : decode cX4_foresee 29 = .ok (.dup, 1) := by decide +kernel
theorem dX4_foresee_30 : decode cX4_foresee 30 = .ok (.ldc 163, 2) := by decide +kernel
theorem dX4_foresee_32 : decode cX4_foresee 32 = .ok (.invokespecial 165, 3) := by decide +kernel
theorem dX4_foresee_35 : decode cX4_foresee 35 = .ok (.athrow, 1) := by decide +kernel
theorem dX4_foresee_36 : decode cX4_foresee 36 = .ok (.aload_n 0, 1) := by decide +kernel
theorem dX4_foresee_37 : decode cX4_foresee 37 = .ok (.getfield 16, 3) := by decide +kernel
theorem dX4_foresee_40 : decode cX4_foresee 40 = .ok (.aload_n 0, 1) := by decide +kernel
theorem dX4_foresee_41 : decode cX4_foresee 41 = .ok (.getfield 10, 3) := by decide +kernel
theorem dX4_foresee_44 : decode cX4_foresee 44 = .ok (.invokevirtual 144, 3) := by decide +kernel
theorem dX4_foresee_47 : decode cX4_foresee 47 = .ok (.aload_n 0, 1) := by decide +kernel
theorem dX4_foresee_48 : decode cX4_foresee 48 = .ok (.getfield 16, 3) := by decide +kernel
theorem dX4_foresee_51 : decode cX4_foresee 51 = .ok (.iload_n 1, 1) := by decide +kernel
theorem dX4_foresee_52 : decode cX4_foresee 52 = .ok (.invokevirtual 150, 3) := by decide +kernel
theorem dX4_foresee_55 : decode cX4_foresee 55 = .ok (.pop, 1) := by decide +kernel
theorem dX4_foresee_56 : decode cX4_foresee 56 = .ok (.aload_n 0, 1) := by decide +kernel
theorem dX4_foresee_57 : decode cX4_foresee 57 = .ok (.getfield 16, 3) := by decide +kernel
theorem dX4_foresee_60 : decode cX4_foresee 60 = .ok (.iload_n 2, 1) := by decide +kernel
theorem dX4_foresee_61 : decode cX4_foresee 61 = .ok (.invokevirtual 156, 3) := by decide +kernel
theorem dX4_foresee_64 : decode cX4_foresee 64 = .ok (.ireturn, 1) := by decide +kernel
set_option maxRecDepth 20000 in
theorem ggX4_digest_X3_tell : GoodIn wsX4_digest wsX3_tell := goodIn_r _ [8, 9, 10, 11, 12, 13, 14, 15, 16, 17, 18, 19, 20, 21, 22, 23, 24, 25, 26, 27, 28, 29, 30, 31, 32, 33, 34, 35, 36, 37, 38, 39, 40, 41, 42, 43, 44, 45, 46, 47, 48, 49, 50, 51, 52, 53, 54, 55, 56, 57, 97, 98, 99, 100, 101, 102, 103, 104, 105, 106, 107, 108, 109, 110, 111, 112, 113, 114, 115, 116, 117, 118, 119, 120] (by decide +kernel) (by decide +kernel)
set_option maxRecDepth 20000 in
theorem gX4_digest_X3_tell : GoodIn wsX4_digest (wsV RX4 156 RX3 yX3_tell wsX3_tell) := goodIn_app (goodIn_of _ (by decide +kernel)) ggX4_digest_X3_tell
set_option maxRecDepth 20000 in
theorem ggX4_digest_X1_tell : GoodIn wsX4_digest wsX1_tell := goodIn_r _ [61, 62, 27, 26, 63, 32, 33, 38, 39, 22, 23, 24, 19, 25, 64, 65, 66, 67, 104, 105, 106, 107, 108, 109, 110, 111, 112, 113] (by decide +kernel) (by decide +kernel)
set_option maxRecDepth 20000 in
theorem gX4_digest_X1_tell : GoodIn wsX4_digest (wsV RX4 86 RX1 yX1_tell wsX1_tell) := goodIn_app (goodIn_of _ (by decide +kernel)) ggX4_digest_X1_tell
set_option maxRecDepth 20000 in
theorem ggX4_digest_X0_tell : GoodIn wsX4_digest wsX0_tell := goodIn_r _ [71, 72, 73, 50, 51, 74, 75, 76, 77, 78, 114, 115, 116, 117, 118, 119] (by decide +kernel) (by decide +kernel)
set_option maxRecDepth 20000 in
theorem gX4_digest_X0_tell : GoodIn wsX4_digest (wsV RX4 133 RX0 yX0_tell wsX0_tell) := goodIn_app (goodIn_of _ (by decide +kernel)) ggX4_digest_X0_tell
set_option maxRecDepth 20000 in
theorem ggX4_digest_X2_tell : GoodIn wsX4_digest wsX2_tell := goodIn_r _ [82, 57, 83, 84, 85, 55, 86, 87, 88, 89, 90, 91, 92, 93, 94, 120] (by decide +kernel) (by decide +kernel)
set_option maxRecDepth 20000 in
theorem gX4_digest_X2_tell : GoodIn wsX4_digest (wsV RX4 141 RX2 yX2_tell wsX2_tell) := goodIn_app (goodIn_of _ (by decide +kernel)) ggX4_digest_X2_tell
theorem dX4_digest_0 : decode cX4_digest 0 = .ok (.ldc2_w 173, 3) := by decide +kernel
theorem dX4_digest_3 : decode cX4_digest 3 = .ok (.lstore_n 1, 1) := by decide +kernel
theorem dX4_digest_4 : decode cX4_digest 4 = .ok (.iconst 0, 1) := by decide +kernel
theorem dX4_digest_5 : decode cX4_digest 5 = .ok (.istore_n 3, 1) := by decide +kernel
theorem dX4_digest_6 : decode cX4_digest 6 = .ok (.iload_n 3, 1) := by decide +kernel
theorem dX4_digest_7 : decode cX4_digest 7 = .ok (.bipush 11, 2) := by decide +kernel
theorem dX4_digest_9 : decode cX4_digest 9 = .ok (.if_icmp .ge 25, 3) := by decide +kernel
theorem dX4_digest_12 : decode cX4_digest 12 = .ok (.lload_n 1, 1) := by decide +kernel
theorem dX4_digest_13 : decode cX4_digest 13 = .ok (.ldc2_w 175, 3) := by decide +kernel
theorem dX4_digest_16 : decode cX4_digest 16 = .ok (.lmul, 1) := by decide +kernel
theorem dX4_digest_17 : decode cX4_digest 17 = .ok (.aload_n 0, 1) := by decide +kernel
theorem dX4_digest_18 : decode cX4_digest 18 = .ok (.getfield 10, 3) := by decide +kernel
theorem dX4_digest_21 : decode cX4_digest 21 = .ok (.iload_n 3, 1) := by decide +kernel
theorem dX4_digest_22 : decode cX4_digest 22 = .ok (.invokevirtual 156, 3) := by decide +kernel
theorem dX4_digest_25 : decode cX4_digest 25 = .ok (.i2l, 1) := by decide +kernel
theorem dX4_digest_26 : decode cX4_digest 26 = .ok (.ladd, 1) := by decide +kernel
theorem dX4_digest_27 : decode cX4_digest 27 = .ok (.lstore_n 1, 1) := by decide +kernel
theorem dX4_digest_28 : decode cX4_digest 28 = .ok (.iinc 3 1, 3) := by decide +kernel
theorem dX4_digest_31 : decode cX4_digest 31 = .ok (.goto (-25), 3) := by decide +kernel
theorem dX4_digest_34 : decode cX4_digest 34 = .ok (.iconst 0, 1) := by decide +kernel
theorem dX4_digest_35 : decode cX4_digest 35 = .ok (.istore_n 3, 1) := by decide +kernel
theorem dX4_digest_36 : decode cX4_digest 36 = .ok (.iload_n 3, 1) := by decide +kernel
theorem dX4_digest_37 : decode cX4_digest 37 = .ok (.aload_n 0, 1) := by decide +kernel
theorem dX4_digest_38 : decode cX4_digest 38 = .ok (.getfield 10, 3) := by decide +kernel
theorem dX4_digest_41 : decode cX4_digest 41 = .ok (.getfield 32, 3) := by decide +kernel
theorem dX4_digest_44 : decode cX4_digest 44 = .ok (.getfield 166, 3) := by decide +kernel
theorem dX4_digest_47 : decode cX4_digest 47 = .ok (.if_icmp .ge 46, 3) := by decide +kernel
theorem dX4_digest_50 : decode cX4_digest 50 = .ok (.iconst 0, 1) := by decide +kernel
theorem dX4_digest_51 : decode cX4_digest 51 = .ok (.istore 4, 2) := by decide +kernel
theorem dX4_digest_53 : decode cX4_digest 53 = .ok (.iload 4, 2) := by decide +kernel
theorem dX4_digest_55 : decode cX4_digest 55 = .ok (.bipush 10, 2) := by decide +kernel
theorem dX4_digest_57 : decode cX4_digest 57 = .ok (.if_icmp .ge 30, 3) := by decide +kernel
theorem dX4_digest_60 : decode cX4_digest 60 = .ok (.lload_n 1, 1) := by decide +kernel
theorem dX4_digest_61 : decode cX4_digest 61 = .ok (.ldc2_w 175, 3) := by decide +kernel
theorem dX4_digest_64 : decode cX4_digest 64 = .ok (.lmul, 1) := by decide +kernel
theorem dX4_digest_65 : decode cX4_digest 65 = .ok (.aload_n 0, 1) := by decide +kernel
theorem dX4_digest_66 : decode cX4_digest 66 = .ok (.getfield 10, 3) := by decide +kernel
theorem dX4_digest_69 : decode cX4_digest 69 = .ok (.getfield 32, 3) := by decide +kernel
theorem dX4_digest_72 : decode cX4_digest 72 = .ok (.iload_n 3, 1) := by decide +kernel
theorem dX4_digest_73 : decode cX4_digest 73 = .ok (.iload 4, 2) := by decide +kernel
theorem dX4_digest_75 : decode cX4_digest 75 = .ok (.invokevirtual 86, 3) := by decide +kernel
theorem dX4_digest_78 : decode cX4_digest 78 = .ok (.i2l, 1) := by decide +kernel
theorem dX4_digest_79 : decode cX4_digest 79 = .ok (.ladd, 1) := by decide +kernel
theorem dX4_digest_80 : decode cX4_digest 80 = .ok (.lstore_n 1, 1) := by decide +kernel
theorem dX4_digest_81 : decode cX4_digest 81 = .ok (.iinc 4 1, 3) := by decide +kernel
theorem dX4_digest_84 : decode cX4_digest 84 = .ok (.goto (-31), 3) := by decide +kernel
theorem dX4_digest_87 : decode cX4_digest 87 = .ok (.iinc 3 1, 3) := by decide +kernel
theorem dX4_digest_90 : decode cX4_digest 90 = .ok (.goto (-54), 3) := by decide +kernel
theorem dX4_digest_93 : decode cX4_digest 93 = .ok (.iconst 0, 1) := by decide +kernel
theorem dX4_digest_94 : decode cX4_digest 94 = .ok (.istore_n 3, 1) := by decide +kernel
theorem dX4_digest_95 : decode cX4_digest 95 = .ok (.iload_n 3, 1) := by decide +kernel
theorem dX4_digest_96 : decode cX4_digest 96 = .ok (.aload_n 0, 1) := by decide +kernel
theorem dX4_digest_97 : decode cX4_digest 97 = .ok (.getfield 10, 3) := by decide +kernel
theorem dX4_digest_100 : decode cX4_digest 100 = .ok (.getfield 99, 3) := by decide +kernel
theorem dX4_digest_103 : decode cX4_digest 103 = .ok (.getfield 177, 3) := by decide +kernel
theorem dX4_digest_106 : decode cX4_digest 106 = .ok (.if_icmp .ge 46, 3) := by decide +kernel
theorem dX4_digest_109 : decode cX4_digest 109 = .ok (.iconst 0, 1) := by decide +kernel
theorem dX4_digest_110 : decode cX4_digest 110 = .ok (.istore 4, 2) := by decide +kernel
theorem dX4_digest_112 : decode cX4_digest 112 = .ok (.iload 4, 2) := by decide +kernel
theorem dX4_digest_114 : decode cX4_digest 114 = .ok (.bipush 6, 2) := by decide +kernel
theorem dX4_digest_116 : decode cX4_digest 116 = .ok (.if_icmp .ge 30, 3) := by decide +kernel
theorem dX4_digest_119 : decode cX4_digest 119 = .ok (.lload_n 1, 1) := by decide +kernel
theorem dX4_digest_120 : decode cX4_digest 120 = .ok (.ldc2_w 175, 3) := by decide +kernel
theorem dX4_digest_123 : decode cX4_digest 123 = .ok (.lmul, 1) := by decide +kernel
theorem dX4_digest_124 : decode cX4_digest 124 = .ok (.aload_n 0, 1) := by decide +kernel
theorem dX4_digest_125 : decode cX4_digest 125 = .ok (.getfield 10, 3) := by decide +kernel
theorem dX4_digest_128 : decode cX4_digest 128 = .ok (.getfield 99, 3) := by decide +kernel
theorem dX4_digest_131 : decode cX4_digest 131 = .ok (.iload_n 3, 1) := by decide +kernel
theorem dX4_digest_132 : decode cX4_digest 132 = .ok (.iload 4, 2) := by decide +kernel
theorem dX4_digest_134 : decode cX4_digest 134 = .ok (.invokevirtual 133, 3) := by decide +kernel
theorem dX4_digest_137 : decode cX4_digest 137 = .ok (.i2l, 1) := by decide +kernel
theorem dX4_digest_138 : decode cX4_digest 138 = .ok (.ladd, 1) := by decide +kernel
theorem dX4_digest_139 : decode cX4_digest 139 = .ok (.lstore_n 1, 1) := by decide +kernel
theorem dX4_digest_140 : decode cX4_digest 140 = .ok (.iinc 4 1, 3) := by decide +kernel
theorem dX4_digest_143 : decode cX4_digest 143 = .ok (.goto (-31), 3) := by decide +kernel
theorem dX4_digest_146 : decode cX4_digest 146 = .ok (.iinc 3 1, 3) := by decide +kernel
theorem dX4_digest_149 : decode cX4_digest 149 = .ok (.goto (-54), 3) := by decide +kernel
theorem dX4_digest_152 : decode cX4_digest 152 = .ok (.iconst 0, 1) := by decide +kernel
theorem dX4_digest_153 : decode cX4_digest 153 = .ok (.istore_n 3, 1) := by decide +kernel
theorem dX4_digest_154 : decode cX4_digest 154 = .ok (.iload_n 3, 1) := by decide +kernel
theorem dX4_digest_155 : decode cX4_digest 155 = .ok (.iconst 3, 1) := by decide +kernel
theorem dX4_digest_156 : decode cX4_digest 156 = .ok (.if_icmp .ge 45, 3) := by decide +kernel
theorem dX4_digest_159 : decode cX4_digest 159 = .ok (.iconst 0, 1) := by decide +kernel
theorem dX4_digest_160 : decode cX4_digest 160 = .ok (.istore 4, 2) := by decide +kernel
theorem dX4_digest_162 : decode cX4_digest 162 = .ok (.iload 4, 2) := by decide +kernel
theorem dX4_digest_164 : decode cX4_digest 164 = .ok (.iconst 4, 1) := by decide +kernel
theorem dX4_digest_165 : decode cX4_digest 165 = .ok (.if_icmp .ge 30, 3) := by decide +kernel
theorem dX4_digest_168 : decode cX4_digest 168 = .ok (.lload_n 1, 1) := by decide +kernel
theorem dX4_digest_169 : decode cX4_digest 169 = .ok (.ldc2_w 175, 3) := by decide +kernel
theorem dX4_digest_172 : decode cX4_digest 172 = .ok (.lmul, 1) := by decide +kernel
theorem dX4_digest_173 : decode cX4_digest 173 = .ok (.aload_n 0, 1) := by decide +kernel
theorem dX4_digest_174 : decode cX4_digest 174 = .ok (.getfield 10, 3) := by decide +kernel
theorem dX4_digest_177 : decode cX4_digest 177 = .ok (.getfield 137, 3) := by decide +kernel
theorem dX4_digest_180 : decode cX4_digest 180 = .ok (.iload_n 3, 1) := by decide +kernel
theorem dX4_digest_181 : decode cX4_digest 181 = .ok (.iload 4, 2) := by decide +kernel
theorem dX4_digest_183 : decode cX4_digest 183 = .ok (.invokevirtual 141, 3) := by decide +kernel
theorem dX4_digest_186 : decode cX4_digest 186 = .ok (.i2l, 1) := by decide +kernel
theorem dX4_digest_187 : decode cX4_digest 187 = .ok (.ladd, 1) := by decide +kernel
theorem dX4_digest_188 : decode cX4_digest 188 = .ok (.lstore_n 1, 1) := by decide +kernel
theorem dX4_digest_189 : decode cX4_digest 189 = .ok (.iinc 4 1, 3) := by decide +kernel
theorem dX4_digest_192 : decode cX4_digest 192 = .ok (.goto (-30), 3) := by decide +kernel
theorem dX4_digest_195 : decode cX4_digest 195 = .ok (.iinc 3 1, 3) := by decide +kernel
theorem dX4_digest_198 : decode cX4_digest 198 = .ok (.goto (-44), 3) := by decide +kernel
theorem dX4_digest_201 : decode cX4_digest 201 = .ok (.lload_n 1, 1) := by decide +kernel
theorem dX4_digest_202 : decode cX4_digest 202 = .ok (.lreturn, 1) := by decide +kernel
theorem dX4_needBed_0 : decode cX4_needBed 0 = .ok (.iload_n 1, 1) := by decide +kernel
theorem dX4_needBed_1 : decode cX4_needBed 1 = .ok (.ifCond .lt 17, 3) := by decide +kernel
theorem dX4_needBed_4 : decode cX4_needBed 4 = .ok (.iload_n 1, 1) := by decide +kernel
theorem dX4_needBed_5 : decode cX4_needBed 5 = .ok (.aload_n 0, 1) := by decide +kernel
theorem dX4_needBed_6 : decode cX4_needBed 6 = .ok (.getfield 10, 3) := by decide +kernel
theorem dX4_needBed_9 : decode cX4_needBed 9 = .ok (.getfield 32, 3) := by decide +kernel
theorem dX4_needBed_12 : decode cX4_needBed 12 = .ok (.getfield 166, 3) := by decide +kernel
theorem dX4_needBed_15 : decode cX4_needBed 15 = .ok (.if_icmp .lt 13, 3) := by decide +kernel
theorem dX4_needBed_18 : decode cX4_needBed 18 = .ok (.new 161, 3) := by decide +kernel
theorem dX4_needBed_21 : decode cX4_needBed 21 = .ok (.dup, 1) := by decide +kernel
theorem dX4_needBed_22 : decode cX4_needBed 22 = .ok (.ldc 178, 2) := by decide +kernel
theorem dX4_needBed_24 : decode cX4_needBed 24 = .ok (.invokespecial 165, 3) := by decide +kernel
theorem dX4_needBed_27 : decode cX4_needBed 27 = .ok (.athrow, 1) := by decide +kernel
theorem dX4_needBed_28 : decode cX4_needBed 28 = .ok (.return_, 1) := by decide +kernel
theorem dX4_needBarge_0 : decode cX4_needBarge 0 = .ok (.iload_n 1, 1) := by decide +kernel
theorem dX4_needBarge_1 : decode cX4_needBarge 1 = .ok (.ifCond .lt 17, 3) := by decide +kernel
theorem dX4_needBarge_4 : decode cX4_needBarge 4 = .ok (.iload_n 1, 1) := by decide +kernel
theorem dX4_needBarge_5 : decode cX4_needBarge 5 = .ok (.aload_n 0, 1) := by decide +kernel
theorem dX4_needBarge_6 : decode cX4_needBarge 6 = .ok (.getfield 10, 3) := by decide +kernel
theorem dX4_needBarge_9 : decode cX4_needBarge 9 = .ok (.getfield 99, 3) := by decide +kernel
theorem dX4_needBarge_12 : decode cX4_needBarge 12 = .ok (.getfield 177, 3) := by decide +kernel
theorem dX4_needBarge_15 : decode cX4_needBarge 15 = .ok (.if_icmp .lt 13, 3) := by decide +kernel
theorem dX4_needBarge_18 : decode cX4_needBarge 18 = .ok (.new 161, 3) := by decide +kernel
theorem dX4_needBarge_21 : decode cX4_needBarge 21 = .ok (.dup, 1) := by decide +kernel
theorem dX4_needBarge_22 : decode cX4_needBarge 22 = .ok (.ldc 180, 2) := by decide +kernel
theorem dX4_needBarge_24 : decode cX4_needBarge 24 = .ok (.invokespecial 165, 3) := by decide +kernel
theorem dX4_needBarge_27 : decode cX4_needBarge 27 = .ok (.athrow, 1) := by decide +kernel
theorem dX4_needBarge_28 : decode cX4_needBarge 28 = .ok (.return_, 1) := by decide +kernel
theorem dX4_needLanding_0 : decode cX4_needLanding 0 = .ok (.iload_n 0, 1) := by decide +kernel
theorem dX4_needLanding_1 : decode cX4_needLanding 1 = .ok (.ifCond .lt 8, 3) := by decide +kernel
theorem dX4_needLanding_4 : decode cX4_needLanding 4 = .ok (.iload_n 0, 1) := by decide +kernel
theorem dX4_needLanding_5 : decode cX4_needLanding 5 = .ok (.iconst 3, 1) := by decide +kernel
theorem dX4_needLanding_6 : decode cX4_needLanding 6 = .ok (.if_icmp .lt 13, 3) := by decide +kernel
theorem dX4_needLanding_9 : decode cX4_needLanding 9 = .ok (.new 161, 3) := by decide +kernel
theorem dX4_needLanding_12 : decode cX4_needLanding 12 = .ok (.dup, 1) := by decide +kernel
theorem dX4_needLanding_13 : decode cX4_needLanding 13 = .ok (.ldc 182, 2) := by decide +kernel
theorem dX4_needLanding_15 : decode cX4_needLanding 15 = .ok (.invokespecial 165, 3) := by decide +kernel
theorem dX4_needLanding_18 : decode cX4_needLanding 18 = .ok (.athrow, 1) := by decide +kernel
theorem dX4_needLanding_19 : decode cX4_needLanding 19 = .ok (.return_, 1) := by decide +kernel
theorem dX4_needPlace_0 : decode cX4_needPlace 0 = .ok (.iload_n 0, 1) := by decide +kernel
theorem dX4_needPlace_1 : decode cX4_needPlace 1 = .ok (.ifCond .lt 9, 3) := by decide +kernel
theorem dX4_needPlace_4 : decode cX4_needPlace 4 = .ok (.iload_n 0, 1) := by decide +kernel
theorem dX4_needPlace_5 : decode cX4_needPlace 5 = .ok (.bipush 30, 2) := by decide +kernel
theorem dX4_needPlace_7 : decode cX4_needPlace 7 = .ok (.if_icmp .le 13, 3) := by decide +kernel
theorem dX4_needPlace_10 : decode cX4_needPlace 10 = .ok (.new 161, 3) := by decide +kernel
theorem dX4_needPlace_13 : decode cX4_needPlace 13 = .ok (.dup, 1) := by decide +kernel
theorem dX4_needPlace_14 : decode cX4_needPlace 14 = .ok (.ldc 184, 2) := by decide +kernel
theorem dX4_needPlace_16 : decode cX4_needPlace 16 = .ok (.invokespecial 165, 3) := by decide +kernel
theorem dX4_needPlace_19 : decode cX4_needPlace 19 = .ok (.athrow, 1) := by decide +kernel
theorem dX4_needPlace_20 : decode cX4_needPlace 20 = .ok (.return_, 1) := by decide +kernel
theorem dX4_needFigure_0 : decode cX4_needFigure 0 = .ok (.iload_n 0, 1) := by decide +kernel
theorem dX4_needFigure_1 : decode cX4_needFigure 1 = .ok (.ifCond .lt 8, 3) := by decide +kernel
theorem dX4_needFigure_4 : decode cX4_needFigure 4 = .ok (.iload_n 0, 1) := by decide +kernel
theorem dX4_needFigure_5 : decode cX4_needFigure 5 = .ok (.iload_n 1, 1) := by decide +kernel
theorem dX4_needFigure_6 : decode cX4_needFigure 6 = .ok (.if_icmp .lt 13, 3) := by decide +kernel
theorem dX4_needFigure_9 : decode cX4_needFigure 9 = .ok (.new 161, 3) := by decide +kernel
theorem dX4_needFigure_12 : decode cX4_needFigure 12 = .ok (.dup, 1) := by decide +kernel
theorem dX4_needFigure_13 : decode cX4_needFigure 13 = .ok (.ldc 186, 2) := by decide +kernel
theorem dX4_needFigure_15 : decode cX4_needFigure 15 = .ok (.invokespecial 165, 3) := by decide +kernel
theorem dX4_needFigure_18 : decode cX4_needFigure 18 = .ok (.athrow, 1) := by decide +kernel
theorem dX4_needFigure_19 : decode cX4_needFigure 19 = .ok (.return_, 1) := by decide +kernel
theorem dX4_needDays_0 : decode cX4_needDays 0 = .ok (.iload_n 0, 1) := by decide +kernel
theorem dX4_needDays_1 : decode cX4_needDays 1 = .ok (.iconst 1, 1) := by decide +kernel
theorem dX4_needDays_2 : decode cX4_needDays 2 = .ok (.if_icmp .lt 10, 3) := by decide +kernel
theorem dX4_needDays_5 : decode cX4_needDays 5 = .ok (.iload_n 0, 1) := by decide +kernel
theorem dX4_needDays_6 : decode cX4_needDays 6 = .ok (.sipush 200, 3) := by decide +kernel
theorem dX4_needDays_9 : decode cX4_needDays 9 = .ok (.if_icmp .le 13, 3) := by decide +kernel
theorem dX4_needDays_12 : decode cX4_needDays 12 = .ok (.new 23, 3) := by decide +kernel
theorem dX4_needDays_15 : decode cX4_needDays 15 = .ok (.dup, 1) := by decide +kernel
theorem dX4_needDays_16 : decode cX4_needDays 16 = .ok (.ldc 188, 2) := by decide +kernel
theorem dX4_needDays_18 : decode cX4_needDays 18 = .ok (.invokespecial 27, 3) := by decide +kernel
theorem dX4_needDays_21 : decode cX4_needDays 21 = .ok (.athrow, 1) := by decide +kernel
theorem dX4_needDays_22 : decode cX4_needDays 22 = .ok (.return_, 1) := by decide +kernel
theorem dX4_tenthRoundedUp_0 : decode cX4_tenthRoundedUp 0 = .ok (.iload_n 0, 1) := by decide +kernel
theorem dX4_tenthRoundedUp_1 : decode cX4_tenthRoundedUp 1 = .ok (.bipush 9, 2) := by decide +kernel
theorem dX4_tenthRoundedUp_3 : decode cX4_tenthRoundedUp 3 = .ok (.iadd, 1) := by decide +kernel
theorem dX4_tenthRoundedUp_4 : decode cX4_tenthRoundedUp 4 = .ok (.bipush 10, 2) := by decide +kernel
theorem dX4_tenthRoundedUp_6 : decode cX4_tenthRoundedUp 6 = .ok (.idiv, 1) := by decide +kernel
theorem dX4_tenthRoundedUp_7 : decode cX4_tenthRoundedUp 7 = .ok (.ireturn, 1) := by decide +kernel
theorem dX4_twentiethRoundedUp_0 : decode cX4_twentiethRoundedUp 0 = .ok (.iload_n 0, 1) := by decide +kernel
theorem dX4_twentiethRoundedUp_1 : decode cX4_twentiethRoundedUp 1 = .ok (.bipush 19, 2) := by decide +kernel
theorem dX4_twentiethRoundedUp_3 : decode cX4_twentiethRoundedUp 3 = .ok (.iadd, 1) := by decide +kernel
theorem dX4_twentiethRoundedUp_4 : decode cX4_twentiethRoundedUp 4 = .ok (.bipush 20, 2) := by decide +kernel
theorem dX4_twentiethRoundedUp_6 : decode cX4_twentiethRoundedUp 6 = .ok (.idiv, 1) := by decide +kernel
theorem dX4_twentiethRoundedUp_7 : decode cX4_twentiethRoundedUp 7 = .ok (.ireturn, 1) := by decide +kernel
theorem dX4_landingAt_0 : decode cX4_landingAt 0 = .ok (.iconst 0, 1) := by decide +kernel
theorem dX4_landingAt_1 : decode cX4_landingAt 1 = .ok (.istore_n 1, 1) := by decide +kernel
theorem dX4_landingAt_2 : decode cX4_landingAt 2 = .ok (.iload_n 1, 1) := by decide +kernel
theorem dX4_landingAt_3 : decode cX4_landingAt 3 = .ok (.iconst 3, 1) := by decide +kernel
theorem dX4_landingAt_4 : decode cX4_landingAt 4 = .ok (.if_icmp .ge 20, 3) := by decide +kernel
theorem dX4_landingAt_7 : decode cX4_landingAt 7 = .ok (.getstatic 147, 3) := by decide +kernel
theorem dX4_landingAt_10 : decode cX4_landingAt 10 = .ok (.iload_n 1, 1) := by decide +kernel
theorem dX4_landingAt_11 : decode cX4_landingAt 11 = .ok (.iaload, 1) := by decide +kernel
theorem dX4_landingAt_12 : decode cX4_landingAt 12 = .ok (.iload_n 0, 1) := by decide +kernel
theorem dX4_landingAt_13 : decode cX4_landingAt 13 = .ok (.if_icmp .ne 5, 3) := by decide +kernel
theorem dX4_landingAt_16 : decode cX4_landingAt 16 = .ok (.iload_n 1, 1) := by decide +kernel
theorem dX4_landingAt_17 : decode cX4_landingAt 17 = .ok (.ireturn, 1) := by decide +kernel
theorem dX4_landingAt_18 : decode cX4_landingAt 18 = .ok (.iinc 1 1, 3) := by decide +kernel
theorem dX4_landingAt_21 : decode cX4_landingAt 21 = .ok (.goto (-19), 3) := by decide +kernel
theorem dX4_landingAt_24 : decode cX4_landingAt 24 = .ok (.iconst (-1), 1) := by decide +kernel
theorem dX4_landingAt_25 : decode cX4_landingAt 25 = .ok (.ireturn, 1) := by decide +kernel
