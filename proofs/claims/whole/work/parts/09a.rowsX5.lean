theorem dX5_init_0 : decode cX5_init 0 = .ok (.aload_n 0, 1) := by decide +kernel
theorem dX5_init_1 : decode cX5_init 1 = .ok (.invokespecial 1, 3) := by decide +kernel
theorem dX5_init_4 : decode cX5_init 4 = .ok (.aload_n 0, 1) := by decide +kernel
theorem dX5_init_5 : decode cX5_init 5 = .ok (.bipush 20, 2) := by decide +kernel
theorem dX5_init_7 : decode cX5_init 7 = .ok (.putfield 7, 3) := by decide +kernel
theorem dX5_init_10 : decode cX5_init 10 = .ok (.aload_n 0, 1) := by decide +kernel
theorem dX5_init_11 : decode cX5_init 11 = .ok (.bipush 100, 2) := by decide +kernel
theorem dX5_init_13 : decode cX5_init 13 = .ok (.putfield 13, 3) := by decide +kernel
theorem dX5_init_16 : decode cX5_init 16 = .ok (.aload_n 0, 1) := by decide +kernel
theorem dX5_init_17 : decode cX5_init 17 = .ok (.bipush 64, 2) := by decide +kernel
theorem dX5_init_19 : decode cX5_init 19 = .ok (.newarray .int, 2) := by decide +kernel
theorem dX5_init_21 : decode cX5_init 21 = .ok (.putfield 16, 3) := by decide +kernel
theorem dX5_init_24 : decode cX5_init 24 = .ok (.aload_n 0, 1) := by decide +kernel
theorem dX5_init_25 : decode cX5_init 25 = .ok (.bipush 15, 2) := by decide +kernel
theorem dX5_init_27 : decode cX5_init 27 = .ok (.newarray .int, 2) := by decide +kernel
theorem dX5_init_29 : decode cX5_init 29 = .ok (.putfield 20, 3) := by decide +kernel
theorem dX5_init_32 : decode cX5_init 32 = .ok (.aload_n 0, 1) := by decide +kernel
theorem dX5_init_33 : decode cX5_init 33 = .ok (.iconst 3, 1) := by decide +kernel
theorem dX5_init_34 : decode cX5_init 34 = .ok (.newarray .int, 2) := by decide +kernel
theorem dX5_init_36 : decode cX5_init 36 = .ok (.putfield 23, 3) := by decide +kernel
theorem dX5_init_39 : decode cX5_init 39 = .ok (.aload_n 0, 1) := by decide +kernel
theorem dX5_init_40 : decode cX5_init 40 = .ok (.bipush 64, 2) := by decide +kernel
theorem dX5_init_42 : decode cX5_init 42 = .ok (.newarray .int, 2) := by decide +kernel
theorem dX5_init_44 : decode cX5_init 44 = .ok (.putfield 26, 3) := by decide +kernel
theorem dX5_init_47 : decode cX5_init 47 = .ok (.aload_n 0, 1) := by decide +kernel
theorem dX5_init_48 : decode cX5_init 48 = .ok (.bipush 15, 2) := by decide +kernel
theorem dX5_init_50 : decode cX5_init 50 = .ok (.newarray .int, 2) := by decide +kernel
theorem dX5_init_52 : decode cX5_init 52 = .ok (.putfield 29, 3) := by decide +kernel
theorem dX5_init_55 : decode cX5_init 55 = .ok (.aload_n 0, 1) := by decide +kernel
theorem dX5_init_56 : decode cX5_init 56 = .ok (.iconst 3, 1) := by decide +kernel
theorem dX5_init_57 : decode cX5_init 57 = .ok (.newarray .int, 2) := by decide +kernel
theorem dX5_init_59 : decode cX5_init 59 = .ok (.putfield 32, 3) := by decide +kernel
theorem dX5_init_62 : decode cX5_init 62 = .ok (.aload_n 0, 1) := by decide +kernel
theorem dX5_init_63 : decode cX5_init 63 = .ok (.bipush 8, 2) := by decide +kernel
theorem dX5_init_65 : decode cX5_init 65 = .ok (.newarray .int, 2) := by decide +kernel
theorem dX5_init_67 : decode cX5_init 67 = .ok (.putfield 35, 3) := by decide +kernel
theorem dX5_init_70 : decode cX5_init 70 = .ok (.return_, 1) := by decide +kernel
theorem dX5_thrown_0 : decode cX5_thrown 0 = .ok (.aload_n 0, 1) := by decide +kernel
theorem dX5_thrown_1 : decode cX5_thrown 1 = .ok (.getfield 38, 3) := by decide +kernel
theorem dX5_thrown_4 : decode cX5_thrown 4 = .ok (.ireturn, 1) := by decide +kernel
theorem dX5_no_0 : decode cX5_no 0 = .ok (.aload_n 0, 1) := by decide +kernel
theorem dX5_no_1 : decode cX5_no 1 = .ok (.iload_n 1, 1) := by decide +kernel
theorem dX5_no_2 : decode cX5_no 2 = .ok (.putfield 38, 3) := by decide +kernel
theorem dX5_no_5 : decode cX5_no 5 = .ok (.iconst 0, 1) := by decide +kernel
theorem dX5_no_6 : decode cX5_no 6 = .ok (.ireturn, 1) := by decide +kernel
theorem dX5_isIn_0 : decode cX5_isIn 0 = .ok (.iload_n 0, 1) := by decide +kernel
theorem dX5_isIn_1 : decode cX5_isIn 1 = .ok (.iload_n 1, 1) := by decide +kernel
theorem dX5_isIn_2 : decode cX5_isIn 2 = .ok (.if_icmp .lt 12, 3) := by decide +kernel
theorem dX5_isIn_5 : decode cX5_isIn 5 = .ok (.iload_n 0, 1) := by decide +kernel
theorem dX5_isIn_6 : decode cX5_isIn 6 = .ok (.iload_n 2, 1) := by decide +kernel
theorem dX5_isIn_7 : decode cX5_isIn 7 = .ok (.if_icmp .gt 7, 3) := by decide +kernel
theorem dX5_isIn_10 : decode cX5_isIn 10 = .ok (.iconst 1, 1) := by decide +kernel
theorem dX5_isIn_11 : decode cX5_isIn 11 = .ok (.goto 4, 3) := by decide +kernel
theorem dX5_isIn_14 : decode cX5_isIn 14 = .ok (.iconst 0, 1) := by decide +kernel
theorem dX5_isIn_15 : decode cX5_isIn 15 = .ok (.ireturn, 1) := by decide +kernel
set_option maxRecDepth 20000 in
theorem ggX5_isBed_X5_isIn : GoodIn wsX5_isBed wsX5_isIn := goodIn_r _ [5] (by decide +kernel) (by decide +kernel)
set_option maxRecDepth 20000 in
theorem gX5_isBed_X5_isIn : GoodIn wsX5_isBed (va_wsS RX5 44 yX5_isIn wsX5_isIn) := goodIn_app (goodIn_of _ (by decide +kernel)) ggX5_isBed_X5_isIn
theorem dX5_isBed_0 : decode cX5_isBed 0 = .ok (.iload_n 1, 1) := by decide +kernel
theorem dX5_isBed_1 : decode cX5_isBed 1 = .ok (.iconst 0, 1) := by decide +kernel
theorem dX5_isBed_2 : decode cX5_isBed 2 = .ok (.aload_n 0, 1) := by decide +kernel
theorem dX5_isBed_3 : decode cX5_isBed 3 = .ok (.getfield 41, 3) := by decide +kernel
theorem dX5_isBed_6 : decode cX5_isBed 6 = .ok (.iconst 1, 1) := by decide +kernel
theorem dX5_isBed_7 : decode cX5_isBed 7 = .ok (.isub, 1) := by decide +kernel
theorem dX5_isBed_8 : decode cX5_isBed 8 = .ok (.invokestatic 44, 3) := by decide +kernel
theorem dX5_isBed_11 : decode cX5_isBed 11 = .ok (.ireturn, 1) := by decide +kernel
set_option maxRecDepth 20000 in
theorem ggX5_isBarge_X5_isIn : GoodIn wsX5_isBarge wsX5_isIn := goodIn_r _ [5] (by decide +kernel) (by decide +kernel)
set_option maxRecDepth 20000 in
theorem gX5_isBarge_X5_isIn : GoodIn wsX5_isBarge (va_wsS RX5 44 yX5_isIn wsX5_isIn) := goodIn_app (goodIn_of _ (by decide +kernel)) ggX5_isBarge_X5_isIn
theorem dX5_isBarge_0 : decode cX5_isBarge 0 = .ok (.iload_n 1, 1) := by decide +kernel
theorem dX5_isBarge_1 : decode cX5_isBarge 1 = .ok (.iconst 0, 1) := by decide +kernel
theorem dX5_isBarge_2 : decode cX5_isBarge 2 = .ok (.aload_n 0, 1) := by decide +kernel
theorem dX5_isBarge_3 : decode cX5_isBarge 3 = .ok (.getfield 48, 3) := by decide +kernel
theorem dX5_isBarge_6 : decode cX5_isBarge 6 = .ok (.iconst 1, 1) := by decide +kernel
theorem dX5_isBarge_7 : decode cX5_isBarge 7 = .ok (.isub, 1) := by decide +kernel
theorem dX5_isBarge_8 : decode cX5_isBarge 8 = .ok (.invokestatic 44, 3) := by decide +kernel
theorem dX5_isBarge_11 : decode cX5_isBarge 11 = .ok (.ireturn, 1) := by decide +kernel
theorem dX5_gives_0 : decode cX5_gives 0 = .ok (.iconst 3, 1) := by decide +kernel
theorem dX5_gives_1 : decode cX5_gives 1 = .ok (.aload_n 0, 1) := by decide +kernel
theorem dX5_gives_2 : decode cX5_gives 2 = .ok (.iload_n 1, 1) := by decide +kernel
theorem dX5_gives_3 : decode cX5_gives 3 = .ok (.iconst 1, 1) := by decide +kernel
theorem dX5_gives_4 : decode cX5_gives 4 = .ok (.iadd, 1) := by decide +kernel
theorem dX5_gives_5 : decode cX5_gives 5 = .ok (.iaload, 1) := by decide +kernel
theorem dX5_gives_6 : decode cX5_gives 6 = .ok (.imul, 1) := by decide +kernel
theorem dX5_gives_7 : decode cX5_gives 7 = .ok (.getstatic 51, 3) := by decide +kernel
theorem dX5_gives_10 : decode cX5_gives 10 = .ok (.aload_n 0, 1) := by decide +kernel
theorem dX5_gives_11 : decode cX5_gives 11 = .ok (.iload_n 1, 1) := by decide +kernel
theorem dX5_gives_12 : decode cX5_gives 12 = .ok (.iconst 2, 1) := by decide +kernel
theorem dX5_gives_13 : decode cX5_gives 13 = .ok (.iadd, 1) := by decide +kernel
theorem dX5_gives_14 : decode cX5_gives 14 = .ok (.iaload, 1) := by decide +kernel
theorem dX5_gives_15 : decode cX5_gives 15 = .ok (.iaload, 1) := by decide +kernel
theorem dX5_gives_16 : decode cX5_gives 16 = .ok (.imul, 1) := by decide +kernel
theorem dX5_gives_17 : decode cX5_gives 17 = .ok (.ireturn, 1) := by decide +kernel
set_option maxRecDepth 20000 in
theorem ggX5_givesSedge_X5_gives : GoodIn wsX5_givesSedge wsX5_gives := goodIn_r _ [4, 5] (by decide +kernel) (by decide +kernel)
set_option maxRecDepth 20000 in
theorem gX5_givesSedge_X5_gives : GoodIn wsX5_givesSedge (va_wsS RX5 54 yX5_gives wsX5_gives) := goodIn_app (goodIn_of _ (by decide +kernel)) ggX5_givesSedge_X5_gives
theorem dX5_givesSedge_0 : decode cX5_givesSedge 0 = .ok (.aload_n 0, 1) := by decide +kernel
theorem dX5_givesSedge_1 : decode cX5_givesSedge 1 = .ok (.iload_n 1, 1) := by decide +kernel
theorem dX5_givesSedge_2 : decode cX5_givesSedge 2 = .ok (.invokestatic 54, 3) := by decide +kernel
theorem dX5_givesSedge_5 : decode cX5_givesSedge 5 = .ok (.aload_n 0, 1) := by decide +kernel
theorem dX5_givesSedge_6 : decode cX5_givesSedge 6 = .ok (.iload_n 1, 1) := by decide +kernel
theorem dX5_givesSedge_7 : decode cX5_givesSedge 7 = .ok (.iconst 3, 1) := by decide +kernel
theorem dX5_givesSedge_8 : decode cX5_givesSedge 8 = .ok (.iadd, 1) := by decide +kernel
theorem dX5_givesSedge_9 : decode cX5_givesSedge 9 = .ok (.iaload, 1) := by decide +kernel
theorem dX5_givesSedge_10 : decode cX5_givesSedge 10 = .ok (.imul, 1) := by decide +kernel
theorem dX5_givesSedge_11 : decode cX5_givesSedge 11 = .ok (.bipush 100, 2) := by decide +kernel
theorem dX5_givesSedge_13 : decode cX5_givesSedge 13 = .ok (.idiv, 1) := by decide +kernel
theorem dX5_givesSedge_14 : decode cX5_givesSedge 14 = .ok (.ireturn, 1) := by decide +kernel
set_option maxRecDepth 20000 in
theorem ggX5_bed_X5_isIn : GoodIn wsX5_bed wsX5_isIn := goodIn_r _ [7] (by decide +kernel) (by decide +kernel)
set_option maxRecDepth 20000 in
theorem gX5_bed_X5_isIn : GoodIn wsX5_bed (va_wsS RX5 44 yX5_isIn wsX5_isIn) := goodIn_app (goodIn_of _ (by decide +kernel)) ggX5_bed_X5_isIn
set_option maxRecDepth 20000 in
theorem ggX5_bed_X5_no : GoodIn wsX5_bed wsX5_no := goodIn_r _ [11, 1, 12, 13, 14, 15, 16, 17, 18, 19, 20, 21, 22, 23, 24, 25] (by decide +kernel) (by decide +kernel)
set_option maxRecDepth 20000 in
theorem gX5_bed_X5_no : GoodIn wsX5_bed (wsV RX5 58 RX5 yX5_no wsX5_no) := goodIn_app (goodIn_of _ (by decide +kernel)) ggX5_bed_X5_no
theorem dX5_bed_0 : decode cX5_bed 0 = .ok (.aload_n 0, 1) := by decide +kernel
theorem dX5_bed_1 : decode cX5_bed 1 = .ok (.iconst 0, 1) := by decide +kernel
theorem dX5_bed_2 : decode cX5_bed 2 = .ok (.putfield 38, 3) := by decide +kernel
theorem dX5_bed_5 : decode cX5_bed 5 = .ok (.iload_n 1, 1) := by decide +kernel
theorem dX5_bed_6 : decode cX5_bed 6 = .ok (.iconst 0, 1) := by decide +kernel
theorem dX5_bed_7 : decode cX5_bed 7 = .ok (.bipush 30, 2) := by decide +kernel
theorem dX5_bed_9 : decode cX5_bed 9 = .ok (.invokestatic 44, 3) := by decide +kernel
theorem dX5_bed_12 : decode cX5_bed 12 = .ok (.ifCond .ne 9, 3) := by decide +kernel
theorem dX5_bed_15 : decode cX5_bed 15 = .ok (.aload_n 0, 1) := by decide +kernel
theorem dX5_bed_16 : decode cX5_bed 16 = .ok (.iconst 1, 1) := by decide +kernel
theorem dX5_bed_17 : decode cX5_bed 17 = .ok (.invokevirtual 58, 3) := by decide +kernel
theorem dX5_bed_20 : decode cX5_bed 20 = .ok (.ireturn, 1) := by decide +kernel
theorem dX5_bed_21 : decode cX5_bed 21 = .ok (.iload_n 2, 1) := by decide +kernel
theorem dX5_bed_22 : decode cX5_bed 22 = .ok (.iconst 1, 1) := by decide +kernel
theorem dX5_bed_23 : decode cX5_bed 23 = .ok (.bipush 9, 2) := by decide +kernel
theorem dX5_bed_25 : decode cX5_bed 25 = .ok (.invokestatic 44, 3) := by decide +kernel
theorem dX5_bed_28 : decode cX5_bed 28 = .ok (.ifCond .eq 13, 3) := by decide +kernel
theorem dX5_bed_31 : decode cX5_bed 31 = .ok (.iload_n 3, 1) := by decide +kernel
theorem dX5_bed_32 : decode cX5_bed 32 = .ok (.iconst 0, 1) := by decide +kernel
theorem dX5_bed_33 : decode cX5_bed 33 = .ok (.bipush 100, 2) := by decide +kernel
theorem dX5_bed_35 : decode cX5_bed 35 = .ok (.invokestatic 44, 3) := by decide +kernel
theorem dX5_bed_38 : decode cX5_bed 38 = .ok (.ifCond .ne 9, 3) := by decide +kernel
theorem dX5_bed_41 : decode cX5_bed 41 = .ok (.aload_n 0, 1) := by decide +kernel
theorem dX5_bed_42 : decode cX5_bed 42 = .ok (.iconst 2, 1) := by decide +kernel
theorem dX5_bed_43 : decode cX5_bed 43 = .ok (.invokevirtual 58, 3) := by decide +kernel
theorem dX5_bed_46 : decode cX5_bed 46 = .ok (.ireturn, 1) := by decide +kernel
theorem dX5_bed_47 : decode cX5_bed 47 = .ok (.aload_n 0, 1) := by decide +kernel
theorem dX5_bed_48 : decode cX5_bed 48 = .ok (.getfield 41, 3) := by decide +kernel
theorem dX5_bed_51 : decode cX5_bed 51 = .ok (.bipush 8, 2) := by decide +kernel
theorem dX5_bed_53 : decode cX5_bed 53 = .ok (.if_icmp .ne 9, 3) := by decide +kernel
theorem dX5_bed_56 : decode cX5_bed 56 = .ok (.aload_n 0, 1) := by decide +kernel
theorem dX5_bed_57 : decode cX5_bed 57 = .ok (.iconst 3, 1) := by decide +kernel
theorem dX5_bed_58 : decode cX5_bed 58 = .ok (.invokevirtual 58, 3) := by decide +kernel
theorem dX5_bed_61 : decode cX5_bed 61 = .ok (.ireturn, 1) := by decide +kernel
theorem dX5_bed_62 : decode cX5_bed 62 = .ok (.bipush 8, 2) := by decide +kernel
theorem dX5_bed_64 : decode cX5_bed 64 = .ok (.aload_n 0, 1) := by decide +kernel
theorem dX5_bed_65 : decode cX5_bed 65 = .ok (.getfield 41, 3) := by decide +kernel
theorem dX5_bed_68 : decode cX5_bed 68 = .ok (.imul, 1) := by decide +kernel
theorem dX5_bed_69 : decode cX5_bed 69 = .ok (.istore 4, 2) := by decide +kernel
theorem dX5_bed_71 : decode cX5_bed 71 = .ok (.aload_n 0, 1) := by decide +kernel
theorem dX5_bed_72 : decode cX5_bed 72 = .ok (.getfield 16, 3) := by decide +kernel
theorem dX5_bed_75 : decode cX5_bed 75 = .ok (.iload 4, 2) := by decide +kernel
theorem dX5_bed_77 : decode cX5_bed 77 = .ok (.iconst 0, 1) := by decide +kernel
theorem dX5_bed_78 : decode cX5_bed 78 = .ok (.iadd, 1) := by decide +kernel
theorem dX5_bed_79 : decode cX5_bed 79 = .ok (.iload_n 1, 1) := by decide +kernel
theorem dX5_bed_80 : decode cX5_bed 80 = .ok (.iastore, 1) := by decide +kernel
theorem dX5_bed_81 : decode cX5_bed 81 = .ok (.aload_n 0, 1) := by decide +kernel
theorem dX5_bed_82 : decode cX5_bed 82 = .ok (.getfield 16, 3) := by decide +kernel
theorem dX5_bed_85 : decode cX5_bed 85 = .ok (.iload 4, 2) := by decide +kernel
theorem dX5_bed_87 : decode cX5_bed 87 = .ok (.iconst 1, 1) := by decide +kernel
theorem dX5_bed_88 : decode cX5_bed 88 = .ok (.iadd, 1) := by decide +kernel
theorem dX5_bed_89 : decode cX5_bed 89 = .ok (.iload_n 2, 1) := by decide +kernel
theorem dX5_bed_90 : decode cX5_bed 90 = .ok (.iastore, 1) := by decide +kernel
theorem dX5_bed_91 : decode cX5_bed 91 = .ok (.aload_n 0, 1) := by decide +kernel
theorem dX5_bed_92 : decode cX5_bed 92 = .ok (.getfield 16, 3) := by decide +kernel
theorem dX5_bed_95 : decode cX5_bed 95 = .ok (.iload 4, 2) := by decide +kernel
theorem dX5_bed_97 : decode cX5_bed 97 = .ok (.iconst 2, 1) := by decide +kernel
theorem dX5_bed_98 : decode cX5_bed 98 = .ok (.iadd, 1) := by decide +kernel
theorem dX5_bed_99 : decode cX5_bed 99 = .ok (.iconst 3, 1) := by decide +kernel
theorem dX5_bed_100 : decode cX5_bed 100 = .ok (.iastore, 1) := by decide +kernel
theorem dX5_bed_101 : decode cX5_bed 101 = .ok (.aload_n 0, 1) := by decide +kernel
theorem dX5_bed_102 : decode cX5_bed 102 = .ok (.getfield 16, 3) := by decide +kernel
theorem dX5_bed_105 : decode cX5_bed 105 = .ok (.iload 4, 2) := by decide +kernel
theorem dX5_bed_107 : decode cX5_bed 107 = .ok (.iconst 3, 1) := by decide +kernel
theorem dX5_bed_108 : decode cX5_bed 108 = .ok (.iadd, 1) := by decide +kernel
theorem dX5_bed_109 : decode cX5_bed 109 = .ok (.iload_n 3, 1) := by decide +kernel
theorem dX5_bed_110 : decode cX5_bed 110 = .ok (.iastore, 1) := by decide +kernel
theorem dX5_bed_111 : decode cX5_bed 111 = .ok (.aload_n 0, 1) := by decide +kernel
theorem dX5_bed_112 : decode cX5_bed 112 = .ok (.dup, 1) := by decide +kernel
theorem dX5_bed_113 : decode cX5_bed 113 = .ok (.getfield 41, 3) := by decide +kernel
theorem dX5_bed_116 : decode cX5_bed 116 = .ok (.iconst 1, 1) := by decide +kernel
theorem dX5_bed_117 : decode cX5_bed 117 = .ok (.iadd, 1) := by decide +kernel
theorem dX5_bed_118 : decode cX5_bed 118 = .ok (.putfield 41, 3) := by decide +kernel
theorem dX5_bed_121 : decode cX5_bed 121 = .ok (.aload_n 0, 1) := by decide +kernel
theorem dX5_bed_122 : decode cX5_bed 122 = .ok (.getfield 41, 3) := by decide +kernel
theorem dX5_bed_125 : decode cX5_bed 125 = .ok (.iconst 1, 1) := by decide +kernel
theorem dX5_bed_126 : decode cX5_bed 126 = .ok (.isub, 1) := by decide +kernel
theorem dX5_bed_127 : decode cX5_bed 127 = .ok (.ireturn, 1) := by decide +kernel
set_option maxRecDepth 20000 in
theorem ggX5_cut_X5_isBed : GoodIn wsX5_cut wsX5_isBed := goodIn_r _ [7, 8, 9, 10, 6, 11, 23, 24, 25, 26, 27, 28, 29, 30, 31, 32, 33, 34, 35, 36] (by decide +kernel) (by decide +kernel)
set_option maxRecDepth 20000 in
theorem gX5_cut_X5_isBed : GoodIn wsX5_cut (wsV RX5 62 RX5 yX5_isBed wsX5_isBed) := goodIn_app (goodIn_of _ (by decide +kernel)) ggX5_cut_X5_isBed
set_option maxRecDepth 20000 in
theorem ggX5_cut_X5_no : GoodIn wsX5_cut wsX5_no := goodIn_r _ [15, 1, 23, 24, 25, 26, 27, 28, 29, 30, 31, 32, 33, 34, 35, 36] (by decide +kernel) (by decide +kernel)
set_option maxRecDepth 20000 in
theorem gX5_cut_X5_no : GoodIn wsX5_cut (wsV RX5 58 RX5 yX5_no wsX5_no) := goodIn_app (goodIn_of _ (by decide +kernel)) ggX5_cut_X5_no
set_option maxRecDepth 20000 in
theorem ggX5_cut_X5_gives : GoodIn wsX5_cut wsX5_gives := goodIn_r _ [18, 19] (by decide +kernel) (by decide +kernel)
set_option maxRecDepth 20000 in
theorem gX5_cut_X5_gives : GoodIn wsX5_cut (va_wsS RX5 54 yX5_gives wsX5_gives) := goodIn_app (goodIn_of _ (by decide +kernel)) ggX5_cut_X5_gives
set_option maxRecDepth 20000 in
theorem ggX5_cut_X5_givesSedge : GoodIn wsX5_cut wsX5_givesSedge := goodIn_r _ [22, 16, 17, 6, 18, 19] (by decide +kernel) (by decide +kernel)
set_option maxRecDepth 20000 in
theorem gX5_cut_X5_givesSedge : GoodIn wsX5_cut (va_wsS RX5 66 yX5_givesSedge wsX5_givesSedge) := goodIn_app (goodIn_of _ (by decide +kernel)) ggX5_cut_X5_givesSedge
theorem dX5_cut_0 : decode cX5_cut 0 = .ok (.aload_n 0, 1) := by decide +kernel
theorem dX5_cut_1 : decode cX5_cut 1 = .ok (.iconst 0, 1) := by decide +kernel
theorem dX5_cut_2 : decode cX5_cut 2 = .ok (.putfield 38, 3) := by decide +kernel
theorem dX5_cut_5 : decode cX5_cut 5 = .ok (.aload_n 0, 1) := by decide +kernel
theorem dX5_cut_6 : decode cX5_cut 6 = .ok (.iload_n 1, 1) := by decide +kernel
theorem dX5_cut_7 : decode cX5_cut 7 = .ok (.invokevirtual 62, 3) := by decide +kernel
theorem dX5_cut_10 : decode cX5_cut 10 = .ok (.ifCond .ne 9, 3) := by decide +kernel
theorem dX5_cut_13 : decode cX5_cut 13 = .ok (.aload_n 0, 1) := by decide +kernel
theorem dX5_cut_14 : decode cX5_cut 14 = .ok (.iconst 1, 1) := by decide +kernel
theorem dX5_cut_15 : decode cX5_cut 15 = .ok (.invokevirtual 58, 3) := by decide +kernel
theorem dX5_cut_18 : decode cX5_cut 18 = .ok (.ireturn, 1) := by decide +kernel
theorem dX5_cut_19 : decode cX5_cut 19 = .ok (.bipush 8, 2) := by decide +kernel
theorem dX5_cut_21 : decode cX5_cut 21 = .ok (.iload_n 1, 1) := by decide +kernel
theorem dX5_cut_22 : decode cX5_cut 22 = .ok (.imul, 1) := by decide +kernel
theorem dX5_cut_23 : decode cX5_cut 23 = .ok (.istore_n 2, 1) := by decide +kernel
theorem dX5_cut_24 : decode cX5_cut 24 = .ok (.aload_n 0, 1) := by decide +kernel
theorem dX5_cut_25 : decode cX5_cut 25 = .ok (.getfield 16, 3) := by decide +kernel
theorem dX5_cut_28 : decode cX5_cut 28 = .ok (.iload_n 2, 1) := by decide +kernel
theorem dX5_cut_29 : decode cX5_cut 29 = .ok (.iconst 2, 1) := by decide +kernel
theorem dX5_cut_30 : decode cX5_cut 30 = .ok (.iadd, 1) := by decide +kernel
theorem dX5_cut_31 : decode cX5_cut 31 = .ok (.iaload, 1) := by decide +kernel
theorem dX5_cut_32 : decode cX5_cut 32 = .ok (.ifCond .ne 9, 3) := by decide +kernel
theorem dX5_cut_35 : decode cX5_cut 35 = .ok (.aload_n 0, 1) := by decide +kernel
theorem dX5_cut_36 : decode cX5_cut 36 = .ok (.iconst 2, 1) := by decide +kernel
theorem dX5_cut_37 : decode cX5_cut 37 = .ok (.invokevirtual 58, 3) := by decide +kernel
theorem dX5_cut_40 : decode cX5_cut 40 = .ok (.ireturn, 1) := by decide +kernel
theorem dX5_cut_41 : decode cX5_cut 41 = .ok (.aload_n 0, 1) := by decide +kernel
theorem dX5_cut_42 : decode cX5_cut 42 = .ok (.getfield 16, 3) := by decide +kernel
theorem dX5_cut_45 : decode cX5_cut 45 = .ok (.iload_n 2, 1) := by decide +kernel
theorem dX5_cut_46 : decode cX5_cut 46 = .ok (.invokestatic 54, 3) := by decide +kernel
theorem dX5_cut_49 : decode cX5_cut 49 = .ok (.istore_n 3, 1) := by decide +kernel
theorem dX5_cut_50 : decode cX5_cut 50 = .ok (.aload_n 0, 1) := by decide +kernel
theorem dX5_cut_51 : decode cX5_cut 51 = .ok (.getfield 16, 3) := by decide +kernel
theorem dX5_cut_54 : decode cX5_cut 54 = .ok (.iload_n 2, 1) := by decide +kernel
theorem dX5_cut_55 : decode cX5_cut 55 = .ok (.invokestatic 66, 3) := by decide +kernel
theorem dX5_cut_58 : decode cX5_cut 58 = .ok (.istore 4, 2) := by decide +kernel
theorem dX5_cut_60 : decode cX5_cut 60 = .ok (.aload_n 0, 1) := by decide +kernel
theorem dX5_cut_61 : decode cX5_cut 61 = .ok (.getfield 16, 3) := by decide +kernel
theorem dX5_cut_64 : decode cX5_cut 64 = .ok (.iload_n 2, 1) := by decide +kernel
theorem dX5_cut_65 : decode cX5_cut 65 = .ok (.iconst 4, 1) := by decide +kernel
theorem dX5_cut_66 : decode cX5_cut 66 = .ok (.iadd, 1) := by decide +kernel
theorem dX5_cut_67 : decode cX5_cut 67 = .ok (.dup2, 1) := by decide +kernel
theorem dX5_cut_68 : decode cX5_cut 68 = .ok (.iaload, 1) := by decide +kernel
theorem dX5_cut_69 : decode cX5_cut 69 = .ok (.iload 4, 2) := by decide +kernel
theorem dX5_cut_71 : decode cX5_cut 71 = .ok (.iadd, 1) := by decide +kernel
theorem dX5_cut_72 : decode cX5_cut 72 = .ok (.iastore, 1) := by decide +kernel
theorem dX5_cut_73 : decode cX5_cut 73 = .ok (.aload_n 0, 1) := by decide +kernel
theorem dX5_cut_74 : decode cX5_cut 74 = .ok (.getfield 16, 3) := by decide +kernel
theorem dX5_cut_77 : decode cX5_cut 77 = .ok (.iload_n 2, 1) := by decide +kernel
theorem dX5_cut_78 : decode cX5_cut 78 = .ok (.iconst 4, 1) := by decide +kernel
theorem dX5_cut_79 : decode cX5_cut 79 = .ok (.iadd, 1) := by decide +kernel
theorem dX5_cut_80 : decode cX5_cut 80 = .ok (.iconst 1, 1) := by decide +kernel
theorem dX5_cut_81 : decode cX5_cut 81 = .ok (.iadd, 1) := by decide +kernel
theorem dX5_cut_82 : decode cX5_cut 82 = .ok (.dup2, 1) := by decide +kernel
theorem dX5_cut_83 : decode cX5_cut 83 = .ok (.iaload, 1) := by decide +kernel
theorem dX5_cut_84 : decode cX5_cut 84 = .ok (.iload_n 3, 1) := by decide +kernel
theorem dX5_cut_85 : decode cX5_cut 85 = .ok (.iload 4, 2) := by decide +kernel
theorem dX5_cut_87 : decode cX5_cut 87 = .ok (.isub, 1) := by decide +kernel
theorem dX5_cut_88 : decode cX5_cut 88 = .ok (.iadd, 1) := by decide +kernel
theorem dX5_cut_89 : decode cX5_cut 89 = .ok (.iastore, 1) := by decide +kernel
theorem dX5_cut_90 : decode cX5_cut 90 = .ok (.aload_n 0, 1) := by decide +kernel
theorem dX5_cut_91 : decode cX5_cut 91 = .ok (.getfield 16, 3) := by decide +kernel
theorem dX5_cut_94 : decode cX5_cut 94 = .ok (.iload_n 2, 1) := by decide +kernel
theorem dX5_cut_95 : decode cX5_cut 95 = .ok (.iconst 2, 1) := by decide +kernel
theorem dX5_cut_96 : decode cX5_cut 96 = .ok (.iadd, 1) := by decide +kernel
theorem dX5_cut_97 : decode cX5_cut 97 = .ok (.iconst 0, 1) := by decide +kernel
theorem dX5_cut_98 : decode cX5_cut 98 = .ok (.iastore, 1) := by decide +kernel
theorem dX5_cut_99 : decode cX5_cut 99 = .ok (.iload_n 3, 1) := by decide +kernel
theorem dX5_cut_100 : decode cX5_cut 100 = .ok (.ireturn, 1) := by decide +kernel
set_option maxRecDepth 20000 in
theorem ggX5_tie_X5_isBed : GoodIn wsX5_tie wsX5_isBed := goodIn_r _ [6, 7, 8, 9, 5, 10, 25, 26, 27, 28, 29, 30, 31, 32, 33, 34, 35, 36, 37, 38] (by decide +kernel) (by decide +kernel)
set_option maxRecDepth 20000 in
theorem gX5_tie_X5_isBed : GoodIn wsX5_tie (wsV RX5 62 RX5 yX5_isBed wsX5_isBed) := goodIn_app (goodIn_of _ (by decide +kernel)) ggX5_tie_X5_isBed
set_option maxRecDepth 20000 in
theorem ggX5_tie_X5_tieOf : GoodIn wsX5_tie wsX5_tieOf := goodIn_r _ [14, 15, 16, 17, 18, 19, 20, 25, 26, 27, 28, 29, 30, 31, 32, 33, 34, 35, 36, 37, 38] (by decide +kernel) (by decide +kernel)
set_option maxRecDepth 20000 in
theorem gX5_tie_X5_tieOf : GoodIn wsX5_tie (wsV RX5 69 RX5 yX5_tieOf wsX5_tieOf) := goodIn_app (goodIn_of _ (by decide +kernel)) ggX5_tie_X5_tieOf
set_option maxRecDepth 20000 in
theorem ggX5_tie_X5_no : GoodIn wsX5_tie wsX5_no := goodIn_r _ [24, 1, 25, 26, 27, 28, 29, 30, 31, 32, 33, 34, 35, 36, 37, 38] (by decide +kernel) (by decide +kernel)
set_option maxRecDepth 20000 in
theorem gX5_tie_X5_no : GoodIn wsX5_tie (wsV RX5 58 RX5 yX5_no wsX5_no) := goodIn_app (goodIn_of _ (by decide +kernel)) ggX5_tie_X5_no
theorem dX5_tie_0 : decode cX5_tie 0 = .ok (.aload_n 0, 1) := by decide +kernel
theorem dX5_tie_1 : decode cX5_tie 1 = .ok (.iconst 0, 1) := by decide +kernel
theorem dX5_tie_2 : decode cX5_tie 2 = .ok (.putfield 38, 3) := by decide +kernel
theorem dX5_tie_5 : decode cX5_tie 5 = .ok (.aload_n 0, 1) := by decide +kernel
theorem dX5_tie_6 : decode cX5_tie 6 = .ok (.iload_n 1, 1) := by decide +kernel
theorem dX5_tie_7 : decode cX5_tie 7 = .ok (.invokevirtual 62, 3) := by decide +kernel
theorem dX5_tie_10 : decode cX5_tie 10 = .ok (.ifCond .eq 25, 3) := by decide +kernel
theorem dX5_tie_13 : decode cX5_tie 13 = .ok (.aload_n 0, 1) := by decide +kernel
theorem dX5_tie_14 : decode cX5_tie 14 = .ok (.bipush 8, 2) := by decide +kernel
theorem dX5_tie_16 : decode cX5_tie 16 = .ok (.iload_n 1, 1) := by decide +kernel
theorem dX5_tie_17 : decode cX5_tie 17 = .ok (.imul, 1) := by decide +kernel
theorem dX5_tie_18 : decode cX5_tie 18 = .ok (.iconst 0, 1) := by decide +kernel
theorem dX5_tie_19 : decode cX5_tie 19 = .ok (.invokevirtual 69, 3) := by decide +kernel
theorem dX5_tie_22 : decode cX5_tie 22 = .ok (.aload_n 0, 1) := by decide +kernel
theorem dX5_tie_23 : decode cX5_tie 23 = .ok (.bipush 8, 2) := by decide +kernel
theorem dX5_tie_25 : decode cX5_tie 25 = .ok (.iload_n 1, 1) := by decide +kernel
theorem dX5_tie_26 : decode cX5_tie 26 = .ok (.imul, 1) := by decide +kernel
theorem dX5_tie_27 : decode cX5_tie 27 = .ok (.iconst 1, 1) := by decide +kernel
theorem dX5_tie_28 : decode cX5_tie 28 = .ok (.invokevirtual 69, 3) := by decide +kernel
theorem dX5_tie_31 : decode cX5_tie 31 = .ok (.iadd, 1) := by decide +kernel
theorem dX5_tie_32 : decode cX5_tie 32 = .ok (.goto 8, 3) := by decide +kernel
theorem dX5_tie_35 : decode cX5_tie 35 = .ok (.aload_n 0, 1) := by decide +kernel
theorem dX5_tie_36 : decode cX5_tie 36 = .ok (.iconst 1, 1) := by decide +kernel
theorem dX5_tie_37 : decode cX5_tie 37 = .ok (.invokevirtual 58, 3) := by decide +kernel
theorem dX5_tie_40 : decode cX5_tie 40 = .ok (.ireturn, 1) := by decide +kernel
theorem dX5_tieOf_0 : decode cX5_tieOf 0 = .ok (.aload_n 0, 1) := by decide +kernel
theorem dX5_tieOf_1 : decode cX5_tieOf 1 = .ok (.getfield 13, 3) := by decide +kernel
theorem dX5_tieOf_4 : decode cX5_tieOf 4 = .ok (.aload_n 0, 1) := by decide +kernel
theorem dX5_tieOf_5 : decode cX5_tieOf 5 = .ok (.getfield 16, 3) := by decide +kernel
theorem dX5_tieOf_8 : decode cX5_tieOf 8 = .ok (.iload_n 1, 1) := by decide +kernel
theorem dX5_tieOf_9 : decode cX5_tieOf 9 = .ok (.iconst 4, 1) := by decide +kernel
theorem dX5_tieOf_10 : decode cX5_tieOf 10 = .ok (.iadd, 1) := by decide +kernel
theorem dX5_tieOf_11 : decode cX5_tieOf 11 = .ok (.iload_n 2, 1) := by decide +kernel
theorem dX5_tieOf_12 : decode cX5_tieOf 12 = .ok (.iadd, 1) := by decide +kernel
theorem dX5_tieOf_13 : decode cX5_tieOf 13 = .ok (.iaload, 1) := by decide +kernel
theorem dX5_tieOf_14 : decode cX5_tieOf 14 = .ok (.invokestatic 73, 3) := by decide +kernel
theorem dX5_tieOf_17 : decode cX5_tieOf 17 = .ok (.istore_n 3, 1) := by decide +kernel
theorem dX5_tieOf_18 : decode cX5_tieOf 18 = .ok (.aload_n 0, 1) := by decide +kernel
theorem dX5_tieOf_19 : decode cX5_tieOf 19 = .ok (.dup, 1) := by decide +kernel
theorem dX5_tieOf_20 : decode cX5_tieOf 20 = .ok (.getfield 13, 3) := by decide +kernel
theorem dX5_tieOf_23 : decode cX5_tieOf 23 = .ok (.iload_n 3, 1) := by decide +kernel
theorem dX5_tieOf_24 : decode cX5_tieOf 24 = .ok (.isub, 1) := by decide +kernel
theorem dX5_tieOf_25 : decode cX5_tieOf 25 = .ok (.putfield 13, 3) := by decide +kernel
theorem dX5_tieOf_28 : decode cX5_tieOf 28 = .ok (.aload_n 0, 1) := by decide +kernel
theorem dX5_tieOf_29 : decode cX5_tieOf 29 = .ok (.getfield 16, 3) := by decide +kernel
theorem dX5_tieOf_32 : decode cX5_tieOf 32 = .ok (.iload_n 1, 1) := by decide +kernel
theorem dX5_tieOf_33 : decode cX5_tieOf 33 = .ok (.iconst 4, 1) := by decide +kernel
theorem dX5_tieOf_34 : decode cX5_tieOf 34 = .ok (.iadd, 1) := by decide +kernel
theorem dX5_tieOf_35 : decode cX5_tieOf 35 = .ok (.iload_n 2, 1) := by decide +kernel
theorem dX5_tieOf_36 : decode cX5_tieOf 36 = .ok (.iadd, 1) := by decide +kernel
theorem dX5_tieOf_37 : decode cX5_tieOf 37 = .ok (.dup2, 1) := by decide +kernel
theorem dX5_tieOf_38 : decode cX5_tieOf 38 = .ok (.iaload, 1) := by decide +kernel
theorem dX5_tieOf_39 : decode cX5_tieOf 39 = .ok (.iload_n 3, 1) := by decide +kernel
theorem dX5_tieOf_40 : decode cX5_tieOf 40 = .ok (.isub, 1) := by decide +kernel
theorem dX5_tieOf_41 : decode cX5_tieOf 41 = .ok (.iastore, 1) := by decide +kernel
theorem dX5_tieOf_42 : decode cX5_tieOf 42 = .ok (.aload_n 0, 1) := by decide +kernel
theorem dX5_tieOf_43 : decode cX5_tieOf 43 = .ok (.getfield 16, 3) := by decide +kernel
theorem dX5_tieOf_46 : decode cX5_tieOf 46 = .ok (.iload_n 1, 1) := by decide +kernel
theorem dX5_tieOf_47 : decode cX5_tieOf 47 = .ok (.bipush 6, 2) := by decide +kernel
theorem dX5_tieOf_49 : decode cX5_tieOf 49 = .ok (.iadd, 1) := by decide +kernel
theorem dX5_tieOf_50 : decode cX5_tieOf 50 = .ok (.iload_n 2, 1) := by decide +kernel
theorem dX5_tieOf_51 : decode cX5_tieOf 51 = .ok (.iadd, 1) := by decide +kernel
theorem dX5_tieOf_52 : decode cX5_tieOf 52 = .ok (.dup2, 1) := by decide +kernel
theorem dX5_tieOf_53 : decode cX5_tieOf 53 = .ok (.iaload, 1) := by decide +kernel
theorem dX5_tieOf_54 : decode cX5_tieOf 54 = .ok (.iload_n 3, 1) := by decide +kernel
theorem dX5_tieOf_55 : decode cX5_tieOf 55 = .ok (.iadd, 1) := by decide +kernel
theorem dX5_tieOf_56 : decode cX5_tieOf 56 = .ok (.iastore, 1) := by decide +kernel
theorem dX5_tieOf_57 : decode cX5_tieOf 57 = .ok (.iload_n 3, 1) := by decide +kernel
theorem dX5_tieOf_58 : decode cX5_tieOf 58 = .ok (.ireturn, 1) := by decide +kernel
set_option maxRecDepth 20000 in
theorem ggX5_buy_X5_isIn : GoodIn wsX5_buy wsX5_isIn := goodIn_r _ [7] (by decide +kernel) (by decide +kernel)
set_option maxRecDepth 20000 in
theorem gX5_buy_X5_isIn : GoodIn wsX5_buy (va_wsS RX5 44 yX5_isIn wsX5_isIn) := goodIn_app (goodIn_of _ (by decide +kernel)) ggX5_buy_X5_isIn
set_option maxRecDepth 20000 in
theorem ggX5_buy_X5_no : GoodIn wsX5_buy wsX5_no := goodIn_r _ [11, 1, 12, 13, 14, 15, 16, 17, 18, 19, 20, 21, 22, 23, 24, 25] (by decide +kernel) (by decide +kernel)
set_option maxRecDepth 20000 in
theorem gX5_buy_X5_no : GoodIn wsX5_buy (wsV RX5 58 RX5 yX5_no wsX5_no) := goodIn_app (goodIn_of _ (by decide +kernel)) ggX5_buy_X5_no
theorem dX5_buy_0 : decode cX5_buy 0 = .ok (.aload_n 0, 1) := by decide +kernel
theorem dX5_buy_1 : decode cX5_buy 1 = .ok (.iconst 0, 1) := by decide +kernel
theorem dX5_buy_2 : decode cX5_buy 2 = .ok (.putfield 38, 3) := by decide +kernel
theorem dX5_buy_5 : decode cX5_buy 5 = .ok (.iload_n 1, 1) := by decide +kernel
theorem dX5_buy_6 : decode cX5_buy 6 = .ok (.iconst 1, 1) := by decide +kernel
theorem dX5_buy_7 : decode cX5_buy 7 = .ok (.sipush 500, 3) := by decide +kernel
theorem dX5_buy_10 : decode cX5_buy 10 = .ok (.invokestatic 44, 3) := by decide +kernel
theorem dX5_buy_13 : decode cX5_buy 13 = .ok (.ifCond .ne 9, 3) := by decide +kernel
theorem dX5_buy_16 : decode cX5_buy 16 = .ok (.aload_n 0, 1) := by decide +kernel
theorem dX5_buy_17 : decode cX5_buy 17 = .ok (.iconst 1, 1) := by decide +kernel
theorem dX5_buy_18 : decode cX5_buy 18 = .ok (.invokevirtual 58, 3) := by decide +kernel
theorem dX5_buy_21 : decode cX5_buy 21 = .ok (.ireturn, 1) := by decide +kernel
theorem dX5_buy_22 : decode cX5_buy 22 = .ok (.aload_n 0, 1) := by decide +kernel
theorem dX5_buy_23 : decode cX5_buy 23 = .ok (.getfield 7, 3) := by decide +kernel
theorem dX5_buy_26 : decode cX5_buy 26 = .ok (.iload_n 1, 1) := by decide +kernel
theorem dX5_buy_27 : decode cX5_buy 27 = .ok (.bipush 9, 2) := by decide +kernel
theorem dX5_buy_29 : decode cX5_buy 29 = .ok (.iadd, 1) := by decide +kernel
theorem dX5_buy_30 : decode cX5_buy 30 = .ok (.bipush 10, 2) := by decide +kernel
theorem dX5_buy_32 : decode cX5_buy 32 = .ok (.idiv, 1) := by decide +kernel
theorem dX5_buy_33 : decode cX5_buy 33 = .ok (.if_icmp .ge 9, 3) := by decide +kernel
theorem dX5_buy_36 : decode cX5_buy 36 = .ok (.aload_n 0, 1) := by decide +kernel
theorem dX5_buy_37 : decode cX5_buy 37 = .ok (.iconst 2, 1) := by decide +kernel
theorem dX5_buy_38 : decode cX5_buy 38 = .ok (.invokevirtual 58, 3) := by decide +kernel
theorem dX5_buy_41 : decode cX5_buy 41 = .ok (.ireturn, 1) := by decide +kernel
theorem dX5_buy_42 : decode cX5_buy 42 = .ok (.aload_n 0, 1) := by decide +kernel
theorem dX5_buy_43 : decode cX5_buy 43 = .ok (.dup, 1) := by decide +kernel
theorem dX5_buy_44 : decode cX5_buy 44 = .ok (.getfield 7, 3) := by decide +kernel
theorem dX5_buy_47 : decode cX5_buy 47 = .ok (.iload_n 1, 1) := by decide +kernel
theorem dX5_buy_48 : decode cX5_buy 48 = .ok (.bipush 9, 2) := by decide +kernel
theorem dX5_buy_50 : decode cX5_buy 50 = .ok (.iadd, 1) := by decide +kernel
theorem dX5_buy_51 : decode cX5_buy 51 = .ok (.bipush 10, 2) := by decide +kernel
theorem dX5_buy_53 : decode cX5_buy 53 = .ok (.idiv, 1) := by decide +kernel
theorem dX5_buy_54 : decode cX5_buy 54 = .ok (.isub, 1) := by decide +kernel
theorem dX5_buy_55 : decode cX5_buy 55 = .ok (.putfield 7, 3) := by decide +kernel
theorem dX5_buy_58 : decode cX5_buy 58 = .ok (.aload_n 0, 1) := by decide +kernel
theorem dX5_buy_59 : decode cX5_buy 59 = .ok (.dup, 1) := by decide +kernel
theorem dX5_buy_60 : decode cX5_buy 60 = .ok (.getfield 13, 3) := by decide +kernel
theorem dX5_buy_63 : decode cX5_buy 63 = .ok (.iload_n 1, 1) := by decide +kernel
theorem dX5_buy_64 : decode cX5_buy 64 = .ok (.iadd, 1) := by decide +kernel
theorem dX5_buy_65 : decode cX5_buy 65 = .ok (.putfield 13, 3) := by decide +kernel
theorem dX5_buy_68 : decode cX5_buy 68 = .ok (.aload_n 0, 1) := by decide +kernel
theorem dX5_buy_69 : decode cX5_buy 69 = .ok (.getfield 13, 3) := by decide +kernel
theorem dX5_buy_72 : decode cX5_buy 72 = .ok (.ireturn, 1) := by decide +kernel
set_option maxRecDepth 20000 in
theorem ggX5_bedTold_X5_gives : GoodIn wsX5_bedTold wsX5_gives := goodIn_r _ [5, 6] (by decide +kernel) (by decide +kernel)
set_option maxRecDepth 20000 in
theorem gX5_bedTold_X5_gives : GoodIn wsX5_bedTold (va_wsS RX5 54 yX5_gives wsX5_gives) := goodIn_app (goodIn_of _ (by decide +kernel)) ggX5_bedTold_X5_gives
set_option maxRecDepth 20000 in
theorem ggX5_bedTold_X5_givesSedge : GoodIn wsX5_bedTold wsX5_givesSedge := goodIn_r _ [9, 2, 3, 4, 5, 6] (by decide +kernel) (by decide +kernel)
set_option maxRecDepth 20000 in
theorem gX5_bedTold_X5_givesSedge : GoodIn wsX5_bedTold (va_wsS RX5 66 yX5_givesSedge wsX5_givesSedge) := goodIn_app (goodIn_of _ (by decide +kernel)) ggX5_bedTold_X5_givesSedge
theorem dX5_bedTold_0 : decode cX5_bedTold 0 = .ok (.bipush 8, 2) := by decide +kernel
theorem dX5_bedTold_2 : decode cX5_bedTold 2 = .ok (.iload_n 1, 1) := by decide +kernel
theorem dX5_bedTold_3 : decode cX5_bedTold 3 = .ok (.imul, 1) := by decide +kernel
theorem dX5_bedTold_4 : decode cX5_bedTold 4 = .ok (.istore_n 3, 1) := by decide +kernel
theorem dX5_bedTold_5 : decode cX5_bedTold 5 = .ok (.iload_n 2, 1) := by decide +kernel
theorem dX5_bedTold_6 : decode cX5_bedTold 6 = .ok (.iconst 4, 1) := by decide +kernel
theorem dX5_bedTold_7 : decode cX5_bedTold 7 = .ok (.if_icmp .ge 14, 3) := by decide +kernel
theorem dX5_bedTold_10 : decode cX5_bedTold 10 = .ok (.aload_n 0, 1) := by decide +kernel
theorem dX5_bedTold_11 : decode cX5_bedTold 11 = .ok (.getfield 16, 3) := by decide +kernel
theorem dX5_bedTold_14 : decode cX5_bedTold 14 = .ok (.iload_n 3, 1) := by decide +kernel
theorem dX5_bedTold_15 : decode cX5_bedTold 15 = .ok (.iload_n 2, 1) := by decide +kernel
theorem dX5_bedTold_16 : decode cX5_bedTold 16 = .ok (.iadd, 1) := by decide +kernel
theorem dX5_bedTold_17 : decode cX5_bedTold 17 = .ok (.iaload, 1) := by decide +kernel
theorem dX5_bedTold_18 : decode cX5_bedTold 18 = .ok (.goto 45, 3) := by decide +kernel
theorem dX5_bedTold_21 : decode cX5_bedTold 21 = .ok (.iload_n 2, 1) := by decide +kernel
theorem dX5_bedTold_22 : decode cX5_bedTold 22 = .ok (.iconst 4, 1) := by decide +kernel
theorem dX5_bedTold_23 : decode cX5_bedTold 23 = .ok (.if_icmp .ne 14, 3) := by decide +kernel
theorem dX5_bedTold_26 : decode cX5_bedTold 26 = .ok (.aload_n 0, 1) := by decide +kernel
theorem dX5_bedTold_27 : decode cX5_bedTold 27 = .ok (.getfield 16, 3) := by decide +kernel
theorem dX5_bedTold_30 : decode cX5_bedTold 30 = .ok (.iload_n 3, 1) := by decide +kernel
theorem dX5_bedTold_31 : decode cX5_bedTold 31 = .ok (.invokestatic 54, 3) := by decide +kernel
theorem dX5_bedTold_34 : decode cX5_bedTold 34 = .ok (.goto 29, 3) := by decide +kernel
theorem dX5_bedTold_37 : decode cX5_bedTold 37 = .ok (.iload_n 2, 1) := by decide +kernel
theorem dX5_bedTold_38 : decode cX5_bedTold 38 = .ok (.iconst 5, 1) := by decide +kernel
theorem dX5_bedTold_39 : decode cX5_bedTold 39 = .ok (.if_icmp .ne 14, 3) := by decide +kernel
theorem dX5_bedTold_42 : decode cX5_bedTold 42 = .ok (.aload_n 0, 1) := by decide +kernel
theorem dX5_bedTold_43 : decode cX5_bedTold 43 = .ok (.getfield 16, 3) := by decide +kernel
theorem dX5_bedTold_46 : decode cX5_bedTold 46 = .ok (.iload_n 3, 1) := by decide +kernel
theorem dX5_bedTold_47 : decode cX5_bedTold 47 = .ok (.invokestatic 66, 3) := by decide +kernel
theorem dX5_bedTold_50 : decode cX5_bedTold 50 = .ok (.goto 13, 3) := by decide +kernel
theorem dX5_bedTold_53 : decode cX5_bedTold 53 = .ok (.aload_n 0, 1) := by decide +kernel
theorem dX5_bedTold_54 : decode cX5_bedTold 54 = .ok (.getfield 16, 3) := by decide +kernel
theorem dX5_bedTold_57 : decode cX5_bedTold 57 = .ok (.iload_n 3, 1) := by decide +kernel
theorem dX5_bedTold_58 : decode cX5_bedTold 58 = .ok (.iload_n 2, 1) := by decide +kernel
theorem dX5_bedTold_59 : decode cX5_bedTold 59 = .ok (.iadd, 1) := by decide +kernel
theorem dX5_bedTold_60 : decode cX5_bedTold 60 = .ok (.iconst 2, 1) := by decide +kernel
theorem dX5_bedTold_61 : decode cX5_bedTold 61 = .ok (.isub, 1) := by decide +kernel
theorem dX5_bedTold_62 : decode cX5_bedTold 62 = .ok (.iaload, 1) := by decide +kernel
theorem dX5_bedTold_63 : decode cX5_bedTold 63 = .ok (.ireturn, 1) := by decide +kernel
set_option maxRecDepth 20000 in
theorem ggX5_about_X5_isBed : GoodIn wsX5_about wsX5_isBed := goodIn_r _ [6, 7, 8, 9, 5, 10, 27, 28, 29, 30, 31, 32, 33, 34, 35, 36, 37, 38, 39, 40] (by decide +kernel) (by decide +kernel)
set_option maxRecDepth 20000 in
theorem gX5_about_X5_isBed : GoodIn wsX5_about (wsV RX5 62 RX5 yX5_isBed wsX5_isBed) := goodIn_app (goodIn_of _ (by decide +kernel)) ggX5_about_X5_isBed
set_option maxRecDepth 20000 in
theorem ggX5_about_X5_isIn : GoodIn wsX5_about wsX5_isIn := goodIn_r _ [10] (by decide +kernel) (by decide +kernel)
set_option maxRecDepth 20000 in
theorem gX5_about_X5_isIn : GoodIn wsX5_about (va_wsS RX5 44 yX5_isIn wsX5_isIn) := goodIn_app (goodIn_of _ (by decide +kernel)) ggX5_about_X5_isIn
set_option maxRecDepth 20000 in
theorem ggX5_about_X5_bedTold : GoodIn wsX5_about wsX5_bedTold := goodIn_r _ [14, 15, 16, 17, 5, 18, 19, 20, 21, 22, 27, 28, 29, 30, 31, 32, 33, 34, 35, 36, 37, 38, 39, 40] (by decide +kernel) (by decide +kernel)
set_option maxRecDepth 20000 in
theorem gX5_about_X5_bedTold : GoodIn wsX5_about (wsV RX5 78 RX5 yX5_bedTold wsX5_bedTold) := goodIn_app (goodIn_of _ (by decide +kernel)) ggX5_about_X5_bedTold
set_option maxRecDepth 20000 in
theorem ggX5_about_X5_no : GoodIn wsX5_about wsX5_no := goodIn_r _ [26, 1, 27, 28, 29, 30, 31, 32, 33, 34, 35, 36, 37, 38, 39, 40] (by decide +kernel) (by decide +kernel)
set_option maxRecDepth 20000 in
theorem gX5_about_X5_no : GoodIn wsX5_about (wsV RX5 58 RX5 yX5_no wsX5_no) := goodIn_app (goodIn_of _ (by decide +kernel)) ggX5_about_X5_no
theorem dX5_about_0 : decode cX5_about 0 = .ok (.aload_n 0, 1) := by decide +kernel
theorem dX5_about_1 : decode cX5_about 1 = .ok (.iconst 0, 1) := by decide +kernel
theorem dX5_about_2 : decode cX5_about 2 = .ok (.putfield 38, 3) := by decide +kernel
theorem dX5_about_5 : decode cX5_about 5 = .ok (.aload_n 0, 1) := by decide +kernel
theorem dX5_about_6 : decode cX5_about 6 = .ok (.iload_n 1, 1) := by decide +kernel
theorem dX5_about_7 : decode cX5_about 7 = .ok (.invokevirtual 62, 3) := by decide +kernel
theorem dX5_about_10 : decode cX5_about 10 = .ok (.ifCond .eq 22, 3) := by decide +kernel
theorem dX5_about_13 : decode cX5_about 13 = .ok (.iload_n 2, 1) := by decide +kernel
theorem dX5_about_14 : decode cX5_about 14 = .ok (.iconst 0, 1) := by decide +kernel
theorem dX5_about_15 : decode cX5_about 15 = .ok (.bipush 9, 2) := by decide +kernel
theorem dX5_about_17 : decode cX5_about 17 = .ok (.invokestatic 44, 3) := by decide +kernel
theorem dX5_about_20 : decode cX5_about 20 = .ok (.ifCond .eq 12, 3) := by decide +kernel
theorem dX5_about_23 : decode cX5_about 23 = .ok (.aload_n 0, 1) := by decide +kernel
theorem dX5_about_24 : decode cX5_about 24 = .ok (.iload_n 1, 1) := by decide +kernel
theorem dX5_about_25 : decode cX5_about 25 = .ok (.iload_n 2, 1) := by decide +kernel
theorem dX5_about_26 : decode cX5_about 26 = .ok (.invokevirtual 78, 3) := by decide +kernel
theorem dX5_about_29 : decode cX5_about 29 = .ok (.goto 8, 3) := by decide +kernel
theorem dX5_about_32 : decode cX5_about 32 = .ok (.aload_n 0, 1) := by decide +kernel
theorem dX5_about_33 : decode cX5_about 33 = .ok (.iconst 1, 1) := by decide +kernel
theorem dX5_about_34 : decode cX5_about 34 = .ok (.invokevirtual 58, 3) := by decide +kernel
theorem dX5_about_37 : decode cX5_about 37 = .ok (.ireturn, 1) := by decide +kernel
set_option maxRecDepth 20000 in
theorem ggX5_best_X5_isBed : GoodIn wsX5_best wsX5_isBed := goodIn_r _ [7, 8, 9, 10, 6, 11, 55, 56, 57, 58, 59, 60, 61, 62, 63, 64, 65, 66, 67, 68] (by decide +kernel) (by decide +kernel)
set_option maxRecDepth 20000 in
theorem gX5_best_X5_isBed : GoodIn wsX5_best (wsV RX5 62 RX5 yX5_isBed wsX5_isBed) := goodIn_app (goodIn_of _ (by decide +kernel)) ggX5_best_X5_isBed
set_option maxRecDepth 20000 in
theorem ggX5_best_X5_no : GoodIn wsX5_best wsX5_no := goodIn_r _ [15, 1, 55, 56, 57, 58, 59, 60, 61, 62, 63, 64, 65, 66, 67, 68] (by decide +kernel) (by decide +kernel)
set_option maxRecDepth 20000 in
theorem gX5_best_X5_no : GoodIn wsX5_best (wsV RX5 58 RX5 yX5_no wsX5_no) := goodIn_app (goodIn_of _ (by decide +kernel)) ggX5_best_X5_no
set_option maxRecDepth 20000 in
theorem ggX5_best_X5_lookAhead : GoodIn wsX5_best wsX5_lookAhead := goodIn_r _ [19, 20, 2, 21, 22, 23, 24, 25, 26, 27, 28, 55, 56, 57, 58, 59, 60, 61, 62, 63, 64, 65, 66, 67, 68] (by decide +kernel) (by decide +kernel)
set_option maxRecDepth 20000 in
theorem gX5_best_X5_lookAhead : GoodIn wsX5_best (wsV RX5 81 RX5 yX5_lookAhead wsX5_lookAhead) := goodIn_app (goodIn_of _ (by decide +kernel)) ggX5_best_X5_lookAhead
set_option maxRecDepth 20000 in
theorem ggX5_best_X5_givesSedge : GoodIn wsX5_best wsX5_givesSedge := goodIn_r _ [31, 32, 33, 6, 34, 35] (by decide +kernel) (by decide +kernel)
set_option maxRecDepth 20000 in
theorem gX5_best_X5_givesSedge : GoodIn wsX5_best (va_wsS RX5 66 yX5_givesSedge wsX5_givesSedge) := goodIn_app (goodIn_of _ (by decide +kernel)) ggX5_best_X5_givesSedge
set_option maxRecDepth 20000 in
theorem ggX5_best_X5_endYear : GoodIn wsX5_best wsX5_endYear := goodIn_r _ [39, 8, 40, 41, 42, 43, 44, 45, 46, 47, 48, 49, 50, 6, 51, 52, 53, 54, 55, 56, 57, 58, 59, 60, 61, 62, 63, 64, 65, 66, 67, 68] (by decide +kernel) (by decide +kernel)
set_option maxRecDepth 20000 in
theorem gX5_best_X5_endYear : GoodIn wsX5_best (wsV RX5 84 RX5 yX5_endYear wsX5_endYear) := goodIn_app (goodIn_of _ (by decide +kernel)) ggX5_best_X5_endYear
theorem dX5_best_0 : decode cX5_best 0 = .ok (.aload_n 0, 1) := by decide +kernel
theorem dX5_best_1 : decode cX5_best 1 = .ok (.iconst 0, 1) := by decide +kernel
theorem dX5_best_2 : decode cX5_best 2 = .ok (.putfield 38, 3) := by decide +kernel
theorem dX5_best_5 : decode cX5_best 5 = .ok (.aload_n 0, 1) := by decide +kernel
theorem dX5_best_6 : decode cX5_best 6 = .ok (.iload_n 1, 1) := by decide +kernel
theorem dX5_best_7 : decode cX5_best 7 = .ok (.invokevirtual 62, 3) := by decide +kernel
theorem dX5_best_10 : decode cX5_best 10 = .ok (.ifCond .ne 9, 3) := by decide +kernel
theorem dX5_best_13 : decode cX5_best 13 = .ok (.aload_n 0, 1) := by decide +kernel
theorem dX5_best_14 : decode cX5_best 14 = .ok (.iconst 1, 1) := by decide +kernel
theorem dX5_best_15 : decode cX5_best 15 = .ok (.invokevirtual 58, 3) := by decide +kernel
theorem dX5_best_18 : decode cX5_best 18 = .ok (.ireturn, 1) := by decide +kernel
theorem dX5_best_19 : decode cX5_best 19 = .ok (.aload_n 0, 1) := by decide +kernel
theorem dX5_best_20 : decode cX5_best 20 = .ok (.invokevirtual 81, 3) := by decide +kernel
theorem dX5_best_23 : decode cX5_best 23 = .ok (.iconst 0, 1) := by decide +kernel
theorem dX5_best_24 : decode cX5_best 24 = .ok (.istore_n 2, 1) := by decide +kernel
theorem dX5_best_25 : decode cX5_best 25 = .ok (.aload_n 0, 1) := by decide +kernel
theorem dX5_best_26 : decode cX5_best 26 = .ok (.getfield 26, 3) := by decide +kernel
theorem dX5_best_29 : decode cX5_best 29 = .ok (.bipush 8, 2) := by decide +kernel
theorem dX5_best_31 : decode cX5_best 31 = .ok (.iload_n 1, 1) := by decide +kernel
theorem dX5_best_32 : decode cX5_best 32 = .ok (.imul, 1) := by decide +kernel
theorem dX5_best_33 : decode cX5_best 33 = .ok (.invokestatic 66, 3) := by decide +kernel
theorem dX5_best_36 : decode cX5_best 36 = .ok (.istore_n 3, 1) := by decide +kernel
theorem dX5_best_37 : decode cX5_best 37 = .ok (.iconst 1, 1) := by decide +kernel
theorem dX5_best_38 : decode cX5_best 38 = .ok (.istore 4, 2) := by decide +kernel
theorem dX5_best_40 : decode cX5_best 40 = .ok (.iload 4, 2) := by decide +kernel
theorem dX5_best_42 : decode cX5_best 42 = .ok (.bipush 9, 2) := by decide +kernel
theorem dX5_best_44 : decode cX5_best 44 = .ok (.if_icmp .gt 45, 3) := by decide +kernel
theorem dX5_best_47 : decode cX5_best 47 = .ok (.aload_n 0, 1) := by decide +kernel
theorem dX5_best_48 : decode cX5_best 48 = .ok (.aload_n 0, 1) := by decide +kernel
theorem dX5_best_49 : decode cX5_best 49 = .ok (.getfield 26, 3) := by decide +kernel
theorem dX5_best_52 : decode cX5_best 52 = .ok (.invokevirtual 84, 3) := by decide +kernel
theorem dX5_best_55 : decode cX5_best 55 = .ok (.aload_n 0, 1) := by decide +kernel
theorem dX5_best_56 : decode cX5_best 56 = .ok (.getfield 26, 3) := by decide +kernel
theorem dX5_best_59 : decode cX5_best 59 = .ok (.bipush 8, 2) := by decide +kernel
theorem dX5_best_61 : decode cX5_best 61 = .ok (.iload_n 1, 1) := by decide +kernel
theorem dX5_best_62 : decode cX5_best 62 = .ok (.imul, 1) := by decide +kernel
theorem dX5_best_63 : decode cX5_best 63 = .ok (.invokestatic 66, 3) := by decide +kernel
theorem dX5_best_66 : decode cX5_best 66 = .ok (.istore 5, 2) := by decide +kernel
theorem dX5_best_68 : decode cX5_best 68 = .ok (.iload 5, 2) := by decide +kernel
theorem dX5_best_70 : decode cX5_best 70 = .ok (.iload_n 3, 1) := by decide +kernel
theorem dX5_best_71 : decode cX5_best 71 = .ok (.if_icmp .gt 6, 3) := by decide +kernel
theorem dX5_best_74 : decode cX5_best 74 = .ok (.goto 9, 3) := by decide +kernel
theorem dX5_best_77 : decode cX5_best 77 = .ok (.iload 4, 2) := by decide +kernel
theorem dX5_best_79 : decode cX5_best 79 = .ok (.istore_n 2, 1) := by decide +kernel
theorem dX5_best_80 : decode cX5_best 80 = .ok (.iload 5, 2) := by decide +kernel
theorem dX5_best_82 : decode cX5_best 82 = .ok (.istore_n 3, 1) := by decide +kernel
theorem dX5_best_83 : decode cX5_best 83 = .ok (.iinc 4 1, 3) := by decide +kernel
theorem dX5_best_86 : decode cX5_best 86 = .ok (.goto (-46), 3) := by decide +kernel
theorem dX5_best_89 : decode cX5_best 89 = .ok (.iload_n 2, 1) := by decide +kernel
theorem dX5_best_90 : decode cX5_best 90 = .ok (.ireturn, 1) := by decide +kernel
set_option maxRecDepth 20000 in
theorem ggX5_barge_X5_isIn : GoodIn wsX5_barge wsX5_isIn := goodIn_r _ [7] (by decide +kernel) (by decide +kernel)
set_option maxRecDepth 20000 in
theorem gX5_barge_X5_isIn : GoodIn wsX5_barge (va_wsS RX5 44 yX5_isIn wsX5_isIn) := goodIn_app (goodIn_of _ (by decide +kernel)) ggX5_barge_X5_isIn
set_option maxRecDepth 20000 in
theorem ggX5_barge_X5_no : GoodIn wsX5_barge wsX5_no := goodIn_r _ [11, 1, 12, 13, 14, 15, 16, 17, 18, 19, 20, 21, 22, 23, 24, 25] (by decide +kernel) (by decide +kernel)
set_option maxRecDepth 20000 in
theorem gX5_barge_X5_no : GoodIn wsX5_barge (wsV RX5 58 RX5 yX5_no wsX5_no) := goodIn_app (goodIn_of _ (by decide +kernel)) ggX5_barge_X5_no
theorem dX5_barge_0 : decode cX5_barge 0 = .ok (.aload_n 0, 1) := by decide +kernel
theorem dX5_barge_1 : decode cX5_barge 1 = .ok (.iconst 0, 1) := by decide +kernel
theorem dX5_barge_2 : decode cX5_barge 2 = .ok (.putfield 38, 3) := by decide +kernel
theorem dX5_barge_5 : decode cX5_barge 5 = .ok (.iload_n 1, 1) := by decide +kernel
theorem dX5_barge_6 : decode cX5_barge 6 = .ok (.iconst 0, 1) := by decide +kernel
theorem dX5_barge_7 : decode cX5_barge 7 = .ok (.bipush 30, 2) := by decide +kernel
theorem dX5_barge_9 : decode cX5_barge 9 = .ok (.invokestatic 44, 3) := by decide +kernel
theorem dX5_barge_12 : decode cX5_barge 12 = .ok (.ifCond .ne 9, 3) := by decide +kernel
theorem dX5_barge_15 : decode cX5_barge 15 = .ok (.aload_n 0, 1) := by decide +kernel
theorem dX5_barge_16 : decode cX5_barge 16 = .ok (.iconst 1, 1) := by decide +kernel
theorem dX5_barge_17 : decode cX5_barge 17 = .ok (.invokevirtual 58, 3) := by decide +kernel
theorem dX5_barge_20 : decode cX5_barge 20 = .ok (.ireturn, 1) := by decide +kernel
theorem dX5_barge_21 : decode cX5_barge 21 = .ok (.aload_n 0, 1) := by decide +kernel
theorem dX5_barge_22 : decode cX5_barge 22 = .ok (.getfield 48, 3) := by decide +kernel
theorem dX5_barge_25 : decode cX5_barge 25 = .ok (.iconst 3, 1) := by decide +kernel
theorem dX5_barge_26 : decode cX5_barge 26 = .ok (.if_icmp .ne 9, 3) := by decide +kernel
theorem dX5_barge_29 : decode cX5_barge 29 = .ok (.aload_n 0, 1) := by decide +kernel
theorem dX5_barge_30 : decode cX5_barge 30 = .ok (.iconst 2, 1) := by decide +kernel
theorem dX5_barge_31 : decode cX5_barge 31 = .ok (.invokevirtual 58, 3) := by decide +kernel
theorem dX5_barge_34 : decode cX5_barge 34 = .ok (.ireturn, 1) := by decide +kernel
theorem dX5_barge_35 : decode cX5_barge 35 = .ok (.aload_n 0, 1) := by decide +kernel
theorem dX5_barge_36 : decode cX5_barge 36 = .ok (.getfield 20, 3) := by decide +kernel
theorem dX5_barge_39 : decode cX5_barge 39 = .ok (.iconst 5, 1) := by decide +kernel
theorem dX5_barge_40 : decode cX5_barge 40 = .ok (.aload_n 0, 1) := by decide +kernel
theorem dX5_barge_41 : decode cX5_barge 41 = .ok (.getfield 48, 3) := by decide +kernel
theorem dX5_barge_44 : decode cX5_barge 44 = .ok (.imul, 1) := by decide +kernel
theorem dX5_barge_45 : decode cX5_barge 45 = .ok (.iload_n 1, 1) := by decide +kernel
theorem dX5_barge_46 : decode cX5_barge 46 = .ok (.iastore, 1) := by decide +kernel
theorem dX5_barge_47 : decode cX5_barge 47 = .ok (.aload_n 0, 1) := by decide +kernel
theorem dX5_barge_48 : decode cX5_barge 48 = .ok (.getfield 20, 3) := by decide +kernel
theorem dX5_barge_51 : decode cX5_barge 51 = .ok (.iconst 5, 1) := by decide +kernel
theorem dX5_barge_52 : decode cX5_barge 52 = .ok (.aload_n 0, 1) := by decide +kernel
theorem dX5_barge_53 : decode cX5_barge 53 = .ok (.getfield 48, 3) := by decide +kernel
theorem dX5_barge_56 : decode cX5_barge 56 = .ok (.imul, 1) := by decide +kernel
theorem dX5_barge_57 : decode cX5_barge 57 = .ok (.iconst 1, 1) := by decide +kernel
theorem dX5_barge_58 : decode cX5_barge 58 = .ok (.iadd, 1) := by decide +kernel
theorem dX5_barge_59 : decode cX5_barge 59 = .ok (.iconst (-1), 1) := by decide +kernel
theorem dX5_barge_60 : decode cX5_barge 60 = .ok (.iastore, 1) := by decide +kernel
theorem dX5_barge_61 : decode cX5_barge 61 = .ok (.aload_n 0, 1) := by decide +kernel
theorem dX5_barge_62 : decode cX5_barge 62 = .ok (.dup, 1) := by decide +kernel
theorem dX5_barge_63 : decode cX5_barge 63 = .ok (.getfield 48, 3) := by decide +kernel
theorem dX5_barge_66 : decode cX5_barge 66 = .ok (.iconst 1, 1) := by decide +kernel
theorem dX5_barge_67 : decode cX5_barge 67 = .ok (.iadd, 1) := by decide +kernel
theorem dX5_barge_68 : decode cX5_barge 68 = .ok (.putfield 48, 3) := by decide +kernel
theorem dX5_barge_71 : decode cX5_barge 71 = .ok (.aload_n 0, 1) := by decide +kernel
theorem dX5_barge_72 : decode cX5_barge 72 = .ok (.getfield 48, 3) := by decide +kernel
theorem dX5_barge_75 : decode cX5_barge 75 = .ok (.iconst 1, 1) := by decide +kernel
theorem dX5_barge_76 : decode cX5_barge 76 = .ok (.isub, 1) := by decide +kernel
theorem dX5_barge_77 : decode cX5_barge 77 = .ok (.ireturn, 1) := by decide +kernel
theorem dX5_days_0 : decode cX5_days 0 = .ok (.iload_n 0, 1) := by decide +kernel
theorem dX5_days_1 : decode cX5_days 1 = .ok (.iload_n 1, 1) := by decide +kernel
theorem dX5_days_2 : decode cX5_days 2 = .ok (.isub, 1) := by decide +kernel
theorem dX5_days_3 : decode cX5_days 3 = .ok (.invokestatic 88, 3) := by decide +kernel
theorem dX5_days_6 : decode cX5_days 6 = .ok (.iconst 4, 1) := by decide +kernel
theorem dX5_days_7 : decode cX5_days 7 = .ok (.iadd, 1) := by decide +kernel
theorem dX5_days_8 : decode cX5_days 8 = .ok (.iconst 5, 1) := by decide +kernel
theorem dX5_days_9 : decode cX5_days 9 = .ok (.idiv, 1) := by decide +kernel
theorem dX5_days_10 : decode cX5_days 10 = .ok (.ireturn, 1) := by decide +kernel
set_option maxRecDepth 20000 in
theorem ggX5_sail_X5_isBarge : GoodIn wsX5_sail wsX5_isBarge := goodIn_r _ [7, 8, 9, 10, 6, 11, 23, 24, 25, 26, 27, 28, 29, 30, 31, 32, 33, 34, 35, 36] (by decide +kernel) (by decide +kernel)
set_option maxRecDepth 20000 in
theorem gX5_sail_X5_isBarge : GoodIn wsX5_sail (wsV RX5 91 RX5 yX5_isBarge wsX5_isBarge) := goodIn_app (goodIn_of _ (by decide +kernel)) ggX5_sail_X5_isBarge
set_option maxRecDepth 20000 in
theorem ggX5_sail_X5_isIn : GoodIn wsX5_sail wsX5_isIn := goodIn_r _ [11] (by decide +kernel) (by decide +kernel)
set_option maxRecDepth 20000 in
theorem gX5_sail_X5_isIn : GoodIn wsX5_sail (va_wsS RX5 44 yX5_isIn wsX5_isIn) := goodIn_app (goodIn_of _ (by decide +kernel)) ggX5_sail_X5_isIn
set_option maxRecDepth 20000 in
theorem ggX5_sail_X5_no : GoodIn wsX5_sail wsX5_no := goodIn_r _ [15, 1, 23, 24, 25, 26, 27, 28, 29, 30, 31, 32, 33, 34, 35, 36] (by decide +kernel) (by decide +kernel)
set_option maxRecDepth 20000 in
theorem gX5_sail_X5_no : GoodIn wsX5_sail (wsV RX5 58 RX5 yX5_no wsX5_no) := goodIn_app (goodIn_of _ (by decide +kernel)) ggX5_sail_X5_no
set_option maxRecDepth 20000 in
theorem ggX5_sail_X5_days : GoodIn wsX5_sail wsX5_days := goodIn_r _ [18, 19, 20, 21, 22] (by decide +kernel) (by decide +kernel)
set_option maxRecDepth 20000 in
theorem gX5_sail_X5_days : GoodIn wsX5_sail (va_wsS RX5 94 yX5_days wsX5_days) := goodIn_app (goodIn_of _ (by decide +kernel)) ggX5_sail_X5_days
theorem dX5_sail_0 : decode cX5_sail 0 = .ok (.aload_n 0, 1) := by decide +kernel
theorem dX5_sail_1 : decode cX5_sail 1 = .ok (.iconst 0, 1) := by decide +kernel
theorem dX5_sail_2 : decode cX5_sail 2 = .ok (.putfield 38, 3) := by decide +kernel
theorem dX5_sail_5 : decode cX5_sail 5 = .ok (.aload_n 0, 1) := by decide +kernel
theorem dX5_sail_6 : decode cX5_sail 6 = .ok (.iload_n 1, 1) := by decide +kernel
theorem dX5_sail_7 : decode cX5_sail 7 = .ok (.invokevirtual 91, 3) := by decide +kernel
theorem dX5_sail_10 : decode cX5_sail 10 = .ok (.ifCond .eq 13, 3) := by decide +kernel
theorem dX5_sail_13 : decode cX5_sail 13 = .ok (.iload_n 2, 1) := by decide +kernel
theorem dX5_sail_14 : decode cX5_sail 14 = .ok (.iconst 0, 1) := by decide +kernel
theorem dX5_sail_15 : decode cX5_sail 15 = .ok (.bipush 30, 2) := by decide +kernel
theorem dX5_sail_17 : decode cX5_sail 17 = .ok (.invokestatic 44, 3) := by decide +kernel
theorem dX5_sail_20 : decode cX5_sail 20 = .ok (.ifCond .ne 9, 3) := by decide +kernel
theorem dX5_sail_23 : decode cX5_sail 23 = .ok (.aload_n 0, 1) := by decide +kernel
theorem dX5_sail_24 : decode cX5_sail 24 = .ok (.iconst 1, 1) := by decide +kernel
theorem dX5_sail_25 : decode cX5_sail 25 = .ok (.invokevirtual 58, 3) := by decide +kernel
theorem dX5_sail_28 : decode cX5_sail 28 = .ok (.ireturn, 1) := by decide +kernel
theorem dX5_sail_29 : decode cX5_sail 29 = .ok (.iconst 5, 1) := by decide +kernel
theorem dX5_sail_30 : decode cX5_sail 30 = .ok (.iload_n 1, 1) := by decide +kernel
theorem dX5_sail_31 : decode cX5_sail 31 = .ok (.imul, 1) := by decide +kernel
theorem dX5_sail_32 : decode cX5_sail 32 = .ok (.istore_n 3, 1) := by decide +kernel
theorem dX5_sail_33 : decode cX5_sail 33 = .ok (.aload_n 0, 1) := by decide +kernel
theorem dX5_sail_34 : decode cX5_sail 34 = .ok (.getfield 20, 3) := by decide +kernel
theorem dX5_sail_37 : decode cX5_sail 37 = .ok (.iload_n 3, 1) := by decide +kernel
theorem dX5_sail_38 : decode cX5_sail 38 = .ok (.iconst 1, 1) := by decide +kernel
theorem dX5_sail_39 : decode cX5_sail 39 = .ok (.iadd, 1) := by decide +kernel
theorem dX5_sail_40 : decode cX5_sail 40 = .ok (.aload_n 0, 1) := by decide +kernel
theorem dX5_sail_41 : decode cX5_sail 41 = .ok (.getfield 20, 3) := by decide +kernel
theorem dX5_sail_44 : decode cX5_sail 44 = .ok (.iload_n 3, 1) := by decide +kernel
theorem dX5_sail_45 : decode cX5_sail 45 = .ok (.iaload, 1) := by decide +kernel
theorem dX5_sail_46 : decode cX5_sail 46 = .ok (.iload_n 2, 1) := by decide +kernel
theorem dX5_sail_47 : decode cX5_sail 47 = .ok (.if_icmp .ne 7, 3) := by decide +kernel
theorem dX5_sail_50 : decode cX5_sail 50 = .ok (.iconst (-1), 1) := by decide +kernel
theorem dX5_sail_51 : decode cX5_sail 51 = .ok (.goto 4, 3) := by decide +kernel
theorem dX5_sail_54 : decode cX5_sail 54 = .ok (.iload_n 2, 1) := by decide +kernel
theorem dX5_sail_55 : decode cX5_sail 55 = .ok (.iastore, 1) := by decide +kernel
theorem dX5_sail_56 : decode cX5_sail 56 = .ok (.aload_n 0, 1) := by decide +kernel
theorem dX5_sail_57 : decode cX5_sail 57 = .ok (.getfield 20, 3) := by decide +kernel
theorem dX5_sail_60 : decode cX5_sail 60 = .ok (.iload_n 3, 1) := by decide +kernel
theorem dX5_sail_61 : decode cX5_sail 61 = .ok (.iaload, 1) := by decide +kernel
theorem dX5_sail_62 : decode cX5_sail 62 = .ok (.iload_n 2, 1) := by decide +kernel
theorem dX5_sail_63 : decode cX5_sail 63 = .ok (.invokestatic 94, 3) := by decide +kernel
theorem dX5_sail_66 : decode cX5_sail 66 = .ok (.ireturn, 1) := by decide +kernel
theorem dX5_aboard_0 : decode cX5_aboard 0 = .ok (.aload_n 0, 1) := by decide +kernel
theorem dX5_aboard_1 : decode cX5_aboard 1 = .ok (.getfield 20, 3) := by decide +kernel
theorem dX5_aboard_4 : decode cX5_aboard 4 = .ok (.iload_n 1, 1) := by decide +kernel
theorem dX5_aboard_5 : decode cX5_aboard 5 = .ok (.iconst 2, 1) := by decide +kernel
theorem dX5_aboard_6 : decode cX5_aboard 6 = .ok (.iadd, 1) := by decide +kernel
theorem dX5_aboard_7 : decode cX5_aboard 7 = .ok (.iaload, 1) := by decide +kernel
theorem dX5_aboard_8 : decode cX5_aboard 8 = .ok (.aload_n 0, 1) := by decide +kernel
theorem dX5_aboard_9 : decode cX5_aboard 9 = .ok (.getfield 20, 3) := by decide +kernel
theorem dX5_aboard_12 : decode cX5_aboard 12 = .ok (.iload_n 1, 1) := by decide +kernel
theorem dX5_aboard_13 : decode cX5_aboard 13 = .ok (.iconst 2, 1) := by decide +kernel
theorem dX5_aboard_14 : decode cX5_aboard 14 = .ok (.iadd, 1) := by decide +kernel
theorem dX5_aboard_15 : decode cX5_aboard 15 = .ok (.iconst 1, 1) := by decide +kernel
theorem dX5_aboard_16 : decode cX5_aboard 16 = .ok (.iadd, 1) := by decide +kernel
theorem dX5_aboard_17 : decode cX5_aboard 17 = .ok (.iaload, 1) := by decide +kernel
theorem dX5_aboard_18 : decode cX5_aboard 18 = .ok (.iadd, 1) := by decide +kernel
theorem dX5_aboard_19 : decode cX5_aboard 19 = .ok (.ireturn, 1) := by decide +kernel
set_option maxRecDepth 20000 in
theorem ggX5_load_X5_isBarge : GoodIn wsX5_load wsX5_isBarge := goodIn_r _ [8, 9, 10, 11, 7, 12, 34, 35, 36, 37, 38, 39, 40, 41, 42, 43, 44, 45, 46, 47] (by decide +kernel) (by decide +kernel)
set_option maxRecDepth 20000 in
theorem gX5_load_X5_isBarge : GoodIn wsX5_load (wsV RX5 91 RX5 yX5_isBarge wsX5_isBarge) := goodIn_app (goodIn_of _ (by decide +kernel)) ggX5_load_X5_isBarge
set_option maxRecDepth 20000 in
theorem ggX5_load_X5_isBed : GoodIn wsX5_load wsX5_isBed := goodIn_r _ [16, 17, 10, 11, 7, 12, 34, 35, 36, 37, 38, 39, 40, 41, 42, 43, 44, 45, 46, 47] (by decide +kernel) (by decide +kernel)
set_option maxRecDepth 20000 in
theorem gX5_load_X5_isBed : GoodIn wsX5_load (wsV RX5 62 RX5 yX5_isBed wsX5_isBed) := goodIn_app (goodIn_of _ (by decide +kernel)) ggX5_load_X5_isBed
set_option maxRecDepth 20000 in
theorem ggX5_load_X5_no : GoodIn wsX5_load wsX5_no := goodIn_r _ [21, 1, 34, 35, 36, 37, 38, 39, 40, 41, 42, 43, 44, 45, 46, 47] (by decide +kernel) (by decide +kernel)
set_option maxRecDepth 20000 in
theorem gX5_load_X5_no : GoodIn wsX5_load (wsV RX5 58 RX5 yX5_no wsX5_no) := goodIn_app (goodIn_of _ (by decide +kernel)) ggX5_load_X5_no
set_option maxRecDepth 20000 in
theorem ggX5_load_X5_loadOf : GoodIn wsX5_load wsX5_loadOf := goodIn_r _ [25, 3, 26, 27, 28, 29, 2, 30, 31, 32, 7, 33, 34, 35, 36, 37, 38, 39, 40, 41, 42, 43, 44, 45, 46, 47] (by decide +kernel) (by decide +kernel)
set_option maxRecDepth 20000 in
theorem gX5_load_X5_loadOf : GoodIn wsX5_load (wsV RX5 97 RX5 yX5_loadOf wsX5_loadOf) := goodIn_app (goodIn_of _ (by decide +kernel)) ggX5_load_X5_loadOf
theorem dX5_load_0 : decode cX5_load 0 = .ok (.aload_n 0, 1) := by decide +kernel
theorem dX5_load_1 : decode cX5_load 1 = .ok (.iconst 0, 1) := by decide +kernel
theorem dX5_load_2 : decode cX5_load 2 = .ok (.putfield 38, 3) := by decide +kernel
theorem dX5_load_5 : decode cX5_load 5 = .ok (.aload_n 0, 1) := by decide +kernel
theorem dX5_load_6 : decode cX5_load 6 = .ok (.iload_n 1, 1) := by decide +kernel
theorem dX5_load_7 : decode cX5_load 7 = .ok (.invokevirtual 91, 3) := by decide +kernel
theorem dX5_load_10 : decode cX5_load 10 = .ok (.ifCond .eq 11, 3) := by decide +kernel
theorem dX5_load_13 : decode cX5_load 13 = .ok (.aload_n 0, 1) := by decide +kernel
theorem dX5_load_14 : decode cX5_load 14 = .ok (.iload_n 2, 1) := by decide +kernel
theorem dX5_load_15 : decode cX5_load 15 = .ok (.invokevirtual 62, 3) := by decide +kernel
theorem dX5_load_18 : decode cX5_load 18 = .ok (.ifCond .ne 9, 3) := by decide +kernel
theorem dX5_load_21 : decode cX5_load 21 = .ok (.aload_n 0, 1) := by decide +kernel
theorem dX5_load_22 : decode cX5_load 22 = .ok (.iconst 1, 1) := by decide +kernel
theorem dX5_load_23 : decode cX5_load 23 = .ok (.invokevirtual 58, 3) := by decide +kernel
theorem dX5_load_26 : decode cX5_load 26 = .ok (.ireturn, 1) := by decide +kernel
theorem dX5_load_27 : decode cX5_load 27 = .ok (.aload_n 0, 1) := by decide +kernel
theorem dX5_load_28 : decode cX5_load 28 = .ok (.getfield 20, 3) := by decide +kernel
theorem dX5_load_31 : decode cX5_load 31 = .ok (.iconst 5, 1) := by decide +kernel
theorem dX5_load_32 : decode cX5_load 32 = .ok (.iload_n 1, 1) := by decide +kernel
theorem dX5_load_33 : decode cX5_load 33 = .ok (.imul, 1) := by decide +kernel
theorem dX5_load_34 : decode cX5_load 34 = .ok (.iaload, 1) := by decide +kernel
theorem dX5_load_35 : decode cX5_load 35 = .ok (.aload_n 0, 1) := by decide +kernel
theorem dX5_load_36 : decode cX5_load 36 = .ok (.getfield 16, 3) := by decide +kernel
theorem dX5_load_39 : decode cX5_load 39 = .ok (.bipush 8, 2) := by decide +kernel
theorem dX5_load_41 : decode cX5_load 41 = .ok (.iload_n 2, 1) := by decide +kernel
theorem dX5_load_42 : decode cX5_load 42 = .ok (.imul, 1) := by decide +kernel
theorem dX5_load_43 : decode cX5_load 43 = .ok (.iaload, 1) := by decide +kernel
theorem dX5_load_44 : decode cX5_load 44 = .ok (.if_icmp .eq 9, 3) := by decide +kernel
theorem dX5_load_47 : decode cX5_load 47 = .ok (.aload_n 0, 1) := by decide +kernel
theorem dX5_load_48 : decode cX5_load 48 = .ok (.iconst 2, 1) := by decide +kernel
theorem dX5_load_49 : decode cX5_load 49 = .ok (.invokevirtual 58, 3) := by decide +kernel
theorem dX5_load_52 : decode cX5_load 52 = .ok (.ireturn, 1) := by decide +kernel
theorem dX5_load_53 : decode cX5_load 53 = .ok (.aload_n 0, 1) := by decide +kernel
theorem dX5_load_54 : decode cX5_load 54 = .ok (.iconst 5, 1) := by decide +kernel
theorem dX5_load_55 : decode cX5_load 55 = .ok (.iload_n 1, 1) := by decide +kernel
theorem dX5_load_56 : decode cX5_load 56 = .ok (.imul, 1) := by decide +kernel
theorem dX5_load_57 : decode cX5_load 57 = .ok (.bipush 8, 2) := by decide +kernel
theorem dX5_load_59 : decode cX5_load 59 = .ok (.iload_n 2, 1) := by decide +kernel
theorem dX5_load_60 : decode cX5_load 60 = .ok (.imul, 1) := by decide +kernel
theorem dX5_load_61 : decode cX5_load 61 = .ok (.iconst 0, 1) := by decide +kernel
theorem dX5_load_62 : decode cX5_load 62 = .ok (.invokevirtual 97, 3) := by decide +kernel
theorem dX5_load_65 : decode cX5_load 65 = .ok (.aload_n 0, 1) := by decide +kernel
theorem dX5_load_66 : decode cX5_load 66 = .ok (.iconst 5, 1) := by decide +kernel
theorem dX5_load_67 : decode cX5_load 67 = .ok (.iload_n 1, 1) := by decide +kernel
theorem dX5_load_68 : decode cX5_load 68 = .ok (.imul, 1) := by decide +kernel
theorem dX5_load_69 : decode cX5_load 69 = .ok (.bipush 8, 2) := by decide +kernel
theorem dX5_load_71 : decode cX5_load 71 = .ok (.iload_n 2, 1) := by decide +kernel
theorem dX5_load_72 : decode cX5_load 72 = .ok (.imul, 1) := by decide +kernel
theorem dX5_load_73 : decode cX5_load 73 = .ok (.iconst 1, 1) := by decide +kernel
theorem dX5_load_74 : decode cX5_load 74 = .ok (.invokevirtual 97, 3) := by decide +kernel
theorem dX5_load_77 : decode cX5_load 77 = .ok (.iadd, 1) := by decide +kernel
theorem dX5_load_78 : decode cX5_load 78 = .ok (.ireturn, 1) := by decide +kernel
set_option maxRecDepth 20000 in
theorem ggX5_loadOf_X5_aboard : GoodIn wsX5_loadOf wsX5_aboard := goodIn_r _ [11, 6, 12, 13, 14, 15, 16, 17, 18, 19, 20, 21, 22, 23, 24, 25] (by decide +kernel) (by decide +kernel)
set_option maxRecDepth 20000 in
theorem gX5_loadOf_X5_aboard : GoodIn wsX5_loadOf (wsV RX5 101 RX5 yX5_aboard wsX5_aboard) := goodIn_app (goodIn_of _ (by decide +kernel)) ggX5_loadOf_X5_aboard
theorem dX5_loadOf_0 : decode cX5_loadOf 0 = .ok (.sipush 150, 3) := by decide +kernel
theorem dX5_loadOf_3 : decode cX5_loadOf 3 = .ok (.aload_n 0, 1) := by decide +kernel
theorem dX5_loadOf_4 : decode cX5_loadOf 4 = .ok (.iload_n 1, 1) := by decide +kernel
theorem dX5_loadOf_5 : decode cX5_loadOf 5 = .ok (.invokevirtual 101, 3) := by decide +kernel
theorem dX5_loadOf_8 : decode cX5_loadOf 8 = .ok (.isub, 1) := by decide +kernel
theorem dX5_loadOf_9 : decode cX5_loadOf 9 = .ok (.aload_n 0, 1) := by decide +kernel
theorem dX5_loadOf_10 : decode cX5_loadOf 10 = .ok (.getfield 16, 3) := by decide +kernel
theorem dX5_loadOf_13 : decode cX5_loadOf 13 = .ok (.iload_n 2, 1) := by decide +kernel
theorem dX5_loadOf_14 : decode cX5_loadOf 14 = .ok (.bipush 6, 2) := by decide +kernel
theorem dX5_loadOf_16 : decode cX5_loadOf 16 = .ok (.iadd, 1) := by decide +kernel
theorem dX5_loadOf_17 : decode cX5_loadOf 17 = .ok (.iload_n 3, 1) := by decide +kernel
theorem dX5_loadOf_18 : decode cX5_loadOf 18 = .ok (.iadd, 1) := by decide +kernel
theorem dX5_loadOf_19 : decode cX5_loadOf 19 = .ok (.iaload, 1) := by decide +kernel
theorem dX5_loadOf_20 : decode cX5_loadOf 20 = .ok (.invokestatic 73, 3) := by decide +kernel
theorem dX5_loadOf_23 : decode cX5_loadOf 23 = .ok (.istore 4, 2) := by decide +kernel
theorem dX5_loadOf_25 : decode cX5_loadOf 25 = .ok (.aload_n 0, 1) := by decide +kernel
theorem dX5_loadOf_26 : decode cX5_loadOf 26 = .ok (.getfield 16, 3) := by decide +kernel
theorem dX5_loadOf_29 : decode cX5_loadOf 29 = .ok (.iload_n 2, 1) := by decide +kernel
theorem dX5_loadOf_30 : decode cX5_loadOf 30 = .ok (.bipush 6, 2) := by decide +kernel
theorem dX5_loadOf_32 : decode cX5_loadOf 32 = .ok (.iadd, 1) := by decide +kernel
theorem dX5_loadOf_33 : decode cX5_loadOf 33 = .ok (.iload_n 3, 1) := by decide +kernel
theorem dX5_loadOf_34 : decode cX5_loadOf 34 = .ok (.iadd, 1) := by decide +kernel
theorem dX5_loadOf_35 : decode cX5_loadOf 35 = .ok (.dup2, 1) := by decide +kernel
theorem dX5_loadOf_36 : decode cX5_loadOf 36 = .ok (.iaload, 1) := by decide +kernel
theorem dX5_loadOf_37 : decode cX5_loadOf 37 = .ok (.iload 4, 2) := by decide +kernel
theorem dX5_loadOf_39 : decode cX5_loadOf 39 = .ok (.isub, 1) := by decide +kernel
theorem dX5_loadOf_40 : decode cX5_loadOf 40 = .ok (.iastore, 1) := by decide +kernel
theorem dX5_loadOf_41 : decode cX5_loadOf 41 = .ok (.aload_n 0, 1) := by decide +kernel
theorem dX5_loadOf_42 : decode cX5_loadOf 42 = .ok (.getfield 20, 3) := by decide +kernel
theorem dX5_loadOf_45 : decode cX5_loadOf 45 = .ok (.iload_n 1, 1) := by decide +kernel
theorem dX5_loadOf_46 : decode cX5_loadOf 46 = .ok (.iconst 2, 1) := by decide +kernel
theorem dX5_loadOf_47 : decode cX5_loadOf 47 = .ok (.iadd, 1) := by decide +kernel
theorem dX5_loadOf_48 : decode cX5_loadOf 48 = .ok (.iload_n 3, 1) := by decide +kernel
theorem dX5_loadOf_49 : decode cX5_loadOf 49 = .ok (.iadd, 1) := by decide +kernel
theorem dX5_loadOf_50 : decode cX5_loadOf 50 = .ok (.dup2, 1) := by decide +kernel
theorem dX5_loadOf_51 : decode cX5_loadOf 51 = .ok (.iaload, 1) := by decide +kernel
theorem dX5_loadOf_52 : decode cX5_loadOf 52 = .ok (.iload 4, 2) := by decide +kernel
theorem dX5_loadOf_54 : decode cX5_loadOf 54 = .ok (.iadd, 1) := by decide +kernel
theorem dX5_loadOf_55 : decode cX5_loadOf 55 = .ok (.iastore, 1) := by decide +kernel
theorem dX5_loadOf_56 : decode cX5_loadOf 56 = .ok (.iload 4, 2) := by decide +kernel
theorem dX5_loadOf_58 : decode cX5_loadOf 58 = .ok (.ireturn, 1) := by decide +kernel
theorem dX5_landingAt_0 : decode cX5_landingAt 0 = .ok (.iconst 0, 1) := by decide +kernel
theorem dX5_landingAt_1 : decode cX5_landingAt 1 = .ok (.istore_n 1, 1) := by decide +kernel
theorem dX5_landingAt_2 : decode cX5_landingAt 2 = .ok (.iload_n 1, 1) := by decide +kernel
theorem dX5_landingAt_3 : decode cX5_landingAt 3 = .ok (.iconst 3, 1) := by decide +kernel
theorem dX5_landingAt_4 : decode cX5_landingAt 4 = .ok (.if_icmp .ge 20, 3) := by decide +kernel
theorem dX5_landingAt_7 : decode cX5_landingAt 7 = .ok (.getstatic 104, 3) := by decide +kernel
theorem dX5_landingAt_10 : decode cX5_landingAt 10 = .ok (.iload_n 1, 1) := by decide +kernel
theorem dX5_landingAt_11 : decode cX5_landingAt 11 = .ok (.iaload, 1) := by decide +kernel
theorem dX5_landingAt_12 : decode cX5_landingAt 12 = .ok (.iload_n 0, 1) := by decide +kernel
theorem dX5_landingAt_13 : decode cX5_landingAt 13 = .ok (.if_icmp .ne 5, 3) := by decide +kernel
theorem dX5_landingAt_16 : decode cX5_landingAt 16 = .ok (.iload_n 1, 1) := by decide +kernel
theorem dX5_landingAt_17 : decode cX5_landingAt 17 = .ok (.ireturn, 1) := by decide +kernel
theorem dX5_landingAt_18 : decode cX5_landingAt 18 = .ok (.iinc 1 1, 3) := by decide +kernel
theorem dX5_landingAt_21 : decode cX5_landingAt 21 = .ok (.goto (-19), 3) := by decide +kernel
theorem dX5_landingAt_24 : decode cX5_landingAt 24 = .ok (.iconst (-1), 1) := by decide +kernel
theorem dX5_landingAt_25 : decode cX5_landingAt 25 = .ok (.ireturn, 1) := by decide +kernel
theorem dX5_price_0 : decode cX5_price 0 = .ok (.iconst 1, 1) := by decide +kernel
theorem dX5_price_1 : decode cX5_price 1 = .ok (.getstatic 107, 3) := by decide +kernel
theorem dX5_price_4 : decode cX5_price 4 = .ok (.iload_n 0, 1) := by decide +kernel
theorem dX5_price_5 : decode cX5_price 5 = .ok (.iaload, 1) := by decide +kernel
theorem dX5_price_6 : decode cX5_price 6 = .ok (.iload_n 1, 1) := by decide +kernel
theorem dX5_price_7 : decode cX5_price 7 = .ok (.bipush 25, 2) := by decide +kernel
theorem dX5_price_9 : decode cX5_price 9 = .ok (.idiv, 1) := by decide +kernel
theorem dX5_price_10 : decode cX5_price 10 = .ok (.isub, 1) := by decide +kernel
theorem dX5_price_11 : decode cX5_price 11 = .ok (.invokestatic 110, 3) := by decide +kernel
theorem dX5_price_14 : decode cX5_price 14 = .ok (.ireturn, 1) := by decide +kernel
set_option maxRecDepth 20000 in
theorem ggX5_reedPrice_X5_price : GoodIn wsX5_reedPrice wsX5_price := goodIn_r _ [8, 9, 1, 2, 3, 4] (by decide +kernel) (by decide +kernel)
set_option maxRecDepth 20000 in
theorem gX5_reedPrice_X5_price : GoodIn wsX5_reedPrice (va_wsS RX5 113 yX5_price wsX5_price) := goodIn_app (goodIn_of _ (by decide +kernel)) ggX5_reedPrice_X5_price
theorem dX5_reedPrice_0 : decode cX5_reedPrice 0 = .ok (.iconst 1, 1) := by decide +kernel
theorem dX5_reedPrice_1 : decode cX5_reedPrice 1 = .ok (.iload_n 0, 1) := by decide +kernel
theorem dX5_reedPrice_2 : decode cX5_reedPrice 2 = .ok (.iload_n 1, 1) := by decide +kernel
theorem dX5_reedPrice_3 : decode cX5_reedPrice 3 = .ok (.invokestatic 113, 3) := by decide +kernel
theorem dX5_reedPrice_6 : decode cX5_reedPrice 6 = .ok (.iconst 2, 1) := by decide +kernel
theorem dX5_reedPrice_7 : decode cX5_reedPrice 7 = .ok (.idiv, 1) := by decide +kernel
theorem dX5_reedPrice_8 : decode cX5_reedPrice 8 = .ok (.invokestatic 110, 3) := by decide +kernel
theorem dX5_reedPrice_11 : decode cX5_reedPrice 11 = .ok (.ireturn, 1) := by decide +kernel
set_option maxRecDepth 20000 in
theorem ggX5_brings_X5_price : GoodIn wsX5_brings wsX5_price := goodIn_r _ [5, 6, 7, 8, 9, 10] (by decide +kernel) (by decide +kernel)
set_option maxRecDepth 20000 in
theorem gX5_brings_X5_price : GoodIn wsX5_brings (va_wsS RX5 113 yX5_price wsX5_price) := goodIn_app (goodIn_of _ (by decide +kernel)) ggX5_brings_X5_price
set_option maxRecDepth 20000 in
theorem ggX5_brings_X5_reedPrice : GoodIn wsX5_brings wsX5_reedPrice := goodIn_r _ [13, 7, 8, 9, 10, 2, 3, 4, 5, 6] (by decide +kernel) (by decide +kernel)
set_option maxRecDepth 20000 in
theorem gX5_brings_X5_reedPrice : GoodIn wsX5_brings (va_wsS RX5 116 yX5_reedPrice wsX5_reedPrice) := goodIn_app (goodIn_of _ (by decide +kernel)) ggX5_brings_X5_reedPrice
theorem dX5_brings_0 : decode cX5_brings 0 = .ok (.aload_n 0, 1) := by decide +kernel
theorem dX5_brings_1 : decode cX5_brings 1 = .ok (.getfield 20, 3) := by decide +kernel
theorem dX5_brings_4 : decode cX5_brings 4 = .ok (.iload_n 1, 1) := by decide +kernel
theorem dX5_brings_5 : decode cX5_brings 5 = .ok (.iconst 2, 1) := by decide +kernel
theorem dX5_brings_6 : decode cX5_brings 6 = .ok (.iadd, 1) := by decide +kernel
theorem dX5_brings_7 : decode cX5_brings 7 = .ok (.iaload, 1) := by decide +kernel
theorem dX5_brings_8 : decode cX5_brings 8 = .ok (.iload_n 2, 1) := by decide +kernel
theorem dX5_brings_9 : decode cX5_brings 9 = .ok (.iload_n 3, 1) := by decide +kernel
theorem dX5_brings_10 : decode cX5_brings 10 = .ok (.invokestatic 113, 3) := by decide +kernel
theorem dX5_brings_13 : decode cX5_brings 13 = .ok (.imul, 1) := by decide +kernel
theorem dX5_brings_14 : decode cX5_brings 14 = .ok (.aload_n 0, 1) := by decide +kernel
theorem dX5_brings_15 : decode cX5_brings 15 = .ok (.getfield 20, 3) := by decide +kernel
theorem dX5_brings_18 : decode cX5_brings 18 = .ok (.iload_n 1, 1) := by decide +kernel
theorem dX5_brings_19 : decode cX5_brings 19 = .ok (.iconst 2, 1) := by decide +kernel
theorem dX5_brings_20 : decode cX5_brings 20 = .ok (.iadd, 1) := by decide +kernel
theorem dX5_brings_21 : decode cX5_brings 21 = .ok (.iconst 1, 1) := by decide +kernel
theorem dX5_brings_22 : decode cX5_brings 22 = .ok (.iadd, 1) := by decide +kernel
theorem dX5_brings_23 : decode cX5_brings 23 = .ok (.iaload, 1) := by decide +kernel
theorem dX5_brings_24 : decode cX5_brings 24 = .ok (.iload_n 2, 1) := by decide +kernel
theorem dX5_brings_25 : decode cX5_brings 25 = .ok (.iload_n 3, 1) := by decide +kernel
theorem dX5_brings_26 : decode cX5_brings 26 = .ok (.invokestatic 116, 3) := by decide +kernel
theorem dX5_brings_29 : decode cX5_brings 29 = .ok (.imul, 1) := by decide +kernel
theorem dX5_brings_30 : decode cX5_brings 30 = .ok (.iadd, 1) := by decide +kernel
theorem dX5_brings_31 : decode cX5_brings 31 = .ok (.ireturn, 1) := by decide +kernel
set_option maxRecDepth 20000 in
theorem ggX5_sell_X5_isBarge : GoodIn wsX5_sell wsX5_isBarge := goodIn_r _ [9, 10, 11, 12, 8, 13, 41, 42, 43, 44, 45, 46, 47, 48, 49, 50, 51, 52, 53, 54] (by decide +kernel) (by decide +kernel)
set_option maxRecDepth 20000 in
theorem gX5_sell_X5_isBarge : GoodIn wsX5_sell (wsV RX5 91 RX5 yX5_isBarge wsX5_isBarge) := goodIn_app (goodIn_of _ (by decide +kernel)) ggX5_sell_X5_isBarge
set_option maxRecDepth 20000 in
theorem ggX5_sell_X5_no : GoodIn wsX5_sell wsX5_no := goodIn_r _ [17, 1, 41, 42, 43, 44, 45, 46, 47, 48, 49, 50, 51, 52, 53, 54] (by decide +kernel) (by decide +kernel)
set_option maxRecDepth 20000 in
theorem gX5_sell_X5_no : GoodIn wsX5_sell (wsV RX5 58 RX5 yX5_no wsX5_no) := goodIn_app (goodIn_of _ (by decide +kernel)) ggX5_sell_X5_no
set_option maxRecDepth 20000 in
theorem ggX5_sell_X5_landingAt : GoodIn wsX5_sell wsX5_landingAt := goodIn_r _ [20, 21] (by decide +kernel) (by decide +kernel)
set_option maxRecDepth 20000 in
theorem gX5_sell_X5_landingAt : GoodIn wsX5_sell (va_wsS RX5 119 yX5_landingAt wsX5_landingAt) := goodIn_app (goodIn_of _ (by decide +kernel)) ggX5_sell_X5_landingAt
set_option maxRecDepth 20000 in
theorem ggX5_sell_X5_brings : GoodIn wsX5_sell wsX5_brings := goodIn_r _ [25, 2, 26, 27, 8, 28, 29, 30, 31, 32, 33, 34, 35, 36, 41, 42, 43, 44, 45, 46, 47, 48, 49, 50, 51, 52, 53, 54] (by decide +kernel) (by decide +kernel)
set_option maxRecDepth 20000 in
theorem gX5_sell_X5_brings : GoodIn wsX5_sell (wsV RX5 122 RX5 yX5_brings wsX5_brings) := goodIn_app (goodIn_of _ (by decide +kernel)) ggX5_sell_X5_brings
set_option maxRecDepth 20000 in
theorem ggX5_sell_X5_aboard : GoodIn wsX5_sell wsX5_aboard := goodIn_r _ [40, 2, 41, 42, 43, 44, 45, 46, 47, 48, 49, 50, 51, 52, 53, 54] (by decide +kernel) (by decide +kernel)
set_option maxRecDepth 20000 in
theorem gX5_sell_X5_aboard : GoodIn wsX5_sell (wsV RX5 101 RX5 yX5_aboard wsX5_aboard) := goodIn_app (goodIn_of _ (by decide +kernel)) ggX5_sell_X5_aboard
theorem dX5_sell_0 : decode cX5_sell 0 = .ok (.aload_n 0, 1) := by decide +kernel
theorem dX5_sell_1 : decode cX5_sell 1 = .ok (.iconst 0, 1) := by decide +kernel
theorem dX5_sell_2 : decode cX5_sell 2 = .ok (.putfield 38, 3) := by decide +kernel
theorem dX5_sell_5 : decode cX5_sell 5 = .ok (.aload_n 0, 1) := by decide +kernel
theorem dX5_sell_6 : decode cX5_sell 6 = .ok (.iload_n 1, 1) := by decide +kernel
theorem dX5_sell_7 : decode cX5_sell 7 = .ok (.invokevirtual 91, 3) := by decide +kernel
theorem dX5_sell_10 : decode cX5_sell 10 = .ok (.ifCond .ne 9, 3) := by decide +kernel
theorem dX5_sell_13 : decode cX5_sell 13 = .ok (.aload_n 0, 1) := by decide +kernel
theorem dX5_sell_14 : decode cX5_sell 14 = .ok (.iconst 1, 1) := by decide +kernel
theorem dX5_sell_15 : decode cX5_sell 15 = .ok (.invokevirtual 58, 3) := by decide +kernel
theorem dX5_sell_18 : decode cX5_sell 18 = .ok (.ireturn, 1) := by decide +kernel
theorem dX5_sell_19 : decode cX5_sell 19 = .ok (.iconst 5, 1) := by decide +kernel
theorem dX5_sell_20 : decode cX5_sell 20 = .ok (.iload_n 1, 1) := by decide +kernel
theorem dX5_sell_21 : decode cX5_sell 21 = .ok (.imul, 1) := by decide +kernel
theorem dX5_sell_22 : decode cX5_sell 22 = .ok (.istore_n 2, 1) := by decide +kernel
theorem dX5_sell_23 : decode cX5_sell 23 = .ok (.aload_n 0, 1) := by decide +kernel
theorem dX5_sell_24 : decode cX5_sell 24 = .ok (.getfield 20, 3) := by decide +kernel
theorem dX5_sell_27 : decode cX5_sell 27 = .ok (.iload_n 2, 1) := by decide +kernel
theorem dX5_sell_28 : decode cX5_sell 28 = .ok (.iaload, 1) := by decide +kernel
theorem dX5_sell_29 : decode cX5_sell 29 = .ok (.invokestatic 119, 3) := by decide +kernel
theorem dX5_sell_32 : decode cX5_sell 32 = .ok (.istore_n 3, 1) := by decide +kernel
theorem dX5_sell_33 : decode cX5_sell 33 = .ok (.iload_n 3, 1) := by decide +kernel
theorem dX5_sell_34 : decode cX5_sell 34 = .ok (.ifCond .ge 9, 3) := by decide +kernel
theorem dX5_sell_37 : decode cX5_sell 37 = .ok (.aload_n 0, 1) := by decide +kernel
theorem dX5_sell_38 : decode cX5_sell 38 = .ok (.iconst 2, 1) := by decide +kernel
theorem dX5_sell_39 : decode cX5_sell 39 = .ok (.invokevirtual 58, 3) := by decide +kernel
theorem dX5_sell_42 : decode cX5_sell 42 = .ok (.ireturn, 1) := by decide +kernel
theorem dX5_sell_43 : decode cX5_sell 43 = .ok (.aload_n 0, 1) := by decide +kernel
theorem dX5_sell_44 : decode cX5_sell 44 = .ok (.iload_n 2, 1) := by decide +kernel
theorem dX5_sell_45 : decode cX5_sell 45 = .ok (.iload_n 3, 1) := by decide +kernel
theorem dX5_sell_46 : decode cX5_sell 46 = .ok (.aload_n 0, 1) := by decide +kernel
theorem dX5_sell_47 : decode cX5_sell 47 = .ok (.getfield 23, 3) := by decide +kernel
theorem dX5_sell_50 : decode cX5_sell 50 = .ok (.iload_n 3, 1) := by decide +kernel
theorem dX5_sell_51 : decode cX5_sell 51 = .ok (.iaload, 1) := by decide +kernel
theorem dX5_sell_52 : decode cX5_sell 52 = .ok (.invokevirtual 122, 3) := by decide +kernel
theorem dX5_sell_55 : decode cX5_sell 55 = .ok (.istore 4, 2) := by decide +kernel
theorem dX5_sell_57 : decode cX5_sell 57 = .ok (.aload_n 0, 1) := by decide +kernel
theorem dX5_sell_58 : decode cX5_sell 58 = .ok (.getfield 23, 3) := by decide +kernel
theorem dX5_sell_61 : decode cX5_sell 61 = .ok (.iload_n 3, 1) := by decide +kernel
theorem dX5_sell_62 : decode cX5_sell 62 = .ok (.dup2, 1) := by decide +kernel
theorem dX5_sell_63 : decode cX5_sell 63 = .ok (.iaload, 1) := by decide +kernel
theorem dX5_sell_64 : decode cX5_sell 64 = .ok (.aload_n 0, 1) := by decide +kernel
theorem dX5_sell_65 : decode cX5_sell 65 = .ok (.iload_n 2, 1) := by decide +kernel
theorem dX5_sell_66 : decode cX5_sell 66 = .ok (.invokevirtual 101, 3) := by decide +kernel
theorem dX5_sell_69 : decode cX5_sell 69 = .ok (.iadd, 1) := by decide +kernel
theorem dX5_sell_70 : decode cX5_sell 70 = .ok (.iastore, 1) := by decide +kernel
theorem dX5_sell_71 : decode cX5_sell 71 = .ok (.aload_n 0, 1) := by decide +kernel
theorem dX5_sell_72 : decode cX5_sell 72 = .ok (.getfield 20, 3) := by decide +kernel
theorem dX5_sell_75 : decode cX5_sell 75 = .ok (.iload_n 2, 1) := by decide +kernel
theorem dX5_sell_76 : decode cX5_sell 76 = .ok (.iconst 2, 1) := by decide +kernel
theorem dX5_sell_77 : decode cX5_sell 77 = .ok (.iadd, 1) := by decide +kernel
theorem dX5_sell_78 : decode cX5_sell 78 = .ok (.iconst 0, 1) := by decide +kernel
theorem dX5_sell_79 : decode cX5_sell 79 = .ok (.iastore, 1) := by decide +kernel
theorem dX5_sell_80 : decode cX5_sell 80 = .ok (.aload_n 0, 1) := by decide +kernel
theorem dX5_sell_81 : decode cX5_sell 81 = .ok (.getfield 20, 3) := by decide +kernel
theorem dX5_sell_84 : decode cX5_sell 84 = .ok (.iload_n 2, 1) := by decide +kernel
theorem dX5_sell_85 : decode cX5_sell 85 = .ok (.iconst 2, 1) := by decide +kernel
theorem dX5_sell_86 : decode cX5_sell 86 = .ok (.iadd, 1) := by decide +kernel
theorem dX5_sell_87 : decode cX5_sell 87 = .ok (.iconst 1, 1) := by decide +kernel
theorem dX5_sell_88 : decode cX5_sell 88 = .ok (.iadd, 1) := by decide +kernel
theorem dX5_sell_89 : decode cX5_sell 89 = .ok (.iconst 0, 1) := by decide +kernel
theorem dX5_sell_90 : decode cX5_sell 90 = .ok (.iastore, 1) := by decide +kernel
theorem dX5_sell_91 : decode cX5_sell 91 = .ok (.aload_n 0, 1) := by decide +kernel
theorem dX5_sell_92 : decode cX5_sell 92 = .ok (.getfield 20, 3) := by decide +kernel
theorem dX5_sell_95 : decode cX5_sell 95 = .ok (.iload_n 2, 1) := by decide +kernel
theorem dX5_sell_96 : decode cX5_sell 96 = .ok (.iconst 4, 1) := by decide +kernel
theorem dX5_sell_97 : decode cX5_sell 97 = .ok (.iadd, 1) := by decide +kernel
theorem dX5_sell_98 : decode cX5_sell 98 = .ok (.dup2, 1) := by decide +kernel
theorem dX5_sell_99 : decode cX5_sell 99 = .ok (.iaload, 1) := by decide +kernel
theorem dX5_sell_100 : decode cX5_sell 100 = .ok (.iload 4, 2) := by decide +kernel
theorem dX5_sell_102 : decode cX5_sell 102 = .ok (.iadd, 1) := by decide +kernel
theorem dX5_sell_103 : decode cX5_sell 103 = .ok (.iastore, 1) := by decide +kernel
theorem dX5_sell_104 : decode cX5_sell 104 = .ok (.aload_n 0, 1) := by decide +kernel
theorem dX5_sell_105 : decode cX5_sell 105 = .ok (.dup, 1) := by decide +kernel
theorem dX5_sell_106 : decode cX5_sell 106 = .ok (.getfield 7, 3) := by decide +kernel
theorem dX5_sell_109 : decode cX5_sell 109 = .ok (.iload 4, 2) := by decide +kernel
theorem dX5_sell_111 : decode cX5_sell 111 = .ok (.iadd, 1) := by decide +kernel
theorem dX5_sell_112 : decode cX5_sell 112 = .ok (.putfield 7, 3) := by decide +kernel
theorem dX5_sell_115 : decode cX5_sell 115 = .ok (.iload 4, 2) := by decide +kernel
theorem dX5_sell_117 : decode cX5_sell 117 = .ok (.ireturn, 1) := by decide +kernel
set_option maxRecDepth 20000 in
theorem ggX5_bargeTold_X5_landingAt : GoodIn wsX5_bargeTold wsX5_landingAt := goodIn_r _ [5, 6] (by decide +kernel) (by decide +kernel)
set_option maxRecDepth 20000 in
theorem gX5_bargeTold_X5_landingAt : GoodIn wsX5_bargeTold (va_wsS RX5 119 yX5_landingAt wsX5_landingAt) := goodIn_app (goodIn_of _ (by decide +kernel)) ggX5_bargeTold_X5_landingAt
theorem dX5_bargeTold_0 : decode cX5_bargeTold 0 = .ok (.iconst 5, 1) := by decide +kernel
theorem dX5_bargeTold_1 : decode cX5_bargeTold 1 = .ok (.iload_n 1, 1) := by decide +kernel
theorem dX5_bargeTold_2 : decode cX5_bargeTold 2 = .ok (.imul, 1) := by decide +kernel
theorem dX5_bargeTold_3 : decode cX5_bargeTold 3 = .ok (.istore_n 3, 1) := by decide +kernel
theorem dX5_bargeTold_4 : decode cX5_bargeTold 4 = .ok (.iload_n 2, 1) := by decide +kernel
theorem dX5_bargeTold_5 : decode cX5_bargeTold 5 = .ok (.iconst 4, 1) := by decide +kernel
theorem dX5_bargeTold_6 : decode cX5_bargeTold 6 = .ok (.if_icmp .ge 14, 3) := by decide +kernel
theorem dX5_bargeTold_9 : decode cX5_bargeTold 9 = .ok (.aload_n 0, 1) := by decide +kernel
theorem dX5_bargeTold_10 : decode cX5_bargeTold 10 = .ok (.getfield 20, 3) := by decide +kernel
theorem dX5_bargeTold_13 : decode cX5_bargeTold 13 = .ok (.iload_n 3, 1) := by decide +kernel
theorem dX5_bargeTold_14 : decode cX5_bargeTold 14 = .ok (.iload_n 2, 1) := by decide +kernel
theorem dX5_bargeTold_15 : decode cX5_bargeTold 15 = .ok (.iadd, 1) := by decide +kernel
theorem dX5_bargeTold_16 : decode cX5_bargeTold 16 = .ok (.iaload, 1) := by decide +kernel
theorem dX5_bargeTold_17 : decode cX5_bargeTold 17 = .ok (.goto 28, 3) := by decide +kernel
theorem dX5_bargeTold_20 : decode cX5_bargeTold 20 = .ok (.iload_n 2, 1) := by decide +kernel
theorem dX5_bargeTold_21 : decode cX5_bargeTold 21 = .ok (.iconst 4, 1) := by decide +kernel
theorem dX5_bargeTold_22 : decode cX5_bargeTold 22 = .ok (.if_icmp .ne 15, 3) := by decide +kernel
theorem dX5_bargeTold_25 : decode cX5_bargeTold 25 = .ok (.aload_n 0, 1) := by decide +kernel
theorem dX5_bargeTold_26 : decode cX5_bargeTold 26 = .ok (.getfield 20, 3) := by decide +kernel
theorem dX5_bargeTold_29 : decode cX5_bargeTold 29 = .ok (.iload_n 3, 1) := by decide +kernel
theorem dX5_bargeTold_30 : decode cX5_bargeTold 30 = .ok (.iaload, 1) := by decide +kernel
theorem dX5_bargeTold_31 : decode cX5_bargeTold 31 = .ok (.invokestatic 119, 3) := by decide +kernel
theorem dX5_bargeTold_34 : decode cX5_bargeTold 34 = .ok (.goto 11, 3) := by decide +kernel
theorem dX5_bargeTold_37 : decode cX5_bargeTold 37 = .ok (.aload_n 0, 1) := by decide +kernel
theorem dX5_bargeTold_38 : decode cX5_bargeTold 38 = .ok (.getfield 20, 3) := by decide +kernel
theorem dX5_bargeTold_41 : decode cX5_bargeTold 41 = .ok (.iload_n 3, 1) := by decide +kernel
theorem dX5_bargeTold_42 : decode cX5_bargeTold 42 = .ok (.iconst 4, 1) := by decide +kernel
theorem dX5_bargeTold_43 : decode cX5_bargeTold 43 = .ok (.iadd, 1) := by decide +kernel
theorem dX5_bargeTold_44 : decode cX5_bargeTold 44 = .ok (.iaload, 1) := by decide +kernel
theorem dX5_bargeTold_45 : decode cX5_bargeTold 45 = .ok (.ireturn, 1) := by decide +kernel
set_option maxRecDepth 20000 in
theorem ggX5_told_X5_isBarge : GoodIn wsX5_told wsX5_isBarge := goodIn_r _ [6, 7, 8, 9, 5, 10, 24, 25, 26, 27, 28, 29, 30, 31, 32, 33, 34, 35, 36, 37] (by decide +kernel) (by decide +kernel)
set_option maxRecDepth 20000 in
theorem gX5_told_X5_isBarge : GoodIn wsX5_told (wsV RX5 91 RX5 yX5_isBarge wsX5_isBarge) := goodIn_app (goodIn_of _ (by decide +kernel)) ggX5_told_X5_isBarge
set_option maxRecDepth 20000 in
theorem ggX5_told_X5_isIn : GoodIn wsX5_told wsX5_isIn := goodIn_r _ [10] (by decide +kernel) (by decide +kernel)
set_option maxRecDepth 20000 in
theorem gX5_told_X5_isIn : GoodIn wsX5_told (va_wsS RX5 44 yX5_isIn wsX5_isIn) := goodIn_app (goodIn_of _ (by decide +kernel)) ggX5_told_X5_isIn
set_option maxRecDepth 20000 in
theorem ggX5_told_X5_bargeTold : GoodIn wsX5_told wsX5_bargeTold := goodIn_r _ [14, 15, 16, 17, 5, 18, 19, 24, 25, 26, 27, 28, 29, 30, 31, 32, 33, 34, 35, 36, 37] (by decide +kernel) (by decide +kernel)
set_option maxRecDepth 20000 in
theorem gX5_told_X5_bargeTold : GoodIn wsX5_told (wsV RX5 125 RX5 yX5_bargeTold wsX5_bargeTold) := goodIn_app (goodIn_of _ (by decide +kernel)) ggX5_told_X5_bargeTold
set_option maxRecDepth 20000 in
theorem ggX5_told_X5_no : GoodIn wsX5_told wsX5_no := goodIn_r _ [23, 1, 24, 25, 26, 27, 28, 29, 30, 31, 32, 33, 34, 35, 36, 37] (by decide +kernel) (by decide +kernel)
set_option maxRecDepth 20000 in
theorem gX5_told_X5_no : GoodIn wsX5_told (wsV RX5 58 RX5 yX5_no wsX5_no) := goodIn_app (goodIn_of _ (by decide +kernel)) ggX5_told_X5_no
theorem dX5_told_0 : decode cX5_told 0 = .ok (.aload_n 0, 1) := by decide +kernel
theorem dX5_told_1 : decode cX5_told 1 = .ok (.iconst 0, 1) := by decide +kernel
theorem dX5_told_2 : decode cX5_told 2 = .ok (.putfield 38, 3) := by decide +kernel
theorem dX5_told_5 : decode cX5_told 5 = .ok (.aload_n 0, 1) := by decide +kernel
theorem dX5_told_6 : decode cX5_told 6 = .ok (.iload_n 1, 1) := by decide +kernel
theorem dX5_told_7 : decode cX5_told 7 = .ok (.invokevirtual 91, 3) := by decide +kernel
theorem dX5_told_10 : decode cX5_told 10 = .ok (.ifCond .eq 21, 3) := by decide +kernel
theorem dX5_told_13 : decode cX5_told 13 = .ok (.iload_n 2, 1) := by decide +kernel
theorem dX5_told_14 : decode cX5_told 14 = .ok (.iconst 0, 1) := by decide +kernel
theorem dX5_told_15 : decode cX5_told 15 = .ok (.iconst 5, 1) := by decide +kernel
theorem dX5_told_16 : decode cX5_told 16 = .ok (.invokestatic 44, 3) := by decide +kernel
theorem dX5_told_19 : decode cX5_told 19 = .ok (.ifCond .eq 12, 3) := by decide +kernel
theorem dX5_told_22 : decode cX5_told 22 = .ok (.aload_n 0, 1) := by decide +kernel
theorem dX5_told_23 : decode cX5_told 23 = .ok (.iload_n 1, 1) := by decide +kernel
theorem dX5_told_24 : decode cX5_told 24 = .ok (.iload_n 2, 1) := by decide +kernel
theorem dX5_told_25 : decode cX5_told 25 = .ok (.invokevirtual 125, 3) := by decide +kernel
theorem dX5_told_28 : decode cX5_told 28 = .ok (.goto 8, 3) := by decide +kernel
theorem dX5_told_31 : decode cX5_told 31 = .ok (.aload_n 0, 1) := by decide +kernel
theorem dX5_told_32 : decode cX5_told 32 = .ok (.iconst 1, 1) := by decide +kernel
theorem dX5_told_33 : decode cX5_told 33 = .ok (.invokevirtual 58, 3) := by decide +kernel
theorem dX5_told_36 : decode cX5_told 36 = .ok (.ireturn, 1) := by decide +kernel
set_option maxRecDepth 20000 in
theorem ggX5_landingTold_X5_price : GoodIn wsX5_landingTold wsX5_price := goodIn_r _ [6, 7, 8, 9, 10, 11] (by decide +kernel) (by decide +kernel)
set_option maxRecDepth 20000 in
theorem gX5_landingTold_X5_price : GoodIn wsX5_landingTold (va_wsS RX5 113 yX5_price wsX5_price) := goodIn_app (goodIn_of _ (by decide +kernel)) ggX5_landingTold_X5_price
set_option maxRecDepth 20000 in
theorem ggX5_landingTold_X5_reedPrice : GoodIn wsX5_landingTold wsX5_reedPrice := goodIn_r _ [14, 8, 9, 10, 11, 3, 4, 5, 6, 7] (by decide +kernel) (by decide +kernel)
set_option maxRecDepth 20000 in
theorem gX5_landingTold_X5_reedPrice : GoodIn wsX5_landingTold (va_wsS RX5 116 yX5_reedPrice wsX5_reedPrice) := goodIn_app (goodIn_of _ (by decide +kernel)) ggX5_landingTold_X5_reedPrice
theorem dX5_landingTold_0 : decode cX5_landingTold 0 = .ok (.iload_n 2, 1) := by decide +kernel
theorem dX5_landingTold_1 : decode cX5_landingTold 1 = .ok (.ifCond .ne 11, 3) := by decide +kernel
theorem dX5_landingTold_4 : decode cX5_landingTold 4 = .ok (.getstatic 104, 3) := by decide +kernel
theorem dX5_landingTold_7 : decode cX5_landingTold 7 = .ok (.iload_n 1, 1) := by decide +kernel
theorem dX5_landingTold_8 : decode cX5_landingTold 8 = .ok (.iaload, 1) := by decide +kernel
theorem dX5_landingTold_9 : decode cX5_landingTold 9 = .ok (.goto 45, 3) := by decide +kernel
theorem dX5_landingTold_12 : decode cX5_landingTold 12 = .ok (.iload_n 2, 1) := by decide +kernel
theorem dX5_landingTold_13 : decode cX5_landingTold 13 = .ok (.iconst 1, 1) := by decide +kernel
theorem dX5_landingTold_14 : decode cX5_landingTold 14 = .ok (.if_icmp .ne 12, 3) := by decide +kernel
theorem dX5_landingTold_17 : decode cX5_landingTold 17 = .ok (.aload_n 0, 1) := by decide +kernel
theorem dX5_landingTold_18 : decode cX5_landingTold 18 = .ok (.getfield 23, 3) := by decide +kernel
theorem dX5_landingTold_21 : decode cX5_landingTold 21 = .ok (.iload_n 1, 1) := by decide +kernel
theorem dX5_landingTold_22 : decode cX5_landingTold 22 = .ok (.iaload, 1) := by decide +kernel
theorem dX5_landingTold_23 : decode cX5_landingTold 23 = .ok (.goto 31, 3) := by decide +kernel
theorem dX5_landingTold_26 : decode cX5_landingTold 26 = .ok (.iload_n 2, 1) := by decide +kernel
theorem dX5_landingTold_27 : decode cX5_landingTold 27 = .ok (.iconst 2, 1) := by decide +kernel
theorem dX5_landingTold_28 : decode cX5_landingTold 28 = .ok (.if_icmp .ne 16, 3) := by decide +kernel
theorem dX5_landingTold_31 : decode cX5_landingTold 31 = .ok (.iload_n 1, 1) := by decide +kernel
theorem dX5_landingTold_32 : decode cX5_landingTold 32 = .ok (.aload_n 0, 1) := by decide +kernel
theorem dX5_landingTold_33 : decode cX5_landingTold 33 = .ok (.getfield 23, 3) := by decide +kernel
theorem dX5_landingTold_36 : decode cX5_landingTold 36 = .ok (.iload_n 1, 1) := by decide +kernel
theorem dX5_landingTold_37 : decode cX5_landingTold 37 = .ok (.iaload, 1) := by decide +kernel
theorem dX5_landingTold_38 : decode cX5_landingTold 38 = .ok (.invokestatic 113, 3) := by decide +kernel
theorem dX5_landingTold_41 : decode cX5_landingTold 41 = .ok (.goto 13, 3) := by decide +kernel
theorem dX5_landingTold_44 : decode cX5_landingTold 44 = .ok (.iload_n 1, 1) := by decide +kernel
theorem dX5_landingTold_45 : decode cX5_landingTold 45 = .ok (.aload_n 0, 1) := by decide +kernel
theorem dX5_landingTold_46 : decode cX5_landingTold 46 = .ok (.getfield 23, 3) := by decide +kernel
theorem dX5_landingTold_49 : decode cX5_landingTold 49 = .ok (.iload_n 1, 1) := by decide +kernel
theorem dX5_landingTold_50 : decode cX5_landingTold 50 = .ok (.iaload, 1) := by decide +kernel
theorem dX5_landingTold_51 : decode cX5_landingTold 51 = .ok (.invokestatic 116, 3) := by decide +kernel
theorem dX5_landingTold_54 : decode cX5_landingTold 54 = .ok (.ireturn, 1) := by decide +kernel
set_option maxRecDepth 20000 in
theorem ggX5_landing_X5_isIn : GoodIn wsX5_landing wsX5_isIn := goodIn_r _ [5] (by decide +kernel) (by decide +kernel)
set_option maxRecDepth 20000 in
theorem gX5_landing_X5_isIn : GoodIn wsX5_landing (va_wsS RX5 44 yX5_isIn wsX5_isIn) := goodIn_app (goodIn_of _ (by decide +kernel)) ggX5_landing_X5_isIn
set_option maxRecDepth 20000 in
theorem ggX5_landing_X5_landingTold : GoodIn wsX5_landing wsX5_landingTold := goodIn_r _ [9, 10, 11, 12, 13, 4, 14, 15, 16, 17, 18, 19, 20, 21, 22, 27, 28, 29, 30, 31, 32, 33, 34, 35, 36, 37, 38, 39, 40] (by decide +kernel) (by decide +kernel)
set_option maxRecDepth 20000 in
theorem gX5_landing_X5_landingTold : GoodIn wsX5_landing (wsV RX5 128 RX5 yX5_landingTold wsX5_landingTold) := goodIn_app (goodIn_of _ (by decide +kernel)) ggX5_landing_X5_landingTold
set_option maxRecDepth 20000 in
theorem ggX5_landing_X5_no : GoodIn wsX5_landing wsX5_no := goodIn_r _ [26, 1, 27, 28, 29, 30, 31, 32, 33, 34, 35, 36, 37, 38, 39, 40] (by decide +kernel) (by decide +kernel)
set_option maxRecDepth 20000 in
theorem gX5_landing_X5_no : GoodIn wsX5_landing (wsV RX5 58 RX5 yX5_no wsX5_no) := goodIn_app (goodIn_of _ (by decide +kernel)) ggX5_landing_X5_no
theorem dX5_landing_0 : decode cX5_landing 0 = .ok (.aload_n 0, 1) := by decide +kernel
theorem dX5_landing_1 : decode cX5_landing 1 = .ok (.iconst 0, 1) := by decide +kernel
theorem dX5_landing_2 : decode cX5_landing 2 = .ok (.putfield 38, 3) := by decide +kernel
theorem dX5_landing_5 : decode cX5_landing 5 = .ok (.iload_n 1, 1) := by decide +kernel
theorem dX5_landing_6 : decode cX5_landing 6 = .ok (.iconst 0, 1) := by decide +kernel
theorem dX5_landing_7 : decode cX5_landing 7 = .ok (.iconst 2, 1) := by decide +kernel
theorem dX5_landing_8 : decode cX5_landing 8 = .ok (.invokestatic 44, 3) := by decide +kernel
theorem dX5_landing_11 : decode cX5_landing 11 = .ok (.ifCond .eq 21, 3) := by decide +kernel
theorem dX5_landing_14 : decode cX5_landing 14 = .ok (.iload_n 2, 1) := by decide +kernel
theorem dX5_landing_15 : decode cX5_landing 15 = .ok (.iconst 0, 1) := by decide +kernel
theorem dX5_landing_16 : decode cX5_landing 16 = .ok (.iconst 3, 1) := by decide +kernel
theorem dX5_landing_17 : decode cX5_landing 17 = .ok (.invokestatic 44, 3) := by decide +kernel
theorem dX5_landing_20 : decode cX5_landing 20 = .ok (.ifCond .eq 12, 3) := by decide +kernel
theorem dX5_landing_23 : decode cX5_landing 23 = .ok (.aload_n 0, 1) := by decide +kernel
theorem dX5_landing_24 : decode cX5_landing 24 = .ok (.iload_n 1, 1) := by decide +kernel
theorem dX5_landing_25 : decode cX5_landing 25 = .ok (.iload_n 2, 1) := by decide +kernel
theorem dX5_landing_26 : decode cX5_landing 26 = .ok (.invokevirtual 128, 3) := by decide +kernel
theorem dX5_landing_29 : decode cX5_landing 29 = .ok (.goto 8, 3) := by decide +kernel
theorem dX5_landing_32 : decode cX5_landing 32 = .ok (.aload_n 0, 1) := by decide +kernel
theorem dX5_landing_33 : decode cX5_landing 33 = .ok (.iconst 1, 1) := by decide +kernel
theorem dX5_landing_34 : decode cX5_landing 34 = .ok (.invokevirtual 58, 3) := by decide +kernel
theorem dX5_landing_37 : decode cX5_landing 37 = .ok (.ireturn, 1) := by decide +kernel
theorem dX5_left_0 : decode cX5_left 0 = .ok (.iload_n 0, 1) := by decide +kernel
theorem dX5_left_1 : decode cX5_left 1 = .ok (.iload_n 0, 1) := by decide +kernel
theorem dX5_left_2 : decode cX5_left 2 = .ok (.bipush 19, 2) := by decide +kernel
theorem dX5_left_4 : decode cX5_left 4 = .ok (.iadd, 1) := by decide +kernel
theorem dX5_left_5 : decode cX5_left 5 = .ok (.bipush 20, 2) := by decide +kernel
theorem dX5_left_7 : decode cX5_left 7 = .ok (.idiv, 1) := by decide +kernel
theorem dX5_left_8 : decode cX5_left 8 = .ok (.isub, 1) := by decide +kernel
theorem dX5_left_9 : decode cX5_left 9 = .ok (.ireturn, 1) := by decide +kernel
set_option maxRecDepth 20000 in
theorem ggX5_wouldBring_X5_days : GoodIn wsX5_wouldBring wsX5_days := goodIn_r _ [7, 8, 9, 10, 11] (by decide +kernel) (by decide +kernel)
set_option maxRecDepth 20000 in
theorem gX5_wouldBring_X5_days : GoodIn wsX5_wouldBring (va_wsS RX5 94 yX5_days wsX5_days) := goodIn_app (goodIn_of _ (by decide +kernel)) ggX5_wouldBring_X5_days
set_option maxRecDepth 20000 in
theorem ggX5_wouldBring_X5_left : GoodIn wsX5_wouldBring wsX5_left := goodIn_r _ [14] (by decide +kernel) (by decide +kernel)
set_option maxRecDepth 20000 in
theorem gX5_wouldBring_X5_left : GoodIn wsX5_wouldBring (va_wsS RX5 131 yX5_left wsX5_left) := goodIn_app (goodIn_of _ (by decide +kernel)) ggX5_wouldBring_X5_left
set_option maxRecDepth 20000 in
theorem ggX5_wouldBring_X5_brings : GoodIn wsX5_wouldBring wsX5_brings := goodIn_r _ [18, 2, 19, 20, 6, 21, 22, 23, 24, 10, 25, 26, 27, 28, 29, 30, 31, 32, 33, 34, 35, 36, 37, 38, 39, 40, 41, 42] (by decide +kernel) (by decide +kernel)
set_option maxRecDepth 20000 in
theorem gX5_wouldBring_X5_brings : GoodIn wsX5_wouldBring (wsV RX5 122 RX5 yX5_brings wsX5_brings) := goodIn_app (goodIn_of _ (by decide +kernel)) ggX5_wouldBring_X5_brings
theorem dX5_wouldBring_0 : decode cX5_wouldBring 0 = .ok (.aload_n 0, 1) := by decide +kernel
theorem dX5_wouldBring_1 : decode cX5_wouldBring 1 = .ok (.getfield 23, 3) := by decide +kernel
theorem dX5_wouldBring_4 : decode cX5_wouldBring 4 = .ok (.iload_n 2, 1) := by decide +kernel
theorem dX5_wouldBring_5 : decode cX5_wouldBring 5 = .ok (.iaload, 1) := by decide +kernel
theorem dX5_wouldBring_6 : decode cX5_wouldBring 6 = .ok (.istore_n 3, 1) := by decide +kernel
theorem dX5_wouldBring_7 : decode cX5_wouldBring 7 = .ok (.aload_n 0, 1) := by decide +kernel
theorem dX5_wouldBring_8 : decode cX5_wouldBring 8 = .ok (.getfield 20, 3) := by decide +kernel
theorem dX5_wouldBring_11 : decode cX5_wouldBring 11 = .ok (.iconst 5, 1) := by decide +kernel
theorem dX5_wouldBring_12 : decode cX5_wouldBring 12 = .ok (.iload_n 1, 1) := by decide +kernel
theorem dX5_wouldBring_13 : decode cX5_wouldBring 13 = .ok (.imul, 1) := by decide +kernel
theorem dX5_wouldBring_14 : decode cX5_wouldBring 14 = .ok (.iaload, 1) := by decide +kernel
theorem dX5_wouldBring_15 : decode cX5_wouldBring 15 = .ok (.getstatic 104, 3) := by decide +kernel
theorem dX5_wouldBring_18 : decode cX5_wouldBring 18 = .ok (.iload_n 2, 1) := by decide +kernel
theorem dX5_wouldBring_19 : decode cX5_wouldBring 19 = .ok (.iaload, 1) := by decide +kernel
theorem dX5_wouldBring_20 : decode cX5_wouldBring 20 = .ok (.invokestatic 94, 3) := by decide +kernel
theorem dX5_wouldBring_23 : decode cX5_wouldBring 23 = .ok (.istore 4, 2) := by decide +kernel
theorem dX5_wouldBring_25 : decode cX5_wouldBring 25 = .ok (.iload 4, 2) := by decide +kernel
theorem dX5_wouldBring_27 : decode cX5_wouldBring 27 = .ok (.ifCond .le 14, 3) := by decide +kernel
theorem dX5_wouldBring_30 : decode cX5_wouldBring 30 = .ok (.iload_n 3, 1) := by decide +kernel
theorem dX5_wouldBring_31 : decode cX5_wouldBring 31 = .ok (.invokestatic 131, 3) := by decide +kernel
theorem dX5_wouldBring_34 : decode cX5_wouldBring 34 = .ok (.istore_n 3, 1) := by decide +kernel
theorem dX5_wouldBring_35 : decode cX5_wouldBring 35 = .ok (.iinc 4 (-1), 3) := by decide +kernel
theorem dX5_wouldBring_38 : decode cX5_wouldBring 38 = .ok (.goto (-13), 3) := by decide +kernel
theorem dX5_wouldBring_41 : decode cX5_wouldBring 41 = .ok (.aload_n 0, 1) := by decide +kernel
theorem dX5_wouldBring_42 : decode cX5_wouldBring 42 = .ok (.iconst 5, 1) := by decide +kernel
theorem dX5_wouldBring_43 : decode cX5_wouldBring 43 = .ok (.iload_n 1, 1) := by decide +kernel
theorem dX5_wouldBring_44 : decode cX5_wouldBring 44 = .ok (.imul, 1) := by decide +kernel
theorem dX5_wouldBring_45 : decode cX5_wouldBring 45 = .ok (.iload_n 2, 1) := by decide +kernel
theorem dX5_wouldBring_46 : decode cX5_wouldBring 46 = .ok (.iload_n 3, 1) := by decide +kernel
theorem dX5_wouldBring_47 : decode cX5_wouldBring 47 = .ok (.invokevirtual 122, 3) := by decide +kernel
theorem dX5_wouldBring_50 : decode cX5_wouldBring 50 = .ok (.ireturn, 1) := by decide +kernel
set_option maxRecDepth 20000 in
theorem ggX5_would_X5_isBarge : GoodIn wsX5_would wsX5_isBarge := goodIn_r _ [6, 7, 8, 9, 5, 10, 46, 47, 48, 49, 50, 51, 52, 53, 54, 55, 56, 57, 58, 59] (by decide +kernel) (by decide +kernel)
set_option maxRecDepth 20000 in
theorem gX5_would_X5_isBarge : GoodIn wsX5_would (wsV RX5 91 RX5 yX5_isBarge wsX5_isBarge) := goodIn_app (goodIn_of _ (by decide +kernel)) ggX5_would_X5_isBarge
set_option maxRecDepth 20000 in
theorem ggX5_would_X5_isIn : GoodIn wsX5_would wsX5_isIn := goodIn_r _ [10] (by decide +kernel) (by decide +kernel)
set_option maxRecDepth 20000 in
theorem gX5_would_X5_isIn : GoodIn wsX5_would (va_wsS RX5 44 yX5_isIn wsX5_isIn) := goodIn_app (goodIn_of _ (by decide +kernel)) ggX5_would_X5_isIn
set_option maxRecDepth 20000 in
theorem ggX5_would_X5_wouldBring : GoodIn wsX5_would wsX5_wouldBring := goodIn_r _ [14, 15, 16, 17, 18, 19, 5, 20, 21, 22, 23, 24, 25, 26, 27, 28, 29, 30, 31, 32, 33, 34, 35, 36, 37, 38, 39, 40, 41, 46, 47, 48, 49, 50, 51, 52, 53, 54, 55, 56, 57, 58, 59] (by decide +kernel) (by decide +kernel)
set_option maxRecDepth 20000 in
theorem gX5_would_X5_wouldBring : GoodIn wsX5_would (wsV RX5 134 RX5 yX5_wouldBring wsX5_wouldBring) := goodIn_app (goodIn_of _ (by decide +kernel)) ggX5_would_X5_wouldBring
set_option maxRecDepth 20000 in
theorem ggX5_would_X5_no : GoodIn wsX5_would wsX5_no := goodIn_r _ [45, 1, 46, 47, 48, 49, 50, 51, 52, 53, 54, 55, 56, 57, 58, 59] (by decide +kernel) (by decide +kernel)
set_option maxRecDepth 20000 in
theorem gX5_would_X5_no : GoodIn wsX5_would (wsV RX5 58 RX5 yX5_no wsX5_no) := goodIn_app (goodIn_of _ (by decide +kernel)) ggX5_would_X5_no
theorem dX5_would_0 : decode cX5_would 0 = .ok (.aload_n 0, 1) := by decide +kernel
theorem dX5_would_1 : decode cX5_would 1 = .ok (.iconst 0, 1) := by decide +kernel
theorem dX5_would_2 : decode cX5_would 2 = .ok (.putfield 38, 3) := by decide +kernel
theorem dX5_would_5 : decode cX5_would 5 = .ok (.aload_n 0, 1) := by decide +kernel
theorem dX5_would_6 : decode cX5_would 6 = .ok (.iload_n 1, 1) := by decide +kernel
theorem dX5_would_7 : decode cX5_would 7 = .ok (.invokevirtual 91, 3) := by decide +kernel
theorem dX5_would_10 : decode cX5_would 10 = .ok (.ifCond .eq 21, 3) := by decide +kernel
theorem dX5_would_13 : decode cX5_would 13 = .ok (.iload_n 2, 1) := by decide +kernel
theorem dX5_would_14 : decode cX5_would 14 = .ok (.iconst 0, 1) := by decide +kernel
theorem dX5_would_15 : decode cX5_would 15 = .ok (.iconst 2, 1) := by decide +kernel
theorem dX5_would_16 : decode cX5_would 16 = .ok (.invokestatic 44, 3) := by decide +kernel
theorem dX5_would_19 : decode cX5_would 19 = .ok (.ifCond .eq 12, 3) := by decide +kernel
theorem dX5_would_22 : decode cX5_would 22 = .ok (.aload_n 0, 1) := by decide +kernel
theorem dX5_would_23 : decode cX5_would 23 = .ok (.iload_n 1, 1) := by decide +kernel
theorem dX5_would_24 : decode cX5_would 24 = .ok (.iload_n 2, 1) := by decide +kernel
theorem dX5_would_25 : decode cX5_would 25 = .ok (.invokevirtual 134, 3) := by decide +kernel
theorem dX5_would_28 : decode cX5_would 28 = .ok (.goto 8, 3) := by decide +kernel
theorem dX5_would_31 : decode cX5_would 31 = .ok (.aload_n 0, 1) := by decide +kernel
theorem dX5_would_32 : decode cX5_would 32 = .ok (.iconst 1, 1) := by decide +kernel
theorem dX5_would_33 : decode cX5_would 33 = .ok (.invokevirtual 58, 3) := by decide +kernel
theorem dX5_would_36 : decode cX5_would 36 = .ok (.ireturn, 1) := by decide +kernel
set_option maxRecDepth 20000 in
theorem ggX5_advise_X5_isBarge : GoodIn wsX5_advise wsX5_isBarge := goodIn_r _ [6, 7, 8, 9, 5, 10, 46, 47, 48, 49, 50, 51, 52, 53, 54, 55, 56, 57, 58, 59] (by decide +kernel) (by decide +kernel)
set_option maxRecDepth 20000 in
theorem gX5_advise_X5_isBarge : GoodIn wsX5_advise (wsV RX5 91 RX5 yX5_isBarge wsX5_isBarge) := goodIn_app (goodIn_of _ (by decide +kernel)) ggX5_advise_X5_isBarge
set_option maxRecDepth 20000 in
theorem ggX5_advise_X5_no : GoodIn wsX5_advise wsX5_no := goodIn_r _ [14, 1, 46, 47, 48, 49, 50, 51, 52, 53, 54, 55, 56, 57, 58, 59] (by decide +kernel) (by decide +kernel)
set_option maxRecDepth 20000 in
theorem gX5_advise_X5_no : GoodIn wsX5_advise (wsV RX5 58 RX5 yX5_no wsX5_no) := goodIn_app (goodIn_of _ (by decide +kernel)) ggX5_advise_X5_no
set_option maxRecDepth 20000 in
theorem ggX5_advise_X5_wouldBring : GoodIn wsX5_advise wsX5_wouldBring := goodIn_r _ [18, 19, 20, 21, 22, 23, 5, 24, 25, 26, 27, 28, 29, 30, 31, 32, 33, 34, 35, 36, 37, 38, 39, 40, 41, 42, 43, 44, 45, 46, 47, 48, 49, 50, 51, 52, 53, 54, 55, 56, 57, 58, 59] (by decide +kernel) (by decide +kernel)
set_option maxRecDepth 20000 in
theorem gX5_advise_X5_wouldBring : GoodIn wsX5_advise (wsV RX5 134 RX5 yX5_wouldBring wsX5_wouldBring) := goodIn_app (goodIn_of _ (by decide +kernel)) ggX5_advise_X5_wouldBring
theorem dX5_advise_0 : decode cX5_advise 0 = .ok (.aload_n 0, 1) := by decide +kernel
theorem dX5_advise_1 : decode cX5_advise 1 = .ok (.iconst 0, 1) := by decide +kernel
theorem dX5_advise_2 : decode cX5_advise 2 = .ok (.putfield 38, 3) := by decide +kernel
theorem dX5_advise_5 : decode cX5_advise 5 = .ok (.aload_n 0, 1) := by decide +kernel
theorem dX5_advise_6 : decode cX5_advise 6 = .ok (.iload_n 1, 1) := by decide +kernel
theorem dX5_advise_7 : decode cX5_advise 7 = .ok (.invokevirtual 91, 3) := by decide +kernel
theorem dX5_advise_10 : decode cX5_advise 10 = .ok (.ifCond .ne 9, 3) := by decide +kernel
theorem dX5_advise_13 : decode cX5_advise 13 = .ok (.aload_n 0, 1) := by decide +kernel
theorem dX5_advise_14 : decode cX5_advise 14 = .ok (.iconst 1, 1) := by decide +kernel
theorem dX5_advise_15 : decode cX5_advise 15 = .ok (.invokevirtual 58, 3) := by decide +kernel
theorem dX5_advise_18 : decode cX5_advise 18 = .ok (.ireturn, 1) := by decide +kernel
theorem dX5_advise_19 : decode cX5_advise 19 = .ok (.iconst 0, 1) := by decide +kernel
theorem dX5_advise_20 : decode cX5_advise 20 = .ok (.istore_n 2, 1) := by decide +kernel
theorem dX5_advise_21 : decode cX5_advise 21 = .ok (.iconst 1, 1) := by decide +kernel
theorem dX5_advise_22 : decode cX5_advise 22 = .ok (.istore_n 3, 1) := by decide +kernel
theorem dX5_advise_23 : decode cX5_advise 23 = .ok (.iload_n 3, 1) := by decide +kernel
theorem dX5_advise_24 : decode cX5_advise 24 = .ok (.iconst 3, 1) := by decide +kernel
theorem dX5_advise_25 : decode cX5_advise 25 = .ok (.if_icmp .ge 26, 3) := by decide +kernel
theorem dX5_advise_28 : decode cX5_advise 28 = .ok (.aload_n 0, 1) := by decide +kernel
theorem dX5_advise_29 : decode cX5_advise 29 = .ok (.iload_n 1, 1) := by decide +kernel
theorem dX5_advise_30 : decode cX5_advise 30 = .ok (.iload_n 3, 1) := by decide +kernel
theorem dX5_advise_31 : decode cX5_advise 31 = .ok (.invokevirtual 134, 3) := by decide +kernel
theorem dX5_advise_34 : decode cX5_advise 34 = .ok (.aload_n 0, 1) := by decide +kernel
theorem dX5_advise_35 : decode cX5_advise 35 = .ok (.iload_n 1, 1) := by decide +kernel
theorem dX5_advise_36 : decode cX5_advise 36 = .ok (.iload_n 2, 1) := by decide +kernel
theorem dX5_advise_37 : decode cX5_advise 37 = .ok (.invokevirtual 134, 3) := by decide +kernel
theorem dX5_advise_40 : decode cX5_advise 40 = .ok (.if_icmp .le 5, 3) := by decide +kernel
theorem dX5_advise_43 : decode cX5_advise 43 = .ok (.iload_n 3, 1) := by decide +kernel
theorem dX5_advise_44 : decode cX5_advise 44 = .ok (.istore_n 2, 1) := by decide +kernel
theorem dX5_advise_45 : decode cX5_advise 45 = .ok (.iinc 3 1, 3) := by decide +kernel
theorem dX5_advise_48 : decode cX5_advise 48 = .ok (.goto (-25), 3) := by decide +kernel
theorem dX5_advise_51 : decode cX5_advise 51 = .ok (.iload_n 2, 1) := by decide +kernel
theorem dX5_advise_52 : decode cX5_advise 52 = .ok (.ireturn, 1) := by decide +kernel
theorem dX5_sailOn_0 : decode cX5_sailOn 0 = .ok (.aload_n 1, 1) := by decide +kernel
theorem dX5_sailOn_1 : decode cX5_sailOn 1 = .ok (.iload_n 2, 1) := by decide +kernel
theorem dX5_sailOn_2 : decode cX5_sailOn 2 = .ok (.iconst 1, 1) := by decide +kernel
theorem dX5_sailOn_3 : decode cX5_sailOn 3 = .ok (.iadd, 1) := by decide +kernel
theorem dX5_sailOn_4 : decode cX5_sailOn 4 = .ok (.iaload, 1) := by decide +kernel
theorem dX5_sailOn_5 : decode cX5_sailOn 5 = .ok (.istore_n 3, 1) := by decide +kernel
theorem dX5_sailOn_6 : decode cX5_sailOn 6 = .ok (.iload_n 3, 1) := by decide +kernel
theorem dX5_sailOn_7 : decode cX5_sailOn 7 = .ok (.ifCond .ge 4, 3) := by decide +kernel
theorem dX5_sailOn_10 : decode cX5_sailOn 10 = .ok (.return_, 1) := by decide +kernel
theorem dX5_sailOn_11 : decode cX5_sailOn 11 = .ok (.iload_n 3, 1) := by decide +kernel
theorem dX5_sailOn_12 : decode cX5_sailOn 12 = .ok (.aload_n 1, 1) := by decide +kernel
theorem dX5_sailOn_13 : decode cX5_sailOn 13 = .ok (.iload_n 2, 1) := by decide +kernel
theorem dX5_sailOn_14 : decode cX5_sailOn 14 = .ok (.iaload, 1) := by decide +kernel
theorem dX5_sailOn_15 : decode cX5_sailOn 15 = .ok (.isub, 1) := by decide +kernel
theorem dX5_sailOn_16 : decode cX5_sailOn 16 = .ok (.istore 4, 2) := by decide +kernel
theorem dX5_sailOn_18 : decode cX5_sailOn 18 = .ok (.aload_n 1, 1) := by decide +kernel
theorem dX5_sailOn_19 : decode cX5_sailOn 19 = .ok (.iload_n 2, 1) := by decide +kernel
theorem dX5_sailOn_20 : decode cX5_sailOn 20 = .ok (.dup2, 1) := by decide +kernel
theorem dX5_sailOn_21 : decode cX5_sailOn 21 = .ok (.iaload, 1) := by decide +kernel
theorem dX5_sailOn_22 : decode cX5_sailOn 22 = .ok (.bipush (-5), 2) := by decide +kernel
theorem dX5_sailOn_24 : decode cX5_sailOn 24 = .ok (.iconst 5, 1) := by decide +kernel
theorem dX5_sailOn_25 : decode cX5_sailOn 25 = .ok (.iload 4, 2) := by decide +kernel
theorem dX5_sailOn_27 : decode cX5_sailOn 27 = .ok (.invokestatic 73, 3) := by decide +kernel
theorem dX5_sailOn_30 : decode cX5_sailOn 30 = .ok (.invokestatic 110, 3) := by decide +kernel
theorem dX5_sailOn_33 : decode cX5_sailOn 33 = .ok (.iadd, 1) := by decide +kernel
theorem dX5_sailOn_34 : decode cX5_sailOn 34 = .ok (.iastore, 1) := by decide +kernel
theorem dX5_sailOn_35 : decode cX5_sailOn 35 = .ok (.aload_n 1, 1) := by decide +kernel
theorem dX5_sailOn_36 : decode cX5_sailOn 36 = .ok (.iload_n 2, 1) := by decide +kernel
theorem dX5_sailOn_37 : decode cX5_sailOn 37 = .ok (.iaload, 1) := by decide +kernel
theorem dX5_sailOn_38 : decode cX5_sailOn 38 = .ok (.iload_n 3, 1) := by decide +kernel
theorem dX5_sailOn_39 : decode cX5_sailOn 39 = .ok (.if_icmp .ne 9, 3) := by decide +kernel
theorem dX5_sailOn_42 : decode cX5_sailOn 42 = .ok (.aload_n 1, 1) := by decide +kernel
theorem dX5_sailOn_43 : decode cX5_sailOn 43 = .ok (.iload_n 2, 1) := by decide +kernel
theorem dX5_sailOn_44 : decode cX5_sailOn 44 = .ok (.iconst 1, 1) := by decide +kernel
theorem dX5_sailOn_45 : decode cX5_sailOn 45 = .ok (.iadd, 1) := by decide +kernel
theorem dX5_sailOn_46 : decode cX5_sailOn 46 = .ok (.iconst (-1), 1) := by decide +kernel
theorem dX5_sailOn_47 : decode cX5_sailOn 47 = .ok (.iastore, 1) := by decide +kernel
theorem dX5_sailOn_48 : decode cX5_sailOn 48 = .ok (.return_, 1) := by decide +kernel
theorem dX5_rot_0 : decode cX5_rot 0 = .ok (.aload_n 0, 1) := by decide +kernel
theorem dX5_rot_1 : decode cX5_rot 1 = .ok (.iload_n 1, 1) := by decide +kernel
theorem dX5_rot_2 : decode cX5_rot 2 = .ok (.iaload, 1) := by decide +kernel
theorem dX5_rot_3 : decode cX5_rot 3 = .ok (.bipush 9, 2) := by decide +kernel
theorem dX5_rot_5 : decode cX5_rot 5 = .ok (.iadd, 1) := by decide +kernel
theorem dX5_rot_6 : decode cX5_rot 6 = .ok (.bipush 10, 2) := by decide +kernel
theorem dX5_rot_8 : decode cX5_rot 8 = .ok (.idiv, 1) := by decide +kernel
theorem dX5_rot_9 : decode cX5_rot 9 = .ok (.istore_n 2, 1) := by decide +kernel
theorem dX5_rot_10 : decode cX5_rot 10 = .ok (.aload_n 0, 1) := by decide +kernel
theorem dX5_rot_11 : decode cX5_rot 11 = .ok (.iload_n 1, 1) := by decide +kernel
theorem dX5_rot_12 : decode cX5_rot 12 = .ok (.dup2, 1) := by decide +kernel
theorem dX5_rot_13 : decode cX5_rot 13 = .ok (.iaload, 1) := by decide +kernel
theorem dX5_rot_14 : decode cX5_rot 14 = .ok (.iload_n 2, 1) := by decide +kernel
theorem dX5_rot_15 : decode cX5_rot 15 = .ok (.isub, 1) := by decide +kernel
theorem dX5_rot_16 : decode cX5_rot 16 = .ok (.iastore, 1) := by decide +kernel
theorem dX5_rot_17 : decode cX5_rot 17 = .ok (.iload_n 2, 1) := by decide +kernel
theorem dX5_rot_18 : decode cX5_rot 18 = .ok (.ireturn, 1) := by decide +kernel
theorem dX5_hasReedBeside_0 : decode cX5_hasReedBeside 0 = .ok (.iconst 0, 1) := by decide +kernel
theorem dX5_hasReedBeside_1 : decode cX5_hasReedBeside 1 = .ok (.istore_n 3, 1) := by decide +kernel
theorem dX5_hasReedBeside_2 : decode cX5_hasReedBeside 2 = .ok (.iconst 0, 1) := by decide +kernel
theorem dX5_hasReedBeside_3 : decode cX5_hasReedBeside 3 = .ok (.istore 4, 2) := by decide +kernel
theorem dX5_hasReedBeside_5 : decode cX5_hasReedBeside 5 = .ok (.iload 4, 2) := by decide +kernel
theorem dX5_hasReedBeside_7 : decode cX5_hasReedBeside 7 = .ok (.aload_n 0, 1) := by decide +kernel
theorem dX5_hasReedBeside_8 : decode cX5_hasReedBeside 8 = .ok (.getfield 41, 3) := by decide +kernel
theorem dX5_hasReedBeside_11 : decode cX5_hasReedBeside 11 = .ok (.if_icmp .ge 67, 3) := by decide +kernel
theorem dX5_hasReedBeside_14 : decode cX5_hasReedBeside 14 = .ok (.iload_n 3, 1) := by decide +kernel
theorem dX5_hasReedBeside_15 : decode cX5_hasReedBeside 15 = .ok (.iload 4, 2) := by decide +kernel
theorem dX5_hasReedBeside_17 : decode cX5_hasReedBeside 17 = .ok (.iload_n 2, 1) := by decide +kernel
theorem dX5_hasReedBeside_18 : decode cX5_hasReedBeside 18 = .ok (.if_icmp .eq 51, 3) := by decide +kernel
theorem dX5_hasReedBeside_21 : decode cX5_hasReedBeside 21 = .ok (.aload_n 1, 1) := by decide +kernel
theorem dX5_hasReedBeside_22 : decode cX5_hasReedBeside 22 = .ok (.bipush 8, 2) := by decide +kernel
theorem dX5_hasReedBeside_24 : decode cX5_hasReedBeside 24 = .ok (.iload 4, 2) := by decide +kernel
theorem dX5_hasReedBeside_26 : decode cX5_hasReedBeside 26 = .ok (.imul, 1) := by decide +kernel
theorem dX5_hasReedBeside_27 : decode cX5_hasReedBeside 27 = .ok (.iaload, 1) := by decide +kernel
theorem dX5_hasReedBeside_28 : decode cX5_hasReedBeside 28 = .ok (.aload_n 1, 1) := by decide +kernel
theorem dX5_hasReedBeside_29 : decode cX5_hasReedBeside 29 = .ok (.bipush 8, 2) := by decide +kernel
theorem dX5_hasReedBeside_31 : decode cX5_hasReedBeside 31 = .ok (.iload_n 2, 1) := by decide +kernel
theorem dX5_hasReedBeside_32 : decode cX5_hasReedBeside 32 = .ok (.imul, 1) := by decide +kernel
theorem dX5_hasReedBeside_33 : decode cX5_hasReedBeside 33 = .ok (.iaload, 1) := by decide +kernel
theorem dX5_hasReedBeside_34 : decode cX5_hasReedBeside 34 = .ok (.isub, 1) := by decide +kernel
theorem dX5_hasReedBeside_35 : decode cX5_hasReedBeside 35 = .ok (.invokestatic 88, 3) := by decide +kernel
theorem dX5_hasReedBeside_38 : decode cX5_hasReedBeside 38 = .ok (.iconst 4, 1) := by decide +kernel
theorem dX5_hasReedBeside_39 : decode cX5_hasReedBeside 39 = .ok (.if_icmp .gt 30, 3) := by decide +kernel
theorem dX5_hasReedBeside_42 : decode cX5_hasReedBeside 42 = .ok (.aload_n 1, 1) := by decide +kernel
theorem dX5_hasReedBeside_43 : decode cX5_hasReedBeside 43 = .ok (.bipush 8, 2) := by decide +kernel
theorem dX5_hasReedBeside_45 : decode cX5_hasReedBeside 45 = .ok (.iload 4, 2) := by decide +kernel
theorem dX5_hasReedBeside_47 : decode cX5_hasReedBeside 47 = .ok (.imul, 1) := by decide +kernel
theorem dX5_hasReedBeside_48 : decode cX5_hasReedBeside 48 = .ok (.iconst 3, 1) := by decide +kernel
theorem dX5_hasReedBeside_49 : decode cX5_hasReedBeside 49 = .ok (.iadd, 1) := by decide +kernel
theorem dX5_hasReedBeside_50 : decode cX5_hasReedBeside 50 = .ok (.iaload, 1) := by decide +kernel
theorem dX5_hasReedBeside_51 : decode cX5_hasReedBeside 51 = .ok (.aload_n 1, 1) := by decide +kernel
theorem dX5_hasReedBeside_52 : decode cX5_hasReedBeside 52 = .ok (.bipush 8, 2) := by decide +kernel
theorem dX5_hasReedBeside_54 : decode cX5_hasReedBeside 54 = .ok (.iload_n 2, 1) := by decide +kernel
theorem dX5_hasReedBeside_55 : decode cX5_hasReedBeside 55 = .ok (.imul, 1) := by decide +kernel
theorem dX5_hasReedBeside_56 : decode cX5_hasReedBeside 56 = .ok (.iconst 3, 1) := by decide +kernel
theorem dX5_hasReedBeside_57 : decode cX5_hasReedBeside 57 = .ok (.iadd, 1) := by decide +kernel
theorem dX5_hasReedBeside_58 : decode cX5_hasReedBeside 58 = .ok (.iaload, 1) := by decide +kernel
theorem dX5_hasReedBeside_59 : decode cX5_hasReedBeside 59 = .ok (.bipush 30, 2) := by decide +kernel
theorem dX5_hasReedBeside_61 : decode cX5_hasReedBeside 61 = .ok (.isub, 1) := by decide +kernel
theorem dX5_hasReedBeside_62 : decode cX5_hasReedBeside 62 = .ok (.if_icmp .gt 7, 3) := by decide +kernel
theorem dX5_hasReedBeside_65 : decode cX5_hasReedBeside 65 = .ok (.iconst 1, 1) := by decide +kernel
theorem dX5_hasReedBeside_66 : decode cX5_hasReedBeside 66 = .ok (.goto 4, 3) := by decide +kernel
theorem dX5_hasReedBeside_69 : decode cX5_hasReedBeside 69 = .ok (.iconst 0, 1) := by decide +kernel
theorem dX5_hasReedBeside_70 : decode cX5_hasReedBeside 70 = .ok (.ior, 1) := by decide +kernel
theorem dX5_hasReedBeside_71 : decode cX5_hasReedBeside 71 = .ok (.istore_n 3, 1) := by decide +kernel
theorem dX5_hasReedBeside_72 : decode cX5_hasReedBeside 72 = .ok (.iinc 4 1, 3) := by decide +kernel
theorem dX5_hasReedBeside_75 : decode cX5_hasReedBeside 75 = .ok (.goto (-70), 3) := by decide +kernel
theorem dX5_hasReedBeside_78 : decode cX5_hasReedBeside 78 = .ok (.iload_n 3, 1) := by decide +kernel
theorem dX5_hasReedBeside_79 : decode cX5_hasReedBeside 79 = .ok (.ireturn, 1) := by decide +kernel
set_option maxRecDepth 20000 in
theorem ggX5_endYear_X5_hasReedBeside : GoodIn wsX5_endYear wsX5_hasReedBeside := goodIn_r _ [14, 1, 15, 16, 5, 17, 18, 19, 20, 21, 22, 23, 24, 25, 26, 27, 28, 29, 30, 31] (by decide +kernel) (by decide +kernel)
set_option maxRecDepth 20000 in
theorem gX5_endYear_X5_hasReedBeside : GoodIn wsX5_endYear (wsV RX5 137 RX5 yX5_hasReedBeside wsX5_hasReedBeside) := goodIn_app (goodIn_of _ (by decide +kernel)) ggX5_endYear_X5_hasReedBeside
theorem dX5_endYear_0 : decode cX5_endYear 0 = .ok (.iconst 0, 1) := by decide +kernel
theorem dX5_endYear_1 : decode cX5_endYear 1 = .ok (.istore_n 2, 1) := by decide +kernel
theorem dX5_endYear_2 : decode cX5_endYear 2 = .ok (.iload_n 2, 1) := by decide +kernel
theorem dX5_endYear_3 : decode cX5_endYear 3 = .ok (.aload_n 0, 1) := by decide +kernel
theorem dX5_endYear_4 : decode cX5_endYear 4 = .ok (.getfield 41, 3) := by decide +kernel
theorem dX5_endYear_7 : decode cX5_endYear 7 = .ok (.if_icmp .ge 60, 3) := by decide +kernel
theorem dX5_endYear_10 : decode cX5_endYear 10 = .ok (.aload_n 1, 1) := by decide +kernel
theorem dX5_endYear_11 : decode cX5_endYear 11 = .ok (.bipush 8, 2) := by decide +kernel
theorem dX5_endYear_13 : decode cX5_endYear 13 = .ok (.iload_n 2, 1) := by decide +kernel
theorem dX5_endYear_14 : decode cX5_endYear 14 = .ok (.imul, 1) := by decide +kernel
theorem dX5_endYear_15 : decode cX5_endYear 15 = .ok (.iconst 2, 1) := by decide +kernel
theorem dX5_endYear_16 : decode cX5_endYear 16 = .ok (.iadd, 1) := by decide +kernel
theorem dX5_endYear_17 : decode cX5_endYear 17 = .ok (.iaload, 1) := by decide +kernel
theorem dX5_endYear_18 : decode cX5_endYear 18 = .ok (.istore_n 3, 1) := by decide +kernel
theorem dX5_endYear_19 : decode cX5_endYear 19 = .ok (.aload_n 0, 1) := by decide +kernel
theorem dX5_endYear_20 : decode cX5_endYear 20 = .ok (.getfield 35, 3) := by decide +kernel
theorem dX5_endYear_23 : decode cX5_endYear 23 = .ok (.iload_n 2, 1) := by decide +kernel
theorem dX5_endYear_24 : decode cX5_endYear 24 = .ok (.iload_n 3, 1) := by decide +kernel
theorem dX5_endYear_25 : decode cX5_endYear 25 = .ok (.bipush 6, 2) := by decide +kernel
theorem dX5_endYear_27 : decode cX5_endYear 27 = .ok (.if_icmp .lt 8, 3) := by decide +kernel
theorem dX5_endYear_30 : decode cX5_endYear 30 = .ok (.bipush (-6), 2) := by decide +kernel
theorem dX5_endYear_32 : decode cX5_endYear 32 = .ok (.goto 13, 3) := by decide +kernel
theorem dX5_endYear_35 : decode cX5_endYear 35 = .ok (.iload_n 3, 1) := by decide +kernel
theorem dX5_endYear_36 : decode cX5_endYear 36 = .ok (.iconst 1, 1) := by decide +kernel
theorem dX5_endYear_37 : decode cX5_endYear 37 = .ok (.if_icmp .lt 7, 3) := by decide +kernel
theorem dX5_endYear_40 : decode cX5_endYear 40 = .ok (.iconst 2, 1) := by decide +kernel
theorem dX5_endYear_41 : decode cX5_endYear 41 = .ok (.goto 4, 3) := by decide +kernel
theorem dX5_endYear_44 : decode cX5_endYear 44 = .ok (.iconst 0, 1) := by decide +kernel
theorem dX5_endYear_45 : decode cX5_endYear 45 = .ok (.aload_n 0, 1) := by decide +kernel
theorem dX5_endYear_46 : decode cX5_endYear 46 = .ok (.aload_n 1, 1) := by decide +kernel
theorem dX5_endYear_47 : decode cX5_endYear 47 = .ok (.iload_n 2, 1) := by decide +kernel
theorem dX5_endYear_48 : decode cX5_endYear 48 = .ok (.invokevirtual 137, 3) := by decide +kernel
theorem dX5_endYear_51 : decode cX5_endYear 51 = .ok (.ifCond .eq 7, 3) := by decide +kernel
theorem dX5_endYear_54 : decode cX5_endYear 54 = .ok (.iconst 3, 1) := by decide +kernel
theorem dX5_endYear_55 : decode cX5_endYear 55 = .ok (.goto 4, 3) := by decide +kernel
theorem dX5_endYear_58 : decode cX5_endYear 58 = .ok (.iconst 0, 1) := by decide +kernel
theorem dX5_endYear_59 : decode cX5_endYear 59 = .ok (.isub, 1) := by decide +kernel
theorem dX5_endYear_60 : decode cX5_endYear 60 = .ok (.iastore, 1) := by decide +kernel
theorem dX5_endYear_61 : decode cX5_endYear 61 = .ok (.iinc 2 1, 3) := by decide +kernel
theorem dX5_endYear_64 : decode cX5_endYear 64 = .ok (.goto (-62), 3) := by decide +kernel
theorem dX5_endYear_67 : decode cX5_endYear 67 = .ok (.iconst 0, 1) := by decide +kernel
theorem dX5_endYear_68 : decode cX5_endYear 68 = .ok (.istore_n 2, 1) := by decide +kernel
theorem dX5_endYear_69 : decode cX5_endYear 69 = .ok (.iload_n 2, 1) := by decide +kernel
theorem dX5_endYear_70 : decode cX5_endYear 70 = .ok (.aload_n 0, 1) := by decide +kernel
theorem dX5_endYear_71 : decode cX5_endYear 71 = .ok (.getfield 41, 3) := by decide +kernel
theorem dX5_endYear_74 : decode cX5_endYear 74 = .ok (.if_icmp .ge 64, 3) := by decide +kernel
theorem dX5_endYear_77 : decode cX5_endYear 77 = .ok (.aload_n 1, 1) := by decide +kernel
theorem dX5_endYear_78 : decode cX5_endYear 78 = .ok (.bipush 8, 2) := by decide +kernel
theorem dX5_endYear_80 : decode cX5_endYear 80 = .ok (.iload_n 2, 1) := by decide +kernel
theorem dX5_endYear_81 : decode cX5_endYear 81 = .ok (.imul, 1) := by decide +kernel
theorem dX5_endYear_82 : decode cX5_endYear 82 = .ok (.iconst 3, 1) := by decide +kernel
theorem dX5_endYear_83 : decode cX5_endYear 83 = .ok (.iadd, 1) := by decide +kernel
theorem dX5_endYear_84 : decode cX5_endYear 84 = .ok (.iconst 0, 1) := by decide +kernel
theorem dX5_endYear_85 : decode cX5_endYear 85 = .ok (.bipush 100, 2) := by decide +kernel
theorem dX5_endYear_87 : decode cX5_endYear 87 = .ok (.aload_n 1, 1) := by decide +kernel
theorem dX5_endYear_88 : decode cX5_endYear 88 = .ok (.bipush 8, 2) := by decide +kernel
theorem dX5_endYear_90 : decode cX5_endYear 90 = .ok (.iload_n 2, 1) := by decide +kernel
theorem dX5_endYear_91 : decode cX5_endYear 91 = .ok (.imul, 1) := by decide +kernel
theorem dX5_endYear_92 : decode cX5_endYear 92 = .ok (.iconst 3, 1) := by decide +kernel
theorem dX5_endYear_93 : decode cX5_endYear 93 = .ok (.iadd, 1) := by decide +kernel
theorem dX5_endYear_94 : decode cX5_endYear 94 = .ok (.iaload, 1) := by decide +kernel
theorem dX5_endYear_95 : decode cX5_endYear 95 = .ok (.aload_n 0, 1) := by decide +kernel
theorem dX5_endYear_96 : decode cX5_endYear 96 = .ok (.getfield 35, 3) := by decide +kernel
theorem dX5_endYear_99 : decode cX5_endYear 99 = .ok (.iload_n 2, 1) := by decide +kernel
theorem dX5_endYear_100 : decode cX5_endYear 100 = .ok (.iaload, 1) := by decide +kernel
theorem dX5_endYear_101 : decode cX5_endYear 101 = .ok (.iadd, 1) := by decide +kernel
theorem dX5_endYear_102 : decode cX5_endYear 102 = .ok (.invokestatic 73, 3) := by decide +kernel
theorem dX5_endYear_105 : decode cX5_endYear 105 = .ok (.invokestatic 110, 3) := by decide +kernel
theorem dX5_endYear_108 : decode cX5_endYear 108 = .ok (.iastore, 1) := by decide +kernel
theorem dX5_endYear_109 : decode cX5_endYear 109 = .ok (.aload_n 1, 1) := by decide +kernel
theorem dX5_endYear_110 : decode cX5_endYear 110 = .ok (.bipush 8, 2) := by decide +kernel
theorem dX5_endYear_112 : decode cX5_endYear 112 = .ok (.iload_n 2, 1) := by decide +kernel
theorem dX5_endYear_113 : decode cX5_endYear 113 = .ok (.imul, 1) := by decide +kernel
theorem dX5_endYear_114 : decode cX5_endYear 114 = .ok (.iconst 2, 1) := by decide +kernel
theorem dX5_endYear_115 : decode cX5_endYear 115 = .ok (.iadd, 1) := by decide +kernel
theorem dX5_endYear_116 : decode cX5_endYear 116 = .ok (.bipush 9, 2) := by decide +kernel
theorem dX5_endYear_118 : decode cX5_endYear 118 = .ok (.aload_n 1, 1) := by decide +kernel
theorem dX5_endYear_119 : decode cX5_endYear 119 = .ok (.bipush 8, 2) := by decide +kernel
theorem dX5_endYear_121 : decode cX5_endYear 121 = .ok (.iload_n 2, 1) := by decide +kernel
theorem dX5_endYear_122 : decode cX5_endYear 122 = .ok (.imul, 1) := by decide +kernel
theorem dX5_endYear_123 : decode cX5_endYear 123 = .ok (.iconst 2, 1) := by decide +kernel
theorem dX5_endYear_124 : decode cX5_endYear 124 = .ok (.iadd, 1) := by decide +kernel
theorem dX5_endYear_125 : decode cX5_endYear 125 = .ok (.iaload, 1) := by decide +kernel
theorem dX5_endYear_126 : decode cX5_endYear 126 = .ok (.iconst 1, 1) := by decide +kernel
theorem dX5_endYear_127 : decode cX5_endYear 127 = .ok (.iadd, 1) := by decide +kernel
theorem dX5_endYear_128 : decode cX5_endYear 128 = .ok (.invokestatic 73, 3) := by decide +kernel
theorem dX5_endYear_131 : decode cX5_endYear 131 = .ok (.iastore, 1) := by decide +kernel
theorem dX5_endYear_132 : decode cX5_endYear 132 = .ok (.iinc 2 1, 3) := by decide +kernel
theorem dX5_endYear_135 : decode cX5_endYear 135 = .ok (.goto (-66), 3) := by decide +kernel
theorem dX5_endYear_138 : decode cX5_endYear 138 = .ok (.return_, 1) := by decide +kernel
set_option maxRecDepth 20000 in
theorem ggX5_pass_X5_sailOn : GoodIn wsX5_pass wsX5_sailOn := goodIn_r _ [7, 8, 9, 10, 11, 12, 13, 14] (by decide +kernel) (by decide +kernel)
set_option maxRecDepth 20000 in
theorem gX5_pass_X5_sailOn : GoodIn wsX5_pass (wsV RX5 141 RX5 yX5_sailOn wsX5_sailOn) := goodIn_app (goodIn_of _ (by decide +kernel)) ggX5_pass_X5_sailOn
set_option maxRecDepth 20000 in
theorem ggX5_pass_X5_rot : GoodIn wsX5_pass wsX5_rot := goodIn_r _ [17] (by decide +kernel) (by decide +kernel)
set_option maxRecDepth 20000 in
theorem gX5_pass_X5_rot : GoodIn wsX5_pass (va_wsS RX5 145 yX5_rot wsX5_rot) := goodIn_app (goodIn_of _ (by decide +kernel)) ggX5_pass_X5_rot
set_option maxRecDepth 20000 in
theorem ggX5_pass_X5_left : GoodIn wsX5_pass wsX5_left := goodIn_r _ [20] (by decide +kernel) (by decide +kernel)
set_option maxRecDepth 20000 in
theorem gX5_pass_X5_left : GoodIn wsX5_pass (va_wsS RX5 131 yX5_left wsX5_left) := goodIn_app (goodIn_of _ (by decide +kernel)) ggX5_pass_X5_left
set_option maxRecDepth 20000 in
theorem ggX5_pass_X5_endYear : GoodIn wsX5_pass wsX5_endYear := goodIn_r _ [24, 2, 25, 8, 9, 10, 11, 12, 13, 14, 26, 27, 28, 6, 29, 30, 31, 32, 33, 34, 35, 36, 37, 38, 39, 40, 41, 42, 43, 44, 45, 46] (by decide +kernel) (by decide +kernel)
set_option maxRecDepth 20000 in
theorem gX5_pass_X5_endYear : GoodIn wsX5_pass (wsV RX5 84 RX5 yX5_endYear wsX5_endYear) := goodIn_app (goodIn_of _ (by decide +kernel)) ggX5_pass_X5_endYear
theorem dX5_pass_0 : decode cX5_pass 0 = .ok (.iconst 0, 1) := by decide +kernel
theorem dX5_pass_1 : decode cX5_pass 1 = .ok (.istore 5, 2) := by decide +kernel
theorem dX5_pass_3 : decode cX5_pass 3 = .ok (.iconst 0, 1) := by decide +kernel
theorem dX5_pass_4 : decode cX5_pass 4 = .ok (.istore 6, 2) := by decide +kernel
theorem dX5_pass_6 : decode cX5_pass 6 = .ok (.iload 6, 2) := by decide +kernel
theorem dX5_pass_8 : decode cX5_pass 8 = .ok (.aload_n 0, 1) := by decide +kernel
theorem dX5_pass_9 : decode cX5_pass 9 = .ok (.getfield 48, 3) := by decide +kernel
theorem dX5_pass_12 : decode cX5_pass 12 = .ok (.if_icmp .ge 18, 3) := by decide +kernel
theorem dX5_pass_15 : decode cX5_pass 15 = .ok (.aload_n 0, 1) := by decide +kernel
theorem dX5_pass_16 : decode cX5_pass 16 = .ok (.aload_n 2, 1) := by decide +kernel
theorem dX5_pass_17 : decode cX5_pass 17 = .ok (.iconst 5, 1) := by decide +kernel
theorem dX5_pass_18 : decode cX5_pass 18 = .ok (.iload 6, 2) := by decide +kernel
theorem dX5_pass_20 : decode cX5_pass 20 = .ok (.imul, 1) := by decide +kernel
theorem dX5_pass_21 : decode cX5_pass 21 = .ok (.invokevirtual 141, 3) := by decide +kernel
theorem dX5_pass_24 : decode cX5_pass 24 = .ok (.iinc 6 1, 3) := by decide +kernel
theorem dX5_pass_27 : decode cX5_pass 27 = .ok (.goto (-21), 3) := by decide +kernel
theorem dX5_pass_30 : decode cX5_pass 30 = .ok (.iconst 0, 1) := by decide +kernel
theorem dX5_pass_31 : decode cX5_pass 31 = .ok (.istore 6, 2) := by decide +kernel
theorem dX5_pass_33 : decode cX5_pass 33 = .ok (.iload 6, 2) := by decide +kernel
theorem dX5_pass_35 : decode cX5_pass 35 = .ok (.aload_n 0, 1) := by decide +kernel
theorem dX5_pass_36 : decode cX5_pass 36 = .ok (.getfield 41, 3) := by decide +kernel
theorem dX5_pass_39 : decode cX5_pass 39 = .ok (.if_icmp .ge 39, 3) := by decide +kernel
theorem dX5_pass_42 : decode cX5_pass 42 = .ok (.iload 5, 2) := by decide +kernel
theorem dX5_pass_44 : decode cX5_pass 44 = .ok (.aload_n 1, 1) := by decide +kernel
theorem dX5_pass_45 : decode cX5_pass 45 = .ok (.bipush 8, 2) := by decide +kernel
theorem dX5_pass_47 : decode cX5_pass 47 = .ok (.iload 6, 2) := by decide +kernel
theorem dX5_pass_49 : decode cX5_pass 49 = .ok (.imul, 1) := by decide +kernel
theorem dX5_pass_50 : decode cX5_pass 50 = .ok (.iconst 4, 1) := by decide +kernel
theorem dX5_pass_51 : decode cX5_pass 51 = .ok (.iadd, 1) := by decide +kernel
theorem dX5_pass_52 : decode cX5_pass 52 = .ok (.invokestatic 145, 3) := by decide +kernel
theorem dX5_pass_55 : decode cX5_pass 55 = .ok (.aload_n 1, 1) := by decide +kernel
theorem dX5_pass_56 : decode cX5_pass 56 = .ok (.bipush 8, 2) := by decide +kernel
theorem dX5_pass_58 : decode cX5_pass 58 = .ok (.iload 6, 2) := by decide +kernel
theorem dX5_pass_60 : decode cX5_pass 60 = .ok (.imul, 1) := by decide +kernel
theorem dX5_pass_61 : decode cX5_pass 61 = .ok (.iconst 4, 1) := by decide +kernel
theorem dX5_pass_62 : decode cX5_pass 62 = .ok (.iadd, 1) := by decide +kernel
theorem dX5_pass_63 : decode cX5_pass 63 = .ok (.iconst 1, 1) := by decide +kernel
theorem dX5_pass_64 : decode cX5_pass 64 = .ok (.iadd, 1) := by decide +kernel
theorem dX5_pass_65 : decode cX5_pass 65 = .ok (.invokestatic 145, 3) := by decide +kernel
theorem dX5_pass_68 : decode cX5_pass 68 = .ok (.iadd, 1) := by decide +kernel
theorem dX5_pass_69 : decode cX5_pass 69 = .ok (.iadd, 1) := by decide +kernel
theorem dX5_pass_70 : decode cX5_pass 70 = .ok (.istore 5, 2) := by decide +kernel
theorem dX5_pass_72 : decode cX5_pass 72 = .ok (.iinc 6 1, 3) := by decide +kernel
theorem dX5_pass_75 : decode cX5_pass 75 = .ok (.goto (-42), 3) := by decide +kernel
theorem dX5_pass_78 : decode cX5_pass 78 = .ok (.iconst 0, 1) := by decide +kernel
theorem dX5_pass_79 : decode cX5_pass 79 = .ok (.istore 6, 2) := by decide +kernel
theorem dX5_pass_81 : decode cX5_pass 81 = .ok (.iload 6, 2) := by decide +kernel
theorem dX5_pass_83 : decode cX5_pass 83 = .ok (.iconst 3, 1) := by decide +kernel
theorem dX5_pass_84 : decode cX5_pass 84 = .ok (.if_icmp .ge 20, 3) := by decide +kernel
theorem dX5_pass_87 : decode cX5_pass 87 = .ok (.aload_n 3, 1) := by decide +kernel
theorem dX5_pass_88 : decode cX5_pass 88 = .ok (.iload 6, 2) := by decide +kernel
theorem dX5_pass_90 : decode cX5_pass 90 = .ok (.aload_n 3, 1) := by decide +kernel
theorem dX5_pass_91 : decode cX5_pass 91 = .ok (.iload 6, 2) := by decide +kernel
theorem dX5_pass_93 : decode cX5_pass 93 = .ok (.iaload, 1) := by decide +kernel
theorem dX5_pass_94 : decode cX5_pass 94 = .ok (.invokestatic 131, 3) := by decide +kernel
theorem dX5_pass_97 : decode cX5_pass 97 = .ok (.iastore, 1) := by decide +kernel
theorem dX5_pass_98 : decode cX5_pass 98 = .ok (.iinc 6 1, 3) := by decide +kernel
theorem dX5_pass_101 : decode cX5_pass 101 = .ok (.goto (-20), 3) := by decide +kernel
theorem dX5_pass_104 : decode cX5_pass 104 = .ok (.iload 4, 2) := by decide +kernel
theorem dX5_pass_106 : decode cX5_pass 106 = .ok (.bipush 100, 2) := by decide +kernel
theorem dX5_pass_108 : decode cX5_pass 108 = .ok (.irem, 1) := by decide +kernel
theorem dX5_pass_109 : decode cX5_pass 109 = .ok (.bipush 99, 2) := by decide +kernel
theorem dX5_pass_111 : decode cX5_pass 111 = .ok (.if_icmp .ne 8, 3) := by decide +kernel
theorem dX5_pass_114 : decode cX5_pass 114 = .ok (.aload_n 0, 1) := by decide +kernel
theorem dX5_pass_115 : decode cX5_pass 115 = .ok (.aload_n 1, 1) := by decide +kernel
theorem dX5_pass_116 : decode cX5_pass 116 = .ok (.invokevirtual 84, 3) := by decide +kernel
theorem dX5_pass_119 : decode cX5_pass 119 = .ok (.iload 5, 2) := by decide +kernel
theorem dX5_pass_121 : decode cX5_pass 121 = .ok (.ireturn, 1) := by decide +kernel
set_option maxRecDepth 20000 in
theorem ggX5_pass__X5_isIn : GoodIn wsX5_pass_ wsX5_isIn := goodIn_r _ [10] (by decide +kernel) (by decide +kernel)
set_option maxRecDepth 20000 in
theorem gX5_pass__X5_isIn : GoodIn wsX5_pass_ (va_wsS RX5 44 yX5_isIn wsX5_isIn) := goodIn_app (goodIn_of _ (by decide +kernel)) ggX5_pass__X5_isIn
set_option maxRecDepth 20000 in
theorem ggX5_pass__X5_no : GoodIn wsX5_pass_ wsX5_no := goodIn_r _ [14, 1, 50, 51, 52, 53, 54, 55, 56, 57, 58, 59, 60, 61, 62, 63] (by decide +kernel) (by decide +kernel)
set_option maxRecDepth 20000 in
theorem gX5_pass__X5_no : GoodIn wsX5_pass_ (wsV RX5 58 RX5 yX5_no wsX5_no) := goodIn_app (goodIn_of _ (by decide +kernel)) ggX5_pass__X5_no
set_option maxRecDepth 20000 in
theorem ggX5_pass__X5_pass : GoodIn wsX5_pass_ wsX5_pass := goodIn_r _ [18, 19, 20, 21, 22, 23, 9, 24, 25, 26, 27, 28, 29, 30, 31, 32, 33, 34, 35, 36, 37, 38, 39, 40, 41, 42, 43, 44, 45, 46, 47, 48, 49, 50, 51, 52, 53, 54, 55, 56, 57, 58, 59, 60, 61, 62, 63] (by decide +kernel) (by decide +kernel)
set_option maxRecDepth 20000 in
theorem gX5_pass__X5_pass : GoodIn wsX5_pass_ (wsV RX5 151 RX5 yX5_pass wsX5_pass) := goodIn_app (goodIn_of _ (by decide +kernel)) ggX5_pass__X5_pass
theorem dX5_pass__0 : decode cX5_pass_ 0 = .ok (.aload_n 0, 1) := by decide +kernel
theorem dX5_pass__1 : decode cX5_pass_ 1 = .ok (.iconst 0, 1) := by decide +kernel
theorem dX5_pass__2 : decode cX5_pass_ 2 = .ok (.putfield 38, 3) := by decide +kernel
theorem dX5_pass__5 : decode cX5_pass_ 5 = .ok (.iload_n 1, 1) := by decide +kernel
theorem dX5_pass__6 : decode cX5_pass_ 6 = .ok (.iconst 1, 1) := by decide +kernel
theorem dX5_pass__7 : decode cX5_pass_ 7 = .ok (.sipush 200, 3) := by decide +kernel
theorem dX5_pass__10 : decode cX5_pass_ 10 = .ok (.invokestatic 44, 3) := by decide +kernel
theorem dX5_pass__13 : decode cX5_pass_ 13 = .ok (.ifCond .ne 9, 3) := by decide +kernel
theorem dX5_pass__16 : decode cX5_pass_ 16 = .ok (.aload_n 0, 1) := by decide +kernel
theorem dX5_pass__17 : decode cX5_pass_ 17 = .ok (.iconst 1, 1) := by decide +kernel
theorem dX5_pass__18 : decode cX5_pass_ 18 = .ok (.invokevirtual 58, 3) := by decide +kernel
theorem dX5_pass__21 : decode cX5_pass_ 21 = .ok (.ireturn, 1) := by decide +kernel
theorem dX5_pass__22 : decode cX5_pass_ 22 = .ok (.iconst 0, 1) := by decide +kernel
theorem dX5_pass__23 : decode cX5_pass_ 23 = .ok (.istore_n 2, 1) := by decide +kernel
theorem dX5_pass__24 : decode cX5_pass_ 24 = .ok (.iconst 0, 1) := by decide +kernel
theorem dX5_pass__25 : decode cX5_pass_ 25 = .ok (.istore_n 3, 1) := by decide +kernel
theorem dX5_pass__26 : decode cX5_pass_ 26 = .ok (.iload_n 3, 1) := by decide +kernel
theorem dX5_pass__27 : decode cX5_pass_ 27 = .ok (.iload_n 1, 1) := by decide +kernel
theorem dX5_pass__28 : decode cX5_pass_ 28 = .ok (.if_icmp .ge 42, 3) := by decide +kernel
theorem dX5_pass__31 : decode cX5_pass_ 31 = .ok (.iload_n 2, 1) := by decide +kernel
theorem dX5_pass__32 : decode cX5_pass_ 32 = .ok (.aload_n 0, 1) := by decide +kernel
theorem dX5_pass__33 : decode cX5_pass_ 33 = .ok (.aload_n 0, 1) := by decide +kernel
theorem dX5_pass__34 : decode cX5_pass_ 34 = .ok (.getfield 16, 3) := by decide +kernel
theorem dX5_pass__37 : decode cX5_pass_ 37 = .ok (.aload_n 0, 1) := by decide +kernel
theorem dX5_pass__38 : decode cX5_pass_ 38 = .ok (.getfield 20, 3) := by decide +kernel
theorem dX5_pass__41 : decode cX5_pass_ 41 = .ok (.aload_n 0, 1) := by decide +kernel
theorem dX5_pass__42 : decode cX5_pass_ 42 = .ok (.getfield 23, 3) := by decide +kernel
theorem dX5_pass__45 : decode cX5_pass_ 45 = .ok (.aload_n 0, 1) := by decide +kernel
theorem dX5_pass__46 : decode cX5_pass_ 46 = .ok (.getfield 148, 3) := by decide +kernel
theorem dX5_pass__49 : decode cX5_pass_ 49 = .ok (.invokevirtual 151, 3) := by decide +kernel
theorem dX5_pass__52 : decode cX5_pass_ 52 = .ok (.iadd, 1) := by decide +kernel
theorem dX5_pass__53 : decode cX5_pass_ 53 = .ok (.istore_n 2, 1) := by decide +kernel
theorem dX5_pass__54 : decode cX5_pass_ 54 = .ok (.aload_n 0, 1) := by decide +kernel
theorem dX5_pass__55 : decode cX5_pass_ 55 = .ok (.dup, 1) := by decide +kernel
theorem dX5_pass__56 : decode cX5_pass_ 56 = .ok (.getfield 148, 3) := by decide +kernel
theorem dX5_pass__59 : decode cX5_pass_ 59 = .ok (.iconst 1, 1) := by decide +kernel
theorem dX5_pass__60 : decode cX5_pass_ 60 = .ok (.iadd, 1) := by decide +kernel
theorem dX5_pass__61 : decode cX5_pass_ 61 = .ok (.putfield 148, 3) := by decide +kernel
theorem dX5_pass__64 : decode cX5_pass_ 64 = .ok (.iinc 3 1, 3) := by decide +kernel
theorem dX5_pass__67 : decode cX5_pass_ 67 = .ok (.goto (-41), 3) := by decide +kernel
theorem dX5_pass__70 : decode cX5_pass_ 70 = .ok (.aload_n 0, 1) := by decide +kernel
theorem dX5_pass__71 : decode cX5_pass_ 71 = .ok (.dup, 1) := by decide +kernel
theorem dX5_pass__72 : decode cX5_pass_ 72 = .ok (.getfield 155, 3) := by decide +kernel
theorem dX5_pass__75 : decode cX5_pass_ 75 = .ok (.iload_n 2, 1) := by decide +kernel
theorem dX5_pass__76 : decode cX5_pass_ 76 = .ok (.iadd, 1) := by decide +kernel
theorem dX5_pass__77 : decode cX5_pass_ 77 = .ok (.putfield 155, 3) := by decide +kernel
theorem dX5_pass__80 : decode cX5_pass_ 80 = .ok (.iload_n 2, 1) := by decide +kernel
theorem dX5_pass__81 : decode cX5_pass_ 81 = .ok (.ireturn, 1) := by decide +kernel
theorem dX5_lookAhead_0 : decode cX5_lookAhead 0 = .ok (.aload_n 0, 1) := by decide +kernel
theorem dX5_lookAhead_1 : decode cX5_lookAhead 1 = .ok (.getfield 16, 3) := by decide +kernel
theorem dX5_lookAhead_4 : decode cX5_lookAhead 4 = .ok (.iconst 0, 1) := by decide +kernel
theorem dX5_lookAhead_5 : decode cX5_lookAhead 5 = .ok (.aload_n 0, 1) := by decide +kernel
theorem dX5_lookAhead_6 : decode cX5_lookAhead 6 = .ok (.getfield 26, 3) := by decide +kernel
theorem dX5_lookAhead_9 : decode cX5_lookAhead 9 = .ok (.iconst 0, 1) := by decide +kernel
theorem dX5_lookAhead_10 : decode cX5_lookAhead 10 = .ok (.aload_n 0, 1) := by decide +kernel
theorem dX5_lookAhead_11 : decode cX5_lookAhead 11 = .ok (.getfield 16, 3) := by decide +kernel
theorem dX5_lookAhead_14 : decode cX5_lookAhead 14 = .ok (.arraylength, 1) := by decide +kernel
theorem dX5_lookAhead_15 : decode cX5_lookAhead 15 = .ok (.invokestatic 158, 3) := by decide +kernel
theorem dX5_lookAhead_18 : decode cX5_lookAhead 18 = .ok (.aload_n 0, 1) := by decide +kernel
theorem dX5_lookAhead_19 : decode cX5_lookAhead 19 = .ok (.getfield 20, 3) := by decide +kernel
theorem dX5_lookAhead_22 : decode cX5_lookAhead 22 = .ok (.iconst 0, 1) := by decide +kernel
theorem dX5_lookAhead_23 : decode cX5_lookAhead 23 = .ok (.aload_n 0, 1) := by decide +kernel
theorem dX5_lookAhead_24 : decode cX5_lookAhead 24 = .ok (.getfield 29, 3) := by decide +kernel
theorem dX5_lookAhead_27 : decode cX5_lookAhead 27 = .ok (.iconst 0, 1) := by decide +kernel
theorem dX5_lookAhead_28 : decode cX5_lookAhead 28 = .ok (.aload_n 0, 1) := by decide +kernel
theorem dX5_lookAhead_29 : decode cX5_lookAhead 29 = .ok (.getfield 20, 3) := by decide +kernel
theorem dX5_lookAhead_32 : decode cX5_lookAhead 32 = .ok (.arraylength, 1) := by decide +kernel
theorem dX5_lookAhead_33 : decode cX5_lookAhead 33 = .ok (.invokestatic 158, 3) := by decide +kernel
theorem dX5_lookAhead_36 : decode cX5_lookAhead 36 = .ok (.aload_n 0, 1) := by decide +kernel
theorem dX5_lookAhead_37 : decode cX5_lookAhead 37 = .ok (.getfield 23, 3) := by decide +kernel
theorem dX5_lookAhead_40 : decode cX5_lookAhead 40 = .ok (.iconst 0, 1) := by decide +kernel
theorem dX5_lookAhead_41 : decode cX5_lookAhead 41 = .ok (.aload_n 0, 1) := by decide +kernel
theorem dX5_lookAhead_42 : decode cX5_lookAhead 42 = .ok (.getfield 32, 3) := by decide +kernel
theorem dX5_lookAhead_45 : decode cX5_lookAhead 45 = .ok (.iconst 0, 1) := by decide +kernel
theorem dX5_lookAhead_46 : decode cX5_lookAhead 46 = .ok (.aload_n 0, 1) := by decide +kernel
theorem dX5_lookAhead_47 : decode cX5_lookAhead 47 = .ok (.getfield 23, 3) := by decide +kernel
theorem dX5_lookAhead_50 : decode cX5_lookAhead 50 = .ok (.arraylength, 1) := by decide +kernel
theorem dX5_lookAhead_51 : decode cX5_lookAhead 51 = .ok (.invokestatic 158, 3) := by decide +kernel
theorem dX5_lookAhead_54 : decode cX5_lookAhead 54 = .ok (.return_, 1) := by decide +kernel
theorem dX5_sum_0 : decode cX5_sum 0 = .ok (.iconst 0, 1) := by decide +kernel
theorem dX5_sum_1 : decode cX5_sum 1 = .ok (.istore_n 3, 1) := by decide +kernel
theorem dX5_sum_2 : decode cX5_sum 2 = .ok (.iconst 0, 1) := by decide +kernel
theorem dX5_sum_3 : decode cX5_sum 3 = .ok (.istore 4, 2) := by decide +kernel
theorem dX5_sum_5 : decode cX5_sum 5 = .ok (.iload 4, 2) := by decide +kernel
theorem dX5_sum_7 : decode cX5_sum 7 = .ok (.aload_n 0, 1) := by decide +kernel
theorem dX5_sum_8 : decode cX5_sum 8 = .ok (.getfield 41, 3) := by decide +kernel
theorem dX5_sum_11 : decode cX5_sum 11 = .ok (.if_icmp .ge 21, 3) := by decide +kernel
theorem dX5_sum_14 : decode cX5_sum 14 = .ok (.iload_n 3, 1) := by decide +kernel
theorem dX5_sum_15 : decode cX5_sum 15 = .ok (.aload_n 1, 1) := by decide +kernel
theorem dX5_sum_16 : decode cX5_sum 16 = .ok (.bipush 8, 2) := by decide +kernel
theorem dX5_sum_18 : decode cX5_sum 18 = .ok (.iload 4, 2) := by decide +kernel
theorem dX5_sum_20 : decode cX5_sum 20 = .ok (.imul, 1) := by decide +kernel
theorem dX5_sum_21 : decode cX5_sum 21 = .ok (.iload_n 2, 1) := by decide +kernel
theorem dX5_sum_22 : decode cX5_sum 22 = .ok (.iadd, 1) := by decide +kernel
theorem dX5_sum_23 : decode cX5_sum 23 = .ok (.iaload, 1) := by decide +kernel
theorem dX5_sum_24 : decode cX5_sum 24 = .ok (.iadd, 1) := by decide +kernel
theorem dX5_sum_25 : decode cX5_sum 25 = .ok (.istore_n 3, 1) := by decide +kernel
theorem dX5_sum_26 : decode cX5_sum 26 = .ok (.iinc 4 1, 3) := by decide +kernel
theorem dX5_sum_29 : decode cX5_sum 29 = .ok (.goto (-24), 3) := by decide +kernel
theorem dX5_sum_32 : decode cX5_sum 32 = .ok (.iload_n 3, 1) := by decide +kernel
theorem dX5_sum_33 : decode cX5_sum 33 = .ok (.ireturn, 1) := by decide +kernel
set_option maxRecDepth 20000 in
theorem ggX5_giveAll_X5_gives : GoodIn wsX5_giveAll wsX5_gives := goodIn_r _ [5, 6] (by decide +kernel) (by decide +kernel)
set_option maxRecDepth 20000 in
theorem gX5_giveAll_X5_gives : GoodIn wsX5_giveAll (va_wsS RX5 54 yX5_gives wsX5_gives) := goodIn_app (goodIn_of _ (by decide +kernel)) ggX5_giveAll_X5_gives
theorem dX5_giveAll_0 : decode cX5_giveAll 0 = .ok (.iconst 0, 1) := by decide +kernel
theorem dX5_giveAll_1 : decode cX5_giveAll 1 = .ok (.istore_n 2, 1) := by decide +kernel
theorem dX5_giveAll_2 : decode cX5_giveAll 2 = .ok (.iconst 0, 1) := by decide +kernel
theorem dX5_giveAll_3 : decode cX5_giveAll 3 = .ok (.istore_n 3, 1) := by decide +kernel
theorem dX5_giveAll_4 : decode cX5_giveAll 4 = .ok (.iload_n 3, 1) := by decide +kernel
theorem dX5_giveAll_5 : decode cX5_giveAll 5 = .ok (.aload_n 0, 1) := by decide +kernel
theorem dX5_giveAll_6 : decode cX5_giveAll 6 = .ok (.getfield 41, 3) := by decide +kernel
theorem dX5_giveAll_9 : decode cX5_giveAll 9 = .ok (.if_icmp .ge 20, 3) := by decide +kernel
theorem dX5_giveAll_12 : decode cX5_giveAll 12 = .ok (.iload_n 2, 1) := by decide +kernel
theorem dX5_giveAll_13 : decode cX5_giveAll 13 = .ok (.aload_n 1, 1) := by decide +kernel
theorem dX5_giveAll_14 : decode cX5_giveAll 14 = .ok (.bipush 8, 2) := by decide +kernel
theorem dX5_giveAll_16 : decode cX5_giveAll 16 = .ok (.iload_n 3, 1) := by decide +kernel
theorem dX5_giveAll_17 : decode cX5_giveAll 17 = .ok (.imul, 1) := by decide +kernel
theorem dX5_giveAll_18 : decode cX5_giveAll 18 = .ok (.invokestatic 54, 3) := by decide +kernel
theorem dX5_giveAll_21 : decode cX5_giveAll 21 = .ok (.iadd, 1) := by decide +kernel
theorem dX5_giveAll_22 : decode cX5_giveAll 22 = .ok (.istore_n 2, 1) := by decide +kernel
theorem dX5_giveAll_23 : decode cX5_giveAll 23 = .ok (.iinc 3 1, 3) := by decide +kernel
theorem dX5_giveAll_26 : decode cX5_giveAll 26 = .ok (.goto (-22), 3) := by decide +kernel
theorem dX5_giveAll_29 : decode cX5_giveAll 29 = .ok (.iload_n 2, 1) := by decide +kernel
theorem dX5_giveAll_30 : decode cX5_giveAll 30 = .ok (.ireturn, 1) := by decide +kernel
set_option maxRecDepth 20000 in
theorem ggX5_aboardAll_X5_aboard : GoodIn wsX5_aboardAll wsX5_aboard := goodIn_r _ [6, 7, 8, 9, 10, 11, 12, 13, 14, 15, 16, 17, 18, 19, 20, 21] (by decide +kernel) (by decide +kernel)
set_option maxRecDepth 20000 in
theorem gX5_aboardAll_X5_aboard : GoodIn wsX5_aboardAll (wsV RX5 101 RX5 yX5_aboard wsX5_aboard) := goodIn_app (goodIn_of _ (by decide +kernel)) ggX5_aboardAll_X5_aboard
theorem dX5_aboardAll_0 : decode cX5_aboardAll 0 = .ok (.iconst 0, 1) := by decide +kernel
theorem dX5_aboardAll_1 : decode cX5_aboardAll 1 = .ok (.istore_n 1, 1) := by decide +kernel
theorem dX5_aboardAll_2 : decode cX5_aboardAll 2 = .ok (.iconst 0, 1) := by decide +kernel
theorem dX5_aboardAll_3 : decode cX5_aboardAll 3 = .ok (.istore_n 2, 1) := by decide +kernel
theorem dX5_aboardAll_4 : decode cX5_aboardAll 4 = .ok (.iload_n 2, 1) := by decide +kernel
theorem dX5_aboardAll_5 : decode cX5_aboardAll 5 = .ok (.aload_n 0, 1) := by decide +kernel
theorem dX5_aboardAll_6 : decode cX5_aboardAll 6 = .ok (.getfield 48, 3) := by decide +kernel
theorem dX5_aboardAll_9 : decode cX5_aboardAll 9 = .ok (.if_icmp .ge 19, 3) := by decide +kernel
theorem dX5_aboardAll_12 : decode cX5_aboardAll 12 = .ok (.iload_n 1, 1) := by decide +kernel
theorem dX5_aboardAll_13 : decode cX5_aboardAll 13 = .ok (.aload_n 0, 1) := by decide +kernel
theorem dX5_aboardAll_14 : decode cX5_aboardAll 14 = .ok (.iconst 5, 1) := by decide +kernel
theorem dX5_aboardAll_15 : decode cX5_aboardAll 15 = .ok (.iload_n 2, 1) := by decide +kernel
theorem dX5_aboardAll_16 : decode cX5_aboardAll 16 = .ok (.imul, 1) := by decide +kernel
theorem dX5_aboardAll_17 : decode cX5_aboardAll 17 = .ok (.invokevirtual 101, 3) := by decide +kernel
theorem dX5_aboardAll_20 : decode cX5_aboardAll 20 = .ok (.iadd, 1) := by decide +kernel
theorem dX5_aboardAll_21 : decode cX5_aboardAll 21 = .ok (.istore_n 1, 1) := by decide +kernel
theorem dX5_aboardAll_22 : decode cX5_aboardAll 22 = .ok (.iinc 2 1, 3) := by decide +kernel
theorem dX5_aboardAll_25 : decode cX5_aboardAll 25 = .ok (.goto (-21), 3) := by decide +kernel
theorem dX5_aboardAll_28 : decode cX5_aboardAll 28 = .ok (.iload_n 1, 1) := by decide +kernel
theorem dX5_aboardAll_29 : decode cX5_aboardAll 29 = .ok (.ireturn, 1) := by decide +kernel
set_option maxRecDepth 20000 in
theorem ggX5_summed_X5_giveAll : GoodIn wsX5_summed wsX5_giveAll := goodIn_r _ [5, 6, 7, 8, 4, 9, 10, 15, 16, 17, 18, 19, 20, 21, 22, 23, 24, 25, 26, 27, 28] (by decide +kernel) (by decide +kernel)
set_option maxRecDepth 20000 in
theorem gX5_summed_X5_giveAll : GoodIn wsX5_summed (wsV RX5 164 RX5 yX5_giveAll wsX5_giveAll) := goodIn_app (goodIn_of _ (by decide +kernel)) ggX5_summed_X5_giveAll
set_option maxRecDepth 20000 in
theorem ggX5_summed_X5_sum : GoodIn wsX5_summed wsX5_sum := goodIn_r _ [14, 6, 15, 16, 17, 18, 19, 20, 21, 22, 23, 24, 25, 26, 27, 28] (by decide +kernel) (by decide +kernel)
set_option maxRecDepth 20000 in
theorem gX5_summed_X5_sum : GoodIn wsX5_summed (wsV RX5 168 RX5 yX5_sum wsX5_sum) := goodIn_app (goodIn_of _ (by decide +kernel)) ggX5_summed_X5_sum
theorem dX5_summed_0 : decode cX5_summed 0 = .ok (.iload 4, 2) := by decide +kernel
theorem dX5_summed_2 : decode cX5_summed 2 = .ok (.lookupswitch 66 #[(4, 34), (5, 40), (9, 54)], 34) := by decide +kernel
theorem dX5_summed_36 : decode cX5_summed 36 = .ok (.aload_n 0, 1) := by decide +kernel
theorem dX5_summed_37 : decode cX5_summed 37 = .ok (.aload_n 1, 1) := by decide +kernel
theorem dX5_summed_38 : decode cX5_summed 38 = .ok (.invokevirtual 164, 3) := by decide +kernel
theorem dX5_summed_41 : decode cX5_summed 41 = .ok (.ireturn, 1) := by decide +kernel
theorem dX5_summed_42 : decode cX5_summed 42 = .ok (.aload_n 0, 1) := by decide +kernel
theorem dX5_summed_43 : decode cX5_summed 43 = .ok (.aload_n 1, 1) := by decide +kernel
theorem dX5_summed_44 : decode cX5_summed 44 = .ok (.iconst 4, 1) := by decide +kernel
theorem dX5_summed_45 : decode cX5_summed 45 = .ok (.invokevirtual 168, 3) := by decide +kernel
theorem dX5_summed_48 : decode cX5_summed 48 = .ok (.aload_n 0, 1) := by decide +kernel
theorem dX5_summed_49 : decode cX5_summed 49 = .ok (.aload_n 1, 1) := by decide +kernel
theorem dX5_summed_50 : decode cX5_summed 50 = .ok (.iconst 5, 1) := by decide +kernel
theorem dX5_summed_51 : decode cX5_summed 51 = .ok (.invokevirtual 168, 3) := by decide +kernel
theorem dX5_summed_54 : decode cX5_summed 54 = .ok (.iadd, 1) := by decide +kernel
theorem dX5_summed_55 : decode cX5_summed 55 = .ok (.ireturn, 1) := by decide +kernel
theorem dX5_summed_56 : decode cX5_summed 56 = .ok (.aload_n 2, 1) := by decide +kernel
theorem dX5_summed_57 : decode cX5_summed 57 = .ok (.iconst 0, 1) := by decide +kernel
theorem dX5_summed_58 : decode cX5_summed 58 = .ok (.iaload, 1) := by decide +kernel
theorem dX5_summed_59 : decode cX5_summed 59 = .ok (.aload_n 2, 1) := by decide +kernel
theorem dX5_summed_60 : decode cX5_summed 60 = .ok (.iconst 1, 1) := by decide +kernel
theorem dX5_summed_61 : decode cX5_summed 61 = .ok (.iaload, 1) := by decide +kernel
theorem dX5_summed_62 : decode cX5_summed 62 = .ok (.iadd, 1) := by decide +kernel
theorem dX5_summed_63 : decode cX5_summed 63 = .ok (.aload_n 2, 1) := by decide +kernel
theorem dX5_summed_64 : decode cX5_summed 64 = .ok (.iconst 2, 1) := by decide +kernel
theorem dX5_summed_65 : decode cX5_summed 65 = .ok (.iaload, 1) := by decide +kernel
theorem dX5_summed_66 : decode cX5_summed 66 = .ok (.iadd, 1) := by decide +kernel
theorem dX5_summed_67 : decode cX5_summed 67 = .ok (.ireturn, 1) := by decide +kernel
theorem dX5_summed_68 : decode cX5_summed 68 = .ok (.iload_n 3, 1) := by decide +kernel
theorem dX5_summed_69 : decode cX5_summed 69 = .ok (.ireturn, 1) := by decide +kernel
set_option maxRecDepth 20000 in
theorem ggX5_counted_X5_sum : GoodIn wsX5_counted wsX5_sum := goodIn_r _ [13, 4, 35, 36, 37, 38, 39, 40, 41, 42, 43, 44, 45, 46, 47, 48] (by decide +kernel) (by decide +kernel)
set_option maxRecDepth 20000 in
theorem gX5_counted_X5_sum : GoodIn wsX5_counted (wsV RX5 168 RX5 yX5_sum wsX5_sum) := goodIn_app (goodIn_of _ (by decide +kernel)) ggX5_counted_X5_sum
set_option maxRecDepth 20000 in
theorem ggX5_counted_X5_aboardAll : GoodIn wsX5_counted wsX5_aboardAll := goodIn_r _ [17, 6, 18, 19, 20, 12, 21, 22, 35, 36, 37, 38, 39, 40, 41, 42, 43, 44, 45, 46, 47, 48] (by decide +kernel) (by decide +kernel)
set_option maxRecDepth 20000 in
theorem gX5_counted_X5_aboardAll : GoodIn wsX5_counted (wsV RX5 171 RX5 yX5_aboardAll wsX5_aboardAll) := goodIn_app (goodIn_of _ (by decide +kernel)) ggX5_counted_X5_aboardAll
set_option maxRecDepth 20000 in
theorem ggX5_counted_X5_summed : GoodIn wsX5_counted wsX5_summed := goodIn_r _ [26, 27, 28, 29, 12, 30, 4, 31, 32, 33, 34, 9, 10, 11, 13, 35, 36, 37, 38, 39, 40, 41, 42, 43, 44, 45, 46, 47, 48] (by decide +kernel) (by decide +kernel)
set_option maxRecDepth 20000 in
theorem gX5_counted_X5_summed : GoodIn wsX5_counted (wsV RX5 175 RX5 yX5_summed wsX5_summed) := goodIn_app (goodIn_of _ (by decide +kernel)) ggX5_counted_X5_summed
theorem dX5_counted_0 : decode cX5_counted 0 = .ok (.iload_n 1, 1) := by decide +kernel
theorem dX5_counted_1 : decode cX5_counted 1 = .ok (.tableswitch 103 0 8 #[51, 56, 61, 66, 103, 103, 71, 93, 98], 51) := by decide +kernel
theorem dX5_counted_52 : decode cX5_counted 52 = .ok (.aload_n 0, 1) := by decide +kernel
theorem dX5_counted_53 : decode cX5_counted 53 = .ok (.getfield 148, 3) := by decide +kernel
theorem dX5_counted_56 : decode cX5_counted 56 = .ok (.ireturn, 1) := by decide +kernel
theorem dX5_counted_57 : decode cX5_counted 57 = .ok (.aload_n 0, 1) := by decide +kernel
theorem dX5_counted_58 : decode cX5_counted 58 = .ok (.getfield 7, 3) := by decide +kernel
theorem dX5_counted_61 : decode cX5_counted 61 = .ok (.ireturn, 1) := by decide +kernel
theorem dX5_counted_62 : decode cX5_counted 62 = .ok (.aload_n 0, 1) := by decide +kernel
theorem dX5_counted_63 : decode cX5_counted 63 = .ok (.getfield 13, 3) := by decide +kernel
theorem dX5_counted_66 : decode cX5_counted 66 = .ok (.ireturn, 1) := by decide +kernel
theorem dX5_counted_67 : decode cX5_counted 67 = .ok (.aload_n 0, 1) := by decide +kernel
theorem dX5_counted_68 : decode cX5_counted 68 = .ok (.getfield 41, 3) := by decide +kernel
theorem dX5_counted_71 : decode cX5_counted 71 = .ok (.ireturn, 1) := by decide +kernel
theorem dX5_counted_72 : decode cX5_counted 72 = .ok (.aload_n 0, 1) := by decide +kernel
theorem dX5_counted_73 : decode cX5_counted 73 = .ok (.aload_n 0, 1) := by decide +kernel
theorem dX5_counted_74 : decode cX5_counted 74 = .ok (.getfield 16, 3) := by decide +kernel
theorem dX5_counted_77 : decode cX5_counted 77 = .ok (.bipush 6, 2) := by decide +kernel
theorem dX5_counted_79 : decode cX5_counted 79 = .ok (.invokevirtual 168, 3) := by decide +kernel
theorem dX5_counted_82 : decode cX5_counted 82 = .ok (.aload_n 0, 1) := by decide +kernel
theorem dX5_counted_83 : decode cX5_counted 83 = .ok (.aload_n 0, 1) := by decide +kernel
theorem dX5_counted_84 : decode cX5_counted 84 = .ok (.getfield 16, 3) := by decide +kernel
theorem dX5_counted_87 : decode cX5_counted 87 = .ok (.bipush 7, 2) := by decide +kernel
theorem dX5_counted_89 : decode cX5_counted 89 = .ok (.invokevirtual 168, 3) := by decide +kernel
theorem dX5_counted_92 : decode cX5_counted 92 = .ok (.iadd, 1) := by decide +kernel
theorem dX5_counted_93 : decode cX5_counted 93 = .ok (.ireturn, 1) := by decide +kernel
theorem dX5_counted_94 : decode cX5_counted 94 = .ok (.aload_n 0, 1) := by decide +kernel
theorem dX5_counted_95 : decode cX5_counted 95 = .ok (.getfield 48, 3) := by decide +kernel
theorem dX5_counted_98 : decode cX5_counted 98 = .ok (.ireturn, 1) := by decide +kernel
theorem dX5_counted_99 : decode cX5_counted 99 = .ok (.aload_n 0, 1) := by decide +kernel
theorem dX5_counted_100 : decode cX5_counted 100 = .ok (.invokevirtual 171, 3) := by decide +kernel
theorem dX5_counted_103 : decode cX5_counted 103 = .ok (.ireturn, 1) := by decide +kernel
theorem dX5_counted_104 : decode cX5_counted 104 = .ok (.aload_n 0, 1) := by decide +kernel
theorem dX5_counted_105 : decode cX5_counted 105 = .ok (.aload_n 0, 1) := by decide +kernel
theorem dX5_counted_106 : decode cX5_counted 106 = .ok (.getfield 16, 3) := by decide +kernel
theorem dX5_counted_109 : decode cX5_counted 109 = .ok (.aload_n 0, 1) := by decide +kernel
theorem dX5_counted_110 : decode cX5_counted 110 = .ok (.getfield 23, 3) := by decide +kernel
theorem dX5_counted_113 : decode cX5_counted 113 = .ok (.aload_n 0, 1) := by decide +kernel
theorem dX5_counted_114 : decode cX5_counted 114 = .ok (.getfield 155, 3) := by decide +kernel
theorem dX5_counted_117 : decode cX5_counted 117 = .ok (.iload_n 1, 1) := by decide +kernel
theorem dX5_counted_118 : decode cX5_counted 118 = .ok (.invokevirtual 175, 3) := by decide +kernel
theorem dX5_counted_121 : decode cX5_counted 121 = .ok (.ireturn, 1) := by decide +kernel
set_option maxRecDepth 20000 in
theorem ggX5_count_X5_isIn : GoodIn wsX5_count wsX5_isIn := goodIn_r _ [5] (by decide +kernel) (by decide +kernel)
set_option maxRecDepth 20000 in
theorem gX5_count_X5_isIn : GoodIn wsX5_count (va_wsS RX5 44 yX5_isIn wsX5_isIn) := goodIn_app (goodIn_of _ (by decide +kernel)) ggX5_count_X5_isIn
set_option maxRecDepth 20000 in
theorem ggX5_count_X5_counted : GoodIn wsX5_count wsX5_counted := goodIn_r _ [9, 10, 11, 12, 13, 14, 15, 16, 17, 18, 19, 20, 4, 21, 22, 23, 24, 25, 26, 27, 28, 29, 30, 31, 32, 33, 34, 35, 36, 37, 38, 39, 40, 41, 42, 47, 48, 49, 50, 51, 52, 53, 54, 55, 56, 57, 58, 59, 60] (by decide +kernel) (by decide +kernel)
set_option maxRecDepth 20000 in
theorem gX5_count_X5_counted : GoodIn wsX5_count (wsV RX5 179 RX5 yX5_counted wsX5_counted) := goodIn_app (goodIn_of _ (by decide +kernel)) ggX5_count_X5_counted
set_option maxRecDepth 20000 in
theorem ggX5_count_X5_no : GoodIn wsX5_count wsX5_no := goodIn_r _ [46, 1, 47, 48, 49, 50, 51, 52, 53, 54, 55, 56, 57, 58, 59, 60] (by decide +kernel) (by decide +kernel)
set_option maxRecDepth 20000 in
theorem gX5_count_X5_no : GoodIn wsX5_count (wsV RX5 58 RX5 yX5_no wsX5_no) := goodIn_app (goodIn_of _ (by decide +kernel)) ggX5_count_X5_no
theorem dX5_count_0 : decode cX5_count 0 = .ok (.aload_n 0, 1) := by decide +kernel
theorem dX5_count_1 : decode cX5_count 1 = .ok (.iconst 0, 1) := by decide +kernel
theorem dX5_count_2 : decode cX5_count 2 = .ok (.putfield 38, 3) := by decide +kernel
theorem dX5_count_5 : decode cX5_count 5 = .ok (.iload_n 1, 1) := by decide +kernel
theorem dX5_count_6 : decode cX5_count 6 = .ok (.iconst 0, 1) := by decide +kernel
theorem dX5_count_7 : decode cX5_count 7 = .ok (.bipush 10, 2) := by decide +kernel
theorem dX5_count_9 : decode cX5_count 9 = .ok (.invokestatic 44, 3) := by decide +kernel
theorem dX5_count_12 : decode cX5_count 12 = .ok (.ifCond .eq 11, 3) := by decide +kernel
theorem dX5_count_15 : decode cX5_count 15 = .ok (.aload_n 0, 1) := by decide +kernel
theorem dX5_count_16 : decode cX5_count 16 = .ok (.iload_n 1, 1) := by decide +kernel
theorem dX5_count_17 : decode cX5_count 17 = .ok (.invokevirtual 179, 3) := by decide +kernel
theorem dX5_count_20 : decode cX5_count 20 = .ok (.goto 8, 3) := by decide +kernel
theorem dX5_count_23 : decode cX5_count 23 = .ok (.aload_n 0, 1) := by decide +kernel
theorem dX5_count_24 : decode cX5_count 24 = .ok (.iconst 1, 1) := by decide +kernel
theorem dX5_count_25 : decode cX5_count 25 = .ok (.invokevirtual 58, 3) := by decide +kernel
theorem dX5_count_28 : decode cX5_count 28 = .ok (.ireturn, 1) := by decide +kernel
set_option maxRecDepth 20000 in
theorem ggX5_foresee_X5_isIn : GoodIn wsX5_foresee wsX5_isIn := goodIn_r _ [10] (by decide +kernel) (by decide +kernel)
set_option maxRecDepth 20000 in
theorem gX5_foresee_X5_isIn : GoodIn wsX5_foresee (va_wsS RX5 44 yX5_isIn wsX5_isIn) := goodIn_app (goodIn_of _ (by decide +kernel)) ggX5_foresee_X5_isIn
set_option maxRecDepth 20000 in
theorem ggX5_foresee_X5_no : GoodIn wsX5_foresee wsX5_no := goodIn_r _ [14, 1, 77, 78, 79, 80, 81, 82, 83, 84, 85, 86, 87, 88, 89, 90] (by decide +kernel) (by decide +kernel)
set_option maxRecDepth 20000 in
theorem gX5_foresee_X5_no : GoodIn wsX5_foresee (wsV RX5 58 RX5 yX5_no wsX5_no) := goodIn_app (goodIn_of _ (by decide +kernel)) ggX5_foresee_X5_no
set_option maxRecDepth 20000 in
theorem ggX5_foresee_X5_lookAhead : GoodIn wsX5_foresee wsX5_lookAhead := goodIn_r _ [18, 19, 3, 20, 21, 22, 23, 24, 4, 25, 5, 77, 78, 79, 80, 81, 82, 83, 84, 85, 86, 87, 88, 89, 90] (by decide +kernel) (by decide +kernel)
set_option maxRecDepth 20000 in
theorem gX5_foresee_X5_lookAhead : GoodIn wsX5_foresee (wsV RX5 81 RX5 yX5_lookAhead wsX5_lookAhead) := goodIn_app (goodIn_of _ (by decide +kernel)) ggX5_foresee_X5_lookAhead
set_option maxRecDepth 20000 in
theorem ggX5_foresee_X5_pass : GoodIn wsX5_foresee wsX5_pass := goodIn_r _ [29, 30, 31, 32, 33, 34, 9, 35, 36, 37, 38, 39, 40, 41, 42, 43, 44, 45, 46, 47, 48, 49, 50, 51, 52, 53, 54, 55, 56, 57, 58, 59, 60, 77, 78, 79, 80, 81, 82, 83, 84, 85, 86, 87, 88, 89, 90] (by decide +kernel) (by decide +kernel)
set_option maxRecDepth 20000 in
theorem gX5_foresee_X5_pass : GoodIn wsX5_foresee (wsV RX5 151 RX5 yX5_pass wsX5_pass) := goodIn_app (goodIn_of _ (by decide +kernel)) ggX5_foresee_X5_pass
set_option maxRecDepth 20000 in
theorem ggX5_foresee_X5_summed : GoodIn wsX5_foresee wsX5_summed := goodIn_r _ [64, 65, 66, 67, 9, 68, 31, 69, 70, 71, 72, 73, 74, 75, 76, 77, 78, 79, 80, 81, 82, 83, 84, 85, 86, 87, 88, 89, 90] (by decide +kernel) (by decide +kernel)
set_option maxRecDepth 20000 in
theorem gX5_foresee_X5_summed : GoodIn wsX5_foresee (wsV RX5 175 RX5 yX5_summed wsX5_summed) := goodIn_app (goodIn_of _ (by decide +kernel)) ggX5_foresee_X5_summed
theorem dX5_foresee_0 : decode cX5_foresee 0 = .ok (.aload_n 0, 1) := by decide +kernel
theorem dX5_foresee_1 : decode cX5_foresee 1 = .ok (.iconst 0, 1) := by decide +kernel
theorem dX5_foresee_2 : decode cX5_foresee 2 = .ok (.putfield 38, 3) := by decide +kernel
theorem dX5_foresee_5 : decode cX5_foresee 5 = .ok (.iload_n 1, 1) := by decide +kernel
theorem dX5_foresee_6 : decode cX5_foresee 6 = .ok (.iconst 1, 1) := by decide +kernel
theorem dX5_foresee_7 : decode cX5_foresee 7 = .ok (.sipush 200, 3) := by decide +kernel
theorem dX5_foresee_10 : decode cX5_foresee 10 = .ok (.invokestatic 44, 3) := by decide +kernel
theorem dX5_foresee_13 : decode cX5_foresee 13 = .ok (.ifCond .ne 9, 3) := by decide +kernel
theorem dX5_foresee_16 : decode cX5_foresee 16 = .ok (.aload_n 0, 1) := by decide +kernel
theorem dX5_foresee_17 : decode cX5_foresee 17 = .ok (.iconst 1, 1) := by decide +kernel
theorem dX5_foresee_18 : decode cX5_foresee 18 = .ok (.invokevirtual 58, 3) := by decide +kernel
theorem dX5_foresee_21 : decode cX5_foresee 21 = .ok (.ireturn, 1) := by decide +kernel
theorem dX5_foresee_22 : decode cX5_foresee 22 = .ok (.iload_n 2, 1) := by decide +kernel
theorem dX5_foresee_23 : decode cX5_foresee 23 = .ok (.iconst 4, 1) := by decide +kernel
theorem dX5_foresee_24 : decode cX5_foresee 24 = .ok (.if_icmp .eq 26, 3) := by decide +kernel
theorem dX5_foresee_27 : decode cX5_foresee 27 = .ok (.iload_n 2, 1) := by decide +kernel
theorem dX5_foresee_28 : decode cX5_foresee 28 = .ok (.iconst 5, 1) := by decide +kernel
theorem dX5_foresee_29 : decode cX5_foresee 29 = .ok (.if_icmp .eq 21, 3) := by decide +kernel
theorem dX5_foresee_32 : decode cX5_foresee 32 = .ok (.iload_n 2, 1) := by decide +kernel
theorem dX5_foresee_33 : decode cX5_foresee 33 = .ok (.bipush 9, 2) := by decide +kernel
theorem dX5_foresee_35 : decode cX5_foresee 35 = .ok (.if_icmp .eq 15, 3) := by decide +kernel
theorem dX5_foresee_38 : decode cX5_foresee 38 = .ok (.iload_n 2, 1) := by decide +kernel
theorem dX5_foresee_39 : decode cX5_foresee 39 = .ok (.bipush 10, 2) := by decide +kernel
theorem dX5_foresee_41 : decode cX5_foresee 41 = .ok (.if_icmp .eq 9, 3) := by decide +kernel
theorem dX5_foresee_44 : decode cX5_foresee 44 = .ok (.aload_n 0, 1) := by decide +kernel
theorem dX5_foresee_45 : decode cX5_foresee 45 = .ok (.iconst 2, 1) := by decide +kernel
theorem dX5_foresee_46 : decode cX5_foresee 46 = .ok (.invokevirtual 58, 3) := by decide +kernel
theorem dX5_foresee_49 : decode cX5_foresee 49 = .ok (.ireturn, 1) := by decide +kernel
theorem dX5_foresee_50 : decode cX5_foresee 50 = .ok (.aload_n 0, 1) := by decide +kernel
theorem dX5_foresee_51 : decode cX5_foresee 51 = .ok (.invokevirtual 81, 3) := by decide +kernel
theorem dX5_foresee_54 : decode cX5_foresee 54 = .ok (.aload_n 0, 1) := by decide +kernel
theorem dX5_foresee_55 : decode cX5_foresee 55 = .ok (.getfield 155, 3) := by decide +kernel
theorem dX5_foresee_58 : decode cX5_foresee 58 = .ok (.istore_n 3, 1) := by decide +kernel
theorem dX5_foresee_59 : decode cX5_foresee 59 = .ok (.iconst 0, 1) := by decide +kernel
theorem dX5_foresee_60 : decode cX5_foresee 60 = .ok (.istore 4, 2) := by decide +kernel
theorem dX5_foresee_62 : decode cX5_foresee 62 = .ok (.iload 4, 2) := by decide +kernel
theorem dX5_foresee_64 : decode cX5_foresee 64 = .ok (.iload_n 1, 1) := by decide +kernel
theorem dX5_foresee_65 : decode cX5_foresee 65 = .ok (.if_icmp .ge 35, 3) := by decide +kernel
theorem dX5_foresee_68 : decode cX5_foresee 68 = .ok (.iload_n 3, 1) := by decide +kernel
theorem dX5_foresee_69 : decode cX5_foresee 69 = .ok (.aload_n 0, 1) := by decide +kernel
theorem dX5_foresee_70 : decode cX5_foresee 70 = .ok (.aload_n 0, 1) := by decide +kernel
theorem dX5_foresee_71 : decode cX5_foresee 71 = .ok (.getfield 26, 3) := by decide +kernel
theorem dX5_foresee_74 : decode cX5_foresee 74 = .ok (.aload_n 0, 1) := by decide +kernel
theorem dX5_foresee_75 : decode cX5_foresee 75 = .ok (.getfield 29, 3) := by decide +kernel
theorem dX5_foresee_78 : decode cX5_foresee 78 = .ok (.aload_n 0, 1) := by decide +kernel
theorem dX5_foresee_79 : decode cX5_foresee 79 = .ok (.getfield 32, 3) := by decide +kernel
theorem dX5_foresee_82 : decode cX5_foresee 82 = .ok (.aload_n 0, 1) := by decide +kernel
theorem dX5_foresee_83 : decode cX5_foresee 83 = .ok (.getfield 148, 3) := by decide +kernel
theorem dX5_foresee_86 : decode cX5_foresee 86 = .ok (.iload 4, 2) := by decide +kernel
theorem dX5_foresee_88 : decode cX5_foresee 88 = .ok (.iadd, 1) := by decide +kernel
theorem dX5_foresee_89 : decode cX5_foresee 89 = .ok (.invokevirtual 151, 3) := by decide +kernel
theorem dX5_foresee_92 : decode cX5_foresee 92 = .ok (.iadd, 1) := by decide +kernel
theorem dX5_foresee_93 : decode cX5_foresee 93 = .ok (.istore_n 3, 1) := by decide +kernel
theorem dX5_foresee_94 : decode cX5_foresee 94 = .ok (.iinc 4 1, 3) := by decide +kernel
theorem dX5_foresee_97 : decode cX5_foresee 97 = .ok (.goto (-35), 3) := by decide +kernel
theorem dX5_foresee_100 : decode cX5_foresee 100 = .ok (.aload_n 0, 1) := by decide +kernel
theorem dX5_foresee_101 : decode cX5_foresee 101 = .ok (.aload_n 0, 1) := by decide +kernel
theorem dX5_foresee_102 : decode cX5_foresee 102 = .ok (.getfield 26, 3) := by decide +kernel
theorem dX5_foresee_105 : decode cX5_foresee 105 = .ok (.aload_n 0, 1) := by decide +kernel
theorem dX5_foresee_106 : decode cX5_foresee 106 = .ok (.getfield 32, 3) := by decide +kernel
theorem dX5_foresee_109 : decode cX5_foresee 109 = .ok (.iload_n 3, 1) := by decide +kernel
theorem dX5_foresee_110 : decode cX5_foresee 110 = .ok (.iload_n 2, 1) := by decide +kernel
theorem dX5_foresee_111 : decode cX5_foresee 111 = .ok (.invokevirtual 175, 3) := by decide +kernel
theorem dX5_foresee_114 : decode cX5_foresee 114 = .ok (.ireturn, 1) := by decide +kernel
set_option maxRecDepth 20000 in
theorem ggX5_mean_X5_sum : GoodIn wsX5_mean wsX5_sum := goodIn_r _ [8, 2, 9, 10, 11, 12, 13, 14, 15, 16, 17, 18, 19, 20, 21, 22] (by decide +kernel) (by decide +kernel)
set_option maxRecDepth 20000 in
theorem gX5_mean_X5_sum : GoodIn wsX5_mean (wsV RX5 168 RX5 yX5_sum wsX5_sum) := goodIn_app (goodIn_of _ (by decide +kernel)) ggX5_mean_X5_sum
theorem dX5_mean_0 : decode cX5_mean 0 = .ok (.aload_n 0, 1) := by decide +kernel
theorem dX5_mean_1 : decode cX5_mean 1 = .ok (.iconst 0, 1) := by decide +kernel
theorem dX5_mean_2 : decode cX5_mean 2 = .ok (.putfield 38, 3) := by decide +kernel
theorem dX5_mean_5 : decode cX5_mean 5 = .ok (.aload_n 0, 1) := by decide +kernel
theorem dX5_mean_6 : decode cX5_mean 6 = .ok (.getfield 41, 3) := by decide +kernel
theorem dX5_mean_9 : decode cX5_mean 9 = .ok (.ifCond .ne 7, 3) := by decide +kernel
theorem dX5_mean_12 : decode cX5_mean 12 = .ok (.dconst 0, 1) := by decide +kernel
theorem dX5_mean_13 : decode cX5_mean 13 = .ok (.goto 19, 3) := by decide +kernel
theorem dX5_mean_16 : decode cX5_mean 16 = .ok (.aload_n 0, 1) := by decide +kernel
theorem dX5_mean_17 : decode cX5_mean 17 = .ok (.aload_n 0, 1) := by decide +kernel
theorem dX5_mean_18 : decode cX5_mean 18 = .ok (.getfield 16, 3) := by decide +kernel
theorem dX5_mean_21 : decode cX5_mean 21 = .ok (.iconst 3, 1) := by decide +kernel
theorem dX5_mean_22 : decode cX5_mean 22 = .ok (.invokevirtual 168, 3) := by decide +kernel
theorem dX5_mean_25 : decode cX5_mean 25 = .ok (.i2d, 1) := by decide +kernel
theorem dX5_mean_26 : decode cX5_mean 26 = .ok (.aload_n 0, 1) := by decide +kernel
theorem dX5_mean_27 : decode cX5_mean 27 = .ok (.getfield 41, 3) := by decide +kernel
theorem dX5_mean_30 : decode cX5_mean 30 = .ok (.i2d, 1) := by decide +kernel
theorem dX5_mean_31 : decode cX5_mean 31 = .ok (.ddiv, 1) := by decide +kernel
theorem dX5_mean_32 : decode cX5_mean 32 = .ok (.dreturn, 1) := by decide +kernel
set_option maxRecDepth 20000 in
theorem ggX5_digest_X5_counted : GoodIn wsX5_digest wsX5_counted := goodIn_r _ [10, 11, 12, 13, 4, 14, 5, 15, 16, 17, 18, 19, 9, 20, 21, 22, 23, 24, 25, 26, 27, 28, 29, 30, 31, 32, 33, 34, 35, 36, 37, 38, 39, 40, 41, 72, 73, 74, 75, 76, 77, 78, 79, 80, 81, 82, 83, 84, 85] (by decide +kernel) (by decide +kernel)
set_option maxRecDepth 20000 in
theorem gX5_digest_X5_counted : GoodIn wsX5_digest (wsV RX5 179 RX5 yX5_counted wsX5_counted) := goodIn_app (goodIn_of _ (by decide +kernel)) ggX5_digest_X5_counted
set_option maxRecDepth 20000 in
theorem ggX5_digest_X5_bedTold : GoodIn wsX5_digest wsX5_bedTold := goodIn_r _ [45, 14, 38, 39, 9, 40, 41, 46, 47, 48, 72, 73, 74, 75, 76, 77, 78, 79, 80, 81, 82, 83, 84, 85] (by decide +kernel) (by decide +kernel)
set_option maxRecDepth 20000 in
theorem gX5_digest_X5_bedTold : GoodIn wsX5_digest (wsV RX5 78 RX5 yX5_bedTold wsX5_bedTold) := goodIn_app (goodIn_of _ (by decide +kernel)) ggX5_digest_X5_bedTold
set_option maxRecDepth 20000 in
theorem ggX5_digest_X5_bargeTold : GoodIn wsX5_digest wsX5_bargeTold := goodIn_r _ [52, 29, 53, 54, 9, 55, 56, 72, 73, 74, 75, 76, 77, 78, 79, 80, 81, 82, 83, 84, 85] (by decide +kernel) (by decide +kernel)
set_option maxRecDepth 20000 in
theorem gX5_digest_X5_bargeTold : GoodIn wsX5_digest (wsV RX5 125 RX5 yX5_bargeTold wsX5_bargeTold) := goodIn_app (goodIn_of _ (by decide +kernel)) ggX5_digest_X5_bargeTold
set_option maxRecDepth 20000 in
theorem ggX5_digest_X5_landingTold : GoodIn wsX5_digest wsX5_landingTold := goodIn_r _ [60, 56, 15, 61, 62, 9, 63, 64, 65, 66, 67, 68, 69, 70, 71, 72, 73, 74, 75, 76, 77, 78, 79, 80, 81, 82, 83, 84, 85] (by decide +kernel) (by decide +kernel)
set_option maxRecDepth 20000 in
theorem gX5_digest_X5_landingTold : GoodIn wsX5_digest (wsV RX5 128 RX5 yX5_landingTold wsX5_landingTold) := goodIn_app (goodIn_of _ (by decide +kernel)) ggX5_digest_X5_landingTold
theorem dX5_digest_0 : decode cX5_digest 0 = .ok (.aload_n 0, 1) := by decide +kernel
theorem dX5_digest_1 : decode cX5_digest 1 = .ok (.iconst 0, 1) := by decide +kernel
theorem dX5_digest_2 : decode cX5_digest 2 = .ok (.putfield 38, 3) := by decide +kernel
theorem dX5_digest_5 : decode cX5_digest 5 = .ok (.ldc2_w 182, 3) := by decide +kernel
theorem dX5_digest_8 : decode cX5_digest 8 = .ok (.lstore_n 1, 1) := by decide +kernel
theorem dX5_digest_9 : decode cX5_digest 9 = .ok (.iconst 0, 1) := by decide +kernel
theorem dX5_digest_10 : decode cX5_digest 10 = .ok (.istore_n 3, 1) := by decide +kernel
theorem dX5_digest_11 : decode cX5_digest 11 = .ok (.iload_n 3, 1) := by decide +kernel
theorem dX5_digest_12 : decode cX5_digest 12 = .ok (.bipush 11, 2) := by decide +kernel
theorem dX5_digest_14 : decode cX5_digest 14 = .ok (.if_icmp .ge 22, 3) := by decide +kernel
theorem dX5_digest_17 : decode cX5_digest 17 = .ok (.lload_n 1, 1) := by decide +kernel
theorem dX5_digest_18 : decode cX5_digest 18 = .ok (.ldc2_w 184, 3) := by decide +kernel
theorem dX5_digest_21 : decode cX5_digest 21 = .ok (.lmul, 1) := by decide +kernel
theorem dX5_digest_22 : decode cX5_digest 22 = .ok (.aload_n 0, 1) := by decide +kernel
theorem dX5_digest_23 : decode cX5_digest 23 = .ok (.iload_n 3, 1) := by decide +kernel
theorem dX5_digest_24 : decode cX5_digest 24 = .ok (.invokevirtual 179, 3) := by decide +kernel
theorem dX5_digest_27 : decode cX5_digest 27 = .ok (.i2l, 1) := by decide +kernel
theorem dX5_digest_28 : decode cX5_digest 28 = .ok (.ladd, 1) := by decide +kernel
theorem dX5_digest_29 : decode cX5_digest 29 = .ok (.lstore_n 1, 1) := by decide +kernel
theorem dX5_digest_30 : decode cX5_digest 30 = .ok (.iinc 3 1, 3) := by decide +kernel
theorem dX5_digest_33 : decode cX5_digest 33 = .ok (.goto (-22), 3) := by decide +kernel
theorem dX5_digest_36 : decode cX5_digest 36 = .ok (.iconst 0, 1) := by decide +kernel
theorem dX5_digest_37 : decode cX5_digest 37 = .ok (.istore_n 3, 1) := by decide +kernel
theorem dX5_digest_38 : decode cX5_digest 38 = .ok (.iload_n 3, 1) := by decide +kernel
theorem dX5_digest_39 : decode cX5_digest 39 = .ok (.bipush 10, 2) := by decide +kernel
theorem dX5_digest_41 : decode cX5_digest 41 = .ok (.aload_n 0, 1) := by decide +kernel
theorem dX5_digest_42 : decode cX5_digest 42 = .ok (.getfield 41, 3) := by decide +kernel
theorem dX5_digest_45 : decode cX5_digest 45 = .ok (.imul, 1) := by decide +kernel
theorem dX5_digest_46 : decode cX5_digest 46 = .ok (.if_icmp .ge 29, 3) := by decide +kernel
theorem dX5_digest_49 : decode cX5_digest 49 = .ok (.lload_n 1, 1) := by decide +kernel
theorem dX5_digest_50 : decode cX5_digest 50 = .ok (.ldc2_w 184, 3) := by decide +kernel
theorem dX5_digest_53 : decode cX5_digest 53 = .ok (.lmul, 1) := by decide +kernel
theorem dX5_digest_54 : decode cX5_digest 54 = .ok (.aload_n 0, 1) := by decide +kernel
theorem dX5_digest_55 : decode cX5_digest 55 = .ok (.iload_n 3, 1) := by decide +kernel
theorem dX5_digest_56 : decode cX5_digest 56 = .ok (.bipush 10, 2) := by decide +kernel
theorem dX5_digest_58 : decode cX5_digest 58 = .ok (.idiv, 1) := by decide +kernel
theorem dX5_digest_59 : decode cX5_digest 59 = .ok (.iload_n 3, 1) := by decide +kernel
theorem dX5_digest_60 : decode cX5_digest 60 = .ok (.bipush 10, 2) := by decide +kernel
theorem dX5_digest_62 : decode cX5_digest 62 = .ok (.irem, 1) := by decide +kernel
theorem dX5_digest_63 : decode cX5_digest 63 = .ok (.invokevirtual 78, 3) := by decide +kernel
theorem dX5_digest_66 : decode cX5_digest 66 = .ok (.i2l, 1) := by decide +kernel
theorem dX5_digest_67 : decode cX5_digest 67 = .ok (.ladd, 1) := by decide +kernel
theorem dX5_digest_68 : decode cX5_digest 68 = .ok (.lstore_n 1, 1) := by decide +kernel
theorem dX5_digest_69 : decode cX5_digest 69 = .ok (.iinc 3 1, 3) := by decide +kernel
theorem dX5_digest_72 : decode cX5_digest 72 = .ok (.goto (-34), 3) := by decide +kernel
theorem dX5_digest_75 : decode cX5_digest 75 = .ok (.iconst 0, 1) := by decide +kernel
theorem dX5_digest_76 : decode cX5_digest 76 = .ok (.istore_n 3, 1) := by decide +kernel
theorem dX5_digest_77 : decode cX5_digest 77 = .ok (.iload_n 3, 1) := by decide +kernel
theorem dX5_digest_78 : decode cX5_digest 78 = .ok (.bipush 6, 2) := by decide +kernel
theorem dX5_digest_80 : decode cX5_digest 80 = .ok (.aload_n 0, 1) := by decide +kernel
theorem dX5_digest_81 : decode cX5_digest 81 = .ok (.getfield 48, 3) := by decide +kernel
theorem dX5_digest_84 : decode cX5_digest 84 = .ok (.imul, 1) := by decide +kernel
theorem dX5_digest_85 : decode cX5_digest 85 = .ok (.if_icmp .ge 29, 3) := by decide +kernel
theorem dX5_digest_88 : decode cX5_digest 88 = .ok (.lload_n 1, 1) := by decide +kernel
theorem dX5_digest_89 : decode cX5_digest 89 = .ok (.ldc2_w 184, 3) := by decide +kernel
theorem dX5_digest_92 : decode cX5_digest 92 = .ok (.lmul, 1) := by decide +kernel
theorem dX5_digest_93 : decode cX5_digest 93 = .ok (.aload_n 0, 1) := by decide +kernel
theorem dX5_digest_94 : decode cX5_digest 94 = .ok (.iload_n 3, 1) := by decide +kernel
theorem dX5_digest_95 : decode cX5_digest 95 = .ok (.bipush 6, 2) := by decide +kernel
theorem dX5_digest_97 : decode cX5_digest 97 = .ok (.idiv, 1) := by decide +kernel
theorem dX5_digest_98 : decode cX5_digest 98 = .ok (.iload_n 3, 1) := by decide +kernel
theorem dX5_digest_99 : decode cX5_digest 99 = .ok (.bipush 6, 2) := by decide +kernel
theorem dX5_digest_101 : decode cX5_digest 101 = .ok (.irem, 1) := by decide +kernel
theorem dX5_digest_102 : decode cX5_digest 102 = .ok (.invokevirtual 125, 3) := by decide +kernel
theorem dX5_digest_105 : decode cX5_digest 105 = .ok (.i2l, 1) := by decide +kernel
theorem dX5_digest_106 : decode cX5_digest 106 = .ok (.ladd, 1) := by decide +kernel
theorem dX5_digest_107 : decode cX5_digest 107 = .ok (.lstore_n 1, 1) := by decide +kernel
theorem dX5_digest_108 : decode cX5_digest 108 = .ok (.iinc 3 1, 3) := by decide +kernel
theorem dX5_digest_111 : decode cX5_digest 111 = .ok (.goto (-34), 3) := by decide +kernel
theorem dX5_digest_114 : decode cX5_digest 114 = .ok (.iconst 0, 1) := by decide +kernel
theorem dX5_digest_115 : decode cX5_digest 115 = .ok (.istore_n 3, 1) := by decide +kernel
theorem dX5_digest_116 : decode cX5_digest 116 = .ok (.iload_n 3, 1) := by decide +kernel
theorem dX5_digest_117 : decode cX5_digest 117 = .ok (.bipush 12, 2) := by decide +kernel
theorem dX5_digest_119 : decode cX5_digest 119 = .ok (.if_icmp .ge 27, 3) := by decide +kernel
theorem dX5_digest_122 : decode cX5_digest 122 = .ok (.lload_n 1, 1) := by decide +kernel
theorem dX5_digest_123 : decode cX5_digest 123 = .ok (.ldc2_w 184, 3) := by decide +kernel
theorem dX5_digest_126 : decode cX5_digest 126 = .ok (.lmul, 1) := by decide +kernel
theorem dX5_digest_127 : decode cX5_digest 127 = .ok (.aload_n 0, 1) := by decide +kernel
theorem dX5_digest_128 : decode cX5_digest 128 = .ok (.iload_n 3, 1) := by decide +kernel
theorem dX5_digest_129 : decode cX5_digest 129 = .ok (.iconst 4, 1) := by decide +kernel
theorem dX5_digest_130 : decode cX5_digest 130 = .ok (.idiv, 1) := by decide +kernel
theorem dX5_digest_131 : decode cX5_digest 131 = .ok (.iload_n 3, 1) := by decide +kernel
theorem dX5_digest_132 : decode cX5_digest 132 = .ok (.iconst 4, 1) := by decide +kernel
theorem dX5_digest_133 : decode cX5_digest 133 = .ok (.irem, 1) := by decide +kernel
theorem dX5_digest_134 : decode cX5_digest 134 = .ok (.invokevirtual 128, 3) := by decide +kernel
theorem dX5_digest_137 : decode cX5_digest 137 = .ok (.i2l, 1) := by decide +kernel
theorem dX5_digest_138 : decode cX5_digest 138 = .ok (.ladd, 1) := by decide +kernel
theorem dX5_digest_139 : decode cX5_digest 139 = .ok (.lstore_n 1, 1) := by decide +kernel
theorem dX5_digest_140 : decode cX5_digest 140 = .ok (.iinc 3 1, 3) := by decide +kernel
theorem dX5_digest_143 : decode cX5_digest 143 = .ok (.goto (-27), 3) := by decide +kernel
theorem dX5_digest_146 : decode cX5_digest 146 = .ok (.lload_n 1, 1) := by decide +kernel
theorem dX5_digest_147 : decode cX5_digest 147 = .ok (.lreturn, 1) := by decide +kernel
