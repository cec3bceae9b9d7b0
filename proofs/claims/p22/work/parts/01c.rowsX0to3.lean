theorem dX0_init_0 : decode cX0_init 0 = .ok (.aload_n 0, 1) := by decide +kernel
theorem dX0_init_1 : decode cX0_init 1 = .ok (.invokespecial 3, 3) := by decide +kernel
theorem dX0_init_4 : decode cX0_init 4 = .ok (.aload_n 0, 1) := by decide +kernel
theorem dX0_init_5 : decode cX0_init 5 = .ok (.iconst 3, 1) := by decide +kernel
theorem dX0_init_6 : decode cX0_init 6 = .ok (.newarray .int, 2) := by decide +kernel
theorem dX0_init_8 : decode cX0_init 8 = .ok (.putfield 9, 3) := by decide +kernel
theorem dX0_init_11 : decode cX0_init 11 = .ok (.aload_n 0, 1) := by decide +kernel
theorem dX0_init_12 : decode cX0_init 12 = .ok (.iconst 3, 1) := by decide +kernel
theorem dX0_init_13 : decode cX0_init 13 = .ok (.newarray .int, 2) := by decide +kernel
theorem dX0_init_15 : decode cX0_init 15 = .ok (.putfield 15, 3) := by decide +kernel
theorem dX0_init_18 : decode cX0_init 18 = .ok (.aload_n 0, 1) := by decide +kernel
theorem dX0_init_19 : decode cX0_init 19 = .ok (.iconst 3, 1) := by decide +kernel
theorem dX0_init_20 : decode cX0_init 20 = .ok (.newarray .int, 2) := by decide +kernel
theorem dX0_init_22 : decode cX0_init 22 = .ok (.putfield 18, 3) := by decide +kernel
theorem dX0_init_25 : decode cX0_init 25 = .ok (.aload_n 0, 1) := by decide +kernel
theorem dX0_init_26 : decode cX0_init 26 = .ok (.iconst 3, 1) := by decide +kernel
theorem dX0_init_27 : decode cX0_init 27 = .ok (.newarray .int, 2) := by decide +kernel
theorem dX0_init_29 : decode cX0_init 29 = .ok (.putfield 21, 3) := by decide +kernel
theorem dX0_init_32 : decode cX0_init 32 = .ok (.aload_n 0, 1) := by decide +kernel
theorem dX0_init_33 : decode cX0_init 33 = .ok (.iconst 3, 1) := by decide +kernel
theorem dX0_init_34 : decode cX0_init 34 = .ok (.newarray .int, 2) := by decide +kernel
theorem dX0_init_36 : decode cX0_init 36 = .ok (.putfield 24, 3) := by decide +kernel
theorem dX0_init_39 : decode cX0_init 39 = .ok (.return_, 1) := by decide +kernel
theorem dX0_areFull_0 : decode cX0_areFull 0 = .ok (.aload_n 0, 1) := by decide +kernel
theorem dX0_areFull_1 : decode cX0_areFull 1 = .ok (.getfield 27, 3) := by decide +kernel
theorem dX0_areFull_4 : decode cX0_areFull 4 = .ok (.iconst 3, 1) := by decide +kernel
theorem dX0_areFull_5 : decode cX0_areFull 5 = .ok (.if_icmp .lt 7, 3) := by decide +kernel
theorem dX0_areFull_8 : decode cX0_areFull 8 = .ok (.iconst 1, 1) := by decide +kernel
theorem dX0_areFull_9 : decode cX0_areFull 9 = .ok (.goto 4, 3) := by decide +kernel
theorem dX0_areFull_12 : decode cX0_areFull 12 = .ok (.iconst 0, 1) := by decide +kernel
theorem dX0_areFull_13 : decode cX0_areFull 13 = .ok (.ireturn, 1) := by decide +kernel
theorem dX0_add_0 : decode cX0_add 0 = .ok (.aload_n 0, 1) := by decide +kernel
theorem dX0_add_1 : decode cX0_add 1 = .ok (.getfield 27, 3) := by decide +kernel
theorem dX0_add_4 : decode cX0_add 4 = .ok (.istore_n 2, 1) := by decide +kernel
theorem dX0_add_5 : decode cX0_add 5 = .ok (.aload_n 0, 1) := by decide +kernel
theorem dX0_add_6 : decode cX0_add 6 = .ok (.getfield 9, 3) := by decide +kernel
theorem dX0_add_9 : decode cX0_add 9 = .ok (.iload_n 2, 1) := by decide +kernel
theorem dX0_add_10 : decode cX0_add 10 = .ok (.iload_n 1, 1) := by decide +kernel
theorem dX0_add_11 : decode cX0_add 11 = .ok (.iastore, 1) := by decide +kernel
theorem dX0_add_12 : decode cX0_add 12 = .ok (.aload_n 0, 1) := by decide +kernel
theorem dX0_add_13 : decode cX0_add 13 = .ok (.getfield 15, 3) := by decide +kernel
theorem dX0_add_16 : decode cX0_add 16 = .ok (.iload_n 2, 1) := by decide +kernel
theorem dX0_add_17 : decode cX0_add 17 = .ok (.iconst (-1), 1) := by decide +kernel
theorem dX0_add_18 : decode cX0_add 18 = .ok (.iastore, 1) := by decide +kernel
theorem dX0_add_19 : decode cX0_add 19 = .ok (.aload_n 0, 1) := by decide +kernel
theorem dX0_add_20 : decode cX0_add 20 = .ok (.dup, 1) := by decide +kernel
theorem dX0_add_21 : decode cX0_add 21 = .ok (.getfield 27, 3) := by decide +kernel
theorem dX0_add_24 : decode cX0_add 24 = .ok (.iconst 1, 1) := by decide +kernel
theorem dX0_add_25 : decode cX0_add 25 = .ok (.iadd, 1) := by decide +kernel
theorem dX0_add_26 : decode cX0_add 26 = .ok (.putfield 27, 3) := by decide +kernel
theorem dX0_add_29 : decode cX0_add 29 = .ok (.iload_n 2, 1) := by decide +kernel
theorem dX0_add_30 : decode cX0_add 30 = .ok (.ireturn, 1) := by decide +kernel
theorem dX0_copyFrom_0 : decode cX0_copyFrom 0 = .ok (.aload_n 0, 1) := by decide +kernel
theorem dX0_copyFrom_1 : decode cX0_copyFrom 1 = .ok (.aload_n 1, 1) := by decide +kernel
theorem dX0_copyFrom_2 : decode cX0_copyFrom 2 = .ok (.getfield 27, 3) := by decide +kernel
theorem dX0_copyFrom_5 : decode cX0_copyFrom 5 = .ok (.putfield 27, 3) := by decide +kernel
theorem dX0_copyFrom_8 : decode cX0_copyFrom 8 = .ok (.iconst 0, 1) := by decide +kernel
theorem dX0_copyFrom_9 : decode cX0_copyFrom 9 = .ok (.istore_n 2, 1) := by decide +kernel
theorem dX0_copyFrom_10 : decode cX0_copyFrom 10 = .ok (.iload_n 2, 1) := by decide +kernel
theorem dX0_copyFrom_11 : decode cX0_copyFrom 11 = .ok (.aload_n 0, 1) := by decide +kernel
theorem dX0_copyFrom_12 : decode cX0_copyFrom 12 = .ok (.getfield 27, 3) := by decide +kernel
theorem dX0_copyFrom_15 : decode cX0_copyFrom 15 = .ok (.if_icmp .ge 69, 3) := by decide +kernel
theorem dX0_copyFrom_18 : decode cX0_copyFrom 18 = .ok (.aload_n 0, 1) := by decide +kernel
theorem dX0_copyFrom_19 : decode cX0_copyFrom 19 = .ok (.getfield 9, 3) := by decide +kernel
theorem dX0_copyFrom_22 : decode cX0_copyFrom 22 = .ok (.iload_n 2, 1) := by decide +kernel
theorem dX0_copyFrom_23 : decode cX0_copyFrom 23 = .ok (.aload_n 1, 1) := by decide +kernel
theorem dX0_copyFrom_24 : decode cX0_copyFrom 24 = .ok (.getfield 9, 3) := by decide +kernel
theorem dX0_copyFrom_27 : decode cX0_copyFrom 27 = .ok (.iload_n 2, 1) := by decide +kernel
theorem dX0_copyFrom_28 : decode cX0_copyFrom 28 = .ok (.iaload, 1) := by decide +kernel
theorem dX0_copyFrom_29 : decode cX0_copyFrom 29 = .ok (.iastore, 1) := by decide +kernel
theorem dX0_copyFrom_30 : decode cX0_copyFrom 30 = .ok (.aload_n 0, 1) := by decide +kernel
theorem dX0_copyFrom_31 : decode cX0_copyFrom 31 = .ok (.getfield 15, 3) := by decide +kernel
theorem dX0_copyFrom_34 : decode cX0_copyFrom 34 = .ok (.iload_n 2, 1) := by decide +kernel
theorem dX0_copyFrom_35 : decode cX0_copyFrom 35 = .ok (.aload_n 1, 1) := by decide +kernel
theorem dX0_copyFrom_36 : decode cX0_copyFrom 36 = .ok (.getfield 15, 3) := by decide +kernel
theorem dX0_copyFrom_39 : decode cX0_copyFrom 39 = .ok (.iload_n 2, 1) := by decide +kernel
theorem dX0_copyFrom_40 : decode cX0_copyFrom 40 = .ok (.iaload, 1) := by decide +kernel
theorem dX0_copyFrom_41 : decode cX0_copyFrom 41 = .ok (.iastore, 1) := by decide +kernel
theorem dX0_copyFrom_42 : decode cX0_copyFrom 42 = .ok (.aload_n 0, 1) := by decide +kernel
theorem dX0_copyFrom_43 : decode cX0_copyFrom 43 = .ok (.getfield 18, 3) := by decide +kernel
theorem dX0_copyFrom_46 : decode cX0_copyFrom 46 = .ok (.iload_n 2, 1) := by decide +kernel
theorem dX0_copyFrom_47 : decode cX0_copyFrom 47 = .ok (.aload_n 1, 1) := by decide +kernel
theorem dX0_copyFrom_48 : decode cX0_copyFrom 48 = .ok (.getfield 18, 3) := by decide +kernel
theorem dX0_copyFrom_51 : decode cX0_copyFrom 51 = .ok (.iload_n 2, 1) := by decide +kernel
theorem dX0_copyFrom_52 : decode cX0_copyFrom 52 = .ok (.iaload, 1) := by decide +kernel
theorem dX0_copyFrom_53 : decode cX0_copyFrom 53 = .ok (.iastore, 1) := by decide +kernel
theorem dX0_copyFrom_54 : decode cX0_copyFrom 54 = .ok (.aload_n 0, 1) := by decide +kernel
theorem dX0_copyFrom_55 : decode cX0_copyFrom 55 = .ok (.getfield 21, 3) := by decide +kernel
theorem dX0_copyFrom_58 : decode cX0_copyFrom 58 = .ok (.iload_n 2, 1) := by decide +kernel
theorem dX0_copyFrom_59 : decode cX0_copyFrom 59 = .ok (.aload_n 1, 1) := by decide +kernel
theorem dX0_copyFrom_60 : decode cX0_copyFrom 60 = .ok (.getfield 21, 3) := by decide +kernel
theorem dX0_copyFrom_63 : decode cX0_copyFrom 63 = .ok (.iload_n 2, 1) := by decide +kernel
theorem dX0_copyFrom_64 : decode cX0_copyFrom 64 = .ok (.iaload, 1) := by decide +kernel
theorem dX0_copyFrom_65 : decode cX0_copyFrom 65 = .ok (.iastore, 1) := by decide +kernel
theorem dX0_copyFrom_66 : decode cX0_copyFrom 66 = .ok (.aload_n 0, 1) := by decide +kernel
theorem dX0_copyFrom_67 : decode cX0_copyFrom 67 = .ok (.getfield 24, 3) := by decide +kernel
theorem dX0_copyFrom_70 : decode cX0_copyFrom 70 = .ok (.iload_n 2, 1) := by decide +kernel
theorem dX0_copyFrom_71 : decode cX0_copyFrom 71 = .ok (.aload_n 1, 1) := by decide +kernel
theorem dX0_copyFrom_72 : decode cX0_copyFrom 72 = .ok (.getfield 24, 3) := by decide +kernel
theorem dX0_copyFrom_75 : decode cX0_copyFrom 75 = .ok (.iload_n 2, 1) := by decide +kernel
theorem dX0_copyFrom_76 : decode cX0_copyFrom 76 = .ok (.iaload, 1) := by decide +kernel
theorem dX0_copyFrom_77 : decode cX0_copyFrom 77 = .ok (.iastore, 1) := by decide +kernel
theorem dX0_copyFrom_78 : decode cX0_copyFrom 78 = .ok (.iinc 2 1, 3) := by decide +kernel
theorem dX0_copyFrom_81 : decode cX0_copyFrom 81 = .ok (.goto (-71), 3) := by decide +kernel
theorem dX0_copyFrom_84 : decode cX0_copyFrom 84 = .ok (.return_, 1) := by decide +kernel
theorem dX0_send_0 : decode cX0_send 0 = .ok (.iload_n 2, 1) := by decide +kernel
theorem dX0_send_1 : decode cX0_send 1 = .ok (.aload_n 0, 1) := by decide +kernel
theorem dX0_send_2 : decode cX0_send 2 = .ok (.getfield 9, 3) := by decide +kernel
theorem dX0_send_5 : decode cX0_send 5 = .ok (.iload_n 1, 1) := by decide +kernel
theorem dX0_send_6 : decode cX0_send 6 = .ok (.iaload, 1) := by decide +kernel
theorem dX0_send_7 : decode cX0_send 7 = .ok (.isub, 1) := by decide +kernel
theorem dX0_send_8 : decode cX0_send 8 = .ok (.invokestatic 31, 3) := by decide +kernel
theorem dX0_send_11 : decode cX0_send 11 = .ok (.istore_n 3, 1) := by decide +kernel
theorem dX0_send_12 : decode cX0_send 12 = .ok (.aload_n 0, 1) := by decide +kernel
theorem dX0_send_13 : decode cX0_send 13 = .ok (.getfield 15, 3) := by decide +kernel
theorem dX0_send_16 : decode cX0_send 16 = .ok (.iload_n 1, 1) := by decide +kernel
theorem dX0_send_17 : decode cX0_send 17 = .ok (.iload_n 3, 1) := by decide +kernel
theorem dX0_send_18 : decode cX0_send 18 = .ok (.ifCond .ne 7, 3) := by decide +kernel
theorem dX0_send_21 : decode cX0_send 21 = .ok (.iconst (-1), 1) := by decide +kernel
theorem dX0_send_22 : decode cX0_send 22 = .ok (.goto 4, 3) := by decide +kernel
theorem dX0_send_25 : decode cX0_send 25 = .ok (.iload_n 2, 1) := by decide +kernel
theorem dX0_send_26 : decode cX0_send 26 = .ok (.iastore, 1) := by decide +kernel
theorem dX0_send_27 : decode cX0_send 27 = .ok (.iload_n 3, 1) := by decide +kernel
theorem dX0_send_28 : decode cX0_send 28 = .ok (.iconst 5, 1) := by decide +kernel
theorem dX0_send_29 : decode cX0_send 29 = .ok (.iadd, 1) := by decide +kernel
theorem dX0_send_30 : decode cX0_send 30 = .ok (.iconst 1, 1) := by decide +kernel
theorem dX0_send_31 : decode cX0_send 31 = .ok (.isub, 1) := by decide +kernel
theorem dX0_send_32 : decode cX0_send 32 = .ok (.iconst 5, 1) := by decide +kernel
theorem dX0_send_33 : decode cX0_send 33 = .ok (.idiv, 1) := by decide +kernel
theorem dX0_send_34 : decode cX0_send 34 = .ok (.ireturn, 1) := by decide +kernel
theorem dX0_sailOn_0 : decode cX0_sailOn 0 = .ok (.iconst 0, 1) := by decide +kernel
theorem dX0_sailOn_1 : decode cX0_sailOn 1 = .ok (.istore_n 1, 1) := by decide +kernel
theorem dX0_sailOn_2 : decode cX0_sailOn 2 = .ok (.iload_n 1, 1) := by decide +kernel
theorem dX0_sailOn_3 : decode cX0_sailOn 3 = .ok (.aload_n 0, 1) := by decide +kernel
theorem dX0_sailOn_4 : decode cX0_sailOn 4 = .ok (.getfield 27, 3) := by decide +kernel
theorem dX0_sailOn_7 : decode cX0_sailOn 7 = .ok (.if_icmp .ge 74, 3) := by decide +kernel
theorem dX0_sailOn_10 : decode cX0_sailOn 10 = .ok (.aload_n 0, 1) := by decide +kernel
theorem dX0_sailOn_11 : decode cX0_sailOn 11 = .ok (.getfield 15, 3) := by decide +kernel
theorem dX0_sailOn_14 : decode cX0_sailOn 14 = .ok (.iload_n 1, 1) := by decide +kernel
theorem dX0_sailOn_15 : decode cX0_sailOn 15 = .ok (.iaload, 1) := by decide +kernel
theorem dX0_sailOn_16 : decode cX0_sailOn 16 = .ok (.iconst (-1), 1) := by decide +kernel
theorem dX0_sailOn_17 : decode cX0_sailOn 17 = .ok (.if_icmp .eq 58, 3) := by decide +kernel
theorem dX0_sailOn_20 : decode cX0_sailOn 20 = .ok (.aload_n 0, 1) := by decide +kernel
theorem dX0_sailOn_21 : decode cX0_sailOn 21 = .ok (.getfield 15, 3) := by decide +kernel
theorem dX0_sailOn_24 : decode cX0_sailOn 24 = .ok (.iload_n 1, 1) := by decide +kernel
theorem dX0_sailOn_25 : decode cX0_sailOn 25 = .ok (.iaload, 1) := by decide +kernel
theorem dX0_sailOn_26 : decode cX0_sailOn 26 = .ok (.aload_n 0, 1) := by decide +kernel
theorem dX0_sailOn_27 : decode cX0_sailOn 27 = .ok (.getfield 9, 3) := by decide +kernel
theorem dX0_sailOn_30 : decode cX0_sailOn 30 = .ok (.iload_n 1, 1) := by decide +kernel
theorem dX0_sailOn_31 : decode cX0_sailOn 31 = .ok (.iaload, 1) := by decide +kernel
theorem dX0_sailOn_32 : decode cX0_sailOn 32 = .ok (.isub, 1) := by decide +kernel
theorem dX0_sailOn_33 : decode cX0_sailOn 33 = .ok (.istore_n 2, 1) := by decide +kernel
theorem dX0_sailOn_34 : decode cX0_sailOn 34 = .ok (.aload_n 0, 1) := by decide +kernel
theorem dX0_sailOn_35 : decode cX0_sailOn 35 = .ok (.getfield 9, 3) := by decide +kernel
theorem dX0_sailOn_38 : decode cX0_sailOn 38 = .ok (.iload_n 1, 1) := by decide +kernel
theorem dX0_sailOn_39 : decode cX0_sailOn 39 = .ok (.dup2, 1) := by decide +kernel
theorem dX0_sailOn_40 : decode cX0_sailOn 40 = .ok (.iaload, 1) := by decide +kernel
theorem dX0_sailOn_41 : decode cX0_sailOn 41 = .ok (.bipush (-5), 2) := by decide +kernel
theorem dX0_sailOn_43 : decode cX0_sailOn 43 = .ok (.iconst 5, 1) := by decide +kernel
theorem dX0_sailOn_44 : decode cX0_sailOn 44 = .ok (.iload_n 2, 1) := by decide +kernel
theorem dX0_sailOn_45 : decode cX0_sailOn 45 = .ok (.invokestatic 37, 3) := by decide +kernel
theorem dX0_sailOn_48 : decode cX0_sailOn 48 = .ok (.invokestatic 41, 3) := by decide +kernel
theorem dX0_sailOn_51 : decode cX0_sailOn 51 = .ok (.iadd, 1) := by decide +kernel
theorem dX0_sailOn_52 : decode cX0_sailOn 52 = .ok (.iastore, 1) := by decide +kernel
theorem dX0_sailOn_53 : decode cX0_sailOn 53 = .ok (.aload_n 0, 1) := by decide +kernel
theorem dX0_sailOn_54 : decode cX0_sailOn 54 = .ok (.getfield 9, 3) := by decide +kernel
theorem dX0_sailOn_57 : decode cX0_sailOn 57 = .ok (.iload_n 1, 1) := by decide +kernel
theorem dX0_sailOn_58 : decode cX0_sailOn 58 = .ok (.iaload, 1) := by decide +kernel
theorem dX0_sailOn_59 : decode cX0_sailOn 59 = .ok (.aload_n 0, 1) := by decide +kernel
theorem dX0_sailOn_60 : decode cX0_sailOn 60 = .ok (.getfield 15, 3) := by decide +kernel
theorem dX0_sailOn_63 : decode cX0_sailOn 63 = .ok (.iload_n 1, 1) := by decide +kernel
theorem dX0_sailOn_64 : decode cX0_sailOn 64 = .ok (.iaload, 1) := by decide +kernel
theorem dX0_sailOn_65 : decode cX0_sailOn 65 = .ok (.if_icmp .ne 10, 3) := by decide +kernel
theorem dX0_sailOn_68 : decode cX0_sailOn 68 = .ok (.aload_n 0, 1) := by decide +kernel
theorem dX0_sailOn_69 : decode cX0_sailOn 69 = .ok (.getfield 15, 3) := by decide +kernel
theorem dX0_sailOn_72 : decode cX0_sailOn 72 = .ok (.iload_n 1, 1) := by decide +kernel
theorem dX0_sailOn_73 : decode cX0_sailOn 73 = .ok (.iconst (-1), 1) := by decide +kernel
theorem dX0_sailOn_74 : decode cX0_sailOn 74 = .ok (.iastore, 1) := by decide +kernel
theorem dX0_sailOn_75 : decode cX0_sailOn 75 = .ok (.iinc 1 1, 3) := by decide +kernel
theorem dX0_sailOn_78 : decode cX0_sailOn 78 = .ok (.goto (-76), 3) := by decide +kernel
theorem dX0_sailOn_81 : decode cX0_sailOn 81 = .ok (.return_, 1) := by decide +kernel
theorem dX0_aboard_0 : decode cX0_aboard 0 = .ok (.aload_n 0, 1) := by decide +kernel
theorem dX0_aboard_1 : decode cX0_aboard 1 = .ok (.getfield 18, 3) := by decide +kernel
theorem dX0_aboard_4 : decode cX0_aboard 4 = .ok (.iload_n 1, 1) := by decide +kernel
theorem dX0_aboard_5 : decode cX0_aboard 5 = .ok (.iaload, 1) := by decide +kernel
theorem dX0_aboard_6 : decode cX0_aboard 6 = .ok (.aload_n 0, 1) := by decide +kernel
theorem dX0_aboard_7 : decode cX0_aboard 7 = .ok (.getfield 21, 3) := by decide +kernel
theorem dX0_aboard_10 : decode cX0_aboard 10 = .ok (.iload_n 1, 1) := by decide +kernel
theorem dX0_aboard_11 : decode cX0_aboard 11 = .ok (.iaload, 1) := by decide +kernel
theorem dX0_aboard_12 : decode cX0_aboard 12 = .ok (.iadd, 1) := by decide +kernel
theorem dX0_aboard_13 : decode cX0_aboard 13 = .ok (.ireturn, 1) := by decide +kernel
set_option maxRecDepth 20000 in
theorem ggX0_tell_X4_landingAt : GoodIn wsX0_tell wsX4_landingAt := goodIn_r _ [8, 9] (by decide +kernel) (by decide +kernel)
set_option maxRecDepth 20000 in
theorem gX0_tell_X4_landingAt_n44 : GoodIn wsX0_tell (wsX4_landingAt) := ggX0_tell_X4_landingAt
theorem dX0_tell_0 : decode cX0_tell 0 = .ok (.iload_n 2, 1) := by decide +kernel
theorem dX0_tell_1 : decode cX0_tell 1 = .ok (.tableswitch 73 0 4 #[35, 42, 49, 56, 63], 35) := by decide +kernel
theorem dX0_tell_36 : decode cX0_tell 36 = .ok (.aload_n 0, 1) := by decide +kernel
theorem dX0_tell_37 : decode cX0_tell 37 = .ok (.getfield 9, 3) := by decide +kernel
theorem dX0_tell_40 : decode cX0_tell 40 = .ok (.iload_n 1, 1) := by decide +kernel
theorem dX0_tell_41 : decode cX0_tell 41 = .ok (.iaload, 1) := by decide +kernel
theorem dX0_tell_42 : decode cX0_tell 42 = .ok (.ireturn, 1) := by decide +kernel
theorem dX0_tell_43 : decode cX0_tell 43 = .ok (.aload_n 0, 1) := by decide +kernel
theorem dX0_tell_44 : decode cX0_tell 44 = .ok (.getfield 15, 3) := by decide +kernel
theorem dX0_tell_47 : decode cX0_tell 47 = .ok (.iload_n 1, 1) := by decide +kernel
theorem dX0_tell_48 : decode cX0_tell 48 = .ok (.iaload, 1) := by decide +kernel
theorem dX0_tell_49 : decode cX0_tell 49 = .ok (.ireturn, 1) := by decide +kernel
theorem dX0_tell_50 : decode cX0_tell 50 = .ok (.aload_n 0, 1) := by decide +kernel
theorem dX0_tell_51 : decode cX0_tell 51 = .ok (.getfield 18, 3) := by decide +kernel
theorem dX0_tell_54 : decode cX0_tell 54 = .ok (.iload_n 1, 1) := by decide +kernel
theorem dX0_tell_55 : decode cX0_tell 55 = .ok (.iaload, 1) := by decide +kernel
theorem dX0_tell_56 : decode cX0_tell 56 = .ok (.ireturn, 1) := by decide +kernel
theorem dX0_tell_57 : decode cX0_tell 57 = .ok (.aload_n 0, 1) := by decide +kernel
theorem dX0_tell_58 : decode cX0_tell 58 = .ok (.getfield 21, 3) := by decide +kernel
theorem dX0_tell_61 : decode cX0_tell 61 = .ok (.iload_n 1, 1) := by decide +kernel
theorem dX0_tell_62 : decode cX0_tell 62 = .ok (.iaload, 1) := by decide +kernel
theorem dX0_tell_63 : decode cX0_tell 63 = .ok (.ireturn, 1) := by decide +kernel
theorem dX0_tell_64 : decode cX0_tell 64 = .ok (.aload_n 0, 1) := by decide +kernel
theorem dX0_tell_65 : decode cX0_tell 65 = .ok (.getfield 9, 3) := by decide +kernel
theorem dX0_tell_68 : decode cX0_tell 68 = .ok (.iload_n 1, 1) := by decide +kernel
theorem dX0_tell_69 : decode cX0_tell 69 = .ok (.iaload, 1) := by decide +kernel
theorem dX0_tell_70 : decode cX0_tell 70 = .ok (.invokestatic 44, 3) := by decide +kernel
theorem dX0_tell_73 : decode cX0_tell 73 = .ok (.ireturn, 1) := by decide +kernel
theorem dX0_tell_74 : decode cX0_tell 74 = .ok (.aload_n 0, 1) := by decide +kernel
theorem dX0_tell_75 : decode cX0_tell 75 = .ok (.getfield 24, 3) := by decide +kernel
theorem dX0_tell_78 : decode cX0_tell 78 = .ok (.iload_n 1, 1) := by decide +kernel
theorem dX0_tell_79 : decode cX0_tell 79 = .ok (.iaload, 1) := by decide +kernel
theorem dX0_tell_80 : decode cX0_tell 80 = .ok (.ireturn, 1) := by decide +kernel
set_option maxRecDepth 20000 in
theorem ggX0_aboardAll_X0_aboard : GoodIn wsX0_aboardAll wsX0_aboard := goodIn_r _ [6, 7, 8, 9, 10, 11, 12, 13, 14] (by decide +kernel) (by decide +kernel)
set_option maxRecDepth 20000 in
theorem gX0_aboardAll_X0_aboard : GoodIn wsX0_aboardAll (wsV RX0 47 RX0 yX0_aboard wsX0_aboard) := goodIn_app (goodIn_of _ (by decide +kernel)) ggX0_aboardAll_X0_aboard
theorem dX0_aboardAll_0 : decode cX0_aboardAll 0 = .ok (.iconst 0, 1) := by decide +kernel
theorem dX0_aboardAll_1 : decode cX0_aboardAll 1 = .ok (.istore_n 1, 1) := by decide +kernel
theorem dX0_aboardAll_2 : decode cX0_aboardAll 2 = .ok (.iconst 0, 1) := by decide +kernel
theorem dX0_aboardAll_3 : decode cX0_aboardAll 3 = .ok (.istore_n 2, 1) := by decide +kernel
theorem dX0_aboardAll_4 : decode cX0_aboardAll 4 = .ok (.iload_n 2, 1) := by decide +kernel
theorem dX0_aboardAll_5 : decode cX0_aboardAll 5 = .ok (.aload_n 0, 1) := by decide +kernel
theorem dX0_aboardAll_6 : decode cX0_aboardAll 6 = .ok (.getfield 27, 3) := by decide +kernel
theorem dX0_aboardAll_9 : decode cX0_aboardAll 9 = .ok (.if_icmp .ge 17, 3) := by decide +kernel
theorem dX0_aboardAll_12 : decode cX0_aboardAll 12 = .ok (.iload_n 1, 1) := by decide +kernel
theorem dX0_aboardAll_13 : decode cX0_aboardAll 13 = .ok (.aload_n 0, 1) := by decide +kernel
theorem dX0_aboardAll_14 : decode cX0_aboardAll 14 = .ok (.iload_n 2, 1) := by decide +kernel
theorem dX0_aboardAll_15 : decode cX0_aboardAll 15 = .ok (.invokevirtual 47, 3) := by decide +kernel
theorem dX0_aboardAll_18 : decode cX0_aboardAll 18 = .ok (.iadd, 1) := by decide +kernel
theorem dX0_aboardAll_19 : decode cX0_aboardAll 19 = .ok (.istore_n 1, 1) := by decide +kernel
theorem dX0_aboardAll_20 : decode cX0_aboardAll 20 = .ok (.iinc 2 1, 3) := by decide +kernel
theorem dX0_aboardAll_23 : decode cX0_aboardAll 23 = .ok (.goto (-19), 3) := by decide +kernel
theorem dX0_aboardAll_26 : decode cX0_aboardAll 26 = .ok (.iload_n 1, 1) := by decide +kernel
theorem dX0_aboardAll_27 : decode cX0_aboardAll 27 = .ok (.ireturn, 1) := by decide +kernel
theorem dX1_init_0 : decode cX1_init 0 = .ok (.aload_n 0, 1) := by decide +kernel
theorem dX1_init_1 : decode cX1_init 1 = .ok (.invokespecial 3, 3) := by decide +kernel
theorem dX1_init_4 : decode cX1_init 4 = .ok (.aload_n 0, 1) := by decide +kernel
theorem dX1_init_5 : decode cX1_init 5 = .ok (.bipush 8, 2) := by decide +kernel
theorem dX1_init_7 : decode cX1_init 7 = .ok (.newarray .int, 2) := by decide +kernel
theorem dX1_init_9 : decode cX1_init 9 = .ok (.putfield 9, 3) := by decide +kernel
theorem dX1_init_12 : decode cX1_init 12 = .ok (.aload_n 0, 1) := by decide +kernel
theorem dX1_init_13 : decode cX1_init 13 = .ok (.bipush 8, 2) := by decide +kernel
theorem dX1_init_15 : decode cX1_init 15 = .ok (.newarray .int, 2) := by decide +kernel
theorem dX1_init_17 : decode cX1_init 17 = .ok (.putfield 15, 3) := by decide +kernel
theorem dX1_init_20 : decode cX1_init 20 = .ok (.aload_n 0, 1) := by decide +kernel
theorem dX1_init_21 : decode cX1_init 21 = .ok (.bipush 8, 2) := by decide +kernel
theorem dX1_init_23 : decode cX1_init 23 = .ok (.newarray .int, 2) := by decide +kernel
theorem dX1_init_25 : decode cX1_init 25 = .ok (.putfield 18, 3) := by decide +kernel
theorem dX1_init_28 : decode cX1_init 28 = .ok (.aload_n 0, 1) := by decide +kernel
theorem dX1_init_29 : decode cX1_init 29 = .ok (.bipush 8, 2) := by decide +kernel
theorem dX1_init_31 : decode cX1_init 31 = .ok (.newarray .int, 2) := by decide +kernel
theorem dX1_init_33 : decode cX1_init 33 = .ok (.putfield 21, 3) := by decide +kernel
theorem dX1_init_36 : decode cX1_init 36 = .ok (.aload_n 0, 1) := by decide +kernel
theorem dX1_init_37 : decode cX1_init 37 = .ok (.bipush 8, 2) := by decide +kernel
theorem dX1_init_39 : decode cX1_init 39 = .ok (.newarray .int, 2) := by decide +kernel
theorem dX1_init_41 : decode cX1_init 41 = .ok (.putfield 24, 3) := by decide +kernel
theorem dX1_init_44 : decode cX1_init 44 = .ok (.aload_n 0, 1) := by decide +kernel
theorem dX1_init_45 : decode cX1_init 45 = .ok (.bipush 8, 2) := by decide +kernel
theorem dX1_init_47 : decode cX1_init 47 = .ok (.newarray .int, 2) := by decide +kernel
theorem dX1_init_49 : decode cX1_init 49 = .ok (.putfield 27, 3) := by decide +kernel
theorem dX1_init_52 : decode cX1_init 52 = .ok (.aload_n 0, 1) := by decide +kernel
theorem dX1_init_53 : decode cX1_init 53 = .ok (.bipush 8, 2) := by decide +kernel
theorem dX1_init_55 : decode cX1_init 55 = .ok (.newarray .int, 2) := by decide +kernel
theorem dX1_init_57 : decode cX1_init 57 = .ok (.putfield 30, 3) := by decide +kernel
theorem dX1_init_60 : decode cX1_init 60 = .ok (.aload_n 0, 1) := by decide +kernel
theorem dX1_init_61 : decode cX1_init 61 = .ok (.bipush 8, 2) := by decide +kernel
theorem dX1_init_63 : decode cX1_init 63 = .ok (.newarray .int, 2) := by decide +kernel
theorem dX1_init_65 : decode cX1_init 65 = .ok (.putfield 33, 3) := by decide +kernel
theorem dX1_init_68 : decode cX1_init 68 = .ok (.aload_n 0, 1) := by decide +kernel
theorem dX1_init_69 : decode cX1_init 69 = .ok (.bipush 8, 2) := by decide +kernel
theorem dX1_init_71 : decode cX1_init 71 = .ok (.newarray .int, 2) := by decide +kernel
theorem dX1_init_73 : decode cX1_init 73 = .ok (.putfield 36, 3) := by decide +kernel
theorem dX1_init_76 : decode cX1_init 76 = .ok (.return_, 1) := by decide +kernel
theorem dX1_areFull_0 : decode cX1_areFull 0 = .ok (.aload_n 0, 1) := by decide +kernel
theorem dX1_areFull_1 : decode cX1_areFull 1 = .ok (.getfield 39, 3) := by decide +kernel
theorem dX1_areFull_4 : decode cX1_areFull 4 = .ok (.bipush 8, 2) := by decide +kernel
theorem dX1_areFull_6 : decode cX1_areFull 6 = .ok (.if_icmp .lt 7, 3) := by decide +kernel
theorem dX1_areFull_9 : decode cX1_areFull 9 = .ok (.iconst 1, 1) := by decide +kernel
theorem dX1_areFull_10 : decode cX1_areFull 10 = .ok (.goto 4, 3) := by decide +kernel
theorem dX1_areFull_13 : decode cX1_areFull 13 = .ok (.iconst 0, 1) := by decide +kernel
theorem dX1_areFull_14 : decode cX1_areFull 14 = .ok (.ireturn, 1) := by decide +kernel
theorem dX1_add_0 : decode cX1_add 0 = .ok (.aload_n 0, 1) := by decide +kernel
theorem dX1_add_1 : decode cX1_add 1 = .ok (.getfield 39, 3) := by decide +kernel
theorem dX1_add_4 : decode cX1_add 4 = .ok (.istore 4, 2) := by decide +kernel
theorem dX1_add_6 : decode cX1_add 6 = .ok (.aload_n 0, 1) := by decide +kernel
theorem dX1_add_7 : decode cX1_add 7 = .ok (.getfield 9, 3) := by decide +kernel
theorem dX1_add_10 : decode cX1_add 10 = .ok (.iload 4, 2) := by decide +kernel
theorem dX1_add_12 : decode cX1_add 12 = .ok (.iload_n 1, 1) := by decide +kernel
theorem dX1_add_13 : decode cX1_add 13 = .ok (.iastore, 1) := by decide +kernel
theorem dX1_add_14 : decode cX1_add 14 = .ok (.aload_n 0, 1) := by decide +kernel
theorem dX1_add_15 : decode cX1_add 15 = .ok (.getfield 15, 3) := by decide +kernel
theorem dX1_add_18 : decode cX1_add 18 = .ok (.iload 4, 2) := by decide +kernel
theorem dX1_add_20 : decode cX1_add 20 = .ok (.iload_n 2, 1) := by decide +kernel
theorem dX1_add_21 : decode cX1_add 21 = .ok (.iastore, 1) := by decide +kernel
theorem dX1_add_22 : decode cX1_add 22 = .ok (.aload_n 0, 1) := by decide +kernel
theorem dX1_add_23 : decode cX1_add 23 = .ok (.getfield 18, 3) := by decide +kernel
theorem dX1_add_26 : decode cX1_add 26 = .ok (.iload 4, 2) := by decide +kernel
theorem dX1_add_28 : decode cX1_add 28 = .ok (.iconst 3, 1) := by decide +kernel
theorem dX1_add_29 : decode cX1_add 29 = .ok (.iastore, 1) := by decide +kernel
theorem dX1_add_30 : decode cX1_add 30 = .ok (.aload_n 0, 1) := by decide +kernel
theorem dX1_add_31 : decode cX1_add 31 = .ok (.getfield 21, 3) := by decide +kernel
theorem dX1_add_34 : decode cX1_add 34 = .ok (.iload 4, 2) := by decide +kernel
theorem dX1_add_36 : decode cX1_add 36 = .ok (.iload_n 3, 1) := by decide +kernel
theorem dX1_add_37 : decode cX1_add 37 = .ok (.iastore, 1) := by decide +kernel
theorem dX1_add_38 : decode cX1_add 38 = .ok (.aload_n 0, 1) := by decide +kernel
theorem dX1_add_39 : decode cX1_add 39 = .ok (.dup, 1) := by decide +kernel
theorem dX1_add_40 : decode cX1_add 40 = .ok (.getfield 39, 3) := by decide +kernel
theorem dX1_add_43 : decode cX1_add 43 = .ok (.iconst 1, 1) := by decide +kernel
theorem dX1_add_44 : decode cX1_add 44 = .ok (.iadd, 1) := by decide +kernel
theorem dX1_add_45 : decode cX1_add 45 = .ok (.putfield 39, 3) := by decide +kernel
theorem dX1_add_48 : decode cX1_add 48 = .ok (.iload 4, 2) := by decide +kernel
theorem dX1_add_50 : decode cX1_add 50 = .ok (.ireturn, 1) := by decide +kernel
theorem dX1_copyFrom_0 : decode cX1_copyFrom 0 = .ok (.aload_n 0, 1) := by decide +kernel
theorem dX1_copyFrom_1 : decode cX1_copyFrom 1 = .ok (.aload_n 1, 1) := by decide +kernel
theorem dX1_copyFrom_2 : decode cX1_copyFrom 2 = .ok (.getfield 39, 3) := by decide +kernel
theorem dX1_copyFrom_5 : decode cX1_copyFrom 5 = .ok (.putfield 39, 3) := by decide +kernel
theorem dX1_copyFrom_8 : decode cX1_copyFrom 8 = .ok (.iconst 0, 1) := by decide +kernel
theorem dX1_copyFrom_9 : decode cX1_copyFrom 9 = .ok (.istore_n 2, 1) := by decide +kernel
theorem dX1_copyFrom_10 : decode cX1_copyFrom 10 = .ok (.iload_n 2, 1) := by decide +kernel
theorem dX1_copyFrom_11 : decode cX1_copyFrom 11 = .ok (.aload_n 0, 1) := by decide +kernel
theorem dX1_copyFrom_12 : decode cX1_copyFrom 12 = .ok (.getfield 39, 3) := by decide +kernel
theorem dX1_copyFrom_15 : decode cX1_copyFrom 15 = .ok (.if_icmp .ge 105, 3) := by decide +kernel
theorem dX1_copyFrom_18 : decode cX1_copyFrom 18 = .ok (.aload_n 0, 1) := by decide +kernel
theorem dX1_copyFrom_19 : decode cX1_copyFrom 19 = .ok (.getfield 9, 3) := by decide +kernel
theorem dX1_copyFrom_22 : decode cX1_copyFrom 22 = .ok (.iload_n 2, 1) := by decide +kernel
theorem dX1_copyFrom_23 : decode cX1_copyFrom 23 = .ok (.aload_n 1, 1) := by decide +kernel
theorem dX1_copyFrom_24 : decode cX1_copyFrom 24 = .ok (.getfield 9, 3) := by decide +kernel
theorem dX1_copyFrom_27 : decode cX1_copyFrom 27 = .ok (.iload_n 2, 1) := by decide +kernel
theorem dX1_copyFrom_28 : decode cX1_copyFrom 28 = .ok (.iaload, 1) := by decide +kernel
theorem dX1_copyFrom_29 : decode cX1_copyFrom 29 = .ok (.iastore, 1) := by decide +kernel
theorem dX1_copyFrom_30 : decode cX1_copyFrom 30 = .ok (.aload_n 0, 1) := by decide +kernel
theorem dX1_copyFrom_31 : decode cX1_copyFrom 31 = .ok (.getfield 15, 3) := by decide +kernel
theorem dX1_copyFrom_34 : decode cX1_copyFrom 34 = .ok (.iload_n 2, 1) := by decide +kernel
theorem dX1_copyFrom_35 : decode cX1_copyFrom 35 = .ok (.aload_n 1, 1) := by decide +kernel
theorem dX1_copyFrom_36 : decode cX1_copyFrom 36 = .ok (.getfield 15, 3) := by decide +kernel
theorem dX1_copyFrom_39 : decode cX1_copyFrom 39 = .ok (.iload_n 2, 1) := by decide +kernel
theorem dX1_copyFrom_40 : decode cX1_copyFrom 40 = .ok (.iaload, 1) := by decide +kernel
theorem dX1_copyFrom_41 : decode cX1_copyFrom 41 = .ok (.iastore, 1) := by decide +kernel
theorem dX1_copyFrom_42 : decode cX1_copyFrom 42 = .ok (.aload_n 0, 1) := by decide +kernel
theorem dX1_copyFrom_43 : decode cX1_copyFrom 43 = .ok (.getfield 18, 3) := by decide +kernel
theorem dX1_copyFrom_46 : decode cX1_copyFrom 46 = .ok (.iload_n 2, 1) := by decide +kernel
theorem dX1_copyFrom_47 : decode cX1_copyFrom 47 = .ok (.aload_n 1, 1) := by decide +kernel
theorem dX1_copyFrom_48 : decode cX1_copyFrom 48 = .ok (.getfield 18, 3) := by decide +kernel
theorem dX1_copyFrom_51 : decode cX1_copyFrom 51 = .ok (.iload_n 2, 1) := by decide +kernel
theorem dX1_copyFrom_52 : decode cX1_copyFrom 52 = .ok (.iaload, 1) := by decide +kernel
theorem dX1_copyFrom_53 : decode cX1_copyFrom 53 = .ok (.iastore, 1) := by decide +kernel
theorem dX1_copyFrom_54 : decode cX1_copyFrom 54 = .ok (.aload_n 0, 1) := by decide +kernel
theorem dX1_copyFrom_55 : decode cX1_copyFrom 55 = .ok (.getfield 21, 3) := by decide +kernel
theorem dX1_copyFrom_58 : decode cX1_copyFrom 58 = .ok (.iload_n 2, 1) := by decide +kernel
theorem dX1_copyFrom_59 : decode cX1_copyFrom 59 = .ok (.aload_n 1, 1) := by decide +kernel
theorem dX1_copyFrom_60 : decode cX1_copyFrom 60 = .ok (.getfield 21, 3) := by decide +kernel
theorem dX1_copyFrom_63 : decode cX1_copyFrom 63 = .ok (.iload_n 2, 1) := by decide +kernel
theorem dX1_copyFrom_64 : decode cX1_copyFrom 64 = .ok (.iaload, 1) := by decide +kernel
theorem dX1_copyFrom_65 : decode cX1_copyFrom 65 = .ok (.iastore, 1) := by decide +kernel
theorem dX1_copyFrom_66 : decode cX1_copyFrom 66 = .ok (.aload_n 0, 1) := by decide +kernel
theorem dX1_copyFrom_67 : decode cX1_copyFrom 67 = .ok (.getfield 24, 3) := by decide +kernel
theorem dX1_copyFrom_70 : decode cX1_copyFrom 70 = .ok (.iload_n 2, 1) := by decide +kernel
theorem dX1_copyFrom_71 : decode cX1_copyFrom 71 = .ok (.aload_n 1, 1) := by decide +kernel
theorem dX1_copyFrom_72 : decode cX1_copyFrom 72 = .ok (.getfield 24, 3) := by decide +kernel
theorem dX1_copyFrom_75 : decode cX1_copyFrom 75 = .ok (.iload_n 2, 1) := by decide +kernel
theorem dX1_copyFrom_76 : decode cX1_copyFrom 76 = .ok (.iaload, 1) := by decide +kernel
theorem dX1_copyFrom_77 : decode cX1_copyFrom 77 = .ok (.iastore, 1) := by decide +kernel
theorem dX1_copyFrom_78 : decode cX1_copyFrom 78 = .ok (.aload_n 0, 1) := by decide +kernel
theorem dX1_copyFrom_79 : decode cX1_copyFrom 79 = .ok (.getfield 27, 3) := by decide +kernel
theorem dX1_copyFrom_82 : decode cX1_copyFrom 82 = .ok (.iload_n 2, 1) := by decide +kernel
theorem dX1_copyFrom_83 : decode cX1_copyFrom 83 = .ok (.aload_n 1, 1) := by decide +kernel
theorem dX1_copyFrom_84 : decode cX1_copyFrom 84 = .ok (.getfield 27, 3) := by decide +kernel
theorem dX1_copyFrom_87 : decode cX1_copyFrom 87 = .ok (.iload_n 2, 1) := by decide +kernel
theorem dX1_copyFrom_88 : decode cX1_copyFrom 88 = .ok (.iaload, 1) := by decide +kernel
theorem dX1_copyFrom_89 : decode cX1_copyFrom 89 = .ok (.iastore, 1) := by decide +kernel
theorem dX1_copyFrom_90 : decode cX1_copyFrom 90 = .ok (.aload_n 0, 1) := by decide +kernel
theorem dX1_copyFrom_91 : decode cX1_copyFrom 91 = .ok (.getfield 30, 3) := by decide +kernel
theorem dX1_copyFrom_94 : decode cX1_copyFrom 94 = .ok (.iload_n 2, 1) := by decide +kernel
theorem dX1_copyFrom_95 : decode cX1_copyFrom 95 = .ok (.aload_n 1, 1) := by decide +kernel
theorem dX1_copyFrom_96 : decode cX1_copyFrom 96 = .ok (.getfield 30, 3) := by decide +kernel
theorem dX1_copyFrom_99 : decode cX1_copyFrom 99 = .ok (.iload_n 2, 1) := by decide +kernel
theorem dX1_copyFrom_100 : decode cX1_copyFrom 100 = .ok (.iaload, 1) := by decide +kernel
theorem dX1_copyFrom_101 : decode cX1_copyFrom 101 = .ok (.iastore, 1) := by decide +kernel
theorem dX1_copyFrom_102 : decode cX1_copyFrom 102 = .ok (.aload_n 0, 1) := by decide +kernel
theorem dX1_copyFrom_103 : decode cX1_copyFrom 103 = .ok (.getfield 33, 3) := by decide +kernel
theorem dX1_copyFrom_106 : decode cX1_copyFrom 106 = .ok (.iload_n 2, 1) := by decide +kernel
theorem dX1_copyFrom_107 : decode cX1_copyFrom 107 = .ok (.aload_n 1, 1) := by decide +kernel
theorem dX1_copyFrom_108 : decode cX1_copyFrom 108 = .ok (.getfield 33, 3) := by decide +kernel
theorem dX1_copyFrom_111 : decode cX1_copyFrom 111 = .ok (.iload_n 2, 1) := by decide +kernel
theorem dX1_copyFrom_112 : decode cX1_copyFrom 112 = .ok (.iaload, 1) := by decide +kernel
theorem dX1_copyFrom_113 : decode cX1_copyFrom 113 = .ok (.iastore, 1) := by decide +kernel
theorem dX1_copyFrom_114 : decode cX1_copyFrom 114 = .ok (.iinc 2 1, 3) := by decide +kernel
theorem dX1_copyFrom_117 : decode cX1_copyFrom 117 = .ok (.goto (-107), 3) := by decide +kernel
theorem dX1_copyFrom_120 : decode cX1_copyFrom 120 = .ok (.return_, 1) := by decide +kernel
theorem dX1_given_0 : decode cX1_given 0 = .ok (.aload_n 0, 1) := by decide +kernel
theorem dX1_given_1 : decode cX1_given 1 = .ok (.getfield 18, 3) := by decide +kernel
theorem dX1_given_4 : decode cX1_given 4 = .ok (.iload_n 1, 1) := by decide +kernel
theorem dX1_given_5 : decode cX1_given 5 = .ok (.iaload, 1) := by decide +kernel
theorem dX1_given_6 : decode cX1_given 6 = .ok (.istore_n 2, 1) := by decide +kernel
theorem dX1_given_7 : decode cX1_given 7 = .ok (.iload_n 2, 1) := by decide +kernel
theorem dX1_given_8 : decode cX1_given 8 = .ok (.ifCond .lt 19, 3) := by decide +kernel
theorem dX1_given_11 : decode cX1_given 11 = .ok (.iload_n 2, 1) := by decide +kernel
theorem dX1_given_12 : decode cX1_given 12 = .ok (.getstatic 43, 3) := by decide +kernel
theorem dX1_given_15 : decode cX1_given 15 = .ok (.arraylength, 1) := by decide +kernel
theorem dX1_given_16 : decode cX1_given 16 = .ok (.if_icmp .ge 11, 3) := by decide +kernel
theorem dX1_given_19 : decode cX1_given 19 = .ok (.getstatic 43, 3) := by decide +kernel
theorem dX1_given_22 : decode cX1_given 22 = .ok (.iload_n 2, 1) := by decide +kernel
theorem dX1_given_23 : decode cX1_given 23 = .ok (.iaload, 1) := by decide +kernel
theorem dX1_given_24 : decode cX1_given 24 = .ok (.goto 4, 3) := by decide +kernel
theorem dX1_given_27 : decode cX1_given 27 = .ok (.iconst 0, 1) := by decide +kernel
theorem dX1_given_28 : decode cX1_given 28 = .ok (.istore_n 3, 1) := by decide +kernel
theorem dX1_given_29 : decode cX1_given 29 = .ok (.iconst 3, 1) := by decide +kernel
theorem dX1_given_30 : decode cX1_given 30 = .ok (.aload_n 0, 1) := by decide +kernel
theorem dX1_given_31 : decode cX1_given 31 = .ok (.getfield 15, 3) := by decide +kernel
theorem dX1_given_34 : decode cX1_given 34 = .ok (.iload_n 1, 1) := by decide +kernel
theorem dX1_given_35 : decode cX1_given 35 = .ok (.iaload, 1) := by decide +kernel
theorem dX1_given_36 : decode cX1_given 36 = .ok (.imul, 1) := by decide +kernel
theorem dX1_given_37 : decode cX1_given 37 = .ok (.iload_n 3, 1) := by decide +kernel
theorem dX1_given_38 : decode cX1_given 38 = .ok (.imul, 1) := by decide +kernel
theorem dX1_given_39 : decode cX1_given 39 = .ok (.ireturn, 1) := by decide +kernel
set_option maxRecDepth 20000 in
theorem ggX1_sedgeGiven_X1_given : GoodIn wsX1_sedgeGiven wsX1_given := goodIn_r _ [6, 7, 8, 9, 10, 11, 12, 13, 14, 15, 16, 17, 18] (by decide +kernel) (by decide +kernel)
set_option maxRecDepth 20000 in
theorem gX1_sedgeGiven_X1_given : GoodIn wsX1_sedgeGiven (wsV RX1 46 RX1 yX1_given wsX1_given) := goodIn_app (goodIn_of _ (by decide +kernel)) ggX1_sedgeGiven_X1_given
theorem dX1_sedgeGiven_0 : decode cX1_sedgeGiven 0 = .ok (.aload_n 0, 1) := by decide +kernel
theorem dX1_sedgeGiven_1 : decode cX1_sedgeGiven 1 = .ok (.iload_n 1, 1) := by decide +kernel
theorem dX1_sedgeGiven_2 : decode cX1_sedgeGiven 2 = .ok (.invokevirtual 46, 3) := by decide +kernel
theorem dX1_sedgeGiven_5 : decode cX1_sedgeGiven 5 = .ok (.aload_n 0, 1) := by decide +kernel
theorem dX1_sedgeGiven_6 : decode cX1_sedgeGiven 6 = .ok (.getfield 21, 3) := by decide +kernel
theorem dX1_sedgeGiven_9 : decode cX1_sedgeGiven 9 = .ok (.iload_n 1, 1) := by decide +kernel
theorem dX1_sedgeGiven_10 : decode cX1_sedgeGiven 10 = .ok (.iaload, 1) := by decide +kernel
theorem dX1_sedgeGiven_11 : decode cX1_sedgeGiven 11 = .ok (.imul, 1) := by decide +kernel
theorem dX1_sedgeGiven_12 : decode cX1_sedgeGiven 12 = .ok (.bipush 100, 2) := by decide +kernel
theorem dX1_sedgeGiven_14 : decode cX1_sedgeGiven 14 = .ok (.idiv, 1) := by decide +kernel
theorem dX1_sedgeGiven_15 : decode cX1_sedgeGiven 15 = .ok (.ireturn, 1) := by decide +kernel
set_option maxRecDepth 20000 in
theorem ggX1_cutDown_X1_given : GoodIn wsX1_cutDown wsX1_given := goodIn_r _ [8, 3, 9, 15, 16, 17, 18, 19, 20, 21, 22, 23, 24] (by decide +kernel) (by decide +kernel)
set_option maxRecDepth 20000 in
theorem gX1_cutDown_X1_given : GoodIn wsX1_cutDown (wsV RX1 46 RX1 yX1_given wsX1_given) := goodIn_app (goodIn_of _ (by decide +kernel)) ggX1_cutDown_X1_given
set_option maxRecDepth 20000 in
theorem ggX1_cutDown_X1_sedgeGiven : GoodIn wsX1_cutDown wsX1_sedgeGiven := goodIn_r _ [13, 14, 4, 5, 6, 7, 8, 3, 9, 15, 16, 17, 18, 19, 20, 21, 22, 23, 24] (by decide +kernel) (by decide +kernel)
set_option maxRecDepth 20000 in
theorem gX1_cutDown_X1_sedgeGiven : GoodIn wsX1_cutDown (wsV RX1 50 RX1 yX1_sedgeGiven wsX1_sedgeGiven) := goodIn_app (goodIn_of _ (by decide +kernel)) ggX1_cutDown_X1_sedgeGiven
theorem dX1_cutDown_0 : decode cX1_cutDown 0 = .ok (.aload_n 0, 1) := by decide +kernel
theorem dX1_cutDown_1 : decode cX1_cutDown 1 = .ok (.iload_n 1, 1) := by decide +kernel
theorem dX1_cutDown_2 : decode cX1_cutDown 2 = .ok (.invokevirtual 46, 3) := by decide +kernel
theorem dX1_cutDown_5 : decode cX1_cutDown 5 = .ok (.istore_n 2, 1) := by decide +kernel
theorem dX1_cutDown_6 : decode cX1_cutDown 6 = .ok (.aload_n 0, 1) := by decide +kernel
theorem dX1_cutDown_7 : decode cX1_cutDown 7 = .ok (.iload_n 1, 1) := by decide +kernel
theorem dX1_cutDown_8 : decode cX1_cutDown 8 = .ok (.invokevirtual 50, 3) := by decide +kernel
theorem dX1_cutDown_11 : decode cX1_cutDown 11 = .ok (.istore_n 3, 1) := by decide +kernel
theorem dX1_cutDown_12 : decode cX1_cutDown 12 = .ok (.aload_n 0, 1) := by decide +kernel
theorem dX1_cutDown_13 : decode cX1_cutDown 13 = .ok (.getfield 24, 3) := by decide +kernel
theorem dX1_cutDown_16 : decode cX1_cutDown 16 = .ok (.iload_n 1, 1) := by decide +kernel
theorem dX1_cutDown_17 : decode cX1_cutDown 17 = .ok (.dup2, 1) := by decide +kernel
theorem dX1_cutDown_18 : decode cX1_cutDown 18 = .ok (.iaload, 1) := by decide +kernel
theorem dX1_cutDown_19 : decode cX1_cutDown 19 = .ok (.iload_n 3, 1) := by decide +kernel
theorem dX1_cutDown_20 : decode cX1_cutDown 20 = .ok (.iadd, 1) := by decide +kernel
theorem dX1_cutDown_21 : decode cX1_cutDown 21 = .ok (.iastore, 1) := by decide +kernel
theorem dX1_cutDown_22 : decode cX1_cutDown 22 = .ok (.aload_n 0, 1) := by decide +kernel
theorem dX1_cutDown_23 : decode cX1_cutDown 23 = .ok (.getfield 27, 3) := by decide +kernel
theorem dX1_cutDown_26 : decode cX1_cutDown 26 = .ok (.iload_n 1, 1) := by decide +kernel
theorem dX1_cutDown_27 : decode cX1_cutDown 27 = .ok (.dup2, 1) := by decide +kernel
theorem dX1_cutDown_28 : decode cX1_cutDown 28 = .ok (.iaload, 1) := by decide +kernel
theorem dX1_cutDown_29 : decode cX1_cutDown 29 = .ok (.iload_n 2, 1) := by decide +kernel
theorem dX1_cutDown_30 : decode cX1_cutDown 30 = .ok (.iload_n 3, 1) := by decide +kernel
theorem dX1_cutDown_31 : decode cX1_cutDown 31 = .ok (.isub, 1) := by decide +kernel
theorem dX1_cutDown_32 : decode cX1_cutDown 32 = .ok (.iadd, 1) := by decide +kernel
theorem dX1_cutDown_33 : decode cX1_cutDown 33 = .ok (.iastore, 1) := by decide +kernel
theorem dX1_cutDown_34 : decode cX1_cutDown 34 = .ok (.aload_n 0, 1) := by decide +kernel
theorem dX1_cutDown_35 : decode cX1_cutDown 35 = .ok (.getfield 18, 3) := by decide +kernel
theorem dX1_cutDown_38 : decode cX1_cutDown 38 = .ok (.iload_n 1, 1) := by decide +kernel
theorem dX1_cutDown_39 : decode cX1_cutDown 39 = .ok (.iconst 0, 1) := by decide +kernel
theorem dX1_cutDown_40 : decode cX1_cutDown 40 = .ok (.iastore, 1) := by decide +kernel
theorem dX1_cutDown_41 : decode cX1_cutDown 41 = .ok (.iload_n 2, 1) := by decide +kernel
theorem dX1_cutDown_42 : decode cX1_cutDown 42 = .ok (.ireturn, 1) := by decide +kernel
theorem dX1_tieUp_0 : decode cX1_tieUp 0 = .ok (.aload_n 0, 1) := by decide +kernel
theorem dX1_tieUp_1 : decode cX1_tieUp 1 = .ok (.getfield 24, 3) := by decide +kernel
theorem dX1_tieUp_4 : decode cX1_tieUp 4 = .ok (.iload_n 1, 1) := by decide +kernel
theorem dX1_tieUp_5 : decode cX1_tieUp 5 = .ok (.iaload, 1) := by decide +kernel
theorem dX1_tieUp_6 : decode cX1_tieUp 6 = .ok (.iload_n 2, 1) := by decide +kernel
theorem dX1_tieUp_7 : decode cX1_tieUp 7 = .ok (.invokestatic 53, 3) := by decide +kernel
theorem dX1_tieUp_10 : decode cX1_tieUp 10 = .ok (.istore_n 3, 1) := by decide +kernel
theorem dX1_tieUp_11 : decode cX1_tieUp 11 = .ok (.aload_n 0, 1) := by decide +kernel
theorem dX1_tieUp_12 : decode cX1_tieUp 12 = .ok (.getfield 27, 3) := by decide +kernel
theorem dX1_tieUp_15 : decode cX1_tieUp 15 = .ok (.iload_n 1, 1) := by decide +kernel
theorem dX1_tieUp_16 : decode cX1_tieUp 16 = .ok (.iaload, 1) := by decide +kernel
theorem dX1_tieUp_17 : decode cX1_tieUp 17 = .ok (.iload_n 2, 1) := by decide +kernel
theorem dX1_tieUp_18 : decode cX1_tieUp 18 = .ok (.iload_n 3, 1) := by decide +kernel
theorem dX1_tieUp_19 : decode cX1_tieUp 19 = .ok (.isub, 1) := by decide +kernel
theorem dX1_tieUp_20 : decode cX1_tieUp 20 = .ok (.invokestatic 53, 3) := by decide +kernel
theorem dX1_tieUp_23 : decode cX1_tieUp 23 = .ok (.istore 4, 2) := by decide +kernel
theorem dX1_tieUp_25 : decode cX1_tieUp 25 = .ok (.aload_n 0, 1) := by decide +kernel
theorem dX1_tieUp_26 : decode cX1_tieUp 26 = .ok (.getfield 24, 3) := by decide +kernel
theorem dX1_tieUp_29 : decode cX1_tieUp 29 = .ok (.iload_n 1, 1) := by decide +kernel
theorem dX1_tieUp_30 : decode cX1_tieUp 30 = .ok (.dup2, 1) := by decide +kernel
theorem dX1_tieUp_31 : decode cX1_tieUp 31 = .ok (.iaload, 1) := by decide +kernel
theorem dX1_tieUp_32 : decode cX1_tieUp 32 = .ok (.iload_n 3, 1) := by decide +kernel
theorem dX1_tieUp_33 : decode cX1_tieUp 33 = .ok (.isub, 1) := by decide +kernel
theorem dX1_tieUp_34 : decode cX1_tieUp 34 = .ok (.iastore, 1) := by decide +kernel
theorem dX1_tieUp_35 : decode cX1_tieUp 35 = .ok (.aload_n 0, 1) := by decide +kernel
theorem dX1_tieUp_36 : decode cX1_tieUp 36 = .ok (.getfield 27, 3) := by decide +kernel
theorem dX1_tieUp_39 : decode cX1_tieUp 39 = .ok (.iload_n 1, 1) := by decide +kernel
theorem dX1_tieUp_40 : decode cX1_tieUp 40 = .ok (.dup2, 1) := by decide +kernel
theorem dX1_tieUp_41 : decode cX1_tieUp 41 = .ok (.iaload, 1) := by decide +kernel
theorem dX1_tieUp_42 : decode cX1_tieUp 42 = .ok (.iload 4, 2) := by decide +kernel
theorem dX1_tieUp_44 : decode cX1_tieUp 44 = .ok (.isub, 1) := by decide +kernel
theorem dX1_tieUp_45 : decode cX1_tieUp 45 = .ok (.iastore, 1) := by decide +kernel
theorem dX1_tieUp_46 : decode cX1_tieUp 46 = .ok (.aload_n 0, 1) := by decide +kernel
theorem dX1_tieUp_47 : decode cX1_tieUp 47 = .ok (.getfield 30, 3) := by decide +kernel
theorem dX1_tieUp_50 : decode cX1_tieUp 50 = .ok (.iload_n 1, 1) := by decide +kernel
theorem dX1_tieUp_51 : decode cX1_tieUp 51 = .ok (.dup2, 1) := by decide +kernel
theorem dX1_tieUp_52 : decode cX1_tieUp 52 = .ok (.iaload, 1) := by decide +kernel
theorem dX1_tieUp_53 : decode cX1_tieUp 53 = .ok (.iload_n 3, 1) := by decide +kernel
theorem dX1_tieUp_54 : decode cX1_tieUp 54 = .ok (.iadd, 1) := by decide +kernel
theorem dX1_tieUp_55 : decode cX1_tieUp 55 = .ok (.iastore, 1) := by decide +kernel
theorem dX1_tieUp_56 : decode cX1_tieUp 56 = .ok (.aload_n 0, 1) := by decide +kernel
theorem dX1_tieUp_57 : decode cX1_tieUp 57 = .ok (.getfield 33, 3) := by decide +kernel
theorem dX1_tieUp_60 : decode cX1_tieUp 60 = .ok (.iload_n 1, 1) := by decide +kernel
theorem dX1_tieUp_61 : decode cX1_tieUp 61 = .ok (.dup2, 1) := by decide +kernel
theorem dX1_tieUp_62 : decode cX1_tieUp 62 = .ok (.iaload, 1) := by decide +kernel
theorem dX1_tieUp_63 : decode cX1_tieUp 63 = .ok (.iload 4, 2) := by decide +kernel
theorem dX1_tieUp_65 : decode cX1_tieUp 65 = .ok (.iadd, 1) := by decide +kernel
theorem dX1_tieUp_66 : decode cX1_tieUp 66 = .ok (.iastore, 1) := by decide +kernel
theorem dX1_tieUp_67 : decode cX1_tieUp 67 = .ok (.iload_n 3, 1) := by decide +kernel
theorem dX1_tieUp_68 : decode cX1_tieUp 68 = .ok (.iload 4, 2) := by decide +kernel
theorem dX1_tieUp_70 : decode cX1_tieUp 70 = .ok (.iadd, 1) := by decide +kernel
theorem dX1_tieUp_71 : decode cX1_tieUp 71 = .ok (.ireturn, 1) := by decide +kernel
set_option maxRecDepth 20000 in
theorem ggX1_rot_X4_tenthRoundedUp : GoodIn wsX1_rot wsX4_tenthRoundedUp := goodIn_r _ [6] (by decide +kernel) (by decide +kernel)
set_option maxRecDepth 20000 in
theorem gX1_rot_X4_tenthRoundedUp_n59 : GoodIn wsX1_rot (wsX4_tenthRoundedUp) := ggX1_rot_X4_tenthRoundedUp
theorem dX1_rot_0 : decode cX1_rot 0 = .ok (.iconst 0, 1) := by decide +kernel
theorem dX1_rot_1 : decode cX1_rot 1 = .ok (.istore_n 1, 1) := by decide +kernel
theorem dX1_rot_2 : decode cX1_rot 2 = .ok (.iconst 0, 1) := by decide +kernel
theorem dX1_rot_3 : decode cX1_rot 3 = .ok (.istore_n 2, 1) := by decide +kernel
theorem dX1_rot_4 : decode cX1_rot 4 = .ok (.iload_n 2, 1) := by decide +kernel
theorem dX1_rot_5 : decode cX1_rot 5 = .ok (.aload_n 0, 1) := by decide +kernel
theorem dX1_rot_6 : decode cX1_rot 6 = .ok (.getfield 39, 3) := by decide +kernel
theorem dX1_rot_9 : decode cX1_rot 9 = .ok (.if_icmp .ge 58, 3) := by decide +kernel
theorem dX1_rot_12 : decode cX1_rot 12 = .ok (.aload_n 0, 1) := by decide +kernel
theorem dX1_rot_13 : decode cX1_rot 13 = .ok (.getfield 24, 3) := by decide +kernel
theorem dX1_rot_16 : decode cX1_rot 16 = .ok (.iload_n 2, 1) := by decide +kernel
theorem dX1_rot_17 : decode cX1_rot 17 = .ok (.iaload, 1) := by decide +kernel
theorem dX1_rot_18 : decode cX1_rot 18 = .ok (.invokestatic 59, 3) := by decide +kernel
theorem dX1_rot_21 : decode cX1_rot 21 = .ok (.istore_n 3, 1) := by decide +kernel
theorem dX1_rot_22 : decode cX1_rot 22 = .ok (.aload_n 0, 1) := by decide +kernel
theorem dX1_rot_23 : decode cX1_rot 23 = .ok (.getfield 27, 3) := by decide +kernel
theorem dX1_rot_26 : decode cX1_rot 26 = .ok (.iload_n 2, 1) := by decide +kernel
theorem dX1_rot_27 : decode cX1_rot 27 = .ok (.iaload, 1) := by decide +kernel
theorem dX1_rot_28 : decode cX1_rot 28 = .ok (.invokestatic 59, 3) := by decide +kernel
theorem dX1_rot_31 : decode cX1_rot 31 = .ok (.istore 4, 2) := by decide +kernel
theorem dX1_rot_33 : decode cX1_rot 33 = .ok (.aload_n 0, 1) := by decide +kernel
theorem dX1_rot_34 : decode cX1_rot 34 = .ok (.getfield 24, 3) := by decide +kernel
theorem dX1_rot_37 : decode cX1_rot 37 = .ok (.iload_n 2, 1) := by decide +kernel
theorem dX1_rot_38 : decode cX1_rot 38 = .ok (.dup2, 1) := by decide +kernel
theorem dX1_rot_39 : decode cX1_rot 39 = .ok (.iaload, 1) := by decide +kernel
theorem dX1_rot_40 : decode cX1_rot 40 = .ok (.iload_n 3, 1) := by decide +kernel
theorem dX1_rot_41 : decode cX1_rot 41 = .ok (.isub, 1) := by decide +kernel
theorem dX1_rot_42 : decode cX1_rot 42 = .ok (.iastore, 1) := by decide +kernel
theorem dX1_rot_43 : decode cX1_rot 43 = .ok (.aload_n 0, 1) := by decide +kernel
theorem dX1_rot_44 : decode cX1_rot 44 = .ok (.getfield 27, 3) := by decide +kernel
theorem dX1_rot_47 : decode cX1_rot 47 = .ok (.iload_n 2, 1) := by decide +kernel
theorem dX1_rot_48 : decode cX1_rot 48 = .ok (.dup2, 1) := by decide +kernel
theorem dX1_rot_49 : decode cX1_rot 49 = .ok (.iaload, 1) := by decide +kernel
theorem dX1_rot_50 : decode cX1_rot 50 = .ok (.iload 4, 2) := by decide +kernel
theorem dX1_rot_52 : decode cX1_rot 52 = .ok (.isub, 1) := by decide +kernel
theorem dX1_rot_53 : decode cX1_rot 53 = .ok (.iastore, 1) := by decide +kernel
theorem dX1_rot_54 : decode cX1_rot 54 = .ok (.iload_n 1, 1) := by decide +kernel
theorem dX1_rot_55 : decode cX1_rot 55 = .ok (.iload_n 3, 1) := by decide +kernel
theorem dX1_rot_56 : decode cX1_rot 56 = .ok (.iload 4, 2) := by decide +kernel
theorem dX1_rot_58 : decode cX1_rot 58 = .ok (.iadd, 1) := by decide +kernel
theorem dX1_rot_59 : decode cX1_rot 59 = .ok (.iadd, 1) := by decide +kernel
theorem dX1_rot_60 : decode cX1_rot 60 = .ok (.istore_n 1, 1) := by decide +kernel
theorem dX1_rot_61 : decode cX1_rot 61 = .ok (.iinc 2 1, 3) := by decide +kernel
theorem dX1_rot_64 : decode cX1_rot 64 = .ok (.goto (-60), 3) := by decide +kernel
theorem dX1_rot_67 : decode cX1_rot 67 = .ok (.iload_n 1, 1) := by decide +kernel
theorem dX1_rot_68 : decode cX1_rot 68 = .ok (.ireturn, 1) := by decide +kernel
set_option maxRecDepth 20000 in
theorem ggX1_endYear_X1_changeByAge : GoodIn wsX1_endYear wsX1_changeByAge := goodIn_r _ [15] (by decide +kernel) (by decide +kernel)
set_option maxRecDepth 20000 in
theorem gX1_endYear_X1_changeByAge : GoodIn wsX1_endYear (va_wsS RX1 62 yX1_changeByAge wsX1_changeByAge) := goodIn_app (goodIn_of _ (by decide +kernel)) ggX1_endYear_X1_changeByAge
set_option maxRecDepth 20000 in
theorem ggX1_endYear_X1_isCreptInto : GoodIn wsX1_endYear wsX1_isCreptInto := goodIn_r _ [19, 1, 20, 21, 22, 7, 23, 4, 24, 25, 26, 27, 28, 29, 30, 31, 32, 33] (by decide +kernel) (by decide +kernel)
set_option maxRecDepth 20000 in
theorem gX1_endYear_X1_isCreptInto : GoodIn wsX1_endYear (wsV RX1 65 RX1 yX1_isCreptInto wsX1_isCreptInto) := goodIn_app (goodIn_of _ (by decide +kernel)) ggX1_endYear_X1_isCreptInto
theorem dX1_endYear_0 : decode cX1_endYear 0 = .ok (.iconst 0, 1) := by decide +kernel
theorem dX1_endYear_1 : decode cX1_endYear 1 = .ok (.istore_n 1, 1) := by decide +kernel
theorem dX1_endYear_2 : decode cX1_endYear 2 = .ok (.iload_n 1, 1) := by decide +kernel
theorem dX1_endYear_3 : decode cX1_endYear 3 = .ok (.aload_n 0, 1) := by decide +kernel
theorem dX1_endYear_4 : decode cX1_endYear 4 = .ok (.getfield 39, 3) := by decide +kernel
theorem dX1_endYear_7 : decode cX1_endYear 7 = .ok (.if_icmp .ge 38, 3) := by decide +kernel
theorem dX1_endYear_10 : decode cX1_endYear 10 = .ok (.aload_n 0, 1) := by decide +kernel
theorem dX1_endYear_11 : decode cX1_endYear 11 = .ok (.getfield 36, 3) := by decide +kernel
theorem dX1_endYear_14 : decode cX1_endYear 14 = .ok (.iload_n 1, 1) := by decide +kernel
theorem dX1_endYear_15 : decode cX1_endYear 15 = .ok (.aload_n 0, 1) := by decide +kernel
theorem dX1_endYear_16 : decode cX1_endYear 16 = .ok (.getfield 18, 3) := by decide +kernel
theorem dX1_endYear_19 : decode cX1_endYear 19 = .ok (.iload_n 1, 1) := by decide +kernel
theorem dX1_endYear_20 : decode cX1_endYear 20 = .ok (.iaload, 1) := by decide +kernel
theorem dX1_endYear_21 : decode cX1_endYear 21 = .ok (.invokestatic 62, 3) := by decide +kernel
theorem dX1_endYear_24 : decode cX1_endYear 24 = .ok (.aload_n 0, 1) := by decide +kernel
theorem dX1_endYear_25 : decode cX1_endYear 25 = .ok (.iload_n 1, 1) := by decide +kernel
theorem dX1_endYear_26 : decode cX1_endYear 26 = .ok (.invokevirtual 65, 3) := by decide +kernel
theorem dX1_endYear_29 : decode cX1_endYear 29 = .ok (.ifCond .eq 7, 3) := by decide +kernel
theorem dX1_endYear_32 : decode cX1_endYear 32 = .ok (.iconst 3, 1) := by decide +kernel
theorem dX1_endYear_33 : decode cX1_endYear 33 = .ok (.goto 4, 3) := by decide +kernel
theorem dX1_endYear_36 : decode cX1_endYear 36 = .ok (.iconst 0, 1) := by decide +kernel
theorem dX1_endYear_37 : decode cX1_endYear 37 = .ok (.isub, 1) := by decide +kernel
theorem dX1_endYear_38 : decode cX1_endYear 38 = .ok (.iastore, 1) := by decide +kernel
theorem dX1_endYear_39 : decode cX1_endYear 39 = .ok (.iinc 1 1, 3) := by decide +kernel
theorem dX1_endYear_42 : decode cX1_endYear 42 = .ok (.goto (-40), 3) := by decide +kernel
theorem dX1_endYear_45 : decode cX1_endYear 45 = .ok (.iconst 0, 1) := by decide +kernel
theorem dX1_endYear_46 : decode cX1_endYear 46 = .ok (.istore_n 1, 1) := by decide +kernel
theorem dX1_endYear_47 : decode cX1_endYear 47 = .ok (.iload_n 1, 1) := by decide +kernel
theorem dX1_endYear_48 : decode cX1_endYear 48 = .ok (.aload_n 0, 1) := by decide +kernel
theorem dX1_endYear_49 : decode cX1_endYear 49 = .ok (.getfield 39, 3) := by decide +kernel
theorem dX1_endYear_52 : decode cX1_endYear 52 = .ok (.if_icmp .ge 56, 3) := by decide +kernel
theorem dX1_endYear_55 : decode cX1_endYear 55 = .ok (.aload_n 0, 1) := by decide +kernel
theorem dX1_endYear_56 : decode cX1_endYear 56 = .ok (.getfield 21, 3) := by decide +kernel
theorem dX1_endYear_59 : decode cX1_endYear 59 = .ok (.iload_n 1, 1) := by decide +kernel
theorem dX1_endYear_60 : decode cX1_endYear 60 = .ok (.iconst 0, 1) := by decide +kernel
theorem dX1_endYear_61 : decode cX1_endYear 61 = .ok (.bipush 100, 2) := by decide +kernel
theorem dX1_endYear_63 : decode cX1_endYear 63 = .ok (.aload_n 0, 1) := by decide +kernel
theorem dX1_endYear_64 : decode cX1_endYear 64 = .ok (.getfield 21, 3) := by decide +kernel
theorem dX1_endYear_67 : decode cX1_endYear 67 = .ok (.iload_n 1, 1) := by decide +kernel
theorem dX1_endYear_68 : decode cX1_endYear 68 = .ok (.iaload, 1) := by decide +kernel
theorem dX1_endYear_69 : decode cX1_endYear 69 = .ok (.aload_n 0, 1) := by decide +kernel
theorem dX1_endYear_70 : decode cX1_endYear 70 = .ok (.getfield 36, 3) := by decide +kernel
theorem dX1_endYear_73 : decode cX1_endYear 73 = .ok (.iload_n 1, 1) := by decide +kernel
theorem dX1_endYear_74 : decode cX1_endYear 74 = .ok (.iaload, 1) := by decide +kernel
theorem dX1_endYear_75 : decode cX1_endYear 75 = .ok (.iadd, 1) := by decide +kernel
theorem dX1_endYear_76 : decode cX1_endYear 76 = .ok (.invokestatic 53, 3) := by decide +kernel
theorem dX1_endYear_79 : decode cX1_endYear 79 = .ok (.invokestatic 69, 3) := by decide +kernel
theorem dX1_endYear_82 : decode cX1_endYear 82 = .ok (.iastore, 1) := by decide +kernel
theorem dX1_endYear_83 : decode cX1_endYear 83 = .ok (.aload_n 0, 1) := by decide +kernel
theorem dX1_endYear_84 : decode cX1_endYear 84 = .ok (.getfield 18, 3) := by decide +kernel
theorem dX1_endYear_87 : decode cX1_endYear 87 = .ok (.iload_n 1, 1) := by decide +kernel
theorem dX1_endYear_88 : decode cX1_endYear 88 = .ok (.bipush 9, 2) := by decide +kernel
theorem dX1_endYear_90 : decode cX1_endYear 90 = .ok (.aload_n 0, 1) := by decide +kernel
theorem dX1_endYear_91 : decode cX1_endYear 91 = .ok (.getfield 18, 3) := by decide +kernel
theorem dX1_endYear_94 : decode cX1_endYear 94 = .ok (.iload_n 1, 1) := by decide +kernel
theorem dX1_endYear_95 : decode cX1_endYear 95 = .ok (.iaload, 1) := by decide +kernel
theorem dX1_endYear_96 : decode cX1_endYear 96 = .ok (.iconst 1, 1) := by decide +kernel
theorem dX1_endYear_97 : decode cX1_endYear 97 = .ok (.iadd, 1) := by decide +kernel
theorem dX1_endYear_98 : decode cX1_endYear 98 = .ok (.invokestatic 53, 3) := by decide +kernel
theorem dX1_endYear_101 : decode cX1_endYear 101 = .ok (.iastore, 1) := by decide +kernel
theorem dX1_endYear_102 : decode cX1_endYear 102 = .ok (.iinc 1 1, 3) := by decide +kernel
theorem dX1_endYear_105 : decode cX1_endYear 105 = .ok (.goto (-58), 3) := by decide +kernel
theorem dX1_endYear_108 : decode cX1_endYear 108 = .ok (.return_, 1) := by decide +kernel
theorem dX1_changeByAge_0 : decode cX1_changeByAge 0 = .ok (.iload_n 0, 1) := by decide +kernel
theorem dX1_changeByAge_1 : decode cX1_changeByAge 1 = .ok (.bipush 6, 2) := by decide +kernel
theorem dX1_changeByAge_3 : decode cX1_changeByAge 3 = .ok (.if_icmp .lt 6, 3) := by decide +kernel
theorem dX1_changeByAge_6 : decode cX1_changeByAge 6 = .ok (.bipush (-6), 2) := by decide +kernel
theorem dX1_changeByAge_8 : decode cX1_changeByAge 8 = .ok (.ireturn, 1) := by decide +kernel
theorem dX1_changeByAge_9 : decode cX1_changeByAge 9 = .ok (.iload_n 0, 1) := by decide +kernel
theorem dX1_changeByAge_10 : decode cX1_changeByAge 10 = .ok (.iconst 1, 1) := by decide +kernel
theorem dX1_changeByAge_11 : decode cX1_changeByAge 11 = .ok (.if_icmp .lt 7, 3) := by decide +kernel
theorem dX1_changeByAge_14 : decode cX1_changeByAge 14 = .ok (.iconst 2, 1) := by decide +kernel
theorem dX1_changeByAge_15 : decode cX1_changeByAge 15 = .ok (.goto 4, 3) := by decide +kernel
theorem dX1_changeByAge_18 : decode cX1_changeByAge 18 = .ok (.iconst 0, 1) := by decide +kernel
theorem dX1_changeByAge_19 : decode cX1_changeByAge 19 = .ok (.ireturn, 1) := by decide +kernel
theorem dX1_isCreptInto_0 : decode cX1_isCreptInto 0 = .ok (.iconst 0, 1) := by decide +kernel
theorem dX1_isCreptInto_1 : decode cX1_isCreptInto 1 = .ok (.istore_n 2, 1) := by decide +kernel
theorem dX1_isCreptInto_2 : decode cX1_isCreptInto 2 = .ok (.iload_n 2, 1) := by decide +kernel
theorem dX1_isCreptInto_3 : decode cX1_isCreptInto 3 = .ok (.aload_n 0, 1) := by decide +kernel
theorem dX1_isCreptInto_4 : decode cX1_isCreptInto 4 = .ok (.getfield 39, 3) := by decide +kernel
theorem dX1_isCreptInto_7 : decode cX1_isCreptInto 7 = .ok (.if_icmp .ge 49, 3) := by decide +kernel
theorem dX1_isCreptInto_10 : decode cX1_isCreptInto 10 = .ok (.aload_n 0, 1) := by decide +kernel
theorem dX1_isCreptInto_11 : decode cX1_isCreptInto 11 = .ok (.getfield 9, 3) := by decide +kernel
theorem dX1_isCreptInto_14 : decode cX1_isCreptInto 14 = .ok (.iload_n 2, 1) := by decide +kernel
theorem dX1_isCreptInto_15 : decode cX1_isCreptInto 15 = .ok (.iaload, 1) := by decide +kernel
theorem dX1_isCreptInto_16 : decode cX1_isCreptInto 16 = .ok (.aload_n 0, 1) := by decide +kernel
theorem dX1_isCreptInto_17 : decode cX1_isCreptInto 17 = .ok (.getfield 9, 3) := by decide +kernel
theorem dX1_isCreptInto_20 : decode cX1_isCreptInto 20 = .ok (.iload_n 1, 1) := by decide +kernel
theorem dX1_isCreptInto_21 : decode cX1_isCreptInto 21 = .ok (.iaload, 1) := by decide +kernel
theorem dX1_isCreptInto_22 : decode cX1_isCreptInto 22 = .ok (.isub, 1) := by decide +kernel
theorem dX1_isCreptInto_23 : decode cX1_isCreptInto 23 = .ok (.invokestatic 72, 3) := by decide +kernel
theorem dX1_isCreptInto_26 : decode cX1_isCreptInto 26 = .ok (.iconst 4, 1) := by decide +kernel
theorem dX1_isCreptInto_27 : decode cX1_isCreptInto 27 = .ok (.if_icmp .gt 23, 3) := by decide +kernel
theorem dX1_isCreptInto_30 : decode cX1_isCreptInto 30 = .ok (.aload_n 0, 1) := by decide +kernel
theorem dX1_isCreptInto_31 : decode cX1_isCreptInto 31 = .ok (.getfield 21, 3) := by decide +kernel
theorem dX1_isCreptInto_34 : decode cX1_isCreptInto 34 = .ok (.iload_n 1, 1) := by decide +kernel
theorem dX1_isCreptInto_35 : decode cX1_isCreptInto 35 = .ok (.iaload, 1) := by decide +kernel
theorem dX1_isCreptInto_36 : decode cX1_isCreptInto 36 = .ok (.aload_n 0, 1) := by decide +kernel
theorem dX1_isCreptInto_37 : decode cX1_isCreptInto 37 = .ok (.getfield 21, 3) := by decide +kernel
theorem dX1_isCreptInto_40 : decode cX1_isCreptInto 40 = .ok (.iload_n 2, 1) := by decide +kernel
theorem dX1_isCreptInto_41 : decode cX1_isCreptInto 41 = .ok (.iaload, 1) := by decide +kernel
theorem dX1_isCreptInto_42 : decode cX1_isCreptInto 42 = .ok (.isub, 1) := by decide +kernel
theorem dX1_isCreptInto_43 : decode cX1_isCreptInto 43 = .ok (.bipush 30, 2) := by decide +kernel
theorem dX1_isCreptInto_45 : decode cX1_isCreptInto 45 = .ok (.if_icmp .lt 5, 3) := by decide +kernel
theorem dX1_isCreptInto_48 : decode cX1_isCreptInto 48 = .ok (.iconst 1, 1) := by decide +kernel
theorem dX1_isCreptInto_49 : decode cX1_isCreptInto 49 = .ok (.ireturn, 1) := by decide +kernel
theorem dX1_isCreptInto_50 : decode cX1_isCreptInto 50 = .ok (.iinc 2 1, 3) := by decide +kernel
theorem dX1_isCreptInto_53 : decode cX1_isCreptInto 53 = .ok (.goto (-51), 3) := by decide +kernel
theorem dX1_isCreptInto_56 : decode cX1_isCreptInto 56 = .ok (.iconst 0, 1) := by decide +kernel
theorem dX1_isCreptInto_57 : decode cX1_isCreptInto 57 = .ok (.ireturn, 1) := by decide +kernel
set_option maxRecDepth 20000 in
theorem ggX1_tell_X1_given : GoodIn wsX1_tell wsX1_given := goodIn_r _ [13, 3, 2, 18, 19, 20, 21, 22, 23, 24, 25, 26, 27] (by decide +kernel) (by decide +kernel)
set_option maxRecDepth 20000 in
theorem gX1_tell_X1_given : GoodIn wsX1_tell (wsV RX1 46 RX1 yX1_given wsX1_given) := goodIn_app (goodIn_of _ (by decide +kernel)) ggX1_tell_X1_given
set_option maxRecDepth 20000 in
theorem ggX1_tell_X1_sedgeGiven : GoodIn wsX1_tell wsX1_sedgeGiven := goodIn_r _ [17, 4, 9, 10, 11, 12, 13, 3, 2, 18, 19, 20, 21, 22, 23, 24, 25, 26, 27] (by decide +kernel) (by decide +kernel)
set_option maxRecDepth 20000 in
theorem gX1_tell_X1_sedgeGiven : GoodIn wsX1_tell (wsV RX1 50 RX1 yX1_sedgeGiven wsX1_sedgeGiven) := goodIn_app (goodIn_of _ (by decide +kernel)) ggX1_tell_X1_sedgeGiven
theorem dX1_tell_0 : decode cX1_tell 0 = .ok (.iload_n 2, 1) := by decide +kernel
theorem dX1_tell_1 : decode cX1_tell 1 = .ok (.tableswitch 112 0 8 #[51, 58, 65, 72, 79, 85, 91, 98, 105], 51) := by decide +kernel
theorem dX1_tell_52 : decode cX1_tell 52 = .ok (.aload_n 0, 1) := by decide +kernel
theorem dX1_tell_53 : decode cX1_tell 53 = .ok (.getfield 9, 3) := by decide +kernel
theorem dX1_tell_56 : decode cX1_tell 56 = .ok (.iload_n 1, 1) := by decide +kernel
theorem dX1_tell_57 : decode cX1_tell 57 = .ok (.iaload, 1) := by decide +kernel
theorem dX1_tell_58 : decode cX1_tell 58 = .ok (.ireturn, 1) := by decide +kernel
theorem dX1_tell_59 : decode cX1_tell 59 = .ok (.aload_n 0, 1) := by decide +kernel
theorem dX1_tell_60 : decode cX1_tell 60 = .ok (.getfield 15, 3) := by decide +kernel
theorem dX1_tell_63 : decode cX1_tell 63 = .ok (.iload_n 1, 1) := by decide +kernel
theorem dX1_tell_64 : decode cX1_tell 64 = .ok (.iaload, 1) := by decide +kernel
theorem dX1_tell_65 : decode cX1_tell 65 = .ok (.ireturn, 1) := by decide +kernel
theorem dX1_tell_66 : decode cX1_tell 66 = .ok (.aload_n 0, 1) := by decide +kernel
theorem dX1_tell_67 : decode cX1_tell 67 = .ok (.getfield 18, 3) := by decide +kernel
theorem dX1_tell_70 : decode cX1_tell 70 = .ok (.iload_n 1, 1) := by decide +kernel
theorem dX1_tell_71 : decode cX1_tell 71 = .ok (.iaload, 1) := by decide +kernel
theorem dX1_tell_72 : decode cX1_tell 72 = .ok (.ireturn, 1) := by decide +kernel
theorem dX1_tell_73 : decode cX1_tell 73 = .ok (.aload_n 0, 1) := by decide +kernel
theorem dX1_tell_74 : decode cX1_tell 74 = .ok (.getfield 21, 3) := by decide +kernel
theorem dX1_tell_77 : decode cX1_tell 77 = .ok (.iload_n 1, 1) := by decide +kernel
theorem dX1_tell_78 : decode cX1_tell 78 = .ok (.iaload, 1) := by decide +kernel
theorem dX1_tell_79 : decode cX1_tell 79 = .ok (.ireturn, 1) := by decide +kernel
theorem dX1_tell_80 : decode cX1_tell 80 = .ok (.aload_n 0, 1) := by decide +kernel
theorem dX1_tell_81 : decode cX1_tell 81 = .ok (.iload_n 1, 1) := by decide +kernel
theorem dX1_tell_82 : decode cX1_tell 82 = .ok (.invokevirtual 46, 3) := by decide +kernel
theorem dX1_tell_85 : decode cX1_tell 85 = .ok (.ireturn, 1) := by decide +kernel
theorem dX1_tell_86 : decode cX1_tell 86 = .ok (.aload_n 0, 1) := by decide +kernel
theorem dX1_tell_87 : decode cX1_tell 87 = .ok (.iload_n 1, 1) := by decide +kernel
theorem dX1_tell_88 : decode cX1_tell 88 = .ok (.invokevirtual 50, 3) := by decide +kernel
theorem dX1_tell_91 : decode cX1_tell 91 = .ok (.ireturn, 1) := by decide +kernel
theorem dX1_tell_92 : decode cX1_tell 92 = .ok (.aload_n 0, 1) := by decide +kernel
theorem dX1_tell_93 : decode cX1_tell 93 = .ok (.getfield 24, 3) := by decide +kernel
theorem dX1_tell_96 : decode cX1_tell 96 = .ok (.iload_n 1, 1) := by decide +kernel
theorem dX1_tell_97 : decode cX1_tell 97 = .ok (.iaload, 1) := by decide +kernel
theorem dX1_tell_98 : decode cX1_tell 98 = .ok (.ireturn, 1) := by decide +kernel
theorem dX1_tell_99 : decode cX1_tell 99 = .ok (.aload_n 0, 1) := by decide +kernel
theorem dX1_tell_100 : decode cX1_tell 100 = .ok (.getfield 27, 3) := by decide +kernel
theorem dX1_tell_103 : decode cX1_tell 103 = .ok (.iload_n 1, 1) := by decide +kernel
theorem dX1_tell_104 : decode cX1_tell 104 = .ok (.iaload, 1) := by decide +kernel
theorem dX1_tell_105 : decode cX1_tell 105 = .ok (.ireturn, 1) := by decide +kernel
theorem dX1_tell_106 : decode cX1_tell 106 = .ok (.aload_n 0, 1) := by decide +kernel
theorem dX1_tell_107 : decode cX1_tell 107 = .ok (.getfield 30, 3) := by decide +kernel
theorem dX1_tell_110 : decode cX1_tell 110 = .ok (.iload_n 1, 1) := by decide +kernel
theorem dX1_tell_111 : decode cX1_tell 111 = .ok (.iaload, 1) := by decide +kernel
theorem dX1_tell_112 : decode cX1_tell 112 = .ok (.ireturn, 1) := by decide +kernel
theorem dX1_tell_113 : decode cX1_tell 113 = .ok (.aload_n 0, 1) := by decide +kernel
theorem dX1_tell_114 : decode cX1_tell 114 = .ok (.getfield 33, 3) := by decide +kernel
theorem dX1_tell_117 : decode cX1_tell 117 = .ok (.iload_n 1, 1) := by decide +kernel
theorem dX1_tell_118 : decode cX1_tell 118 = .ok (.iaload, 1) := by decide +kernel
theorem dX1_tell_119 : decode cX1_tell 119 = .ok (.ireturn, 1) := by decide +kernel
set_option maxRecDepth 20000 in
theorem ggX1_givenByAll_X1_given : GoodIn wsX1_givenByAll wsX1_given := goodIn_r _ [6, 7, 8, 9, 10, 11, 12, 13, 14, 15, 16, 17, 18] (by decide +kernel) (by decide +kernel)
set_option maxRecDepth 20000 in
theorem gX1_givenByAll_X1_given : GoodIn wsX1_givenByAll (wsV RX1 46 RX1 yX1_given wsX1_given) := goodIn_app (goodIn_of _ (by decide +kernel)) ggX1_givenByAll_X1_given
theorem dX1_givenByAll_0 : decode cX1_givenByAll 0 = .ok (.iconst 0, 1) := by decide +kernel
theorem dX1_givenByAll_1 : decode cX1_givenByAll 1 = .ok (.istore_n 1, 1) := by decide +kernel
theorem dX1_givenByAll_2 : decode cX1_givenByAll 2 = .ok (.iconst 0, 1) := by decide +kernel
theorem dX1_givenByAll_3 : decode cX1_givenByAll 3 = .ok (.istore_n 2, 1) := by decide +kernel
theorem dX1_givenByAll_4 : decode cX1_givenByAll 4 = .ok (.iload_n 2, 1) := by decide +kernel
theorem dX1_givenByAll_5 : decode cX1_givenByAll 5 = .ok (.aload_n 0, 1) := by decide +kernel
theorem dX1_givenByAll_6 : decode cX1_givenByAll 6 = .ok (.getfield 39, 3) := by decide +kernel
theorem dX1_givenByAll_9 : decode cX1_givenByAll 9 = .ok (.if_icmp .ge 17, 3) := by decide +kernel
theorem dX1_givenByAll_12 : decode cX1_givenByAll 12 = .ok (.iload_n 1, 1) := by decide +kernel
theorem dX1_givenByAll_13 : decode cX1_givenByAll 13 = .ok (.aload_n 0, 1) := by decide +kernel
theorem dX1_givenByAll_14 : decode cX1_givenByAll 14 = .ok (.iload_n 2, 1) := by decide +kernel
theorem dX1_givenByAll_15 : decode cX1_givenByAll 15 = .ok (.invokevirtual 46, 3) := by decide +kernel
theorem dX1_givenByAll_18 : decode cX1_givenByAll 18 = .ok (.iadd, 1) := by decide +kernel
theorem dX1_givenByAll_19 : decode cX1_givenByAll 19 = .ok (.istore_n 1, 1) := by decide +kernel
theorem dX1_givenByAll_20 : decode cX1_givenByAll 20 = .ok (.iinc 2 1, 3) := by decide +kernel
theorem dX1_givenByAll_23 : decode cX1_givenByAll 23 = .ok (.goto (-19), 3) := by decide +kernel
theorem dX1_givenByAll_26 : decode cX1_givenByAll 26 = .ok (.iload_n 1, 1) := by decide +kernel
theorem dX1_givenByAll_27 : decode cX1_givenByAll 27 = .ok (.ireturn, 1) := by decide +kernel
theorem dX1_untiedOfAll_0 : decode cX1_untiedOfAll 0 = .ok (.iconst 0, 1) := by decide +kernel
theorem dX1_untiedOfAll_1 : decode cX1_untiedOfAll 1 = .ok (.istore_n 1, 1) := by decide +kernel
theorem dX1_untiedOfAll_2 : decode cX1_untiedOfAll 2 = .ok (.iconst 0, 1) := by decide +kernel
theorem dX1_untiedOfAll_3 : decode cX1_untiedOfAll 3 = .ok (.istore_n 2, 1) := by decide +kernel
theorem dX1_untiedOfAll_4 : decode cX1_untiedOfAll 4 = .ok (.iload_n 2, 1) := by decide +kernel
theorem dX1_untiedOfAll_5 : decode cX1_untiedOfAll 5 = .ok (.aload_n 0, 1) := by decide +kernel
theorem dX1_untiedOfAll_6 : decode cX1_untiedOfAll 6 = .ok (.getfield 39, 3) := by decide +kernel
theorem dX1_untiedOfAll_9 : decode cX1_untiedOfAll 9 = .ok (.if_icmp .ge 25, 3) := by decide +kernel
theorem dX1_untiedOfAll_12 : decode cX1_untiedOfAll 12 = .ok (.iload_n 1, 1) := by decide +kernel
theorem dX1_untiedOfAll_13 : decode cX1_untiedOfAll 13 = .ok (.aload_n 0, 1) := by decide +kernel
theorem dX1_untiedOfAll_14 : decode cX1_untiedOfAll 14 = .ok (.getfield 24, 3) := by decide +kernel
theorem dX1_untiedOfAll_17 : decode cX1_untiedOfAll 17 = .ok (.iload_n 2, 1) := by decide +kernel
theorem dX1_untiedOfAll_18 : decode cX1_untiedOfAll 18 = .ok (.iaload, 1) := by decide +kernel
theorem dX1_untiedOfAll_19 : decode cX1_untiedOfAll 19 = .ok (.aload_n 0, 1) := by decide +kernel
theorem dX1_untiedOfAll_20 : decode cX1_untiedOfAll 20 = .ok (.getfield 27, 3) := by decide +kernel
theorem dX1_untiedOfAll_23 : decode cX1_untiedOfAll 23 = .ok (.iload_n 2, 1) := by decide +kernel
theorem dX1_untiedOfAll_24 : decode cX1_untiedOfAll 24 = .ok (.iaload, 1) := by decide +kernel
theorem dX1_untiedOfAll_25 : decode cX1_untiedOfAll 25 = .ok (.iadd, 1) := by decide +kernel
theorem dX1_untiedOfAll_26 : decode cX1_untiedOfAll 26 = .ok (.iadd, 1) := by decide +kernel
theorem dX1_untiedOfAll_27 : decode cX1_untiedOfAll 27 = .ok (.istore_n 1, 1) := by decide +kernel
theorem dX1_untiedOfAll_28 : decode cX1_untiedOfAll 28 = .ok (.iinc 2 1, 3) := by decide +kernel
theorem dX1_untiedOfAll_31 : decode cX1_untiedOfAll 31 = .ok (.goto (-27), 3) := by decide +kernel
theorem dX1_untiedOfAll_34 : decode cX1_untiedOfAll 34 = .ok (.iload_n 1, 1) := by decide +kernel
theorem dX1_untiedOfAll_35 : decode cX1_untiedOfAll 35 = .ok (.ireturn, 1) := by decide +kernel
theorem dX1_tiedOfAll_0 : decode cX1_tiedOfAll 0 = .ok (.iconst 0, 1) := by decide +kernel
theorem dX1_tiedOfAll_1 : decode cX1_tiedOfAll 1 = .ok (.istore_n 1, 1) := by decide +kernel
theorem dX1_tiedOfAll_2 : decode cX1_tiedOfAll 2 = .ok (.iconst 0, 1) := by decide +kernel
theorem dX1_tiedOfAll_3 : decode cX1_tiedOfAll 3 = .ok (.istore_n 2, 1) := by decide +kernel
theorem dX1_tiedOfAll_4 : decode cX1_tiedOfAll 4 = .ok (.iload_n 2, 1) := by decide +kernel
theorem dX1_tiedOfAll_5 : decode cX1_tiedOfAll 5 = .ok (.aload_n 0, 1) := by decide +kernel
theorem dX1_tiedOfAll_6 : decode cX1_tiedOfAll 6 = .ok (.getfield 39, 3) := by decide +kernel
theorem dX1_tiedOfAll_9 : decode cX1_tiedOfAll 9 = .ok (.if_icmp .ge 25, 3) := by decide +kernel
theorem dX1_tiedOfAll_12 : decode cX1_tiedOfAll 12 = .ok (.iload_n 1, 1) := by decide +kernel
theorem dX1_tiedOfAll_13 : decode cX1_tiedOfAll 13 = .ok (.aload_n 0, 1) := by decide +kernel
theorem dX1_tiedOfAll_14 : decode cX1_tiedOfAll 14 = .ok (.getfield 30, 3) := by decide +kernel
theorem dX1_tiedOfAll_17 : decode cX1_tiedOfAll 17 = .ok (.iload_n 2, 1) := by decide +kernel
theorem dX1_tiedOfAll_18 : decode cX1_tiedOfAll 18 = .ok (.iaload, 1) := by decide +kernel
theorem dX1_tiedOfAll_19 : decode cX1_tiedOfAll 19 = .ok (.aload_n 0, 1) := by decide +kernel
theorem dX1_tiedOfAll_20 : decode cX1_tiedOfAll 20 = .ok (.getfield 33, 3) := by decide +kernel
theorem dX1_tiedOfAll_23 : decode cX1_tiedOfAll 23 = .ok (.iload_n 2, 1) := by decide +kernel
theorem dX1_tiedOfAll_24 : decode cX1_tiedOfAll 24 = .ok (.iaload, 1) := by decide +kernel
theorem dX1_tiedOfAll_25 : decode cX1_tiedOfAll 25 = .ok (.iadd, 1) := by decide +kernel
theorem dX1_tiedOfAll_26 : decode cX1_tiedOfAll 26 = .ok (.iadd, 1) := by decide +kernel
theorem dX1_tiedOfAll_27 : decode cX1_tiedOfAll 27 = .ok (.istore_n 1, 1) := by decide +kernel
theorem dX1_tiedOfAll_28 : decode cX1_tiedOfAll 28 = .ok (.iinc 2 1, 3) := by decide +kernel
theorem dX1_tiedOfAll_31 : decode cX1_tiedOfAll 31 = .ok (.goto (-27), 3) := by decide +kernel
theorem dX1_tiedOfAll_34 : decode cX1_tiedOfAll 34 = .ok (.iload_n 1, 1) := by decide +kernel
theorem dX1_tiedOfAll_35 : decode cX1_tiedOfAll 35 = .ok (.ireturn, 1) := by decide +kernel
theorem dX2_init_0 : decode cX2_init 0 = .ok (.aload_n 0, 1) := by decide +kernel
theorem dX2_init_1 : decode cX2_init 1 = .ok (.invokespecial 3, 3) := by decide +kernel
theorem dX2_init_4 : decode cX2_init 4 = .ok (.aload_n 0, 1) := by decide +kernel
theorem dX2_init_5 : decode cX2_init 5 = .ok (.iconst 3, 1) := by decide +kernel
theorem dX2_init_6 : decode cX2_init 6 = .ok (.newarray .int, 2) := by decide +kernel
theorem dX2_init_8 : decode cX2_init 8 = .ok (.putfield 9, 3) := by decide +kernel
theorem dX2_init_11 : decode cX2_init 11 = .ok (.return_, 1) := by decide +kernel
theorem dX2_copyFrom_0 : decode cX2_copyFrom 0 = .ok (.iconst 0, 1) := by decide +kernel
theorem dX2_copyFrom_1 : decode cX2_copyFrom 1 = .ok (.istore_n 2, 1) := by decide +kernel
theorem dX2_copyFrom_2 : decode cX2_copyFrom 2 = .ok (.iload_n 2, 1) := by decide +kernel
theorem dX2_copyFrom_3 : decode cX2_copyFrom 3 = .ok (.iconst 3, 1) := by decide +kernel
theorem dX2_copyFrom_4 : decode cX2_copyFrom 4 = .ok (.if_icmp .ge 21, 3) := by decide +kernel
theorem dX2_copyFrom_7 : decode cX2_copyFrom 7 = .ok (.aload_n 0, 1) := by decide +kernel
theorem dX2_copyFrom_8 : decode cX2_copyFrom 8 = .ok (.getfield 9, 3) := by decide +kernel
theorem dX2_copyFrom_11 : decode cX2_copyFrom 11 = .ok (.iload_n 2, 1) := by decide +kernel
theorem dX2_copyFrom_12 : decode cX2_copyFrom 12 = .ok (.aload_n 1, 1) := by decide +kernel
theorem dX2_copyFrom_13 : decode cX2_copyFrom 13 = .ok (.getfield 9, 3) := by decide +kernel
theorem dX2_copyFrom_16 : decode cX2_copyFrom 16 = .ok (.iload_n 2, 1) := by decide +kernel
theorem dX2_copyFrom_17 : decode cX2_copyFrom 17 = .ok (.iaload, 1) := by decide +kernel
theorem dX2_copyFrom_18 : decode cX2_copyFrom 18 = .ok (.iastore, 1) := by decide +kernel
theorem dX2_copyFrom_19 : decode cX2_copyFrom 19 = .ok (.iinc 2 1, 3) := by decide +kernel
theorem dX2_copyFrom_22 : decode cX2_copyFrom 22 = .ok (.goto (-20), 3) := by decide +kernel
theorem dX2_copyFrom_25 : decode cX2_copyFrom 25 = .ok (.return_, 1) := by decide +kernel
theorem dX2_sedgePrice_0 : decode cX2_sedgePrice 0 = .ok (.iconst 1, 1) := by decide +kernel
theorem dX2_sedgePrice_1 : decode cX2_sedgePrice 1 = .ok (.getstatic 15, 3) := by decide +kernel
theorem dX2_sedgePrice_4 : decode cX2_sedgePrice 4 = .ok (.iload_n 1, 1) := by decide +kernel
theorem dX2_sedgePrice_5 : decode cX2_sedgePrice 5 = .ok (.iaload, 1) := by decide +kernel
theorem dX2_sedgePrice_6 : decode cX2_sedgePrice 6 = .ok (.aload_n 0, 1) := by decide +kernel
theorem dX2_sedgePrice_7 : decode cX2_sedgePrice 7 = .ok (.getfield 9, 3) := by decide +kernel
theorem dX2_sedgePrice_10 : decode cX2_sedgePrice 10 = .ok (.iload_n 1, 1) := by decide +kernel
theorem dX2_sedgePrice_11 : decode cX2_sedgePrice 11 = .ok (.iaload, 1) := by decide +kernel
theorem dX2_sedgePrice_12 : decode cX2_sedgePrice 12 = .ok (.bipush 25, 2) := by decide +kernel
theorem dX2_sedgePrice_14 : decode cX2_sedgePrice 14 = .ok (.idiv, 1) := by decide +kernel
theorem dX2_sedgePrice_15 : decode cX2_sedgePrice 15 = .ok (.isub, 1) := by decide +kernel
theorem dX2_sedgePrice_16 : decode cX2_sedgePrice 16 = .ok (.invokestatic 18, 3) := by decide +kernel
theorem dX2_sedgePrice_19 : decode cX2_sedgePrice 19 = .ok (.ireturn, 1) := by decide +kernel
set_option maxRecDepth 20000 in
theorem ggX2_reedPrice_X2_sedgePrice : GoodIn wsX2_reedPrice wsX2_sedgePrice := goodIn_r _ [9, 10, 1, 2, 3, 4, 11] (by decide +kernel) (by decide +kernel)
set_option maxRecDepth 20000 in
theorem gX2_reedPrice_X2_sedgePrice : GoodIn wsX2_reedPrice (wsV RX2 24 RX2 yX2_sedgePrice wsX2_sedgePrice) := goodIn_app (goodIn_of _ (by decide +kernel)) ggX2_reedPrice_X2_sedgePrice
theorem dX2_reedPrice_0 : decode cX2_reedPrice 0 = .ok (.iconst 1, 1) := by decide +kernel
theorem dX2_reedPrice_1 : decode cX2_reedPrice 1 = .ok (.aload_n 0, 1) := by decide +kernel
theorem dX2_reedPrice_2 : decode cX2_reedPrice 2 = .ok (.iload_n 1, 1) := by decide +kernel
theorem dX2_reedPrice_3 : decode cX2_reedPrice 3 = .ok (.invokevirtual 24, 3) := by decide +kernel
theorem dX2_reedPrice_6 : decode cX2_reedPrice 6 = .ok (.iconst 2, 1) := by decide +kernel
theorem dX2_reedPrice_7 : decode cX2_reedPrice 7 = .ok (.idiv, 1) := by decide +kernel
theorem dX2_reedPrice_8 : decode cX2_reedPrice 8 = .ok (.invokestatic 18, 3) := by decide +kernel
theorem dX2_reedPrice_11 : decode cX2_reedPrice 11 = .ok (.ireturn, 1) := by decide +kernel
set_option maxRecDepth 20000 in
theorem ggX2_thatch_X4_twentiethRoundedUp : GoodIn wsX2_thatch wsX4_twentiethRoundedUp := goodIn_r _ [4] (by decide +kernel) (by decide +kernel)
set_option maxRecDepth 20000 in
theorem gX2_thatch_X4_twentiethRoundedUp_n28 : GoodIn wsX2_thatch (wsX4_twentiethRoundedUp) := ggX2_thatch_X4_twentiethRoundedUp
theorem dX2_thatch_0 : decode cX2_thatch 0 = .ok (.iconst 0, 1) := by decide +kernel
theorem dX2_thatch_1 : decode cX2_thatch 1 = .ok (.istore_n 1, 1) := by decide +kernel
theorem dX2_thatch_2 : decode cX2_thatch 2 = .ok (.iload_n 1, 1) := by decide +kernel
theorem dX2_thatch_3 : decode cX2_thatch 3 = .ok (.iconst 3, 1) := by decide +kernel
theorem dX2_thatch_4 : decode cX2_thatch 4 = .ok (.if_icmp .ge 27, 3) := by decide +kernel
theorem dX2_thatch_7 : decode cX2_thatch 7 = .ok (.aload_n 0, 1) := by decide +kernel
theorem dX2_thatch_8 : decode cX2_thatch 8 = .ok (.getfield 9, 3) := by decide +kernel
theorem dX2_thatch_11 : decode cX2_thatch 11 = .ok (.iload_n 1, 1) := by decide +kernel
theorem dX2_thatch_12 : decode cX2_thatch 12 = .ok (.dup2, 1) := by decide +kernel
theorem dX2_thatch_13 : decode cX2_thatch 13 = .ok (.iaload, 1) := by decide +kernel
theorem dX2_thatch_14 : decode cX2_thatch 14 = .ok (.aload_n 0, 1) := by decide +kernel
theorem dX2_thatch_15 : decode cX2_thatch 15 = .ok (.getfield 9, 3) := by decide +kernel
theorem dX2_thatch_18 : decode cX2_thatch 18 = .ok (.iload_n 1, 1) := by decide +kernel
theorem dX2_thatch_19 : decode cX2_thatch 19 = .ok (.iaload, 1) := by decide +kernel
theorem dX2_thatch_20 : decode cX2_thatch 20 = .ok (.invokestatic 28, 3) := by decide +kernel
theorem dX2_thatch_23 : decode cX2_thatch 23 = .ok (.isub, 1) := by decide +kernel
theorem dX2_thatch_24 : decode cX2_thatch 24 = .ok (.iastore, 1) := by decide +kernel
theorem dX2_thatch_25 : decode cX2_thatch 25 = .ok (.iinc 1 1, 3) := by decide +kernel
theorem dX2_thatch_28 : decode cX2_thatch 28 = .ok (.goto (-26), 3) := by decide +kernel
theorem dX2_thatch_31 : decode cX2_thatch 31 = .ok (.return_, 1) := by decide +kernel
set_option maxRecDepth 20000 in
theorem ggX2_tell_X2_sedgePrice : GoodIn wsX2_tell wsX2_sedgePrice := goodIn_r _ [6, 1, 7, 8, 9, 10, 15] (by decide +kernel) (by decide +kernel)
set_option maxRecDepth 20000 in
theorem gX2_tell_X2_sedgePrice : GoodIn wsX2_tell (wsV RX2 24 RX2 yX2_sedgePrice wsX2_sedgePrice) := goodIn_app (goodIn_of _ (by decide +kernel)) ggX2_tell_X2_sedgePrice
set_option maxRecDepth 20000 in
theorem ggX2_tell_X2_reedPrice : GoodIn wsX2_tell wsX2_reedPrice := goodIn_r _ [14, 7, 8, 9, 10, 2, 3, 4, 5, 6, 1, 15] (by decide +kernel) (by decide +kernel)
set_option maxRecDepth 20000 in
theorem gX2_tell_X2_reedPrice : GoodIn wsX2_tell (wsV RX2 34 RX2 yX2_reedPrice wsX2_reedPrice) := goodIn_app (goodIn_of _ (by decide +kernel)) ggX2_tell_X2_reedPrice
theorem dX2_tell_0 : decode cX2_tell 0 = .ok (.iload_n 2, 1) := by decide +kernel
theorem dX2_tell_1 : decode cX2_tell 1 = .ok (.tableswitch 46 0 2 #[27, 33, 40], 27) := by decide +kernel
theorem dX2_tell_28 : decode cX2_tell 28 = .ok (.getstatic 31, 3) := by decide +kernel
theorem dX2_tell_31 : decode cX2_tell 31 = .ok (.iload_n 1, 1) := by decide +kernel
theorem dX2_tell_32 : decode cX2_tell 32 = .ok (.iaload, 1) := by decide +kernel
theorem dX2_tell_33 : decode cX2_tell 33 = .ok (.ireturn, 1) := by decide +kernel
theorem dX2_tell_34 : decode cX2_tell 34 = .ok (.aload_n 0, 1) := by decide +kernel
theorem dX2_tell_35 : decode cX2_tell 35 = .ok (.getfield 9, 3) := by decide +kernel
theorem dX2_tell_38 : decode cX2_tell 38 = .ok (.iload_n 1, 1) := by decide +kernel
theorem dX2_tell_39 : decode cX2_tell 39 = .ok (.iaload, 1) := by decide +kernel
theorem dX2_tell_40 : decode cX2_tell 40 = .ok (.ireturn, 1) := by decide +kernel
theorem dX2_tell_41 : decode cX2_tell 41 = .ok (.aload_n 0, 1) := by decide +kernel
theorem dX2_tell_42 : decode cX2_tell 42 = .ok (.iload_n 1, 1) := by decide +kernel
theorem dX2_tell_43 : decode cX2_tell 43 = .ok (.invokevirtual 24, 3) := by decide +kernel
theorem dX2_tell_46 : decode cX2_tell 46 = .ok (.ireturn, 1) := by decide +kernel
theorem dX2_tell_47 : decode cX2_tell 47 = .ok (.aload_n 0, 1) := by decide +kernel
theorem dX2_tell_48 : decode cX2_tell 48 = .ok (.iload_n 1, 1) := by decide +kernel
theorem dX2_tell_49 : decode cX2_tell 49 = .ok (.invokevirtual 34, 3) := by decide +kernel
theorem dX2_tell_52 : decode cX2_tell 52 = .ok (.ireturn, 1) := by decide +kernel
theorem dX2_storeOfAll_0 : decode cX2_storeOfAll 0 = .ok (.iconst 0, 1) := by decide +kernel
theorem dX2_storeOfAll_1 : decode cX2_storeOfAll 1 = .ok (.istore_n 1, 1) := by decide +kernel
theorem dX2_storeOfAll_2 : decode cX2_storeOfAll 2 = .ok (.iconst 0, 1) := by decide +kernel
theorem dX2_storeOfAll_3 : decode cX2_storeOfAll 3 = .ok (.istore_n 2, 1) := by decide +kernel
theorem dX2_storeOfAll_4 : decode cX2_storeOfAll 4 = .ok (.iload_n 2, 1) := by decide +kernel
theorem dX2_storeOfAll_5 : decode cX2_storeOfAll 5 = .ok (.iconst 3, 1) := by decide +kernel
theorem dX2_storeOfAll_6 : decode cX2_storeOfAll 6 = .ok (.if_icmp .ge 18, 3) := by decide +kernel
theorem dX2_storeOfAll_9 : decode cX2_storeOfAll 9 = .ok (.iload_n 1, 1) := by decide +kernel
theorem dX2_storeOfAll_10 : decode cX2_storeOfAll 10 = .ok (.aload_n 0, 1) := by decide +kernel
theorem dX2_storeOfAll_11 : decode cX2_storeOfAll 11 = .ok (.getfield 9, 3) := by decide +kernel
theorem dX2_storeOfAll_14 : decode cX2_storeOfAll 14 = .ok (.iload_n 2, 1) := by decide +kernel
theorem dX2_storeOfAll_15 : decode cX2_storeOfAll 15 = .ok (.iaload, 1) := by decide +kernel
theorem dX2_storeOfAll_16 : decode cX2_storeOfAll 16 = .ok (.iadd, 1) := by decide +kernel
theorem dX2_storeOfAll_17 : decode cX2_storeOfAll 17 = .ok (.istore_n 1, 1) := by decide +kernel
theorem dX2_storeOfAll_18 : decode cX2_storeOfAll 18 = .ok (.iinc 2 1, 3) := by decide +kernel
theorem dX2_storeOfAll_21 : decode cX2_storeOfAll 21 = .ok (.goto (-17), 3) := by decide +kernel
theorem dX2_storeOfAll_24 : decode cX2_storeOfAll 24 = .ok (.iload_n 1, 1) := by decide +kernel
theorem dX2_storeOfAll_25 : decode cX2_storeOfAll 25 = .ok (.ireturn, 1) := by decide +kernel
set_option maxRecDepth 20000 in
theorem ggX3_init_X1_init : GoodIn wsX3_init wsX1_init := goodIn_r _ [19, 20, 2, 3, 21, 22, 23, 24, 25, 26, 27, 28, 29, 30, 50, 51, 52, 53, 54, 55, 56, 57, 58, 59] (by decide +kernel) (by decide +kernel)
set_option maxRecDepth 20000 in
theorem gX3_init_X1_init_n20 : GoodIn wsX3_init (wsX1_init) := ggX3_init_X1_init
set_option maxRecDepth 20000 in
theorem ggX3_init_X0_init : GoodIn wsX3_init wsX0_init := goodIn_r _ [32, 33, 2, 3, 21, 34, 35, 36, 37, 38, 60, 61, 62, 63, 64, 65] (by decide +kernel) (by decide +kernel)
set_option maxRecDepth 20000 in
theorem gX3_init_X0_init_n27 : GoodIn wsX3_init (wsX0_init) := ggX3_init_X0_init
set_option maxRecDepth 20000 in
theorem ggX3_init_X2_init : GoodIn wsX3_init wsX2_init := goodIn_r _ [40, 41, 2, 3, 21, 42, 66] (by decide +kernel) (by decide +kernel)
set_option maxRecDepth 20000 in
theorem gX3_init_X2_init_n34 : GoodIn wsX3_init (wsX2_init) := ggX3_init_X2_init
theorem dX3_init_0 : decode cX3_init 0 = .ok (.aload_n 0, 1) := by decide +kernel
theorem dX3_init_1 : decode cX3_init 1 = .ok (.invokespecial 3, 3) := by decide +kernel
theorem dX3_init_4 : decode cX3_init 4 = .ok (.aload_n 0, 1) := by decide +kernel
theorem dX3_init_5 : decode cX3_init 5 = .ok (.bipush 20, 2) := by decide +kernel
theorem dX3_init_7 : decode cX3_init 7 = .ok (.putfield 9, 3) := by decide +kernel
theorem dX3_init_10 : decode cX3_init 10 = .ok (.aload_n 0, 1) := by decide +kernel
theorem dX3_init_11 : decode cX3_init 11 = .ok (.bipush 100, 2) := by decide +kernel
theorem dX3_init_13 : decode cX3_init 13 = .ok (.putfield 15, 3) := by decide +kernel
theorem dX3_init_16 : decode cX3_init 16 = .ok (.aload_n 0, 1) := by decide +kernel
theorem dX3_init_17 : decode cX3_init 17 = .ok (.new 18, 3) := by decide +kernel
theorem dX3_init_20 : decode cX3_init 20 = .ok (.dup, 1) := by decide +kernel
theorem dX3_init_21 : decode cX3_init 21 = .ok (.invokespecial 20, 3) := by decide +kernel
theorem dX3_init_24 : decode cX3_init 24 = .ok (.putfield 21, 3) := by decide +kernel
theorem dX3_init_27 : decode cX3_init 27 = .ok (.aload_n 0, 1) := by decide +kernel
theorem dX3_init_28 : decode cX3_init 28 = .ok (.new 25, 3) := by decide +kernel
theorem dX3_init_31 : decode cX3_init 31 = .ok (.dup, 1) := by decide +kernel
theorem dX3_init_32 : decode cX3_init 32 = .ok (.invokespecial 27, 3) := by decide +kernel
theorem dX3_init_35 : decode cX3_init 35 = .ok (.putfield 28, 3) := by decide +kernel
theorem dX3_init_38 : decode cX3_init 38 = .ok (.aload_n 0, 1) := by decide +kernel
theorem dX3_init_39 : decode cX3_init 39 = .ok (.new 32, 3) := by decide +kernel
theorem dX3_init_42 : decode cX3_init 42 = .ok (.dup, 1) := by decide +kernel
theorem dX3_init_43 : decode cX3_init 43 = .ok (.invokespecial 34, 3) := by decide +kernel
theorem dX3_init_46 : decode cX3_init 46 = .ok (.putfield 35, 3) := by decide +kernel
theorem dX3_init_49 : decode cX3_init 49 = .ok (.return_, 1) := by decide +kernel
set_option maxRecDepth 20000 in
theorem ggX3_copyFrom_X1_copyFrom : GoodIn wsX3_copyFrom wsX1_copyFrom := goodIn_r _ [12, 13, 14, 15, 16, 17, 18, 19, 20, 21, 46, 47, 48, 49, 50, 51, 52, 53, 54, 55] (by decide +kernel) (by decide +kernel)
set_option maxRecDepth 20000 in
theorem gX3_copyFrom_X1_copyFrom : GoodIn wsX3_copyFrom (wsV RX3 45 RX1 yX1_copyFrom wsX1_copyFrom) := goodIn_app (goodIn_of _ (by decide +kernel)) ggX3_copyFrom_X1_copyFrom
set_option maxRecDepth 20000 in
theorem ggX3_copyFrom_X0_copyFrom : GoodIn wsX3_copyFrom wsX0_copyFrom := goodIn_r _ [26, 27, 28, 29, 30, 31, 32, 56, 57, 58, 59, 60, 61] (by decide +kernel) (by decide +kernel)
set_option maxRecDepth 20000 in
theorem gX3_copyFrom_X0_copyFrom : GoodIn wsX3_copyFrom (wsV RX3 49 RX0 yX0_copyFrom wsX0_copyFrom) := goodIn_app (goodIn_of _ (by decide +kernel)) ggX3_copyFrom_X0_copyFrom
set_option maxRecDepth 20000 in
theorem ggX3_copyFrom_X2_copyFrom : GoodIn wsX3_copyFrom wsX2_copyFrom := goodIn_r _ [37, 38, 62] (by decide +kernel) (by decide +kernel)
set_option maxRecDepth 20000 in
theorem gX3_copyFrom_X2_copyFrom : GoodIn wsX3_copyFrom (wsV RX3 52 RX2 yX2_copyFrom wsX2_copyFrom) := goodIn_app (goodIn_of _ (by decide +kernel)) ggX3_copyFrom_X2_copyFrom
theorem dX3_copyFrom_0 : decode cX3_copyFrom 0 = .ok (.aload_n 0, 1) := by decide +kernel
theorem dX3_copyFrom_1 : decode cX3_copyFrom 1 = .ok (.aload_n 1, 1) := by decide +kernel
theorem dX3_copyFrom_2 : decode cX3_copyFrom 2 = .ok (.getfield 39, 3) := by decide +kernel
theorem dX3_copyFrom_5 : decode cX3_copyFrom 5 = .ok (.putfield 39, 3) := by decide +kernel
theorem dX3_copyFrom_8 : decode cX3_copyFrom 8 = .ok (.aload_n 0, 1) := by decide +kernel
theorem dX3_copyFrom_9 : decode cX3_copyFrom 9 = .ok (.aload_n 1, 1) := by decide +kernel
theorem dX3_copyFrom_10 : decode cX3_copyFrom 10 = .ok (.getfield 9, 3) := by decide +kernel
theorem dX3_copyFrom_13 : decode cX3_copyFrom 13 = .ok (.putfield 9, 3) := by decide +kernel
theorem dX3_copyFrom_16 : decode cX3_copyFrom 16 = .ok (.aload_n 0, 1) := by decide +kernel
theorem dX3_copyFrom_17 : decode cX3_copyFrom 17 = .ok (.aload_n 1, 1) := by decide +kernel
theorem dX3_copyFrom_18 : decode cX3_copyFrom 18 = .ok (.getfield 15, 3) := by decide +kernel
theorem dX3_copyFrom_21 : decode cX3_copyFrom 21 = .ok (.putfield 15, 3) := by decide +kernel
theorem dX3_copyFrom_24 : decode cX3_copyFrom 24 = .ok (.aload_n 0, 1) := by decide +kernel
theorem dX3_copyFrom_25 : decode cX3_copyFrom 25 = .ok (.aload_n 1, 1) := by decide +kernel
theorem dX3_copyFrom_26 : decode cX3_copyFrom 26 = .ok (.getfield 42, 3) := by decide +kernel
theorem dX3_copyFrom_29 : decode cX3_copyFrom 29 = .ok (.putfield 42, 3) := by decide +kernel
theorem dX3_copyFrom_32 : decode cX3_copyFrom 32 = .ok (.aload_n 0, 1) := by decide +kernel
theorem dX3_copyFrom_33 : decode cX3_copyFrom 33 = .ok (.getfield 21, 3) := by decide +kernel
theorem dX3_copyFrom_36 : decode cX3_copyFrom 36 = .ok (.aload_n 1, 1) := by decide +kernel
theorem dX3_copyFrom_37 : decode cX3_copyFrom 37 = .ok (.getfield 21, 3) := by decide +kernel
theorem dX3_copyFrom_40 : decode cX3_copyFrom 40 = .ok (.invokevirtual 45, 3) := by decide +kernel
theorem dX3_copyFrom_43 : decode cX3_copyFrom 43 = .ok (.aload_n 0, 1) := by decide +kernel
theorem dX3_copyFrom_44 : decode cX3_copyFrom 44 = .ok (.getfield 28, 3) := by decide +kernel
theorem dX3_copyFrom_47 : decode cX3_copyFrom 47 = .ok (.aload_n 1, 1) := by decide +kernel
theorem dX3_copyFrom_48 : decode cX3_copyFrom 48 = .ok (.getfield 28, 3) := by decide +kernel
theorem dX3_copyFrom_51 : decode cX3_copyFrom 51 = .ok (.invokevirtual 49, 3) := by decide +kernel
theorem dX3_copyFrom_54 : decode cX3_copyFrom 54 = .ok (.aload_n 0, 1) := by decide +kernel
theorem dX3_copyFrom_55 : decode cX3_copyFrom 55 = .ok (.getfield 35, 3) := by decide +kernel
theorem dX3_copyFrom_58 : decode cX3_copyFrom 58 = .ok (.aload_n 1, 1) := by decide +kernel
theorem dX3_copyFrom_59 : decode cX3_copyFrom 59 = .ok (.getfield 35, 3) := by decide +kernel
theorem dX3_copyFrom_62 : decode cX3_copyFrom 62 = .ok (.invokevirtual 52, 3) := by decide +kernel
theorem dX3_copyFrom_65 : decode cX3_copyFrom 65 = .ok (.return_, 1) := by decide +kernel
set_option maxRecDepth 20000 in
theorem ggX3_takeAboard_X0_aboard : GoodIn wsX3_takeAboard wsX0_aboard := goodIn_r _ [11, 12, 13, 31, 32, 33, 34, 35, 36] (by decide +kernel) (by decide +kernel)
set_option maxRecDepth 20000 in
theorem gX3_takeAboard_X0_aboard : GoodIn wsX3_takeAboard (wsV RX3 55 RX0 yX0_aboard wsX0_aboard) := goodIn_app (goodIn_of _ (by decide +kernel)) ggX3_takeAboard_X0_aboard
theorem dX3_takeAboard_0 : decode cX3_takeAboard 0 = .ok (.sipush 150, 3) := by decide +kernel
theorem dX3_takeAboard_3 : decode cX3_takeAboard 3 = .ok (.aload_n 0, 1) := by decide +kernel
theorem dX3_takeAboard_4 : decode cX3_takeAboard 4 = .ok (.getfield 28, 3) := by decide +kernel
theorem dX3_takeAboard_7 : decode cX3_takeAboard 7 = .ok (.iload_n 1, 1) := by decide +kernel
theorem dX3_takeAboard_8 : decode cX3_takeAboard 8 = .ok (.invokevirtual 55, 3) := by decide +kernel
theorem dX3_takeAboard_11 : decode cX3_takeAboard 11 = .ok (.isub, 1) := by decide +kernel
theorem dX3_takeAboard_12 : decode cX3_takeAboard 12 = .ok (.istore_n 3, 1) := by decide +kernel
theorem dX3_takeAboard_13 : decode cX3_takeAboard 13 = .ok (.aload_n 0, 1) := by decide +kernel
theorem dX3_takeAboard_14 : decode cX3_takeAboard 14 = .ok (.getfield 21, 3) := by decide +kernel
theorem dX3_takeAboard_17 : decode cX3_takeAboard 17 = .ok (.getfield 59, 3) := by decide +kernel
theorem dX3_takeAboard_20 : decode cX3_takeAboard 20 = .ok (.iload_n 2, 1) := by decide +kernel
theorem dX3_takeAboard_21 : decode cX3_takeAboard 21 = .ok (.iaload, 1) := by decide +kernel
theorem dX3_takeAboard_22 : decode cX3_takeAboard 22 = .ok (.iload_n 3, 1) := by decide +kernel
theorem dX3_takeAboard_23 : decode cX3_takeAboard 23 = .ok (.invokestatic 63, 3) := by decide +kernel
theorem dX3_takeAboard_26 : decode cX3_takeAboard 26 = .ok (.istore 4, 2) := by decide +kernel
theorem dX3_takeAboard_28 : decode cX3_takeAboard 28 = .ok (.aload_n 0, 1) := by decide +kernel
theorem dX3_takeAboard_29 : decode cX3_takeAboard 29 = .ok (.getfield 21, 3) := by decide +kernel
theorem dX3_takeAboard_32 : decode cX3_takeAboard 32 = .ok (.getfield 69, 3) := by decide +kernel
theorem dX3_takeAboard_35 : decode cX3_takeAboard 35 = .ok (.iload_n 2, 1) := by decide +kernel
theorem dX3_takeAboard_36 : decode cX3_takeAboard 36 = .ok (.iaload, 1) := by decide +kernel
theorem dX3_takeAboard_37 : decode cX3_takeAboard 37 = .ok (.iload_n 3, 1) := by decide +kernel
theorem dX3_takeAboard_38 : decode cX3_takeAboard 38 = .ok (.iload 4, 2) := by decide +kernel
theorem dX3_takeAboard_40 : decode cX3_takeAboard 40 = .ok (.isub, 1) := by decide +kernel
theorem dX3_takeAboard_41 : decode cX3_takeAboard 41 = .ok (.invokestatic 63, 3) := by decide +kernel
theorem dX3_takeAboard_44 : decode cX3_takeAboard 44 = .ok (.istore 5, 2) := by decide +kernel
theorem dX3_takeAboard_46 : decode cX3_takeAboard 46 = .ok (.aload_n 0, 1) := by decide +kernel
theorem dX3_takeAboard_47 : decode cX3_takeAboard 47 = .ok (.getfield 21, 3) := by decide +kernel
theorem dX3_takeAboard_50 : decode cX3_takeAboard 50 = .ok (.getfield 59, 3) := by decide +kernel
theorem dX3_takeAboard_53 : decode cX3_takeAboard 53 = .ok (.iload_n 2, 1) := by decide +kernel
theorem dX3_takeAboard_54 : decode cX3_takeAboard 54 = .ok (.dup2, 1) := by decide +kernel
theorem dX3_takeAboard_55 : decode cX3_takeAboard 55 = .ok (.iaload, 1) := by decide +kernel
theorem dX3_takeAboard_56 : decode cX3_takeAboard 56 = .ok (.iload 4, 2) := by decide +kernel
theorem dX3_takeAboard_58 : decode cX3_takeAboard 58 = .ok (.isub, 1) := by decide +kernel
theorem dX3_takeAboard_59 : decode cX3_takeAboard 59 = .ok (.iastore, 1) := by decide +kernel
theorem dX3_takeAboard_60 : decode cX3_takeAboard 60 = .ok (.aload_n 0, 1) := by decide +kernel
theorem dX3_takeAboard_61 : decode cX3_takeAboard 61 = .ok (.getfield 21, 3) := by decide +kernel
theorem dX3_takeAboard_64 : decode cX3_takeAboard 64 = .ok (.getfield 69, 3) := by decide +kernel
theorem dX3_takeAboard_67 : decode cX3_takeAboard 67 = .ok (.iload_n 2, 1) := by decide +kernel
theorem dX3_takeAboard_68 : decode cX3_takeAboard 68 = .ok (.dup2, 1) := by decide +kernel
theorem dX3_takeAboard_69 : decode cX3_takeAboard 69 = .ok (.iaload, 1) := by decide +kernel
theorem dX3_takeAboard_70 : decode cX3_takeAboard 70 = .ok (.iload 5, 2) := by decide +kernel
theorem dX3_takeAboard_72 : decode cX3_takeAboard 72 = .ok (.isub, 1) := by decide +kernel
theorem dX3_takeAboard_73 : decode cX3_takeAboard 73 = .ok (.iastore, 1) := by decide +kernel
theorem dX3_takeAboard_74 : decode cX3_takeAboard 74 = .ok (.aload_n 0, 1) := by decide +kernel
theorem dX3_takeAboard_75 : decode cX3_takeAboard 75 = .ok (.getfield 28, 3) := by decide +kernel
theorem dX3_takeAboard_78 : decode cX3_takeAboard 78 = .ok (.getfield 72, 3) := by decide +kernel
theorem dX3_takeAboard_81 : decode cX3_takeAboard 81 = .ok (.iload_n 1, 1) := by decide +kernel
theorem dX3_takeAboard_82 : decode cX3_takeAboard 82 = .ok (.dup2, 1) := by decide +kernel
theorem dX3_takeAboard_83 : decode cX3_takeAboard 83 = .ok (.iaload, 1) := by decide +kernel
theorem dX3_takeAboard_84 : decode cX3_takeAboard 84 = .ok (.iload 4, 2) := by decide +kernel
theorem dX3_takeAboard_86 : decode cX3_takeAboard 86 = .ok (.iadd, 1) := by decide +kernel
theorem dX3_takeAboard_87 : decode cX3_takeAboard 87 = .ok (.iastore, 1) := by decide +kernel
theorem dX3_takeAboard_88 : decode cX3_takeAboard 88 = .ok (.aload_n 0, 1) := by decide +kernel
theorem dX3_takeAboard_89 : decode cX3_takeAboard 89 = .ok (.getfield 28, 3) := by decide +kernel
theorem dX3_takeAboard_92 : decode cX3_takeAboard 92 = .ok (.getfield 75, 3) := by decide +kernel
theorem dX3_takeAboard_95 : decode cX3_takeAboard 95 = .ok (.iload_n 1, 1) := by decide +kernel
theorem dX3_takeAboard_96 : decode cX3_takeAboard 96 = .ok (.dup2, 1) := by decide +kernel
theorem dX3_takeAboard_97 : decode cX3_takeAboard 97 = .ok (.iaload, 1) := by decide +kernel
theorem dX3_takeAboard_98 : decode cX3_takeAboard 98 = .ok (.iload 5, 2) := by decide +kernel
theorem dX3_takeAboard_100 : decode cX3_takeAboard 100 = .ok (.iadd, 1) := by decide +kernel
theorem dX3_takeAboard_101 : decode cX3_takeAboard 101 = .ok (.iastore, 1) := by decide +kernel
theorem dX3_takeAboard_102 : decode cX3_takeAboard 102 = .ok (.iload 4, 2) := by decide +kernel
theorem dX3_takeAboard_104 : decode cX3_takeAboard 104 = .ok (.iload 5, 2) := by decide +kernel
theorem dX3_takeAboard_106 : decode cX3_takeAboard 106 = .ok (.iadd, 1) := by decide +kernel
theorem dX3_takeAboard_107 : decode cX3_takeAboard 107 = .ok (.ireturn, 1) := by decide +kernel
set_option maxRecDepth 20000 in
theorem ggX3_sellAll_X0_aboard : GoodIn wsX3_sellAll wsX0_aboard := goodIn_r _ [8, 9, 10, 33, 34, 35, 36, 37, 38] (by decide +kernel) (by decide +kernel)
set_option maxRecDepth 20000 in
theorem gX3_sellAll_X0_aboard : GoodIn wsX3_sellAll (wsV RX3 55 RX0 yX0_aboard wsX0_aboard) := goodIn_app (goodIn_of _ (by decide +kernel)) ggX3_sellAll_X0_aboard
set_option maxRecDepth 20000 in
theorem ggX3_sellAll_X2_sedgePrice : GoodIn wsX3_sellAll wsX2_sedgePrice := goodIn_r _ [15, 16, 17, 18, 19, 20, 39] (by decide +kernel) (by decide +kernel)
set_option maxRecDepth 20000 in
theorem gX3_sellAll_X2_sedgePrice : GoodIn wsX3_sellAll (wsV RX3 78 RX2 yX2_sedgePrice wsX2_sedgePrice) := goodIn_app (goodIn_of _ (by decide +kernel)) ggX3_sellAll_X2_sedgePrice
set_option maxRecDepth 20000 in
theorem ggX3_sellAll_X2_reedPrice : GoodIn wsX3_sellAll wsX2_reedPrice := goodIn_r _ [24, 17, 18, 19, 20, 25, 12, 13, 14, 15, 16, 39] (by decide +kernel) (by decide +kernel)
set_option maxRecDepth 20000 in
theorem gX3_sellAll_X2_reedPrice : GoodIn wsX3_sellAll (wsV RX3 81 RX2 yX2_reedPrice wsX2_reedPrice) := goodIn_app (goodIn_of _ (by decide +kernel)) ggX3_sellAll_X2_reedPrice
theorem dX3_sellAll_0 : decode cX3_sellAll 0 = .ok (.aload_n 0, 1) := by decide +kernel
theorem dX3_sellAll_1 : decode cX3_sellAll 1 = .ok (.getfield 28, 3) := by decide +kernel
theorem dX3_sellAll_4 : decode cX3_sellAll 4 = .ok (.iload_n 1, 1) := by decide +kernel
theorem dX3_sellAll_5 : decode cX3_sellAll 5 = .ok (.invokevirtual 55, 3) := by decide +kernel
theorem dX3_sellAll_8 : decode cX3_sellAll 8 = .ok (.istore_n 3, 1) := by decide +kernel
theorem dX3_sellAll_9 : decode cX3_sellAll 9 = .ok (.aload_n 0, 1) := by decide +kernel
theorem dX3_sellAll_10 : decode cX3_sellAll 10 = .ok (.getfield 28, 3) := by decide +kernel
theorem dX3_sellAll_13 : decode cX3_sellAll 13 = .ok (.getfield 72, 3) := by decide +kernel
theorem dX3_sellAll_16 : decode cX3_sellAll 16 = .ok (.iload_n 1, 1) := by decide +kernel
theorem dX3_sellAll_17 : decode cX3_sellAll 17 = .ok (.iaload, 1) := by decide +kernel
theorem dX3_sellAll_18 : decode cX3_sellAll 18 = .ok (.aload_n 0, 1) := by decide +kernel
theorem dX3_sellAll_19 : decode cX3_sellAll 19 = .ok (.getfield 35, 3) := by decide +kernel
theorem dX3_sellAll_22 : decode cX3_sellAll 22 = .ok (.iload_n 2, 1) := by decide +kernel
theorem dX3_sellAll_23 : decode cX3_sellAll 23 = .ok (.invokevirtual 78, 3) := by decide +kernel
theorem dX3_sellAll_26 : decode cX3_sellAll 26 = .ok (.imul, 1) := by decide +kernel
theorem dX3_sellAll_27 : decode cX3_sellAll 27 = .ok (.aload_n 0, 1) := by decide +kernel
theorem dX3_sellAll_28 : decode cX3_sellAll 28 = .ok (.getfield 28, 3) := by decide +kernel
theorem dX3_sellAll_31 : decode cX3_sellAll 31 = .ok (.getfield 75, 3) := by decide +kernel
theorem dX3_sellAll_34 : decode cX3_sellAll 34 = .ok (.iload_n 1, 1) := by decide +kernel
theorem dX3_sellAll_35 : decode cX3_sellAll 35 = .ok (.iaload, 1) := by decide +kernel
theorem dX3_sellAll_36 : decode cX3_sellAll 36 = .ok (.aload_n 0, 1) := by decide +kernel
theorem dX3_sellAll_37 : decode cX3_sellAll 37 = .ok (.getfield 35, 3) := by decide +kernel
theorem dX3_sellAll_40 : decode cX3_sellAll 40 = .ok (.iload_n 2, 1) := by decide +kernel
theorem dX3_sellAll_41 : decode cX3_sellAll 41 = .ok (.invokevirtual 81, 3) := by decide +kernel
theorem dX3_sellAll_44 : decode cX3_sellAll 44 = .ok (.imul, 1) := by decide +kernel
theorem dX3_sellAll_45 : decode cX3_sellAll 45 = .ok (.iadd, 1) := by decide +kernel
theorem dX3_sellAll_46 : decode cX3_sellAll 46 = .ok (.istore 4, 2) := by decide +kernel
theorem dX3_sellAll_48 : decode cX3_sellAll 48 = .ok (.aload_n 0, 1) := by decide +kernel
theorem dX3_sellAll_49 : decode cX3_sellAll 49 = .ok (.getfield 28, 3) := by decide +kernel
theorem dX3_sellAll_52 : decode cX3_sellAll 52 = .ok (.getfield 72, 3) := by decide +kernel
theorem dX3_sellAll_55 : decode cX3_sellAll 55 = .ok (.iload_n 1, 1) := by decide +kernel
theorem dX3_sellAll_56 : decode cX3_sellAll 56 = .ok (.iconst 0, 1) := by decide +kernel
theorem dX3_sellAll_57 : decode cX3_sellAll 57 = .ok (.iastore, 1) := by decide +kernel
theorem dX3_sellAll_58 : decode cX3_sellAll 58 = .ok (.aload_n 0, 1) := by decide +kernel
theorem dX3_sellAll_59 : decode cX3_sellAll 59 = .ok (.getfield 28, 3) := by decide +kernel
theorem dX3_sellAll_62 : decode cX3_sellAll 62 = .ok (.getfield 75, 3) := by decide +kernel
theorem dX3_sellAll_65 : decode cX3_sellAll 65 = .ok (.iload_n 1, 1) := by decide +kernel
theorem dX3_sellAll_66 : decode cX3_sellAll 66 = .ok (.iconst 0, 1) := by decide +kernel
theorem dX3_sellAll_67 : decode cX3_sellAll 67 = .ok (.iastore, 1) := by decide +kernel
theorem dX3_sellAll_68 : decode cX3_sellAll 68 = .ok (.aload_n 0, 1) := by decide +kernel
theorem dX3_sellAll_69 : decode cX3_sellAll 69 = .ok (.getfield 28, 3) := by decide +kernel
theorem dX3_sellAll_72 : decode cX3_sellAll 72 = .ok (.getfield 84, 3) := by decide +kernel
theorem dX3_sellAll_75 : decode cX3_sellAll 75 = .ok (.iload_n 1, 1) := by decide +kernel
theorem dX3_sellAll_76 : decode cX3_sellAll 76 = .ok (.dup2, 1) := by decide +kernel
theorem dX3_sellAll_77 : decode cX3_sellAll 77 = .ok (.iaload, 1) := by decide +kernel
theorem dX3_sellAll_78 : decode cX3_sellAll 78 = .ok (.iload 4, 2) := by decide +kernel
theorem dX3_sellAll_80 : decode cX3_sellAll 80 = .ok (.iadd, 1) := by decide +kernel
theorem dX3_sellAll_81 : decode cX3_sellAll 81 = .ok (.iastore, 1) := by decide +kernel
theorem dX3_sellAll_82 : decode cX3_sellAll 82 = .ok (.aload_n 0, 1) := by decide +kernel
theorem dX3_sellAll_83 : decode cX3_sellAll 83 = .ok (.getfield 35, 3) := by decide +kernel
theorem dX3_sellAll_86 : decode cX3_sellAll 86 = .ok (.getfield 87, 3) := by decide +kernel
theorem dX3_sellAll_89 : decode cX3_sellAll 89 = .ok (.iload_n 2, 1) := by decide +kernel
theorem dX3_sellAll_90 : decode cX3_sellAll 90 = .ok (.dup2, 1) := by decide +kernel
theorem dX3_sellAll_91 : decode cX3_sellAll 91 = .ok (.iaload, 1) := by decide +kernel
theorem dX3_sellAll_92 : decode cX3_sellAll 92 = .ok (.iload_n 3, 1) := by decide +kernel
theorem dX3_sellAll_93 : decode cX3_sellAll 93 = .ok (.iadd, 1) := by decide +kernel
theorem dX3_sellAll_94 : decode cX3_sellAll 94 = .ok (.iastore, 1) := by decide +kernel
theorem dX3_sellAll_95 : decode cX3_sellAll 95 = .ok (.aload_n 0, 1) := by decide +kernel
theorem dX3_sellAll_96 : decode cX3_sellAll 96 = .ok (.dup, 1) := by decide +kernel
theorem dX3_sellAll_97 : decode cX3_sellAll 97 = .ok (.getfield 9, 3) := by decide +kernel
theorem dX3_sellAll_100 : decode cX3_sellAll 100 = .ok (.iload 4, 2) := by decide +kernel
theorem dX3_sellAll_102 : decode cX3_sellAll 102 = .ok (.iadd, 1) := by decide +kernel
theorem dX3_sellAll_103 : decode cX3_sellAll 103 = .ok (.putfield 9, 3) := by decide +kernel
theorem dX3_sellAll_106 : decode cX3_sellAll 106 = .ok (.iload 4, 2) := by decide +kernel
theorem dX3_sellAll_108 : decode cX3_sellAll 108 = .ok (.ireturn, 1) := by decide +kernel
set_option maxRecDepth 20000 in
theorem ggX3_passDays_X3_passDay : GoodIn wsX3_passDays wsX3_passDay := goodIn_r _ [6, 7, 1, 8, 9, 10, 11, 12, 13, 14, 15, 16, 17, 18, 19, 20, 21, 22, 23, 24, 25, 26, 27, 28, 29, 30, 31, 32, 33, 34, 35, 36, 37, 38, 39, 40, 41, 42, 43, 44, 45, 46, 47, 48, 49, 50, 51, 52, 53, 54, 55, 56, 57, 58, 59, 60, 61, 62, 63, 64, 65, 66, 67, 68, 69, 70, 71, 72, 73, 74, 75, 76, 77, 78, 79, 80, 81, 82, 83, 84, 85, 86, 87, 88] (by decide +kernel) (by decide +kernel)
set_option maxRecDepth 20000 in
theorem gX3_passDays_X3_passDay : GoodIn wsX3_passDays (wsV RX3 90 RX3 yX3_passDay wsX3_passDay) := goodIn_app (goodIn_of _ (by decide +kernel)) ggX3_passDays_X3_passDay
theorem dX3_passDays_0 : decode cX3_passDays 0 = .ok (.aload_n 0, 1) := by decide +kernel
theorem dX3_passDays_1 : decode cX3_passDays 1 = .ok (.getfield 42, 3) := by decide +kernel
theorem dX3_passDays_4 : decode cX3_passDays 4 = .ok (.istore_n 2, 1) := by decide +kernel
theorem dX3_passDays_5 : decode cX3_passDays 5 = .ok (.iconst 0, 1) := by decide +kernel
theorem dX3_passDays_6 : decode cX3_passDays 6 = .ok (.istore_n 3, 1) := by decide +kernel
theorem dX3_passDays_7 : decode cX3_passDays 7 = .ok (.iload_n 3, 1) := by decide +kernel
theorem dX3_passDays_8 : decode cX3_passDays 8 = .ok (.iload_n 1, 1) := by decide +kernel
theorem dX3_passDays_9 : decode cX3_passDays 9 = .ok (.if_icmp .ge 13, 3) := by decide +kernel
theorem dX3_passDays_12 : decode cX3_passDays 12 = .ok (.aload_n 0, 1) := by decide +kernel
theorem dX3_passDays_13 : decode cX3_passDays 13 = .ok (.invokevirtual 90, 3) := by decide +kernel
theorem dX3_passDays_16 : decode cX3_passDays 16 = .ok (.iinc 3 1, 3) := by decide +kernel
theorem dX3_passDays_19 : decode cX3_passDays 19 = .ok (.goto (-12), 3) := by decide +kernel
theorem dX3_passDays_22 : decode cX3_passDays 22 = .ok (.aload_n 0, 1) := by decide +kernel
theorem dX3_passDays_23 : decode cX3_passDays 23 = .ok (.getfield 42, 3) := by decide +kernel
theorem dX3_passDays_26 : decode cX3_passDays 26 = .ok (.iload_n 2, 1) := by decide +kernel
theorem dX3_passDays_27 : decode cX3_passDays 27 = .ok (.isub, 1) := by decide +kernel
theorem dX3_passDays_28 : decode cX3_passDays 28 = .ok (.ireturn, 1) := by decide +kernel
set_option maxRecDepth 20000 in
theorem ggX3_passDay_X0_sailOn : GoodIn wsX3_passDay wsX0_sailOn := goodIn_r _ [10, 11, 12, 13, 14, 15, 16, 17, 18, 19, 20, 67, 68, 69, 70, 71, 72] (by decide +kernel) (by decide +kernel)
set_option maxRecDepth 20000 in
theorem gX3_passDay_X0_sailOn : GoodIn wsX3_passDay (wsV RX3 93 RX0 yX0_sailOn wsX0_sailOn) := goodIn_app (goodIn_of _ (by decide +kernel)) ggX3_passDay_X0_sailOn
set_option maxRecDepth 20000 in
theorem ggX3_passDay_X1_rot : GoodIn wsX3_passDay wsX1_rot := goodIn_r _ [25, 26, 27, 28, 29, 30, 31, 73, 74, 75, 76, 77, 78, 79, 80, 81, 82] (by decide +kernel) (by decide +kernel)
set_option maxRecDepth 20000 in
theorem gX3_passDay_X1_rot : GoodIn wsX3_passDay (wsV RX3 96 RX1 yX1_rot wsX1_rot) := goodIn_app (goodIn_of _ (by decide +kernel)) ggX3_passDay_X1_rot
set_option maxRecDepth 20000 in
theorem ggX3_passDay_X2_thatch : GoodIn wsX3_passDay wsX2_thatch := goodIn_r _ [36, 37, 38, 30, 39, 83] (by decide +kernel) (by decide +kernel)
set_option maxRecDepth 20000 in
theorem gX3_passDay_X2_thatch : GoodIn wsX3_passDay (wsV RX3 100 RX2 yX2_thatch wsX2_thatch) := goodIn_app (goodIn_of _ (by decide +kernel)) ggX3_passDay_X2_thatch
set_option maxRecDepth 20000 in
theorem ggX3_passDay_X1_endYear : GoodIn wsX3_passDay wsX1_endYear := goodIn_r _ [43, 26, 44, 45, 46, 47, 15, 16, 17, 48, 19, 20, 49, 50, 24, 51, 52, 53, 54, 55, 56, 57, 58, 59, 73, 74, 75, 76, 77, 78, 79, 80, 81, 82] (by decide +kernel) (by decide +kernel)
set_option maxRecDepth 20000 in
theorem gX3_passDay_X1_endYear : GoodIn wsX3_passDay (wsV RX3 103 RX1 yX1_endYear wsX1_endYear) := goodIn_app (goodIn_of _ (by decide +kernel)) ggX3_passDay_X1_endYear
theorem dX3_passDay_0 : decode cX3_passDay 0 = .ok (.aload_n 0, 1) := by decide +kernel
theorem dX3_passDay_1 : decode cX3_passDay 1 = .ok (.getfield 28, 3) := by decide +kernel
theorem dX3_passDay_4 : decode cX3_passDay 4 = .ok (.invokevirtual 93, 3) := by decide +kernel
theorem dX3_passDay_7 : decode cX3_passDay 7 = .ok (.aload_n 0, 1) := by decide +kernel
theorem dX3_passDay_8 : decode cX3_passDay 8 = .ok (.dup, 1) := by decide +kernel
theorem dX3_passDay_9 : decode cX3_passDay 9 = .ok (.getfield 42, 3) := by decide +kernel
theorem dX3_passDay_12 : decode cX3_passDay 12 = .ok (.aload_n 0, 1) := by decide +kernel
theorem dX3_passDay_13 : decode cX3_passDay 13 = .ok (.getfield 21, 3) := by decide +kernel
theorem dX3_passDay_16 : decode cX3_passDay 16 = .ok (.invokevirtual 96, 3) := by decide +kernel
theorem dX3_passDay_19 : decode cX3_passDay 19 = .ok (.iadd, 1) := by decide +kernel
theorem dX3_passDay_20 : decode cX3_passDay 20 = .ok (.putfield 42, 3) := by decide +kernel
theorem dX3_passDay_23 : decode cX3_passDay 23 = .ok (.aload_n 0, 1) := by decide +kernel
theorem dX3_passDay_24 : decode cX3_passDay 24 = .ok (.getfield 35, 3) := by decide +kernel
theorem dX3_passDay_27 : decode cX3_passDay 27 = .ok (.invokevirtual 100, 3) := by decide +kernel
theorem dX3_passDay_30 : decode cX3_passDay 30 = .ok (.aload_n 0, 1) := by decide +kernel
theorem dX3_passDay_31 : decode cX3_passDay 31 = .ok (.getfield 39, 3) := by decide +kernel
theorem dX3_passDay_34 : decode cX3_passDay 34 = .ok (.bipush 100, 2) := by decide +kernel
theorem dX3_passDay_36 : decode cX3_passDay 36 = .ok (.irem, 1) := by decide +kernel
theorem dX3_passDay_37 : decode cX3_passDay 37 = .ok (.bipush 99, 2) := by decide +kernel
theorem dX3_passDay_39 : decode cX3_passDay 39 = .ok (.if_icmp .ne 10, 3) := by decide +kernel
theorem dX3_passDay_42 : decode cX3_passDay 42 = .ok (.aload_n 0, 1) := by decide +kernel
theorem dX3_passDay_43 : decode cX3_passDay 43 = .ok (.getfield 21, 3) := by decide +kernel
theorem dX3_passDay_46 : decode cX3_passDay 46 = .ok (.invokevirtual 103, 3) := by decide +kernel
theorem dX3_passDay_49 : decode cX3_passDay 49 = .ok (.aload_n 0, 1) := by decide +kernel
theorem dX3_passDay_50 : decode cX3_passDay 50 = .ok (.dup, 1) := by decide +kernel
theorem dX3_passDay_51 : decode cX3_passDay 51 = .ok (.getfield 39, 3) := by decide +kernel
theorem dX3_passDay_54 : decode cX3_passDay 54 = .ok (.iconst 1, 1) := by decide +kernel
theorem dX3_passDay_55 : decode cX3_passDay 55 = .ok (.iadd, 1) := by decide +kernel
theorem dX3_passDay_56 : decode cX3_passDay 56 = .ok (.putfield 39, 3) := by decide +kernel
theorem dX3_passDay_59 : decode cX3_passDay 59 = .ok (.return_, 1) := by decide +kernel
set_option maxRecDepth 20000 in
theorem ggX3_tell_X1_givenByAll : GoodIn wsX3_tell wsX1_givenByAll := goodIn_r _ [12, 13, 14, 15, 16, 11, 17, 18, 19, 57, 58, 59, 60, 61, 62, 63, 64, 65, 66] (by decide +kernel) (by decide +kernel)
set_option maxRecDepth 20000 in
theorem gX3_tell_X1_givenByAll : GoodIn wsX3_tell (wsV RX3 109 RX1 yX1_givenByAll wsX1_givenByAll) := goodIn_app (goodIn_of _ (by decide +kernel)) ggX3_tell_X1_givenByAll
set_option maxRecDepth 20000 in
theorem ggX3_tell_X1_untiedOfAll : GoodIn wsX3_tell wsX1_untiedOfAll := goodIn_r _ [23, 13, 24, 25, 57, 58, 59, 60, 61, 62, 63, 64, 65, 66] (by decide +kernel) (by decide +kernel)
set_option maxRecDepth 20000 in
theorem gX3_tell_X1_untiedOfAll : GoodIn wsX3_tell (wsV RX3 112 RX1 yX1_untiedOfAll wsX1_untiedOfAll) := goodIn_app (goodIn_of _ (by decide +kernel)) ggX3_tell_X1_untiedOfAll
set_option maxRecDepth 20000 in
theorem ggX3_tell_X1_tiedOfAll : GoodIn wsX3_tell wsX1_tiedOfAll := goodIn_r _ [29, 13, 30, 31, 57, 58, 59, 60, 61, 62, 63, 64, 65, 66] (by decide +kernel) (by decide +kernel)
set_option maxRecDepth 20000 in
theorem gX3_tell_X1_tiedOfAll : GoodIn wsX3_tell (wsV RX3 115 RX1 yX1_tiedOfAll wsX1_tiedOfAll) := goodIn_app (goodIn_of _ (by decide +kernel)) ggX3_tell_X1_tiedOfAll
set_option maxRecDepth 20000 in
theorem ggX3_tell_X0_aboardAll : GoodIn wsX3_tell wsX0_aboardAll := goodIn_r _ [36, 37, 38, 39, 40, 35, 41, 42, 43, 67, 68, 69, 70, 71, 72] (by decide +kernel) (by decide +kernel)
set_option maxRecDepth 20000 in
theorem gX3_tell_X0_aboardAll : GoodIn wsX3_tell (wsV RX3 119 RX0 yX0_aboardAll wsX0_aboardAll) := goodIn_app (goodIn_of _ (by decide +kernel)) ggX3_tell_X0_aboardAll
set_option maxRecDepth 20000 in
theorem ggX3_tell_X2_storeOfAll : GoodIn wsX3_tell wsX2_storeOfAll := goodIn_r _ [48, 49, 73] (by decide +kernel) (by decide +kernel)
set_option maxRecDepth 20000 in
theorem gX3_tell_X2_storeOfAll : GoodIn wsX3_tell (wsV RX3 122 RX2 yX2_storeOfAll wsX2_storeOfAll) := goodIn_app (goodIn_of _ (by decide +kernel)) ggX3_tell_X2_storeOfAll
theorem dX3_tell_0 : decode cX3_tell 0 = .ok (.iload_n 1, 1) := by decide +kernel
theorem dX3_tell_1 : decode cX3_tell 1 = .ok (.tableswitch 126 0 9 #[55, 60, 65, 70, 78, 86, 94, 102, 110, 118], 55) := by decide +kernel
theorem dX3_tell_56 : decode cX3_tell 56 = .ok (.aload_n 0, 1) := by decide +kernel
theorem dX3_tell_57 : decode cX3_tell 57 = .ok (.getfield 39, 3) := by decide +kernel
theorem dX3_tell_60 : decode cX3_tell 60 = .ok (.ireturn, 1) := by decide +kernel
theorem dX3_tell_61 : decode cX3_tell 61 = .ok (.aload_n 0, 1) := by decide +kernel
theorem dX3_tell_62 : decode cX3_tell 62 = .ok (.getfield 9, 3) := by decide +kernel
theorem dX3_tell_65 : decode cX3_tell 65 = .ok (.ireturn, 1) := by decide +kernel
theorem dX3_tell_66 : decode cX3_tell 66 = .ok (.aload_n 0, 1) := by decide +kernel
theorem dX3_tell_67 : decode cX3_tell 67 = .ok (.getfield 15, 3) := by decide +kernel
theorem dX3_tell_70 : decode cX3_tell 70 = .ok (.ireturn, 1) := by decide +kernel
theorem dX3_tell_71 : decode cX3_tell 71 = .ok (.aload_n 0, 1) := by decide +kernel
theorem dX3_tell_72 : decode cX3_tell 72 = .ok (.getfield 21, 3) := by decide +kernel
theorem dX3_tell_75 : decode cX3_tell 75 = .ok (.getfield 106, 3) := by decide +kernel
theorem dX3_tell_78 : decode cX3_tell 78 = .ok (.ireturn, 1) := by decide +kernel
theorem dX3_tell_79 : decode cX3_tell 79 = .ok (.aload_n 0, 1) := by decide +kernel
theorem dX3_tell_80 : decode cX3_tell 80 = .ok (.getfield 21, 3) := by decide +kernel
theorem dX3_tell_83 : decode cX3_tell 83 = .ok (.invokevirtual 109, 3) := by decide +kernel
theorem dX3_tell_86 : decode cX3_tell 86 = .ok (.ireturn, 1) := by decide +kernel
theorem dX3_tell_87 : decode cX3_tell 87 = .ok (.aload_n 0, 1) := by decide +kernel
theorem dX3_tell_88 : decode cX3_tell 88 = .ok (.getfield 21, 3) := by decide +kernel
theorem dX3_tell_91 : decode cX3_tell 91 = .ok (.invokevirtual 112, 3) := by decide +kernel
theorem dX3_tell_94 : decode cX3_tell 94 = .ok (.ireturn, 1) := by decide +kernel
theorem dX3_tell_95 : decode cX3_tell 95 = .ok (.aload_n 0, 1) := by decide +kernel
theorem dX3_tell_96 : decode cX3_tell 96 = .ok (.getfield 21, 3) := by decide +kernel
theorem dX3_tell_99 : decode cX3_tell 99 = .ok (.invokevirtual 115, 3) := by decide +kernel
theorem dX3_tell_102 : decode cX3_tell 102 = .ok (.ireturn, 1) := by decide +kernel
theorem dX3_tell_103 : decode cX3_tell 103 = .ok (.aload_n 0, 1) := by decide +kernel
theorem dX3_tell_104 : decode cX3_tell 104 = .ok (.getfield 28, 3) := by decide +kernel
theorem dX3_tell_107 : decode cX3_tell 107 = .ok (.getfield 118, 3) := by decide +kernel
theorem dX3_tell_110 : decode cX3_tell 110 = .ok (.ireturn, 1) := by decide +kernel
theorem dX3_tell_111 : decode cX3_tell 111 = .ok (.aload_n 0, 1) := by decide +kernel
theorem dX3_tell_112 : decode cX3_tell 112 = .ok (.getfield 28, 3) := by decide +kernel
theorem dX3_tell_115 : decode cX3_tell 115 = .ok (.invokevirtual 119, 3) := by decide +kernel
theorem dX3_tell_118 : decode cX3_tell 118 = .ok (.ireturn, 1) := by decide +kernel
theorem dX3_tell_119 : decode cX3_tell 119 = .ok (.aload_n 0, 1) := by decide +kernel
theorem dX3_tell_120 : decode cX3_tell 120 = .ok (.getfield 35, 3) := by decide +kernel
theorem dX3_tell_123 : decode cX3_tell 123 = .ok (.invokevirtual 122, 3) := by decide +kernel
theorem dX3_tell_126 : decode cX3_tell 126 = .ok (.ireturn, 1) := by decide +kernel
theorem dX3_tell_127 : decode cX3_tell 127 = .ok (.aload_n 0, 1) := by decide +kernel
theorem dX3_tell_128 : decode cX3_tell 128 = .ok (.getfield 42, 3) := by decide +kernel
theorem dX3_tell_131 : decode cX3_tell 131 = .ok (.ireturn, 1) := by decide +kernel
