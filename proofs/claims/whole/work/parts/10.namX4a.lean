theorem dX4_init_0 : decode cX4_init 0 = .ok (.aload_n 0, 1) := by decide +kernel
theorem dX4_init_1 : decode cX4_init 1 = .ok (.invokespecial 1, 3) := by decide +kernel
theorem dX4_init_4 : decode cX4_init 4 = .ok (.aload_n 0, 1) := by decide +kernel
theorem dX4_init_5 : decode cX4_init 5 = .ok (.sipush 236, 3) := by decide +kernel
theorem dX4_init_8 : decode cX4_init 8 = .ok (.newarray .int, 2) := by decide +kernel
theorem dX4_init_10 : decode cX4_init 10 = .ok (.putfield 7, 3) := by decide +kernel
theorem dX4_init_13 : decode cX4_init 13 = .ok (.aload_n 0, 1) := by decide +kernel
theorem dX4_init_14 : decode cX4_init 14 = .ok (.sipush 236, 3) := by decide +kernel
theorem dX4_init_17 : decode cX4_init 17 = .ok (.newarray .int, 2) := by decide +kernel
theorem dX4_init_19 : decode cX4_init 19 = .ok (.putfield 13, 3) := by decide +kernel
theorem dX4_init_22 : decode cX4_init 22 = .ok (.aload_n 0, 1) := by decide +kernel
theorem dX4_init_23 : decode cX4_init 23 = .ok (.sipush 944, 3) := by decide +kernel
theorem dX4_init_26 : decode cX4_init 26 = .ok (.newarray .int, 2) := by decide +kernel
theorem dX4_init_28 : decode cX4_init 28 = .ok (.putfield 16, 3) := by decide +kernel
theorem dX4_init_31 : decode cX4_init 31 = .ok (.aload_n 0, 1) := by decide +kernel
theorem dX4_init_32 : decode cX4_init 32 = .ok (.bipush 60, 2) := by decide +kernel
theorem dX4_init_34 : decode cX4_init 34 = .ok (.newarray .int, 2) := by decide +kernel
theorem dX4_init_36 : decode cX4_init 36 = .ok (.putfield 19, 3) := by decide +kernel
theorem dX4_init_39 : decode cX4_init 39 = .ok (.aload_n 0, 1) := by decide +kernel
theorem dX4_init_40 : decode cX4_init 40 = .ok (.iconst 3, 1) := by decide +kernel
theorem dX4_init_41 : decode cX4_init 41 = .ok (.newarray .int, 2) := by decide +kernel
theorem dX4_init_43 : decode cX4_init 43 = .ok (.putfield 22, 3) := by decide +kernel
theorem dX4_init_46 : decode cX4_init 46 = .ok (.aload_n 0, 1) := by decide +kernel
theorem dX4_init_47 : decode cX4_init 47 = .ok (.getfield 7, 3) := by decide +kernel
theorem dX4_init_50 : decode cX4_init 50 = .ok (.iconst 1, 1) := by decide +kernel
theorem dX4_init_51 : decode cX4_init 51 = .ok (.bipush 24, 2) := by decide +kernel
theorem dX4_init_53 : decode cX4_init 53 = .ok (.iastore, 1) := by decide +kernel
theorem dX4_init_54 : decode cX4_init 54 = .ok (.return_, 1) := by decide +kernel
theorem dX4_in_0 : decode cX4_in 0 = .ok (.iload_n 0, 1) := by decide +kernel
theorem dX4_in_1 : decode cX4_in 1 = .ok (.iload_n 1, 1) := by decide +kernel
theorem dX4_in_2 : decode cX4_in 2 = .ok (.if_icmp .lt 12, 3) := by decide +kernel
theorem dX4_in_5 : decode cX4_in 5 = .ok (.iload_n 0, 1) := by decide +kernel
theorem dX4_in_6 : decode cX4_in 6 = .ok (.iload_n 2, 1) := by decide +kernel
theorem dX4_in_7 : decode cX4_in 7 = .ok (.if_icmp .gt 7, 3) := by decide +kernel
theorem dX4_in_10 : decode cX4_in 10 = .ok (.iconst 1, 1) := by decide +kernel
theorem dX4_in_11 : decode cX4_in 11 = .ok (.goto 4, 3) := by decide +kernel
theorem dX4_in_14 : decode cX4_in 14 = .ok (.iconst 0, 1) := by decide +kernel
theorem dX4_in_15 : decode cX4_in 15 = .ok (.ireturn, 1) := by decide +kernel
theorem dX4_least_0 : decode cX4_least 0 = .ok (.iload_n 0, 1) := by decide +kernel
theorem dX4_least_1 : decode cX4_least 1 = .ok (.iload_n 1, 1) := by decide +kernel
theorem dX4_least_2 : decode cX4_least 2 = .ok (.if_icmp .ge 7, 3) := by decide +kernel
theorem dX4_least_5 : decode cX4_least 5 = .ok (.iload_n 0, 1) := by decide +kernel
theorem dX4_least_6 : decode cX4_least 6 = .ok (.goto 4, 3) := by decide +kernel
theorem dX4_least_9 : decode cX4_least 9 = .ok (.iload_n 1, 1) := by decide +kernel
theorem dX4_least_10 : decode cX4_least 10 = .ok (.ireturn, 1) := by decide +kernel
theorem dX4_copy_0 : decode cX4_copy 0 = .ok (.iconst 0, 1) := by decide +kernel
theorem dX4_copy_1 : decode cX4_copy 1 = .ok (.istore_n 1, 1) := by decide +kernel
theorem dX4_copy_2 : decode cX4_copy 2 = .ok (.iload_n 1, 1) := by decide +kernel
theorem dX4_copy_3 : decode cX4_copy 3 = .ok (.sipush 236, 3) := by decide +kernel
theorem dX4_copy_6 : decode cX4_copy 6 = .ok (.if_icmp .ge 21, 3) := by decide +kernel
theorem dX4_copy_9 : decode cX4_copy 9 = .ok (.aload_n 0, 1) := by decide +kernel
theorem dX4_copy_10 : decode cX4_copy 10 = .ok (.getfield 13, 3) := by decide +kernel
theorem dX4_copy_13 : decode cX4_copy 13 = .ok (.iload_n 1, 1) := by decide +kernel
theorem dX4_copy_14 : decode cX4_copy 14 = .ok (.aload_n 0, 1) := by decide +kernel
theorem dX4_copy_15 : decode cX4_copy 15 = .ok (.getfield 7, 3) := by decide +kernel
theorem dX4_copy_18 : decode cX4_copy 18 = .ok (.iload_n 1, 1) := by decide +kernel
theorem dX4_copy_19 : decode cX4_copy 19 = .ok (.iaload, 1) := by decide +kernel
theorem dX4_copy_20 : decode cX4_copy 20 = .ok (.iastore, 1) := by decide +kernel
theorem dX4_copy_21 : decode cX4_copy 21 = .ok (.iinc 1 1, 3) := by decide +kernel
theorem dX4_copy_24 : decode cX4_copy 24 = .ok (.goto (-22), 3) := by decide +kernel
theorem dX4_copy_27 : decode cX4_copy 27 = .ok (.return_, 1) := by decide +kernel
theorem dX4_back_0 : decode cX4_back 0 = .ok (.iconst 0, 1) := by decide +kernel
theorem dX4_back_1 : decode cX4_back 1 = .ok (.istore_n 1, 1) := by decide +kernel
theorem dX4_back_2 : decode cX4_back 2 = .ok (.iload_n 1, 1) := by decide +kernel
theorem dX4_back_3 : decode cX4_back 3 = .ok (.sipush 236, 3) := by decide +kernel
theorem dX4_back_6 : decode cX4_back 6 = .ok (.if_icmp .ge 21, 3) := by decide +kernel
theorem dX4_back_9 : decode cX4_back 9 = .ok (.aload_n 0, 1) := by decide +kernel
theorem dX4_back_10 : decode cX4_back 10 = .ok (.getfield 7, 3) := by decide +kernel
theorem dX4_back_13 : decode cX4_back 13 = .ok (.iload_n 1, 1) := by decide +kernel
theorem dX4_back_14 : decode cX4_back 14 = .ok (.aload_n 0, 1) := by decide +kernel
theorem dX4_back_15 : decode cX4_back 15 = .ok (.getfield 13, 3) := by decide +kernel
theorem dX4_back_18 : decode cX4_back 18 = .ok (.iload_n 1, 1) := by decide +kernel
theorem dX4_back_19 : decode cX4_back 19 = .ok (.iaload, 1) := by decide +kernel
theorem dX4_back_20 : decode cX4_back 20 = .ok (.iastore, 1) := by decide +kernel
theorem dX4_back_21 : decode cX4_back 21 = .ok (.iinc 1 1, 3) := by decide +kernel
theorem dX4_back_24 : decode cX4_back 24 = .ok (.goto (-22), 3) := by decide +kernel
theorem dX4_back_27 : decode cX4_back 27 = .ok (.return_, 1) := by decide +kernel
theorem dX4_recorded_0 : decode cX4_recorded 0 = .ok (.iload_n 1, 1) := by decide +kernel
theorem dX4_recorded_1 : decode cX4_recorded 1 = .ok (.ifCond .lt 73, 3) := by decide +kernel
theorem dX4_recorded_4 : decode cX4_recorded 4 = .ok (.iconst 0, 1) := by decide +kernel
theorem dX4_recorded_5 : decode cX4_recorded 5 = .ok (.istore_n 2, 1) := by decide +kernel
theorem dX4_recorded_6 : decode cX4_recorded 6 = .ok (.iload_n 2, 1) := by decide +kernel
theorem dX4_recorded_7 : decode cX4_recorded 7 = .ok (.sipush 236, 3) := by decide +kernel
theorem dX4_recorded_10 : decode cX4_recorded 10 = .ok (.if_icmp .ge 30, 3) := by decide +kernel
theorem dX4_recorded_13 : decode cX4_recorded 13 = .ok (.aload_n 0, 1) := by decide +kernel
theorem dX4_recorded_14 : decode cX4_recorded 14 = .ok (.getfield 16, 3) := by decide +kernel
theorem dX4_recorded_17 : decode cX4_recorded 17 = .ok (.sipush 236, 3) := by decide +kernel
theorem dX4_recorded_20 : decode cX4_recorded 20 = .ok (.aload_n 0, 1) := by decide +kernel
theorem dX4_recorded_21 : decode cX4_recorded 21 = .ok (.getfield 25, 3) := by decide +kernel
theorem dX4_recorded_24 : decode cX4_recorded 24 = .ok (.imul, 1) := by decide +kernel
theorem dX4_recorded_25 : decode cX4_recorded 25 = .ok (.iload_n 2, 1) := by decide +kernel
theorem dX4_recorded_26 : decode cX4_recorded 26 = .ok (.iadd, 1) := by decide +kernel
theorem dX4_recorded_27 : decode cX4_recorded 27 = .ok (.aload_n 0, 1) := by decide +kernel
theorem dX4_recorded_28 : decode cX4_recorded 28 = .ok (.getfield 13, 3) := by decide +kernel
theorem dX4_recorded_31 : decode cX4_recorded 31 = .ok (.iload_n 2, 1) := by decide +kernel
theorem dX4_recorded_32 : decode cX4_recorded 32 = .ok (.iaload, 1) := by decide +kernel
theorem dX4_recorded_33 : decode cX4_recorded 33 = .ok (.iastore, 1) := by decide +kernel
theorem dX4_recorded_34 : decode cX4_recorded 34 = .ok (.iinc 2 1, 3) := by decide +kernel
theorem dX4_recorded_37 : decode cX4_recorded 37 = .ok (.goto (-31), 3) := by decide +kernel
theorem dX4_recorded_40 : decode cX4_recorded 40 = .ok (.aload_n 0, 1) := by decide +kernel
theorem dX4_recorded_41 : decode cX4_recorded 41 = .ok (.aload_n 0, 1) := by decide +kernel
theorem dX4_recorded_42 : decode cX4_recorded 42 = .ok (.getfield 25, 3) := by decide +kernel
theorem dX4_recorded_45 : decode cX4_recorded 45 = .ok (.iconst 1, 1) := by decide +kernel
theorem dX4_recorded_46 : decode cX4_recorded 46 = .ok (.iadd, 1) := by decide +kernel
theorem dX4_recorded_47 : decode cX4_recorded 47 = .ok (.iconst 4, 1) := by decide +kernel
theorem dX4_recorded_48 : decode cX4_recorded 48 = .ok (.irem, 1) := by decide +kernel
theorem dX4_recorded_49 : decode cX4_recorded 49 = .ok (.putfield 25, 3) := by decide +kernel
theorem dX4_recorded_52 : decode cX4_recorded 52 = .ok (.aload_n 0, 1) := by decide +kernel
theorem dX4_recorded_53 : decode cX4_recorded 53 = .ok (.aload_n 0, 1) := by decide +kernel
theorem dX4_recorded_54 : decode cX4_recorded 54 = .ok (.getfield 29, 3) := by decide +kernel
theorem dX4_recorded_57 : decode cX4_recorded 57 = .ok (.iconst 4, 1) := by decide +kernel
theorem dX4_recorded_58 : decode cX4_recorded 58 = .ok (.if_icmp .ge 12, 3) := by decide +kernel
theorem dX4_recorded_61 : decode cX4_recorded 61 = .ok (.aload_n 0, 1) := by decide +kernel
theorem dX4_recorded_62 : decode cX4_recorded 62 = .ok (.getfield 29, 3) := by decide +kernel
theorem dX4_recorded_65 : decode cX4_recorded 65 = .ok (.iconst 1, 1) := by decide +kernel
theorem dX4_recorded_66 : decode cX4_recorded 66 = .ok (.iadd, 1) := by decide +kernel
theorem dX4_recorded_67 : decode cX4_recorded 67 = .ok (.goto 4, 3) := by decide +kernel
theorem dX4_recorded_70 : decode cX4_recorded 70 = .ok (.iconst 4, 1) := by decide +kernel
theorem dX4_recorded_71 : decode cX4_recorded 71 = .ok (.putfield 29, 3) := by decide +kernel
theorem dX4_recorded_74 : decode cX4_recorded 74 = .ok (.iload_n 1, 1) := by decide +kernel
theorem dX4_recorded_75 : decode cX4_recorded 75 = .ok (.ireturn, 1) := by decide +kernel
theorem dX4_undo_0 : decode cX4_undo 0 = .ok (.aload_n 0, 1) := by decide +kernel
theorem dX4_undo_1 : decode cX4_undo 1 = .ok (.getfield 29, 3) := by decide +kernel
theorem dX4_undo_4 : decode cX4_undo 4 = .ok (.ifCond .ne 6, 3) := by decide +kernel
theorem dX4_undo_7 : decode cX4_undo 7 = .ok (.bipush (-2), 2) := by decide +kernel
theorem dX4_undo_9 : decode cX4_undo 9 = .ok (.ireturn, 1) := by decide +kernel
theorem dX4_undo_10 : decode cX4_undo 10 = .ok (.aload_n 0, 1) := by decide +kernel
theorem dX4_undo_11 : decode cX4_undo 11 = .ok (.aload_n 0, 1) := by decide +kernel
theorem dX4_undo_12 : decode cX4_undo 12 = .ok (.getfield 25, 3) := by decide +kernel
theorem dX4_undo_15 : decode cX4_undo 15 = .ok (.iconst 4, 1) := by decide +kernel
theorem dX4_undo_16 : decode cX4_undo 16 = .ok (.iadd, 1) := by decide +kernel
theorem dX4_undo_17 : decode cX4_undo 17 = .ok (.iconst 1, 1) := by decide +kernel
theorem dX4_undo_18 : decode cX4_undo 18 = .ok (.isub, 1) := by decide +kernel
theorem dX4_undo_19 : decode cX4_undo 19 = .ok (.iconst 4, 1) := by decide +kernel
theorem dX4_undo_20 : decode cX4_undo 20 = .ok (.irem, 1) := by decide +kernel
theorem dX4_undo_21 : decode cX4_undo 21 = .ok (.putfield 25, 3) := by decide +kernel
theorem dX4_undo_24 : decode cX4_undo 24 = .ok (.aload_n 0, 1) := by decide +kernel
theorem dX4_undo_25 : decode cX4_undo 25 = .ok (.dup, 1) := by decide +kernel
theorem dX4_undo_26 : decode cX4_undo 26 = .ok (.getfield 29, 3) := by decide +kernel
theorem dX4_undo_29 : decode cX4_undo 29 = .ok (.iconst 1, 1) := by decide +kernel
theorem dX4_undo_30 : decode cX4_undo 30 = .ok (.isub, 1) := by decide +kernel
theorem dX4_undo_31 : decode cX4_undo 31 = .ok (.putfield 29, 3) := by decide +kernel
theorem dX4_undo_34 : decode cX4_undo 34 = .ok (.iconst 0, 1) := by decide +kernel
theorem dX4_undo_35 : decode cX4_undo 35 = .ok (.istore_n 1, 1) := by decide +kernel
theorem dX4_undo_36 : decode cX4_undo 36 = .ok (.iload_n 1, 1) := by decide +kernel
theorem dX4_undo_37 : decode cX4_undo 37 = .ok (.sipush 236, 3) := by decide +kernel
theorem dX4_undo_40 : decode cX4_undo 40 = .ok (.if_icmp .ge 30, 3) := by decide +kernel
theorem dX4_undo_43 : decode cX4_undo 43 = .ok (.aload_n 0, 1) := by decide +kernel
theorem dX4_undo_44 : decode cX4_undo 44 = .ok (.getfield 7, 3) := by decide +kernel
theorem dX4_undo_47 : decode cX4_undo 47 = .ok (.iload_n 1, 1) := by decide +kernel
theorem dX4_undo_48 : decode cX4_undo 48 = .ok (.aload_n 0, 1) := by decide +kernel
theorem dX4_undo_49 : decode cX4_undo 49 = .ok (.getfield 16, 3) := by decide +kernel
theorem dX4_undo_52 : decode cX4_undo 52 = .ok (.sipush 236, 3) := by decide +kernel
theorem dX4_undo_55 : decode cX4_undo 55 = .ok (.aload_n 0, 1) := by decide +kernel
theorem dX4_undo_56 : decode cX4_undo 56 = .ok (.getfield 25, 3) := by decide +kernel
theorem dX4_undo_59 : decode cX4_undo 59 = .ok (.imul, 1) := by decide +kernel
theorem dX4_undo_60 : decode cX4_undo 60 = .ok (.iload_n 1, 1) := by decide +kernel
theorem dX4_undo_61 : decode cX4_undo 61 = .ok (.iadd, 1) := by decide +kernel
theorem dX4_undo_62 : decode cX4_undo 62 = .ok (.iaload, 1) := by decide +kernel
theorem dX4_undo_63 : decode cX4_undo 63 = .ok (.iastore, 1) := by decide +kernel
theorem dX4_undo_64 : decode cX4_undo 64 = .ok (.iinc 1 1, 3) := by decide +kernel
theorem dX4_undo_67 : decode cX4_undo 67 = .ok (.goto (-31), 3) := by decide +kernel
theorem dX4_undo_70 : decode cX4_undo 70 = .ok (.aload_n 0, 1) := by decide +kernel
theorem dX4_undo_71 : decode cX4_undo 71 = .ok (.getfield 29, 3) := by decide +kernel
theorem dX4_undo_74 : decode cX4_undo 74 = .ok (.ireturn, 1) := by decide +kernel
set_option maxRecDepth 20000 in
theorem ggX4_isWell_X4_in : GoodIn wsX4_isWell wsX4_in := goodIn_r _ [5] (by decide +kernel) (by decide +kernel)
set_option maxRecDepth 20000 in
theorem gX4_isWell_X4_in : GoodIn wsX4_isWell (va_wsS RX4 32 yX4_in wsX4_in) := goodIn_app (goodIn_of _ (by decide +kernel)) ggX4_isWell_X4_in
theorem dX4_isWell_0 : decode cX4_isWell 0 = .ok (.iload_n 1, 1) := by decide +kernel
theorem dX4_isWell_1 : decode cX4_isWell 1 = .ok (.iconst 0, 1) := by decide +kernel
theorem dX4_isWell_2 : decode cX4_isWell 2 = .ok (.aload_n 0, 1) := by decide +kernel
theorem dX4_isWell_3 : decode cX4_isWell 3 = .ok (.getfield 7, 3) := by decide +kernel
theorem dX4_isWell_6 : decode cX4_isWell 6 = .ok (.iconst 3, 1) := by decide +kernel
theorem dX4_isWell_7 : decode cX4_isWell 7 = .ok (.iaload, 1) := by decide +kernel
theorem dX4_isWell_8 : decode cX4_isWell 8 = .ok (.iconst 1, 1) := by decide +kernel
theorem dX4_isWell_9 : decode cX4_isWell 9 = .ok (.isub, 1) := by decide +kernel
theorem dX4_isWell_10 : decode cX4_isWell 10 = .ok (.invokestatic 32, 3) := by decide +kernel
theorem dX4_isWell_13 : decode cX4_isWell 13 = .ok (.ireturn, 1) := by decide +kernel
theorem dX4_of_0 : decode cX4_of 0 = .ok (.aload_n 0, 1) := by decide +kernel
theorem dX4_of_1 : decode cX4_of 1 = .ok (.getfield 7, 3) := by decide +kernel
theorem dX4_of_4 : decode cX4_of 4 = .ok (.bipush 8, 2) := by decide +kernel
theorem dX4_of_6 : decode cX4_of 6 = .ok (.bipush 12, 2) := by decide +kernel
theorem dX4_of_8 : decode cX4_of 8 = .ok (.iload_n 1, 1) := by decide +kernel
theorem dX4_of_9 : decode cX4_of 9 = .ok (.imul, 1) := by decide +kernel
theorem dX4_of_10 : decode cX4_of 10 = .ok (.iadd, 1) := by decide +kernel
theorem dX4_of_11 : decode cX4_of 11 = .ok (.iload_n 2, 1) := by decide +kernel
theorem dX4_of_12 : decode cX4_of 12 = .ok (.iadd, 1) := by decide +kernel
theorem dX4_of_13 : decode cX4_of 13 = .ok (.iaload, 1) := by decide +kernel
theorem dX4_of_14 : decode cX4_of 14 = .ok (.ireturn, 1) := by decide +kernel
theorem dX4_adds_0 : decode cX4_adds 0 = .ok (.aload_n 0, 1) := by decide +kernel
theorem dX4_adds_1 : decode cX4_adds 1 = .ok (.getfield 7, 3) := by decide +kernel
theorem dX4_adds_4 : decode cX4_adds 4 = .ok (.bipush 8, 2) := by decide +kernel
theorem dX4_adds_6 : decode cX4_adds 6 = .ok (.bipush 12, 2) := by decide +kernel
theorem dX4_adds_8 : decode cX4_adds 8 = .ok (.iload_n 1, 1) := by decide +kernel
theorem dX4_adds_9 : decode cX4_adds 9 = .ok (.imul, 1) := by decide +kernel
theorem dX4_adds_10 : decode cX4_adds 10 = .ok (.iadd, 1) := by decide +kernel
theorem dX4_adds_11 : decode cX4_adds 11 = .ok (.iload_n 2, 1) := by decide +kernel
theorem dX4_adds_12 : decode cX4_adds 12 = .ok (.iadd, 1) := by decide +kernel
theorem dX4_adds_13 : decode cX4_adds 13 = .ok (.dup2, 1) := by decide +kernel
theorem dX4_adds_14 : decode cX4_adds 14 = .ok (.iaload, 1) := by decide +kernel
theorem dX4_adds_15 : decode cX4_adds 15 = .ok (.iload_n 3, 1) := by decide +kernel
theorem dX4_adds_16 : decode cX4_adds 16 = .ok (.iadd, 1) := by decide +kernel
theorem dX4_adds_17 : decode cX4_adds 17 = .ok (.iastore, 1) := by decide +kernel
theorem dX4_adds_18 : decode cX4_adds 18 = .ok (.return_, 1) := by decide +kernel
set_option maxRecDepth 20000 in
theorem ggX4_half_X4_of : GoodIn wsX4_half wsX4_of := goodIn_r _ [5, 6, 7, 8, 9, 10, 11, 12, 13, 14, 15, 16, 17, 18] (by decide +kernel) (by decide +kernel)
set_option maxRecDepth 20000 in
theorem gX4_half_X4_of : GoodIn wsX4_half (wsV RX4 36 RX4 yX4_of wsX4_of) := goodIn_app (goodIn_of _ (by decide +kernel)) ggX4_half_X4_of
theorem dX4_half_0 : decode cX4_half 0 = .ok (.aload_n 0, 1) := by decide +kernel
theorem dX4_half_1 : decode cX4_half 1 = .ok (.iload_n 1, 1) := by decide +kernel
theorem dX4_half_2 : decode cX4_half 2 = .ok (.iconst 1, 1) := by decide +kernel
theorem dX4_half_3 : decode cX4_half 3 = .ok (.invokevirtual 36, 3) := by decide +kernel
theorem dX4_half_6 : decode cX4_half 6 = .ok (.iconst 2, 1) := by decide +kernel
theorem dX4_half_7 : decode cX4_half 7 = .ok (.idiv, 1) := by decide +kernel
theorem dX4_half_8 : decode cX4_half 8 = .ok (.ireturn, 1) := by decide +kernel
set_option maxRecDepth 20000 in
theorem ggX4_room_X4_of : GoodIn wsX4_room wsX4_of := goodIn_r _ [5, 6, 7, 8, 9, 10, 11, 12, 13, 14, 15, 16, 17, 18] (by decide +kernel) (by decide +kernel)
set_option maxRecDepth 20000 in
theorem gX4_room_X4_of : GoodIn wsX4_room (wsV RX4 36 RX4 yX4_of wsX4_of) := goodIn_app (goodIn_of _ (by decide +kernel)) ggX4_room_X4_of
theorem dX4_room_0 : decode cX4_room 0 = .ok (.aload_n 0, 1) := by decide +kernel
theorem dX4_room_1 : decode cX4_room 1 = .ok (.iload_n 1, 1) := by decide +kernel
theorem dX4_room_2 : decode cX4_room 2 = .ok (.iconst 1, 1) := by decide +kernel
theorem dX4_room_3 : decode cX4_room 3 = .ok (.invokevirtual 36, 3) := by decide +kernel
theorem dX4_room_6 : decode cX4_room 6 = .ok (.aload_n 0, 1) := by decide +kernel
theorem dX4_room_7 : decode cX4_room 7 = .ok (.iload_n 1, 1) := by decide +kernel
theorem dX4_room_8 : decode cX4_room 8 = .ok (.iconst 4, 1) := by decide +kernel
theorem dX4_room_9 : decode cX4_room 9 = .ok (.invokevirtual 36, 3) := by decide +kernel
theorem dX4_room_12 : decode cX4_room 12 = .ok (.isub, 1) := by decide +kernel
theorem dX4_room_13 : decode cX4_room 13 = .ok (.ireturn, 1) := by decide +kernel
set_option maxRecDepth 20000 in
theorem ggX4_addsWell_X4_isWell : GoodIn wsX4_addsWell wsX4_isWell := goodIn_r _ [6, 1, 7, 8, 5, 9, 14, 15, 16, 17, 18, 19, 20, 21, 22, 23, 24, 25] (by decide +kernel) (by decide +kernel)
set_option maxRecDepth 20000 in
theorem gX4_addsWell_X4_isWell : GoodIn wsX4_addsWell (wsV RX4 40 RX4 yX4_isWell wsX4_isWell) := goodIn_app (goodIn_of _ (by decide +kernel)) ggX4_addsWell_X4_isWell
set_option maxRecDepth 20000 in
theorem ggX4_addsWell_X4_in : GoodIn wsX4_addsWell wsX4_in := goodIn_r _ [9] (by decide +kernel) (by decide +kernel)
set_option maxRecDepth 20000 in
theorem gX4_addsWell_X4_in : GoodIn wsX4_addsWell (va_wsS RX4 32 yX4_in wsX4_in) := goodIn_app (goodIn_of _ (by decide +kernel)) ggX4_addsWell_X4_in
set_option maxRecDepth 20000 in
theorem ggX4_addsWell_X4_adds : GoodIn wsX4_addsWell wsX4_adds := goodIn_r _ [13, 1, 14, 15, 16, 17, 18, 19, 20, 21, 22, 23, 24, 25] (by decide +kernel) (by decide +kernel)
set_option maxRecDepth 20000 in
theorem gX4_addsWell_X4_adds : GoodIn wsX4_addsWell (wsV RX4 44 RX4 yX4_adds wsX4_adds) := goodIn_app (goodIn_of _ (by decide +kernel)) ggX4_addsWell_X4_adds
theorem dX4_addsWell_0 : decode cX4_addsWell 0 = .ok (.aload_n 0, 1) := by decide +kernel
theorem dX4_addsWell_1 : decode cX4_addsWell 1 = .ok (.getfield 7, 3) := by decide +kernel
theorem dX4_addsWell_4 : decode cX4_addsWell 4 = .ok (.iconst 3, 1) := by decide +kernel
theorem dX4_addsWell_5 : decode cX4_addsWell 5 = .ok (.iaload, 1) := by decide +kernel
theorem dX4_addsWell_6 : decode cX4_addsWell 6 = .ok (.istore 5, 2) := by decide +kernel
theorem dX4_addsWell_8 : decode cX4_addsWell 8 = .ok (.iload 5, 2) := by decide +kernel
theorem dX4_addsWell_10 : decode cX4_addsWell 10 = .ok (.ifCond .ne 11, 3) := by decide +kernel
theorem dX4_addsWell_13 : decode cX4_addsWell 13 = .ok (.iload_n 1, 1) := by decide +kernel
theorem dX4_addsWell_14 : decode cX4_addsWell 14 = .ok (.iconst (-1), 1) := by decide +kernel
theorem dX4_addsWell_15 : decode cX4_addsWell 15 = .ok (.if_icmp .ne 47, 3) := by decide +kernel
theorem dX4_addsWell_18 : decode cX4_addsWell 18 = .ok (.goto 11, 3) := by decide +kernel
theorem dX4_addsWell_21 : decode cX4_addsWell 21 = .ok (.aload_n 0, 1) := by decide +kernel
theorem dX4_addsWell_22 : decode cX4_addsWell 22 = .ok (.iload_n 1, 1) := by decide +kernel
theorem dX4_addsWell_23 : decode cX4_addsWell 23 = .ok (.invokevirtual 40, 3) := by decide +kernel
theorem dX4_addsWell_26 : decode cX4_addsWell 26 = .ok (.ifCond .eq 36, 3) := by decide +kernel
theorem dX4_addsWell_29 : decode cX4_addsWell 29 = .ok (.iload_n 2, 1) := by decide +kernel
theorem dX4_addsWell_30 : decode cX4_addsWell 30 = .ok (.iconst 1, 1) := by decide +kernel
theorem dX4_addsWell_31 : decode cX4_addsWell 31 = .ok (.sipush 1000, 3) := by decide +kernel
theorem dX4_addsWell_34 : decode cX4_addsWell 34 = .ok (.invokestatic 32, 3) := by decide +kernel
theorem dX4_addsWell_37 : decode cX4_addsWell 37 = .ok (.ifCond .eq 25, 3) := by decide +kernel
theorem dX4_addsWell_40 : decode cX4_addsWell 40 = .ok (.iload_n 3, 1) := by decide +kernel
theorem dX4_addsWell_41 : decode cX4_addsWell 41 = .ok (.iconst 0, 1) := by decide +kernel
theorem dX4_addsWell_42 : decode cX4_addsWell 42 = .ok (.bipush 100, 2) := by decide +kernel
theorem dX4_addsWell_44 : decode cX4_addsWell 44 = .ok (.invokestatic 32, 3) := by decide +kernel
theorem dX4_addsWell_47 : decode cX4_addsWell 47 = .ok (.ifCond .eq 15, 3) := by decide +kernel
theorem dX4_addsWell_50 : decode cX4_addsWell 50 = .ok (.iload 4, 2) := by decide +kernel
theorem dX4_addsWell_52 : decode cX4_addsWell 52 = .ok (.iconst 0, 1) := by decide +kernel
theorem dX4_addsWell_53 : decode cX4_addsWell 53 = .ok (.sipush 1000, 3) := by decide +kernel
theorem dX4_addsWell_56 : decode cX4_addsWell 56 = .ok (.invokestatic 32, 3) := by decide +kernel
theorem dX4_addsWell_59 : decode cX4_addsWell 59 = .ok (.ifCond .ne 5, 3) := by decide +kernel
theorem dX4_addsWell_62 : decode cX4_addsWell 62 = .ok (.iconst (-1), 1) := by decide +kernel
theorem dX4_addsWell_63 : decode cX4_addsWell 63 = .ok (.ireturn, 1) := by decide +kernel
theorem dX4_addsWell_64 : decode cX4_addsWell 64 = .ok (.iload 5, 2) := by decide +kernel
theorem dX4_addsWell_66 : decode cX4_addsWell 66 = .ok (.bipush 12, 2) := by decide +kernel
theorem dX4_addsWell_68 : decode cX4_addsWell 68 = .ok (.if_icmp .ne 6, 3) := by decide +kernel
theorem dX4_addsWell_71 : decode cX4_addsWell 71 = .ok (.bipush (-3), 2) := by decide +kernel
theorem dX4_addsWell_73 : decode cX4_addsWell 73 = .ok (.ireturn, 1) := by decide +kernel
theorem dX4_addsWell_74 : decode cX4_addsWell 74 = .ok (.iconst 0, 1) := by decide +kernel
theorem dX4_addsWell_75 : decode cX4_addsWell 75 = .ok (.istore 6, 2) := by decide +kernel
theorem dX4_addsWell_77 : decode cX4_addsWell 77 = .ok (.iload 6, 2) := by decide +kernel
theorem dX4_addsWell_79 : decode cX4_addsWell 79 = .ok (.bipush 12, 2) := by decide +kernel
theorem dX4_addsWell_81 : decode cX4_addsWell 81 = .ok (.if_icmp .ge 26, 3) := by decide +kernel
theorem dX4_addsWell_84 : decode cX4_addsWell 84 = .ok (.aload_n 0, 1) := by decide +kernel
theorem dX4_addsWell_85 : decode cX4_addsWell 85 = .ok (.getfield 7, 3) := by decide +kernel
theorem dX4_addsWell_88 : decode cX4_addsWell 88 = .ok (.bipush 8, 2) := by decide +kernel
theorem dX4_addsWell_90 : decode cX4_addsWell 90 = .ok (.bipush 12, 2) := by decide +kernel
theorem dX4_addsWell_92 : decode cX4_addsWell 92 = .ok (.iload 5, 2) := by decide +kernel
theorem dX4_addsWell_94 : decode cX4_addsWell 94 = .ok (.imul, 1) := by decide +kernel
theorem dX4_addsWell_95 : decode cX4_addsWell 95 = .ok (.iadd, 1) := by decide +kernel
theorem dX4_addsWell_96 : decode cX4_addsWell 96 = .ok (.iload 6, 2) := by decide +kernel
theorem dX4_addsWell_98 : decode cX4_addsWell 98 = .ok (.iadd, 1) := by decide +kernel
theorem dX4_addsWell_99 : decode cX4_addsWell 99 = .ok (.iconst 0, 1) := by decide +kernel
theorem dX4_addsWell_100 : decode cX4_addsWell 100 = .ok (.iastore, 1) := by decide +kernel
theorem dX4_addsWell_101 : decode cX4_addsWell 101 = .ok (.iinc 6 1, 3) := by decide +kernel
theorem dX4_addsWell_104 : decode cX4_addsWell 104 = .ok (.goto (-27), 3) := by decide +kernel
theorem dX4_addsWell_107 : decode cX4_addsWell 107 = .ok (.aload_n 0, 1) := by decide +kernel
theorem dX4_addsWell_108 : decode cX4_addsWell 108 = .ok (.iload 5, 2) := by decide +kernel
theorem dX4_addsWell_110 : decode cX4_addsWell 110 = .ok (.iconst 0, 1) := by decide +kernel
theorem dX4_addsWell_111 : decode cX4_addsWell 111 = .ok (.iload_n 1, 1) := by decide +kernel
theorem dX4_addsWell_112 : decode cX4_addsWell 112 = .ok (.invokevirtual 44, 3) := by decide +kernel
theorem dX4_addsWell_115 : decode cX4_addsWell 115 = .ok (.aload_n 0, 1) := by decide +kernel
theorem dX4_addsWell_116 : decode cX4_addsWell 116 = .ok (.iload 5, 2) := by decide +kernel
theorem dX4_addsWell_118 : decode cX4_addsWell 118 = .ok (.iconst 1, 1) := by decide +kernel
theorem dX4_addsWell_119 : decode cX4_addsWell 119 = .ok (.iload_n 2, 1) := by decide +kernel
theorem dX4_addsWell_120 : decode cX4_addsWell 120 = .ok (.invokevirtual 44, 3) := by decide +kernel
theorem dX4_addsWell_123 : decode cX4_addsWell 123 = .ok (.aload_n 0, 1) := by decide +kernel
theorem dX4_addsWell_124 : decode cX4_addsWell 124 = .ok (.iload 5, 2) := by decide +kernel
theorem dX4_addsWell_126 : decode cX4_addsWell 126 = .ok (.iconst 2, 1) := by decide +kernel
theorem dX4_addsWell_127 : decode cX4_addsWell 127 = .ok (.iload_n 3, 1) := by decide +kernel
theorem dX4_addsWell_128 : decode cX4_addsWell 128 = .ok (.invokevirtual 44, 3) := by decide +kernel
theorem dX4_addsWell_131 : decode cX4_addsWell 131 = .ok (.aload_n 0, 1) := by decide +kernel
theorem dX4_addsWell_132 : decode cX4_addsWell 132 = .ok (.iload 5, 2) := by decide +kernel
theorem dX4_addsWell_134 : decode cX4_addsWell 134 = .ok (.iconst 3, 1) := by decide +kernel
theorem dX4_addsWell_135 : decode cX4_addsWell 135 = .ok (.iload 4, 2) := by decide +kernel
theorem dX4_addsWell_137 : decode cX4_addsWell 137 = .ok (.invokevirtual 44, 3) := by decide +kernel
theorem dX4_addsWell_140 : decode cX4_addsWell 140 = .ok (.aload_n 0, 1) := by decide +kernel
theorem dX4_addsWell_141 : decode cX4_addsWell 141 = .ok (.getfield 7, 3) := by decide +kernel
theorem dX4_addsWell_144 : decode cX4_addsWell 144 = .ok (.iconst 3, 1) := by decide +kernel
theorem dX4_addsWell_145 : decode cX4_addsWell 145 = .ok (.dup2, 1) := by decide +kernel
theorem dX4_addsWell_146 : decode cX4_addsWell 146 = .ok (.iaload, 1) := by decide +kernel
theorem dX4_addsWell_147 : decode cX4_addsWell 147 = .ok (.iconst 1, 1) := by decide +kernel
theorem dX4_addsWell_148 : decode cX4_addsWell 148 = .ok (.iadd, 1) := by decide +kernel
theorem dX4_addsWell_149 : decode cX4_addsWell 149 = .ok (.iastore, 1) := by decide +kernel
theorem dX4_addsWell_150 : decode cX4_addsWell 150 = .ok (.iload 5, 2) := by decide +kernel
theorem dX4_addsWell_152 : decode cX4_addsWell 152 = .ok (.ireturn, 1) := by decide +kernel
set_option maxRecDepth 20000 in
theorem ggX4_well_X4_copy : GoodIn wsX4_well wsX4_copy := goodIn_r _ [5, 6, 7, 30, 31, 32, 33, 34, 35, 36, 37, 38, 39, 40, 41] (by decide +kernel) (by decide +kernel)
set_option maxRecDepth 20000 in
theorem gX4_well_X4_copy : GoodIn wsX4_well (wsV RX4 48 RX4 yX4_copy wsX4_copy) := goodIn_app (goodIn_of _ (by decide +kernel)) ggX4_well_X4_copy
set_option maxRecDepth 20000 in
theorem ggX4_well_X4_addsWell : GoodIn wsX4_well wsX4_addsWell := goodIn_r _ [11, 7, 12, 13, 14, 4, 15, 16, 17, 18, 19, 20, 21, 22, 30, 31, 32, 33, 34, 35, 36, 37, 38, 39, 40, 41] (by decide +kernel) (by decide +kernel)
set_option maxRecDepth 20000 in
theorem gX4_well_X4_addsWell : GoodIn wsX4_well (wsV RX4 51 RX4 yX4_addsWell wsX4_addsWell) := goodIn_app (goodIn_of _ (by decide +kernel)) ggX4_well_X4_addsWell
set_option maxRecDepth 20000 in
theorem ggX4_well_X4_recorded : GoodIn wsX4_well wsX4_recorded := goodIn_r _ [26, 27, 28, 6, 29, 30, 31, 32, 33, 34, 35, 36, 37, 38, 39, 40, 41] (by decide +kernel) (by decide +kernel)
set_option maxRecDepth 20000 in
theorem gX4_well_X4_recorded : GoodIn wsX4_well (wsV RX4 55 RX4 yX4_recorded wsX4_recorded) := goodIn_app (goodIn_of _ (by decide +kernel)) ggX4_well_X4_recorded
theorem dX4_well_0 : decode cX4_well 0 = .ok (.aload_n 0, 1) := by decide +kernel
theorem dX4_well_1 : decode cX4_well 1 = .ok (.invokevirtual 48, 3) := by decide +kernel
theorem dX4_well_4 : decode cX4_well 4 = .ok (.aload_n 0, 1) := by decide +kernel
theorem dX4_well_5 : decode cX4_well 5 = .ok (.aload_n 0, 1) := by decide +kernel
theorem dX4_well_6 : decode cX4_well 6 = .ok (.iload_n 1, 1) := by decide +kernel
theorem dX4_well_7 : decode cX4_well 7 = .ok (.iload_n 2, 1) := by decide +kernel
theorem dX4_well_8 : decode cX4_well 8 = .ok (.iload_n 3, 1) := by decide +kernel
theorem dX4_well_9 : decode cX4_well 9 = .ok (.iload 4, 2) := by decide +kernel
theorem dX4_well_11 : decode cX4_well 11 = .ok (.invokevirtual 51, 3) := by decide +kernel
theorem dX4_well_14 : decode cX4_well 14 = .ok (.invokevirtual 55, 3) := by decide +kernel
theorem dX4_well_17 : decode cX4_well 17 = .ok (.ireturn, 1) := by decide +kernel
set_option maxRecDepth 20000 in
theorem ggX4_addsDrought_X4_isWell : GoodIn wsX4_addsDrought wsX4_isWell := goodIn_r _ [7, 1, 8, 9, 6, 10, 11, 12, 13, 14, 15, 16, 17, 18, 19, 20, 21, 22] (by decide +kernel) (by decide +kernel)
set_option maxRecDepth 20000 in
theorem gX4_addsDrought_X4_isWell : GoodIn wsX4_addsDrought (wsV RX4 40 RX4 yX4_isWell wsX4_isWell) := goodIn_app (goodIn_of _ (by decide +kernel)) ggX4_addsDrought_X4_isWell
set_option maxRecDepth 20000 in
theorem ggX4_addsDrought_X4_in : GoodIn wsX4_addsDrought wsX4_in := goodIn_r _ [10] (by decide +kernel) (by decide +kernel)
set_option maxRecDepth 20000 in
theorem gX4_addsDrought_X4_in : GoodIn wsX4_addsDrought (va_wsS RX4 32 yX4_in wsX4_in) := goodIn_app (goodIn_of _ (by decide +kernel)) ggX4_addsDrought_X4_in
theorem dX4_addsDrought_0 : decode cX4_addsDrought 0 = .ok (.aload_n 0, 1) := by decide +kernel
theorem dX4_addsDrought_1 : decode cX4_addsDrought 1 = .ok (.iload_n 1, 1) := by decide +kernel
theorem dX4_addsDrought_2 : decode cX4_addsDrought 2 = .ok (.invokevirtual 40, 3) := by decide +kernel
theorem dX4_addsDrought_5 : decode cX4_addsDrought 5 = .ok (.ifCond .eq 30, 3) := by decide +kernel
theorem dX4_addsDrought_8 : decode cX4_addsDrought 8 = .ok (.iload_n 2, 1) := by decide +kernel
theorem dX4_addsDrought_9 : decode cX4_addsDrought 9 = .ok (.aload_n 0, 1) := by decide +kernel
theorem dX4_addsDrought_10 : decode cX4_addsDrought 10 = .ok (.getfield 7, 3) := by decide +kernel
theorem dX4_addsDrought_13 : decode cX4_addsDrought 13 = .ok (.iconst 0, 1) := by decide +kernel
theorem dX4_addsDrought_14 : decode cX4_addsDrought 14 = .ok (.iaload, 1) := by decide +kernel
theorem dX4_addsDrought_15 : decode cX4_addsDrought 15 = .ok (.iconst 1, 1) := by decide +kernel
theorem dX4_addsDrought_16 : decode cX4_addsDrought 16 = .ok (.iadd, 1) := by decide +kernel
theorem dX4_addsDrought_17 : decode cX4_addsDrought 17 = .ok (.ldc 59, 2) := by decide +kernel
theorem dX4_addsDrought_19 : decode cX4_addsDrought 19 = .ok (.invokestatic 32, 3) := by decide +kernel
theorem dX4_addsDrought_22 : decode cX4_addsDrought 22 = .ok (.ifCond .eq 13, 3) := by decide +kernel
theorem dX4_addsDrought_25 : decode cX4_addsDrought 25 = .ok (.iload_n 3, 1) := by decide +kernel
theorem dX4_addsDrought_26 : decode cX4_addsDrought 26 = .ok (.iload_n 2, 1) := by decide +kernel
theorem dX4_addsDrought_27 : decode cX4_addsDrought 27 = .ok (.ldc 59, 2) := by decide +kernel
theorem dX4_addsDrought_29 : decode cX4_addsDrought 29 = .ok (.invokestatic 32, 3) := by decide +kernel
theorem dX4_addsDrought_32 : decode cX4_addsDrought 32 = .ok (.ifCond .ne 5, 3) := by decide +kernel
theorem dX4_addsDrought_35 : decode cX4_addsDrought 35 = .ok (.iconst (-1), 1) := by decide +kernel
theorem dX4_addsDrought_36 : decode cX4_addsDrought 36 = .ok (.ireturn, 1) := by decide +kernel
theorem dX4_addsDrought_37 : decode cX4_addsDrought 37 = .ok (.aload_n 0, 1) := by decide +kernel
theorem dX4_addsDrought_38 : decode cX4_addsDrought 38 = .ok (.getfield 7, 3) := by decide +kernel
theorem dX4_addsDrought_41 : decode cX4_addsDrought 41 = .ok (.iconst 4, 1) := by decide +kernel
theorem dX4_addsDrought_42 : decode cX4_addsDrought 42 = .ok (.iaload, 1) := by decide +kernel
theorem dX4_addsDrought_43 : decode cX4_addsDrought 43 = .ok (.bipush 20, 2) := by decide +kernel
theorem dX4_addsDrought_45 : decode cX4_addsDrought 45 = .ok (.if_icmp .ne 6, 3) := by decide +kernel
theorem dX4_addsDrought_48 : decode cX4_addsDrought 48 = .ok (.bipush (-3), 2) := by decide +kernel
theorem dX4_addsDrought_50 : decode cX4_addsDrought 50 = .ok (.ireturn, 1) := by decide +kernel
theorem dX4_addsDrought_51 : decode cX4_addsDrought 51 = .ok (.sipush 152, 3) := by decide +kernel
theorem dX4_addsDrought_54 : decode cX4_addsDrought 54 = .ok (.iconst 3, 1) := by decide +kernel
theorem dX4_addsDrought_55 : decode cX4_addsDrought 55 = .ok (.aload_n 0, 1) := by decide +kernel
theorem dX4_addsDrought_56 : decode cX4_addsDrought 56 = .ok (.getfield 7, 3) := by decide +kernel
theorem dX4_addsDrought_59 : decode cX4_addsDrought 59 = .ok (.iconst 4, 1) := by decide +kernel
theorem dX4_addsDrought_60 : decode cX4_addsDrought 60 = .ok (.iaload, 1) := by decide +kernel
theorem dX4_addsDrought_61 : decode cX4_addsDrought 61 = .ok (.imul, 1) := by decide +kernel
theorem dX4_addsDrought_62 : decode cX4_addsDrought 62 = .ok (.iadd, 1) := by decide +kernel
theorem dX4_addsDrought_63 : decode cX4_addsDrought 63 = .ok (.istore 4, 2) := by decide +kernel
theorem dX4_addsDrought_65 : decode cX4_addsDrought 65 = .ok (.aload_n 0, 1) := by decide +kernel
theorem dX4_addsDrought_66 : decode cX4_addsDrought 66 = .ok (.getfield 7, 3) := by decide +kernel
theorem dX4_addsDrought_69 : decode cX4_addsDrought 69 = .ok (.iload 4, 2) := by decide +kernel
theorem dX4_addsDrought_71 : decode cX4_addsDrought 71 = .ok (.iload_n 1, 1) := by decide +kernel
theorem dX4_addsDrought_72 : decode cX4_addsDrought 72 = .ok (.iastore, 1) := by decide +kernel
theorem dX4_addsDrought_73 : decode cX4_addsDrought 73 = .ok (.aload_n 0, 1) := by decide +kernel
theorem dX4_addsDrought_74 : decode cX4_addsDrought 74 = .ok (.getfield 7, 3) := by decide +kernel
theorem dX4_addsDrought_77 : decode cX4_addsDrought 77 = .ok (.iload 4, 2) := by decide +kernel
theorem dX4_addsDrought_79 : decode cX4_addsDrought 79 = .ok (.iconst 1, 1) := by decide +kernel
theorem dX4_addsDrought_80 : decode cX4_addsDrought 80 = .ok (.iadd, 1) := by decide +kernel
theorem dX4_addsDrought_81 : decode cX4_addsDrought 81 = .ok (.iload_n 2, 1) := by decide +kernel
theorem dX4_addsDrought_82 : decode cX4_addsDrought 82 = .ok (.iastore, 1) := by decide +kernel
theorem dX4_addsDrought_83 : decode cX4_addsDrought 83 = .ok (.aload_n 0, 1) := by decide +kernel
theorem dX4_addsDrought_84 : decode cX4_addsDrought 84 = .ok (.getfield 7, 3) := by decide +kernel
theorem dX4_addsDrought_87 : decode cX4_addsDrought 87 = .ok (.iload 4, 2) := by decide +kernel
theorem dX4_addsDrought_89 : decode cX4_addsDrought 89 = .ok (.iconst 2, 1) := by decide +kernel
theorem dX4_addsDrought_90 : decode cX4_addsDrought 90 = .ok (.iadd, 1) := by decide +kernel
theorem dX4_addsDrought_91 : decode cX4_addsDrought 91 = .ok (.iload_n 3, 1) := by decide +kernel
theorem dX4_addsDrought_92 : decode cX4_addsDrought 92 = .ok (.iastore, 1) := by decide +kernel
theorem dX4_addsDrought_93 : decode cX4_addsDrought 93 = .ok (.aload_n 0, 1) := by decide +kernel
theorem dX4_addsDrought_94 : decode cX4_addsDrought 94 = .ok (.getfield 7, 3) := by decide +kernel
theorem dX4_addsDrought_97 : decode cX4_addsDrought 97 = .ok (.iconst 4, 1) := by decide +kernel
theorem dX4_addsDrought_98 : decode cX4_addsDrought 98 = .ok (.dup2, 1) := by decide +kernel
theorem dX4_addsDrought_99 : decode cX4_addsDrought 99 = .ok (.iaload, 1) := by decide +kernel
theorem dX4_addsDrought_100 : decode cX4_addsDrought 100 = .ok (.iconst 1, 1) := by decide +kernel
theorem dX4_addsDrought_101 : decode cX4_addsDrought 101 = .ok (.iadd, 1) := by decide +kernel
theorem dX4_addsDrought_102 : decode cX4_addsDrought 102 = .ok (.iastore, 1) := by decide +kernel
theorem dX4_addsDrought_103 : decode cX4_addsDrought 103 = .ok (.aload_n 0, 1) := by decide +kernel
theorem dX4_addsDrought_104 : decode cX4_addsDrought 104 = .ok (.getfield 7, 3) := by decide +kernel
theorem dX4_addsDrought_107 : decode cX4_addsDrought 107 = .ok (.iconst 4, 1) := by decide +kernel
theorem dX4_addsDrought_108 : decode cX4_addsDrought 108 = .ok (.iaload, 1) := by decide +kernel
theorem dX4_addsDrought_109 : decode cX4_addsDrought 109 = .ok (.iconst 1, 1) := by decide +kernel
theorem dX4_addsDrought_110 : decode cX4_addsDrought 110 = .ok (.isub, 1) := by decide +kernel
theorem dX4_addsDrought_111 : decode cX4_addsDrought 111 = .ok (.ireturn, 1) := by decide +kernel
set_option maxRecDepth 20000 in
theorem ggX4_drought_X4_copy : GoodIn wsX4_drought wsX4_copy := goodIn_r _ [5, 6, 7, 27, 28, 29, 30, 31, 32, 33, 34, 35, 36, 37, 38] (by decide +kernel) (by decide +kernel)
set_option maxRecDepth 20000 in
theorem gX4_drought_X4_copy : GoodIn wsX4_drought (wsV RX4 48 RX4 yX4_copy wsX4_copy) := goodIn_app (goodIn_of _ (by decide +kernel)) ggX4_drought_X4_copy
set_option maxRecDepth 20000 in
theorem ggX4_drought_X4_addsDrought : GoodIn wsX4_drought wsX4_addsDrought := goodIn_r _ [11, 7, 12, 13, 14, 15, 4, 16, 17, 18, 19, 27, 28, 29, 30, 31, 32, 33, 34, 35, 36, 37, 38] (by decide +kernel) (by decide +kernel)
set_option maxRecDepth 20000 in
theorem gX4_drought_X4_addsDrought : GoodIn wsX4_drought (wsV RX4 60 RX4 yX4_addsDrought wsX4_addsDrought) := goodIn_app (goodIn_of _ (by decide +kernel)) ggX4_drought_X4_addsDrought
set_option maxRecDepth 20000 in
theorem ggX4_drought_X4_recorded : GoodIn wsX4_drought wsX4_recorded := goodIn_r _ [23, 24, 25, 6, 26, 27, 28, 29, 30, 31, 32, 33, 34, 35, 36, 37, 38] (by decide +kernel) (by decide +kernel)
set_option maxRecDepth 20000 in
theorem gX4_drought_X4_recorded : GoodIn wsX4_drought (wsV RX4 55 RX4 yX4_recorded wsX4_recorded) := goodIn_app (goodIn_of _ (by decide +kernel)) ggX4_drought_X4_recorded
theorem dX4_drought_0 : decode cX4_drought 0 = .ok (.aload_n 0, 1) := by decide +kernel
theorem dX4_drought_1 : decode cX4_drought 1 = .ok (.invokevirtual 48, 3) := by decide +kernel
theorem dX4_drought_4 : decode cX4_drought 4 = .ok (.aload_n 0, 1) := by decide +kernel
theorem dX4_drought_5 : decode cX4_drought 5 = .ok (.aload_n 0, 1) := by decide +kernel
theorem dX4_drought_6 : decode cX4_drought 6 = .ok (.iload_n 1, 1) := by decide +kernel
theorem dX4_drought_7 : decode cX4_drought 7 = .ok (.iload_n 2, 1) := by decide +kernel
theorem dX4_drought_8 : decode cX4_drought 8 = .ok (.iload_n 3, 1) := by decide +kernel
theorem dX4_drought_9 : decode cX4_drought 9 = .ok (.invokevirtual 60, 3) := by decide +kernel
theorem dX4_drought_12 : decode cX4_drought 12 = .ok (.invokevirtual 55, 3) := by decide +kernel
theorem dX4_drought_15 : decode cX4_drought 15 = .ok (.ireturn, 1) := by decide +kernel
set_option maxRecDepth 20000 in
theorem ggX4_droughtOf_X4_in : GoodIn wsX4_droughtOf wsX4_in := goodIn_r _ [5] (by decide +kernel) (by decide +kernel)
set_option maxRecDepth 20000 in
theorem gX4_droughtOf_X4_in : GoodIn wsX4_droughtOf (va_wsS RX4 32 yX4_in wsX4_in) := goodIn_app (goodIn_of _ (by decide +kernel)) ggX4_droughtOf_X4_in
theorem dX4_droughtOf_0 : decode cX4_droughtOf 0 = .ok (.iload_n 1, 1) := by decide +kernel
theorem dX4_droughtOf_1 : decode cX4_droughtOf 1 = .ok (.iconst 0, 1) := by decide +kernel
theorem dX4_droughtOf_2 : decode cX4_droughtOf 2 = .ok (.aload_n 0, 1) := by decide +kernel
theorem dX4_droughtOf_3 : decode cX4_droughtOf 3 = .ok (.getfield 7, 3) := by decide +kernel
theorem dX4_droughtOf_6 : decode cX4_droughtOf 6 = .ok (.iconst 4, 1) := by decide +kernel
theorem dX4_droughtOf_7 : decode cX4_droughtOf 7 = .ok (.iaload, 1) := by decide +kernel
theorem dX4_droughtOf_8 : decode cX4_droughtOf 8 = .ok (.iconst 1, 1) := by decide +kernel
theorem dX4_droughtOf_9 : decode cX4_droughtOf 9 = .ok (.isub, 1) := by decide +kernel
theorem dX4_droughtOf_10 : decode cX4_droughtOf 10 = .ok (.invokestatic 32, 3) := by decide +kernel
theorem dX4_droughtOf_13 : decode cX4_droughtOf 13 = .ok (.ifCond .eq 29, 3) := by decide +kernel
theorem dX4_droughtOf_16 : decode cX4_droughtOf 16 = .ok (.iload_n 2, 1) := by decide +kernel
theorem dX4_droughtOf_17 : decode cX4_droughtOf 17 = .ok (.iconst 0, 1) := by decide +kernel
theorem dX4_droughtOf_18 : decode cX4_droughtOf 18 = .ok (.iconst 2, 1) := by decide +kernel
theorem dX4_droughtOf_19 : decode cX4_droughtOf 19 = .ok (.invokestatic 32, 3) := by decide +kernel
theorem dX4_droughtOf_22 : decode cX4_droughtOf 22 = .ok (.ifCond .eq 20, 3) := by decide +kernel
theorem dX4_droughtOf_25 : decode cX4_droughtOf 25 = .ok (.aload_n 0, 1) := by decide +kernel
theorem dX4_droughtOf_26 : decode cX4_droughtOf 26 = .ok (.getfield 7, 3) := by decide +kernel
theorem dX4_droughtOf_29 : decode cX4_droughtOf 29 = .ok (.sipush 152, 3) := by decide +kernel
theorem dX4_droughtOf_32 : decode cX4_droughtOf 32 = .ok (.iconst 3, 1) := by decide +kernel
theorem dX4_droughtOf_33 : decode cX4_droughtOf 33 = .ok (.iload_n 1, 1) := by decide +kernel
theorem dX4_droughtOf_34 : decode cX4_droughtOf 34 = .ok (.imul, 1) := by decide +kernel
theorem dX4_droughtOf_35 : decode cX4_droughtOf 35 = .ok (.iadd, 1) := by decide +kernel
theorem dX4_droughtOf_36 : decode cX4_droughtOf 36 = .ok (.iload_n 2, 1) := by decide +kernel
theorem dX4_droughtOf_37 : decode cX4_droughtOf 37 = .ok (.iadd, 1) := by decide +kernel
theorem dX4_droughtOf_38 : decode cX4_droughtOf 38 = .ok (.iaload, 1) := by decide +kernel
theorem dX4_droughtOf_39 : decode cX4_droughtOf 39 = .ok (.goto 4, 3) := by decide +kernel
theorem dX4_droughtOf_42 : decode cX4_droughtOf 42 = .ok (.iconst (-1), 1) := by decide +kernel
theorem dX4_droughtOf_43 : decode cX4_droughtOf 43 = .ok (.ireturn, 1) := by decide +kernel
set_option maxRecDepth 20000 in
theorem ggX4_isDry_X4_in : GoodIn wsX4_isDry wsX4_in := goodIn_r _ [5] (by decide +kernel) (by decide +kernel)
set_option maxRecDepth 20000 in
theorem gX4_isDry_X4_in : GoodIn wsX4_isDry (va_wsS RX4 32 yX4_in wsX4_in) := goodIn_app (goodIn_of _ (by decide +kernel)) ggX4_isDry_X4_in
theorem dX4_isDry_0 : decode cX4_isDry 0 = .ok (.iconst 0, 1) := by decide +kernel
theorem dX4_isDry_1 : decode cX4_isDry 1 = .ok (.istore_n 3, 1) := by decide +kernel
theorem dX4_isDry_2 : decode cX4_isDry 2 = .ok (.iconst 0, 1) := by decide +kernel
theorem dX4_isDry_3 : decode cX4_isDry 3 = .ok (.istore 4, 2) := by decide +kernel
theorem dX4_isDry_5 : decode cX4_isDry 5 = .ok (.iload 4, 2) := by decide +kernel
theorem dX4_isDry_7 : decode cX4_isDry 7 = .ok (.aload_n 0, 1) := by decide +kernel
theorem dX4_isDry_8 : decode cX4_isDry 8 = .ok (.getfield 7, 3) := by decide +kernel
theorem dX4_isDry_11 : decode cX4_isDry 11 = .ok (.iconst 4, 1) := by decide +kernel
theorem dX4_isDry_12 : decode cX4_isDry 12 = .ok (.iaload, 1) := by decide +kernel
theorem dX4_isDry_13 : decode cX4_isDry 13 = .ok (.if_icmp .ge 65, 3) := by decide +kernel
theorem dX4_isDry_16 : decode cX4_isDry 16 = .ok (.sipush 152, 3) := by decide +kernel
theorem dX4_isDry_19 : decode cX4_isDry 19 = .ok (.iconst 3, 1) := by decide +kernel
theorem dX4_isDry_20 : decode cX4_isDry 20 = .ok (.iload 4, 2) := by decide +kernel
theorem dX4_isDry_22 : decode cX4_isDry 22 = .ok (.imul, 1) := by decide +kernel
theorem dX4_isDry_23 : decode cX4_isDry 23 = .ok (.iadd, 1) := by decide +kernel
theorem dX4_isDry_24 : decode cX4_isDry 24 = .ok (.istore 5, 2) := by decide +kernel
theorem dX4_isDry_26 : decode cX4_isDry 26 = .ok (.iload_n 3, 1) := by decide +kernel
theorem dX4_isDry_27 : decode cX4_isDry 27 = .ok (.ifCond .ne 39, 3) := by decide +kernel
theorem dX4_isDry_30 : decode cX4_isDry 30 = .ok (.aload_n 0, 1) := by decide +kernel
theorem dX4_isDry_31 : decode cX4_isDry 31 = .ok (.getfield 7, 3) := by decide +kernel
theorem dX4_isDry_34 : decode cX4_isDry 34 = .ok (.iload 5, 2) := by decide +kernel
theorem dX4_isDry_36 : decode cX4_isDry 36 = .ok (.iaload, 1) := by decide +kernel
theorem dX4_isDry_37 : decode cX4_isDry 37 = .ok (.iload_n 1, 1) := by decide +kernel
theorem dX4_isDry_38 : decode cX4_isDry 38 = .ok (.if_icmp .ne 32, 3) := by decide +kernel
theorem dX4_isDry_41 : decode cX4_isDry 41 = .ok (.iload_n 2, 1) := by decide +kernel
theorem dX4_isDry_42 : decode cX4_isDry 42 = .ok (.aload_n 0, 1) := by decide +kernel
theorem dX4_isDry_43 : decode cX4_isDry 43 = .ok (.getfield 7, 3) := by decide +kernel
theorem dX4_isDry_46 : decode cX4_isDry 46 = .ok (.iload 5, 2) := by decide +kernel
theorem dX4_isDry_48 : decode cX4_isDry 48 = .ok (.iconst 1, 1) := by decide +kernel
theorem dX4_isDry_49 : decode cX4_isDry 49 = .ok (.iadd, 1) := by decide +kernel
theorem dX4_isDry_50 : decode cX4_isDry 50 = .ok (.iaload, 1) := by decide +kernel
theorem dX4_isDry_51 : decode cX4_isDry 51 = .ok (.aload_n 0, 1) := by decide +kernel
theorem dX4_isDry_52 : decode cX4_isDry 52 = .ok (.getfield 7, 3) := by decide +kernel
theorem dX4_isDry_55 : decode cX4_isDry 55 = .ok (.iload 5, 2) := by decide +kernel
theorem dX4_isDry_57 : decode cX4_isDry 57 = .ok (.iconst 2, 1) := by decide +kernel
theorem dX4_isDry_58 : decode cX4_isDry 58 = .ok (.iadd, 1) := by decide +kernel
theorem dX4_isDry_59 : decode cX4_isDry 59 = .ok (.iaload, 1) := by decide +kernel
theorem dX4_isDry_60 : decode cX4_isDry 60 = .ok (.invokestatic 32, 3) := by decide +kernel
theorem dX4_isDry_63 : decode cX4_isDry 63 = .ok (.ifCond .eq 7, 3) := by decide +kernel
theorem dX4_isDry_66 : decode cX4_isDry 66 = .ok (.iconst 1, 1) := by decide +kernel
theorem dX4_isDry_67 : decode cX4_isDry 67 = .ok (.goto 4, 3) := by decide +kernel
theorem dX4_isDry_70 : decode cX4_isDry 70 = .ok (.iconst 0, 1) := by decide +kernel
theorem dX4_isDry_71 : decode cX4_isDry 71 = .ok (.istore_n 3, 1) := by decide +kernel
theorem dX4_isDry_72 : decode cX4_isDry 72 = .ok (.iinc 4 1, 3) := by decide +kernel
theorem dX4_isDry_75 : decode cX4_isDry 75 = .ok (.goto (-70), 3) := by decide +kernel
theorem dX4_isDry_78 : decode cX4_isDry 78 = .ok (.iload_n 3, 1) := by decide +kernel
theorem dX4_isDry_79 : decode cX4_isDry 79 = .ok (.ireturn, 1) := by decide +kernel
set_option maxRecDepth 20000 in
theorem ggX4_belowMany_X4_of : GoodIn wsX4_belowMany wsX4_of := goodIn_r _ [6, 1, 7, 8, 9, 10, 11, 12, 13, 14, 15, 16, 17, 18] (by decide +kernel) (by decide +kernel)
set_option maxRecDepth 20000 in
theorem gX4_belowMany_X4_of : GoodIn wsX4_belowMany (wsV RX4 36 RX4 yX4_of wsX4_of) := goodIn_app (goodIn_of _ (by decide +kernel)) ggX4_belowMany_X4_of
theorem dX4_belowMany_0 : decode cX4_belowMany 0 = .ok (.iconst 0, 1) := by decide +kernel
theorem dX4_belowMany_1 : decode cX4_belowMany 1 = .ok (.istore_n 2, 1) := by decide +kernel
theorem dX4_belowMany_2 : decode cX4_belowMany 2 = .ok (.iconst 0, 1) := by decide +kernel
theorem dX4_belowMany_3 : decode cX4_belowMany 3 = .ok (.istore_n 3, 1) := by decide +kernel
theorem dX4_belowMany_4 : decode cX4_belowMany 4 = .ok (.iload_n 3, 1) := by decide +kernel
theorem dX4_belowMany_5 : decode cX4_belowMany 5 = .ok (.aload_n 0, 1) := by decide +kernel
theorem dX4_belowMany_6 : decode cX4_belowMany 6 = .ok (.getfield 7, 3) := by decide +kernel
theorem dX4_belowMany_9 : decode cX4_belowMany 9 = .ok (.iconst 3, 1) := by decide +kernel
theorem dX4_belowMany_10 : decode cX4_belowMany 10 = .ok (.iaload, 1) := by decide +kernel
theorem dX4_belowMany_11 : decode cX4_belowMany 11 = .ok (.if_icmp .ge 27, 3) := by decide +kernel
theorem dX4_belowMany_14 : decode cX4_belowMany 14 = .ok (.iload_n 2, 1) := by decide +kernel
theorem dX4_belowMany_15 : decode cX4_belowMany 15 = .ok (.aload_n 0, 1) := by decide +kernel
theorem dX4_belowMany_16 : decode cX4_belowMany 16 = .ok (.iload_n 3, 1) := by decide +kernel
theorem dX4_belowMany_17 : decode cX4_belowMany 17 = .ok (.iconst 0, 1) := by decide +kernel
theorem dX4_belowMany_18 : decode cX4_belowMany 18 = .ok (.invokevirtual 36, 3) := by decide +kernel
theorem dX4_belowMany_21 : decode cX4_belowMany 21 = .ok (.iload_n 1, 1) := by decide +kernel
theorem dX4_belowMany_22 : decode cX4_belowMany 22 = .ok (.if_icmp .ne 7, 3) := by decide +kernel
theorem dX4_belowMany_25 : decode cX4_belowMany 25 = .ok (.iconst 1, 1) := by decide +kernel
theorem dX4_belowMany_26 : decode cX4_belowMany 26 = .ok (.goto 4, 3) := by decide +kernel
theorem dX4_belowMany_29 : decode cX4_belowMany 29 = .ok (.iconst 0, 1) := by decide +kernel
theorem dX4_belowMany_30 : decode cX4_belowMany 30 = .ok (.iadd, 1) := by decide +kernel
theorem dX4_belowMany_31 : decode cX4_belowMany 31 = .ok (.istore_n 2, 1) := by decide +kernel
theorem dX4_belowMany_32 : decode cX4_belowMany 32 = .ok (.iinc 3 1, 3) := by decide +kernel
theorem dX4_belowMany_35 : decode cX4_belowMany 35 = .ok (.goto (-31), 3) := by decide +kernel
theorem dX4_belowMany_38 : decode cX4_belowMany 38 = .ok (.iload_n 2, 1) := by decide +kernel
theorem dX4_belowMany_39 : decode cX4_belowMany 39 = .ok (.ireturn, 1) := by decide +kernel
set_option maxRecDepth 20000 in
theorem ggX4_wellOf_X4_isWell : GoodIn wsX4_wellOf wsX4_isWell := goodIn_r _ [6, 1, 7, 8, 5, 9, 22, 23, 24, 25, 26, 27, 28, 29, 30, 31, 32, 33] (by decide +kernel) (by decide +kernel)
set_option maxRecDepth 20000 in
theorem gX4_wellOf_X4_isWell : GoodIn wsX4_wellOf (wsV RX4 40 RX4 yX4_isWell wsX4_isWell) := goodIn_app (goodIn_of _ (by decide +kernel)) ggX4_wellOf_X4_isWell
set_option maxRecDepth 20000 in
theorem ggX4_wellOf_X4_in : GoodIn wsX4_wellOf wsX4_in := goodIn_r _ [9] (by decide +kernel) (by decide +kernel)
set_option maxRecDepth 20000 in
theorem gX4_wellOf_X4_in : GoodIn wsX4_wellOf (va_wsS RX4 32 yX4_in wsX4_in) := goodIn_app (goodIn_of _ (by decide +kernel)) ggX4_wellOf_X4_in
set_option maxRecDepth 20000 in
theorem ggX4_wellOf_X4_belowMany : GoodIn wsX4_wellOf wsX4_belowMany := goodIn_r _ [13, 1, 14, 15, 16, 5, 17, 22, 23, 24, 25, 26, 27, 28, 29, 30, 31, 32, 33] (by decide +kernel) (by decide +kernel)
set_option maxRecDepth 20000 in
theorem gX4_wellOf_X4_belowMany : GoodIn wsX4_wellOf (wsV RX4 64 RX4 yX4_belowMany wsX4_belowMany) := goodIn_app (goodIn_of _ (by decide +kernel)) ggX4_wellOf_X4_belowMany
set_option maxRecDepth 20000 in
theorem ggX4_wellOf_X4_isDry : GoodIn wsX4_wellOf wsX4_isDry := goodIn_r _ [21, 1, 7, 8, 5, 9, 22, 23, 24, 25, 26, 27, 28, 29, 30, 31, 32, 33] (by decide +kernel) (by decide +kernel)
set_option maxRecDepth 20000 in
theorem gX4_wellOf_X4_isDry : GoodIn wsX4_wellOf (wsV RX4 67 RX4 yX4_isDry wsX4_isDry) := goodIn_app (goodIn_of _ (by decide +kernel)) ggX4_wellOf_X4_isDry
set_option maxRecDepth 20000 in
theorem ggX4_wellOf_X4_of : GoodIn wsX4_wellOf wsX4_of := goodIn_r _ [17, 1, 22, 23, 24, 25, 26, 27, 28, 29, 30, 31, 32, 33] (by decide +kernel) (by decide +kernel)
set_option maxRecDepth 20000 in
theorem gX4_wellOf_X4_of : GoodIn wsX4_wellOf (wsV RX4 36 RX4 yX4_of wsX4_of) := goodIn_app (goodIn_of _ (by decide +kernel)) ggX4_wellOf_X4_of
theorem dX4_wellOf_0 : decode cX4_wellOf 0 = .ok (.aload_n 0, 1) := by decide +kernel
theorem dX4_wellOf_1 : decode cX4_wellOf 1 = .ok (.iload_n 1, 1) := by decide +kernel
theorem dX4_wellOf_2 : decode cX4_wellOf 2 = .ok (.invokevirtual 40, 3) := by decide +kernel
theorem dX4_wellOf_5 : decode cX4_wellOf 5 = .ok (.ifCond .eq 13, 3) := by decide +kernel
theorem dX4_wellOf_8 : decode cX4_wellOf 8 = .ok (.iload_n 2, 1) := by decide +kernel
theorem dX4_wellOf_9 : decode cX4_wellOf 9 = .ok (.iconst 0, 1) := by decide +kernel
theorem dX4_wellOf_10 : decode cX4_wellOf 10 = .ok (.bipush 13, 2) := by decide +kernel
theorem dX4_wellOf_12 : decode cX4_wellOf 12 = .ok (.invokestatic 32, 3) := by decide +kernel
theorem dX4_wellOf_15 : decode cX4_wellOf 15 = .ok (.ifCond .ne 5, 3) := by decide +kernel
theorem dX4_wellOf_18 : decode cX4_wellOf 18 = .ok (.iconst (-1), 1) := by decide +kernel
theorem dX4_wellOf_19 : decode cX4_wellOf 19 = .ok (.ireturn, 1) := by decide +kernel
theorem dX4_wellOf_20 : decode cX4_wellOf 20 = .ok (.iload_n 2, 1) := by decide +kernel
theorem dX4_wellOf_21 : decode cX4_wellOf 21 = .ok (.bipush 12, 2) := by decide +kernel
theorem dX4_wellOf_23 : decode cX4_wellOf 23 = .ok (.if_icmp .ne 9, 3) := by decide +kernel
theorem dX4_wellOf_26 : decode cX4_wellOf 26 = .ok (.aload_n 0, 1) := by decide +kernel
theorem dX4_wellOf_27 : decode cX4_wellOf 27 = .ok (.iload_n 1, 1) := by decide +kernel
theorem dX4_wellOf_28 : decode cX4_wellOf 28 = .ok (.invokevirtual 64, 3) := by decide +kernel
theorem dX4_wellOf_31 : decode cX4_wellOf 31 = .ok (.ireturn, 1) := by decide +kernel
theorem dX4_wellOf_32 : decode cX4_wellOf 32 = .ok (.iload_n 2, 1) := by decide +kernel
theorem dX4_wellOf_33 : decode cX4_wellOf 33 = .ok (.bipush 13, 2) := by decide +kernel
theorem dX4_wellOf_35 : decode cX4_wellOf 35 = .ok (.if_icmp .ne 25, 3) := by decide +kernel
theorem dX4_wellOf_38 : decode cX4_wellOf 38 = .ok (.aload_n 0, 1) := by decide +kernel
theorem dX4_wellOf_39 : decode cX4_wellOf 39 = .ok (.iload_n 1, 1) := by decide +kernel
theorem dX4_wellOf_40 : decode cX4_wellOf 40 = .ok (.aload_n 0, 1) := by decide +kernel
theorem dX4_wellOf_41 : decode cX4_wellOf 41 = .ok (.getfield 7, 3) := by decide +kernel
theorem dX4_wellOf_44 : decode cX4_wellOf 44 = .ok (.iconst 0, 1) := by decide +kernel
theorem dX4_wellOf_45 : decode cX4_wellOf 45 = .ok (.iaload, 1) := by decide +kernel
theorem dX4_wellOf_46 : decode cX4_wellOf 46 = .ok (.iconst 1, 1) := by decide +kernel
theorem dX4_wellOf_47 : decode cX4_wellOf 47 = .ok (.iadd, 1) := by decide +kernel
theorem dX4_wellOf_48 : decode cX4_wellOf 48 = .ok (.invokevirtual 67, 3) := by decide +kernel
theorem dX4_wellOf_51 : decode cX4_wellOf 51 = .ok (.ifCond .eq 7, 3) := by decide +kernel
theorem dX4_wellOf_54 : decode cX4_wellOf 54 = .ok (.iconst 1, 1) := by decide +kernel
theorem dX4_wellOf_55 : decode cX4_wellOf 55 = .ok (.goto 4, 3) := by decide +kernel
theorem dX4_wellOf_58 : decode cX4_wellOf 58 = .ok (.iconst 0, 1) := by decide +kernel
theorem dX4_wellOf_59 : decode cX4_wellOf 59 = .ok (.ireturn, 1) := by decide +kernel
theorem dX4_wellOf_60 : decode cX4_wellOf 60 = .ok (.iload_n 2, 1) := by decide +kernel
theorem dX4_wellOf_61 : decode cX4_wellOf 61 = .ok (.ifCond .ne 12, 3) := by decide +kernel
theorem dX4_wellOf_64 : decode cX4_wellOf 64 = .ok (.iload_n 1, 1) := by decide +kernel
theorem dX4_wellOf_65 : decode cX4_wellOf 65 = .ok (.ifCond .ne 8, 3) := by decide +kernel
theorem dX4_wellOf_68 : decode cX4_wellOf 68 = .ok (.bipush (-4), 2) := by decide +kernel
theorem dX4_wellOf_70 : decode cX4_wellOf 70 = .ok (.goto 9, 3) := by decide +kernel
theorem dX4_wellOf_73 : decode cX4_wellOf 73 = .ok (.aload_n 0, 1) := by decide +kernel
theorem dX4_wellOf_74 : decode cX4_wellOf 74 = .ok (.iload_n 1, 1) := by decide +kernel
theorem dX4_wellOf_75 : decode cX4_wellOf 75 = .ok (.iload_n 2, 1) := by decide +kernel
theorem dX4_wellOf_76 : decode cX4_wellOf 76 = .ok (.invokevirtual 36, 3) := by decide +kernel
theorem dX4_wellOf_79 : decode cX4_wellOf 79 = .ok (.ireturn, 1) := by decide +kernel
set_option maxRecDepth 20000 in
theorem ggX4_aboveAt_X4_isWell : GoodIn wsX4_aboveAt wsX4_isWell := goodIn_r _ [5, 6, 7, 8, 4, 9, 14, 15, 16, 17, 18, 19, 20, 21, 22, 23, 24, 25] (by decide +kernel) (by decide +kernel)
set_option maxRecDepth 20000 in
theorem gX4_aboveAt_X4_isWell : GoodIn wsX4_aboveAt (wsV RX4 40 RX4 yX4_isWell wsX4_isWell) := goodIn_app (goodIn_of _ (by decide +kernel)) ggX4_aboveAt_X4_isWell
set_option maxRecDepth 20000 in
theorem ggX4_aboveAt_X4_of : GoodIn wsX4_aboveAt wsX4_of := goodIn_r _ [13, 6, 14, 15, 16, 17, 18, 19, 20, 21, 22, 23, 24, 25] (by decide +kernel) (by decide +kernel)
set_option maxRecDepth 20000 in
theorem gX4_aboveAt_X4_of : GoodIn wsX4_aboveAt (wsV RX4 36 RX4 yX4_of wsX4_of) := goodIn_app (goodIn_of _ (by decide +kernel)) ggX4_aboveAt_X4_of
theorem dX4_aboveAt_0 : decode cX4_aboveAt 0 = .ok (.aload_n 0, 1) := by decide +kernel
theorem dX4_aboveAt_1 : decode cX4_aboveAt 1 = .ok (.iload_n 1, 1) := by decide +kernel
theorem dX4_aboveAt_2 : decode cX4_aboveAt 2 = .ok (.invokevirtual 40, 3) := by decide +kernel
theorem dX4_aboveAt_5 : decode cX4_aboveAt 5 = .ok (.ifCond .eq 7, 3) := by decide +kernel
theorem dX4_aboveAt_8 : decode cX4_aboveAt 8 = .ok (.iload_n 2, 1) := by decide +kernel
theorem dX4_aboveAt_9 : decode cX4_aboveAt 9 = .ok (.ifCond .ge 5, 3) := by decide +kernel
theorem dX4_aboveAt_12 : decode cX4_aboveAt 12 = .ok (.iconst (-1), 1) := by decide +kernel
theorem dX4_aboveAt_13 : decode cX4_aboveAt 13 = .ok (.ireturn, 1) := by decide +kernel
theorem dX4_aboveAt_14 : decode cX4_aboveAt 14 = .ok (.aload_n 0, 1) := by decide +kernel
theorem dX4_aboveAt_15 : decode cX4_aboveAt 15 = .ok (.iload_n 1, 1) := by decide +kernel
theorem dX4_aboveAt_16 : decode cX4_aboveAt 16 = .ok (.iconst 0, 1) := by decide +kernel
theorem dX4_aboveAt_17 : decode cX4_aboveAt 17 = .ok (.invokevirtual 36, 3) := by decide +kernel
theorem dX4_aboveAt_20 : decode cX4_aboveAt 20 = .ok (.istore_n 3, 1) := by decide +kernel
theorem dX4_aboveAt_21 : decode cX4_aboveAt 21 = .ok (.iconst 0, 1) := by decide +kernel
theorem dX4_aboveAt_22 : decode cX4_aboveAt 22 = .ok (.istore 4, 2) := by decide +kernel
theorem dX4_aboveAt_24 : decode cX4_aboveAt 24 = .ok (.iload 4, 2) := by decide +kernel
theorem dX4_aboveAt_26 : decode cX4_aboveAt 26 = .ok (.iload_n 2, 1) := by decide +kernel
theorem dX4_aboveAt_27 : decode cX4_aboveAt 27 = .ok (.if_icmp .ge 20, 3) := by decide +kernel
theorem dX4_aboveAt_30 : decode cX4_aboveAt 30 = .ok (.iload_n 3, 1) := by decide +kernel
theorem dX4_aboveAt_31 : decode cX4_aboveAt 31 = .ok (.ifCond .lt 16, 3) := by decide +kernel
theorem dX4_aboveAt_34 : decode cX4_aboveAt 34 = .ok (.aload_n 0, 1) := by decide +kernel
theorem dX4_aboveAt_35 : decode cX4_aboveAt 35 = .ok (.iload_n 3, 1) := by decide +kernel
theorem dX4_aboveAt_36 : decode cX4_aboveAt 36 = .ok (.iconst 0, 1) := by decide +kernel
theorem dX4_aboveAt_37 : decode cX4_aboveAt 37 = .ok (.invokevirtual 36, 3) := by decide +kernel
theorem dX4_aboveAt_40 : decode cX4_aboveAt 40 = .ok (.istore_n 3, 1) := by decide +kernel
theorem dX4_aboveAt_41 : decode cX4_aboveAt 41 = .ok (.iinc 4 1, 3) := by decide +kernel
theorem dX4_aboveAt_44 : decode cX4_aboveAt 44 = .ok (.goto (-20), 3) := by decide +kernel
theorem dX4_aboveAt_47 : decode cX4_aboveAt 47 = .ok (.iload_n 3, 1) := by decide +kernel
theorem dX4_aboveAt_48 : decode cX4_aboveAt 48 = .ok (.ifCond .ge 8, 3) := by decide +kernel
theorem dX4_aboveAt_51 : decode cX4_aboveAt 51 = .ok (.bipush (-4), 2) := by decide +kernel
theorem dX4_aboveAt_53 : decode cX4_aboveAt 53 = .ok (.goto 4, 3) := by decide +kernel
theorem dX4_aboveAt_56 : decode cX4_aboveAt 56 = .ok (.iload_n 3, 1) := by decide +kernel
theorem dX4_aboveAt_57 : decode cX4_aboveAt 57 = .ok (.ireturn, 1) := by decide +kernel
set_option maxRecDepth 20000 in
theorem ggX4_ableOf_X4_of : GoodIn wsX4_ableOf wsX4_of := goodIn_r _ [5, 6, 10, 11, 12, 13, 14, 15, 16, 17, 18, 19, 20, 21] (by decide +kernel) (by decide +kernel)
set_option maxRecDepth 20000 in
theorem gX4_ableOf_X4_of : GoodIn wsX4_ableOf (wsV RX4 36 RX4 yX4_of wsX4_of) := goodIn_app (goodIn_of _ (by decide +kernel)) ggX4_ableOf_X4_of
set_option maxRecDepth 20000 in
theorem ggX4_ableOf_X4_least : GoodIn wsX4_ableOf wsX4_least := goodIn_r _ [9] (by decide +kernel) (by decide +kernel)
set_option maxRecDepth 20000 in
theorem gX4_ableOf_X4_least : GoodIn wsX4_ableOf (va_wsS RX4 71 yX4_least wsX4_least) := goodIn_app (goodIn_of _ (by decide +kernel)) ggX4_ableOf_X4_least
theorem dX4_ableOf_0 : decode cX4_ableOf 0 = .ok (.aload_n 0, 1) := by decide +kernel
theorem dX4_ableOf_1 : decode cX4_ableOf 1 = .ok (.iload_n 1, 1) := by decide +kernel
theorem dX4_ableOf_2 : decode cX4_ableOf 2 = .ok (.iconst 4, 1) := by decide +kernel
theorem dX4_ableOf_3 : decode cX4_ableOf 3 = .ok (.invokevirtual 36, 3) := by decide +kernel
theorem dX4_ableOf_6 : decode cX4_ableOf 6 = .ok (.istore_n 2, 1) := by decide +kernel
theorem dX4_ableOf_7 : decode cX4_ableOf 7 = .ok (.aload_n 0, 1) := by decide +kernel
theorem dX4_ableOf_8 : decode cX4_ableOf 8 = .ok (.iload_n 1, 1) := by decide +kernel
theorem dX4_ableOf_9 : decode cX4_ableOf 9 = .ok (.iconst 0, 1) := by decide +kernel
theorem dX4_ableOf_10 : decode cX4_ableOf 10 = .ok (.invokevirtual 36, 3) := by decide +kernel
theorem dX4_ableOf_13 : decode cX4_ableOf 13 = .ok (.istore_n 3, 1) := by decide +kernel
theorem dX4_ableOf_14 : decode cX4_ableOf 14 = .ok (.iload_n 3, 1) := by decide +kernel
theorem dX4_ableOf_15 : decode cX4_ableOf 15 = .ok (.ifCond .lt 31, 3) := by decide +kernel
theorem dX4_ableOf_18 : decode cX4_ableOf 18 = .ok (.iload_n 2, 1) := by decide +kernel
theorem dX4_ableOf_19 : decode cX4_ableOf 19 = .ok (.aload_n 0, 1) := by decide +kernel
theorem dX4_ableOf_20 : decode cX4_ableOf 20 = .ok (.iload_n 3, 1) := by decide +kernel
theorem dX4_ableOf_21 : decode cX4_ableOf 21 = .ok (.iconst 4, 1) := by decide +kernel
theorem dX4_ableOf_22 : decode cX4_ableOf 22 = .ok (.invokevirtual 36, 3) := by decide +kernel
theorem dX4_ableOf_25 : decode cX4_ableOf 25 = .ok (.aload_n 0, 1) := by decide +kernel
theorem dX4_ableOf_26 : decode cX4_ableOf 26 = .ok (.iload_n 3, 1) := by decide +kernel
theorem dX4_ableOf_27 : decode cX4_ableOf 27 = .ok (.iconst 3, 1) := by decide +kernel
theorem dX4_ableOf_28 : decode cX4_ableOf 28 = .ok (.invokevirtual 36, 3) := by decide +kernel
theorem dX4_ableOf_31 : decode cX4_ableOf 31 = .ok (.invokestatic 71, 3) := by decide +kernel
theorem dX4_ableOf_34 : decode cX4_ableOf 34 = .ok (.iadd, 1) := by decide +kernel
theorem dX4_ableOf_35 : decode cX4_ableOf 35 = .ok (.istore_n 2, 1) := by decide +kernel
theorem dX4_ableOf_36 : decode cX4_ableOf 36 = .ok (.aload_n 0, 1) := by decide +kernel
theorem dX4_ableOf_37 : decode cX4_ableOf 37 = .ok (.iload_n 3, 1) := by decide +kernel
theorem dX4_ableOf_38 : decode cX4_ableOf 38 = .ok (.iconst 0, 1) := by decide +kernel
theorem dX4_ableOf_39 : decode cX4_ableOf 39 = .ok (.invokevirtual 36, 3) := by decide +kernel
theorem dX4_ableOf_42 : decode cX4_ableOf 42 = .ok (.istore_n 3, 1) := by decide +kernel
theorem dX4_ableOf_43 : decode cX4_ableOf 43 = .ok (.goto (-29), 3) := by decide +kernel
theorem dX4_ableOf_46 : decode cX4_ableOf 46 = .ok (.iload_n 2, 1) := by decide +kernel
theorem dX4_ableOf_47 : decode cX4_ableOf 47 = .ok (.ireturn, 1) := by decide +kernel
set_option maxRecDepth 20000 in
theorem ggX4_isDraw_X4_in : GoodIn wsX4_isDraw wsX4_in := goodIn_r _ [4] (by decide +kernel) (by decide +kernel)
set_option maxRecDepth 20000 in
theorem gX4_isDraw_X4_in : GoodIn wsX4_isDraw (va_wsS RX4 32 yX4_in wsX4_in) := goodIn_app (goodIn_of _ (by decide +kernel)) ggX4_isDraw_X4_in
theorem dX4_isDraw_0 : decode cX4_isDraw 0 = .ok (.iload_n 0, 1) := by decide +kernel
theorem dX4_isDraw_1 : decode cX4_isDraw 1 = .ok (.iconst 1, 1) := by decide +kernel
theorem dX4_isDraw_2 : decode cX4_isDraw 2 = .ok (.sipush 999, 3) := by decide +kernel
theorem dX4_isDraw_5 : decode cX4_isDraw 5 = .ok (.invokestatic 32, 3) := by decide +kernel
theorem dX4_isDraw_8 : decode cX4_isDraw 8 = .ok (.ireturn, 1) := by decide +kernel
set_option maxRecDepth 20000 in
theorem ggX4_part_X4_of : GoodIn wsX4_part wsX4_of := goodIn_r _ [5, 6, 10, 11, 12, 13, 14, 15, 16, 17, 18, 19, 20, 21] (by decide +kernel) (by decide +kernel)
set_option maxRecDepth 20000 in
theorem gX4_part_X4_of : GoodIn wsX4_part (wsV RX4 36 RX4 yX4_of wsX4_of) := goodIn_app (goodIn_of _ (by decide +kernel)) ggX4_part_X4_of
set_option maxRecDepth 20000 in
theorem ggX4_part_X4_least : GoodIn wsX4_part wsX4_least := goodIn_r _ [9] (by decide +kernel) (by decide +kernel)
set_option maxRecDepth 20000 in
theorem gX4_part_X4_least : GoodIn wsX4_part (va_wsS RX4 71 yX4_least wsX4_least) := goodIn_app (goodIn_of _ (by decide +kernel)) ggX4_part_X4_least
theorem dX4_part_0 : decode cX4_part 0 = .ok (.iload_n 3, 1) := by decide +kernel
theorem dX4_part_1 : decode cX4_part 1 = .ok (.iload_n 1, 1) := by decide +kernel
theorem dX4_part_2 : decode cX4_part 2 = .ok (.iload_n 2, 1) := by decide +kernel
theorem dX4_part_3 : decode cX4_part 3 = .ok (.if_icmp .ne 12, 3) := by decide +kernel
theorem dX4_part_6 : decode cX4_part 6 = .ok (.aload_n 0, 1) := by decide +kernel
theorem dX4_part_7 : decode cX4_part 7 = .ok (.iload_n 2, 1) := by decide +kernel
theorem dX4_part_8 : decode cX4_part 8 = .ok (.iconst 4, 1) := by decide +kernel
theorem dX4_part_9 : decode cX4_part 9 = .ok (.invokevirtual 36, 3) := by decide +kernel
theorem dX4_part_12 : decode cX4_part 12 = .ok (.goto 18, 3) := by decide +kernel
theorem dX4_part_15 : decode cX4_part 15 = .ok (.aload_n 0, 1) := by decide +kernel
theorem dX4_part_16 : decode cX4_part 16 = .ok (.iload_n 2, 1) := by decide +kernel
theorem dX4_part_17 : decode cX4_part 17 = .ok (.iconst 4, 1) := by decide +kernel
theorem dX4_part_18 : decode cX4_part 18 = .ok (.invokevirtual 36, 3) := by decide +kernel
theorem dX4_part_21 : decode cX4_part 21 = .ok (.aload_n 0, 1) := by decide +kernel
theorem dX4_part_22 : decode cX4_part 22 = .ok (.iload_n 2, 1) := by decide +kernel
theorem dX4_part_23 : decode cX4_part 23 = .ok (.iconst 3, 1) := by decide +kernel
theorem dX4_part_24 : decode cX4_part 24 = .ok (.invokevirtual 36, 3) := by decide +kernel
theorem dX4_part_27 : decode cX4_part 27 = .ok (.invokestatic 71, 3) := by decide +kernel
theorem dX4_part_30 : decode cX4_part 30 = .ok (.invokestatic 71, 3) := by decide +kernel
theorem dX4_part_33 : decode cX4_part 33 = .ok (.ireturn, 1) := by decide +kernel
set_option maxRecDepth 20000 in
theorem ggX4_takes_X4_part : GoodIn wsX4_takes wsX4_part := goodIn_r _ [6, 7, 8, 9, 5, 10, 1, 11, 12, 13, 18, 19, 20, 21, 22, 23, 24, 25, 26, 27, 28, 29] (by decide +kernel) (by decide +kernel)
set_option maxRecDepth 20000 in
theorem gX4_takes_X4_part : GoodIn wsX4_takes (wsV RX4 74 RX4 yX4_part wsX4_part) := goodIn_app (goodIn_of _ (by decide +kernel)) ggX4_takes_X4_part
set_option maxRecDepth 20000 in
theorem ggX4_takes_X4_adds : GoodIn wsX4_takes wsX4_adds := goodIn_r _ [17, 1, 18, 19, 20, 21, 22, 23, 24, 25, 26, 27, 28, 29] (by decide +kernel) (by decide +kernel)
set_option maxRecDepth 20000 in
theorem gX4_takes_X4_adds : GoodIn wsX4_takes (wsV RX4 44 RX4 yX4_adds wsX4_adds) := goodIn_app (goodIn_of _ (by decide +kernel)) ggX4_takes_X4_adds
set_option maxRecDepth 20000 in
theorem ggX4_takes_X4_of : GoodIn wsX4_takes wsX4_of := goodIn_r _ [10, 1, 18, 19, 20, 21, 22, 23, 24, 25, 26, 27, 28, 29] (by decide +kernel) (by decide +kernel)
set_option maxRecDepth 20000 in
theorem gX4_takes_X4_of : GoodIn wsX4_takes (wsV RX4 36 RX4 yX4_of wsX4_of) := goodIn_app (goodIn_of _ (by decide +kernel)) ggX4_takes_X4_of
theorem dX4_takes_0 : decode cX4_takes 0 = .ok (.iload_n 2, 1) := by decide +kernel
theorem dX4_takes_1 : decode cX4_takes 1 = .ok (.istore_n 3, 1) := by decide +kernel
theorem dX4_takes_2 : decode cX4_takes 2 = .ok (.iconst 0, 1) := by decide +kernel
theorem dX4_takes_3 : decode cX4_takes 3 = .ok (.istore 4, 2) := by decide +kernel
theorem dX4_takes_5 : decode cX4_takes 5 = .ok (.iload_n 1, 1) := by decide +kernel
theorem dX4_takes_6 : decode cX4_takes 6 = .ok (.istore 5, 2) := by decide +kernel
theorem dX4_takes_8 : decode cX4_takes 8 = .ok (.iload 5, 2) := by decide +kernel
theorem dX4_takes_10 : decode cX4_takes 10 = .ok (.ifCond .lt 78, 3) := by decide +kernel
theorem dX4_takes_13 : decode cX4_takes 13 = .ok (.aload_n 0, 1) := by decide +kernel
theorem dX4_takes_14 : decode cX4_takes 14 = .ok (.iload_n 1, 1) := by decide +kernel
theorem dX4_takes_15 : decode cX4_takes 15 = .ok (.iload 5, 2) := by decide +kernel
theorem dX4_takes_17 : decode cX4_takes 17 = .ok (.iload_n 3, 1) := by decide +kernel
theorem dX4_takes_18 : decode cX4_takes 18 = .ok (.invokevirtual 74, 3) := by decide +kernel
theorem dX4_takes_21 : decode cX4_takes 21 = .ok (.istore 6, 2) := by decide +kernel
theorem dX4_takes_23 : decode cX4_takes 23 = .ok (.aload_n 0, 1) := by decide +kernel
theorem dX4_takes_24 : decode cX4_takes 24 = .ok (.iload 5, 2) := by decide +kernel
theorem dX4_takes_26 : decode cX4_takes 26 = .ok (.iconst 4, 1) := by decide +kernel
theorem dX4_takes_27 : decode cX4_takes 27 = .ok (.iload 6, 2) := by decide +kernel
theorem dX4_takes_29 : decode cX4_takes 29 = .ok (.ineg, 1) := by decide +kernel
theorem dX4_takes_30 : decode cX4_takes 30 = .ok (.invokevirtual 44, 3) := by decide +kernel
theorem dX4_takes_33 : decode cX4_takes 33 = .ok (.aload_n 0, 1) := by decide +kernel
theorem dX4_takes_34 : decode cX4_takes 34 = .ok (.iload 5, 2) := by decide +kernel
theorem dX4_takes_36 : decode cX4_takes 36 = .ok (.iload 5, 2) := by decide +kernel
theorem dX4_takes_38 : decode cX4_takes 38 = .ok (.iload_n 1, 1) := by decide +kernel
theorem dX4_takes_39 : decode cX4_takes 39 = .ok (.if_icmp .ne 8, 3) := by decide +kernel
theorem dX4_takes_42 : decode cX4_takes 42 = .ok (.bipush 8, 2) := by decide +kernel
theorem dX4_takes_44 : decode cX4_takes 44 = .ok (.goto 5, 3) := by decide +kernel
theorem dX4_takes_47 : decode cX4_takes 47 = .ok (.bipush 9, 2) := by decide +kernel
theorem dX4_takes_49 : decode cX4_takes 49 = .ok (.iload 6, 2) := by decide +kernel
theorem dX4_takes_51 : decode cX4_takes 51 = .ok (.invokevirtual 44, 3) := by decide +kernel
theorem dX4_takes_54 : decode cX4_takes 54 = .ok (.iload_n 3, 1) := by decide +kernel
theorem dX4_takes_55 : decode cX4_takes 55 = .ok (.iload 6, 2) := by decide +kernel
theorem dX4_takes_57 : decode cX4_takes 57 = .ok (.isub, 1) := by decide +kernel
theorem dX4_takes_58 : decode cX4_takes 58 = .ok (.istore_n 3, 1) := by decide +kernel
theorem dX4_takes_59 : decode cX4_takes 59 = .ok (.iload 4, 2) := by decide +kernel
theorem dX4_takes_61 : decode cX4_takes 61 = .ok (.iload 5, 2) := by decide +kernel
theorem dX4_takes_63 : decode cX4_takes 63 = .ok (.iload_n 1, 1) := by decide +kernel
theorem dX4_takes_64 : decode cX4_takes 64 = .ok (.if_icmp .ne 7, 3) := by decide +kernel
theorem dX4_takes_67 : decode cX4_takes 67 = .ok (.iconst 0, 1) := by decide +kernel
theorem dX4_takes_68 : decode cX4_takes 68 = .ok (.goto 5, 3) := by decide +kernel
theorem dX4_takes_71 : decode cX4_takes 71 = .ok (.iload 6, 2) := by decide +kernel
theorem dX4_takes_73 : decode cX4_takes 73 = .ok (.iadd, 1) := by decide +kernel
theorem dX4_takes_74 : decode cX4_takes 74 = .ok (.istore 4, 2) := by decide +kernel
theorem dX4_takes_76 : decode cX4_takes 76 = .ok (.aload_n 0, 1) := by decide +kernel
theorem dX4_takes_77 : decode cX4_takes 77 = .ok (.iload 5, 2) := by decide +kernel
theorem dX4_takes_79 : decode cX4_takes 79 = .ok (.iconst 0, 1) := by decide +kernel
theorem dX4_takes_80 : decode cX4_takes 80 = .ok (.invokevirtual 36, 3) := by decide +kernel
theorem dX4_takes_83 : decode cX4_takes 83 = .ok (.istore 5, 2) := by decide +kernel
theorem dX4_takes_85 : decode cX4_takes 85 = .ok (.goto (-77), 3) := by decide +kernel
theorem dX4_takes_88 : decode cX4_takes 88 = .ok (.aload_n 0, 1) := by decide +kernel
theorem dX4_takes_89 : decode cX4_takes 89 = .ok (.getfield 7, 3) := by decide +kernel
theorem dX4_takes_92 : decode cX4_takes 92 = .ok (.bipush 6, 2) := by decide +kernel
theorem dX4_takes_94 : decode cX4_takes 94 = .ok (.dup2, 1) := by decide +kernel
theorem dX4_takes_95 : decode cX4_takes 95 = .ok (.iaload, 1) := by decide +kernel
theorem dX4_takes_96 : decode cX4_takes 96 = .ok (.iload_n 2, 1) := by decide +kernel
theorem dX4_takes_97 : decode cX4_takes 97 = .ok (.iadd, 1) := by decide +kernel
theorem dX4_takes_98 : decode cX4_takes 98 = .ok (.iastore, 1) := by decide +kernel
theorem dX4_takes_99 : decode cX4_takes 99 = .ok (.iload 4, 2) := by decide +kernel
theorem dX4_takes_101 : decode cX4_takes 101 = .ok (.ireturn, 1) := by decide +kernel
set_option maxRecDepth 20000 in
theorem ggX4_draws_X4_isWell : GoodIn wsX4_draws wsX4_isWell := goodIn_r _ [5, 6, 7, 8, 4, 9, 36, 37, 38, 39, 40, 41, 42, 43, 44, 45, 46, 47] (by decide +kernel) (by decide +kernel)
set_option maxRecDepth 20000 in
theorem gX4_draws_X4_isWell : GoodIn wsX4_draws (wsV RX4 40 RX4 yX4_isWell wsX4_isWell) := goodIn_app (goodIn_of _ (by decide +kernel)) ggX4_draws_X4_isWell
set_option maxRecDepth 20000 in
theorem ggX4_draws_X4_isDraw : GoodIn wsX4_draws wsX4_isDraw := goodIn_r _ [12, 7, 8, 4, 9] (by decide +kernel) (by decide +kernel)
set_option maxRecDepth 20000 in
theorem gX4_draws_X4_isDraw : GoodIn wsX4_draws (va_wsS RX4 77 yX4_isDraw wsX4_isDraw) := goodIn_app (goodIn_of _ (by decide +kernel)) ggX4_draws_X4_isDraw
set_option maxRecDepth 20000 in
theorem ggX4_draws_X4_ableOf : GoodIn wsX4_draws wsX4_ableOf := goodIn_r _ [16, 17, 18, 19, 4, 20, 6, 21, 22, 23, 36, 37, 38, 39, 40, 41, 42, 43, 44, 45, 46, 47] (by decide +kernel) (by decide +kernel)
set_option maxRecDepth 20000 in
theorem gX4_draws_X4_ableOf : GoodIn wsX4_draws (wsV RX4 80 RX4 yX4_ableOf wsX4_ableOf) := goodIn_app (goodIn_of _ (by decide +kernel)) ggX4_draws_X4_ableOf
set_option maxRecDepth 20000 in
theorem ggX4_draws_X4_takes : GoodIn wsX4_draws wsX4_takes := goodIn_r _ [27, 6, 28, 29, 30, 4, 31, 17, 18, 19, 20, 21, 22, 23, 32, 33, 34, 35, 36, 37, 38, 39, 40, 41, 42, 43, 44, 45, 46, 47] (by decide +kernel) (by decide +kernel)
set_option maxRecDepth 20000 in
theorem gX4_draws_X4_takes : GoodIn wsX4_draws (wsV RX4 83 RX4 yX4_takes wsX4_takes) := goodIn_app (goodIn_of _ (by decide +kernel)) ggX4_draws_X4_takes
theorem dX4_draws_0 : decode cX4_draws 0 = .ok (.aload_n 0, 1) := by decide +kernel
theorem dX4_draws_1 : decode cX4_draws 1 = .ok (.iload_n 1, 1) := by decide +kernel
theorem dX4_draws_2 : decode cX4_draws 2 = .ok (.invokevirtual 40, 3) := by decide +kernel
theorem dX4_draws_5 : decode cX4_draws 5 = .ok (.ifCond .eq 10, 3) := by decide +kernel
theorem dX4_draws_8 : decode cX4_draws 8 = .ok (.iload_n 2, 1) := by decide +kernel
theorem dX4_draws_9 : decode cX4_draws 9 = .ok (.invokestatic 77, 3) := by decide +kernel
theorem dX4_draws_12 : decode cX4_draws 12 = .ok (.ifCond .ne 5, 3) := by decide +kernel
theorem dX4_draws_15 : decode cX4_draws 15 = .ok (.iconst (-1), 1) := by decide +kernel
theorem dX4_draws_16 : decode cX4_draws 16 = .ok (.ireturn, 1) := by decide +kernel
theorem dX4_draws_17 : decode cX4_draws 17 = .ok (.aload_n 0, 1) := by decide +kernel
theorem dX4_draws_18 : decode cX4_draws 18 = .ok (.iload_n 1, 1) := by decide +kernel
theorem dX4_draws_19 : decode cX4_draws 19 = .ok (.invokevirtual 80, 3) := by decide +kernel
theorem dX4_draws_22 : decode cX4_draws 22 = .ok (.iload_n 2, 1) := by decide +kernel
theorem dX4_draws_23 : decode cX4_draws 23 = .ok (.if_icmp .ge 8, 3) := by decide +kernel
theorem dX4_draws_26 : decode cX4_draws 26 = .ok (.bipush (-2), 2) := by decide +kernel
theorem dX4_draws_28 : decode cX4_draws 28 = .ok (.goto 9, 3) := by decide +kernel
theorem dX4_draws_31 : decode cX4_draws 31 = .ok (.aload_n 0, 1) := by decide +kernel
theorem dX4_draws_32 : decode cX4_draws 32 = .ok (.iload_n 1, 1) := by decide +kernel
theorem dX4_draws_33 : decode cX4_draws 33 = .ok (.iload_n 2, 1) := by decide +kernel
theorem dX4_draws_34 : decode cX4_draws 34 = .ok (.invokevirtual 83, 3) := by decide +kernel
theorem dX4_draws_37 : decode cX4_draws 37 = .ok (.ireturn, 1) := by decide +kernel
set_option maxRecDepth 20000 in
theorem ggX4_draw_X4_copy : GoodIn wsX4_draw wsX4_copy := goodIn_r _ [5, 6, 7, 52, 53, 54, 55, 56, 57, 58, 59, 60, 61, 62, 63] (by decide +kernel) (by decide +kernel)
set_option maxRecDepth 20000 in
theorem gX4_draw_X4_copy : GoodIn wsX4_draw (wsV RX4 48 RX4 yX4_copy wsX4_copy) := goodIn_app (goodIn_of _ (by decide +kernel)) ggX4_draw_X4_copy
set_option maxRecDepth 20000 in
theorem ggX4_draw_X4_draws : GoodIn wsX4_draw wsX4_draws := goodIn_r _ [11, 12, 13, 14, 4, 15, 7, 16, 17, 18, 19, 20, 21, 22, 23, 24, 25, 26, 27, 28, 29, 30, 31, 32, 33, 34, 35, 36, 37, 38, 39, 40, 41, 42, 43, 44, 52, 53, 54, 55, 56, 57, 58, 59, 60, 61, 62, 63] (by decide +kernel) (by decide +kernel)
set_option maxRecDepth 20000 in
theorem gX4_draw_X4_draws : GoodIn wsX4_draw (wsV RX4 86 RX4 yX4_draws wsX4_draws) := goodIn_app (goodIn_of _ (by decide +kernel)) ggX4_draw_X4_draws
set_option maxRecDepth 20000 in
theorem ggX4_draw_X4_recorded : GoodIn wsX4_draw wsX4_recorded := goodIn_r _ [48, 49, 50, 6, 51, 52, 53, 54, 55, 56, 57, 58, 59, 60, 61, 62, 63] (by decide +kernel) (by decide +kernel)
set_option maxRecDepth 20000 in
theorem gX4_draw_X4_recorded : GoodIn wsX4_draw (wsV RX4 55 RX4 yX4_recorded wsX4_recorded) := goodIn_app (goodIn_of _ (by decide +kernel)) ggX4_draw_X4_recorded
theorem dX4_draw_0 : decode cX4_draw 0 = .ok (.aload_n 0, 1) := by decide +kernel
theorem dX4_draw_1 : decode cX4_draw 1 = .ok (.invokevirtual 48, 3) := by decide +kernel
theorem dX4_draw_4 : decode cX4_draw 4 = .ok (.aload_n 0, 1) := by decide +kernel
theorem dX4_draw_5 : decode cX4_draw 5 = .ok (.aload_n 0, 1) := by decide +kernel
theorem dX4_draw_6 : decode cX4_draw 6 = .ok (.iload_n 1, 1) := by decide +kernel
theorem dX4_draw_7 : decode cX4_draw 7 = .ok (.iload_n 2, 1) := by decide +kernel
theorem dX4_draw_8 : decode cX4_draw 8 = .ok (.invokevirtual 86, 3) := by decide +kernel
theorem dX4_draw_11 : decode cX4_draw 11 = .ok (.invokevirtual 55, 3) := by decide +kernel
theorem dX4_draw_14 : decode cX4_draw 14 = .ok (.ireturn, 1) := by decide +kernel
set_option maxRecDepth 20000 in
theorem ggX4_requests_X4_isWell : GoodIn wsX4_requests wsX4_isWell := goodIn_r _ [6, 1, 7, 8, 5, 9, 36, 37, 38, 39, 40, 41, 42, 43, 44, 45, 46, 47] (by decide +kernel) (by decide +kernel)
set_option maxRecDepth 20000 in
theorem gX4_requests_X4_isWell : GoodIn wsX4_requests (wsV RX4 40 RX4 yX4_isWell wsX4_isWell) := goodIn_app (goodIn_of _ (by decide +kernel)) ggX4_requests_X4_isWell
set_option maxRecDepth 20000 in
theorem ggX4_requests_X4_isDraw : GoodIn wsX4_requests wsX4_isDraw := goodIn_r _ [12, 7, 8, 5, 9] (by decide +kernel) (by decide +kernel)
set_option maxRecDepth 20000 in
theorem gX4_requests_X4_isDraw : GoodIn wsX4_requests (va_wsS RX4 77 yX4_isDraw wsX4_isDraw) := goodIn_app (goodIn_of _ (by decide +kernel)) ggX4_requests_X4_isDraw
set_option maxRecDepth 20000 in
theorem ggX4_requests_X4_ableOf : GoodIn wsX4_requests wsX4_ableOf := goodIn_r _ [16, 17, 18, 19, 5, 20, 1, 21, 22, 23, 36, 37, 38, 39, 40, 41, 42, 43, 44, 45, 46, 47] (by decide +kernel) (by decide +kernel)
set_option maxRecDepth 20000 in
theorem gX4_requests_X4_ableOf : GoodIn wsX4_requests (wsV RX4 80 RX4 yX4_ableOf wsX4_ableOf) := goodIn_app (goodIn_of _ (by decide +kernel)) ggX4_requests_X4_ableOf
set_option maxRecDepth 20000 in
theorem ggX4_requests_X4_takes : GoodIn wsX4_requests wsX4_takes := goodIn_r _ [27, 1, 28, 29, 30, 5, 31, 17, 18, 19, 20, 21, 22, 23, 32, 33, 34, 35, 36, 37, 38, 39, 40, 41, 42, 43, 44, 45, 46, 47] (by decide +kernel) (by decide +kernel)
set_option maxRecDepth 20000 in
theorem gX4_requests_X4_takes : GoodIn wsX4_requests (wsV RX4 83 RX4 yX4_takes wsX4_takes) := goodIn_app (goodIn_of _ (by decide +kernel)) ggX4_requests_X4_takes
theorem dX4_requests_0 : decode cX4_requests 0 = .ok (.aload_n 0, 1) := by decide +kernel
theorem dX4_requests_1 : decode cX4_requests 1 = .ok (.iload_n 1, 1) := by decide +kernel
theorem dX4_requests_2 : decode cX4_requests 2 = .ok (.invokevirtual 40, 3) := by decide +kernel
theorem dX4_requests_5 : decode cX4_requests 5 = .ok (.ifCond .eq 10, 3) := by decide +kernel
theorem dX4_requests_8 : decode cX4_requests 8 = .ok (.iload_n 2, 1) := by decide +kernel
theorem dX4_requests_9 : decode cX4_requests 9 = .ok (.invokestatic 77, 3) := by decide +kernel
theorem dX4_requests_12 : decode cX4_requests 12 = .ok (.ifCond .ne 5, 3) := by decide +kernel
theorem dX4_requests_15 : decode cX4_requests 15 = .ok (.iconst (-1), 1) := by decide +kernel
theorem dX4_requests_16 : decode cX4_requests 16 = .ok (.ireturn, 1) := by decide +kernel
theorem dX4_requests_17 : decode cX4_requests 17 = .ok (.aload_n 0, 1) := by decide +kernel
theorem dX4_requests_18 : decode cX4_requests 18 = .ok (.getfield 7, 3) := by decide +kernel
theorem dX4_requests_21 : decode cX4_requests 21 = .ok (.iconst 5, 1) := by decide +kernel
theorem dX4_requests_22 : decode cX4_requests 22 = .ok (.iaload, 1) := by decide +kernel
theorem dX4_requests_23 : decode cX4_requests 23 = .ok (.ifCond .ne 21, 3) := by decide +kernel
theorem dX4_requests_26 : decode cX4_requests 26 = .ok (.aload_n 0, 1) := by decide +kernel
theorem dX4_requests_27 : decode cX4_requests 27 = .ok (.iload_n 1, 1) := by decide +kernel
theorem dX4_requests_28 : decode cX4_requests 28 = .ok (.invokevirtual 80, 3) := by decide +kernel
theorem dX4_requests_31 : decode cX4_requests 31 = .ok (.iload_n 2, 1) := by decide +kernel
theorem dX4_requests_32 : decode cX4_requests 32 = .ok (.if_icmp .lt 12, 3) := by decide +kernel
theorem dX4_requests_35 : decode cX4_requests 35 = .ok (.aload_n 0, 1) := by decide +kernel
theorem dX4_requests_36 : decode cX4_requests 36 = .ok (.iload_n 1, 1) := by decide +kernel
theorem dX4_requests_37 : decode cX4_requests 37 = .ok (.iload_n 2, 1) := by decide +kernel
theorem dX4_requests_38 : decode cX4_requests 38 = .ok (.invokevirtual 83, 3) := by decide +kernel
theorem dX4_requests_41 : decode cX4_requests 41 = .ok (.pop, 1) := by decide +kernel
theorem dX4_requests_42 : decode cX4_requests 42 = .ok (.iconst 0, 1) := by decide +kernel
theorem dX4_requests_43 : decode cX4_requests 43 = .ok (.ireturn, 1) := by decide +kernel
theorem dX4_requests_44 : decode cX4_requests 44 = .ok (.aload_n 0, 1) := by decide +kernel
theorem dX4_requests_45 : decode cX4_requests 45 = .ok (.getfield 7, 3) := by decide +kernel
theorem dX4_requests_48 : decode cX4_requests 48 = .ok (.iconst 5, 1) := by decide +kernel
theorem dX4_requests_49 : decode cX4_requests 49 = .ok (.iaload, 1) := by decide +kernel
theorem dX4_requests_50 : decode cX4_requests 50 = .ok (.bipush 8, 2) := by decide +kernel
theorem dX4_requests_52 : decode cX4_requests 52 = .ok (.if_icmp .ne 6, 3) := by decide +kernel
theorem dX4_requests_55 : decode cX4_requests 55 = .ok (.bipush (-3), 2) := by decide +kernel
theorem dX4_requests_57 : decode cX4_requests 57 = .ok (.ireturn, 1) := by decide +kernel
theorem dX4_requests_58 : decode cX4_requests 58 = .ok (.sipush 212, 3) := by decide +kernel
theorem dX4_requests_61 : decode cX4_requests 61 = .ok (.iconst 3, 1) := by decide +kernel
theorem dX4_requests_62 : decode cX4_requests 62 = .ok (.aload_n 0, 1) := by decide +kernel
theorem dX4_requests_63 : decode cX4_requests 63 = .ok (.getfield 7, 3) := by decide +kernel
theorem dX4_requests_66 : decode cX4_requests 66 = .ok (.iconst 5, 1) := by decide +kernel
theorem dX4_requests_67 : decode cX4_requests 67 = .ok (.iaload, 1) := by decide +kernel
theorem dX4_requests_68 : decode cX4_requests 68 = .ok (.imul, 1) := by decide +kernel
theorem dX4_requests_69 : decode cX4_requests 69 = .ok (.iadd, 1) := by decide +kernel
theorem dX4_requests_70 : decode cX4_requests 70 = .ok (.istore_n 3, 1) := by decide +kernel
theorem dX4_requests_71 : decode cX4_requests 71 = .ok (.aload_n 0, 1) := by decide +kernel
theorem dX4_requests_72 : decode cX4_requests 72 = .ok (.getfield 7, 3) := by decide +kernel
theorem dX4_requests_75 : decode cX4_requests 75 = .ok (.iload_n 3, 1) := by decide +kernel
theorem dX4_requests_76 : decode cX4_requests 76 = .ok (.iload_n 1, 1) := by decide +kernel
theorem dX4_requests_77 : decode cX4_requests 77 = .ok (.iastore, 1) := by decide +kernel
theorem dX4_requests_78 : decode cX4_requests 78 = .ok (.aload_n 0, 1) := by decide +kernel
theorem dX4_requests_79 : decode cX4_requests 79 = .ok (.getfield 7, 3) := by decide +kernel
theorem dX4_requests_82 : decode cX4_requests 82 = .ok (.iload_n 3, 1) := by decide +kernel
theorem dX4_requests_83 : decode cX4_requests 83 = .ok (.iconst 1, 1) := by decide +kernel
theorem dX4_requests_84 : decode cX4_requests 84 = .ok (.iadd, 1) := by decide +kernel
theorem dX4_requests_85 : decode cX4_requests 85 = .ok (.iload_n 2, 1) := by decide +kernel
theorem dX4_requests_86 : decode cX4_requests 86 = .ok (.iastore, 1) := by decide +kernel
theorem dX4_requests_87 : decode cX4_requests 87 = .ok (.aload_n 0, 1) := by decide +kernel
theorem dX4_requests_88 : decode cX4_requests 88 = .ok (.getfield 7, 3) := by decide +kernel
theorem dX4_requests_91 : decode cX4_requests 91 = .ok (.iload_n 3, 1) := by decide +kernel
theorem dX4_requests_92 : decode cX4_requests 92 = .ok (.iconst 2, 1) := by decide +kernel
theorem dX4_requests_93 : decode cX4_requests 93 = .ok (.iadd, 1) := by decide +kernel
theorem dX4_requests_94 : decode cX4_requests 94 = .ok (.aload_n 0, 1) := by decide +kernel
theorem dX4_requests_95 : decode cX4_requests 95 = .ok (.getfield 7, 3) := by decide +kernel
theorem dX4_requests_98 : decode cX4_requests 98 = .ok (.iconst 0, 1) := by decide +kernel
theorem dX4_requests_99 : decode cX4_requests 99 = .ok (.iaload, 1) := by decide +kernel
theorem dX4_requests_100 : decode cX4_requests 100 = .ok (.iastore, 1) := by decide +kernel
theorem dX4_requests_101 : decode cX4_requests 101 = .ok (.aload_n 0, 1) := by decide +kernel
theorem dX4_requests_102 : decode cX4_requests 102 = .ok (.getfield 7, 3) := by decide +kernel
theorem dX4_requests_105 : decode cX4_requests 105 = .ok (.iconst 5, 1) := by decide +kernel
theorem dX4_requests_106 : decode cX4_requests 106 = .ok (.dup2, 1) := by decide +kernel
theorem dX4_requests_107 : decode cX4_requests 107 = .ok (.iaload, 1) := by decide +kernel
theorem dX4_requests_108 : decode cX4_requests 108 = .ok (.iconst 1, 1) := by decide +kernel
theorem dX4_requests_109 : decode cX4_requests 109 = .ok (.iadd, 1) := by decide +kernel
theorem dX4_requests_110 : decode cX4_requests 110 = .ok (.iastore, 1) := by decide +kernel
theorem dX4_requests_111 : decode cX4_requests 111 = .ok (.aload_n 0, 1) := by decide +kernel
theorem dX4_requests_112 : decode cX4_requests 112 = .ok (.getfield 7, 3) := by decide +kernel
theorem dX4_requests_115 : decode cX4_requests 115 = .ok (.iconst 5, 1) := by decide +kernel
theorem dX4_requests_116 : decode cX4_requests 116 = .ok (.iaload, 1) := by decide +kernel
theorem dX4_requests_117 : decode cX4_requests 117 = .ok (.ireturn, 1) := by decide +kernel
set_option maxRecDepth 20000 in
theorem ggX4_request_X4_copy : GoodIn wsX4_request wsX4_copy := goodIn_r _ [5, 6, 7, 52, 53, 54, 55, 56, 57, 58, 59, 60, 61, 62, 63] (by decide +kernel) (by decide +kernel)
set_option maxRecDepth 20000 in
theorem gX4_request_X4_copy : GoodIn wsX4_request (wsV RX4 48 RX4 yX4_copy wsX4_copy) := goodIn_app (goodIn_of _ (by decide +kernel)) ggX4_request_X4_copy
set_option maxRecDepth 20000 in
theorem ggX4_request_X4_requests : GoodIn wsX4_request wsX4_requests := goodIn_r _ [11, 7, 12, 13, 14, 4, 15, 16, 17, 18, 19, 20, 21, 22, 23, 24, 25, 26, 27, 28, 29, 30, 31, 32, 33, 34, 35, 36, 37, 38, 39, 40, 41, 42, 43, 44, 52, 53, 54, 55, 56, 57, 58, 59, 60, 61, 62, 63] (by decide +kernel) (by decide +kernel)
set_option maxRecDepth 20000 in
theorem gX4_request_X4_requests : GoodIn wsX4_request (wsV RX4 89 RX4 yX4_requests wsX4_requests) := goodIn_app (goodIn_of _ (by decide +kernel)) ggX4_request_X4_requests
set_option maxRecDepth 20000 in
theorem ggX4_request_X4_recorded : GoodIn wsX4_request wsX4_recorded := goodIn_r _ [48, 49, 50, 6, 51, 52, 53, 54, 55, 56, 57, 58, 59, 60, 61, 62, 63] (by decide +kernel) (by decide +kernel)
set_option maxRecDepth 20000 in
theorem gX4_request_X4_recorded : GoodIn wsX4_request (wsV RX4 55 RX4 yX4_recorded wsX4_recorded) := goodIn_app (goodIn_of _ (by decide +kernel)) ggX4_request_X4_recorded
theorem dX4_request_0 : decode cX4_request 0 = .ok (.aload_n 0, 1) := by decide +kernel
theorem dX4_request_1 : decode cX4_request 1 = .ok (.invokevirtual 48, 3) := by decide +kernel
theorem dX4_request_4 : decode cX4_request 4 = .ok (.aload_n 0, 1) := by decide +kernel
theorem dX4_request_5 : decode cX4_request 5 = .ok (.aload_n 0, 1) := by decide +kernel
theorem dX4_request_6 : decode cX4_request 6 = .ok (.iload_n 1, 1) := by decide +kernel
theorem dX4_request_7 : decode cX4_request 7 = .ok (.iload_n 2, 1) := by decide +kernel
theorem dX4_request_8 : decode cX4_request 8 = .ok (.invokevirtual 89, 3) := by decide +kernel
theorem dX4_request_11 : decode cX4_request 11 = .ok (.invokevirtual 55, 3) := by decide +kernel
theorem dX4_request_14 : decode cX4_request 14 = .ok (.ireturn, 1) := by decide +kernel
set_option maxRecDepth 20000 in
theorem ggX4_isPlace_X4_in : GoodIn wsX4_isPlace wsX4_in := goodIn_r _ [5] (by decide +kernel) (by decide +kernel)
set_option maxRecDepth 20000 in
theorem gX4_isPlace_X4_in : GoodIn wsX4_isPlace (va_wsS RX4 32 yX4_in wsX4_in) := goodIn_app (goodIn_of _ (by decide +kernel)) ggX4_isPlace_X4_in
theorem dX4_isPlace_0 : decode cX4_isPlace 0 = .ok (.iload_n 1, 1) := by decide +kernel
theorem dX4_isPlace_1 : decode cX4_isPlace 1 = .ok (.iconst 1, 1) := by decide +kernel
theorem dX4_isPlace_2 : decode cX4_isPlace 2 = .ok (.aload_n 0, 1) := by decide +kernel
theorem dX4_isPlace_3 : decode cX4_isPlace 3 = .ok (.getfield 7, 3) := by decide +kernel
theorem dX4_isPlace_6 : decode cX4_isPlace 6 = .ok (.iconst 5, 1) := by decide +kernel
theorem dX4_isPlace_7 : decode cX4_isPlace 7 = .ok (.iaload, 1) := by decide +kernel
theorem dX4_isPlace_8 : decode cX4_isPlace 8 = .ok (.invokestatic 32, 3) := by decide +kernel
theorem dX4_isPlace_11 : decode cX4_isPlace 11 = .ok (.ireturn, 1) := by decide +kernel
theorem dX4_leaves_0 : decode cX4_leaves 0 = .ok (.aload_n 0, 1) := by decide +kernel
theorem dX4_leaves_1 : decode cX4_leaves 1 = .ok (.getfield 7, 3) := by decide +kernel
theorem dX4_leaves_4 : decode cX4_leaves 4 = .ok (.iconst 5, 1) := by decide +kernel
theorem dX4_leaves_5 : decode cX4_leaves 5 = .ok (.dup2, 1) := by decide +kernel
theorem dX4_leaves_6 : decode cX4_leaves 6 = .ok (.iaload, 1) := by decide +kernel
theorem dX4_leaves_7 : decode cX4_leaves 7 = .ok (.iconst 1, 1) := by decide +kernel
theorem dX4_leaves_8 : decode cX4_leaves 8 = .ok (.isub, 1) := by decide +kernel
theorem dX4_leaves_9 : decode cX4_leaves 9 = .ok (.iastore, 1) := by decide +kernel
theorem dX4_leaves_10 : decode cX4_leaves 10 = .ok (.sipush 212, 3) := by decide +kernel
theorem dX4_leaves_13 : decode cX4_leaves 13 = .ok (.iconst 3, 1) := by decide +kernel
theorem dX4_leaves_14 : decode cX4_leaves 14 = .ok (.iload_n 1, 1) := by decide +kernel
theorem dX4_leaves_15 : decode cX4_leaves 15 = .ok (.imul, 1) := by decide +kernel
theorem dX4_leaves_16 : decode cX4_leaves 16 = .ok (.iadd, 1) := by decide +kernel
theorem dX4_leaves_17 : decode cX4_leaves 17 = .ok (.istore_n 2, 1) := by decide +kernel
theorem dX4_leaves_18 : decode cX4_leaves 18 = .ok (.iload_n 2, 1) := by decide +kernel
theorem dX4_leaves_19 : decode cX4_leaves 19 = .ok (.sipush 212, 3) := by decide +kernel
theorem dX4_leaves_22 : decode cX4_leaves 22 = .ok (.iconst 3, 1) := by decide +kernel
theorem dX4_leaves_23 : decode cX4_leaves 23 = .ok (.aload_n 0, 1) := by decide +kernel
theorem dX4_leaves_24 : decode cX4_leaves 24 = .ok (.getfield 7, 3) := by decide +kernel
theorem dX4_leaves_27 : decode cX4_leaves 27 = .ok (.iconst 5, 1) := by decide +kernel
theorem dX4_leaves_28 : decode cX4_leaves 28 = .ok (.iaload, 1) := by decide +kernel
theorem dX4_leaves_29 : decode cX4_leaves 29 = .ok (.imul, 1) := by decide +kernel
theorem dX4_leaves_30 : decode cX4_leaves 30 = .ok (.iadd, 1) := by decide +kernel
theorem dX4_leaves_31 : decode cX4_leaves 31 = .ok (.if_icmp .ge 23, 3) := by decide +kernel
theorem dX4_leaves_34 : decode cX4_leaves 34 = .ok (.aload_n 0, 1) := by decide +kernel
theorem dX4_leaves_35 : decode cX4_leaves 35 = .ok (.getfield 7, 3) := by decide +kernel
theorem dX4_leaves_38 : decode cX4_leaves 38 = .ok (.iload_n 2, 1) := by decide +kernel
theorem dX4_leaves_39 : decode cX4_leaves 39 = .ok (.aload_n 0, 1) := by decide +kernel
theorem dX4_leaves_40 : decode cX4_leaves 40 = .ok (.getfield 7, 3) := by decide +kernel
theorem dX4_leaves_43 : decode cX4_leaves 43 = .ok (.iload_n 2, 1) := by decide +kernel
theorem dX4_leaves_44 : decode cX4_leaves 44 = .ok (.iconst 3, 1) := by decide +kernel
theorem dX4_leaves_45 : decode cX4_leaves 45 = .ok (.iadd, 1) := by decide +kernel
theorem dX4_leaves_46 : decode cX4_leaves 46 = .ok (.iaload, 1) := by decide +kernel
theorem dX4_leaves_47 : decode cX4_leaves 47 = .ok (.iastore, 1) := by decide +kernel
theorem dX4_leaves_48 : decode cX4_leaves 48 = .ok (.iinc 2 1, 3) := by decide +kernel
theorem dX4_leaves_51 : decode cX4_leaves 51 = .ok (.goto (-33), 3) := by decide +kernel
theorem dX4_leaves_54 : decode cX4_leaves 54 = .ok (.return_, 1) := by decide +kernel
set_option maxRecDepth 20000 in
theorem ggX4_cancel_X4_isPlace : GoodIn wsX4_cancel wsX4_isPlace := goodIn_r _ [6, 1, 7, 8, 5, 9, 26, 27, 28, 29, 30, 31, 32, 33, 34, 35, 36, 37] (by decide +kernel) (by decide +kernel)
set_option maxRecDepth 20000 in
theorem gX4_cancel_X4_isPlace : GoodIn wsX4_cancel (wsV RX4 92 RX4 yX4_isPlace wsX4_isPlace) := goodIn_app (goodIn_of _ (by decide +kernel)) ggX4_cancel_X4_isPlace
set_option maxRecDepth 20000 in
theorem ggX4_cancel_X4_copy : GoodIn wsX4_cancel wsX4_copy := goodIn_r _ [13, 14, 1, 26, 27, 28, 29, 30, 31, 32, 33, 34, 35, 36, 37] (by decide +kernel) (by decide +kernel)
set_option maxRecDepth 20000 in
theorem gX4_cancel_X4_copy : GoodIn wsX4_cancel (wsV RX4 48 RX4 yX4_copy wsX4_copy) := goodIn_app (goodIn_of _ (by decide +kernel)) ggX4_cancel_X4_copy
set_option maxRecDepth 20000 in
theorem ggX4_cancel_X4_leaves : GoodIn wsX4_cancel wsX4_leaves := goodIn_r _ [18, 1, 26, 27, 28, 29, 30, 31, 32, 33, 34, 35, 36, 37] (by decide +kernel) (by decide +kernel)
set_option maxRecDepth 20000 in
theorem gX4_cancel_X4_leaves : GoodIn wsX4_cancel (wsV RX4 95 RX4 yX4_leaves wsX4_leaves) := goodIn_app (goodIn_of _ (by decide +kernel)) ggX4_cancel_X4_leaves
set_option maxRecDepth 20000 in
theorem ggX4_cancel_X4_recorded : GoodIn wsX4_cancel wsX4_recorded := goodIn_r _ [22, 23, 24, 14, 25, 26, 27, 28, 29, 30, 31, 32, 33, 34, 35, 36, 37] (by decide +kernel) (by decide +kernel)
set_option maxRecDepth 20000 in
theorem gX4_cancel_X4_recorded : GoodIn wsX4_cancel (wsV RX4 55 RX4 yX4_recorded wsX4_recorded) := goodIn_app (goodIn_of _ (by decide +kernel)) ggX4_cancel_X4_recorded
theorem dX4_cancel_0 : decode cX4_cancel 0 = .ok (.aload_n 0, 1) := by decide +kernel
theorem dX4_cancel_1 : decode cX4_cancel 1 = .ok (.iload_n 1, 1) := by decide +kernel
theorem dX4_cancel_2 : decode cX4_cancel 2 = .ok (.invokevirtual 92, 3) := by decide +kernel
theorem dX4_cancel_5 : decode cX4_cancel 5 = .ok (.ifCond .ne 5, 3) := by decide +kernel
theorem dX4_cancel_8 : decode cX4_cancel 8 = .ok (.iconst (-1), 1) := by decide +kernel
theorem dX4_cancel_9 : decode cX4_cancel 9 = .ok (.ireturn, 1) := by decide +kernel
theorem dX4_cancel_10 : decode cX4_cancel 10 = .ok (.aload_n 0, 1) := by decide +kernel
theorem dX4_cancel_11 : decode cX4_cancel 11 = .ok (.invokevirtual 48, 3) := by decide +kernel
theorem dX4_cancel_14 : decode cX4_cancel 14 = .ok (.aload_n 0, 1) := by decide +kernel
theorem dX4_cancel_15 : decode cX4_cancel 15 = .ok (.getfield 7, 3) := by decide +kernel
theorem dX4_cancel_18 : decode cX4_cancel 18 = .ok (.sipush 212, 3) := by decide +kernel
theorem dX4_cancel_21 : decode cX4_cancel 21 = .ok (.iconst 3, 1) := by decide +kernel
theorem dX4_cancel_22 : decode cX4_cancel 22 = .ok (.iload_n 1, 1) := by decide +kernel
theorem dX4_cancel_23 : decode cX4_cancel 23 = .ok (.iconst 1, 1) := by decide +kernel
theorem dX4_cancel_24 : decode cX4_cancel 24 = .ok (.isub, 1) := by decide +kernel
theorem dX4_cancel_25 : decode cX4_cancel 25 = .ok (.imul, 1) := by decide +kernel
theorem dX4_cancel_26 : decode cX4_cancel 26 = .ok (.iadd, 1) := by decide +kernel
theorem dX4_cancel_27 : decode cX4_cancel 27 = .ok (.iconst 1, 1) := by decide +kernel
theorem dX4_cancel_28 : decode cX4_cancel 28 = .ok (.iadd, 1) := by decide +kernel
theorem dX4_cancel_29 : decode cX4_cancel 29 = .ok (.iaload, 1) := by decide +kernel
theorem dX4_cancel_30 : decode cX4_cancel 30 = .ok (.istore_n 2, 1) := by decide +kernel
theorem dX4_cancel_31 : decode cX4_cancel 31 = .ok (.aload_n 0, 1) := by decide +kernel
theorem dX4_cancel_32 : decode cX4_cancel 32 = .ok (.iload_n 1, 1) := by decide +kernel
theorem dX4_cancel_33 : decode cX4_cancel 33 = .ok (.iconst 1, 1) := by decide +kernel
theorem dX4_cancel_34 : decode cX4_cancel 34 = .ok (.isub, 1) := by decide +kernel
theorem dX4_cancel_35 : decode cX4_cancel 35 = .ok (.invokevirtual 95, 3) := by decide +kernel
theorem dX4_cancel_38 : decode cX4_cancel 38 = .ok (.aload_n 0, 1) := by decide +kernel
theorem dX4_cancel_39 : decode cX4_cancel 39 = .ok (.iload_n 2, 1) := by decide +kernel
theorem dX4_cancel_40 : decode cX4_cancel 40 = .ok (.invokevirtual 55, 3) := by decide +kernel
theorem dX4_cancel_43 : decode cX4_cancel 43 = .ok (.ireturn, 1) := by decide +kernel
set_option maxRecDepth 20000 in
theorem ggX4_requestAt_X4_isPlace : GoodIn wsX4_requestAt wsX4_isPlace := goodIn_r _ [6, 1, 7, 8, 5, 9, 10, 11, 12, 13, 14, 15, 16, 17, 18, 19, 20, 21] (by decide +kernel) (by decide +kernel)
set_option maxRecDepth 20000 in
theorem gX4_requestAt_X4_isPlace : GoodIn wsX4_requestAt (wsV RX4 92 RX4 yX4_isPlace wsX4_isPlace) := goodIn_app (goodIn_of _ (by decide +kernel)) ggX4_requestAt_X4_isPlace
set_option maxRecDepth 20000 in
theorem ggX4_requestAt_X4_in : GoodIn wsX4_requestAt wsX4_in := goodIn_r _ [9] (by decide +kernel) (by decide +kernel)
set_option maxRecDepth 20000 in
theorem gX4_requestAt_X4_in : GoodIn wsX4_requestAt (va_wsS RX4 32 yX4_in wsX4_in) := goodIn_app (goodIn_of _ (by decide +kernel)) ggX4_requestAt_X4_in
theorem dX4_requestAt_0 : decode cX4_requestAt 0 = .ok (.aload_n 0, 1) := by decide +kernel
theorem dX4_requestAt_1 : decode cX4_requestAt 1 = .ok (.iload_n 1, 1) := by decide +kernel
theorem dX4_requestAt_2 : decode cX4_requestAt 2 = .ok (.invokevirtual 92, 3) := by decide +kernel
theorem dX4_requestAt_5 : decode cX4_requestAt 5 = .ok (.ifCond .eq 31, 3) := by decide +kernel
theorem dX4_requestAt_8 : decode cX4_requestAt 8 = .ok (.iload_n 2, 1) := by decide +kernel
theorem dX4_requestAt_9 : decode cX4_requestAt 9 = .ok (.iconst 0, 1) := by decide +kernel
theorem dX4_requestAt_10 : decode cX4_requestAt 10 = .ok (.iconst 2, 1) := by decide +kernel
theorem dX4_requestAt_11 : decode cX4_requestAt 11 = .ok (.invokestatic 32, 3) := by decide +kernel
theorem dX4_requestAt_14 : decode cX4_requestAt 14 = .ok (.ifCond .eq 22, 3) := by decide +kernel
theorem dX4_requestAt_17 : decode cX4_requestAt 17 = .ok (.aload_n 0, 1) := by decide +kernel
theorem dX4_requestAt_18 : decode cX4_requestAt 18 = .ok (.getfield 7, 3) := by decide +kernel
theorem dX4_requestAt_21 : decode cX4_requestAt 21 = .ok (.sipush 212, 3) := by decide +kernel
theorem dX4_requestAt_24 : decode cX4_requestAt 24 = .ok (.iconst 3, 1) := by decide +kernel
theorem dX4_requestAt_25 : decode cX4_requestAt 25 = .ok (.iload_n 1, 1) := by decide +kernel
theorem dX4_requestAt_26 : decode cX4_requestAt 26 = .ok (.iconst 1, 1) := by decide +kernel
theorem dX4_requestAt_27 : decode cX4_requestAt 27 = .ok (.isub, 1) := by decide +kernel
theorem dX4_requestAt_28 : decode cX4_requestAt 28 = .ok (.imul, 1) := by decide +kernel
theorem dX4_requestAt_29 : decode cX4_requestAt 29 = .ok (.iadd, 1) := by decide +kernel
theorem dX4_requestAt_30 : decode cX4_requestAt 30 = .ok (.iload_n 2, 1) := by decide +kernel
theorem dX4_requestAt_31 : decode cX4_requestAt 31 = .ok (.iadd, 1) := by decide +kernel
theorem dX4_requestAt_32 : decode cX4_requestAt 32 = .ok (.iaload, 1) := by decide +kernel
theorem dX4_requestAt_33 : decode cX4_requestAt 33 = .ok (.goto 4, 3) := by decide +kernel
theorem dX4_requestAt_36 : decode cX4_requestAt 36 = .ok (.iconst (-1), 1) := by decide +kernel
theorem dX4_requestAt_37 : decode cX4_requestAt 37 = .ok (.ireturn, 1) := by decide +kernel
set_option maxRecDepth 20000 in
theorem ggX4_looks_X4_ableOf : GoodIn wsX4_looks wsX4_ableOf := goodIn_r _ [6, 7, 8, 9, 5, 10, 1, 11, 12, 13, 30, 31, 32, 33, 34, 35, 36, 37, 38, 39, 40, 41] (by decide +kernel) (by decide +kernel)
set_option maxRecDepth 20000 in
theorem gX4_looks_X4_ableOf : GoodIn wsX4_looks (wsV RX4 80 RX4 yX4_ableOf wsX4_ableOf) := goodIn_app (goodIn_of _ (by decide +kernel)) ggX4_looks_X4_ableOf
set_option maxRecDepth 20000 in
theorem ggX4_looks_X4_takes : GoodIn wsX4_looks wsX4_takes := goodIn_r _ [17, 1, 18, 19, 20, 5, 21, 7, 8, 9, 10, 11, 12, 13, 22, 23, 24, 25, 30, 31, 32, 33, 34, 35, 36, 37, 38, 39, 40, 41] (by decide +kernel) (by decide +kernel)
set_option maxRecDepth 20000 in
theorem gX4_looks_X4_takes : GoodIn wsX4_looks (wsV RX4 83 RX4 yX4_takes wsX4_takes) := goodIn_app (goodIn_of _ (by decide +kernel)) ggX4_looks_X4_takes
set_option maxRecDepth 20000 in
theorem ggX4_looks_X4_leaves : GoodIn wsX4_looks wsX4_leaves := goodIn_r _ [29, 1, 30, 31, 32, 33, 34, 35, 36, 37, 38, 39, 40, 41] (by decide +kernel) (by decide +kernel)
set_option maxRecDepth 20000 in
theorem gX4_looks_X4_leaves : GoodIn wsX4_looks (wsV RX4 95 RX4 yX4_leaves wsX4_leaves) := goodIn_app (goodIn_of _ (by decide +kernel)) ggX4_looks_X4_leaves
theorem dX4_looks_0 : decode cX4_looks 0 = .ok (.iconst 0, 1) := by decide +kernel
theorem dX4_looks_1 : decode cX4_looks 1 = .ok (.istore_n 1, 1) := by decide +kernel
theorem dX4_looks_2 : decode cX4_looks 2 = .ok (.iconst 1, 1) := by decide +kernel
theorem dX4_looks_3 : decode cX4_looks 3 = .ok (.istore_n 2, 1) := by decide +kernel
theorem dX4_looks_4 : decode cX4_looks 4 = .ok (.iload_n 2, 1) := by decide +kernel
theorem dX4_looks_5 : decode cX4_looks 5 = .ok (.ifCond .eq 101, 3) := by decide +kernel
theorem dX4_looks_8 : decode cX4_looks 8 = .ok (.iload_n 1, 1) := by decide +kernel
theorem dX4_looks_9 : decode cX4_looks 9 = .ok (.aload_n 0, 1) := by decide +kernel
theorem dX4_looks_10 : decode cX4_looks 10 = .ok (.getfield 7, 3) := by decide +kernel
theorem dX4_looks_13 : decode cX4_looks 13 = .ok (.iconst 5, 1) := by decide +kernel
theorem dX4_looks_14 : decode cX4_looks 14 = .ok (.iaload, 1) := by decide +kernel
theorem dX4_looks_15 : decode cX4_looks 15 = .ok (.if_icmp .ge 91, 3) := by decide +kernel
theorem dX4_looks_18 : decode cX4_looks 18 = .ok (.aload_n 0, 1) := by decide +kernel
theorem dX4_looks_19 : decode cX4_looks 19 = .ok (.getfield 7, 3) := by decide +kernel
theorem dX4_looks_22 : decode cX4_looks 22 = .ok (.sipush 212, 3) := by decide +kernel
theorem dX4_looks_25 : decode cX4_looks 25 = .ok (.iconst 3, 1) := by decide +kernel
theorem dX4_looks_26 : decode cX4_looks 26 = .ok (.iload_n 1, 1) := by decide +kernel
theorem dX4_looks_27 : decode cX4_looks 27 = .ok (.imul, 1) := by decide +kernel
theorem dX4_looks_28 : decode cX4_looks 28 = .ok (.iadd, 1) := by decide +kernel
theorem dX4_looks_29 : decode cX4_looks 29 = .ok (.iaload, 1) := by decide +kernel
theorem dX4_looks_30 : decode cX4_looks 30 = .ok (.istore_n 3, 1) := by decide +kernel
theorem dX4_looks_31 : decode cX4_looks 31 = .ok (.aload_n 0, 1) := by decide +kernel
theorem dX4_looks_32 : decode cX4_looks 32 = .ok (.getfield 7, 3) := by decide +kernel
theorem dX4_looks_35 : decode cX4_looks 35 = .ok (.sipush 212, 3) := by decide +kernel
theorem dX4_looks_38 : decode cX4_looks 38 = .ok (.iconst 3, 1) := by decide +kernel
theorem dX4_looks_39 : decode cX4_looks 39 = .ok (.iload_n 1, 1) := by decide +kernel
