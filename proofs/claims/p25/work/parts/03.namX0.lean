theorem dX0_init_0 : decode cX0_init 0 = .ok (.aload_n 0, 1) := by decide +kernel
theorem dX0_init_1 : decode cX0_init 1 = .ok (.invokespecial 3, 3) := by decide +kernel
theorem dX0_init_4 : decode cX0_init 4 = .ok (.aload_n 0, 1) := by decide +kernel
theorem dX0_init_5 : decode cX0_init 5 = .ok (.bipush 13, 2) := by decide +kernel
theorem dX0_init_7 : decode cX0_init 7 = .ok (.bipush 12, 2) := by decide +kernel
theorem dX0_init_9 : decode cX0_init 9 = .ok (.multianewarray 9 2, 4) := by decide +kernel
theorem dX0_init_13 : decode cX0_init 13 = .ok (.putfield 11, 3) := by decide +kernel
theorem dX0_init_16 : decode cX0_init 16 = .ok (.aload_n 0, 1) := by decide +kernel
theorem dX0_init_17 : decode cX0_init 17 = .ok (.iconst 3, 1) := by decide +kernel
theorem dX0_init_18 : decode cX0_init 18 = .ok (.bipush 20, 2) := by decide +kernel
theorem dX0_init_20 : decode cX0_init 20 = .ok (.multianewarray 9 2, 4) := by decide +kernel
theorem dX0_init_24 : decode cX0_init 24 = .ok (.putfield 16, 3) := by decide +kernel
theorem dX0_init_27 : decode cX0_init 27 = .ok (.aload_n 0, 1) := by decide +kernel
theorem dX0_init_28 : decode cX0_init 28 = .ok (.iconst 3, 1) := by decide +kernel
theorem dX0_init_29 : decode cX0_init 29 = .ok (.bipush 8, 2) := by decide +kernel
theorem dX0_init_31 : decode cX0_init 31 = .ok (.multianewarray 9 2, 4) := by decide +kernel
theorem dX0_init_35 : decode cX0_init 35 = .ok (.putfield 19, 3) := by decide +kernel
theorem dX0_init_38 : decode cX0_init 38 = .ok (.aload_n 0, 1) := by decide +kernel
theorem dX0_init_39 : decode cX0_init 39 = .ok (.iconst 2, 1) := by decide +kernel
theorem dX0_init_40 : decode cX0_init 40 = .ok (.newarray .int, 2) := by decide +kernel
theorem dX0_init_42 : decode cX0_init 42 = .ok (.putfield 22, 3) := by decide +kernel
theorem dX0_init_45 : decode cX0_init 45 = .ok (.aload_n 0, 1) := by decide +kernel
theorem dX0_init_46 : decode cX0_init 46 = .ok (.bipush 12, 2) := by decide +kernel
theorem dX0_init_48 : decode cX0_init 48 = .ok (.newarray .int, 2) := by decide +kernel
theorem dX0_init_50 : decode cX0_init 50 = .ok (.putfield 26, 3) := by decide +kernel
theorem dX0_init_53 : decode cX0_init 53 = .ok (.aload_n 0, 1) := by decide +kernel
theorem dX0_init_54 : decode cX0_init 54 = .ok (.getfield 22, 3) := by decide +kernel
theorem dX0_init_57 : decode cX0_init 57 = .ok (.iconst 0, 1) := by decide +kernel
theorem dX0_init_58 : decode cX0_init 58 = .ok (.bipush 24, 2) := by decide +kernel
theorem dX0_init_60 : decode cX0_init 60 = .ok (.iastore, 1) := by decide +kernel
theorem dX0_init_61 : decode cX0_init 61 = .ok (.return_, 1) := by decide +kernel
set_option maxRecDepth 20000 in
theorem ggX0_copyFrom_X0_copyRows : GoodIn wsX0_copyFrom wsX0_copyRows := goodIn_r _ [13, 14, 15, 16, 17, 18, 19, 20, 21] (by decide +kernel) (by decide +kernel)
set_option maxRecDepth 20000 in
theorem gX0_copyFrom_X0_copyRows : GoodIn wsX0_copyFrom (va_wsS RX0 29 yX0_copyRows wsX0_copyRows) := goodIn_app (goodIn_of _ (by decide +kernel)) ggX0_copyFrom_X0_copyRows
theorem dX0_copyFrom_0 : decode cX0_copyFrom 0 = .ok (.aload_n 1, 1) := by decide +kernel
theorem dX0_copyFrom_1 : decode cX0_copyFrom 1 = .ok (.getfield 11, 3) := by decide +kernel
theorem dX0_copyFrom_4 : decode cX0_copyFrom 4 = .ok (.aload_n 0, 1) := by decide +kernel
theorem dX0_copyFrom_5 : decode cX0_copyFrom 5 = .ok (.getfield 11, 3) := by decide +kernel
theorem dX0_copyFrom_8 : decode cX0_copyFrom 8 = .ok (.invokestatic 29, 3) := by decide +kernel
theorem dX0_copyFrom_11 : decode cX0_copyFrom 11 = .ok (.aload_n 1, 1) := by decide +kernel
theorem dX0_copyFrom_12 : decode cX0_copyFrom 12 = .ok (.getfield 16, 3) := by decide +kernel
theorem dX0_copyFrom_15 : decode cX0_copyFrom 15 = .ok (.aload_n 0, 1) := by decide +kernel
theorem dX0_copyFrom_16 : decode cX0_copyFrom 16 = .ok (.getfield 16, 3) := by decide +kernel
theorem dX0_copyFrom_19 : decode cX0_copyFrom 19 = .ok (.invokestatic 29, 3) := by decide +kernel
theorem dX0_copyFrom_22 : decode cX0_copyFrom 22 = .ok (.aload_n 1, 1) := by decide +kernel
theorem dX0_copyFrom_23 : decode cX0_copyFrom 23 = .ok (.getfield 19, 3) := by decide +kernel
theorem dX0_copyFrom_26 : decode cX0_copyFrom 26 = .ok (.aload_n 0, 1) := by decide +kernel
theorem dX0_copyFrom_27 : decode cX0_copyFrom 27 = .ok (.getfield 19, 3) := by decide +kernel
theorem dX0_copyFrom_30 : decode cX0_copyFrom 30 = .ok (.invokestatic 29, 3) := by decide +kernel
theorem dX0_copyFrom_33 : decode cX0_copyFrom 33 = .ok (.aload_n 0, 1) := by decide +kernel
theorem dX0_copyFrom_34 : decode cX0_copyFrom 34 = .ok (.getfield 22, 3) := by decide +kernel
theorem dX0_copyFrom_37 : decode cX0_copyFrom 37 = .ok (.iconst 0, 1) := by decide +kernel
theorem dX0_copyFrom_38 : decode cX0_copyFrom 38 = .ok (.aload_n 1, 1) := by decide +kernel
theorem dX0_copyFrom_39 : decode cX0_copyFrom 39 = .ok (.getfield 22, 3) := by decide +kernel
theorem dX0_copyFrom_42 : decode cX0_copyFrom 42 = .ok (.iconst 0, 1) := by decide +kernel
theorem dX0_copyFrom_43 : decode cX0_copyFrom 43 = .ok (.iaload, 1) := by decide +kernel
theorem dX0_copyFrom_44 : decode cX0_copyFrom 44 = .ok (.iastore, 1) := by decide +kernel
theorem dX0_copyFrom_45 : decode cX0_copyFrom 45 = .ok (.aload_n 0, 1) := by decide +kernel
theorem dX0_copyFrom_46 : decode cX0_copyFrom 46 = .ok (.getfield 22, 3) := by decide +kernel
theorem dX0_copyFrom_49 : decode cX0_copyFrom 49 = .ok (.iconst 1, 1) := by decide +kernel
theorem dX0_copyFrom_50 : decode cX0_copyFrom 50 = .ok (.aload_n 1, 1) := by decide +kernel
theorem dX0_copyFrom_51 : decode cX0_copyFrom 51 = .ok (.getfield 22, 3) := by decide +kernel
theorem dX0_copyFrom_54 : decode cX0_copyFrom 54 = .ok (.iconst 1, 1) := by decide +kernel
theorem dX0_copyFrom_55 : decode cX0_copyFrom 55 = .ok (.iaload, 1) := by decide +kernel
theorem dX0_copyFrom_56 : decode cX0_copyFrom 56 = .ok (.iastore, 1) := by decide +kernel
theorem dX0_copyFrom_57 : decode cX0_copyFrom 57 = .ok (.aload_n 0, 1) := by decide +kernel
theorem dX0_copyFrom_58 : decode cX0_copyFrom 58 = .ok (.aload_n 1, 1) := by decide +kernel
theorem dX0_copyFrom_59 : decode cX0_copyFrom 59 = .ok (.getfield 33, 3) := by decide +kernel
theorem dX0_copyFrom_62 : decode cX0_copyFrom 62 = .ok (.putfield 33, 3) := by decide +kernel
theorem dX0_copyFrom_65 : decode cX0_copyFrom 65 = .ok (.aload_n 0, 1) := by decide +kernel
theorem dX0_copyFrom_66 : decode cX0_copyFrom 66 = .ok (.aload_n 1, 1) := by decide +kernel
theorem dX0_copyFrom_67 : decode cX0_copyFrom 67 = .ok (.getfield 37, 3) := by decide +kernel
theorem dX0_copyFrom_70 : decode cX0_copyFrom 70 = .ok (.putfield 37, 3) := by decide +kernel
theorem dX0_copyFrom_73 : decode cX0_copyFrom 73 = .ok (.aload_n 0, 1) := by decide +kernel
theorem dX0_copyFrom_74 : decode cX0_copyFrom 74 = .ok (.aload_n 1, 1) := by decide +kernel
theorem dX0_copyFrom_75 : decode cX0_copyFrom 75 = .ok (.getfield 40, 3) := by decide +kernel
theorem dX0_copyFrom_78 : decode cX0_copyFrom 78 = .ok (.putfield 40, 3) := by decide +kernel
theorem dX0_copyFrom_81 : decode cX0_copyFrom 81 = .ok (.aload_n 0, 1) := by decide +kernel
theorem dX0_copyFrom_82 : decode cX0_copyFrom 82 = .ok (.aload_n 1, 1) := by decide +kernel
theorem dX0_copyFrom_83 : decode cX0_copyFrom 83 = .ok (.getfield 43, 3) := by decide +kernel
theorem dX0_copyFrom_86 : decode cX0_copyFrom 86 = .ok (.putfield 43, 3) := by decide +kernel
theorem dX0_copyFrom_89 : decode cX0_copyFrom 89 = .ok (.aload_n 0, 1) := by decide +kernel
theorem dX0_copyFrom_90 : decode cX0_copyFrom 90 = .ok (.aload_n 1, 1) := by decide +kernel
theorem dX0_copyFrom_91 : decode cX0_copyFrom 91 = .ok (.getfield 46, 3) := by decide +kernel
theorem dX0_copyFrom_94 : decode cX0_copyFrom 94 = .ok (.putfield 46, 3) := by decide +kernel
theorem dX0_copyFrom_97 : decode cX0_copyFrom 97 = .ok (.return_, 1) := by decide +kernel
theorem dX0_copyRows_0 : decode cX0_copyRows 0 = .ok (.iconst 0, 1) := by decide +kernel
theorem dX0_copyRows_1 : decode cX0_copyRows 1 = .ok (.istore_n 2, 1) := by decide +kernel
theorem dX0_copyRows_2 : decode cX0_copyRows 2 = .ok (.iload_n 2, 1) := by decide +kernel
theorem dX0_copyRows_3 : decode cX0_copyRows 3 = .ok (.aload_n 0, 1) := by decide +kernel
theorem dX0_copyRows_4 : decode cX0_copyRows 4 = .ok (.arraylength, 1) := by decide +kernel
theorem dX0_copyRows_5 : decode cX0_copyRows 5 = .ok (.if_icmp .ge 39, 3) := by decide +kernel
theorem dX0_copyRows_8 : decode cX0_copyRows 8 = .ok (.iload_n 2, 1) := by decide +kernel
theorem dX0_copyRows_9 : decode cX0_copyRows 9 = .ok (.aload_n 1, 1) := by decide +kernel
theorem dX0_copyRows_10 : decode cX0_copyRows 10 = .ok (.arraylength, 1) := by decide +kernel
theorem dX0_copyRows_11 : decode cX0_copyRows 11 = .ok (.if_icmp .ge 33, 3) := by decide +kernel
theorem dX0_copyRows_14 : decode cX0_copyRows 14 = .ok (.aload_n 0, 1) := by decide +kernel
theorem dX0_copyRows_15 : decode cX0_copyRows 15 = .ok (.iload_n 2, 1) := by decide +kernel
theorem dX0_copyRows_16 : decode cX0_copyRows 16 = .ok (.aaload, 1) := by decide +kernel
theorem dX0_copyRows_17 : decode cX0_copyRows 17 = .ok (.arraylength, 1) := by decide +kernel
theorem dX0_copyRows_18 : decode cX0_copyRows 18 = .ok (.aload_n 1, 1) := by decide +kernel
theorem dX0_copyRows_19 : decode cX0_copyRows 19 = .ok (.iload_n 2, 1) := by decide +kernel
theorem dX0_copyRows_20 : decode cX0_copyRows 20 = .ok (.aaload, 1) := by decide +kernel
theorem dX0_copyRows_21 : decode cX0_copyRows 21 = .ok (.arraylength, 1) := by decide +kernel
theorem dX0_copyRows_22 : decode cX0_copyRows 22 = .ok (.invokestatic 49, 3) := by decide +kernel
theorem dX0_copyRows_25 : decode cX0_copyRows 25 = .ok (.istore_n 3, 1) := by decide +kernel
theorem dX0_copyRows_26 : decode cX0_copyRows 26 = .ok (.aload_n 0, 1) := by decide +kernel
theorem dX0_copyRows_27 : decode cX0_copyRows 27 = .ok (.iload_n 2, 1) := by decide +kernel
theorem dX0_copyRows_28 : decode cX0_copyRows 28 = .ok (.aaload, 1) := by decide +kernel
theorem dX0_copyRows_29 : decode cX0_copyRows 29 = .ok (.iconst 0, 1) := by decide +kernel
theorem dX0_copyRows_30 : decode cX0_copyRows 30 = .ok (.aload_n 1, 1) := by decide +kernel
theorem dX0_copyRows_31 : decode cX0_copyRows 31 = .ok (.iload_n 2, 1) := by decide +kernel
theorem dX0_copyRows_32 : decode cX0_copyRows 32 = .ok (.aaload, 1) := by decide +kernel
theorem dX0_copyRows_33 : decode cX0_copyRows 33 = .ok (.iconst 0, 1) := by decide +kernel
theorem dX0_copyRows_34 : decode cX0_copyRows 34 = .ok (.iload_n 3, 1) := by decide +kernel
theorem dX0_copyRows_35 : decode cX0_copyRows 35 = .ok (.invokestatic 55, 3) := by decide +kernel
theorem dX0_copyRows_38 : decode cX0_copyRows 38 = .ok (.iinc 2 1, 3) := by decide +kernel
theorem dX0_copyRows_41 : decode cX0_copyRows 41 = .ok (.goto (-39), 3) := by decide +kernel
theorem dX0_copyRows_44 : decode cX0_copyRows 44 = .ok (.return_, 1) := by decide +kernel
theorem dX0_isWell_0 : decode cX0_isWell 0 = .ok (.iload_n 1, 1) := by decide +kernel
theorem dX0_isWell_1 : decode cX0_isWell 1 = .ok (.ifCond .lt 15, 3) := by decide +kernel
theorem dX0_isWell_4 : decode cX0_isWell 4 = .ok (.iload_n 1, 1) := by decide +kernel
theorem dX0_isWell_5 : decode cX0_isWell 5 = .ok (.aload_n 0, 1) := by decide +kernel
theorem dX0_isWell_6 : decode cX0_isWell 6 = .ok (.getfield 33, 3) := by decide +kernel
theorem dX0_isWell_9 : decode cX0_isWell 9 = .ok (.if_icmp .ge 7, 3) := by decide +kernel
theorem dX0_isWell_12 : decode cX0_isWell 12 = .ok (.iconst 1, 1) := by decide +kernel
theorem dX0_isWell_13 : decode cX0_isWell 13 = .ok (.goto 4, 3) := by decide +kernel
theorem dX0_isWell_16 : decode cX0_isWell 16 = .ok (.iconst 0, 1) := by decide +kernel
theorem dX0_isWell_17 : decode cX0_isWell 17 = .ok (.ireturn, 1) := by decide +kernel
theorem dX0_isPlace_0 : decode cX0_isPlace 0 = .ok (.iload_n 1, 1) := by decide +kernel
theorem dX0_isPlace_1 : decode cX0_isPlace 1 = .ok (.iconst 1, 1) := by decide +kernel
theorem dX0_isPlace_2 : decode cX0_isPlace 2 = .ok (.if_icmp .lt 15, 3) := by decide +kernel
theorem dX0_isPlace_5 : decode cX0_isPlace 5 = .ok (.iload_n 1, 1) := by decide +kernel
theorem dX0_isPlace_6 : decode cX0_isPlace 6 = .ok (.aload_n 0, 1) := by decide +kernel
theorem dX0_isPlace_7 : decode cX0_isPlace 7 = .ok (.getfield 40, 3) := by decide +kernel
theorem dX0_isPlace_10 : decode cX0_isPlace 10 = .ok (.if_icmp .gt 7, 3) := by decide +kernel
theorem dX0_isPlace_13 : decode cX0_isPlace 13 = .ok (.iconst 1, 1) := by decide +kernel
theorem dX0_isPlace_14 : decode cX0_isPlace 14 = .ok (.goto 4, 3) := by decide +kernel
theorem dX0_isPlace_17 : decode cX0_isPlace 17 = .ok (.iconst 0, 1) := by decide +kernel
theorem dX0_isPlace_18 : decode cX0_isPlace 18 = .ok (.ireturn, 1) := by decide +kernel
theorem dX0_sumOf_0 : decode cX0_sumOf 0 = .ok (.iconst 0, 1) := by decide +kernel
theorem dX0_sumOf_1 : decode cX0_sumOf 1 = .ok (.istore_n 2, 1) := by decide +kernel
theorem dX0_sumOf_2 : decode cX0_sumOf 2 = .ok (.iconst 0, 1) := by decide +kernel
theorem dX0_sumOf_3 : decode cX0_sumOf 3 = .ok (.istore_n 3, 1) := by decide +kernel
theorem dX0_sumOf_4 : decode cX0_sumOf 4 = .ok (.iload_n 3, 1) := by decide +kernel
theorem dX0_sumOf_5 : decode cX0_sumOf 5 = .ok (.aload_n 0, 1) := by decide +kernel
theorem dX0_sumOf_6 : decode cX0_sumOf 6 = .ok (.getfield 33, 3) := by decide +kernel
theorem dX0_sumOf_9 : decode cX0_sumOf 9 = .ok (.if_icmp .ge 20, 3) := by decide +kernel
theorem dX0_sumOf_12 : decode cX0_sumOf 12 = .ok (.iload_n 2, 1) := by decide +kernel
theorem dX0_sumOf_13 : decode cX0_sumOf 13 = .ok (.aload_n 0, 1) := by decide +kernel
theorem dX0_sumOf_14 : decode cX0_sumOf 14 = .ok (.getfield 11, 3) := by decide +kernel
theorem dX0_sumOf_17 : decode cX0_sumOf 17 = .ok (.iload_n 1, 1) := by decide +kernel
theorem dX0_sumOf_18 : decode cX0_sumOf 18 = .ok (.aaload, 1) := by decide +kernel
theorem dX0_sumOf_19 : decode cX0_sumOf 19 = .ok (.iload_n 3, 1) := by decide +kernel
theorem dX0_sumOf_20 : decode cX0_sumOf 20 = .ok (.iaload, 1) := by decide +kernel
theorem dX0_sumOf_21 : decode cX0_sumOf 21 = .ok (.iadd, 1) := by decide +kernel
theorem dX0_sumOf_22 : decode cX0_sumOf 22 = .ok (.istore_n 2, 1) := by decide +kernel
theorem dX0_sumOf_23 : decode cX0_sumOf 23 = .ok (.iinc 3 1, 3) := by decide +kernel
theorem dX0_sumOf_26 : decode cX0_sumOf 26 = .ok (.goto (-22), 3) := by decide +kernel
theorem dX0_sumOf_29 : decode cX0_sumOf 29 = .ok (.iload_n 2, 1) := by decide +kernel
theorem dX0_sumOf_30 : decode cX0_sumOf 30 = .ok (.ireturn, 1) := by decide +kernel
theorem dX0_timeOfDay_0 : decode cX0_timeOfDay 0 = .ok (.aload_n 0, 1) := by decide +kernel
theorem dX0_timeOfDay_1 : decode cX0_timeOfDay 1 = .ok (.getfield 22, 3) := by decide +kernel
theorem dX0_timeOfDay_4 : decode cX0_timeOfDay 4 = .ok (.iconst 0, 1) := by decide +kernel
theorem dX0_timeOfDay_5 : decode cX0_timeOfDay 5 = .ok (.iaload, 1) := by decide +kernel
theorem dX0_timeOfDay_6 : decode cX0_timeOfDay 6 = .ok (.istore_n 1, 1) := by decide +kernel
theorem dX0_timeOfDay_7 : decode cX0_timeOfDay 7 = .ok (.iload_n 1, 1) := by decide +kernel
theorem dX0_timeOfDay_8 : decode cX0_timeOfDay 8 = .ok (.ifCond .le 12, 3) := by decide +kernel
theorem dX0_timeOfDay_11 : decode cX0_timeOfDay 11 = .ok (.aload_n 0, 1) := by decide +kernel
theorem dX0_timeOfDay_12 : decode cX0_timeOfDay 12 = .ok (.getfield 43, 3) := by decide +kernel
theorem dX0_timeOfDay_15 : decode cX0_timeOfDay 15 = .ok (.iload_n 1, 1) := by decide +kernel
theorem dX0_timeOfDay_16 : decode cX0_timeOfDay 16 = .ok (.irem, 1) := by decide +kernel
theorem dX0_timeOfDay_17 : decode cX0_timeOfDay 17 = .ok (.goto 4, 3) := by decide +kernel
theorem dX0_timeOfDay_20 : decode cX0_timeOfDay 20 = .ok (.iconst 0, 1) := by decide +kernel
theorem dX0_timeOfDay_21 : decode cX0_timeOfDay 21 = .ok (.ireturn, 1) := by decide +kernel
set_option maxRecDepth 20000 in
theorem ggX0_addWell_X0_isWell : GoodIn wsX0_addWell wsX0_isWell := goodIn_r _ [7, 1, 8, 9, 10, 11, 12, 13, 14, 15, 16, 17] (by decide +kernel) (by decide +kernel)
set_option maxRecDepth 20000 in
theorem gX0_addWell_X0_isWell : GoodIn wsX0_addWell (wsV RX0 61 RX0 yX0_isWell wsX0_isWell) := goodIn_app (goodIn_of _ (by decide +kernel)) ggX0_addWell_X0_isWell
theorem dX0_addWell_0 : decode cX0_addWell 0 = .ok (.aload_n 0, 1) := by decide +kernel
theorem dX0_addWell_1 : decode cX0_addWell 1 = .ok (.getfield 33, 3) := by decide +kernel
theorem dX0_addWell_4 : decode cX0_addWell 4 = .ok (.ifCond .ne 16, 3) := by decide +kernel
theorem dX0_addWell_7 : decode cX0_addWell 7 = .ok (.iload_n 1, 1) := by decide +kernel
theorem dX0_addWell_8 : decode cX0_addWell 8 = .ok (.iconst (-1), 1) := by decide +kernel
theorem dX0_addWell_9 : decode cX0_addWell 9 = .ok (.if_icmp .ne 7, 3) := by decide +kernel
theorem dX0_addWell_12 : decode cX0_addWell 12 = .ok (.iconst 1, 1) := by decide +kernel
theorem dX0_addWell_13 : decode cX0_addWell 13 = .ok (.goto 12, 3) := by decide +kernel
theorem dX0_addWell_16 : decode cX0_addWell 16 = .ok (.iconst 0, 1) := by decide +kernel
theorem dX0_addWell_17 : decode cX0_addWell 17 = .ok (.goto 8, 3) := by decide +kernel
theorem dX0_addWell_20 : decode cX0_addWell 20 = .ok (.aload_n 0, 1) := by decide +kernel
theorem dX0_addWell_21 : decode cX0_addWell 21 = .ok (.iload_n 1, 1) := by decide +kernel
theorem dX0_addWell_22 : decode cX0_addWell 22 = .ok (.invokevirtual 61, 3) := by decide +kernel
theorem dX0_addWell_25 : decode cX0_addWell 25 = .ok (.istore 5, 2) := by decide +kernel
theorem dX0_addWell_27 : decode cX0_addWell 27 = .ok (.iload 5, 2) := by decide +kernel
theorem dX0_addWell_29 : decode cX0_addWell 29 = .ok (.ifCond .eq 38, 3) := by decide +kernel
theorem dX0_addWell_32 : decode cX0_addWell 32 = .ok (.iload_n 2, 1) := by decide +kernel
theorem dX0_addWell_33 : decode cX0_addWell 33 = .ok (.iconst 1, 1) := by decide +kernel
theorem dX0_addWell_34 : decode cX0_addWell 34 = .ok (.if_icmp .lt 33, 3) := by decide +kernel
theorem dX0_addWell_37 : decode cX0_addWell 37 = .ok (.iload_n 2, 1) := by decide +kernel
theorem dX0_addWell_38 : decode cX0_addWell 38 = .ok (.sipush 1000, 3) := by decide +kernel
theorem dX0_addWell_41 : decode cX0_addWell 41 = .ok (.if_icmp .gt 26, 3) := by decide +kernel
theorem dX0_addWell_44 : decode cX0_addWell 44 = .ok (.iload_n 3, 1) := by decide +kernel
theorem dX0_addWell_45 : decode cX0_addWell 45 = .ok (.ifCond .lt 22, 3) := by decide +kernel
theorem dX0_addWell_48 : decode cX0_addWell 48 = .ok (.iload_n 3, 1) := by decide +kernel
theorem dX0_addWell_49 : decode cX0_addWell 49 = .ok (.bipush 100, 2) := by decide +kernel
theorem dX0_addWell_51 : decode cX0_addWell 51 = .ok (.if_icmp .gt 16, 3) := by decide +kernel
theorem dX0_addWell_54 : decode cX0_addWell 54 = .ok (.iload 4, 2) := by decide +kernel
theorem dX0_addWell_56 : decode cX0_addWell 56 = .ok (.ifCond .lt 11, 3) := by decide +kernel
theorem dX0_addWell_59 : decode cX0_addWell 59 = .ok (.iload 4, 2) := by decide +kernel
theorem dX0_addWell_61 : decode cX0_addWell 61 = .ok (.sipush 1000, 3) := by decide +kernel
theorem dX0_addWell_64 : decode cX0_addWell 64 = .ok (.if_icmp .le 5, 3) := by decide +kernel
theorem dX0_addWell_67 : decode cX0_addWell 67 = .ok (.iconst (-1), 1) := by decide +kernel
theorem dX0_addWell_68 : decode cX0_addWell 68 = .ok (.ireturn, 1) := by decide +kernel
theorem dX0_addWell_69 : decode cX0_addWell 69 = .ok (.aload_n 0, 1) := by decide +kernel
theorem dX0_addWell_70 : decode cX0_addWell 70 = .ok (.getfield 33, 3) := by decide +kernel
theorem dX0_addWell_73 : decode cX0_addWell 73 = .ok (.bipush 12, 2) := by decide +kernel
theorem dX0_addWell_75 : decode cX0_addWell 75 = .ok (.if_icmp .lt 6, 3) := by decide +kernel
theorem dX0_addWell_78 : decode cX0_addWell 78 = .ok (.bipush (-3), 2) := by decide +kernel
theorem dX0_addWell_80 : decode cX0_addWell 80 = .ok (.ireturn, 1) := by decide +kernel
theorem dX0_addWell_81 : decode cX0_addWell 81 = .ok (.aload_n 0, 1) := by decide +kernel
theorem dX0_addWell_82 : decode cX0_addWell 82 = .ok (.getfield 11, 3) := by decide +kernel
theorem dX0_addWell_85 : decode cX0_addWell 85 = .ok (.iconst 0, 1) := by decide +kernel
theorem dX0_addWell_86 : decode cX0_addWell 86 = .ok (.aaload, 1) := by decide +kernel
theorem dX0_addWell_87 : decode cX0_addWell 87 = .ok (.aload_n 0, 1) := by decide +kernel
theorem dX0_addWell_88 : decode cX0_addWell 88 = .ok (.getfield 33, 3) := by decide +kernel
theorem dX0_addWell_91 : decode cX0_addWell 91 = .ok (.iload_n 1, 1) := by decide +kernel
theorem dX0_addWell_92 : decode cX0_addWell 92 = .ok (.iastore, 1) := by decide +kernel
theorem dX0_addWell_93 : decode cX0_addWell 93 = .ok (.aload_n 0, 1) := by decide +kernel
theorem dX0_addWell_94 : decode cX0_addWell 94 = .ok (.getfield 11, 3) := by decide +kernel
theorem dX0_addWell_97 : decode cX0_addWell 97 = .ok (.iconst 1, 1) := by decide +kernel
theorem dX0_addWell_98 : decode cX0_addWell 98 = .ok (.aaload, 1) := by decide +kernel
theorem dX0_addWell_99 : decode cX0_addWell 99 = .ok (.aload_n 0, 1) := by decide +kernel
theorem dX0_addWell_100 : decode cX0_addWell 100 = .ok (.getfield 33, 3) := by decide +kernel
theorem dX0_addWell_103 : decode cX0_addWell 103 = .ok (.iload_n 2, 1) := by decide +kernel
theorem dX0_addWell_104 : decode cX0_addWell 104 = .ok (.iastore, 1) := by decide +kernel
theorem dX0_addWell_105 : decode cX0_addWell 105 = .ok (.aload_n 0, 1) := by decide +kernel
theorem dX0_addWell_106 : decode cX0_addWell 106 = .ok (.getfield 11, 3) := by decide +kernel
theorem dX0_addWell_109 : decode cX0_addWell 109 = .ok (.iconst 2, 1) := by decide +kernel
theorem dX0_addWell_110 : decode cX0_addWell 110 = .ok (.aaload, 1) := by decide +kernel
theorem dX0_addWell_111 : decode cX0_addWell 111 = .ok (.aload_n 0, 1) := by decide +kernel
theorem dX0_addWell_112 : decode cX0_addWell 112 = .ok (.getfield 33, 3) := by decide +kernel
theorem dX0_addWell_115 : decode cX0_addWell 115 = .ok (.iload_n 3, 1) := by decide +kernel
theorem dX0_addWell_116 : decode cX0_addWell 116 = .ok (.iastore, 1) := by decide +kernel
theorem dX0_addWell_117 : decode cX0_addWell 117 = .ok (.aload_n 0, 1) := by decide +kernel
theorem dX0_addWell_118 : decode cX0_addWell 118 = .ok (.getfield 11, 3) := by decide +kernel
theorem dX0_addWell_121 : decode cX0_addWell 121 = .ok (.iconst 3, 1) := by decide +kernel
theorem dX0_addWell_122 : decode cX0_addWell 122 = .ok (.aaload, 1) := by decide +kernel
theorem dX0_addWell_123 : decode cX0_addWell 123 = .ok (.aload_n 0, 1) := by decide +kernel
theorem dX0_addWell_124 : decode cX0_addWell 124 = .ok (.getfield 33, 3) := by decide +kernel
theorem dX0_addWell_127 : decode cX0_addWell 127 = .ok (.iload 4, 2) := by decide +kernel
theorem dX0_addWell_129 : decode cX0_addWell 129 = .ok (.iastore, 1) := by decide +kernel
theorem dX0_addWell_130 : decode cX0_addWell 130 = .ok (.aload_n 0, 1) := by decide +kernel
theorem dX0_addWell_131 : decode cX0_addWell 131 = .ok (.iload_n 1, 1) := by decide +kernel
theorem dX0_addWell_132 : decode cX0_addWell 132 = .ok (.invokevirtual 61, 3) := by decide +kernel
theorem dX0_addWell_135 : decode cX0_addWell 135 = .ok (.ifCond .eq 16, 3) := by decide +kernel
theorem dX0_addWell_138 : decode cX0_addWell 138 = .ok (.aload_n 0, 1) := by decide +kernel
theorem dX0_addWell_139 : decode cX0_addWell 139 = .ok (.getfield 11, 3) := by decide +kernel
theorem dX0_addWell_142 : decode cX0_addWell 142 = .ok (.bipush 12, 2) := by decide +kernel
theorem dX0_addWell_144 : decode cX0_addWell 144 = .ok (.aaload, 1) := by decide +kernel
theorem dX0_addWell_145 : decode cX0_addWell 145 = .ok (.iload_n 1, 1) := by decide +kernel
theorem dX0_addWell_146 : decode cX0_addWell 146 = .ok (.dup2, 1) := by decide +kernel
theorem dX0_addWell_147 : decode cX0_addWell 147 = .ok (.iaload, 1) := by decide +kernel
theorem dX0_addWell_148 : decode cX0_addWell 148 = .ok (.iconst 1, 1) := by decide +kernel
theorem dX0_addWell_149 : decode cX0_addWell 149 = .ok (.iadd, 1) := by decide +kernel
theorem dX0_addWell_150 : decode cX0_addWell 150 = .ok (.iastore, 1) := by decide +kernel
theorem dX0_addWell_151 : decode cX0_addWell 151 = .ok (.aload_n 0, 1) := by decide +kernel
theorem dX0_addWell_152 : decode cX0_addWell 152 = .ok (.dup, 1) := by decide +kernel
theorem dX0_addWell_153 : decode cX0_addWell 153 = .ok (.getfield 33, 3) := by decide +kernel
theorem dX0_addWell_156 : decode cX0_addWell 156 = .ok (.dup_x1, 1) := by decide +kernel
theorem dX0_addWell_157 : decode cX0_addWell 157 = .ok (.iconst 1, 1) := by decide +kernel
theorem dX0_addWell_158 : decode cX0_addWell 158 = .ok (.iadd, 1) := by decide +kernel
theorem dX0_addWell_159 : decode cX0_addWell 159 = .ok (.putfield 33, 3) := by decide +kernel
theorem dX0_addWell_162 : decode cX0_addWell 162 = .ok (.ireturn, 1) := by decide +kernel
set_option maxRecDepth 20000 in
theorem ggX0_wellAbove_X0_isWell : GoodIn wsX0_wellAbove wsX0_isWell := goodIn_r _ [10, 11, 12, 13, 14, 15, 16, 17, 18, 19, 20, 21] (by decide +kernel) (by decide +kernel)
set_option maxRecDepth 20000 in
theorem gX0_wellAbove_X0_isWell : GoodIn wsX0_wellAbove (wsV RX0 61 RX0 yX0_isWell wsX0_isWell) := goodIn_app (goodIn_of _ (by decide +kernel)) ggX0_wellAbove_X0_isWell
theorem dX0_wellAbove_0 : decode cX0_wellAbove 0 = .ok (.iload_n 2, 1) := by decide +kernel
theorem dX0_wellAbove_1 : decode cX0_wellAbove 1 = .ok (.bipush 12, 2) := by decide +kernel
theorem dX0_wellAbove_3 : decode cX0_wellAbove 3 = .ok (.invokestatic 49, 3) := by decide +kernel
theorem dX0_wellAbove_6 : decode cX0_wellAbove 6 = .ok (.istore_n 3, 1) := by decide +kernel
theorem dX0_wellAbove_7 : decode cX0_wellAbove 7 = .ok (.aload_n 0, 1) := by decide +kernel
theorem dX0_wellAbove_8 : decode cX0_wellAbove 8 = .ok (.getfield 11, 3) := by decide +kernel
theorem dX0_wellAbove_11 : decode cX0_wellAbove 11 = .ok (.iconst 0, 1) := by decide +kernel
theorem dX0_wellAbove_12 : decode cX0_wellAbove 12 = .ok (.aaload, 1) := by decide +kernel
theorem dX0_wellAbove_13 : decode cX0_wellAbove 13 = .ok (.iload_n 1, 1) := by decide +kernel
theorem dX0_wellAbove_14 : decode cX0_wellAbove 14 = .ok (.iaload, 1) := by decide +kernel
theorem dX0_wellAbove_15 : decode cX0_wellAbove 15 = .ok (.istore 4, 2) := by decide +kernel
theorem dX0_wellAbove_17 : decode cX0_wellAbove 17 = .ok (.iconst 0, 1) := by decide +kernel
theorem dX0_wellAbove_18 : decode cX0_wellAbove 18 = .ok (.istore 5, 2) := by decide +kernel
theorem dX0_wellAbove_20 : decode cX0_wellAbove 20 = .ok (.iload 5, 2) := by decide +kernel
theorem dX0_wellAbove_22 : decode cX0_wellAbove 22 = .ok (.iload_n 3, 1) := by decide +kernel
theorem dX0_wellAbove_23 : decode cX0_wellAbove 23 = .ok (.if_icmp .ge 29, 3) := by decide +kernel
theorem dX0_wellAbove_26 : decode cX0_wellAbove 26 = .ok (.aload_n 0, 1) := by decide +kernel
theorem dX0_wellAbove_27 : decode cX0_wellAbove 27 = .ok (.iload 4, 2) := by decide +kernel
theorem dX0_wellAbove_29 : decode cX0_wellAbove 29 = .ok (.invokevirtual 61, 3) := by decide +kernel
theorem dX0_wellAbove_32 : decode cX0_wellAbove 32 = .ok (.ifCond .eq 20, 3) := by decide +kernel
theorem dX0_wellAbove_35 : decode cX0_wellAbove 35 = .ok (.aload_n 0, 1) := by decide +kernel
theorem dX0_wellAbove_36 : decode cX0_wellAbove 36 = .ok (.getfield 11, 3) := by decide +kernel
theorem dX0_wellAbove_39 : decode cX0_wellAbove 39 = .ok (.iconst 0, 1) := by decide +kernel
theorem dX0_wellAbove_40 : decode cX0_wellAbove 40 = .ok (.aaload, 1) := by decide +kernel
theorem dX0_wellAbove_41 : decode cX0_wellAbove 41 = .ok (.iload 4, 2) := by decide +kernel
theorem dX0_wellAbove_43 : decode cX0_wellAbove 43 = .ok (.iaload, 1) := by decide +kernel
theorem dX0_wellAbove_44 : decode cX0_wellAbove 44 = .ok (.istore 4, 2) := by decide +kernel
theorem dX0_wellAbove_46 : decode cX0_wellAbove 46 = .ok (.iinc 5 1, 3) := by decide +kernel
theorem dX0_wellAbove_49 : decode cX0_wellAbove 49 = .ok (.goto (-29), 3) := by decide +kernel
theorem dX0_wellAbove_52 : decode cX0_wellAbove 52 = .ok (.iload 4, 2) := by decide +kernel
theorem dX0_wellAbove_54 : decode cX0_wellAbove 54 = .ok (.ireturn, 1) := by decide +kernel
set_option maxRecDepth 20000 in
theorem ggX0_addDrought_X0_isWell : GoodIn wsX0_addDrought wsX0_isWell := goodIn_r _ [9, 10, 11, 12, 13, 14, 15, 16, 17, 18, 19, 20] (by decide +kernel) (by decide +kernel)
set_option maxRecDepth 20000 in
theorem gX0_addDrought_X0_isWell : GoodIn wsX0_addDrought (wsV RX0 61 RX0 yX0_isWell wsX0_isWell) := goodIn_app (goodIn_of _ (by decide +kernel)) ggX0_addDrought_X0_isWell
theorem dX0_addDrought_0 : decode cX0_addDrought 0 = .ok (.aload_n 0, 1) := by decide +kernel
theorem dX0_addDrought_1 : decode cX0_addDrought 1 = .ok (.iload_n 1, 1) := by decide +kernel
theorem dX0_addDrought_2 : decode cX0_addDrought 2 = .ok (.invokevirtual 61, 3) := by decide +kernel
theorem dX0_addDrought_5 : decode cX0_addDrought 5 = .ok (.ifCond .eq 28, 3) := by decide +kernel
theorem dX0_addDrought_8 : decode cX0_addDrought 8 = .ok (.iload_n 2, 1) := by decide +kernel
theorem dX0_addDrought_9 : decode cX0_addDrought 9 = .ok (.aload_n 0, 1) := by decide +kernel
theorem dX0_addDrought_10 : decode cX0_addDrought 10 = .ok (.getfield 43, 3) := by decide +kernel
theorem dX0_addDrought_13 : decode cX0_addDrought 13 = .ok (.if_icmp .le 20, 3) := by decide +kernel
theorem dX0_addDrought_16 : decode cX0_addDrought 16 = .ok (.iload_n 2, 1) := by decide +kernel
theorem dX0_addDrought_17 : decode cX0_addDrought 17 = .ok (.ldc 65, 2) := by decide +kernel
theorem dX0_addDrought_19 : decode cX0_addDrought 19 = .ok (.if_icmp .gt 14, 3) := by decide +kernel
theorem dX0_addDrought_22 : decode cX0_addDrought 22 = .ok (.iload_n 3, 1) := by decide +kernel
theorem dX0_addDrought_23 : decode cX0_addDrought 23 = .ok (.iload_n 2, 1) := by decide +kernel
theorem dX0_addDrought_24 : decode cX0_addDrought 24 = .ok (.if_icmp .lt 9, 3) := by decide +kernel
theorem dX0_addDrought_27 : decode cX0_addDrought 27 = .ok (.iload_n 3, 1) := by decide +kernel
theorem dX0_addDrought_28 : decode cX0_addDrought 28 = .ok (.ldc 65, 2) := by decide +kernel
theorem dX0_addDrought_30 : decode cX0_addDrought 30 = .ok (.if_icmp .le 5, 3) := by decide +kernel
theorem dX0_addDrought_33 : decode cX0_addDrought 33 = .ok (.iconst (-1), 1) := by decide +kernel
theorem dX0_addDrought_34 : decode cX0_addDrought 34 = .ok (.ireturn, 1) := by decide +kernel
theorem dX0_addDrought_35 : decode cX0_addDrought 35 = .ok (.aload_n 0, 1) := by decide +kernel
theorem dX0_addDrought_36 : decode cX0_addDrought 36 = .ok (.getfield 37, 3) := by decide +kernel
theorem dX0_addDrought_39 : decode cX0_addDrought 39 = .ok (.bipush 20, 2) := by decide +kernel
theorem dX0_addDrought_41 : decode cX0_addDrought 41 = .ok (.if_icmp .lt 6, 3) := by decide +kernel
theorem dX0_addDrought_44 : decode cX0_addDrought 44 = .ok (.bipush (-3), 2) := by decide +kernel
theorem dX0_addDrought_46 : decode cX0_addDrought 46 = .ok (.ireturn, 1) := by decide +kernel
theorem dX0_addDrought_47 : decode cX0_addDrought 47 = .ok (.aload_n 0, 1) := by decide +kernel
theorem dX0_addDrought_48 : decode cX0_addDrought 48 = .ok (.getfield 16, 3) := by decide +kernel
theorem dX0_addDrought_51 : decode cX0_addDrought 51 = .ok (.iconst 0, 1) := by decide +kernel
theorem dX0_addDrought_52 : decode cX0_addDrought 52 = .ok (.aaload, 1) := by decide +kernel
theorem dX0_addDrought_53 : decode cX0_addDrought 53 = .ok (.aload_n 0, 1) := by decide +kernel
theorem dX0_addDrought_54 : decode cX0_addDrought 54 = .ok (.getfield 37, 3) := by decide +kernel
theorem dX0_addDrought_57 : decode cX0_addDrought 57 = .ok (.iload_n 1, 1) := by decide +kernel
theorem dX0_addDrought_58 : decode cX0_addDrought 58 = .ok (.iastore, 1) := by decide +kernel
theorem dX0_addDrought_59 : decode cX0_addDrought 59 = .ok (.aload_n 0, 1) := by decide +kernel
theorem dX0_addDrought_60 : decode cX0_addDrought 60 = .ok (.getfield 16, 3) := by decide +kernel
theorem dX0_addDrought_63 : decode cX0_addDrought 63 = .ok (.iconst 1, 1) := by decide +kernel
theorem dX0_addDrought_64 : decode cX0_addDrought 64 = .ok (.aaload, 1) := by decide +kernel
theorem dX0_addDrought_65 : decode cX0_addDrought 65 = .ok (.aload_n 0, 1) := by decide +kernel
theorem dX0_addDrought_66 : decode cX0_addDrought 66 = .ok (.getfield 37, 3) := by decide +kernel
theorem dX0_addDrought_69 : decode cX0_addDrought 69 = .ok (.iload_n 2, 1) := by decide +kernel
theorem dX0_addDrought_70 : decode cX0_addDrought 70 = .ok (.iastore, 1) := by decide +kernel
theorem dX0_addDrought_71 : decode cX0_addDrought 71 = .ok (.aload_n 0, 1) := by decide +kernel
theorem dX0_addDrought_72 : decode cX0_addDrought 72 = .ok (.getfield 16, 3) := by decide +kernel
theorem dX0_addDrought_75 : decode cX0_addDrought 75 = .ok (.iconst 2, 1) := by decide +kernel
theorem dX0_addDrought_76 : decode cX0_addDrought 76 = .ok (.aaload, 1) := by decide +kernel
theorem dX0_addDrought_77 : decode cX0_addDrought 77 = .ok (.aload_n 0, 1) := by decide +kernel
theorem dX0_addDrought_78 : decode cX0_addDrought 78 = .ok (.getfield 37, 3) := by decide +kernel
theorem dX0_addDrought_81 : decode cX0_addDrought 81 = .ok (.iload_n 3, 1) := by decide +kernel
theorem dX0_addDrought_82 : decode cX0_addDrought 82 = .ok (.iastore, 1) := by decide +kernel
theorem dX0_addDrought_83 : decode cX0_addDrought 83 = .ok (.aload_n 0, 1) := by decide +kernel
theorem dX0_addDrought_84 : decode cX0_addDrought 84 = .ok (.dup, 1) := by decide +kernel
theorem dX0_addDrought_85 : decode cX0_addDrought 85 = .ok (.getfield 37, 3) := by decide +kernel
theorem dX0_addDrought_88 : decode cX0_addDrought 88 = .ok (.dup_x1, 1) := by decide +kernel
theorem dX0_addDrought_89 : decode cX0_addDrought 89 = .ok (.iconst 1, 1) := by decide +kernel
theorem dX0_addDrought_90 : decode cX0_addDrought 90 = .ok (.iadd, 1) := by decide +kernel
theorem dX0_addDrought_91 : decode cX0_addDrought 91 = .ok (.putfield 37, 3) := by decide +kernel
theorem dX0_addDrought_94 : decode cX0_addDrought 94 = .ok (.ireturn, 1) := by decide +kernel
set_option maxRecDepth 20000 in
theorem ggX0_isDry_X0_dryWells : GoodIn wsX0_isDry wsX0_dryWells := goodIn_r _ [5, 6, 7, 8, 9, 10, 11, 12, 13, 14, 15, 16, 17] (by decide +kernel) (by decide +kernel)
set_option maxRecDepth 20000 in
theorem gX0_isDry_X0_dryWells : GoodIn wsX0_isDry (wsV RX0 66 RX0 yX0_dryWells wsX0_dryWells) := goodIn_app (goodIn_of _ (by decide +kernel)) ggX0_isDry_X0_dryWells
theorem dX0_isDry_0 : decode cX0_isDry 0 = .ok (.aload_n 0, 1) := by decide +kernel
theorem dX0_isDry_1 : decode cX0_isDry 1 = .ok (.iload_n 2, 1) := by decide +kernel
theorem dX0_isDry_2 : decode cX0_isDry 2 = .ok (.invokevirtual 66, 3) := by decide +kernel
theorem dX0_isDry_5 : decode cX0_isDry 5 = .ok (.iload_n 1, 1) := by decide +kernel
theorem dX0_isDry_6 : decode cX0_isDry 6 = .ok (.ishr, 1) := by decide +kernel
theorem dX0_isDry_7 : decode cX0_isDry 7 = .ok (.iconst 1, 1) := by decide +kernel
theorem dX0_isDry_8 : decode cX0_isDry 8 = .ok (.iand, 1) := by decide +kernel
theorem dX0_isDry_9 : decode cX0_isDry 9 = .ok (.iconst 1, 1) := by decide +kernel
theorem dX0_isDry_10 : decode cX0_isDry 10 = .ok (.if_icmp .ne 7, 3) := by decide +kernel
theorem dX0_isDry_13 : decode cX0_isDry 13 = .ok (.iconst 1, 1) := by decide +kernel
theorem dX0_isDry_14 : decode cX0_isDry 14 = .ok (.goto 4, 3) := by decide +kernel
theorem dX0_isDry_17 : decode cX0_isDry 17 = .ok (.iconst 0, 1) := by decide +kernel
theorem dX0_isDry_18 : decode cX0_isDry 18 = .ok (.ireturn, 1) := by decide +kernel
theorem dX0_dryWells_0 : decode cX0_dryWells 0 = .ok (.iconst 0, 1) := by decide +kernel
theorem dX0_dryWells_1 : decode cX0_dryWells 1 = .ok (.istore_n 2, 1) := by decide +kernel
theorem dX0_dryWells_2 : decode cX0_dryWells 2 = .ok (.iconst 0, 1) := by decide +kernel
theorem dX0_dryWells_3 : decode cX0_dryWells 3 = .ok (.istore_n 3, 1) := by decide +kernel
theorem dX0_dryWells_4 : decode cX0_dryWells 4 = .ok (.iload_n 3, 1) := by decide +kernel
theorem dX0_dryWells_5 : decode cX0_dryWells 5 = .ok (.aload_n 0, 1) := by decide +kernel
theorem dX0_dryWells_6 : decode cX0_dryWells 6 = .ok (.getfield 37, 3) := by decide +kernel
theorem dX0_dryWells_9 : decode cX0_dryWells 9 = .ok (.if_icmp .ge 46, 3) := by decide +kernel
theorem dX0_dryWells_12 : decode cX0_dryWells 12 = .ok (.aload_n 0, 1) := by decide +kernel
theorem dX0_dryWells_13 : decode cX0_dryWells 13 = .ok (.getfield 16, 3) := by decide +kernel
theorem dX0_dryWells_16 : decode cX0_dryWells 16 = .ok (.iconst 1, 1) := by decide +kernel
theorem dX0_dryWells_17 : decode cX0_dryWells 17 = .ok (.aaload, 1) := by decide +kernel
theorem dX0_dryWells_18 : decode cX0_dryWells 18 = .ok (.iload_n 3, 1) := by decide +kernel
theorem dX0_dryWells_19 : decode cX0_dryWells 19 = .ok (.iaload, 1) := by decide +kernel
theorem dX0_dryWells_20 : decode cX0_dryWells 20 = .ok (.iload_n 1, 1) := by decide +kernel
theorem dX0_dryWells_21 : decode cX0_dryWells 21 = .ok (.if_icmp .gt 28, 3) := by decide +kernel
theorem dX0_dryWells_24 : decode cX0_dryWells 24 = .ok (.iload_n 1, 1) := by decide +kernel
theorem dX0_dryWells_25 : decode cX0_dryWells 25 = .ok (.aload_n 0, 1) := by decide +kernel
theorem dX0_dryWells_26 : decode cX0_dryWells 26 = .ok (.getfield 16, 3) := by decide +kernel
theorem dX0_dryWells_29 : decode cX0_dryWells 29 = .ok (.iconst 2, 1) := by decide +kernel
theorem dX0_dryWells_30 : decode cX0_dryWells 30 = .ok (.aaload, 1) := by decide +kernel
theorem dX0_dryWells_31 : decode cX0_dryWells 31 = .ok (.iload_n 3, 1) := by decide +kernel
theorem dX0_dryWells_32 : decode cX0_dryWells 32 = .ok (.iaload, 1) := by decide +kernel
theorem dX0_dryWells_33 : decode cX0_dryWells 33 = .ok (.if_icmp .gt 16, 3) := by decide +kernel
theorem dX0_dryWells_36 : decode cX0_dryWells 36 = .ok (.iload_n 2, 1) := by decide +kernel
theorem dX0_dryWells_37 : decode cX0_dryWells 37 = .ok (.iconst 1, 1) := by decide +kernel
theorem dX0_dryWells_38 : decode cX0_dryWells 38 = .ok (.aload_n 0, 1) := by decide +kernel
theorem dX0_dryWells_39 : decode cX0_dryWells 39 = .ok (.getfield 16, 3) := by decide +kernel
theorem dX0_dryWells_42 : decode cX0_dryWells 42 = .ok (.iconst 0, 1) := by decide +kernel
theorem dX0_dryWells_43 : decode cX0_dryWells 43 = .ok (.aaload, 1) := by decide +kernel
theorem dX0_dryWells_44 : decode cX0_dryWells 44 = .ok (.iload_n 3, 1) := by decide +kernel
theorem dX0_dryWells_45 : decode cX0_dryWells 45 = .ok (.iaload, 1) := by decide +kernel
theorem dX0_dryWells_46 : decode cX0_dryWells 46 = .ok (.ishl, 1) := by decide +kernel
theorem dX0_dryWells_47 : decode cX0_dryWells 47 = .ok (.ior, 1) := by decide +kernel
theorem dX0_dryWells_48 : decode cX0_dryWells 48 = .ok (.istore_n 2, 1) := by decide +kernel
theorem dX0_dryWells_49 : decode cX0_dryWells 49 = .ok (.iinc 3 1, 3) := by decide +kernel
theorem dX0_dryWells_52 : decode cX0_dryWells 52 = .ok (.goto (-48), 3) := by decide +kernel
theorem dX0_dryWells_55 : decode cX0_dryWells 55 = .ok (.iload_n 2, 1) := by decide +kernel
theorem dX0_dryWells_56 : decode cX0_dryWells 56 = .ok (.ireturn, 1) := by decide +kernel
set_option maxRecDepth 20000 in
theorem ggX0_shareOut_J7_fill_53178 : GoodIn wsX0_shareOut wsJ7_fill_53178 := goodIn_r _ [10] (by decide +kernel) (by decide +kernel)
set_option maxRecDepth 20000 in
theorem gX0_shareOut_J7_fill_53178 : GoodIn wsX0_shareOut (va_wsS RX0 70 yJ7_fill_53178 wsJ7_fill_53178) := goodIn_app (goodIn_of _ (by decide +kernel)) ggX0_shareOut_J7_fill_53178
set_option maxRecDepth 20000 in
theorem ggX0_shareOut_X0_isWell : GoodIn wsX0_shareOut wsX0_isWell := goodIn_r _ [15, 16, 17, 18, 19, 20, 21, 22, 23, 24, 25, 26] (by decide +kernel) (by decide +kernel)
set_option maxRecDepth 20000 in
theorem gX0_shareOut_X0_isWell : GoodIn wsX0_shareOut (wsV RX0 61 RX0 yX0_isWell wsX0_isWell) := goodIn_app (goodIn_of _ (by decide +kernel)) ggX0_shareOut_X0_isWell
theorem dX0_shareOut_0 : decode cX0_shareOut 0 = .ok (.aload_n 0, 1) := by decide +kernel
theorem dX0_shareOut_1 : decode cX0_shareOut 1 = .ok (.getfield 26, 3) := by decide +kernel
theorem dX0_shareOut_4 : decode cX0_shareOut 4 = .ok (.iconst 0, 1) := by decide +kernel
theorem dX0_shareOut_5 : decode cX0_shareOut 5 = .ok (.invokestatic 70, 3) := by decide +kernel
theorem dX0_shareOut_8 : decode cX0_shareOut 8 = .ok (.iload_n 2, 1) := by decide +kernel
theorem dX0_shareOut_9 : decode cX0_shareOut 9 = .ok (.istore_n 3, 1) := by decide +kernel
theorem dX0_shareOut_10 : decode cX0_shareOut 10 = .ok (.iload_n 1, 1) := by decide +kernel
theorem dX0_shareOut_11 : decode cX0_shareOut 11 = .ok (.istore 4, 2) := by decide +kernel
theorem dX0_shareOut_13 : decode cX0_shareOut 13 = .ok (.iconst 0, 1) := by decide +kernel
theorem dX0_shareOut_14 : decode cX0_shareOut 14 = .ok (.istore 5, 2) := by decide +kernel
theorem dX0_shareOut_16 : decode cX0_shareOut 16 = .ok (.iload 5, 2) := by decide +kernel
theorem dX0_shareOut_18 : decode cX0_shareOut 18 = .ok (.bipush 12, 2) := by decide +kernel
theorem dX0_shareOut_20 : decode cX0_shareOut 20 = .ok (.if_icmp .ge 90, 3) := by decide +kernel
theorem dX0_shareOut_23 : decode cX0_shareOut 23 = .ok (.aload_n 0, 1) := by decide +kernel
theorem dX0_shareOut_24 : decode cX0_shareOut 24 = .ok (.iload 4, 2) := by decide +kernel
theorem dX0_shareOut_26 : decode cX0_shareOut 26 = .ok (.invokevirtual 61, 3) := by decide +kernel
theorem dX0_shareOut_29 : decode cX0_shareOut 29 = .ok (.ifCond .eq 81, 3) := by decide +kernel
theorem dX0_shareOut_32 : decode cX0_shareOut 32 = .ok (.aload_n 0, 1) := by decide +kernel
theorem dX0_shareOut_33 : decode cX0_shareOut 33 = .ok (.getfield 11, 3) := by decide +kernel
theorem dX0_shareOut_36 : decode cX0_shareOut 36 = .ok (.iconst 4, 1) := by decide +kernel
theorem dX0_shareOut_37 : decode cX0_shareOut 37 = .ok (.aaload, 1) := by decide +kernel
theorem dX0_shareOut_38 : decode cX0_shareOut 38 = .ok (.iload 4, 2) := by decide +kernel
theorem dX0_shareOut_40 : decode cX0_shareOut 40 = .ok (.iaload, 1) := by decide +kernel
theorem dX0_shareOut_41 : decode cX0_shareOut 41 = .ok (.istore 6, 2) := by decide +kernel
theorem dX0_shareOut_43 : decode cX0_shareOut 43 = .ok (.iload 4, 2) := by decide +kernel
theorem dX0_shareOut_45 : decode cX0_shareOut 45 = .ok (.iload_n 1, 1) := by decide +kernel
theorem dX0_shareOut_46 : decode cX0_shareOut 46 = .ok (.if_icmp .ne 8, 3) := by decide +kernel
theorem dX0_shareOut_49 : decode cX0_shareOut 49 = .ok (.iload 6, 2) := by decide +kernel
theorem dX0_shareOut_51 : decode cX0_shareOut 51 = .ok (.goto 17, 3) := by decide +kernel
theorem dX0_shareOut_54 : decode cX0_shareOut 54 = .ok (.iload 6, 2) := by decide +kernel
theorem dX0_shareOut_56 : decode cX0_shareOut 56 = .ok (.aload_n 0, 1) := by decide +kernel
theorem dX0_shareOut_57 : decode cX0_shareOut 57 = .ok (.getfield 11, 3) := by decide +kernel
theorem dX0_shareOut_60 : decode cX0_shareOut 60 = .ok (.iconst 3, 1) := by decide +kernel
theorem dX0_shareOut_61 : decode cX0_shareOut 61 = .ok (.aaload, 1) := by decide +kernel
theorem dX0_shareOut_62 : decode cX0_shareOut 62 = .ok (.iload 4, 2) := by decide +kernel
theorem dX0_shareOut_64 : decode cX0_shareOut 64 = .ok (.iaload, 1) := by decide +kernel
theorem dX0_shareOut_65 : decode cX0_shareOut 65 = .ok (.invokestatic 49, 3) := by decide +kernel
theorem dX0_shareOut_68 : decode cX0_shareOut 68 = .ok (.istore 7, 2) := by decide +kernel
theorem dX0_shareOut_70 : decode cX0_shareOut 70 = .ok (.aload_n 0, 1) := by decide +kernel
theorem dX0_shareOut_71 : decode cX0_shareOut 71 = .ok (.getfield 26, 3) := by decide +kernel
theorem dX0_shareOut_74 : decode cX0_shareOut 74 = .ok (.iload 4, 2) := by decide +kernel
theorem dX0_shareOut_76 : decode cX0_shareOut 76 = .ok (.iload_n 3, 1) := by decide +kernel
theorem dX0_shareOut_77 : decode cX0_shareOut 77 = .ok (.iload 7, 2) := by decide +kernel
theorem dX0_shareOut_79 : decode cX0_shareOut 79 = .ok (.invokestatic 49, 3) := by decide +kernel
theorem dX0_shareOut_82 : decode cX0_shareOut 82 = .ok (.iastore, 1) := by decide +kernel
theorem dX0_shareOut_83 : decode cX0_shareOut 83 = .ok (.iload_n 3, 1) := by decide +kernel
theorem dX0_shareOut_84 : decode cX0_shareOut 84 = .ok (.aload_n 0, 1) := by decide +kernel
theorem dX0_shareOut_85 : decode cX0_shareOut 85 = .ok (.getfield 26, 3) := by decide +kernel
theorem dX0_shareOut_88 : decode cX0_shareOut 88 = .ok (.iload 4, 2) := by decide +kernel
theorem dX0_shareOut_90 : decode cX0_shareOut 90 = .ok (.iaload, 1) := by decide +kernel
theorem dX0_shareOut_91 : decode cX0_shareOut 91 = .ok (.isub, 1) := by decide +kernel
theorem dX0_shareOut_92 : decode cX0_shareOut 92 = .ok (.istore_n 3, 1) := by decide +kernel
theorem dX0_shareOut_93 : decode cX0_shareOut 93 = .ok (.aload_n 0, 1) := by decide +kernel
theorem dX0_shareOut_94 : decode cX0_shareOut 94 = .ok (.getfield 11, 3) := by decide +kernel
theorem dX0_shareOut_97 : decode cX0_shareOut 97 = .ok (.iconst 0, 1) := by decide +kernel
theorem dX0_shareOut_98 : decode cX0_shareOut 98 = .ok (.aaload, 1) := by decide +kernel
theorem dX0_shareOut_99 : decode cX0_shareOut 99 = .ok (.iload 4, 2) := by decide +kernel
theorem dX0_shareOut_101 : decode cX0_shareOut 101 = .ok (.iaload, 1) := by decide +kernel
theorem dX0_shareOut_102 : decode cX0_shareOut 102 = .ok (.istore 4, 2) := by decide +kernel
theorem dX0_shareOut_104 : decode cX0_shareOut 104 = .ok (.iinc 5 1, 3) := by decide +kernel
theorem dX0_shareOut_107 : decode cX0_shareOut 107 = .ok (.goto (-91), 3) := by decide +kernel
theorem dX0_shareOut_110 : decode cX0_shareOut 110 = .ok (.iload_n 2, 1) := by decide +kernel
theorem dX0_shareOut_111 : decode cX0_shareOut 111 = .ok (.iload_n 3, 1) := by decide +kernel
theorem dX0_shareOut_112 : decode cX0_shareOut 112 = .ok (.isub, 1) := by decide +kernel
theorem dX0_shareOut_113 : decode cX0_shareOut 113 = .ok (.ireturn, 1) := by decide +kernel
theorem dX0_pourShares_0 : decode cX0_pourShares 0 = .ok (.iconst 0, 1) := by decide +kernel
theorem dX0_pourShares_1 : decode cX0_pourShares 1 = .ok (.istore_n 2, 1) := by decide +kernel
theorem dX0_pourShares_2 : decode cX0_pourShares 2 = .ok (.iconst 0, 1) := by decide +kernel
theorem dX0_pourShares_3 : decode cX0_pourShares 3 = .ok (.istore_n 3, 1) := by decide +kernel
theorem dX0_pourShares_4 : decode cX0_pourShares 4 = .ok (.iload_n 3, 1) := by decide +kernel
theorem dX0_pourShares_5 : decode cX0_pourShares 5 = .ok (.aload_n 0, 1) := by decide +kernel
theorem dX0_pourShares_6 : decode cX0_pourShares 6 = .ok (.getfield 33, 3) := by decide +kernel
theorem dX0_pourShares_9 : decode cX0_pourShares 9 = .ok (.if_icmp .ge 71, 3) := by decide +kernel
theorem dX0_pourShares_12 : decode cX0_pourShares 12 = .ok (.aload_n 0, 1) := by decide +kernel
theorem dX0_pourShares_13 : decode cX0_pourShares 13 = .ok (.getfield 26, 3) := by decide +kernel
theorem dX0_pourShares_16 : decode cX0_pourShares 16 = .ok (.iload_n 3, 1) := by decide +kernel
theorem dX0_pourShares_17 : decode cX0_pourShares 17 = .ok (.iaload, 1) := by decide +kernel
theorem dX0_pourShares_18 : decode cX0_pourShares 18 = .ok (.istore 4, 2) := by decide +kernel
theorem dX0_pourShares_20 : decode cX0_pourShares 20 = .ok (.aload_n 0, 1) := by decide +kernel
theorem dX0_pourShares_21 : decode cX0_pourShares 21 = .ok (.getfield 11, 3) := by decide +kernel
theorem dX0_pourShares_24 : decode cX0_pourShares 24 = .ok (.iconst 4, 1) := by decide +kernel
theorem dX0_pourShares_25 : decode cX0_pourShares 25 = .ok (.aaload, 1) := by decide +kernel
theorem dX0_pourShares_26 : decode cX0_pourShares 26 = .ok (.iload_n 3, 1) := by decide +kernel
theorem dX0_pourShares_27 : decode cX0_pourShares 27 = .ok (.dup2, 1) := by decide +kernel
theorem dX0_pourShares_28 : decode cX0_pourShares 28 = .ok (.iaload, 1) := by decide +kernel
theorem dX0_pourShares_29 : decode cX0_pourShares 29 = .ok (.iload 4, 2) := by decide +kernel
theorem dX0_pourShares_31 : decode cX0_pourShares 31 = .ok (.isub, 1) := by decide +kernel
theorem dX0_pourShares_32 : decode cX0_pourShares 32 = .ok (.iastore, 1) := by decide +kernel
theorem dX0_pourShares_33 : decode cX0_pourShares 33 = .ok (.iload_n 3, 1) := by decide +kernel
theorem dX0_pourShares_34 : decode cX0_pourShares 34 = .ok (.iload_n 1, 1) := by decide +kernel
theorem dX0_pourShares_35 : decode cX0_pourShares 35 = .ok (.if_icmp .ne 20, 3) := by decide +kernel
theorem dX0_pourShares_38 : decode cX0_pourShares 38 = .ok (.aload_n 0, 1) := by decide +kernel
theorem dX0_pourShares_39 : decode cX0_pourShares 39 = .ok (.getfield 11, 3) := by decide +kernel
theorem dX0_pourShares_42 : decode cX0_pourShares 42 = .ok (.bipush 8, 2) := by decide +kernel
theorem dX0_pourShares_44 : decode cX0_pourShares 44 = .ok (.aaload, 1) := by decide +kernel
theorem dX0_pourShares_45 : decode cX0_pourShares 45 = .ok (.iload_n 3, 1) := by decide +kernel
theorem dX0_pourShares_46 : decode cX0_pourShares 46 = .ok (.dup2, 1) := by decide +kernel
theorem dX0_pourShares_47 : decode cX0_pourShares 47 = .ok (.iaload, 1) := by decide +kernel
theorem dX0_pourShares_48 : decode cX0_pourShares 48 = .ok (.iload 4, 2) := by decide +kernel
theorem dX0_pourShares_50 : decode cX0_pourShares 50 = .ok (.iadd, 1) := by decide +kernel
theorem dX0_pourShares_51 : decode cX0_pourShares 51 = .ok (.iastore, 1) := by decide +kernel
theorem dX0_pourShares_52 : decode cX0_pourShares 52 = .ok (.goto 22, 3) := by decide +kernel
theorem dX0_pourShares_55 : decode cX0_pourShares 55 = .ok (.aload_n 0, 1) := by decide +kernel
theorem dX0_pourShares_56 : decode cX0_pourShares 56 = .ok (.getfield 11, 3) := by decide +kernel
theorem dX0_pourShares_59 : decode cX0_pourShares 59 = .ok (.bipush 9, 2) := by decide +kernel
theorem dX0_pourShares_61 : decode cX0_pourShares 61 = .ok (.aaload, 1) := by decide +kernel
theorem dX0_pourShares_62 : decode cX0_pourShares 62 = .ok (.iload_n 3, 1) := by decide +kernel
theorem dX0_pourShares_63 : decode cX0_pourShares 63 = .ok (.dup2, 1) := by decide +kernel
theorem dX0_pourShares_64 : decode cX0_pourShares 64 = .ok (.iaload, 1) := by decide +kernel
theorem dX0_pourShares_65 : decode cX0_pourShares 65 = .ok (.iload 4, 2) := by decide +kernel
theorem dX0_pourShares_67 : decode cX0_pourShares 67 = .ok (.iadd, 1) := by decide +kernel
theorem dX0_pourShares_68 : decode cX0_pourShares 68 = .ok (.iastore, 1) := by decide +kernel
theorem dX0_pourShares_69 : decode cX0_pourShares 69 = .ok (.iload_n 2, 1) := by decide +kernel
theorem dX0_pourShares_70 : decode cX0_pourShares 70 = .ok (.iload 4, 2) := by decide +kernel
theorem dX0_pourShares_72 : decode cX0_pourShares 72 = .ok (.iadd, 1) := by decide +kernel
theorem dX0_pourShares_73 : decode cX0_pourShares 73 = .ok (.istore_n 2, 1) := by decide +kernel
theorem dX0_pourShares_74 : decode cX0_pourShares 74 = .ok (.iinc 3 1, 3) := by decide +kernel
theorem dX0_pourShares_77 : decode cX0_pourShares 77 = .ok (.goto (-73), 3) := by decide +kernel
theorem dX0_pourShares_80 : decode cX0_pourShares 80 = .ok (.iload_n 2, 1) := by decide +kernel
theorem dX0_pourShares_81 : decode cX0_pourShares 81 = .ok (.ireturn, 1) := by decide +kernel
set_option maxRecDepth 20000 in
theorem ggX0_takeDraw_X0_isWell : GoodIn wsX0_takeDraw wsX0_isWell := goodIn_r _ [5, 6, 28, 29, 30, 31, 32, 33, 34, 35, 36, 37] (by decide +kernel) (by decide +kernel)
set_option maxRecDepth 20000 in
theorem gX0_takeDraw_X0_isWell : GoodIn wsX0_takeDraw (wsV RX0 61 RX0 yX0_isWell wsX0_isWell) := goodIn_app (goodIn_of _ (by decide +kernel)) ggX0_takeDraw_X0_isWell
set_option maxRecDepth 20000 in
theorem ggX0_takeDraw_X3_areBuckets : GoodIn wsX0_takeDraw wsX3_areBuckets := goodIn_r _ [9] (by decide +kernel) (by decide +kernel)
set_option maxRecDepth 20000 in
theorem gX0_takeDraw_X3_areBuckets_n76 : GoodIn wsX0_takeDraw (wsX3_areBuckets) := ggX0_takeDraw_X3_areBuckets
set_option maxRecDepth 20000 in
theorem ggX0_takeDraw_X0_shareOut : GoodIn wsX0_takeDraw wsX0_shareOut := goodIn_r _ [13, 14, 15, 16, 17, 18, 19, 20, 21, 22, 23, 1, 2, 3, 4, 5, 6, 28, 29, 30, 31, 32, 33, 34, 35, 36, 37] (by decide +kernel) (by decide +kernel)
set_option maxRecDepth 20000 in
theorem gX0_takeDraw_X0_shareOut : GoodIn wsX0_takeDraw (wsV RX0 79 RX0 yX0_shareOut wsX0_shareOut) := goodIn_app (goodIn_of _ (by decide +kernel)) ggX0_takeDraw_X0_shareOut
set_option maxRecDepth 20000 in
theorem ggX0_takeDraw_X0_pourShares : GoodIn wsX0_takeDraw wsX0_pourShares := goodIn_r _ [27, 6, 14, 15, 28, 29, 30, 31, 32, 33, 34, 35, 36, 37] (by decide +kernel) (by decide +kernel)
set_option maxRecDepth 20000 in
theorem gX0_takeDraw_X0_pourShares : GoodIn wsX0_takeDraw (wsV RX0 82 RX0 yX0_pourShares wsX0_pourShares) := goodIn_app (goodIn_of _ (by decide +kernel)) ggX0_takeDraw_X0_pourShares
theorem dX0_takeDraw_0 : decode cX0_takeDraw 0 = .ok (.aload_n 0, 1) := by decide +kernel
theorem dX0_takeDraw_1 : decode cX0_takeDraw 1 = .ok (.iload_n 1, 1) := by decide +kernel
theorem dX0_takeDraw_2 : decode cX0_takeDraw 2 = .ok (.invokevirtual 61, 3) := by decide +kernel
theorem dX0_takeDraw_5 : decode cX0_takeDraw 5 = .ok (.ifCond .eq 10, 3) := by decide +kernel
theorem dX0_takeDraw_8 : decode cX0_takeDraw 8 = .ok (.iload_n 2, 1) := by decide +kernel
theorem dX0_takeDraw_9 : decode cX0_takeDraw 9 = .ok (.invokestatic 76, 3) := by decide +kernel
theorem dX0_takeDraw_12 : decode cX0_takeDraw 12 = .ok (.ifCond .ne 5, 3) := by decide +kernel
theorem dX0_takeDraw_15 : decode cX0_takeDraw 15 = .ok (.iconst (-1), 1) := by decide +kernel
theorem dX0_takeDraw_16 : decode cX0_takeDraw 16 = .ok (.ireturn, 1) := by decide +kernel
theorem dX0_takeDraw_17 : decode cX0_takeDraw 17 = .ok (.aload_n 0, 1) := by decide +kernel
theorem dX0_takeDraw_18 : decode cX0_takeDraw 18 = .ok (.iload_n 1, 1) := by decide +kernel
theorem dX0_takeDraw_19 : decode cX0_takeDraw 19 = .ok (.iload_n 2, 1) := by decide +kernel
theorem dX0_takeDraw_20 : decode cX0_takeDraw 20 = .ok (.invokevirtual 79, 3) := by decide +kernel
theorem dX0_takeDraw_23 : decode cX0_takeDraw 23 = .ok (.iload_n 2, 1) := by decide +kernel
theorem dX0_takeDraw_24 : decode cX0_takeDraw 24 = .ok (.if_icmp .ne 11, 3) := by decide +kernel
theorem dX0_takeDraw_27 : decode cX0_takeDraw 27 = .ok (.aload_n 0, 1) := by decide +kernel
theorem dX0_takeDraw_28 : decode cX0_takeDraw 28 = .ok (.iload_n 1, 1) := by decide +kernel
theorem dX0_takeDraw_29 : decode cX0_takeDraw 29 = .ok (.invokevirtual 82, 3) := by decide +kernel
theorem dX0_takeDraw_32 : decode cX0_takeDraw 32 = .ok (.goto 5, 3) := by decide +kernel
theorem dX0_takeDraw_35 : decode cX0_takeDraw 35 = .ok (.bipush (-2), 2) := by decide +kernel
theorem dX0_takeDraw_37 : decode cX0_takeDraw 37 = .ok (.ireturn, 1) := by decide +kernel
set_option maxRecDepth 20000 in
theorem ggX0_takeRequest_X0_isWell : GoodIn wsX0_takeRequest wsX0_isWell := goodIn_r _ [8, 9, 31, 32, 33, 34, 35, 36, 37, 38, 39, 40] (by decide +kernel) (by decide +kernel)
set_option maxRecDepth 20000 in
theorem gX0_takeRequest_X0_isWell : GoodIn wsX0_takeRequest (wsV RX0 61 RX0 yX0_isWell wsX0_isWell) := goodIn_app (goodIn_of _ (by decide +kernel)) ggX0_takeRequest_X0_isWell
set_option maxRecDepth 20000 in
theorem ggX0_takeRequest_X3_areBuckets : GoodIn wsX0_takeRequest wsX3_areBuckets := goodIn_r _ [12] (by decide +kernel) (by decide +kernel)
set_option maxRecDepth 20000 in
theorem gX0_takeRequest_X3_areBuckets_n76 : GoodIn wsX0_takeRequest (wsX3_areBuckets) := ggX0_takeRequest_X3_areBuckets
set_option maxRecDepth 20000 in
theorem ggX0_takeRequest_X0_shareOut : GoodIn wsX0_takeRequest wsX0_shareOut := goodIn_r _ [16, 17, 18, 19, 20, 21, 22, 23, 24, 25, 26, 4, 5, 6, 7, 8, 9, 31, 32, 33, 34, 35, 36, 37, 38, 39, 40] (by decide +kernel) (by decide +kernel)
set_option maxRecDepth 20000 in
theorem gX0_takeRequest_X0_shareOut : GoodIn wsX0_takeRequest (wsV RX0 79 RX0 yX0_shareOut wsX0_shareOut) := goodIn_app (goodIn_of _ (by decide +kernel)) ggX0_takeRequest_X0_shareOut
set_option maxRecDepth 20000 in
theorem ggX0_takeRequest_X0_pourShares : GoodIn wsX0_takeRequest wsX0_pourShares := goodIn_r _ [30, 9, 17, 18, 31, 32, 33, 34, 35, 36, 37, 38, 39, 40] (by decide +kernel) (by decide +kernel)
set_option maxRecDepth 20000 in
theorem gX0_takeRequest_X0_pourShares : GoodIn wsX0_takeRequest (wsV RX0 82 RX0 yX0_pourShares wsX0_pourShares) := goodIn_app (goodIn_of _ (by decide +kernel)) ggX0_takeRequest_X0_pourShares
theorem dX0_takeRequest_0 : decode cX0_takeRequest 0 = .ok (.aload_n 0, 1) := by decide +kernel
theorem dX0_takeRequest_1 : decode cX0_takeRequest 1 = .ok (.iload_n 1, 1) := by decide +kernel
theorem dX0_takeRequest_2 : decode cX0_takeRequest 2 = .ok (.invokevirtual 61, 3) := by decide +kernel
theorem dX0_takeRequest_5 : decode cX0_takeRequest 5 = .ok (.ifCond .eq 10, 3) := by decide +kernel
theorem dX0_takeRequest_8 : decode cX0_takeRequest 8 = .ok (.iload_n 2, 1) := by decide +kernel
theorem dX0_takeRequest_9 : decode cX0_takeRequest 9 = .ok (.invokestatic 76, 3) := by decide +kernel
theorem dX0_takeRequest_12 : decode cX0_takeRequest 12 = .ok (.ifCond .ne 5, 3) := by decide +kernel
theorem dX0_takeRequest_15 : decode cX0_takeRequest 15 = .ok (.iconst (-1), 1) := by decide +kernel
theorem dX0_takeRequest_16 : decode cX0_takeRequest 16 = .ok (.ireturn, 1) := by decide +kernel
theorem dX0_takeRequest_17 : decode cX0_takeRequest 17 = .ok (.aload_n 0, 1) := by decide +kernel
theorem dX0_takeRequest_18 : decode cX0_takeRequest 18 = .ok (.getfield 40, 3) := by decide +kernel
theorem dX0_takeRequest_21 : decode cX0_takeRequest 21 = .ok (.ifCond .ne 21, 3) := by decide +kernel
theorem dX0_takeRequest_24 : decode cX0_takeRequest 24 = .ok (.aload_n 0, 1) := by decide +kernel
theorem dX0_takeRequest_25 : decode cX0_takeRequest 25 = .ok (.iload_n 1, 1) := by decide +kernel
theorem dX0_takeRequest_26 : decode cX0_takeRequest 26 = .ok (.iload_n 2, 1) := by decide +kernel
theorem dX0_takeRequest_27 : decode cX0_takeRequest 27 = .ok (.invokevirtual 79, 3) := by decide +kernel
theorem dX0_takeRequest_30 : decode cX0_takeRequest 30 = .ok (.iload_n 2, 1) := by decide +kernel
theorem dX0_takeRequest_31 : decode cX0_takeRequest 31 = .ok (.if_icmp .ne 11, 3) := by decide +kernel
theorem dX0_takeRequest_34 : decode cX0_takeRequest 34 = .ok (.aload_n 0, 1) := by decide +kernel
theorem dX0_takeRequest_35 : decode cX0_takeRequest 35 = .ok (.iload_n 1, 1) := by decide +kernel
theorem dX0_takeRequest_36 : decode cX0_takeRequest 36 = .ok (.invokevirtual 82, 3) := by decide +kernel
theorem dX0_takeRequest_39 : decode cX0_takeRequest 39 = .ok (.pop, 1) := by decide +kernel
theorem dX0_takeRequest_40 : decode cX0_takeRequest 40 = .ok (.iconst 0, 1) := by decide +kernel
theorem dX0_takeRequest_41 : decode cX0_takeRequest 41 = .ok (.ireturn, 1) := by decide +kernel
theorem dX0_takeRequest_42 : decode cX0_takeRequest 42 = .ok (.aload_n 0, 1) := by decide +kernel
theorem dX0_takeRequest_43 : decode cX0_takeRequest 43 = .ok (.getfield 40, 3) := by decide +kernel
theorem dX0_takeRequest_46 : decode cX0_takeRequest 46 = .ok (.bipush 8, 2) := by decide +kernel
theorem dX0_takeRequest_48 : decode cX0_takeRequest 48 = .ok (.if_icmp .lt 6, 3) := by decide +kernel
theorem dX0_takeRequest_51 : decode cX0_takeRequest 51 = .ok (.bipush (-3), 2) := by decide +kernel
theorem dX0_takeRequest_53 : decode cX0_takeRequest 53 = .ok (.ireturn, 1) := by decide +kernel
theorem dX0_takeRequest_54 : decode cX0_takeRequest 54 = .ok (.aload_n 0, 1) := by decide +kernel
theorem dX0_takeRequest_55 : decode cX0_takeRequest 55 = .ok (.getfield 19, 3) := by decide +kernel
theorem dX0_takeRequest_58 : decode cX0_takeRequest 58 = .ok (.iconst 0, 1) := by decide +kernel
theorem dX0_takeRequest_59 : decode cX0_takeRequest 59 = .ok (.aaload, 1) := by decide +kernel
theorem dX0_takeRequest_60 : decode cX0_takeRequest 60 = .ok (.aload_n 0, 1) := by decide +kernel
theorem dX0_takeRequest_61 : decode cX0_takeRequest 61 = .ok (.getfield 40, 3) := by decide +kernel
theorem dX0_takeRequest_64 : decode cX0_takeRequest 64 = .ok (.iload_n 1, 1) := by decide +kernel
theorem dX0_takeRequest_65 : decode cX0_takeRequest 65 = .ok (.iastore, 1) := by decide +kernel
theorem dX0_takeRequest_66 : decode cX0_takeRequest 66 = .ok (.aload_n 0, 1) := by decide +kernel
theorem dX0_takeRequest_67 : decode cX0_takeRequest 67 = .ok (.getfield 19, 3) := by decide +kernel
theorem dX0_takeRequest_70 : decode cX0_takeRequest 70 = .ok (.iconst 1, 1) := by decide +kernel
theorem dX0_takeRequest_71 : decode cX0_takeRequest 71 = .ok (.aaload, 1) := by decide +kernel
theorem dX0_takeRequest_72 : decode cX0_takeRequest 72 = .ok (.aload_n 0, 1) := by decide +kernel
theorem dX0_takeRequest_73 : decode cX0_takeRequest 73 = .ok (.getfield 40, 3) := by decide +kernel
theorem dX0_takeRequest_76 : decode cX0_takeRequest 76 = .ok (.iload_n 2, 1) := by decide +kernel
theorem dX0_takeRequest_77 : decode cX0_takeRequest 77 = .ok (.iastore, 1) := by decide +kernel
theorem dX0_takeRequest_78 : decode cX0_takeRequest 78 = .ok (.aload_n 0, 1) := by decide +kernel
theorem dX0_takeRequest_79 : decode cX0_takeRequest 79 = .ok (.getfield 19, 3) := by decide +kernel
theorem dX0_takeRequest_82 : decode cX0_takeRequest 82 = .ok (.iconst 2, 1) := by decide +kernel
theorem dX0_takeRequest_83 : decode cX0_takeRequest 83 = .ok (.aaload, 1) := by decide +kernel
theorem dX0_takeRequest_84 : decode cX0_takeRequest 84 = .ok (.aload_n 0, 1) := by decide +kernel
theorem dX0_takeRequest_85 : decode cX0_takeRequest 85 = .ok (.getfield 40, 3) := by decide +kernel
theorem dX0_takeRequest_88 : decode cX0_takeRequest 88 = .ok (.aload_n 0, 1) := by decide +kernel
theorem dX0_takeRequest_89 : decode cX0_takeRequest 89 = .ok (.getfield 43, 3) := by decide +kernel
theorem dX0_takeRequest_92 : decode cX0_takeRequest 92 = .ok (.iastore, 1) := by decide +kernel
theorem dX0_takeRequest_93 : decode cX0_takeRequest 93 = .ok (.aload_n 0, 1) := by decide +kernel
theorem dX0_takeRequest_94 : decode cX0_takeRequest 94 = .ok (.dup, 1) := by decide +kernel
theorem dX0_takeRequest_95 : decode cX0_takeRequest 95 = .ok (.getfield 40, 3) := by decide +kernel
theorem dX0_takeRequest_98 : decode cX0_takeRequest 98 = .ok (.iconst 1, 1) := by decide +kernel
theorem dX0_takeRequest_99 : decode cX0_takeRequest 99 = .ok (.iadd, 1) := by decide +kernel
theorem dX0_takeRequest_100 : decode cX0_takeRequest 100 = .ok (.putfield 40, 3) := by decide +kernel
theorem dX0_takeRequest_103 : decode cX0_takeRequest 103 = .ok (.aload_n 0, 1) := by decide +kernel
theorem dX0_takeRequest_104 : decode cX0_takeRequest 104 = .ok (.getfield 40, 3) := by decide +kernel
theorem dX0_takeRequest_107 : decode cX0_takeRequest 107 = .ok (.ireturn, 1) := by decide +kernel
set_option maxRecDepth 20000 in
theorem ggX0_dropRequest_X0_isPlace : GoodIn wsX0_dropRequest wsX0_isPlace := goodIn_r _ [7, 2, 12, 13, 14, 15, 16, 17, 18, 19, 20, 21] (by decide +kernel) (by decide +kernel)
set_option maxRecDepth 20000 in
theorem gX0_dropRequest_X0_isPlace : GoodIn wsX0_dropRequest (wsV RX0 85 RX0 yX0_isPlace wsX0_isPlace) := goodIn_app (goodIn_of _ (by decide +kernel)) ggX0_dropRequest_X0_isPlace
set_option maxRecDepth 20000 in
theorem ggX0_dropRequest_X0_moveRequest : GoodIn wsX0_dropRequest wsX0_moveRequest := goodIn_r _ [11, 1, 12, 13, 14, 15, 16, 17, 18, 19, 20, 21] (by decide +kernel) (by decide +kernel)
set_option maxRecDepth 20000 in
theorem gX0_dropRequest_X0_moveRequest : GoodIn wsX0_dropRequest (wsV RX0 88 RX0 yX0_moveRequest wsX0_moveRequest) := goodIn_app (goodIn_of _ (by decide +kernel)) ggX0_dropRequest_X0_moveRequest
theorem dX0_dropRequest_0 : decode cX0_dropRequest 0 = .ok (.aload_n 0, 1) := by decide +kernel
theorem dX0_dropRequest_1 : decode cX0_dropRequest 1 = .ok (.iload_n 1, 1) := by decide +kernel
theorem dX0_dropRequest_2 : decode cX0_dropRequest 2 = .ok (.invokevirtual 85, 3) := by decide +kernel
theorem dX0_dropRequest_5 : decode cX0_dropRequest 5 = .ok (.ifCond .ne 5, 3) := by decide +kernel
theorem dX0_dropRequest_8 : decode cX0_dropRequest 8 = .ok (.iconst (-1), 1) := by decide +kernel
theorem dX0_dropRequest_9 : decode cX0_dropRequest 9 = .ok (.ireturn, 1) := by decide +kernel
theorem dX0_dropRequest_10 : decode cX0_dropRequest 10 = .ok (.aload_n 0, 1) := by decide +kernel
theorem dX0_dropRequest_11 : decode cX0_dropRequest 11 = .ok (.getfield 19, 3) := by decide +kernel
theorem dX0_dropRequest_14 : decode cX0_dropRequest 14 = .ok (.iconst 1, 1) := by decide +kernel
theorem dX0_dropRequest_15 : decode cX0_dropRequest 15 = .ok (.aaload, 1) := by decide +kernel
theorem dX0_dropRequest_16 : decode cX0_dropRequest 16 = .ok (.iload_n 1, 1) := by decide +kernel
theorem dX0_dropRequest_17 : decode cX0_dropRequest 17 = .ok (.iconst 1, 1) := by decide +kernel
theorem dX0_dropRequest_18 : decode cX0_dropRequest 18 = .ok (.isub, 1) := by decide +kernel
theorem dX0_dropRequest_19 : decode cX0_dropRequest 19 = .ok (.iaload, 1) := by decide +kernel
theorem dX0_dropRequest_20 : decode cX0_dropRequest 20 = .ok (.istore_n 2, 1) := by decide +kernel
theorem dX0_dropRequest_21 : decode cX0_dropRequest 21 = .ok (.iload_n 1, 1) := by decide +kernel
theorem dX0_dropRequest_22 : decode cX0_dropRequest 22 = .ok (.istore_n 3, 1) := by decide +kernel
theorem dX0_dropRequest_23 : decode cX0_dropRequest 23 = .ok (.iload_n 3, 1) := by decide +kernel
theorem dX0_dropRequest_24 : decode cX0_dropRequest 24 = .ok (.aload_n 0, 1) := by decide +kernel
theorem dX0_dropRequest_25 : decode cX0_dropRequest 25 = .ok (.getfield 40, 3) := by decide +kernel
theorem dX0_dropRequest_28 : decode cX0_dropRequest 28 = .ok (.if_icmp .ge 17, 3) := by decide +kernel
theorem dX0_dropRequest_31 : decode cX0_dropRequest 31 = .ok (.aload_n 0, 1) := by decide +kernel
theorem dX0_dropRequest_32 : decode cX0_dropRequest 32 = .ok (.iload_n 3, 1) := by decide +kernel
theorem dX0_dropRequest_33 : decode cX0_dropRequest 33 = .ok (.iload_n 3, 1) := by decide +kernel
theorem dX0_dropRequest_34 : decode cX0_dropRequest 34 = .ok (.iconst 1, 1) := by decide +kernel
theorem dX0_dropRequest_35 : decode cX0_dropRequest 35 = .ok (.isub, 1) := by decide +kernel
theorem dX0_dropRequest_36 : decode cX0_dropRequest 36 = .ok (.invokevirtual 88, 3) := by decide +kernel
theorem dX0_dropRequest_39 : decode cX0_dropRequest 39 = .ok (.iinc 3 1, 3) := by decide +kernel
theorem dX0_dropRequest_42 : decode cX0_dropRequest 42 = .ok (.goto (-19), 3) := by decide +kernel
theorem dX0_dropRequest_45 : decode cX0_dropRequest 45 = .ok (.aload_n 0, 1) := by decide +kernel
theorem dX0_dropRequest_46 : decode cX0_dropRequest 46 = .ok (.dup, 1) := by decide +kernel
theorem dX0_dropRequest_47 : decode cX0_dropRequest 47 = .ok (.getfield 40, 3) := by decide +kernel
theorem dX0_dropRequest_50 : decode cX0_dropRequest 50 = .ok (.iconst 1, 1) := by decide +kernel
theorem dX0_dropRequest_51 : decode cX0_dropRequest 51 = .ok (.isub, 1) := by decide +kernel
theorem dX0_dropRequest_52 : decode cX0_dropRequest 52 = .ok (.putfield 40, 3) := by decide +kernel
theorem dX0_dropRequest_55 : decode cX0_dropRequest 55 = .ok (.iload_n 2, 1) := by decide +kernel
theorem dX0_dropRequest_56 : decode cX0_dropRequest 56 = .ok (.ireturn, 1) := by decide +kernel
theorem dX0_moveRequest_0 : decode cX0_moveRequest 0 = .ok (.iconst 0, 1) := by decide +kernel
theorem dX0_moveRequest_1 : decode cX0_moveRequest 1 = .ok (.istore_n 3, 1) := by decide +kernel
theorem dX0_moveRequest_2 : decode cX0_moveRequest 2 = .ok (.iload_n 3, 1) := by decide +kernel
theorem dX0_moveRequest_3 : decode cX0_moveRequest 3 = .ok (.iconst 3, 1) := by decide +kernel
theorem dX0_moveRequest_4 : decode cX0_moveRequest 4 = .ok (.if_icmp .ge 25, 3) := by decide +kernel
theorem dX0_moveRequest_7 : decode cX0_moveRequest 7 = .ok (.aload_n 0, 1) := by decide +kernel
theorem dX0_moveRequest_8 : decode cX0_moveRequest 8 = .ok (.getfield 19, 3) := by decide +kernel
theorem dX0_moveRequest_11 : decode cX0_moveRequest 11 = .ok (.iload_n 3, 1) := by decide +kernel
theorem dX0_moveRequest_12 : decode cX0_moveRequest 12 = .ok (.aaload, 1) := by decide +kernel
theorem dX0_moveRequest_13 : decode cX0_moveRequest 13 = .ok (.iload_n 2, 1) := by decide +kernel
theorem dX0_moveRequest_14 : decode cX0_moveRequest 14 = .ok (.aload_n 0, 1) := by decide +kernel
theorem dX0_moveRequest_15 : decode cX0_moveRequest 15 = .ok (.getfield 19, 3) := by decide +kernel
theorem dX0_moveRequest_18 : decode cX0_moveRequest 18 = .ok (.iload_n 3, 1) := by decide +kernel
theorem dX0_moveRequest_19 : decode cX0_moveRequest 19 = .ok (.aaload, 1) := by decide +kernel
theorem dX0_moveRequest_20 : decode cX0_moveRequest 20 = .ok (.iload_n 1, 1) := by decide +kernel
theorem dX0_moveRequest_21 : decode cX0_moveRequest 21 = .ok (.iaload, 1) := by decide +kernel
theorem dX0_moveRequest_22 : decode cX0_moveRequest 22 = .ok (.iastore, 1) := by decide +kernel
theorem dX0_moveRequest_23 : decode cX0_moveRequest 23 = .ok (.iinc 3 1, 3) := by decide +kernel
theorem dX0_moveRequest_26 : decode cX0_moveRequest 26 = .ok (.goto (-24), 3) := by decide +kernel
theorem dX0_moveRequest_29 : decode cX0_moveRequest 29 = .ok (.return_, 1) := by decide +kernel
theorem dX0_changeSetting_0 : decode cX0_changeSetting 0 = .ok (.iload_n 1, 1) := by decide +kernel
theorem dX0_changeSetting_1 : decode cX0_changeSetting 1 = .ok (.ifCond .ne 22, 3) := by decide +kernel
theorem dX0_changeSetting_4 : decode cX0_changeSetting 4 = .ok (.iload_n 2, 1) := by decide +kernel
theorem dX0_changeSetting_5 : decode cX0_changeSetting 5 = .ok (.iconst 4, 1) := by decide +kernel
theorem dX0_changeSetting_6 : decode cX0_changeSetting 6 = .ok (.if_icmp .lt 13, 3) := by decide +kernel
theorem dX0_changeSetting_9 : decode cX0_changeSetting 9 = .ok (.iload_n 2, 1) := by decide +kernel
theorem dX0_changeSetting_10 : decode cX0_changeSetting 10 = .ok (.bipush 100, 2) := by decide +kernel
theorem dX0_changeSetting_12 : decode cX0_changeSetting 12 = .ok (.if_icmp .gt 7, 3) := by decide +kernel
theorem dX0_changeSetting_15 : decode cX0_changeSetting 15 = .ok (.iconst 1, 1) := by decide +kernel
theorem dX0_changeSetting_16 : decode cX0_changeSetting 16 = .ok (.goto 26, 3) := by decide +kernel
theorem dX0_changeSetting_19 : decode cX0_changeSetting 19 = .ok (.iconst 0, 1) := by decide +kernel
theorem dX0_changeSetting_20 : decode cX0_changeSetting 20 = .ok (.goto 22, 3) := by decide +kernel
theorem dX0_changeSetting_23 : decode cX0_changeSetting 23 = .ok (.iload_n 1, 1) := by decide +kernel
theorem dX0_changeSetting_24 : decode cX0_changeSetting 24 = .ok (.iconst 1, 1) := by decide +kernel
theorem dX0_changeSetting_25 : decode cX0_changeSetting 25 = .ok (.if_icmp .ne 16, 3) := by decide +kernel
theorem dX0_changeSetting_28 : decode cX0_changeSetting 28 = .ok (.iload_n 2, 1) := by decide +kernel
theorem dX0_changeSetting_29 : decode cX0_changeSetting 29 = .ok (.ifCond .eq 8, 3) := by decide +kernel
theorem dX0_changeSetting_32 : decode cX0_changeSetting 32 = .ok (.iload_n 2, 1) := by decide +kernel
theorem dX0_changeSetting_33 : decode cX0_changeSetting 33 = .ok (.iconst 1, 1) := by decide +kernel
theorem dX0_changeSetting_34 : decode cX0_changeSetting 34 = .ok (.if_icmp .ne 7, 3) := by decide +kernel
theorem dX0_changeSetting_37 : decode cX0_changeSetting 37 = .ok (.iconst 1, 1) := by decide +kernel
theorem dX0_changeSetting_38 : decode cX0_changeSetting 38 = .ok (.goto 4, 3) := by decide +kernel
theorem dX0_changeSetting_41 : decode cX0_changeSetting 41 = .ok (.iconst 0, 1) := by decide +kernel
theorem dX0_changeSetting_42 : decode cX0_changeSetting 42 = .ok (.istore_n 3, 1) := by decide +kernel
theorem dX0_changeSetting_43 : decode cX0_changeSetting 43 = .ok (.iload_n 3, 1) := by decide +kernel
theorem dX0_changeSetting_44 : decode cX0_changeSetting 44 = .ok (.ifCond .ne 5, 3) := by decide +kernel
theorem dX0_changeSetting_47 : decode cX0_changeSetting 47 = .ok (.iconst (-1), 1) := by decide +kernel
theorem dX0_changeSetting_48 : decode cX0_changeSetting 48 = .ok (.ireturn, 1) := by decide +kernel
theorem dX0_changeSetting_49 : decode cX0_changeSetting 49 = .ok (.aload_n 0, 1) := by decide +kernel
theorem dX0_changeSetting_50 : decode cX0_changeSetting 50 = .ok (.getfield 22, 3) := by decide +kernel
theorem dX0_changeSetting_53 : decode cX0_changeSetting 53 = .ok (.iload_n 1, 1) := by decide +kernel
theorem dX0_changeSetting_54 : decode cX0_changeSetting 54 = .ok (.iaload, 1) := by decide +kernel
theorem dX0_changeSetting_55 : decode cX0_changeSetting 55 = .ok (.istore 4, 2) := by decide +kernel
theorem dX0_changeSetting_57 : decode cX0_changeSetting 57 = .ok (.aload_n 0, 1) := by decide +kernel
theorem dX0_changeSetting_58 : decode cX0_changeSetting 58 = .ok (.getfield 22, 3) := by decide +kernel
theorem dX0_changeSetting_61 : decode cX0_changeSetting 61 = .ok (.iload_n 1, 1) := by decide +kernel
theorem dX0_changeSetting_62 : decode cX0_changeSetting 62 = .ok (.iload_n 2, 1) := by decide +kernel
theorem dX0_changeSetting_63 : decode cX0_changeSetting 63 = .ok (.iastore, 1) := by decide +kernel
theorem dX0_changeSetting_64 : decode cX0_changeSetting 64 = .ok (.iload 4, 2) := by decide +kernel
theorem dX0_changeSetting_66 : decode cX0_changeSetting 66 = .ok (.ireturn, 1) := by decide +kernel
set_option maxRecDepth 20000 in
theorem ggX0_passTicks_X0_passTick : GoodIn wsX0_passTicks wsX0_passTick := goodIn_r _ [7, 1, 8, 9, 10, 11, 6, 12, 13, 14, 15, 16, 17, 18, 19, 20, 21, 22, 23, 24, 25, 26, 27, 28, 29, 30, 31, 32, 33, 34, 35, 36, 37, 38, 39, 40, 41, 42, 43, 44, 45, 46, 47, 48, 49, 50, 51, 52, 53, 54, 55, 56, 57, 58, 59, 60, 61, 62, 63, 64, 65, 66, 67, 68, 69, 70, 71, 72, 73, 74, 75, 76, 77, 78, 79, 80, 81, 82] (by decide +kernel) (by decide +kernel)
set_option maxRecDepth 20000 in
theorem gX0_passTicks_X0_passTick : GoodIn wsX0_passTicks (wsV RX0 93 RX0 yX0_passTick wsX0_passTick) := goodIn_app (goodIn_of _ (by decide +kernel)) ggX0_passTicks_X0_passTick
theorem dX0_passTicks_0 : decode cX0_passTicks 0 = .ok (.iload_n 1, 1) := by decide +kernel
theorem dX0_passTicks_1 : decode cX0_passTicks 1 = .ok (.iconst 1, 1) := by decide +kernel
theorem dX0_passTicks_2 : decode cX0_passTicks 2 = .ok (.if_icmp .lt 10, 3) := by decide +kernel
theorem dX0_passTicks_5 : decode cX0_passTicks 5 = .ok (.iload_n 1, 1) := by decide +kernel
theorem dX0_passTicks_6 : decode cX0_passTicks 6 = .ok (.sipush 200, 3) := by decide +kernel
theorem dX0_passTicks_9 : decode cX0_passTicks 9 = .ok (.if_icmp .le 5, 3) := by decide +kernel
theorem dX0_passTicks_12 : decode cX0_passTicks 12 = .ok (.iconst (-1), 1) := by decide +kernel
theorem dX0_passTicks_13 : decode cX0_passTicks 13 = .ok (.ireturn, 1) := by decide +kernel
theorem dX0_passTicks_14 : decode cX0_passTicks 14 = .ok (.aload_n 0, 1) := by decide +kernel
theorem dX0_passTicks_15 : decode cX0_passTicks 15 = .ok (.getfield 43, 3) := by decide +kernel
theorem dX0_passTicks_18 : decode cX0_passTicks 18 = .ok (.iload_n 1, 1) := by decide +kernel
theorem dX0_passTicks_19 : decode cX0_passTicks 19 = .ok (.iadd, 1) := by decide +kernel
theorem dX0_passTicks_20 : decode cX0_passTicks 20 = .ok (.ldc 92, 2) := by decide +kernel
theorem dX0_passTicks_22 : decode cX0_passTicks 22 = .ok (.if_icmp .le 6, 3) := by decide +kernel
theorem dX0_passTicks_25 : decode cX0_passTicks 25 = .ok (.bipush (-3), 2) := by decide +kernel
theorem dX0_passTicks_27 : decode cX0_passTicks 27 = .ok (.ireturn, 1) := by decide +kernel
theorem dX0_passTicks_28 : decode cX0_passTicks 28 = .ok (.iconst 0, 1) := by decide +kernel
theorem dX0_passTicks_29 : decode cX0_passTicks 29 = .ok (.istore_n 2, 1) := by decide +kernel
theorem dX0_passTicks_30 : decode cX0_passTicks 30 = .ok (.iconst 0, 1) := by decide +kernel
theorem dX0_passTicks_31 : decode cX0_passTicks 31 = .ok (.istore_n 3, 1) := by decide +kernel
theorem dX0_passTicks_32 : decode cX0_passTicks 32 = .ok (.iload_n 3, 1) := by decide +kernel
theorem dX0_passTicks_33 : decode cX0_passTicks 33 = .ok (.iload_n 1, 1) := by decide +kernel
theorem dX0_passTicks_34 : decode cX0_passTicks 34 = .ok (.if_icmp .ge 16, 3) := by decide +kernel
theorem dX0_passTicks_37 : decode cX0_passTicks 37 = .ok (.iload_n 2, 1) := by decide +kernel
theorem dX0_passTicks_38 : decode cX0_passTicks 38 = .ok (.aload_n 0, 1) := by decide +kernel
theorem dX0_passTicks_39 : decode cX0_passTicks 39 = .ok (.invokevirtual 93, 3) := by decide +kernel
theorem dX0_passTicks_42 : decode cX0_passTicks 42 = .ok (.iadd, 1) := by decide +kernel
theorem dX0_passTicks_43 : decode cX0_passTicks 43 = .ok (.istore_n 2, 1) := by decide +kernel
theorem dX0_passTicks_44 : decode cX0_passTicks 44 = .ok (.iinc 3 1, 3) := by decide +kernel
theorem dX0_passTicks_47 : decode cX0_passTicks 47 = .ok (.goto (-15), 3) := by decide +kernel
theorem dX0_passTicks_50 : decode cX0_passTicks 50 = .ok (.iload_n 2, 1) := by decide +kernel
theorem dX0_passTicks_51 : decode cX0_passTicks 51 = .ok (.ireturn, 1) := by decide +kernel
set_option maxRecDepth 20000 in
theorem ggX0_passTick_X0_flowIn : GoodIn wsX0_passTick wsX0_flowIn := goodIn_r _ [7, 1, 8, 9, 10, 11, 12, 13, 14, 15, 16, 6, 17, 18, 19, 20, 21, 22, 23, 68, 69, 70, 71, 72, 73, 74, 75, 76, 77] (by decide +kernel) (by decide +kernel)
set_option maxRecDepth 20000 in
theorem gX0_passTick_X0_flowIn : GoodIn wsX0_passTick (wsV RX0 97 RX0 yX0_flowIn wsX0_flowIn) := goodIn_app (goodIn_of _ (by decide +kernel)) ggX0_passTick_X0_flowIn
set_option maxRecDepth 20000 in
theorem ggX0_passTick_X0_timeOfDay : GoodIn wsX0_passTick wsX0_timeOfDay := goodIn_r _ [27, 2, 1, 68, 69, 70, 71, 72, 73, 74, 75, 76, 77] (by decide +kernel) (by decide +kernel)
set_option maxRecDepth 20000 in
theorem gX0_passTick_X0_timeOfDay : GoodIn wsX0_passTick (wsV RX0 100 RX0 yX0_timeOfDay wsX0_timeOfDay) := goodIn_app (goodIn_of _ (by decide +kernel)) ggX0_passTick_X0_timeOfDay
set_option maxRecDepth 20000 in
theorem ggX0_passTick_X0_lendAtNoon : GoodIn wsX0_passTick wsX0_lendAtNoon := goodIn_r _ [31, 8, 9, 10, 11, 12, 13, 32, 33, 34, 6, 35, 20, 21, 22, 23, 68, 69, 70, 71, 72, 73, 74, 75, 76, 77] (by decide +kernel) (by decide +kernel)
set_option maxRecDepth 20000 in
theorem gX0_passTick_X0_lendAtNoon : GoodIn wsX0_passTick (wsV RX0 103 RX0 yX0_lendAtNoon wsX0_lendAtNoon) := goodIn_app (goodIn_of _ (by decide +kernel)) ggX0_passTick_X0_lendAtNoon
set_option maxRecDepth 20000 in
theorem ggX0_passTick_X0_payBackInEvening : GoodIn wsX0_passTick wsX0_payBackInEvening := goodIn_r _ [39, 8, 9, 40, 41, 42, 6, 43, 10, 11, 12, 13, 20, 21, 22, 23, 68, 69, 70, 71, 72, 73, 74, 75, 76, 77] (by decide +kernel) (by decide +kernel)
set_option maxRecDepth 20000 in
theorem gX0_passTick_X0_payBackInEvening : GoodIn wsX0_passTick (wsV RX0 106 RX0 yX0_payBackInEvening wsX0_payBackInEvening) := goodIn_app (goodIn_of _ (by decide +kernel)) ggX0_passTick_X0_payBackInEvening
set_option maxRecDepth 20000 in
theorem ggX0_passTick_X0_serveWaiting : GoodIn wsX0_passTick wsX0_serveWaiting := goodIn_r _ [47, 48, 49, 2, 50, 51, 52, 53, 6, 54, 55, 9, 10, 11, 12, 13, 56, 57, 58, 59, 32, 33, 34, 35, 8, 60, 61, 62, 63, 64, 65, 66, 67, 68, 69, 70, 71, 72, 73, 74, 75, 76, 77] (by decide +kernel) (by decide +kernel)
set_option maxRecDepth 20000 in
theorem gX0_passTick_X0_serveWaiting : GoodIn wsX0_passTick (wsV RX0 109 RX0 yX0_serveWaiting wsX0_serveWaiting) := goodIn_app (goodIn_of _ (by decide +kernel)) ggX0_passTick_X0_serveWaiting
theorem dX0_passTick_0 : decode cX0_passTick 0 = .ok (.aload_n 0, 1) := by decide +kernel
theorem dX0_passTick_1 : decode cX0_passTick 1 = .ok (.dup, 1) := by decide +kernel
theorem dX0_passTick_2 : decode cX0_passTick 2 = .ok (.getfield 43, 3) := by decide +kernel
theorem dX0_passTick_5 : decode cX0_passTick 5 = .ok (.iconst 1, 1) := by decide +kernel
theorem dX0_passTick_6 : decode cX0_passTick 6 = .ok (.iadd, 1) := by decide +kernel
theorem dX0_passTick_7 : decode cX0_passTick 7 = .ok (.putfield 43, 3) := by decide +kernel
theorem dX0_passTick_10 : decode cX0_passTick 10 = .ok (.aload_n 0, 1) := by decide +kernel
theorem dX0_passTick_11 : decode cX0_passTick 11 = .ok (.invokevirtual 97, 3) := by decide +kernel
theorem dX0_passTick_14 : decode cX0_passTick 14 = .ok (.aload_n 0, 1) := by decide +kernel
theorem dX0_passTick_15 : decode cX0_passTick 15 = .ok (.invokevirtual 100, 3) := by decide +kernel
theorem dX0_passTick_18 : decode cX0_passTick 18 = .ok (.ifCond .ne 11, 3) := by decide +kernel
theorem dX0_passTick_21 : decode cX0_passTick 21 = .ok (.aload_n 0, 1) := by decide +kernel
theorem dX0_passTick_22 : decode cX0_passTick 22 = .ok (.invokevirtual 103, 3) := by decide +kernel
theorem dX0_passTick_25 : decode cX0_passTick 25 = .ok (.pop, 1) := by decide +kernel
theorem dX0_passTick_26 : decode cX0_passTick 26 = .ok (.goto 22, 3) := by decide +kernel
theorem dX0_passTick_29 : decode cX0_passTick 29 = .ok (.aload_n 0, 1) := by decide +kernel
theorem dX0_passTick_30 : decode cX0_passTick 30 = .ok (.invokevirtual 100, 3) := by decide +kernel
theorem dX0_passTick_33 : decode cX0_passTick 33 = .ok (.aload_n 0, 1) := by decide +kernel
theorem dX0_passTick_34 : decode cX0_passTick 34 = .ok (.getfield 22, 3) := by decide +kernel
theorem dX0_passTick_37 : decode cX0_passTick 37 = .ok (.iconst 0, 1) := by decide +kernel
theorem dX0_passTick_38 : decode cX0_passTick 38 = .ok (.iaload, 1) := by decide +kernel
theorem dX0_passTick_39 : decode cX0_passTick 39 = .ok (.iconst 2, 1) := by decide +kernel
theorem dX0_passTick_40 : decode cX0_passTick 40 = .ok (.idiv, 1) := by decide +kernel
theorem dX0_passTick_41 : decode cX0_passTick 41 = .ok (.if_icmp .ne 7, 3) := by decide +kernel
theorem dX0_passTick_44 : decode cX0_passTick 44 = .ok (.aload_n 0, 1) := by decide +kernel
theorem dX0_passTick_45 : decode cX0_passTick 45 = .ok (.invokevirtual 106, 3) := by decide +kernel
theorem dX0_passTick_48 : decode cX0_passTick 48 = .ok (.aload_n 0, 1) := by decide +kernel
theorem dX0_passTick_49 : decode cX0_passTick 49 = .ok (.invokevirtual 109, 3) := by decide +kernel
theorem dX0_passTick_52 : decode cX0_passTick 52 = .ok (.ireturn, 1) := by decide +kernel
set_option maxRecDepth 20000 in
theorem ggX0_flowIn_X0_dryWells : GoodIn wsX0_flowIn wsX0_dryWells := goodIn_r _ [12, 13, 14, 19, 20, 21, 22, 23, 24, 25, 26, 27, 28] (by decide +kernel) (by decide +kernel)
set_option maxRecDepth 20000 in
theorem gX0_flowIn_X0_dryWells : GoodIn wsX0_flowIn (wsV RX0 66 RX0 yX0_dryWells wsX0_dryWells) := goodIn_app (goodIn_of _ (by decide +kernel)) ggX0_flowIn_X0_dryWells
set_option maxRecDepth 20000 in
theorem ggX0_flowIn_X0_roomIn : GoodIn wsX0_flowIn wsX0_roomIn := goodIn_r _ [18, 3, 19, 20, 21, 22, 23, 24, 25, 26, 27, 28] (by decide +kernel) (by decide +kernel)
set_option maxRecDepth 20000 in
theorem gX0_flowIn_X0_roomIn : GoodIn wsX0_flowIn (wsV RX0 112 RX0 yX0_roomIn wsX0_roomIn) := goodIn_app (goodIn_of _ (by decide +kernel)) ggX0_flowIn_X0_roomIn
theorem dX0_flowIn_0 : decode cX0_flowIn 0 = .ok (.aload_n 0, 1) := by decide +kernel
theorem dX0_flowIn_1 : decode cX0_flowIn 1 = .ok (.aload_n 0, 1) := by decide +kernel
theorem dX0_flowIn_2 : decode cX0_flowIn 2 = .ok (.getfield 43, 3) := by decide +kernel
theorem dX0_flowIn_5 : decode cX0_flowIn 5 = .ok (.invokevirtual 66, 3) := by decide +kernel
theorem dX0_flowIn_8 : decode cX0_flowIn 8 = .ok (.istore_n 1, 1) := by decide +kernel
theorem dX0_flowIn_9 : decode cX0_flowIn 9 = .ok (.iconst 0, 1) := by decide +kernel
theorem dX0_flowIn_10 : decode cX0_flowIn 10 = .ok (.istore_n 2, 1) := by decide +kernel
theorem dX0_flowIn_11 : decode cX0_flowIn 11 = .ok (.iload_n 2, 1) := by decide +kernel
theorem dX0_flowIn_12 : decode cX0_flowIn 12 = .ok (.aload_n 0, 1) := by decide +kernel
theorem dX0_flowIn_13 : decode cX0_flowIn 13 = .ok (.getfield 33, 3) := by decide +kernel
theorem dX0_flowIn_16 : decode cX0_flowIn 16 = .ok (.if_icmp .ge 80, 3) := by decide +kernel
theorem dX0_flowIn_19 : decode cX0_flowIn 19 = .ok (.iload_n 1, 1) := by decide +kernel
theorem dX0_flowIn_20 : decode cX0_flowIn 20 = .ok (.iload_n 2, 1) := by decide +kernel
theorem dX0_flowIn_21 : decode cX0_flowIn 21 = .ok (.ishr, 1) := by decide +kernel
theorem dX0_flowIn_22 : decode cX0_flowIn 22 = .ok (.iconst 1, 1) := by decide +kernel
theorem dX0_flowIn_23 : decode cX0_flowIn 23 = .ok (.iand, 1) := by decide +kernel
theorem dX0_flowIn_24 : decode cX0_flowIn 24 = .ok (.ifCond .ne 66, 3) := by decide +kernel
theorem dX0_flowIn_27 : decode cX0_flowIn 27 = .ok (.aload_n 0, 1) := by decide +kernel
theorem dX0_flowIn_28 : decode cX0_flowIn 28 = .ok (.getfield 11, 3) := by decide +kernel
theorem dX0_flowIn_31 : decode cX0_flowIn 31 = .ok (.iconst 2, 1) := by decide +kernel
theorem dX0_flowIn_32 : decode cX0_flowIn 32 = .ok (.aaload, 1) := by decide +kernel
theorem dX0_flowIn_33 : decode cX0_flowIn 33 = .ok (.iload_n 2, 1) := by decide +kernel
theorem dX0_flowIn_34 : decode cX0_flowIn 34 = .ok (.iaload, 1) := by decide +kernel
theorem dX0_flowIn_35 : decode cX0_flowIn 35 = .ok (.istore_n 3, 1) := by decide +kernel
theorem dX0_flowIn_36 : decode cX0_flowIn 36 = .ok (.iload_n 3, 1) := by decide +kernel
theorem dX0_flowIn_37 : decode cX0_flowIn 37 = .ok (.aload_n 0, 1) := by decide +kernel
theorem dX0_flowIn_38 : decode cX0_flowIn 38 = .ok (.iload_n 2, 1) := by decide +kernel
theorem dX0_flowIn_39 : decode cX0_flowIn 39 = .ok (.invokevirtual 112, 3) := by decide +kernel
theorem dX0_flowIn_42 : decode cX0_flowIn 42 = .ok (.invokestatic 49, 3) := by decide +kernel
theorem dX0_flowIn_45 : decode cX0_flowIn 45 = .ok (.istore 4, 2) := by decide +kernel
theorem dX0_flowIn_47 : decode cX0_flowIn 47 = .ok (.aload_n 0, 1) := by decide +kernel
theorem dX0_flowIn_48 : decode cX0_flowIn 48 = .ok (.getfield 11, 3) := by decide +kernel
theorem dX0_flowIn_51 : decode cX0_flowIn 51 = .ok (.iconst 4, 1) := by decide +kernel
theorem dX0_flowIn_52 : decode cX0_flowIn 52 = .ok (.aaload, 1) := by decide +kernel
theorem dX0_flowIn_53 : decode cX0_flowIn 53 = .ok (.iload_n 2, 1) := by decide +kernel
theorem dX0_flowIn_54 : decode cX0_flowIn 54 = .ok (.dup2, 1) := by decide +kernel
theorem dX0_flowIn_55 : decode cX0_flowIn 55 = .ok (.iaload, 1) := by decide +kernel
theorem dX0_flowIn_56 : decode cX0_flowIn 56 = .ok (.iload 4, 2) := by decide +kernel
theorem dX0_flowIn_58 : decode cX0_flowIn 58 = .ok (.iadd, 1) := by decide +kernel
theorem dX0_flowIn_59 : decode cX0_flowIn 59 = .ok (.iastore, 1) := by decide +kernel
theorem dX0_flowIn_60 : decode cX0_flowIn 60 = .ok (.aload_n 0, 1) := by decide +kernel
theorem dX0_flowIn_61 : decode cX0_flowIn 61 = .ok (.getfield 11, 3) := by decide +kernel
theorem dX0_flowIn_64 : decode cX0_flowIn 64 = .ok (.bipush 6, 2) := by decide +kernel
theorem dX0_flowIn_66 : decode cX0_flowIn 66 = .ok (.aaload, 1) := by decide +kernel
theorem dX0_flowIn_67 : decode cX0_flowIn 67 = .ok (.iload_n 2, 1) := by decide +kernel
theorem dX0_flowIn_68 : decode cX0_flowIn 68 = .ok (.dup2, 1) := by decide +kernel
theorem dX0_flowIn_69 : decode cX0_flowIn 69 = .ok (.iaload, 1) := by decide +kernel
theorem dX0_flowIn_70 : decode cX0_flowIn 70 = .ok (.iload 4, 2) := by decide +kernel
theorem dX0_flowIn_72 : decode cX0_flowIn 72 = .ok (.iadd, 1) := by decide +kernel
theorem dX0_flowIn_73 : decode cX0_flowIn 73 = .ok (.iastore, 1) := by decide +kernel
theorem dX0_flowIn_74 : decode cX0_flowIn 74 = .ok (.aload_n 0, 1) := by decide +kernel
theorem dX0_flowIn_75 : decode cX0_flowIn 75 = .ok (.getfield 11, 3) := by decide +kernel
theorem dX0_flowIn_78 : decode cX0_flowIn 78 = .ok (.bipush 7, 2) := by decide +kernel
theorem dX0_flowIn_80 : decode cX0_flowIn 80 = .ok (.aaload, 1) := by decide +kernel
theorem dX0_flowIn_81 : decode cX0_flowIn 81 = .ok (.iload_n 2, 1) := by decide +kernel
theorem dX0_flowIn_82 : decode cX0_flowIn 82 = .ok (.dup2, 1) := by decide +kernel
theorem dX0_flowIn_83 : decode cX0_flowIn 83 = .ok (.iaload, 1) := by decide +kernel
theorem dX0_flowIn_84 : decode cX0_flowIn 84 = .ok (.iload_n 3, 1) := by decide +kernel
theorem dX0_flowIn_85 : decode cX0_flowIn 85 = .ok (.iload 4, 2) := by decide +kernel
theorem dX0_flowIn_87 : decode cX0_flowIn 87 = .ok (.isub, 1) := by decide +kernel
theorem dX0_flowIn_88 : decode cX0_flowIn 88 = .ok (.iadd, 1) := by decide +kernel
theorem dX0_flowIn_89 : decode cX0_flowIn 89 = .ok (.iastore, 1) := by decide +kernel
theorem dX0_flowIn_90 : decode cX0_flowIn 90 = .ok (.iinc 2 1, 3) := by decide +kernel
theorem dX0_flowIn_93 : decode cX0_flowIn 93 = .ok (.goto (-82), 3) := by decide +kernel
theorem dX0_flowIn_96 : decode cX0_flowIn 96 = .ok (.return_, 1) := by decide +kernel
theorem dX0_roomIn_0 : decode cX0_roomIn 0 = .ok (.aload_n 0, 1) := by decide +kernel
theorem dX0_roomIn_1 : decode cX0_roomIn 1 = .ok (.getfield 11, 3) := by decide +kernel
theorem dX0_roomIn_4 : decode cX0_roomIn 4 = .ok (.iconst 1, 1) := by decide +kernel
theorem dX0_roomIn_5 : decode cX0_roomIn 5 = .ok (.aaload, 1) := by decide +kernel
theorem dX0_roomIn_6 : decode cX0_roomIn 6 = .ok (.iload_n 1, 1) := by decide +kernel
theorem dX0_roomIn_7 : decode cX0_roomIn 7 = .ok (.iaload, 1) := by decide +kernel
theorem dX0_roomIn_8 : decode cX0_roomIn 8 = .ok (.aload_n 0, 1) := by decide +kernel
theorem dX0_roomIn_9 : decode cX0_roomIn 9 = .ok (.getfield 11, 3) := by decide +kernel
theorem dX0_roomIn_12 : decode cX0_roomIn 12 = .ok (.iconst 4, 1) := by decide +kernel
theorem dX0_roomIn_13 : decode cX0_roomIn 13 = .ok (.aaload, 1) := by decide +kernel
theorem dX0_roomIn_14 : decode cX0_roomIn 14 = .ok (.iload_n 1, 1) := by decide +kernel
theorem dX0_roomIn_15 : decode cX0_roomIn 15 = .ok (.iaload, 1) := by decide +kernel
theorem dX0_roomIn_16 : decode cX0_roomIn 16 = .ok (.isub, 1) := by decide +kernel
theorem dX0_roomIn_17 : decode cX0_roomIn 17 = .ok (.ireturn, 1) := by decide +kernel
set_option maxRecDepth 20000 in
theorem ggX0_lendAtNoon_X0_isWell : GoodIn wsX0_lendAtNoon wsX0_isWell := goodIn_r _ [11, 1, 16, 17, 18, 19, 20, 21, 22, 23, 24, 25] (by decide +kernel) (by decide +kernel)
set_option maxRecDepth 20000 in
theorem gX0_lendAtNoon_X0_isWell : GoodIn wsX0_lendAtNoon (wsV RX0 61 RX0 yX0_isWell wsX0_isWell) := goodIn_app (goodIn_of _ (by decide +kernel)) ggX0_lendAtNoon_X0_isWell
set_option maxRecDepth 20000 in
theorem ggX0_lendAtNoon_X0_roomIn : GoodIn wsX0_lendAtNoon wsX0_roomIn := goodIn_r _ [15, 2, 16, 17, 18, 19, 20, 21, 22, 23, 24, 25] (by decide +kernel) (by decide +kernel)
set_option maxRecDepth 20000 in
theorem gX0_lendAtNoon_X0_roomIn : GoodIn wsX0_lendAtNoon (wsV RX0 112 RX0 yX0_roomIn wsX0_roomIn) := goodIn_app (goodIn_of _ (by decide +kernel)) ggX0_lendAtNoon_X0_roomIn
theorem dX0_lendAtNoon_0 : decode cX0_lendAtNoon 0 = .ok (.iconst 0, 1) := by decide +kernel
theorem dX0_lendAtNoon_1 : decode cX0_lendAtNoon 1 = .ok (.istore_n 1, 1) := by decide +kernel
theorem dX0_lendAtNoon_2 : decode cX0_lendAtNoon 2 = .ok (.aload_n 0, 1) := by decide +kernel
theorem dX0_lendAtNoon_3 : decode cX0_lendAtNoon 3 = .ok (.getfield 33, 3) := by decide +kernel
theorem dX0_lendAtNoon_6 : decode cX0_lendAtNoon 6 = .ok (.iconst 1, 1) := by decide +kernel
theorem dX0_lendAtNoon_7 : decode cX0_lendAtNoon 7 = .ok (.isub, 1) := by decide +kernel
theorem dX0_lendAtNoon_8 : decode cX0_lendAtNoon 8 = .ok (.istore_n 2, 1) := by decide +kernel
theorem dX0_lendAtNoon_9 : decode cX0_lendAtNoon 9 = .ok (.iload_n 2, 1) := by decide +kernel
theorem dX0_lendAtNoon_10 : decode cX0_lendAtNoon 10 = .ok (.ifCond .le 127, 3) := by decide +kernel
theorem dX0_lendAtNoon_13 : decode cX0_lendAtNoon 13 = .ok (.aload_n 0, 1) := by decide +kernel
theorem dX0_lendAtNoon_14 : decode cX0_lendAtNoon 14 = .ok (.getfield 11, 3) := by decide +kernel
theorem dX0_lendAtNoon_17 : decode cX0_lendAtNoon 17 = .ok (.iconst 0, 1) := by decide +kernel
theorem dX0_lendAtNoon_18 : decode cX0_lendAtNoon 18 = .ok (.aaload, 1) := by decide +kernel
theorem dX0_lendAtNoon_19 : decode cX0_lendAtNoon 19 = .ok (.iload_n 2, 1) := by decide +kernel
theorem dX0_lendAtNoon_20 : decode cX0_lendAtNoon 20 = .ok (.iaload, 1) := by decide +kernel
theorem dX0_lendAtNoon_21 : decode cX0_lendAtNoon 21 = .ok (.istore_n 3, 1) := by decide +kernel
theorem dX0_lendAtNoon_22 : decode cX0_lendAtNoon 22 = .ok (.aload_n 0, 1) := by decide +kernel
theorem dX0_lendAtNoon_23 : decode cX0_lendAtNoon 23 = .ok (.getfield 11, 3) := by decide +kernel
theorem dX0_lendAtNoon_26 : decode cX0_lendAtNoon 26 = .ok (.iconst 4, 1) := by decide +kernel
theorem dX0_lendAtNoon_27 : decode cX0_lendAtNoon 27 = .ok (.aaload, 1) := by decide +kernel
theorem dX0_lendAtNoon_28 : decode cX0_lendAtNoon 28 = .ok (.iload_n 2, 1) := by decide +kernel
theorem dX0_lendAtNoon_29 : decode cX0_lendAtNoon 29 = .ok (.iaload, 1) := by decide +kernel
theorem dX0_lendAtNoon_30 : decode cX0_lendAtNoon 30 = .ok (.aload_n 0, 1) := by decide +kernel
theorem dX0_lendAtNoon_31 : decode cX0_lendAtNoon 31 = .ok (.getfield 11, 3) := by decide +kernel
theorem dX0_lendAtNoon_34 : decode cX0_lendAtNoon 34 = .ok (.iconst 1, 1) := by decide +kernel
theorem dX0_lendAtNoon_35 : decode cX0_lendAtNoon 35 = .ok (.aaload, 1) := by decide +kernel
theorem dX0_lendAtNoon_36 : decode cX0_lendAtNoon 36 = .ok (.iload_n 2, 1) := by decide +kernel
theorem dX0_lendAtNoon_37 : decode cX0_lendAtNoon 37 = .ok (.iaload, 1) := by decide +kernel
theorem dX0_lendAtNoon_38 : decode cX0_lendAtNoon 38 = .ok (.iconst 2, 1) := by decide +kernel
theorem dX0_lendAtNoon_39 : decode cX0_lendAtNoon 39 = .ok (.idiv, 1) := by decide +kernel
theorem dX0_lendAtNoon_40 : decode cX0_lendAtNoon 40 = .ok (.isub, 1) := by decide +kernel
theorem dX0_lendAtNoon_41 : decode cX0_lendAtNoon 41 = .ok (.istore 4, 2) := by decide +kernel
theorem dX0_lendAtNoon_43 : decode cX0_lendAtNoon 43 = .ok (.aload_n 0, 1) := by decide +kernel
theorem dX0_lendAtNoon_44 : decode cX0_lendAtNoon 44 = .ok (.iload_n 3, 1) := by decide +kernel
theorem dX0_lendAtNoon_45 : decode cX0_lendAtNoon 45 = .ok (.invokevirtual 61, 3) := by decide +kernel
theorem dX0_lendAtNoon_48 : decode cX0_lendAtNoon 48 = .ok (.ifCond .eq 16, 3) := by decide +kernel
theorem dX0_lendAtNoon_51 : decode cX0_lendAtNoon 51 = .ok (.iload 4, 2) := by decide +kernel
theorem dX0_lendAtNoon_53 : decode cX0_lendAtNoon 53 = .ok (.aload_n 0, 1) := by decide +kernel
theorem dX0_lendAtNoon_54 : decode cX0_lendAtNoon 54 = .ok (.iload_n 3, 1) := by decide +kernel
theorem dX0_lendAtNoon_55 : decode cX0_lendAtNoon 55 = .ok (.invokevirtual 112, 3) := by decide +kernel
theorem dX0_lendAtNoon_58 : decode cX0_lendAtNoon 58 = .ok (.invokestatic 49, 3) := by decide +kernel
theorem dX0_lendAtNoon_61 : decode cX0_lendAtNoon 61 = .ok (.goto 4, 3) := by decide +kernel
theorem dX0_lendAtNoon_64 : decode cX0_lendAtNoon 64 = .ok (.iconst 0, 1) := by decide +kernel
theorem dX0_lendAtNoon_65 : decode cX0_lendAtNoon 65 = .ok (.istore 5, 2) := by decide +kernel
theorem dX0_lendAtNoon_67 : decode cX0_lendAtNoon 67 = .ok (.iload 5, 2) := by decide +kernel
theorem dX0_lendAtNoon_69 : decode cX0_lendAtNoon 69 = .ok (.ifCond .le 62, 3) := by decide +kernel
theorem dX0_lendAtNoon_72 : decode cX0_lendAtNoon 72 = .ok (.aload_n 0, 1) := by decide +kernel
theorem dX0_lendAtNoon_73 : decode cX0_lendAtNoon 73 = .ok (.getfield 11, 3) := by decide +kernel
theorem dX0_lendAtNoon_76 : decode cX0_lendAtNoon 76 = .ok (.iconst 4, 1) := by decide +kernel
theorem dX0_lendAtNoon_77 : decode cX0_lendAtNoon 77 = .ok (.aaload, 1) := by decide +kernel
theorem dX0_lendAtNoon_78 : decode cX0_lendAtNoon 78 = .ok (.iload_n 2, 1) := by decide +kernel
theorem dX0_lendAtNoon_79 : decode cX0_lendAtNoon 79 = .ok (.dup2, 1) := by decide +kernel
theorem dX0_lendAtNoon_80 : decode cX0_lendAtNoon 80 = .ok (.iaload, 1) := by decide +kernel
theorem dX0_lendAtNoon_81 : decode cX0_lendAtNoon 81 = .ok (.iload 5, 2) := by decide +kernel
theorem dX0_lendAtNoon_83 : decode cX0_lendAtNoon 83 = .ok (.isub, 1) := by decide +kernel
theorem dX0_lendAtNoon_84 : decode cX0_lendAtNoon 84 = .ok (.iastore, 1) := by decide +kernel
theorem dX0_lendAtNoon_85 : decode cX0_lendAtNoon 85 = .ok (.aload_n 0, 1) := by decide +kernel
theorem dX0_lendAtNoon_86 : decode cX0_lendAtNoon 86 = .ok (.getfield 11, 3) := by decide +kernel
theorem dX0_lendAtNoon_89 : decode cX0_lendAtNoon 89 = .ok (.iconst 4, 1) := by decide +kernel
theorem dX0_lendAtNoon_90 : decode cX0_lendAtNoon 90 = .ok (.aaload, 1) := by decide +kernel
theorem dX0_lendAtNoon_91 : decode cX0_lendAtNoon 91 = .ok (.iload_n 3, 1) := by decide +kernel
theorem dX0_lendAtNoon_92 : decode cX0_lendAtNoon 92 = .ok (.dup2, 1) := by decide +kernel
theorem dX0_lendAtNoon_93 : decode cX0_lendAtNoon 93 = .ok (.iaload, 1) := by decide +kernel
theorem dX0_lendAtNoon_94 : decode cX0_lendAtNoon 94 = .ok (.iload 5, 2) := by decide +kernel
theorem dX0_lendAtNoon_96 : decode cX0_lendAtNoon 96 = .ok (.iadd, 1) := by decide +kernel
theorem dX0_lendAtNoon_97 : decode cX0_lendAtNoon 97 = .ok (.iastore, 1) := by decide +kernel
theorem dX0_lendAtNoon_98 : decode cX0_lendAtNoon 98 = .ok (.aload_n 0, 1) := by decide +kernel
theorem dX0_lendAtNoon_99 : decode cX0_lendAtNoon 99 = .ok (.getfield 11, 3) := by decide +kernel
theorem dX0_lendAtNoon_102 : decode cX0_lendAtNoon 102 = .ok (.iconst 5, 1) := by decide +kernel
theorem dX0_lendAtNoon_103 : decode cX0_lendAtNoon 103 = .ok (.aaload, 1) := by decide +kernel
theorem dX0_lendAtNoon_104 : decode cX0_lendAtNoon 104 = .ok (.iload_n 2, 1) := by decide +kernel
theorem dX0_lendAtNoon_105 : decode cX0_lendAtNoon 105 = .ok (.dup2, 1) := by decide +kernel
theorem dX0_lendAtNoon_106 : decode cX0_lendAtNoon 106 = .ok (.iaload, 1) := by decide +kernel
theorem dX0_lendAtNoon_107 : decode cX0_lendAtNoon 107 = .ok (.iload 5, 2) := by decide +kernel
theorem dX0_lendAtNoon_109 : decode cX0_lendAtNoon 109 = .ok (.iadd, 1) := by decide +kernel
theorem dX0_lendAtNoon_110 : decode cX0_lendAtNoon 110 = .ok (.iastore, 1) := by decide +kernel
theorem dX0_lendAtNoon_111 : decode cX0_lendAtNoon 111 = .ok (.aload_n 0, 1) := by decide +kernel
theorem dX0_lendAtNoon_112 : decode cX0_lendAtNoon 112 = .ok (.getfield 11, 3) := by decide +kernel
theorem dX0_lendAtNoon_115 : decode cX0_lendAtNoon 115 = .ok (.bipush 10, 2) := by decide +kernel
theorem dX0_lendAtNoon_117 : decode cX0_lendAtNoon 117 = .ok (.aaload, 1) := by decide +kernel
theorem dX0_lendAtNoon_118 : decode cX0_lendAtNoon 118 = .ok (.iload_n 3, 1) := by decide +kernel
theorem dX0_lendAtNoon_119 : decode cX0_lendAtNoon 119 = .ok (.dup2, 1) := by decide +kernel
theorem dX0_lendAtNoon_120 : decode cX0_lendAtNoon 120 = .ok (.iaload, 1) := by decide +kernel
theorem dX0_lendAtNoon_121 : decode cX0_lendAtNoon 121 = .ok (.iload 5, 2) := by decide +kernel
theorem dX0_lendAtNoon_123 : decode cX0_lendAtNoon 123 = .ok (.iadd, 1) := by decide +kernel
theorem dX0_lendAtNoon_124 : decode cX0_lendAtNoon 124 = .ok (.iastore, 1) := by decide +kernel
theorem dX0_lendAtNoon_125 : decode cX0_lendAtNoon 125 = .ok (.iload_n 1, 1) := by decide +kernel
theorem dX0_lendAtNoon_126 : decode cX0_lendAtNoon 126 = .ok (.iconst 1, 1) := by decide +kernel
theorem dX0_lendAtNoon_127 : decode cX0_lendAtNoon 127 = .ok (.iload_n 2, 1) := by decide +kernel
theorem dX0_lendAtNoon_128 : decode cX0_lendAtNoon 128 = .ok (.ishl, 1) := by decide +kernel
theorem dX0_lendAtNoon_129 : decode cX0_lendAtNoon 129 = .ok (.ior, 1) := by decide +kernel
theorem dX0_lendAtNoon_130 : decode cX0_lendAtNoon 130 = .ok (.istore_n 1, 1) := by decide +kernel
theorem dX0_lendAtNoon_131 : decode cX0_lendAtNoon 131 = .ok (.iinc 2 (-1), 3) := by decide +kernel
theorem dX0_lendAtNoon_134 : decode cX0_lendAtNoon 134 = .ok (.goto (-125), 3) := by decide +kernel
theorem dX0_lendAtNoon_137 : decode cX0_lendAtNoon 137 = .ok (.iload_n 1, 1) := by decide +kernel
theorem dX0_lendAtNoon_138 : decode cX0_lendAtNoon 138 = .ok (.ireturn, 1) := by decide +kernel
set_option maxRecDepth 20000 in
theorem ggX0_payBackInEvening_X0_payBack : GoodIn wsX0_payBackInEvening wsX0_payBack := goodIn_r _ [7, 2, 8, 9, 10, 11, 12, 13, 14, 6, 15, 16, 17, 18, 19, 20, 21, 22, 23, 24, 25] (by decide +kernel) (by decide +kernel)
set_option maxRecDepth 20000 in
theorem gX0_payBackInEvening_X0_payBack : GoodIn wsX0_payBackInEvening (wsV RX0 115 RX0 yX0_payBack wsX0_payBack) := goodIn_app (goodIn_of _ (by decide +kernel)) ggX0_payBackInEvening_X0_payBack
theorem dX0_payBackInEvening_0 : decode cX0_payBackInEvening 0 = .ok (.iconst 0, 1) := by decide +kernel
theorem dX0_payBackInEvening_1 : decode cX0_payBackInEvening 1 = .ok (.istore_n 1, 1) := by decide +kernel
theorem dX0_payBackInEvening_2 : decode cX0_payBackInEvening 2 = .ok (.iload_n 1, 1) := by decide +kernel
theorem dX0_payBackInEvening_3 : decode cX0_payBackInEvening 3 = .ok (.aload_n 0, 1) := by decide +kernel
theorem dX0_payBackInEvening_4 : decode cX0_payBackInEvening 4 = .ok (.getfield 33, 3) := by decide +kernel
theorem dX0_payBackInEvening_7 : decode cX0_payBackInEvening 7 = .ok (.if_icmp .ge 45, 3) := by decide +kernel
theorem dX0_payBackInEvening_10 : decode cX0_payBackInEvening 10 = .ok (.iload_n 1, 1) := by decide +kernel
theorem dX0_payBackInEvening_11 : decode cX0_payBackInEvening 11 = .ok (.iconst 1, 1) := by decide +kernel
theorem dX0_payBackInEvening_12 : decode cX0_payBackInEvening 12 = .ok (.iadd, 1) := by decide +kernel
theorem dX0_payBackInEvening_13 : decode cX0_payBackInEvening 13 = .ok (.istore_n 2, 1) := by decide +kernel
theorem dX0_payBackInEvening_14 : decode cX0_payBackInEvening 14 = .ok (.iload_n 2, 1) := by decide +kernel
theorem dX0_payBackInEvening_15 : decode cX0_payBackInEvening 15 = .ok (.aload_n 0, 1) := by decide +kernel
theorem dX0_payBackInEvening_16 : decode cX0_payBackInEvening 16 = .ok (.getfield 33, 3) := by decide +kernel
theorem dX0_payBackInEvening_19 : decode cX0_payBackInEvening 19 = .ok (.if_icmp .ge 27, 3) := by decide +kernel
theorem dX0_payBackInEvening_22 : decode cX0_payBackInEvening 22 = .ok (.aload_n 0, 1) := by decide +kernel
theorem dX0_payBackInEvening_23 : decode cX0_payBackInEvening 23 = .ok (.getfield 11, 3) := by decide +kernel
theorem dX0_payBackInEvening_26 : decode cX0_payBackInEvening 26 = .ok (.iconst 0, 1) := by decide +kernel
theorem dX0_payBackInEvening_27 : decode cX0_payBackInEvening 27 = .ok (.aaload, 1) := by decide +kernel
theorem dX0_payBackInEvening_28 : decode cX0_payBackInEvening 28 = .ok (.iload_n 2, 1) := by decide +kernel
theorem dX0_payBackInEvening_29 : decode cX0_payBackInEvening 29 = .ok (.iaload, 1) := by decide +kernel
theorem dX0_payBackInEvening_30 : decode cX0_payBackInEvening 30 = .ok (.iload_n 1, 1) := by decide +kernel
theorem dX0_payBackInEvening_31 : decode cX0_payBackInEvening 31 = .ok (.if_icmp .ne 9, 3) := by decide +kernel
theorem dX0_payBackInEvening_34 : decode cX0_payBackInEvening 34 = .ok (.aload_n 0, 1) := by decide +kernel
theorem dX0_payBackInEvening_35 : decode cX0_payBackInEvening 35 = .ok (.iload_n 1, 1) := by decide +kernel
theorem dX0_payBackInEvening_36 : decode cX0_payBackInEvening 36 = .ok (.iload_n 2, 1) := by decide +kernel
theorem dX0_payBackInEvening_37 : decode cX0_payBackInEvening 37 = .ok (.invokevirtual 115, 3) := by decide +kernel
theorem dX0_payBackInEvening_40 : decode cX0_payBackInEvening 40 = .ok (.iinc 2 1, 3) := by decide +kernel
theorem dX0_payBackInEvening_43 : decode cX0_payBackInEvening 43 = .ok (.goto (-29), 3) := by decide +kernel
theorem dX0_payBackInEvening_46 : decode cX0_payBackInEvening 46 = .ok (.iinc 1 1, 3) := by decide +kernel
theorem dX0_payBackInEvening_49 : decode cX0_payBackInEvening 49 = .ok (.goto (-47), 3) := by decide +kernel
theorem dX0_payBackInEvening_52 : decode cX0_payBackInEvening 52 = .ok (.return_, 1) := by decide +kernel
set_option maxRecDepth 20000 in
theorem ggX0_payBack_X0_roomIn : GoodIn wsX0_payBack wsX0_roomIn := goodIn_r _ [10, 1, 11, 12, 13, 14, 15, 16, 17, 18, 19, 20] (by decide +kernel) (by decide +kernel)
set_option maxRecDepth 20000 in
theorem gX0_payBack_X0_roomIn : GoodIn wsX0_payBack (wsV RX0 112 RX0 yX0_roomIn wsX0_roomIn) := goodIn_app (goodIn_of _ (by decide +kernel)) ggX0_payBack_X0_roomIn
theorem dX0_payBack_0 : decode cX0_payBack 0 = .ok (.aload_n 0, 1) := by decide +kernel
theorem dX0_payBack_1 : decode cX0_payBack 1 = .ok (.getfield 11, 3) := by decide +kernel
theorem dX0_payBack_4 : decode cX0_payBack 4 = .ok (.iconst 5, 1) := by decide +kernel
theorem dX0_payBack_5 : decode cX0_payBack 5 = .ok (.aaload, 1) := by decide +kernel
theorem dX0_payBack_6 : decode cX0_payBack 6 = .ok (.iload_n 2, 1) := by decide +kernel
theorem dX0_payBack_7 : decode cX0_payBack 7 = .ok (.iaload, 1) := by decide +kernel
theorem dX0_payBack_8 : decode cX0_payBack 8 = .ok (.aload_n 0, 1) := by decide +kernel
theorem dX0_payBack_9 : decode cX0_payBack 9 = .ok (.getfield 11, 3) := by decide +kernel
theorem dX0_payBack_12 : decode cX0_payBack 12 = .ok (.iconst 4, 1) := by decide +kernel
theorem dX0_payBack_13 : decode cX0_payBack 13 = .ok (.aaload, 1) := by decide +kernel
theorem dX0_payBack_14 : decode cX0_payBack 14 = .ok (.iload_n 1, 1) := by decide +kernel
theorem dX0_payBack_15 : decode cX0_payBack 15 = .ok (.iaload, 1) := by decide +kernel
theorem dX0_payBack_16 : decode cX0_payBack 16 = .ok (.aload_n 0, 1) := by decide +kernel
theorem dX0_payBack_17 : decode cX0_payBack 17 = .ok (.iload_n 2, 1) := by decide +kernel
theorem dX0_payBack_18 : decode cX0_payBack 18 = .ok (.invokevirtual 112, 3) := by decide +kernel
theorem dX0_payBack_21 : decode cX0_payBack 21 = .ok (.invokestatic 49, 3) := by decide +kernel
theorem dX0_payBack_24 : decode cX0_payBack 24 = .ok (.invokestatic 49, 3) := by decide +kernel
theorem dX0_payBack_27 : decode cX0_payBack 27 = .ok (.istore_n 3, 1) := by decide +kernel
theorem dX0_payBack_28 : decode cX0_payBack 28 = .ok (.aload_n 0, 1) := by decide +kernel
theorem dX0_payBack_29 : decode cX0_payBack 29 = .ok (.getfield 11, 3) := by decide +kernel
theorem dX0_payBack_32 : decode cX0_payBack 32 = .ok (.iconst 4, 1) := by decide +kernel
theorem dX0_payBack_33 : decode cX0_payBack 33 = .ok (.aaload, 1) := by decide +kernel
theorem dX0_payBack_34 : decode cX0_payBack 34 = .ok (.iload_n 1, 1) := by decide +kernel
theorem dX0_payBack_35 : decode cX0_payBack 35 = .ok (.dup2, 1) := by decide +kernel
theorem dX0_payBack_36 : decode cX0_payBack 36 = .ok (.iaload, 1) := by decide +kernel
theorem dX0_payBack_37 : decode cX0_payBack 37 = .ok (.iload_n 3, 1) := by decide +kernel
theorem dX0_payBack_38 : decode cX0_payBack 38 = .ok (.isub, 1) := by decide +kernel
theorem dX0_payBack_39 : decode cX0_payBack 39 = .ok (.iastore, 1) := by decide +kernel
theorem dX0_payBack_40 : decode cX0_payBack 40 = .ok (.aload_n 0, 1) := by decide +kernel
theorem dX0_payBack_41 : decode cX0_payBack 41 = .ok (.getfield 11, 3) := by decide +kernel
theorem dX0_payBack_44 : decode cX0_payBack 44 = .ok (.iconst 4, 1) := by decide +kernel
theorem dX0_payBack_45 : decode cX0_payBack 45 = .ok (.aaload, 1) := by decide +kernel
theorem dX0_payBack_46 : decode cX0_payBack 46 = .ok (.iload_n 2, 1) := by decide +kernel
theorem dX0_payBack_47 : decode cX0_payBack 47 = .ok (.dup2, 1) := by decide +kernel
theorem dX0_payBack_48 : decode cX0_payBack 48 = .ok (.iaload, 1) := by decide +kernel
theorem dX0_payBack_49 : decode cX0_payBack 49 = .ok (.iload_n 3, 1) := by decide +kernel
theorem dX0_payBack_50 : decode cX0_payBack 50 = .ok (.iadd, 1) := by decide +kernel
theorem dX0_payBack_51 : decode cX0_payBack 51 = .ok (.iastore, 1) := by decide +kernel
theorem dX0_payBack_52 : decode cX0_payBack 52 = .ok (.aload_n 0, 1) := by decide +kernel
theorem dX0_payBack_53 : decode cX0_payBack 53 = .ok (.getfield 11, 3) := by decide +kernel
theorem dX0_payBack_56 : decode cX0_payBack 56 = .ok (.iconst 5, 1) := by decide +kernel
theorem dX0_payBack_57 : decode cX0_payBack 57 = .ok (.aaload, 1) := by decide +kernel
theorem dX0_payBack_58 : decode cX0_payBack 58 = .ok (.iload_n 2, 1) := by decide +kernel
theorem dX0_payBack_59 : decode cX0_payBack 59 = .ok (.dup2, 1) := by decide +kernel
theorem dX0_payBack_60 : decode cX0_payBack 60 = .ok (.iaload, 1) := by decide +kernel
theorem dX0_payBack_61 : decode cX0_payBack 61 = .ok (.iload_n 3, 1) := by decide +kernel
theorem dX0_payBack_62 : decode cX0_payBack 62 = .ok (.isub, 1) := by decide +kernel
theorem dX0_payBack_63 : decode cX0_payBack 63 = .ok (.iastore, 1) := by decide +kernel
theorem dX0_payBack_64 : decode cX0_payBack 64 = .ok (.aload_n 0, 1) := by decide +kernel
theorem dX0_payBack_65 : decode cX0_payBack 65 = .ok (.getfield 11, 3) := by decide +kernel
theorem dX0_payBack_68 : decode cX0_payBack 68 = .ok (.bipush 11, 2) := by decide +kernel
theorem dX0_payBack_70 : decode cX0_payBack 70 = .ok (.aaload, 1) := by decide +kernel
theorem dX0_payBack_71 : decode cX0_payBack 71 = .ok (.iload_n 2, 1) := by decide +kernel
theorem dX0_payBack_72 : decode cX0_payBack 72 = .ok (.dup2, 1) := by decide +kernel
theorem dX0_payBack_73 : decode cX0_payBack 73 = .ok (.iaload, 1) := by decide +kernel
theorem dX0_payBack_74 : decode cX0_payBack 74 = .ok (.iload_n 3, 1) := by decide +kernel
theorem dX0_payBack_75 : decode cX0_payBack 75 = .ok (.iadd, 1) := by decide +kernel
theorem dX0_payBack_76 : decode cX0_payBack 76 = .ok (.iastore, 1) := by decide +kernel
theorem dX0_payBack_77 : decode cX0_payBack 77 = .ok (.return_, 1) := by decide +kernel
set_option maxRecDepth 20000 in
theorem ggX0_serveWaiting_X0_shareOut : GoodIn wsX0_serveWaiting wsX0_shareOut := goodIn_r _ [9, 10, 11, 12, 13, 14, 15, 16, 17, 18, 19, 20, 21, 22, 8, 23, 24, 33, 34, 35, 36, 37, 38, 39, 40, 41, 42] (by decide +kernel) (by decide +kernel)
set_option maxRecDepth 20000 in
theorem gX0_serveWaiting_X0_shareOut : GoodIn wsX0_serveWaiting (wsV RX0 79 RX0 yX0_shareOut wsX0_shareOut) := goodIn_app (goodIn_of _ (by decide +kernel)) ggX0_serveWaiting_X0_shareOut
set_option maxRecDepth 20000 in
theorem ggX0_serveWaiting_X0_pourShares : GoodIn wsX0_serveWaiting wsX0_pourShares := goodIn_r _ [28, 24, 10, 11, 33, 34, 35, 36, 37, 38, 39, 40, 41, 42] (by decide +kernel) (by decide +kernel)
set_option maxRecDepth 20000 in
theorem gX0_serveWaiting_X0_pourShares : GoodIn wsX0_serveWaiting (wsV RX0 82 RX0 yX0_pourShares wsX0_pourShares) := goodIn_app (goodIn_of _ (by decide +kernel)) ggX0_serveWaiting_X0_pourShares
set_option maxRecDepth 20000 in
theorem ggX0_serveWaiting_X0_moveRequest : GoodIn wsX0_serveWaiting wsX0_moveRequest := goodIn_r _ [32, 2, 33, 34, 35, 36, 37, 38, 39, 40, 41, 42] (by decide +kernel) (by decide +kernel)
set_option maxRecDepth 20000 in
theorem gX0_serveWaiting_X0_moveRequest : GoodIn wsX0_serveWaiting (wsV RX0 88 RX0 yX0_moveRequest wsX0_moveRequest) := goodIn_app (goodIn_of _ (by decide +kernel)) ggX0_serveWaiting_X0_moveRequest
theorem dX0_serveWaiting_0 : decode cX0_serveWaiting 0 = .ok (.iconst 0, 1) := by decide +kernel
theorem dX0_serveWaiting_1 : decode cX0_serveWaiting 1 = .ok (.istore_n 1, 1) := by decide +kernel
theorem dX0_serveWaiting_2 : decode cX0_serveWaiting 2 = .ok (.iconst 1, 1) := by decide +kernel
theorem dX0_serveWaiting_3 : decode cX0_serveWaiting 3 = .ok (.istore_n 2, 1) := by decide +kernel
theorem dX0_serveWaiting_4 : decode cX0_serveWaiting 4 = .ok (.aload_n 0, 1) := by decide +kernel
theorem dX0_serveWaiting_5 : decode cX0_serveWaiting 5 = .ok (.getfield 40, 3) := by decide +kernel
theorem dX0_serveWaiting_8 : decode cX0_serveWaiting 8 = .ok (.istore_n 3, 1) := by decide +kernel
theorem dX0_serveWaiting_9 : decode cX0_serveWaiting 9 = .ok (.iconst 0, 1) := by decide +kernel
theorem dX0_serveWaiting_10 : decode cX0_serveWaiting 10 = .ok (.istore 4, 2) := by decide +kernel
theorem dX0_serveWaiting_12 : decode cX0_serveWaiting 12 = .ok (.iload 4, 2) := by decide +kernel
theorem dX0_serveWaiting_14 : decode cX0_serveWaiting 14 = .ok (.iload_n 3, 1) := by decide +kernel
theorem dX0_serveWaiting_15 : decode cX0_serveWaiting 15 = .ok (.if_icmp .ge 84, 3) := by decide +kernel
theorem dX0_serveWaiting_18 : decode cX0_serveWaiting 18 = .ok (.aload_n 0, 1) := by decide +kernel
theorem dX0_serveWaiting_19 : decode cX0_serveWaiting 19 = .ok (.getfield 19, 3) := by decide +kernel
theorem dX0_serveWaiting_22 : decode cX0_serveWaiting 22 = .ok (.iconst 0, 1) := by decide +kernel
theorem dX0_serveWaiting_23 : decode cX0_serveWaiting 23 = .ok (.aaload, 1) := by decide +kernel
theorem dX0_serveWaiting_24 : decode cX0_serveWaiting 24 = .ok (.iload 4, 2) := by decide +kernel
theorem dX0_serveWaiting_26 : decode cX0_serveWaiting 26 = .ok (.iaload, 1) := by decide +kernel
theorem dX0_serveWaiting_27 : decode cX0_serveWaiting 27 = .ok (.istore 5, 2) := by decide +kernel
theorem dX0_serveWaiting_29 : decode cX0_serveWaiting 29 = .ok (.aload_n 0, 1) := by decide +kernel
theorem dX0_serveWaiting_30 : decode cX0_serveWaiting 30 = .ok (.getfield 19, 3) := by decide +kernel
theorem dX0_serveWaiting_33 : decode cX0_serveWaiting 33 = .ok (.iconst 1, 1) := by decide +kernel
theorem dX0_serveWaiting_34 : decode cX0_serveWaiting 34 = .ok (.aaload, 1) := by decide +kernel
theorem dX0_serveWaiting_35 : decode cX0_serveWaiting 35 = .ok (.iload 4, 2) := by decide +kernel
theorem dX0_serveWaiting_37 : decode cX0_serveWaiting 37 = .ok (.iaload, 1) := by decide +kernel
theorem dX0_serveWaiting_38 : decode cX0_serveWaiting 38 = .ok (.istore 6, 2) := by decide +kernel
theorem dX0_serveWaiting_40 : decode cX0_serveWaiting 40 = .ok (.iload_n 2, 1) := by decide +kernel
theorem dX0_serveWaiting_41 : decode cX0_serveWaiting 41 = .ok (.ifCond .eq 26, 3) := by decide +kernel
theorem dX0_serveWaiting_44 : decode cX0_serveWaiting 44 = .ok (.aload_n 0, 1) := by decide +kernel
theorem dX0_serveWaiting_45 : decode cX0_serveWaiting 45 = .ok (.iload 5, 2) := by decide +kernel
theorem dX0_serveWaiting_47 : decode cX0_serveWaiting 47 = .ok (.iload 6, 2) := by decide +kernel
theorem dX0_serveWaiting_49 : decode cX0_serveWaiting 49 = .ok (.invokevirtual 79, 3) := by decide +kernel
theorem dX0_serveWaiting_52 : decode cX0_serveWaiting 52 = .ok (.iload 6, 2) := by decide +kernel
theorem dX0_serveWaiting_54 : decode cX0_serveWaiting 54 = .ok (.if_icmp .ne 13, 3) := by decide +kernel
theorem dX0_serveWaiting_57 : decode cX0_serveWaiting 57 = .ok (.aload_n 0, 1) := by decide +kernel
theorem dX0_serveWaiting_58 : decode cX0_serveWaiting 58 = .ok (.iload 5, 2) := by decide +kernel
theorem dX0_serveWaiting_60 : decode cX0_serveWaiting 60 = .ok (.invokevirtual 82, 3) := by decide +kernel
theorem dX0_serveWaiting_63 : decode cX0_serveWaiting 63 = .ok (.pop, 1) := by decide +kernel
theorem dX0_serveWaiting_64 : decode cX0_serveWaiting 64 = .ok (.goto 29, 3) := by decide +kernel
theorem dX0_serveWaiting_67 : decode cX0_serveWaiting 67 = .ok (.aload_n 0, 1) := by decide +kernel
theorem dX0_serveWaiting_68 : decode cX0_serveWaiting 68 = .ok (.getfield 22, 3) := by decide +kernel
theorem dX0_serveWaiting_71 : decode cX0_serveWaiting 71 = .ok (.iconst 1, 1) := by decide +kernel
theorem dX0_serveWaiting_72 : decode cX0_serveWaiting 72 = .ok (.iaload, 1) := by decide +kernel
theorem dX0_serveWaiting_73 : decode cX0_serveWaiting 73 = .ok (.iconst 1, 1) := by decide +kernel
theorem dX0_serveWaiting_74 : decode cX0_serveWaiting 74 = .ok (.if_icmp .ne 7, 3) := by decide +kernel
theorem dX0_serveWaiting_77 : decode cX0_serveWaiting 77 = .ok (.iconst 1, 1) := by decide +kernel
theorem dX0_serveWaiting_78 : decode cX0_serveWaiting 78 = .ok (.goto 4, 3) := by decide +kernel
theorem dX0_serveWaiting_81 : decode cX0_serveWaiting 81 = .ok (.iconst 0, 1) := by decide +kernel
theorem dX0_serveWaiting_82 : decode cX0_serveWaiting 82 = .ok (.istore_n 2, 1) := by decide +kernel
theorem dX0_serveWaiting_83 : decode cX0_serveWaiting 83 = .ok (.aload_n 0, 1) := by decide +kernel
theorem dX0_serveWaiting_84 : decode cX0_serveWaiting 84 = .ok (.iload 4, 2) := by decide +kernel
theorem dX0_serveWaiting_86 : decode cX0_serveWaiting 86 = .ok (.iload_n 1, 1) := by decide +kernel
theorem dX0_serveWaiting_87 : decode cX0_serveWaiting 87 = .ok (.invokevirtual 88, 3) := by decide +kernel
theorem dX0_serveWaiting_90 : decode cX0_serveWaiting 90 = .ok (.iinc 1 1, 3) := by decide +kernel
theorem dX0_serveWaiting_93 : decode cX0_serveWaiting 93 = .ok (.iinc 4 1, 3) := by decide +kernel
theorem dX0_serveWaiting_96 : decode cX0_serveWaiting 96 = .ok (.goto (-84), 3) := by decide +kernel
theorem dX0_serveWaiting_99 : decode cX0_serveWaiting 99 = .ok (.aload_n 0, 1) := by decide +kernel
theorem dX0_serveWaiting_100 : decode cX0_serveWaiting 100 = .ok (.iload_n 1, 1) := by decide +kernel
theorem dX0_serveWaiting_101 : decode cX0_serveWaiting 101 = .ok (.putfield 40, 3) := by decide +kernel
theorem dX0_serveWaiting_104 : decode cX0_serveWaiting 104 = .ok (.aload_n 0, 1) := by decide +kernel
theorem dX0_serveWaiting_105 : decode cX0_serveWaiting 105 = .ok (.dup, 1) := by decide +kernel
theorem dX0_serveWaiting_106 : decode cX0_serveWaiting 106 = .ok (.getfield 46, 3) := by decide +kernel
theorem dX0_serveWaiting_109 : decode cX0_serveWaiting 109 = .ok (.iload_n 3, 1) := by decide +kernel
theorem dX0_serveWaiting_110 : decode cX0_serveWaiting 110 = .ok (.iload_n 1, 1) := by decide +kernel
theorem dX0_serveWaiting_111 : decode cX0_serveWaiting 111 = .ok (.isub, 1) := by decide +kernel
theorem dX0_serveWaiting_112 : decode cX0_serveWaiting 112 = .ok (.iadd, 1) := by decide +kernel
theorem dX0_serveWaiting_113 : decode cX0_serveWaiting 113 = .ok (.putfield 46, 3) := by decide +kernel
theorem dX0_serveWaiting_116 : decode cX0_serveWaiting 116 = .ok (.iload_n 3, 1) := by decide +kernel
theorem dX0_serveWaiting_117 : decode cX0_serveWaiting 117 = .ok (.iload_n 1, 1) := by decide +kernel
theorem dX0_serveWaiting_118 : decode cX0_serveWaiting 118 = .ok (.isub, 1) := by decide +kernel
theorem dX0_serveWaiting_119 : decode cX0_serveWaiting 119 = .ok (.ireturn, 1) := by decide +kernel
set_option maxRecDepth 20000 in
theorem ggX1_init_X0_init : GoodIn wsX1_init wsX0_init := goodIn_r _ [10, 11, 2, 3, 12, 13, 14, 15, 16, 17, 18, 22, 23, 24, 25, 26, 27, 28, 29, 30, 31] (by decide +kernel) (by decide +kernel)
set_option maxRecDepth 20000 in
theorem gX1_init_X0_init : GoodIn wsX1_init (wsX0_init) := ggX1_init_X0_init
theorem dJ7_fill_53178_0 : decode cJ7_fill_53178 0 = .ok (.iconst 0, 1) := by decide +kernel
theorem dJ7_fill_53178_1 : decode cJ7_fill_53178 1 = .ok (.istore_n 2, 1) := by decide +kernel
theorem dJ7_fill_53178_2 : decode cJ7_fill_53178 2 = .ok (.aload_n 0, 1) := by decide +kernel
theorem dJ7_fill_53178_3 : decode cJ7_fill_53178 3 = .ok (.arraylength, 1) := by decide +kernel
theorem dJ7_fill_53178_4 : decode cJ7_fill_53178 4 = .ok (.istore_n 3, 1) := by decide +kernel
theorem dJ7_fill_53178_5 : decode cJ7_fill_53178 5 = .ok (.iload_n 2, 1) := by decide +kernel
theorem dJ7_fill_53178_6 : decode cJ7_fill_53178 6 = .ok (.iload_n 3, 1) := by decide +kernel
theorem dJ7_fill_53178_7 : decode cJ7_fill_53178 7 = .ok (.if_icmp .ge 13, 3) := by decide +kernel
theorem dJ7_fill_53178_10 : decode cJ7_fill_53178 10 = .ok (.aload_n 0, 1) := by decide +kernel
theorem dJ7_fill_53178_11 : decode cJ7_fill_53178 11 = .ok (.iload_n 2, 1) := by decide +kernel
theorem dJ7_fill_53178_12 : decode cJ7_fill_53178 12 = .ok (.iload_n 1, 1) := by decide +kernel
theorem dJ7_fill_53178_13 : decode cJ7_fill_53178 13 = .ok (.iastore, 1) := by decide +kernel
theorem dJ7_fill_53178_14 : decode cJ7_fill_53178 14 = .ok (.iinc 2 1, 3) := by decide +kernel
theorem dJ7_fill_53178_17 : decode cJ7_fill_53178 17 = .ok (.goto (-12), 3) := by decide +kernel
theorem dJ7_fill_53178_20 : decode cJ7_fill_53178 20 = .ok (.return_, 1) := by decide +kernel
theorem dX3_areBuckets_0 : decode cX3_areBuckets 0 = .ok (.iload_n 0, 1) := by decide +kernel
theorem dX3_areBuckets_1 : decode cX3_areBuckets 1 = .ok (.iconst 1, 1) := by decide +kernel
theorem dX3_areBuckets_2 : decode cX3_areBuckets 2 = .ok (.if_icmp .lt 14, 3) := by decide +kernel
theorem dX3_areBuckets_5 : decode cX3_areBuckets 5 = .ok (.iload_n 0, 1) := by decide +kernel
theorem dX3_areBuckets_6 : decode cX3_areBuckets 6 = .ok (.sipush 999, 3) := by decide +kernel
theorem dX3_areBuckets_9 : decode cX3_areBuckets 9 = .ok (.if_icmp .gt 7, 3) := by decide +kernel
theorem dX3_areBuckets_12 : decode cX3_areBuckets 12 = .ok (.iconst 1, 1) := by decide +kernel
theorem dX3_areBuckets_13 : decode cX3_areBuckets 13 = .ok (.goto 4, 3) := by decide +kernel
theorem dX3_areBuckets_16 : decode cX3_areBuckets 16 = .ok (.iconst 0, 1) := by decide +kernel
theorem dX3_areBuckets_17 : decode cX3_areBuckets 17 = .ok (.ireturn, 1) := by decide +kernel
