theorem dX1_init_0 : decode cX1_init 0 = .ok (.aload_n 0, 1) := by decide +kernel
theorem dX1_init_1 : decode cX1_init 1 = .ok (.invokespecial 3, 3) := by decide +kernel
theorem dX1_init_4 : decode cX1_init 4 = .ok (.aload_n 0, 1) := by decide +kernel
theorem dX1_init_5 : decode cX1_init 5 = .ok (.iconst 5, 1) := by decide +kernel
theorem dX1_init_6 : decode cX1_init 6 = .ok (.anewarray 11, 3) := by decide +kernel
theorem dX1_init_9 : decode cX1_init 9 = .ok (.putfield 13, 3) := by decide +kernel
theorem dX1_init_12 : decode cX1_init 12 = .ok (.iconst 0, 1) := by decide +kernel
theorem dX1_init_13 : decode cX1_init 13 = .ok (.istore_n 1, 1) := by decide +kernel
theorem dX1_init_14 : decode cX1_init 14 = .ok (.iload_n 1, 1) := by decide +kernel
theorem dX1_init_15 : decode cX1_init 15 = .ok (.iconst 5, 1) := by decide +kernel
theorem dX1_init_16 : decode cX1_init 16 = .ok (.if_icmp .ge 22, 3) := by decide +kernel
theorem dX1_init_19 : decode cX1_init 19 = .ok (.aload_n 0, 1) := by decide +kernel
theorem dX1_init_20 : decode cX1_init 20 = .ok (.getfield 13, 3) := by decide +kernel
theorem dX1_init_23 : decode cX1_init 23 = .ok (.iload_n 1, 1) := by decide +kernel
theorem dX1_init_24 : decode cX1_init 24 = .ok (.new 11, 3) := by decide +kernel
theorem dX1_init_27 : decode cX1_init 27 = .ok (.dup, 1) := by decide +kernel
theorem dX1_init_28 : decode cX1_init 28 = .ok (.invokespecial 17, 3) := by decide +kernel
theorem dX1_init_31 : decode cX1_init 31 = .ok (.aastore, 1) := by decide +kernel
theorem dX1_init_32 : decode cX1_init 32 = .ok (.iinc 1 1, 3) := by decide +kernel
theorem dX1_init_35 : decode cX1_init 35 = .ok (.goto (-21), 3) := by decide +kernel
theorem dX1_init_38 : decode cX1_init 38 = .ok (.return_, 1) := by decide +kernel
set_option maxRecDepth 20000 in
theorem ggX1_note_X0_copyFrom : GoodIn wsX1_note wsX0_copyFrom := goodIn_r _ [8, 9, 10, 11, 12, 13, 14, 15, 16, 17, 18, 19, 7, 20, 21, 22, 23, 24, 25, 26, 27, 28, 32, 33, 34, 35, 36, 37, 38, 39, 40, 41] (by decide +kernel) (by decide +kernel)
set_option maxRecDepth 20000 in
theorem gX1_note_X0_copyFrom : GoodIn wsX1_note (wsV RX1 25 RX0 yX0_copyFrom wsX0_copyFrom) := goodIn_app (goodIn_of _ (by decide +kernel)) ggX1_note_X0_copyFrom
theorem dX1_note_0 : decode cX1_note 0 = .ok (.aload_n 0, 1) := by decide +kernel
theorem dX1_note_1 : decode cX1_note 1 = .ok (.getfield 13, 3) := by decide +kernel
theorem dX1_note_4 : decode cX1_note 4 = .ok (.aload_n 0, 1) := by decide +kernel
theorem dX1_note_5 : decode cX1_note 5 = .ok (.getfield 18, 3) := by decide +kernel
theorem dX1_note_8 : decode cX1_note 8 = .ok (.aload_n 0, 1) := by decide +kernel
theorem dX1_note_9 : decode cX1_note 9 = .ok (.getfield 22, 3) := by decide +kernel
theorem dX1_note_12 : decode cX1_note 12 = .ok (.iadd, 1) := by decide +kernel
theorem dX1_note_13 : decode cX1_note 13 = .ok (.iconst 5, 1) := by decide +kernel
theorem dX1_note_14 : decode cX1_note 14 = .ok (.irem, 1) := by decide +kernel
theorem dX1_note_15 : decode cX1_note 15 = .ok (.aaload, 1) := by decide +kernel
theorem dX1_note_16 : decode cX1_note 16 = .ok (.aload_n 1, 1) := by decide +kernel
theorem dX1_note_17 : decode cX1_note 17 = .ok (.invokevirtual 25, 3) := by decide +kernel
theorem dX1_note_20 : decode cX1_note 20 = .ok (.return_, 1) := by decide +kernel
theorem dX1_keep_0 : decode cX1_keep 0 = .ok (.aload_n 0, 1) := by decide +kernel
theorem dX1_keep_1 : decode cX1_keep 1 = .ok (.getfield 22, 3) := by decide +kernel
theorem dX1_keep_4 : decode cX1_keep 4 = .ok (.iconst 4, 1) := by decide +kernel
theorem dX1_keep_5 : decode cX1_keep 5 = .ok (.if_icmp .ge 16, 3) := by decide +kernel
theorem dX1_keep_8 : decode cX1_keep 8 = .ok (.aload_n 0, 1) := by decide +kernel
theorem dX1_keep_9 : decode cX1_keep 9 = .ok (.dup, 1) := by decide +kernel
theorem dX1_keep_10 : decode cX1_keep 10 = .ok (.getfield 22, 3) := by decide +kernel
theorem dX1_keep_13 : decode cX1_keep 13 = .ok (.iconst 1, 1) := by decide +kernel
theorem dX1_keep_14 : decode cX1_keep 14 = .ok (.iadd, 1) := by decide +kernel
theorem dX1_keep_15 : decode cX1_keep 15 = .ok (.putfield 22, 3) := by decide +kernel
theorem dX1_keep_18 : decode cX1_keep 18 = .ok (.goto 15, 3) := by decide +kernel
theorem dX1_keep_21 : decode cX1_keep 21 = .ok (.aload_n 0, 1) := by decide +kernel
theorem dX1_keep_22 : decode cX1_keep 22 = .ok (.aload_n 0, 1) := by decide +kernel
theorem dX1_keep_23 : decode cX1_keep 23 = .ok (.getfield 18, 3) := by decide +kernel
theorem dX1_keep_26 : decode cX1_keep 26 = .ok (.iconst 1, 1) := by decide +kernel
theorem dX1_keep_27 : decode cX1_keep 27 = .ok (.iadd, 1) := by decide +kernel
theorem dX1_keep_28 : decode cX1_keep 28 = .ok (.iconst 5, 1) := by decide +kernel
theorem dX1_keep_29 : decode cX1_keep 29 = .ok (.irem, 1) := by decide +kernel
theorem dX1_keep_30 : decode cX1_keep 30 = .ok (.putfield 18, 3) := by decide +kernel
theorem dX1_keep_33 : decode cX1_keep 33 = .ok (.return_, 1) := by decide +kernel
set_option maxRecDepth 20000 in
theorem ggX1_giveBack_X0_copyFrom : GoodIn wsX1_giveBack wsX0_copyFrom := goodIn_r _ [8, 9, 10, 11, 12, 13, 14, 15, 16, 17, 18, 19, 7, 20, 21, 22, 23, 24, 25, 26, 27, 28, 32, 33, 34, 35, 36, 37, 38, 39, 40, 41] (by decide +kernel) (by decide +kernel)
set_option maxRecDepth 20000 in
theorem gX1_giveBack_X0_copyFrom : GoodIn wsX1_giveBack (wsV RX1 25 RX0 yX0_copyFrom wsX0_copyFrom) := goodIn_app (goodIn_of _ (by decide +kernel)) ggX1_giveBack_X0_copyFrom
theorem dX1_giveBack_0 : decode cX1_giveBack 0 = .ok (.aload_n 0, 1) := by decide +kernel
theorem dX1_giveBack_1 : decode cX1_giveBack 1 = .ok (.getfield 22, 3) := by decide +kernel
theorem dX1_giveBack_4 : decode cX1_giveBack 4 = .ok (.ifCond .le 33, 3) := by decide +kernel
theorem dX1_giveBack_7 : decode cX1_giveBack 7 = .ok (.aload_n 0, 1) := by decide +kernel
theorem dX1_giveBack_8 : decode cX1_giveBack 8 = .ok (.dup, 1) := by decide +kernel
theorem dX1_giveBack_9 : decode cX1_giveBack 9 = .ok (.getfield 22, 3) := by decide +kernel
theorem dX1_giveBack_12 : decode cX1_giveBack 12 = .ok (.iconst 1, 1) := by decide +kernel
theorem dX1_giveBack_13 : decode cX1_giveBack 13 = .ok (.isub, 1) := by decide +kernel
theorem dX1_giveBack_14 : decode cX1_giveBack 14 = .ok (.putfield 22, 3) := by decide +kernel
theorem dX1_giveBack_17 : decode cX1_giveBack 17 = .ok (.aload_n 1, 1) := by decide +kernel
theorem dX1_giveBack_18 : decode cX1_giveBack 18 = .ok (.aload_n 0, 1) := by decide +kernel
theorem dX1_giveBack_19 : decode cX1_giveBack 19 = .ok (.getfield 13, 3) := by decide +kernel
theorem dX1_giveBack_22 : decode cX1_giveBack 22 = .ok (.aload_n 0, 1) := by decide +kernel
theorem dX1_giveBack_23 : decode cX1_giveBack 23 = .ok (.getfield 18, 3) := by decide +kernel
theorem dX1_giveBack_26 : decode cX1_giveBack 26 = .ok (.aload_n 0, 1) := by decide +kernel
theorem dX1_giveBack_27 : decode cX1_giveBack 27 = .ok (.getfield 22, 3) := by decide +kernel
theorem dX1_giveBack_30 : decode cX1_giveBack 30 = .ok (.iadd, 1) := by decide +kernel
theorem dX1_giveBack_31 : decode cX1_giveBack 31 = .ok (.iconst 5, 1) := by decide +kernel
theorem dX1_giveBack_32 : decode cX1_giveBack 32 = .ok (.irem, 1) := by decide +kernel
theorem dX1_giveBack_33 : decode cX1_giveBack 33 = .ok (.aaload, 1) := by decide +kernel
theorem dX1_giveBack_34 : decode cX1_giveBack 34 = .ok (.invokevirtual 25, 3) := by decide +kernel
theorem dX1_giveBack_37 : decode cX1_giveBack 37 = .ok (.return_, 1) := by decide +kernel
theorem dX2_init_0 : decode cX2_init 0 = .ok (.aload_n 0, 1) := by decide +kernel
theorem dX2_init_1 : decode cX2_init 1 = .ok (.invokespecial 3, 3) := by decide +kernel
theorem dX2_init_4 : decode cX2_init 4 = .ok (.aload_n 0, 1) := by decide +kernel
theorem dX2_init_5 : decode cX2_init 5 = .ok (.bipush 60, 2) := by decide +kernel
theorem dX2_init_7 : decode cX2_init 7 = .ok (.newarray .char, 2) := by decide +kernel
theorem dX2_init_9 : decode cX2_init 9 = .ok (.putfield 9, 3) := by decide +kernel
theorem dX2_init_12 : decode cX2_init 12 = .ok (.aload_n 0, 1) := by decide +kernel
theorem dX2_init_13 : decode cX2_init 13 = .ok (.iconst 3, 1) := by decide +kernel
theorem dX2_init_14 : decode cX2_init 14 = .ok (.newarray .int, 2) := by decide +kernel
theorem dX2_init_16 : decode cX2_init 16 = .ok (.putfield 15, 3) := by decide +kernel
theorem dX2_init_19 : decode cX2_init 19 = .ok (.return_, 1) := by decide +kernel
theorem dX2_append_0 : decode cX2_append 0 = .ok (.aload_n 0, 1) := by decide +kernel
theorem dX2_append_1 : decode cX2_append 1 = .ok (.getfield 19, 3) := by decide +kernel
theorem dX2_append_4 : decode cX2_append 4 = .ok (.bipush 60, 2) := by decide +kernel
theorem dX2_append_6 : decode cX2_append 6 = .ok (.if_icmp .lt 5, 3) := by decide +kernel
theorem dX2_append_9 : decode cX2_append 9 = .ok (.iconst 0, 1) := by decide +kernel
theorem dX2_append_10 : decode cX2_append 10 = .ok (.ireturn, 1) := by decide +kernel
theorem dX2_append_11 : decode cX2_append 11 = .ok (.aload_n 0, 1) := by decide +kernel
theorem dX2_append_12 : decode cX2_append 12 = .ok (.getfield 9, 3) := by decide +kernel
theorem dX2_append_15 : decode cX2_append 15 = .ok (.aload_n 0, 1) := by decide +kernel
theorem dX2_append_16 : decode cX2_append 16 = .ok (.getfield 19, 3) := by decide +kernel
theorem dX2_append_19 : decode cX2_append 19 = .ok (.iload_n 1, 1) := by decide +kernel
theorem dX2_append_20 : decode cX2_append 20 = .ok (.castore, 1) := by decide +kernel
theorem dX2_append_21 : decode cX2_append 21 = .ok (.aload_n 0, 1) := by decide +kernel
theorem dX2_append_22 : decode cX2_append 22 = .ok (.dup, 1) := by decide +kernel
theorem dX2_append_23 : decode cX2_append 23 = .ok (.getfield 19, 3) := by decide +kernel
theorem dX2_append_26 : decode cX2_append 26 = .ok (.iconst 1, 1) := by decide +kernel
theorem dX2_append_27 : decode cX2_append 27 = .ok (.iadd, 1) := by decide +kernel
theorem dX2_append_28 : decode cX2_append 28 = .ok (.putfield 19, 3) := by decide +kernel
theorem dX2_append_31 : decode cX2_append 31 = .ok (.iconst 1, 1) := by decide +kernel
theorem dX2_append_32 : decode cX2_append 32 = .ok (.ireturn, 1) := by decide +kernel
set_option maxRecDepth 20000 in
theorem ggX2_runOn_X2_readOrder : GoodIn wsX2_runOn wsX2_readOrder := goodIn_r _ [11, 4, 5, 6, 12, 13, 10, 14, 15, 16, 17, 18, 19, 20, 21, 22, 119, 120, 121, 122, 123, 124, 125] (by decide +kernel) (by decide +kernel)
set_option maxRecDepth 20000 in
theorem gX2_runOn_X2_readOrder : GoodIn wsX2_runOn (wsV RX2 35 RX2 yX2_readOrder wsX2_readOrder) := goodIn_app (goodIn_of _ (by decide +kernel)) ggX2_runOn_X2_readOrder
set_option maxRecDepth 20000 in
theorem ggX2_runOn_X2_doOrder : GoodIn wsX2_runOn wsX2_doOrder := goodIn_r _ [26, 19, 27, 28, 29, 30, 31, 32, 33, 34, 35, 36, 37, 38, 39, 40, 41, 42, 43, 44, 45, 46, 47, 48, 49, 50, 51, 52, 53, 54, 55, 56, 57, 58, 59, 60, 61, 62, 63, 64, 65, 66, 67, 68, 69, 70, 71, 72, 73, 74, 75, 76, 77, 78, 79, 80, 81, 82, 83, 84, 85, 86, 87, 88, 89, 90, 91, 92, 93, 94, 95, 96, 97, 98, 99, 100, 101, 102, 103, 104, 105, 106, 107, 108, 109, 110, 111, 112, 113, 114, 115, 116, 117, 118, 119, 120, 121, 122, 123, 124, 125, 126, 127, 128, 129, 130, 131, 132, 133, 134, 135] (by decide +kernel) (by decide +kernel)
set_option maxRecDepth 20000 in
theorem gX2_runOn_X2_doOrder : GoodIn wsX2_runOn (wsV RX2 39 RX2 yX2_doOrder wsX2_doOrder) := goodIn_app (goodIn_of _ (by decide +kernel)) ggX2_runOn_X2_doOrder
theorem dX2_runOn_0 : decode cX2_runOn 0 = .ok (.aload_n 0, 1) := by decide +kernel
theorem dX2_runOn_1 : decode cX2_runOn 1 = .ok (.iconst 0, 1) := by decide +kernel
theorem dX2_runOn_2 : decode cX2_runOn 2 = .ok (.putfield 23, 3) := by decide +kernel
theorem dX2_runOn_5 : decode cX2_runOn 5 = .ok (.aload_n 0, 1) := by decide +kernel
theorem dX2_runOn_6 : decode cX2_runOn 6 = .ok (.iconst 0, 1) := by decide +kernel
theorem dX2_runOn_7 : decode cX2_runOn 7 = .ok (.putfield 26, 3) := by decide +kernel
theorem dX2_runOn_10 : decode cX2_runOn 10 = .ok (.aload_n 0, 1) := by decide +kernel
theorem dX2_runOn_11 : decode cX2_runOn 11 = .ok (.iconst 0, 1) := by decide +kernel
theorem dX2_runOn_12 : decode cX2_runOn 12 = .ok (.putfield 29, 3) := by decide +kernel
theorem dX2_runOn_15 : decode cX2_runOn 15 = .ok (.aload_n 0, 1) := by decide +kernel
theorem dX2_runOn_16 : decode cX2_runOn 16 = .ok (.iconst 0, 1) := by decide +kernel
theorem dX2_runOn_17 : decode cX2_runOn 17 = .ok (.putfield 32, 3) := by decide +kernel
theorem dX2_runOn_20 : decode cX2_runOn 20 = .ok (.iconst 0, 1) := by decide +kernel
theorem dX2_runOn_21 : decode cX2_runOn 21 = .ok (.istore_n 2, 1) := by decide +kernel
theorem dX2_runOn_22 : decode cX2_runOn 22 = .ok (.iload_n 2, 1) := by decide +kernel
theorem dX2_runOn_23 : decode cX2_runOn 23 = .ok (.bipush 60, 2) := by decide +kernel
theorem dX2_runOn_25 : decode cX2_runOn 25 = .ok (.if_icmp .ge 91, 3) := by decide +kernel
theorem dX2_runOn_28 : decode cX2_runOn 28 = .ok (.aload_n 0, 1) := by decide +kernel
theorem dX2_runOn_29 : decode cX2_runOn 29 = .ok (.getfield 32, 3) := by decide +kernel
theorem dX2_runOn_32 : decode cX2_runOn 32 = .ok (.aload_n 0, 1) := by decide +kernel
theorem dX2_runOn_33 : decode cX2_runOn 33 = .ok (.getfield 19, 3) := by decide +kernel
theorem dX2_runOn_36 : decode cX2_runOn 36 = .ok (.if_icmp .ge 80, 3) := by decide +kernel
theorem dX2_runOn_39 : decode cX2_runOn 39 = .ok (.aload_n 0, 1) := by decide +kernel
theorem dX2_runOn_40 : decode cX2_runOn 40 = .ok (.aload_n 0, 1) := by decide +kernel
theorem dX2_runOn_41 : decode cX2_runOn 41 = .ok (.getfield 32, 3) := by decide +kernel
theorem dX2_runOn_44 : decode cX2_runOn 44 = .ok (.putfield 26, 3) := by decide +kernel
theorem dX2_runOn_47 : decode cX2_runOn 47 = .ok (.aload_n 0, 1) := by decide +kernel
theorem dX2_runOn_48 : decode cX2_runOn 48 = .ok (.getfield 9, 3) := by decide +kernel
theorem dX2_runOn_51 : decode cX2_runOn 51 = .ok (.aload_n 0, 1) := by decide +kernel
theorem dX2_runOn_52 : decode cX2_runOn 52 = .ok (.getfield 32, 3) := by decide +kernel
theorem dX2_runOn_55 : decode cX2_runOn 55 = .ok (.caload, 1) := by decide +kernel
theorem dX2_runOn_56 : decode cX2_runOn 56 = .ok (.istore_n 3, 1) := by decide +kernel
theorem dX2_runOn_57 : decode cX2_runOn 57 = .ok (.aload_n 0, 1) := by decide +kernel
theorem dX2_runOn_58 : decode cX2_runOn 58 = .ok (.iload_n 3, 1) := by decide +kernel
theorem dX2_runOn_59 : decode cX2_runOn 59 = .ok (.invokevirtual 35, 3) := by decide +kernel
theorem dX2_runOn_62 : decode cX2_runOn 62 = .ok (.ifCond .ne 9, 3) := by decide +kernel
theorem dX2_runOn_65 : decode cX2_runOn 65 = .ok (.aload_n 0, 1) := by decide +kernel
theorem dX2_runOn_66 : decode cX2_runOn 66 = .ok (.iconst 1, 1) := by decide +kernel
theorem dX2_runOn_67 : decode cX2_runOn 67 = .ok (.putfield 29, 3) := by decide +kernel
theorem dX2_runOn_70 : decode cX2_runOn 70 = .ok (.return_, 1) := by decide +kernel
theorem dX2_runOn_71 : decode cX2_runOn 71 = .ok (.aload_n 0, 1) := by decide +kernel
theorem dX2_runOn_72 : decode cX2_runOn 72 = .ok (.aload_n 1, 1) := by decide +kernel
theorem dX2_runOn_73 : decode cX2_runOn 73 = .ok (.iload_n 3, 1) := by decide +kernel
theorem dX2_runOn_74 : decode cX2_runOn 74 = .ok (.invokevirtual 39, 3) := by decide +kernel
theorem dX2_runOn_77 : decode cX2_runOn 77 = .ok (.istore 4, 2) := by decide +kernel
theorem dX2_runOn_79 : decode cX2_runOn 79 = .ok (.iload 4, 2) := by decide +kernel
theorem dX2_runOn_81 : decode cX2_runOn 81 = .ok (.ifCond .ge 19, 3) := by decide +kernel
theorem dX2_runOn_84 : decode cX2_runOn 84 = .ok (.aload_n 0, 1) := by decide +kernel
theorem dX2_runOn_85 : decode cX2_runOn 85 = .ok (.iload 4, 2) := by decide +kernel
theorem dX2_runOn_87 : decode cX2_runOn 87 = .ok (.iconst (-1), 1) := by decide +kernel
theorem dX2_runOn_88 : decode cX2_runOn 88 = .ok (.if_icmp .ne 7, 3) := by decide +kernel
theorem dX2_runOn_91 : decode cX2_runOn 91 = .ok (.iconst 2, 1) := by decide +kernel
theorem dX2_runOn_92 : decode cX2_runOn 92 = .ok (.goto 4, 3) := by decide +kernel
theorem dX2_runOn_95 : decode cX2_runOn 95 = .ok (.iconst 3, 1) := by decide +kernel
theorem dX2_runOn_96 : decode cX2_runOn 96 = .ok (.putfield 29, 3) := by decide +kernel
theorem dX2_runOn_99 : decode cX2_runOn 99 = .ok (.return_, 1) := by decide +kernel
theorem dX2_runOn_100 : decode cX2_runOn 100 = .ok (.aload_n 0, 1) := by decide +kernel
theorem dX2_runOn_101 : decode cX2_runOn 101 = .ok (.dup, 1) := by decide +kernel
theorem dX2_runOn_102 : decode cX2_runOn 102 = .ok (.getfield 23, 3) := by decide +kernel
theorem dX2_runOn_105 : decode cX2_runOn 105 = .ok (.iconst 1, 1) := by decide +kernel
theorem dX2_runOn_106 : decode cX2_runOn 106 = .ok (.iadd, 1) := by decide +kernel
theorem dX2_runOn_107 : decode cX2_runOn 107 = .ok (.putfield 23, 3) := by decide +kernel
theorem dX2_runOn_110 : decode cX2_runOn 110 = .ok (.iinc 2 1, 3) := by decide +kernel
theorem dX2_runOn_113 : decode cX2_runOn 113 = .ok (.goto (-91), 3) := by decide +kernel
theorem dX2_runOn_116 : decode cX2_runOn 116 = .ok (.return_, 1) := by decide +kernel
theorem dX2_numbersOf_0 : decode cX2_numbersOf 0 = .ok (.iload_n 0, 1) := by decide +kernel
theorem dX2_numbersOf_1 : decode cX2_numbersOf 1 = .ok (.lookupswitch 51 #[(100, 45), (110, 49), (114, 47), (116, 43)], 43) := by decide +kernel
theorem dX2_numbersOf_44 : decode cX2_numbersOf 44 = .ok (.iconst 1, 1) := by decide +kernel
theorem dX2_numbersOf_45 : decode cX2_numbersOf 45 = .ok (.ireturn, 1) := by decide +kernel
theorem dX2_numbersOf_46 : decode cX2_numbersOf 46 = .ok (.iconst 2, 1) := by decide +kernel
theorem dX2_numbersOf_47 : decode cX2_numbersOf 47 = .ok (.ireturn, 1) := by decide +kernel
theorem dX2_numbersOf_48 : decode cX2_numbersOf 48 = .ok (.iconst 2, 1) := by decide +kernel
theorem dX2_numbersOf_49 : decode cX2_numbersOf 49 = .ok (.ireturn, 1) := by decide +kernel
theorem dX2_numbersOf_50 : decode cX2_numbersOf 50 = .ok (.iconst 3, 1) := by decide +kernel
theorem dX2_numbersOf_51 : decode cX2_numbersOf 51 = .ok (.ireturn, 1) := by decide +kernel
theorem dX2_numbersOf_52 : decode cX2_numbersOf 52 = .ok (.iconst 0, 1) := by decide +kernel
theorem dX2_numbersOf_53 : decode cX2_numbersOf 53 = .ok (.ireturn, 1) := by decide +kernel
set_option maxRecDepth 20000 in
theorem ggX2_readOrder_X2_numbersOf : GoodIn wsX2_readOrder wsX2_numbersOf := goodIn_r _ [7] (by decide +kernel) (by decide +kernel)
set_option maxRecDepth 20000 in
theorem gX2_readOrder_X2_numbersOf : GoodIn wsX2_readOrder (va_wsS RX2 43 yX2_numbersOf wsX2_numbersOf) := goodIn_app (goodIn_of _ (by decide +kernel)) ggX2_readOrder_X2_numbersOf
set_option maxRecDepth 20000 in
theorem ggX2_readOrder_X2_readNumber : GoodIn wsX2_readOrder wsX2_readNumber := goodIn_r _ [11, 1, 2, 3, 12, 13, 14, 6, 15, 16, 17, 18, 19, 20, 21, 22] (by decide +kernel) (by decide +kernel)
set_option maxRecDepth 20000 in
theorem gX2_readOrder_X2_readNumber : GoodIn wsX2_readOrder (wsV RX2 47 RX2 yX2_readNumber wsX2_readNumber) := goodIn_app (goodIn_of _ (by decide +kernel)) ggX2_readOrder_X2_readNumber
theorem dX2_readOrder_0 : decode cX2_readOrder 0 = .ok (.aload_n 0, 1) := by decide +kernel
theorem dX2_readOrder_1 : decode cX2_readOrder 1 = .ok (.dup, 1) := by decide +kernel
theorem dX2_readOrder_2 : decode cX2_readOrder 2 = .ok (.getfield 32, 3) := by decide +kernel
theorem dX2_readOrder_5 : decode cX2_readOrder 5 = .ok (.iconst 1, 1) := by decide +kernel
theorem dX2_readOrder_6 : decode cX2_readOrder 6 = .ok (.iadd, 1) := by decide +kernel
theorem dX2_readOrder_7 : decode cX2_readOrder 7 = .ok (.putfield 32, 3) := by decide +kernel
theorem dX2_readOrder_10 : decode cX2_readOrder 10 = .ok (.iload_n 1, 1) := by decide +kernel
theorem dX2_readOrder_11 : decode cX2_readOrder 11 = .ok (.invokestatic 43, 3) := by decide +kernel
theorem dX2_readOrder_14 : decode cX2_readOrder 14 = .ok (.istore_n 2, 1) := by decide +kernel
theorem dX2_readOrder_15 : decode cX2_readOrder 15 = .ok (.iconst 0, 1) := by decide +kernel
theorem dX2_readOrder_16 : decode cX2_readOrder 16 = .ok (.istore_n 3, 1) := by decide +kernel
theorem dX2_readOrder_17 : decode cX2_readOrder 17 = .ok (.iload_n 3, 1) := by decide +kernel
theorem dX2_readOrder_18 : decode cX2_readOrder 18 = .ok (.iload_n 2, 1) := by decide +kernel
theorem dX2_readOrder_19 : decode cX2_readOrder 19 = .ok (.if_icmp .ge 75, 3) := by decide +kernel
theorem dX2_readOrder_22 : decode cX2_readOrder 22 = .ok (.iload_n 3, 1) := by decide +kernel
theorem dX2_readOrder_23 : decode cX2_readOrder 23 = .ok (.iconst 3, 1) := by decide +kernel
theorem dX2_readOrder_24 : decode cX2_readOrder 24 = .ok (.if_icmp .ge 70, 3) := by decide +kernel
theorem dX2_readOrder_27 : decode cX2_readOrder 27 = .ok (.iload_n 3, 1) := by decide +kernel
theorem dX2_readOrder_28 : decode cX2_readOrder 28 = .ok (.iload_n 2, 1) := by decide +kernel
theorem dX2_readOrder_29 : decode cX2_readOrder 29 = .ok (.iconst 1, 1) := by decide +kernel
theorem dX2_readOrder_30 : decode cX2_readOrder 30 = .ok (.isub, 1) := by decide +kernel
theorem dX2_readOrder_31 : decode cX2_readOrder 31 = .ok (.if_icmp .ne 8, 3) := by decide +kernel
theorem dX2_readOrder_34 : decode cX2_readOrder 34 = .ok (.bipush 59, 2) := by decide +kernel
theorem dX2_readOrder_36 : decode cX2_readOrder 36 = .ok (.goto 5, 3) := by decide +kernel
theorem dX2_readOrder_39 : decode cX2_readOrder 39 = .ok (.bipush 44, 2) := by decide +kernel
theorem dX2_readOrder_41 : decode cX2_readOrder 41 = .ok (.istore 4, 2) := by decide +kernel
theorem dX2_readOrder_43 : decode cX2_readOrder 43 = .ok (.aload_n 0, 1) := by decide +kernel
theorem dX2_readOrder_44 : decode cX2_readOrder 44 = .ok (.iload_n 3, 1) := by decide +kernel
theorem dX2_readOrder_45 : decode cX2_readOrder 45 = .ok (.invokevirtual 47, 3) := by decide +kernel
theorem dX2_readOrder_48 : decode cX2_readOrder 48 = .ok (.ifCond .eq 28, 3) := by decide +kernel
theorem dX2_readOrder_51 : decode cX2_readOrder 51 = .ok (.aload_n 0, 1) := by decide +kernel
theorem dX2_readOrder_52 : decode cX2_readOrder 52 = .ok (.getfield 32, 3) := by decide +kernel
theorem dX2_readOrder_55 : decode cX2_readOrder 55 = .ok (.aload_n 0, 1) := by decide +kernel
theorem dX2_readOrder_56 : decode cX2_readOrder 56 = .ok (.getfield 19, 3) := by decide +kernel
theorem dX2_readOrder_59 : decode cX2_readOrder 59 = .ok (.if_icmp .ge 17, 3) := by decide +kernel
theorem dX2_readOrder_62 : decode cX2_readOrder 62 = .ok (.aload_n 0, 1) := by decide +kernel
theorem dX2_readOrder_63 : decode cX2_readOrder 63 = .ok (.getfield 9, 3) := by decide +kernel
theorem dX2_readOrder_66 : decode cX2_readOrder 66 = .ok (.aload_n 0, 1) := by decide +kernel
theorem dX2_readOrder_67 : decode cX2_readOrder 67 = .ok (.getfield 32, 3) := by decide +kernel
theorem dX2_readOrder_70 : decode cX2_readOrder 70 = .ok (.caload, 1) := by decide +kernel
theorem dX2_readOrder_71 : decode cX2_readOrder 71 = .ok (.iload 4, 2) := by decide +kernel
theorem dX2_readOrder_73 : decode cX2_readOrder 73 = .ok (.if_icmp .eq 5, 3) := by decide +kernel
theorem dX2_readOrder_76 : decode cX2_readOrder 76 = .ok (.iconst 0, 1) := by decide +kernel
theorem dX2_readOrder_77 : decode cX2_readOrder 77 = .ok (.ireturn, 1) := by decide +kernel
theorem dX2_readOrder_78 : decode cX2_readOrder 78 = .ok (.aload_n 0, 1) := by decide +kernel
theorem dX2_readOrder_79 : decode cX2_readOrder 79 = .ok (.dup, 1) := by decide +kernel
theorem dX2_readOrder_80 : decode cX2_readOrder 80 = .ok (.getfield 32, 3) := by decide +kernel
theorem dX2_readOrder_83 : decode cX2_readOrder 83 = .ok (.iconst 1, 1) := by decide +kernel
theorem dX2_readOrder_84 : decode cX2_readOrder 84 = .ok (.iadd, 1) := by decide +kernel
theorem dX2_readOrder_85 : decode cX2_readOrder 85 = .ok (.putfield 32, 3) := by decide +kernel
theorem dX2_readOrder_88 : decode cX2_readOrder 88 = .ok (.iinc 3 1, 3) := by decide +kernel
theorem dX2_readOrder_91 : decode cX2_readOrder 91 = .ok (.goto (-74), 3) := by decide +kernel
theorem dX2_readOrder_94 : decode cX2_readOrder 94 = .ok (.iload_n 2, 1) := by decide +kernel
theorem dX2_readOrder_95 : decode cX2_readOrder 95 = .ok (.ifCond .le 7, 3) := by decide +kernel
theorem dX2_readOrder_98 : decode cX2_readOrder 98 = .ok (.iconst 1, 1) := by decide +kernel
theorem dX2_readOrder_99 : decode cX2_readOrder 99 = .ok (.goto 4, 3) := by decide +kernel
theorem dX2_readOrder_102 : decode cX2_readOrder 102 = .ok (.iconst 0, 1) := by decide +kernel
theorem dX2_readOrder_103 : decode cX2_readOrder 103 = .ok (.ireturn, 1) := by decide +kernel
set_option maxRecDepth 20000 in
theorem ggX2_readNumber_X2_isDigit : GoodIn wsX2_readNumber wsX2_isDigit := goodIn_r _ [8] (by decide +kernel) (by decide +kernel)
set_option maxRecDepth 20000 in
theorem gX2_readNumber_X2_isDigit : GoodIn wsX2_readNumber (va_wsS RX2 51 yX2_isDigit wsX2_isDigit) := goodIn_app (goodIn_of _ (by decide +kernel)) ggX2_readNumber_X2_isDigit
theorem dX2_readNumber_0 : decode cX2_readNumber 0 = .ok (.iconst 0, 1) := by decide +kernel
theorem dX2_readNumber_1 : decode cX2_readNumber 1 = .ok (.istore_n 2, 1) := by decide +kernel
theorem dX2_readNumber_2 : decode cX2_readNumber 2 = .ok (.iconst 0, 1) := by decide +kernel
theorem dX2_readNumber_3 : decode cX2_readNumber 3 = .ok (.istore_n 3, 1) := by decide +kernel
theorem dX2_readNumber_4 : decode cX2_readNumber 4 = .ok (.iload_n 3, 1) := by decide +kernel
theorem dX2_readNumber_5 : decode cX2_readNumber 5 = .ok (.iconst 3, 1) := by decide +kernel
theorem dX2_readNumber_6 : decode cX2_readNumber 6 = .ok (.if_icmp .ge 63, 3) := by decide +kernel
theorem dX2_readNumber_9 : decode cX2_readNumber 9 = .ok (.aload_n 0, 1) := by decide +kernel
theorem dX2_readNumber_10 : decode cX2_readNumber 10 = .ok (.getfield 32, 3) := by decide +kernel
theorem dX2_readNumber_13 : decode cX2_readNumber 13 = .ok (.aload_n 0, 1) := by decide +kernel
theorem dX2_readNumber_14 : decode cX2_readNumber 14 = .ok (.getfield 19, 3) := by decide +kernel
theorem dX2_readNumber_17 : decode cX2_readNumber 17 = .ok (.if_icmp .ge 52, 3) := by decide +kernel
theorem dX2_readNumber_20 : decode cX2_readNumber 20 = .ok (.aload_n 0, 1) := by decide +kernel
theorem dX2_readNumber_21 : decode cX2_readNumber 21 = .ok (.getfield 9, 3) := by decide +kernel
theorem dX2_readNumber_24 : decode cX2_readNumber 24 = .ok (.aload_n 0, 1) := by decide +kernel
theorem dX2_readNumber_25 : decode cX2_readNumber 25 = .ok (.getfield 32, 3) := by decide +kernel
theorem dX2_readNumber_28 : decode cX2_readNumber 28 = .ok (.caload, 1) := by decide +kernel
theorem dX2_readNumber_29 : decode cX2_readNumber 29 = .ok (.invokestatic 51, 3) := by decide +kernel
theorem dX2_readNumber_32 : decode cX2_readNumber 32 = .ok (.ifCond .eq 37, 3) := by decide +kernel
theorem dX2_readNumber_35 : decode cX2_readNumber 35 = .ok (.iload_n 2, 1) := by decide +kernel
theorem dX2_readNumber_36 : decode cX2_readNumber 36 = .ok (.bipush 10, 2) := by decide +kernel
theorem dX2_readNumber_38 : decode cX2_readNumber 38 = .ok (.imul, 1) := by decide +kernel
theorem dX2_readNumber_39 : decode cX2_readNumber 39 = .ok (.aload_n 0, 1) := by decide +kernel
theorem dX2_readNumber_40 : decode cX2_readNumber 40 = .ok (.getfield 9, 3) := by decide +kernel
theorem dX2_readNumber_43 : decode cX2_readNumber 43 = .ok (.aload_n 0, 1) := by decide +kernel
theorem dX2_readNumber_44 : decode cX2_readNumber 44 = .ok (.getfield 32, 3) := by decide +kernel
theorem dX2_readNumber_47 : decode cX2_readNumber 47 = .ok (.caload, 1) := by decide +kernel
theorem dX2_readNumber_48 : decode cX2_readNumber 48 = .ok (.bipush 48, 2) := by decide +kernel
theorem dX2_readNumber_50 : decode cX2_readNumber 50 = .ok (.isub, 1) := by decide +kernel
theorem dX2_readNumber_51 : decode cX2_readNumber 51 = .ok (.iadd, 1) := by decide +kernel
theorem dX2_readNumber_52 : decode cX2_readNumber 52 = .ok (.istore_n 2, 1) := by decide +kernel
theorem dX2_readNumber_53 : decode cX2_readNumber 53 = .ok (.iinc 3 1, 3) := by decide +kernel
theorem dX2_readNumber_56 : decode cX2_readNumber 56 = .ok (.aload_n 0, 1) := by decide +kernel
theorem dX2_readNumber_57 : decode cX2_readNumber 57 = .ok (.dup, 1) := by decide +kernel
theorem dX2_readNumber_58 : decode cX2_readNumber 58 = .ok (.getfield 32, 3) := by decide +kernel
theorem dX2_readNumber_61 : decode cX2_readNumber 61 = .ok (.iconst 1, 1) := by decide +kernel
theorem dX2_readNumber_62 : decode cX2_readNumber 62 = .ok (.iadd, 1) := by decide +kernel
theorem dX2_readNumber_63 : decode cX2_readNumber 63 = .ok (.putfield 32, 3) := by decide +kernel
theorem dX2_readNumber_66 : decode cX2_readNumber 66 = .ok (.goto (-62), 3) := by decide +kernel
theorem dX2_readNumber_69 : decode cX2_readNumber 69 = .ok (.aload_n 0, 1) := by decide +kernel
theorem dX2_readNumber_70 : decode cX2_readNumber 70 = .ok (.getfield 15, 3) := by decide +kernel
theorem dX2_readNumber_73 : decode cX2_readNumber 73 = .ok (.iload_n 1, 1) := by decide +kernel
theorem dX2_readNumber_74 : decode cX2_readNumber 74 = .ok (.iload_n 2, 1) := by decide +kernel
theorem dX2_readNumber_75 : decode cX2_readNumber 75 = .ok (.iastore, 1) := by decide +kernel
theorem dX2_readNumber_76 : decode cX2_readNumber 76 = .ok (.iload_n 3, 1) := by decide +kernel
theorem dX2_readNumber_77 : decode cX2_readNumber 77 = .ok (.ifCond .le 7, 3) := by decide +kernel
theorem dX2_readNumber_80 : decode cX2_readNumber 80 = .ok (.iconst 1, 1) := by decide +kernel
theorem dX2_readNumber_81 : decode cX2_readNumber 81 = .ok (.goto 4, 3) := by decide +kernel
theorem dX2_readNumber_84 : decode cX2_readNumber 84 = .ok (.iconst 0, 1) := by decide +kernel
theorem dX2_readNumber_85 : decode cX2_readNumber 85 = .ok (.ireturn, 1) := by decide +kernel
theorem dX2_isDigit_0 : decode cX2_isDigit 0 = .ok (.iload_n 0, 1) := by decide +kernel
theorem dX2_isDigit_1 : decode cX2_isDigit 1 = .ok (.bipush 48, 2) := by decide +kernel
theorem dX2_isDigit_3 : decode cX2_isDigit 3 = .ok (.if_icmp .lt 13, 3) := by decide +kernel
theorem dX2_isDigit_6 : decode cX2_isDigit 6 = .ok (.iload_n 0, 1) := by decide +kernel
theorem dX2_isDigit_7 : decode cX2_isDigit 7 = .ok (.bipush 57, 2) := by decide +kernel
theorem dX2_isDigit_9 : decode cX2_isDigit 9 = .ok (.if_icmp .gt 7, 3) := by decide +kernel
theorem dX2_isDigit_12 : decode cX2_isDigit 12 = .ok (.iconst 1, 1) := by decide +kernel
theorem dX2_isDigit_13 : decode cX2_isDigit 13 = .ok (.goto 4, 3) := by decide +kernel
theorem dX2_isDigit_16 : decode cX2_isDigit 16 = .ok (.iconst 0, 1) := by decide +kernel
theorem dX2_isDigit_17 : decode cX2_isDigit 17 = .ok (.ireturn, 1) := by decide +kernel
set_option maxRecDepth 20000 in
theorem ggX2_doOrder_X0_takeDraw : GoodIn wsX2_doOrder wsX0_takeDraw := goodIn_r _ [6, 7, 8, 9, 5, 10, 11, 12, 13, 14, 15, 16, 17, 18, 19, 20, 21, 22, 23, 24, 25, 26, 27, 28, 29, 30, 31, 32, 101, 102, 103, 104, 105, 106, 107, 108, 109, 110] (by decide +kernel) (by decide +kernel)
set_option maxRecDepth 20000 in
theorem gX2_doOrder_X0_takeDraw : GoodIn wsX2_doOrder (wsV RX2 54 RX0 yX0_takeDraw wsX0_takeDraw) := goodIn_app (goodIn_of _ (by decide +kernel)) ggX2_doOrder_X0_takeDraw
set_option maxRecDepth 20000 in
theorem ggX2_doOrder_X0_takeRequest : GoodIn wsX2_doOrder wsX0_takeRequest := goodIn_r _ [36, 37, 38, 39, 7, 8, 9, 5, 10, 11, 12, 13, 14, 15, 16, 17, 18, 19, 20, 21, 22, 23, 24, 25, 26, 27, 28, 29, 30, 31, 32, 101, 102, 103, 104, 105, 106, 107, 108, 109, 110] (by decide +kernel) (by decide +kernel)
set_option maxRecDepth 20000 in
theorem gX2_doOrder_X0_takeRequest : GoodIn wsX2_doOrder (wsV RX2 60 RX0 yX0_takeRequest wsX0_takeRequest) := goodIn_app (goodIn_of _ (by decide +kernel)) ggX2_doOrder_X0_takeRequest
set_option maxRecDepth 20000 in
theorem ggX2_doOrder_X0_passTicks : GoodIn wsX2_doOrder wsX0_passTicks := goodIn_r _ [43, 39, 44, 45, 46, 47, 5, 48, 49, 50, 51, 52, 53, 11, 20, 21, 22, 23, 24, 54, 55, 56, 57, 58, 59, 60, 61, 62, 63, 64, 65, 66, 67, 68, 69, 70, 71, 7, 8, 9, 10, 72, 73, 74, 75, 76, 77, 78, 79, 80, 81, 82, 83, 37, 38, 84, 15, 16, 17, 18, 19, 25, 26, 27, 28, 29, 30, 31, 32, 85, 86, 87, 88, 101, 102, 103, 104, 105, 106, 107, 108, 109, 110] (by decide +kernel) (by decide +kernel)
set_option maxRecDepth 20000 in
theorem gX2_doOrder_X0_passTicks : GoodIn wsX2_doOrder (wsV RX2 63 RX0 yX0_passTicks wsX0_passTicks) := goodIn_app (goodIn_of _ (by decide +kernel)) ggX2_doOrder_X0_passTicks
set_option maxRecDepth 20000 in
theorem ggX2_doOrder_X0_addDrought : GoodIn wsX2_doOrder wsX0_addDrought := goodIn_r _ [92, 39, 93, 58, 59, 7, 8, 9, 5, 10, 11, 101, 102, 103, 104, 105, 106, 107, 108, 109, 110] (by decide +kernel) (by decide +kernel)
set_option maxRecDepth 20000 in
theorem gX2_doOrder_X0_addDrought : GoodIn wsX2_doOrder (wsV RX2 70 RX0 yX0_addDrought wsX0_addDrought) := goodIn_app (goodIn_of _ (by decide +kernel)) ggX2_doOrder_X0_addDrought
theorem dX2_doOrder_0 : decode cX2_doOrder 0 = .ok (.iload_n 2, 1) := by decide +kernel
theorem dX2_doOrder_1 : decode cX2_doOrder 1 = .ok (.lookupswitch 121 #[(100, 43), (110, 88), (114, 60), (116, 77)], 43) := by decide +kernel
theorem dX2_doOrder_44 : decode cX2_doOrder 44 = .ok (.aload_n 1, 1) := by decide +kernel
theorem dX2_doOrder_45 : decode cX2_doOrder 45 = .ok (.aload_n 0, 1) := by decide +kernel
theorem dX2_doOrder_46 : decode cX2_doOrder 46 = .ok (.getfield 15, 3) := by decide +kernel
theorem dX2_doOrder_49 : decode cX2_doOrder 49 = .ok (.iconst 0, 1) := by decide +kernel
theorem dX2_doOrder_50 : decode cX2_doOrder 50 = .ok (.iaload, 1) := by decide +kernel
theorem dX2_doOrder_51 : decode cX2_doOrder 51 = .ok (.aload_n 0, 1) := by decide +kernel
theorem dX2_doOrder_52 : decode cX2_doOrder 52 = .ok (.getfield 15, 3) := by decide +kernel
theorem dX2_doOrder_55 : decode cX2_doOrder 55 = .ok (.iconst 1, 1) := by decide +kernel
theorem dX2_doOrder_56 : decode cX2_doOrder 56 = .ok (.iaload, 1) := by decide +kernel
theorem dX2_doOrder_57 : decode cX2_doOrder 57 = .ok (.invokevirtual 54, 3) := by decide +kernel
theorem dX2_doOrder_60 : decode cX2_doOrder 60 = .ok (.ireturn, 1) := by decide +kernel
theorem dX2_doOrder_61 : decode cX2_doOrder 61 = .ok (.aload_n 1, 1) := by decide +kernel
theorem dX2_doOrder_62 : decode cX2_doOrder 62 = .ok (.aload_n 0, 1) := by decide +kernel
theorem dX2_doOrder_63 : decode cX2_doOrder 63 = .ok (.getfield 15, 3) := by decide +kernel
theorem dX2_doOrder_66 : decode cX2_doOrder 66 = .ok (.iconst 0, 1) := by decide +kernel
theorem dX2_doOrder_67 : decode cX2_doOrder 67 = .ok (.iaload, 1) := by decide +kernel
theorem dX2_doOrder_68 : decode cX2_doOrder 68 = .ok (.aload_n 0, 1) := by decide +kernel
theorem dX2_doOrder_69 : decode cX2_doOrder 69 = .ok (.getfield 15, 3) := by decide +kernel
theorem dX2_doOrder_72 : decode cX2_doOrder 72 = .ok (.iconst 1, 1) := by decide +kernel
theorem dX2_doOrder_73 : decode cX2_doOrder 73 = .ok (.iaload, 1) := by decide +kernel
theorem dX2_doOrder_74 : decode cX2_doOrder 74 = .ok (.invokevirtual 60, 3) := by decide +kernel
theorem dX2_doOrder_77 : decode cX2_doOrder 77 = .ok (.ireturn, 1) := by decide +kernel
theorem dX2_doOrder_78 : decode cX2_doOrder 78 = .ok (.aload_n 1, 1) := by decide +kernel
theorem dX2_doOrder_79 : decode cX2_doOrder 79 = .ok (.aload_n 0, 1) := by decide +kernel
theorem dX2_doOrder_80 : decode cX2_doOrder 80 = .ok (.getfield 15, 3) := by decide +kernel
theorem dX2_doOrder_83 : decode cX2_doOrder 83 = .ok (.iconst 0, 1) := by decide +kernel
theorem dX2_doOrder_84 : decode cX2_doOrder 84 = .ok (.iaload, 1) := by decide +kernel
theorem dX2_doOrder_85 : decode cX2_doOrder 85 = .ok (.invokevirtual 63, 3) := by decide +kernel
theorem dX2_doOrder_88 : decode cX2_doOrder 88 = .ok (.ireturn, 1) := by decide +kernel
theorem dX2_doOrder_89 : decode cX2_doOrder 89 = .ok (.aload_n 1, 1) := by decide +kernel
theorem dX2_doOrder_90 : decode cX2_doOrder 90 = .ok (.aload_n 0, 1) := by decide +kernel
theorem dX2_doOrder_91 : decode cX2_doOrder 91 = .ok (.getfield 15, 3) := by decide +kernel
theorem dX2_doOrder_94 : decode cX2_doOrder 94 = .ok (.iconst 0, 1) := by decide +kernel
theorem dX2_doOrder_95 : decode cX2_doOrder 95 = .ok (.iaload, 1) := by decide +kernel
theorem dX2_doOrder_96 : decode cX2_doOrder 96 = .ok (.aload_n 1, 1) := by decide +kernel
theorem dX2_doOrder_97 : decode cX2_doOrder 97 = .ok (.getfield 67, 3) := by decide +kernel
theorem dX2_doOrder_100 : decode cX2_doOrder 100 = .ok (.aload_n 0, 1) := by decide +kernel
theorem dX2_doOrder_101 : decode cX2_doOrder 101 = .ok (.getfield 15, 3) := by decide +kernel
theorem dX2_doOrder_104 : decode cX2_doOrder 104 = .ok (.iconst 1, 1) := by decide +kernel
theorem dX2_doOrder_105 : decode cX2_doOrder 105 = .ok (.iaload, 1) := by decide +kernel
theorem dX2_doOrder_106 : decode cX2_doOrder 106 = .ok (.iadd, 1) := by decide +kernel
theorem dX2_doOrder_107 : decode cX2_doOrder 107 = .ok (.aload_n 1, 1) := by decide +kernel
theorem dX2_doOrder_108 : decode cX2_doOrder 108 = .ok (.getfield 67, 3) := by decide +kernel
theorem dX2_doOrder_111 : decode cX2_doOrder 111 = .ok (.aload_n 0, 1) := by decide +kernel
theorem dX2_doOrder_112 : decode cX2_doOrder 112 = .ok (.getfield 15, 3) := by decide +kernel
theorem dX2_doOrder_115 : decode cX2_doOrder 115 = .ok (.iconst 2, 1) := by decide +kernel
theorem dX2_doOrder_116 : decode cX2_doOrder 116 = .ok (.iaload, 1) := by decide +kernel
theorem dX2_doOrder_117 : decode cX2_doOrder 117 = .ok (.iadd, 1) := by decide +kernel
theorem dX2_doOrder_118 : decode cX2_doOrder 118 = .ok (.invokevirtual 70, 3) := by decide +kernel
theorem dX2_doOrder_121 : decode cX2_doOrder 121 = .ok (.ireturn, 1) := by decide +kernel
theorem dX2_doOrder_122 : decode cX2_doOrder 122 = .ok (.iconst (-1), 1) := by decide +kernel
theorem dX2_doOrder_123 : decode cX2_doOrder 123 = .ok (.ireturn, 1) := by decide +kernel
set_option maxRecDepth 20000 in
theorem ggX3_init_X0_init : GoodIn wsX3_init wsX0_init := goodIn_r _ [19, 20, 2, 3, 21, 22, 23, 24, 25, 26, 27, 41, 42, 43, 44, 45, 46, 47, 48, 49, 50] (by decide +kernel) (by decide +kernel)
set_option maxRecDepth 20000 in
theorem gX3_init_X0_init : GoodIn wsX3_init (wsX0_init) := ggX3_init_X0_init
set_option maxRecDepth 20000 in
theorem ggX3_init_X1_init : GoodIn wsX3_init wsX1_init := goodIn_r _ [30, 31, 2, 3, 32, 33, 5, 6, 34, 18, 19, 20, 21, 22, 23, 24, 25, 26, 27, 55, 56, 57, 41, 42, 43, 44, 45, 46, 47, 48, 49, 50] (by decide +kernel) (by decide +kernel)
set_option maxRecDepth 20000 in
theorem gX3_init_X1_init : GoodIn wsX3_init (wsX1_init) := ggX3_init_X1_init
set_option maxRecDepth 20000 in
theorem ggX3_init_X2_init : GoodIn wsX3_init wsX2_init := goodIn_r _ [36, 37, 2, 3, 38, 39, 22, 40, 58, 59, 60, 61, 62, 63, 64] (by decide +kernel) (by decide +kernel)
set_option maxRecDepth 20000 in
theorem gX3_init_X2_init_n28 : GoodIn wsX3_init (wsX2_init) := ggX3_init_X2_init
theorem dX3_init_0 : decode cX3_init 0 = .ok (.aload_n 0, 1) := by decide +kernel
theorem dX3_init_1 : decode cX3_init 1 = .ok (.invokespecial 3, 3) := by decide +kernel
theorem dX3_init_4 : decode cX3_init 4 = .ok (.aload_n 0, 1) := by decide +kernel
theorem dX3_init_5 : decode cX3_init 5 = .ok (.new 9, 3) := by decide +kernel
theorem dX3_init_8 : decode cX3_init 8 = .ok (.dup, 1) := by decide +kernel
theorem dX3_init_9 : decode cX3_init 9 = .ok (.invokespecial 11, 3) := by decide +kernel
theorem dX3_init_12 : decode cX3_init 12 = .ok (.putfield 12, 3) := by decide +kernel
theorem dX3_init_15 : decode cX3_init 15 = .ok (.aload_n 0, 1) := by decide +kernel
theorem dX3_init_16 : decode cX3_init 16 = .ok (.new 9, 3) := by decide +kernel
theorem dX3_init_19 : decode cX3_init 19 = .ok (.dup, 1) := by decide +kernel
theorem dX3_init_20 : decode cX3_init 20 = .ok (.invokespecial 11, 3) := by decide +kernel
theorem dX3_init_23 : decode cX3_init 23 = .ok (.putfield 16, 3) := by decide +kernel
theorem dX3_init_26 : decode cX3_init 26 = .ok (.aload_n 0, 1) := by decide +kernel
theorem dX3_init_27 : decode cX3_init 27 = .ok (.new 19, 3) := by decide +kernel
theorem dX3_init_30 : decode cX3_init 30 = .ok (.dup, 1) := by decide +kernel
theorem dX3_init_31 : decode cX3_init 31 = .ok (.invokespecial 21, 3) := by decide +kernel
theorem dX3_init_34 : decode cX3_init 34 = .ok (.putfield 22, 3) := by decide +kernel
theorem dX3_init_37 : decode cX3_init 37 = .ok (.aload_n 0, 1) := by decide +kernel
theorem dX3_init_38 : decode cX3_init 38 = .ok (.new 26, 3) := by decide +kernel
theorem dX3_init_41 : decode cX3_init 41 = .ok (.dup, 1) := by decide +kernel
theorem dX3_init_42 : decode cX3_init 42 = .ok (.invokespecial 28, 3) := by decide +kernel
theorem dX3_init_45 : decode cX3_init 45 = .ok (.putfield 29, 3) := by decide +kernel
theorem dX3_init_48 : decode cX3_init 48 = .ok (.return_, 1) := by decide +kernel
set_option maxRecDepth 20000 in
theorem ggX3_well_X1_note : GoodIn wsX3_well wsX1_note := goodIn_r _ [7, 8, 9, 10, 11, 12, 13, 14, 15, 16, 17, 18, 19, 20, 21, 22, 23, 24, 25, 26, 27, 28, 29, 30, 31, 32, 33, 34, 35, 57, 58, 59, 60, 61, 62, 63, 64, 65, 66, 67, 68, 69] (by decide +kernel) (by decide +kernel)
set_option maxRecDepth 20000 in
theorem gX3_well_X1_note : GoodIn wsX3_well (wsV RX3 33 RX1 yX1_note wsX1_note) := goodIn_app (goodIn_of _ (by decide +kernel)) ggX3_well_X1_note
set_option maxRecDepth 20000 in
theorem ggX3_well_X0_addWell : GoodIn wsX3_well wsX0_addWell := goodIn_r _ [39, 20, 16, 40, 41, 42, 14, 43, 60, 61, 62, 63, 64, 65, 66, 67, 68, 69] (by decide +kernel) (by decide +kernel)
set_option maxRecDepth 20000 in
theorem gX3_well_X0_addWell : GoodIn wsX3_well (wsV RX3 37 RX0 yX0_addWell wsX0_addWell) := goodIn_app (goodIn_of _ (by decide +kernel)) ggX3_well_X0_addWell
set_option maxRecDepth 20000 in
theorem ggX3_well_X3_keepIfDone : GoodIn wsX3_well wsX3_keepIfDone := goodIn_r _ [48, 1, 49, 50, 51, 6, 52, 10, 9, 53, 54, 55, 56, 57, 58, 59] (by decide +kernel) (by decide +kernel)
set_option maxRecDepth 20000 in
theorem gX3_well_X3_keepIfDone : GoodIn wsX3_well (wsV RX3 41 RX3 yX3_keepIfDone wsX3_keepIfDone) := goodIn_app (goodIn_of _ (by decide +kernel)) ggX3_well_X3_keepIfDone
theorem dX3_well_0 : decode cX3_well 0 = .ok (.aload_n 0, 1) := by decide +kernel
theorem dX3_well_1 : decode cX3_well 1 = .ok (.getfield 22, 3) := by decide +kernel
theorem dX3_well_4 : decode cX3_well 4 = .ok (.aload_n 0, 1) := by decide +kernel
theorem dX3_well_5 : decode cX3_well 5 = .ok (.getfield 12, 3) := by decide +kernel
theorem dX3_well_8 : decode cX3_well 8 = .ok (.invokevirtual 33, 3) := by decide +kernel
theorem dX3_well_11 : decode cX3_well 11 = .ok (.aload_n 0, 1) := by decide +kernel
theorem dX3_well_12 : decode cX3_well 12 = .ok (.aload_n 0, 1) := by decide +kernel
theorem dX3_well_13 : decode cX3_well 13 = .ok (.getfield 12, 3) := by decide +kernel
theorem dX3_well_16 : decode cX3_well 16 = .ok (.iload_n 1, 1) := by decide +kernel
theorem dX3_well_17 : decode cX3_well 17 = .ok (.iload_n 2, 1) := by decide +kernel
theorem dX3_well_18 : decode cX3_well 18 = .ok (.iload_n 3, 1) := by decide +kernel
theorem dX3_well_19 : decode cX3_well 19 = .ok (.iload 4, 2) := by decide +kernel
theorem dX3_well_21 : decode cX3_well 21 = .ok (.invokevirtual 37, 3) := by decide +kernel
theorem dX3_well_24 : decode cX3_well 24 = .ok (.invokevirtual 41, 3) := by decide +kernel
theorem dX3_well_27 : decode cX3_well 27 = .ok (.ireturn, 1) := by decide +kernel
set_option maxRecDepth 20000 in
theorem ggX3_drought_X1_note : GoodIn wsX3_drought wsX1_note := goodIn_r _ [7, 8, 9, 10, 11, 12, 13, 14, 15, 16, 17, 18, 19, 20, 21, 22, 23, 24, 25, 26, 27, 28, 29, 30, 31, 32, 33, 34, 35, 58, 59, 60, 61, 62, 63, 64, 65, 66, 67, 68, 69, 70] (by decide +kernel) (by decide +kernel)
set_option maxRecDepth 20000 in
theorem gX3_drought_X1_note : GoodIn wsX3_drought (wsV RX3 33 RX1 yX1_note wsX1_note) := goodIn_app (goodIn_of _ (by decide +kernel)) ggX3_drought_X1_note
set_option maxRecDepth 20000 in
theorem ggX3_drought_X0_addDrought : GoodIn wsX3_drought wsX0_addDrought := goodIn_r _ [39, 23, 40, 21, 17, 41, 42, 43, 14, 44, 20, 61, 62, 63, 64, 65, 66, 67, 68, 69, 70] (by decide +kernel) (by decide +kernel)
set_option maxRecDepth 20000 in
theorem gX3_drought_X0_addDrought : GoodIn wsX3_drought (wsV RX3 45 RX0 yX0_addDrought wsX0_addDrought) := goodIn_app (goodIn_of _ (by decide +kernel)) ggX3_drought_X0_addDrought
set_option maxRecDepth 20000 in
theorem ggX3_drought_X3_keepIfDone : GoodIn wsX3_drought wsX3_keepIfDone := goodIn_r _ [49, 1, 50, 51, 52, 6, 53, 10, 9, 54, 55, 56, 57, 58, 59, 60] (by decide +kernel) (by decide +kernel)
set_option maxRecDepth 20000 in
theorem gX3_drought_X3_keepIfDone : GoodIn wsX3_drought (wsV RX3 41 RX3 yX3_keepIfDone wsX3_keepIfDone) := goodIn_app (goodIn_of _ (by decide +kernel)) ggX3_drought_X3_keepIfDone
theorem dX3_drought_0 : decode cX3_drought 0 = .ok (.aload_n 0, 1) := by decide +kernel
theorem dX3_drought_1 : decode cX3_drought 1 = .ok (.getfield 22, 3) := by decide +kernel
theorem dX3_drought_4 : decode cX3_drought 4 = .ok (.aload_n 0, 1) := by decide +kernel
theorem dX3_drought_5 : decode cX3_drought 5 = .ok (.getfield 12, 3) := by decide +kernel
theorem dX3_drought_8 : decode cX3_drought 8 = .ok (.invokevirtual 33, 3) := by decide +kernel
theorem dX3_drought_11 : decode cX3_drought 11 = .ok (.aload_n 0, 1) := by decide +kernel
theorem dX3_drought_12 : decode cX3_drought 12 = .ok (.aload_n 0, 1) := by decide +kernel
theorem dX3_drought_13 : decode cX3_drought 13 = .ok (.getfield 12, 3) := by decide +kernel
theorem dX3_drought_16 : decode cX3_drought 16 = .ok (.iload_n 1, 1) := by decide +kernel
theorem dX3_drought_17 : decode cX3_drought 17 = .ok (.iload_n 2, 1) := by decide +kernel
theorem dX3_drought_18 : decode cX3_drought 18 = .ok (.iload_n 3, 1) := by decide +kernel
theorem dX3_drought_19 : decode cX3_drought 19 = .ok (.invokevirtual 45, 3) := by decide +kernel
theorem dX3_drought_22 : decode cX3_drought 22 = .ok (.invokevirtual 41, 3) := by decide +kernel
theorem dX3_drought_25 : decode cX3_drought 25 = .ok (.ireturn, 1) := by decide +kernel
theorem dX3_droughtOf_0 : decode cX3_droughtOf 0 = .ok (.iload_n 1, 1) := by decide +kernel
theorem dX3_droughtOf_1 : decode cX3_droughtOf 1 = .ok (.ifCond .lt 23, 3) := by decide +kernel
theorem dX3_droughtOf_4 : decode cX3_droughtOf 4 = .ok (.iload_n 1, 1) := by decide +kernel
theorem dX3_droughtOf_5 : decode cX3_droughtOf 5 = .ok (.aload_n 0, 1) := by decide +kernel
theorem dX3_droughtOf_6 : decode cX3_droughtOf 6 = .ok (.getfield 12, 3) := by decide +kernel
theorem dX3_droughtOf_9 : decode cX3_droughtOf 9 = .ok (.getfield 49, 3) := by decide +kernel
theorem dX3_droughtOf_12 : decode cX3_droughtOf 12 = .ok (.if_icmp .ge 12, 3) := by decide +kernel
theorem dX3_droughtOf_15 : decode cX3_droughtOf 15 = .ok (.iload_n 2, 1) := by decide +kernel
theorem dX3_droughtOf_16 : decode cX3_droughtOf 16 = .ok (.ifCond .lt 8, 3) := by decide +kernel
theorem dX3_droughtOf_19 : decode cX3_droughtOf 19 = .ok (.iload_n 2, 1) := by decide +kernel
theorem dX3_droughtOf_20 : decode cX3_droughtOf 20 = .ok (.iconst 3, 1) := by decide +kernel
theorem dX3_droughtOf_21 : decode cX3_droughtOf 21 = .ok (.if_icmp .lt 5, 3) := by decide +kernel
theorem dX3_droughtOf_24 : decode cX3_droughtOf 24 = .ok (.iconst (-1), 1) := by decide +kernel
theorem dX3_droughtOf_25 : decode cX3_droughtOf 25 = .ok (.ireturn, 1) := by decide +kernel
theorem dX3_droughtOf_26 : decode cX3_droughtOf 26 = .ok (.aload_n 0, 1) := by decide +kernel
theorem dX3_droughtOf_27 : decode cX3_droughtOf 27 = .ok (.getfield 12, 3) := by decide +kernel
theorem dX3_droughtOf_30 : decode cX3_droughtOf 30 = .ok (.getfield 53, 3) := by decide +kernel
theorem dX3_droughtOf_33 : decode cX3_droughtOf 33 = .ok (.iload_n 2, 1) := by decide +kernel
theorem dX3_droughtOf_34 : decode cX3_droughtOf 34 = .ok (.aaload, 1) := by decide +kernel
theorem dX3_droughtOf_35 : decode cX3_droughtOf 35 = .ok (.iload_n 1, 1) := by decide +kernel
theorem dX3_droughtOf_36 : decode cX3_droughtOf 36 = .ok (.iaload, 1) := by decide +kernel
theorem dX3_droughtOf_37 : decode cX3_droughtOf 37 = .ok (.ireturn, 1) := by decide +kernel
set_option maxRecDepth 20000 in
theorem ggX3_wellOf_X0_isWell : GoodIn wsX3_wellOf wsX0_isWell := goodIn_r _ [6, 7, 22, 23, 24, 25, 26, 27, 28, 29, 30, 31] (by decide +kernel) (by decide +kernel)
set_option maxRecDepth 20000 in
theorem gX3_wellOf_X0_isWell : GoodIn wsX3_wellOf (wsV RX3 57 RX0 yX0_isWell wsX0_isWell) := goodIn_app (goodIn_of _ (by decide +kernel)) ggX3_wellOf_X0_isWell
set_option maxRecDepth 20000 in
theorem ggX3_wellOf_X0_isDry : GoodIn wsX3_wellOf wsX0_isDry := goodIn_r _ [11, 12, 13, 14, 5, 15, 16, 17, 22, 23, 24, 25, 26, 27, 28, 29, 30, 31] (by decide +kernel) (by decide +kernel)
set_option maxRecDepth 20000 in
theorem gX3_wellOf_X0_isDry : GoodIn wsX3_wellOf (wsV RX3 64 RX0 yX0_isDry wsX0_isDry) := goodIn_app (goodIn_of _ (by decide +kernel)) ggX3_wellOf_X0_isDry
theorem dX3_wellOf_0 : decode cX3_wellOf 0 = .ok (.aload_n 0, 1) := by decide +kernel
theorem dX3_wellOf_1 : decode cX3_wellOf 1 = .ok (.getfield 12, 3) := by decide +kernel
theorem dX3_wellOf_4 : decode cX3_wellOf 4 = .ok (.iload_n 1, 1) := by decide +kernel
theorem dX3_wellOf_5 : decode cX3_wellOf 5 = .ok (.invokevirtual 57, 3) := by decide +kernel
theorem dX3_wellOf_8 : decode cX3_wellOf 8 = .ok (.ifCond .eq 13, 3) := by decide +kernel
theorem dX3_wellOf_11 : decode cX3_wellOf 11 = .ok (.iload_n 2, 1) := by decide +kernel
theorem dX3_wellOf_12 : decode cX3_wellOf 12 = .ok (.ifCond .lt 9, 3) := by decide +kernel
theorem dX3_wellOf_15 : decode cX3_wellOf 15 = .ok (.iload_n 2, 1) := by decide +kernel
theorem dX3_wellOf_16 : decode cX3_wellOf 16 = .ok (.bipush 13, 2) := by decide +kernel
theorem dX3_wellOf_18 : decode cX3_wellOf 18 = .ok (.if_icmp .le 5, 3) := by decide +kernel
theorem dX3_wellOf_21 : decode cX3_wellOf 21 = .ok (.iconst (-1), 1) := by decide +kernel
theorem dX3_wellOf_22 : decode cX3_wellOf 22 = .ok (.ireturn, 1) := by decide +kernel
theorem dX3_wellOf_23 : decode cX3_wellOf 23 = .ok (.iload_n 2, 1) := by decide +kernel
theorem dX3_wellOf_24 : decode cX3_wellOf 24 = .ok (.bipush 13, 2) := by decide +kernel
theorem dX3_wellOf_26 : decode cX3_wellOf 26 = .ok (.if_icmp .ne 29, 3) := by decide +kernel
theorem dX3_wellOf_29 : decode cX3_wellOf 29 = .ok (.aload_n 0, 1) := by decide +kernel
theorem dX3_wellOf_30 : decode cX3_wellOf 30 = .ok (.getfield 12, 3) := by decide +kernel
theorem dX3_wellOf_33 : decode cX3_wellOf 33 = .ok (.iload_n 1, 1) := by decide +kernel
theorem dX3_wellOf_34 : decode cX3_wellOf 34 = .ok (.aload_n 0, 1) := by decide +kernel
theorem dX3_wellOf_35 : decode cX3_wellOf 35 = .ok (.getfield 12, 3) := by decide +kernel
theorem dX3_wellOf_38 : decode cX3_wellOf 38 = .ok (.getfield 61, 3) := by decide +kernel
theorem dX3_wellOf_41 : decode cX3_wellOf 41 = .ok (.iconst 1, 1) := by decide +kernel
theorem dX3_wellOf_42 : decode cX3_wellOf 42 = .ok (.iadd, 1) := by decide +kernel
theorem dX3_wellOf_43 : decode cX3_wellOf 43 = .ok (.invokevirtual 64, 3) := by decide +kernel
theorem dX3_wellOf_46 : decode cX3_wellOf 46 = .ok (.ifCond .eq 7, 3) := by decide +kernel
theorem dX3_wellOf_49 : decode cX3_wellOf 49 = .ok (.iconst 1, 1) := by decide +kernel
theorem dX3_wellOf_50 : decode cX3_wellOf 50 = .ok (.goto 4, 3) := by decide +kernel
theorem dX3_wellOf_53 : decode cX3_wellOf 53 = .ok (.iconst 0, 1) := by decide +kernel
theorem dX3_wellOf_54 : decode cX3_wellOf 54 = .ok (.ireturn, 1) := by decide +kernel
theorem dX3_wellOf_55 : decode cX3_wellOf 55 = .ok (.iload_n 2, 1) := by decide +kernel
theorem dX3_wellOf_56 : decode cX3_wellOf 56 = .ok (.ifCond .ne 10, 3) := by decide +kernel
theorem dX3_wellOf_59 : decode cX3_wellOf 59 = .ok (.iload_n 1, 1) := by decide +kernel
theorem dX3_wellOf_60 : decode cX3_wellOf 60 = .ok (.ifCond .ne 6, 3) := by decide +kernel
theorem dX3_wellOf_63 : decode cX3_wellOf 63 = .ok (.bipush (-4), 2) := by decide +kernel
theorem dX3_wellOf_65 : decode cX3_wellOf 65 = .ok (.ireturn, 1) := by decide +kernel
theorem dX3_wellOf_66 : decode cX3_wellOf 66 = .ok (.aload_n 0, 1) := by decide +kernel
theorem dX3_wellOf_67 : decode cX3_wellOf 67 = .ok (.getfield 12, 3) := by decide +kernel
theorem dX3_wellOf_70 : decode cX3_wellOf 70 = .ok (.getfield 68, 3) := by decide +kernel
theorem dX3_wellOf_73 : decode cX3_wellOf 73 = .ok (.iload_n 2, 1) := by decide +kernel
theorem dX3_wellOf_74 : decode cX3_wellOf 74 = .ok (.aaload, 1) := by decide +kernel
theorem dX3_wellOf_75 : decode cX3_wellOf 75 = .ok (.iload_n 1, 1) := by decide +kernel
theorem dX3_wellOf_76 : decode cX3_wellOf 76 = .ok (.iaload, 1) := by decide +kernel
theorem dX3_wellOf_77 : decode cX3_wellOf 77 = .ok (.ireturn, 1) := by decide +kernel
set_option maxRecDepth 20000 in
theorem ggX3_aboveAt_X0_isWell : GoodIn wsX3_aboveAt wsX0_isWell := goodIn_r _ [6, 7, 22, 23, 24, 25, 26, 27, 28, 29, 30, 31] (by decide +kernel) (by decide +kernel)
set_option maxRecDepth 20000 in
theorem gX3_aboveAt_X0_isWell : GoodIn wsX3_aboveAt (wsV RX3 57 RX0 yX0_isWell wsX0_isWell) := goodIn_app (goodIn_of _ (by decide +kernel)) ggX3_aboveAt_X0_isWell
set_option maxRecDepth 20000 in
theorem ggX3_aboveAt_X0_wellAbove : GoodIn wsX3_aboveAt wsX0_wellAbove := goodIn_r _ [11, 12, 13, 14, 15, 16, 17, 3, 4, 5, 6, 7, 22, 23, 24, 25, 26, 27, 28, 29, 30, 31] (by decide +kernel) (by decide +kernel)
set_option maxRecDepth 20000 in
theorem gX3_aboveAt_X0_wellAbove : GoodIn wsX3_aboveAt (wsV RX3 71 RX0 yX0_wellAbove wsX0_wellAbove) := goodIn_app (goodIn_of _ (by decide +kernel)) ggX3_aboveAt_X0_wellAbove
theorem dX3_aboveAt_0 : decode cX3_aboveAt 0 = .ok (.aload_n 0, 1) := by decide +kernel
theorem dX3_aboveAt_1 : decode cX3_aboveAt 1 = .ok (.getfield 12, 3) := by decide +kernel
theorem dX3_aboveAt_4 : decode cX3_aboveAt 4 = .ok (.iload_n 1, 1) := by decide +kernel
theorem dX3_aboveAt_5 : decode cX3_aboveAt 5 = .ok (.invokevirtual 57, 3) := by decide +kernel
theorem dX3_aboveAt_8 : decode cX3_aboveAt 8 = .ok (.ifCond .eq 7, 3) := by decide +kernel
theorem dX3_aboveAt_11 : decode cX3_aboveAt 11 = .ok (.iload_n 2, 1) := by decide +kernel
theorem dX3_aboveAt_12 : decode cX3_aboveAt 12 = .ok (.ifCond .ge 5, 3) := by decide +kernel
theorem dX3_aboveAt_15 : decode cX3_aboveAt 15 = .ok (.iconst (-1), 1) := by decide +kernel
theorem dX3_aboveAt_16 : decode cX3_aboveAt 16 = .ok (.ireturn, 1) := by decide +kernel
theorem dX3_aboveAt_17 : decode cX3_aboveAt 17 = .ok (.aload_n 0, 1) := by decide +kernel
theorem dX3_aboveAt_18 : decode cX3_aboveAt 18 = .ok (.getfield 12, 3) := by decide +kernel
theorem dX3_aboveAt_21 : decode cX3_aboveAt 21 = .ok (.iload_n 1, 1) := by decide +kernel
theorem dX3_aboveAt_22 : decode cX3_aboveAt 22 = .ok (.iload_n 2, 1) := by decide +kernel
theorem dX3_aboveAt_23 : decode cX3_aboveAt 23 = .ok (.invokevirtual 71, 3) := by decide +kernel
theorem dX3_aboveAt_26 : decode cX3_aboveAt 26 = .ok (.istore_n 3, 1) := by decide +kernel
theorem dX3_aboveAt_27 : decode cX3_aboveAt 27 = .ok (.iload_n 3, 1) := by decide +kernel
theorem dX3_aboveAt_28 : decode cX3_aboveAt 28 = .ok (.iconst (-1), 1) := by decide +kernel
theorem dX3_aboveAt_29 : decode cX3_aboveAt 29 = .ok (.if_icmp .ne 8, 3) := by decide +kernel
theorem dX3_aboveAt_32 : decode cX3_aboveAt 32 = .ok (.bipush (-4), 2) := by decide +kernel
theorem dX3_aboveAt_34 : decode cX3_aboveAt 34 = .ok (.goto 4, 3) := by decide +kernel
theorem dX3_aboveAt_37 : decode cX3_aboveAt 37 = .ok (.iload_n 3, 1) := by decide +kernel
theorem dX3_aboveAt_38 : decode cX3_aboveAt 38 = .ok (.ireturn, 1) := by decide +kernel
set_option maxRecDepth 20000 in
theorem ggX3_draw_X1_note : GoodIn wsX3_draw wsX1_note := goodIn_r _ [7, 8, 9, 10, 11, 12, 13, 14, 15, 16, 17, 18, 19, 20, 21, 22, 23, 24, 25, 26, 27, 28, 29, 30, 31, 32, 33, 34, 35, 72, 73, 74, 75, 76, 77, 78, 79, 80, 81, 82, 83, 84] (by decide +kernel) (by decide +kernel)
set_option maxRecDepth 20000 in
theorem gX3_draw_X1_note : GoodIn wsX3_draw (wsV RX3 33 RX1 yX1_note wsX1_note) := goodIn_app (goodIn_of _ (by decide +kernel)) ggX3_draw_X1_note
set_option maxRecDepth 20000 in
theorem ggX3_draw_X0_takeDraw : GoodIn wsX3_draw wsX0_takeDraw := goodIn_r _ [39, 40, 41, 42, 14, 43, 20, 44, 45, 46, 47, 48, 49, 50, 51, 16, 28, 29, 30, 31, 52, 53, 54, 55, 56, 57, 58, 59, 75, 76, 77, 78, 79, 80, 81, 82, 83, 84] (by decide +kernel) (by decide +kernel)
set_option maxRecDepth 20000 in
theorem gX3_draw_X0_takeDraw : GoodIn wsX3_draw (wsV RX3 75 RX0 yX0_takeDraw wsX0_takeDraw) := goodIn_app (goodIn_of _ (by decide +kernel)) ggX3_draw_X0_takeDraw
set_option maxRecDepth 20000 in
theorem ggX3_draw_X3_keepIfDone : GoodIn wsX3_draw wsX3_keepIfDone := goodIn_r _ [63, 1, 64, 65, 66, 6, 67, 10, 9, 68, 69, 70, 71, 72, 73, 74] (by decide +kernel) (by decide +kernel)
set_option maxRecDepth 20000 in
theorem gX3_draw_X3_keepIfDone : GoodIn wsX3_draw (wsV RX3 41 RX3 yX3_keepIfDone wsX3_keepIfDone) := goodIn_app (goodIn_of _ (by decide +kernel)) ggX3_draw_X3_keepIfDone
theorem dX3_draw_0 : decode cX3_draw 0 = .ok (.aload_n 0, 1) := by decide +kernel
theorem dX3_draw_1 : decode cX3_draw 1 = .ok (.getfield 22, 3) := by decide +kernel
theorem dX3_draw_4 : decode cX3_draw 4 = .ok (.aload_n 0, 1) := by decide +kernel
theorem dX3_draw_5 : decode cX3_draw 5 = .ok (.getfield 12, 3) := by decide +kernel
theorem dX3_draw_8 : decode cX3_draw 8 = .ok (.invokevirtual 33, 3) := by decide +kernel
theorem dX3_draw_11 : decode cX3_draw 11 = .ok (.aload_n 0, 1) := by decide +kernel
theorem dX3_draw_12 : decode cX3_draw 12 = .ok (.aload_n 0, 1) := by decide +kernel
theorem dX3_draw_13 : decode cX3_draw 13 = .ok (.getfield 12, 3) := by decide +kernel
theorem dX3_draw_16 : decode cX3_draw 16 = .ok (.iload_n 1, 1) := by decide +kernel
theorem dX3_draw_17 : decode cX3_draw 17 = .ok (.iload_n 2, 1) := by decide +kernel
theorem dX3_draw_18 : decode cX3_draw 18 = .ok (.invokevirtual 75, 3) := by decide +kernel
theorem dX3_draw_21 : decode cX3_draw 21 = .ok (.invokevirtual 41, 3) := by decide +kernel
theorem dX3_draw_24 : decode cX3_draw 24 = .ok (.ireturn, 1) := by decide +kernel
set_option maxRecDepth 20000 in
theorem ggX3_request_X1_note : GoodIn wsX3_request wsX1_note := goodIn_r _ [7, 8, 9, 10, 11, 12, 13, 14, 15, 16, 17, 18, 19, 20, 21, 22, 23, 24, 25, 26, 27, 28, 29, 30, 31, 32, 33, 34, 35, 72, 73, 74, 75, 76, 77, 78, 79, 80, 81, 82, 83, 84] (by decide +kernel) (by decide +kernel)
set_option maxRecDepth 20000 in
theorem gX3_request_X1_note : GoodIn wsX3_request (wsV RX3 33 RX1 yX1_note wsX1_note) := goodIn_app (goodIn_of _ (by decide +kernel)) ggX3_request_X1_note
set_option maxRecDepth 20000 in
theorem ggX3_request_X0_takeRequest : GoodIn wsX3_request wsX0_takeRequest := goodIn_r _ [39, 22, 18, 23, 40, 41, 42, 14, 43, 20, 44, 45, 46, 47, 48, 49, 50, 51, 16, 28, 29, 30, 31, 52, 53, 54, 55, 56, 57, 58, 59, 75, 76, 77, 78, 79, 80, 81, 82, 83, 84] (by decide +kernel) (by decide +kernel)
set_option maxRecDepth 20000 in
theorem gX3_request_X0_takeRequest : GoodIn wsX3_request (wsV RX3 78 RX0 yX0_takeRequest wsX0_takeRequest) := goodIn_app (goodIn_of _ (by decide +kernel)) ggX3_request_X0_takeRequest
set_option maxRecDepth 20000 in
theorem ggX3_request_X3_keepIfDone : GoodIn wsX3_request wsX3_keepIfDone := goodIn_r _ [63, 1, 64, 65, 66, 6, 67, 10, 9, 68, 69, 70, 71, 72, 73, 74] (by decide +kernel) (by decide +kernel)
set_option maxRecDepth 20000 in
theorem gX3_request_X3_keepIfDone : GoodIn wsX3_request (wsV RX3 41 RX3 yX3_keepIfDone wsX3_keepIfDone) := goodIn_app (goodIn_of _ (by decide +kernel)) ggX3_request_X3_keepIfDone
theorem dX3_request_0 : decode cX3_request 0 = .ok (.aload_n 0, 1) := by decide +kernel
theorem dX3_request_1 : decode cX3_request 1 = .ok (.getfield 22, 3) := by decide +kernel
theorem dX3_request_4 : decode cX3_request 4 = .ok (.aload_n 0, 1) := by decide +kernel
theorem dX3_request_5 : decode cX3_request 5 = .ok (.getfield 12, 3) := by decide +kernel
theorem dX3_request_8 : decode cX3_request 8 = .ok (.invokevirtual 33, 3) := by decide +kernel
theorem dX3_request_11 : decode cX3_request 11 = .ok (.aload_n 0, 1) := by decide +kernel
theorem dX3_request_12 : decode cX3_request 12 = .ok (.aload_n 0, 1) := by decide +kernel
theorem dX3_request_13 : decode cX3_request 13 = .ok (.getfield 12, 3) := by decide +kernel
theorem dX3_request_16 : decode cX3_request 16 = .ok (.iload_n 1, 1) := by decide +kernel
theorem dX3_request_17 : decode cX3_request 17 = .ok (.iload_n 2, 1) := by decide +kernel
theorem dX3_request_18 : decode cX3_request 18 = .ok (.invokevirtual 78, 3) := by decide +kernel
theorem dX3_request_21 : decode cX3_request 21 = .ok (.invokevirtual 41, 3) := by decide +kernel
theorem dX3_request_24 : decode cX3_request 24 = .ok (.ireturn, 1) := by decide +kernel
set_option maxRecDepth 20000 in
theorem ggX3_cancel_X1_note : GoodIn wsX3_cancel wsX1_note := goodIn_r _ [7, 8, 9, 10, 11, 12, 13, 14, 15, 16, 17, 18, 19, 20, 21, 22, 23, 24, 25, 26, 27, 28, 29, 30, 31, 32, 33, 34, 35, 61, 62, 63, 64, 65, 66, 67, 68, 69, 70, 71, 72, 73] (by decide +kernel) (by decide +kernel)
set_option maxRecDepth 20000 in
theorem gX3_cancel_X1_note : GoodIn wsX3_cancel (wsV RX3 33 RX1 yX1_note wsX1_note) := goodIn_app (goodIn_of _ (by decide +kernel)) ggX3_cancel_X1_note
set_option maxRecDepth 20000 in
theorem ggX3_cancel_X0_dropRequest : GoodIn wsX3_cancel wsX0_dropRequest := goodIn_r _ [39, 18, 22, 40, 41, 42, 14, 43, 44, 45, 46, 47, 64, 65, 66, 67, 68, 69, 70, 71, 72, 73] (by decide +kernel) (by decide +kernel)
set_option maxRecDepth 20000 in
theorem gX3_cancel_X0_dropRequest : GoodIn wsX3_cancel (wsV RX3 81 RX0 yX0_dropRequest wsX0_dropRequest) := goodIn_app (goodIn_of _ (by decide +kernel)) ggX3_cancel_X0_dropRequest
set_option maxRecDepth 20000 in
theorem ggX3_cancel_X3_keepIfDone : GoodIn wsX3_cancel wsX3_keepIfDone := goodIn_r _ [52, 1, 53, 54, 55, 6, 56, 10, 9, 57, 58, 59, 60, 61, 62, 63] (by decide +kernel) (by decide +kernel)
set_option maxRecDepth 20000 in
theorem gX3_cancel_X3_keepIfDone : GoodIn wsX3_cancel (wsV RX3 41 RX3 yX3_keepIfDone wsX3_keepIfDone) := goodIn_app (goodIn_of _ (by decide +kernel)) ggX3_cancel_X3_keepIfDone
theorem dX3_cancel_0 : decode cX3_cancel 0 = .ok (.aload_n 0, 1) := by decide +kernel
theorem dX3_cancel_1 : decode cX3_cancel 1 = .ok (.getfield 22, 3) := by decide +kernel
theorem dX3_cancel_4 : decode cX3_cancel 4 = .ok (.aload_n 0, 1) := by decide +kernel
theorem dX3_cancel_5 : decode cX3_cancel 5 = .ok (.getfield 12, 3) := by decide +kernel
theorem dX3_cancel_8 : decode cX3_cancel 8 = .ok (.invokevirtual 33, 3) := by decide +kernel
theorem dX3_cancel_11 : decode cX3_cancel 11 = .ok (.aload_n 0, 1) := by decide +kernel
theorem dX3_cancel_12 : decode cX3_cancel 12 = .ok (.aload_n 0, 1) := by decide +kernel
theorem dX3_cancel_13 : decode cX3_cancel 13 = .ok (.getfield 12, 3) := by decide +kernel
theorem dX3_cancel_16 : decode cX3_cancel 16 = .ok (.iload_n 1, 1) := by decide +kernel
theorem dX3_cancel_17 : decode cX3_cancel 17 = .ok (.invokevirtual 81, 3) := by decide +kernel
theorem dX3_cancel_20 : decode cX3_cancel 20 = .ok (.invokevirtual 41, 3) := by decide +kernel
theorem dX3_cancel_23 : decode cX3_cancel 23 = .ok (.ireturn, 1) := by decide +kernel
set_option maxRecDepth 20000 in
theorem ggX3_requestAt_X0_isPlace : GoodIn wsX3_requestAt wsX0_isPlace := goodIn_r _ [6, 7, 12, 13, 14, 15, 16, 17, 18, 19, 20, 21] (by decide +kernel) (by decide +kernel)
set_option maxRecDepth 20000 in
theorem gX3_requestAt_X0_isPlace : GoodIn wsX3_requestAt (wsV RX3 84 RX0 yX0_isPlace wsX0_isPlace) := goodIn_app (goodIn_of _ (by decide +kernel)) ggX3_requestAt_X0_isPlace
theorem dX3_requestAt_0 : decode cX3_requestAt 0 = .ok (.aload_n 0, 1) := by decide +kernel
theorem dX3_requestAt_1 : decode cX3_requestAt 1 = .ok (.getfield 12, 3) := by decide +kernel
theorem dX3_requestAt_4 : decode cX3_requestAt 4 = .ok (.iload_n 1, 1) := by decide +kernel
theorem dX3_requestAt_5 : decode cX3_requestAt 5 = .ok (.invokevirtual 84, 3) := by decide +kernel
theorem dX3_requestAt_8 : decode cX3_requestAt 8 = .ok (.ifCond .eq 12, 3) := by decide +kernel
theorem dX3_requestAt_11 : decode cX3_requestAt 11 = .ok (.iload_n 2, 1) := by decide +kernel
theorem dX3_requestAt_12 : decode cX3_requestAt 12 = .ok (.ifCond .lt 8, 3) := by decide +kernel
theorem dX3_requestAt_15 : decode cX3_requestAt 15 = .ok (.iload_n 2, 1) := by decide +kernel
theorem dX3_requestAt_16 : decode cX3_requestAt 16 = .ok (.iconst 3, 1) := by decide +kernel
theorem dX3_requestAt_17 : decode cX3_requestAt 17 = .ok (.if_icmp .lt 5, 3) := by decide +kernel
theorem dX3_requestAt_20 : decode cX3_requestAt 20 = .ok (.iconst (-1), 1) := by decide +kernel
theorem dX3_requestAt_21 : decode cX3_requestAt 21 = .ok (.ireturn, 1) := by decide +kernel
theorem dX3_requestAt_22 : decode cX3_requestAt 22 = .ok (.aload_n 0, 1) := by decide +kernel
theorem dX3_requestAt_23 : decode cX3_requestAt 23 = .ok (.getfield 12, 3) := by decide +kernel
theorem dX3_requestAt_26 : decode cX3_requestAt 26 = .ok (.getfield 87, 3) := by decide +kernel
theorem dX3_requestAt_29 : decode cX3_requestAt 29 = .ok (.iload_n 2, 1) := by decide +kernel
theorem dX3_requestAt_30 : decode cX3_requestAt 30 = .ok (.aaload, 1) := by decide +kernel
theorem dX3_requestAt_31 : decode cX3_requestAt 31 = .ok (.iload_n 1, 1) := by decide +kernel
theorem dX3_requestAt_32 : decode cX3_requestAt 32 = .ok (.iconst 1, 1) := by decide +kernel
theorem dX3_requestAt_33 : decode cX3_requestAt 33 = .ok (.isub, 1) := by decide +kernel
theorem dX3_requestAt_34 : decode cX3_requestAt 34 = .ok (.iaload, 1) := by decide +kernel
theorem dX3_requestAt_35 : decode cX3_requestAt 35 = .ok (.ireturn, 1) := by decide +kernel
set_option maxRecDepth 20000 in
theorem ggX3_tick_X1_note : GoodIn wsX3_tick wsX1_note := goodIn_r _ [7, 8, 9, 10, 11, 12, 13, 14, 15, 16, 17, 18, 19, 20, 21, 22, 23, 24, 25, 26, 27, 28, 29, 30, 31, 32, 33, 34, 35, 111, 112, 113, 114, 115, 116, 117, 118, 119, 120, 121, 122, 123] (by decide +kernel) (by decide +kernel)
set_option maxRecDepth 20000 in
theorem gX3_tick_X1_note : GoodIn wsX3_tick (wsV RX3 33 RX1 yX1_note wsX1_note) := goodIn_app (goodIn_of _ (by decide +kernel)) ggX3_tick_X1_note
set_option maxRecDepth 20000 in
theorem ggX3_tick_X0_passTicks : GoodIn wsX3_tick wsX0_passTicks := goodIn_r _ [39, 23, 40, 41, 42, 43, 14, 44, 19, 45, 46, 47, 48, 20, 16, 28, 29, 30, 31, 49, 50, 51, 52, 21, 17, 53, 54, 55, 56, 57, 58, 59, 60, 61, 62, 63, 64, 65, 66, 67, 68, 69, 70, 71, 72, 73, 74, 75, 76, 77, 78, 79, 80, 22, 18, 24, 81, 82, 83, 84, 85, 86, 87, 88, 89, 90, 91, 92, 93, 94, 95, 96, 97, 114, 115, 116, 117, 118, 119, 120, 121, 122, 123] (by decide +kernel) (by decide +kernel)
set_option maxRecDepth 20000 in
theorem gX3_tick_X0_passTicks : GoodIn wsX3_tick (wsV RX3 90 RX0 yX0_passTicks wsX0_passTicks) := goodIn_app (goodIn_of _ (by decide +kernel)) ggX3_tick_X0_passTicks
set_option maxRecDepth 20000 in
theorem ggX3_tick_X3_keepIfDone : GoodIn wsX3_tick wsX3_keepIfDone := goodIn_r _ [102, 1, 103, 104, 105, 6, 106, 10, 9, 107, 108, 109, 110, 111, 112, 113] (by decide +kernel) (by decide +kernel)
set_option maxRecDepth 20000 in
theorem gX3_tick_X3_keepIfDone : GoodIn wsX3_tick (wsV RX3 41 RX3 yX3_keepIfDone wsX3_keepIfDone) := goodIn_app (goodIn_of _ (by decide +kernel)) ggX3_tick_X3_keepIfDone
theorem dX3_tick_0 : decode cX3_tick 0 = .ok (.aload_n 0, 1) := by decide +kernel
theorem dX3_tick_1 : decode cX3_tick 1 = .ok (.getfield 22, 3) := by decide +kernel
theorem dX3_tick_4 : decode cX3_tick 4 = .ok (.aload_n 0, 1) := by decide +kernel
theorem dX3_tick_5 : decode cX3_tick 5 = .ok (.getfield 12, 3) := by decide +kernel
theorem dX3_tick_8 : decode cX3_tick 8 = .ok (.invokevirtual 33, 3) := by decide +kernel
theorem dX3_tick_11 : decode cX3_tick 11 = .ok (.aload_n 0, 1) := by decide +kernel
theorem dX3_tick_12 : decode cX3_tick 12 = .ok (.aload_n 0, 1) := by decide +kernel
theorem dX3_tick_13 : decode cX3_tick 13 = .ok (.getfield 12, 3) := by decide +kernel
theorem dX3_tick_16 : decode cX3_tick 16 = .ok (.iload_n 1, 1) := by decide +kernel
theorem dX3_tick_17 : decode cX3_tick 17 = .ok (.invokevirtual 90, 3) := by decide +kernel
theorem dX3_tick_20 : decode cX3_tick 20 = .ok (.invokevirtual 41, 3) := by decide +kernel
theorem dX3_tick_23 : decode cX3_tick 23 = .ok (.ireturn, 1) := by decide +kernel
set_option maxRecDepth 20000 in
theorem ggX3_set_X1_note : GoodIn wsX3_set wsX1_note := goodIn_r _ [7, 8, 9, 10, 11, 12, 13, 14, 15, 16, 17, 18, 19, 20, 21, 22, 23, 24, 25, 26, 27, 28, 29, 30, 31, 32, 33, 34, 35, 53, 54, 55, 56, 57, 58, 59, 60, 61, 62, 63, 64, 65] (by decide +kernel) (by decide +kernel)
set_option maxRecDepth 20000 in
theorem gX3_set_X1_note : GoodIn wsX3_set (wsV RX3 33 RX1 yX1_note wsX1_note) := goodIn_app (goodIn_of _ (by decide +kernel)) ggX3_set_X1_note
set_option maxRecDepth 20000 in
theorem ggX3_set_X0_changeSetting : GoodIn wsX3_set wsX0_changeSetting := goodIn_r _ [39, 19, 56, 57, 58, 59, 60, 61, 62, 63, 64, 65] (by decide +kernel) (by decide +kernel)
set_option maxRecDepth 20000 in
theorem gX3_set_X0_changeSetting : GoodIn wsX3_set (wsV RX3 93 RX0 yX0_changeSetting wsX0_changeSetting) := goodIn_app (goodIn_of _ (by decide +kernel)) ggX3_set_X0_changeSetting
set_option maxRecDepth 20000 in
theorem ggX3_set_X3_keepIfDone : GoodIn wsX3_set wsX3_keepIfDone := goodIn_r _ [44, 1, 45, 46, 47, 6, 48, 10, 9, 49, 50, 51, 52, 53, 54, 55] (by decide +kernel) (by decide +kernel)
set_option maxRecDepth 20000 in
theorem gX3_set_X3_keepIfDone : GoodIn wsX3_set (wsV RX3 41 RX3 yX3_keepIfDone wsX3_keepIfDone) := goodIn_app (goodIn_of _ (by decide +kernel)) ggX3_set_X3_keepIfDone
theorem dX3_set_0 : decode cX3_set 0 = .ok (.aload_n 0, 1) := by decide +kernel
theorem dX3_set_1 : decode cX3_set 1 = .ok (.getfield 22, 3) := by decide +kernel
theorem dX3_set_4 : decode cX3_set 4 = .ok (.aload_n 0, 1) := by decide +kernel
theorem dX3_set_5 : decode cX3_set 5 = .ok (.getfield 12, 3) := by decide +kernel
theorem dX3_set_8 : decode cX3_set 8 = .ok (.invokevirtual 33, 3) := by decide +kernel
theorem dX3_set_11 : decode cX3_set 11 = .ok (.aload_n 0, 1) := by decide +kernel
theorem dX3_set_12 : decode cX3_set 12 = .ok (.aload_n 0, 1) := by decide +kernel
theorem dX3_set_13 : decode cX3_set 13 = .ok (.getfield 12, 3) := by decide +kernel
theorem dX3_set_16 : decode cX3_set 16 = .ok (.iload_n 1, 1) := by decide +kernel
theorem dX3_set_17 : decode cX3_set 17 = .ok (.iload_n 2, 1) := by decide +kernel
theorem dX3_set_18 : decode cX3_set 18 = .ok (.invokevirtual 93, 3) := by decide +kernel
theorem dX3_set_21 : decode cX3_set 21 = .ok (.invokevirtual 41, 3) := by decide +kernel
theorem dX3_set_24 : decode cX3_set 24 = .ok (.ireturn, 1) := by decide +kernel
set_option maxRecDepth 20000 in
theorem ggX3_able_X0_isWell : GoodIn wsX3_able wsX0_isWell := goodIn_r _ [6, 7, 27, 28, 29, 30, 31, 32, 33, 34, 35, 36] (by decide +kernel) (by decide +kernel)
set_option maxRecDepth 20000 in
theorem gX3_able_X0_isWell : GoodIn wsX3_able (wsV RX3 57 RX0 yX0_isWell wsX0_isWell) := goodIn_app (goodIn_of _ (by decide +kernel)) ggX3_able_X0_isWell
set_option maxRecDepth 20000 in
theorem ggX3_able_X0_shareOut : GoodIn wsX3_able wsX0_shareOut := goodIn_r _ [11, 12, 13, 14, 15, 16, 17, 18, 19, 20, 21, 22, 3, 4, 5, 6, 7, 27, 28, 29, 30, 31, 32, 33, 34, 35, 36] (by decide +kernel) (by decide +kernel)
set_option maxRecDepth 20000 in
theorem gX3_able_X0_shareOut : GoodIn wsX3_able (wsV RX3 96 RX0 yX0_shareOut wsX0_shareOut) := goodIn_app (goodIn_of _ (by decide +kernel)) ggX3_able_X0_shareOut
theorem dX3_able_0 : decode cX3_able 0 = .ok (.aload_n 0, 1) := by decide +kernel
theorem dX3_able_1 : decode cX3_able 1 = .ok (.getfield 12, 3) := by decide +kernel
theorem dX3_able_4 : decode cX3_able 4 = .ok (.iload_n 1, 1) := by decide +kernel
theorem dX3_able_5 : decode cX3_able 5 = .ok (.invokevirtual 57, 3) := by decide +kernel
theorem dX3_able_8 : decode cX3_able 8 = .ok (.ifCond .eq 17, 3) := by decide +kernel
theorem dX3_able_11 : decode cX3_able 11 = .ok (.aload_n 0, 1) := by decide +kernel
theorem dX3_able_12 : decode cX3_able 12 = .ok (.getfield 12, 3) := by decide +kernel
theorem dX3_able_15 : decode cX3_able 15 = .ok (.iload_n 1, 1) := by decide +kernel
theorem dX3_able_16 : decode cX3_able 16 = .ok (.sipush 12000, 3) := by decide +kernel
theorem dX3_able_19 : decode cX3_able 19 = .ok (.invokevirtual 96, 3) := by decide +kernel
theorem dX3_able_22 : decode cX3_able 22 = .ok (.goto 4, 3) := by decide +kernel
theorem dX3_able_25 : decode cX3_able 25 = .ok (.iconst (-1), 1) := by decide +kernel
theorem dX3_able_26 : decode cX3_able 26 = .ok (.ireturn, 1) := by decide +kernel
set_option maxRecDepth 20000 in
theorem ggX3_gives_X0_isWell : GoodIn wsX3_gives wsX0_isWell := goodIn_r _ [6, 7, 31, 32, 33, 34, 35, 36, 37, 38, 39, 40] (by decide +kernel) (by decide +kernel)
set_option maxRecDepth 20000 in
theorem gX3_gives_X0_isWell : GoodIn wsX3_gives (wsV RX3 57 RX0 yX0_isWell wsX0_isWell) := goodIn_app (goodIn_of _ (by decide +kernel)) ggX3_gives_X0_isWell
set_option maxRecDepth 20000 in
theorem ggX3_gives_X3_areBuckets : GoodIn wsX3_gives wsX3_areBuckets := goodIn_r _ [11] (by decide +kernel) (by decide +kernel)
set_option maxRecDepth 20000 in
theorem gX3_gives_X3_areBuckets : GoodIn wsX3_gives (va_wsS RX3 99 yX3_areBuckets wsX3_areBuckets) := goodIn_app (goodIn_of _ (by decide +kernel)) ggX3_gives_X3_areBuckets
set_option maxRecDepth 20000 in
theorem ggX3_gives_X0_shareOut : GoodIn wsX3_gives wsX0_shareOut := goodIn_r _ [15, 16, 17, 18, 19, 20, 21, 22, 23, 24, 25, 26, 3, 4, 5, 6, 7, 31, 32, 33, 34, 35, 36, 37, 38, 39, 40] (by decide +kernel) (by decide +kernel)
set_option maxRecDepth 20000 in
theorem gX3_gives_X0_shareOut : GoodIn wsX3_gives (wsV RX3 96 RX0 yX0_shareOut wsX0_shareOut) := goodIn_app (goodIn_of _ (by decide +kernel)) ggX3_gives_X0_shareOut
theorem dX3_gives_0 : decode cX3_gives 0 = .ok (.aload_n 0, 1) := by decide +kernel
theorem dX3_gives_1 : decode cX3_gives 1 = .ok (.getfield 12, 3) := by decide +kernel
theorem dX3_gives_4 : decode cX3_gives 4 = .ok (.iload_n 1, 1) := by decide +kernel
theorem dX3_gives_5 : decode cX3_gives 5 = .ok (.invokevirtual 57, 3) := by decide +kernel
theorem dX3_gives_8 : decode cX3_gives 8 = .ok (.ifCond .eq 21, 3) := by decide +kernel
theorem dX3_gives_11 : decode cX3_gives 11 = .ok (.iload_n 2, 1) := by decide +kernel
theorem dX3_gives_12 : decode cX3_gives 12 = .ok (.invokestatic 99, 3) := by decide +kernel
theorem dX3_gives_15 : decode cX3_gives 15 = .ok (.ifCond .eq 14, 3) := by decide +kernel
theorem dX3_gives_18 : decode cX3_gives 18 = .ok (.aload_n 0, 1) := by decide +kernel
theorem dX3_gives_19 : decode cX3_gives 19 = .ok (.getfield 12, 3) := by decide +kernel
theorem dX3_gives_22 : decode cX3_gives 22 = .ok (.iload_n 3, 1) := by decide +kernel
theorem dX3_gives_23 : decode cX3_gives 23 = .ok (.invokevirtual 57, 3) := by decide +kernel
theorem dX3_gives_26 : decode cX3_gives 26 = .ok (.ifCond .ne 5, 3) := by decide +kernel
theorem dX3_gives_29 : decode cX3_gives 29 = .ok (.iconst (-1), 1) := by decide +kernel
theorem dX3_gives_30 : decode cX3_gives 30 = .ok (.ireturn, 1) := by decide +kernel
theorem dX3_gives_31 : decode cX3_gives 31 = .ok (.aload_n 0, 1) := by decide +kernel
theorem dX3_gives_32 : decode cX3_gives 32 = .ok (.getfield 12, 3) := by decide +kernel
theorem dX3_gives_35 : decode cX3_gives 35 = .ok (.iload_n 1, 1) := by decide +kernel
theorem dX3_gives_36 : decode cX3_gives 36 = .ok (.iload_n 2, 1) := by decide +kernel
theorem dX3_gives_37 : decode cX3_gives 37 = .ok (.invokevirtual 96, 3) := by decide +kernel
theorem dX3_gives_40 : decode cX3_gives 40 = .ok (.iload_n 2, 1) := by decide +kernel
theorem dX3_gives_41 : decode cX3_gives 41 = .ok (.if_icmp .ne 15, 3) := by decide +kernel
theorem dX3_gives_44 : decode cX3_gives 44 = .ok (.aload_n 0, 1) := by decide +kernel
theorem dX3_gives_45 : decode cX3_gives 45 = .ok (.getfield 12, 3) := by decide +kernel
theorem dX3_gives_48 : decode cX3_gives 48 = .ok (.getfield 102, 3) := by decide +kernel
theorem dX3_gives_51 : decode cX3_gives 51 = .ok (.iload_n 3, 1) := by decide +kernel
theorem dX3_gives_52 : decode cX3_gives 52 = .ok (.iaload, 1) := by decide +kernel
theorem dX3_gives_53 : decode cX3_gives 53 = .ok (.goto 5, 3) := by decide +kernel
theorem dX3_gives_56 : decode cX3_gives 56 = .ok (.bipush (-2), 2) := by decide +kernel
theorem dX3_gives_58 : decode cX3_gives 58 = .ok (.ireturn, 1) := by decide +kernel
set_option maxRecDepth 20000 in
theorem ggX3_possibleIn_X0_isWell : GoodIn wsX3_possibleIn wsX0_isWell := goodIn_r _ [7, 8, 95, 96, 97, 98, 99, 100, 101, 102, 103, 104] (by decide +kernel) (by decide +kernel)
set_option maxRecDepth 20000 in
theorem gX3_possibleIn_X0_isWell : GoodIn wsX3_possibleIn (wsV RX3 57 RX0 yX0_isWell wsX0_isWell) := goodIn_app (goodIn_of _ (by decide +kernel)) ggX3_possibleIn_X0_isWell
set_option maxRecDepth 20000 in
theorem ggX3_possibleIn_X3_areBuckets : GoodIn wsX3_possibleIn wsX3_areBuckets := goodIn_r _ [12] (by decide +kernel) (by decide +kernel)
set_option maxRecDepth 20000 in
theorem gX3_possibleIn_X3_areBuckets : GoodIn wsX3_possibleIn (va_wsS RX3 99 yX3_areBuckets wsX3_areBuckets) := goodIn_app (goodIn_of _ (by decide +kernel)) ggX3_possibleIn_X3_areBuckets
set_option maxRecDepth 20000 in
theorem ggX3_possibleIn_X0_copyFrom : GoodIn wsX3_possibleIn wsX0_copyFrom := goodIn_r _ [16, 17, 18, 19, 20, 8, 21, 22, 23, 24, 25, 26, 6, 27, 28, 29, 30, 31, 32, 33, 34, 35, 95, 96, 97, 98, 99, 100, 101, 102, 103, 104] (by decide +kernel) (by decide +kernel)
set_option maxRecDepth 20000 in
theorem gX3_possibleIn_X0_copyFrom : GoodIn wsX3_possibleIn (wsV RX3 106 RX0 yX0_copyFrom wsX0_copyFrom) := goodIn_app (goodIn_of _ (by decide +kernel)) ggX3_possibleIn_X0_copyFrom
set_option maxRecDepth 20000 in
theorem ggX3_possibleIn_X0_shareOut : GoodIn wsX3_possibleIn wsX0_shareOut := goodIn_r _ [39, 40, 17, 28, 29, 30, 31, 41, 42, 43, 44, 45, 4, 5, 6, 7, 8, 95, 96, 97, 98, 99, 100, 101, 102, 103, 104] (by decide +kernel) (by decide +kernel)
set_option maxRecDepth 20000 in
theorem gX3_possibleIn_X0_shareOut : GoodIn wsX3_possibleIn (wsV RX3 96 RX0 yX0_shareOut wsX0_shareOut) := goodIn_app (goodIn_of _ (by decide +kernel)) ggX3_possibleIn_X0_shareOut
set_option maxRecDepth 20000 in
theorem ggX3_possibleIn_X0_passTick : GoodIn wsX3_possibleIn wsX0_passTick := goodIn_r _ [49, 23, 20, 50, 51, 52, 6, 53, 8, 17, 28, 29, 30, 31, 54, 55, 56, 57, 21, 18, 58, 59, 60, 61, 62, 63, 64, 65, 66, 67, 68, 69, 45, 4, 5, 7, 70, 71, 72, 73, 74, 75, 76, 77, 78, 79, 80, 81, 22, 19, 24, 82, 37, 38, 39, 40, 41, 42, 43, 44, 83, 84, 85, 86, 87, 88, 89, 90, 95, 96, 97, 98, 99, 100, 101, 102, 103, 104] (by decide +kernel) (by decide +kernel)
set_option maxRecDepth 20000 in
theorem gX3_possibleIn_X0_passTick : GoodIn wsX3_possibleIn (wsV RX3 109 RX0 yX0_passTick wsX0_passTick) := goodIn_app (goodIn_of _ (by decide +kernel)) ggX3_possibleIn_X0_passTick
theorem dX3_possibleIn_0 : decode cX3_possibleIn 0 = .ok (.aload_n 0, 1) := by decide +kernel
theorem dX3_possibleIn_1 : decode cX3_possibleIn 1 = .ok (.getfield 12, 3) := by decide +kernel
theorem dX3_possibleIn_4 : decode cX3_possibleIn 4 = .ok (.iload_n 1, 1) := by decide +kernel
theorem dX3_possibleIn_5 : decode cX3_possibleIn 5 = .ok (.invokevirtual 57, 3) := by decide +kernel
theorem dX3_possibleIn_8 : decode cX3_possibleIn 8 = .ok (.ifCond .eq 10, 3) := by decide +kernel
theorem dX3_possibleIn_11 : decode cX3_possibleIn 11 = .ok (.iload_n 2, 1) := by decide +kernel
theorem dX3_possibleIn_12 : decode cX3_possibleIn 12 = .ok (.invokestatic 99, 3) := by decide +kernel
theorem dX3_possibleIn_15 : decode cX3_possibleIn 15 = .ok (.ifCond .ne 5, 3) := by decide +kernel
theorem dX3_possibleIn_18 : decode cX3_possibleIn 18 = .ok (.iconst (-1), 1) := by decide +kernel
theorem dX3_possibleIn_19 : decode cX3_possibleIn 19 = .ok (.ireturn, 1) := by decide +kernel
theorem dX3_possibleIn_20 : decode cX3_possibleIn 20 = .ok (.aload_n 0, 1) := by decide +kernel
theorem dX3_possibleIn_21 : decode cX3_possibleIn 21 = .ok (.getfield 16, 3) := by decide +kernel
theorem dX3_possibleIn_24 : decode cX3_possibleIn 24 = .ok (.aload_n 0, 1) := by decide +kernel
theorem dX3_possibleIn_25 : decode cX3_possibleIn 25 = .ok (.getfield 12, 3) := by decide +kernel
theorem dX3_possibleIn_28 : decode cX3_possibleIn 28 = .ok (.invokevirtual 106, 3) := by decide +kernel
theorem dX3_possibleIn_31 : decode cX3_possibleIn 31 = .ok (.iconst 0, 1) := by decide +kernel
theorem dX3_possibleIn_32 : decode cX3_possibleIn 32 = .ok (.istore_n 3, 1) := by decide +kernel
theorem dX3_possibleIn_33 : decode cX3_possibleIn 33 = .ok (.iload_n 3, 1) := by decide +kernel
theorem dX3_possibleIn_34 : decode cX3_possibleIn 34 = .ok (.sipush 300, 3) := by decide +kernel
theorem dX3_possibleIn_37 : decode cX3_possibleIn 37 = .ok (.if_icmp .gt 32, 3) := by decide +kernel
theorem dX3_possibleIn_40 : decode cX3_possibleIn 40 = .ok (.aload_n 0, 1) := by decide +kernel
theorem dX3_possibleIn_41 : decode cX3_possibleIn 41 = .ok (.getfield 16, 3) := by decide +kernel
theorem dX3_possibleIn_44 : decode cX3_possibleIn 44 = .ok (.iload_n 1, 1) := by decide +kernel
theorem dX3_possibleIn_45 : decode cX3_possibleIn 45 = .ok (.iload_n 2, 1) := by decide +kernel
theorem dX3_possibleIn_46 : decode cX3_possibleIn 46 = .ok (.invokevirtual 96, 3) := by decide +kernel
theorem dX3_possibleIn_49 : decode cX3_possibleIn 49 = .ok (.iload_n 2, 1) := by decide +kernel
theorem dX3_possibleIn_50 : decode cX3_possibleIn 50 = .ok (.if_icmp .ne 5, 3) := by decide +kernel
theorem dX3_possibleIn_53 : decode cX3_possibleIn 53 = .ok (.iload_n 3, 1) := by decide +kernel
theorem dX3_possibleIn_54 : decode cX3_possibleIn 54 = .ok (.ireturn, 1) := by decide +kernel
theorem dX3_possibleIn_55 : decode cX3_possibleIn 55 = .ok (.aload_n 0, 1) := by decide +kernel
theorem dX3_possibleIn_56 : decode cX3_possibleIn 56 = .ok (.getfield 16, 3) := by decide +kernel
theorem dX3_possibleIn_59 : decode cX3_possibleIn 59 = .ok (.invokevirtual 109, 3) := by decide +kernel
theorem dX3_possibleIn_62 : decode cX3_possibleIn 62 = .ok (.pop, 1) := by decide +kernel
theorem dX3_possibleIn_63 : decode cX3_possibleIn 63 = .ok (.iinc 3 1, 3) := by decide +kernel
theorem dX3_possibleIn_66 : decode cX3_possibleIn 66 = .ok (.goto (-33), 3) := by decide +kernel
theorem dX3_possibleIn_69 : decode cX3_possibleIn 69 = .ok (.bipush (-4), 2) := by decide +kernel
theorem dX3_possibleIn_71 : decode cX3_possibleIn 71 = .ok (.ireturn, 1) := by decide +kernel
set_option maxRecDepth 20000 in
theorem ggX3_waterIn_X0_isWell : GoodIn wsX3_waterIn wsX0_isWell := goodIn_r _ [7, 8, 90, 91, 92, 93, 94, 95, 96, 97, 98, 99] (by decide +kernel) (by decide +kernel)
set_option maxRecDepth 20000 in
theorem gX3_waterIn_X0_isWell : GoodIn wsX3_waterIn (wsV RX3 57 RX0 yX0_isWell wsX0_isWell) := goodIn_app (goodIn_of _ (by decide +kernel)) ggX3_waterIn_X0_isWell
set_option maxRecDepth 20000 in
theorem ggX3_waterIn_X0_copyFrom : GoodIn wsX3_waterIn wsX0_copyFrom := goodIn_r _ [12, 13, 14, 15, 16, 8, 17, 18, 19, 20, 21, 22, 6, 23, 24, 25, 26, 27, 28, 29, 30, 31, 90, 91, 92, 93, 94, 95, 96, 97, 98, 99] (by decide +kernel) (by decide +kernel)
set_option maxRecDepth 20000 in
theorem gX3_waterIn_X0_copyFrom : GoodIn wsX3_waterIn (wsV RX3 106 RX0 yX0_copyFrom wsX0_copyFrom) := goodIn_app (goodIn_of _ (by decide +kernel)) ggX3_waterIn_X0_copyFrom
set_option maxRecDepth 20000 in
theorem ggX3_waterIn_X0_passTick : GoodIn wsX3_waterIn wsX0_passTick := goodIn_r _ [35, 19, 16, 36, 37, 38, 6, 39, 8, 13, 24, 25, 26, 27, 40, 41, 42, 43, 17, 14, 44, 45, 46, 47, 48, 49, 50, 51, 52, 53, 54, 55, 56, 4, 5, 7, 57, 58, 59, 60, 61, 62, 63, 64, 65, 66, 67, 68, 18, 15, 20, 69, 70, 71, 72, 73, 74, 75, 76, 77, 78, 79, 80, 81, 82, 83, 84, 85, 90, 91, 92, 93, 94, 95, 96, 97, 98, 99] (by decide +kernel) (by decide +kernel)
set_option maxRecDepth 20000 in
theorem gX3_waterIn_X0_passTick : GoodIn wsX3_waterIn (wsV RX3 109 RX0 yX0_passTick wsX0_passTick) := goodIn_app (goodIn_of _ (by decide +kernel)) ggX3_waterIn_X0_passTick
theorem dX3_waterIn_0 : decode cX3_waterIn 0 = .ok (.aload_n 0, 1) := by decide +kernel
theorem dX3_waterIn_1 : decode cX3_waterIn 1 = .ok (.getfield 12, 3) := by decide +kernel
theorem dX3_waterIn_4 : decode cX3_waterIn 4 = .ok (.iload_n 1, 1) := by decide +kernel
theorem dX3_waterIn_5 : decode cX3_waterIn 5 = .ok (.invokevirtual 57, 3) := by decide +kernel
theorem dX3_waterIn_8 : decode cX3_waterIn 8 = .ok (.ifCond .eq 14, 3) := by decide +kernel
theorem dX3_waterIn_11 : decode cX3_waterIn 11 = .ok (.iload_n 2, 1) := by decide +kernel
theorem dX3_waterIn_12 : decode cX3_waterIn 12 = .ok (.ifCond .lt 10, 3) := by decide +kernel
theorem dX3_waterIn_15 : decode cX3_waterIn 15 = .ok (.iload_n 2, 1) := by decide +kernel
theorem dX3_waterIn_16 : decode cX3_waterIn 16 = .ok (.sipush 300, 3) := by decide +kernel
theorem dX3_waterIn_19 : decode cX3_waterIn 19 = .ok (.if_icmp .le 5, 3) := by decide +kernel
theorem dX3_waterIn_22 : decode cX3_waterIn 22 = .ok (.iconst (-1), 1) := by decide +kernel
theorem dX3_waterIn_23 : decode cX3_waterIn 23 = .ok (.ireturn, 1) := by decide +kernel
theorem dX3_waterIn_24 : decode cX3_waterIn 24 = .ok (.aload_n 0, 1) := by decide +kernel
theorem dX3_waterIn_25 : decode cX3_waterIn 25 = .ok (.getfield 16, 3) := by decide +kernel
theorem dX3_waterIn_28 : decode cX3_waterIn 28 = .ok (.aload_n 0, 1) := by decide +kernel
theorem dX3_waterIn_29 : decode cX3_waterIn 29 = .ok (.getfield 12, 3) := by decide +kernel
theorem dX3_waterIn_32 : decode cX3_waterIn 32 = .ok (.invokevirtual 106, 3) := by decide +kernel
theorem dX3_waterIn_35 : decode cX3_waterIn 35 = .ok (.iconst 0, 1) := by decide +kernel
theorem dX3_waterIn_36 : decode cX3_waterIn 36 = .ok (.istore_n 3, 1) := by decide +kernel
theorem dX3_waterIn_37 : decode cX3_waterIn 37 = .ok (.iload_n 3, 1) := by decide +kernel
theorem dX3_waterIn_38 : decode cX3_waterIn 38 = .ok (.iload_n 2, 1) := by decide +kernel
theorem dX3_waterIn_39 : decode cX3_waterIn 39 = .ok (.if_icmp .ge 17, 3) := by decide +kernel
theorem dX3_waterIn_42 : decode cX3_waterIn 42 = .ok (.aload_n 0, 1) := by decide +kernel
theorem dX3_waterIn_43 : decode cX3_waterIn 43 = .ok (.getfield 16, 3) := by decide +kernel
theorem dX3_waterIn_46 : decode cX3_waterIn 46 = .ok (.invokevirtual 109, 3) := by decide +kernel
theorem dX3_waterIn_49 : decode cX3_waterIn 49 = .ok (.pop, 1) := by decide +kernel
theorem dX3_waterIn_50 : decode cX3_waterIn 50 = .ok (.iinc 3 1, 3) := by decide +kernel
theorem dX3_waterIn_53 : decode cX3_waterIn 53 = .ok (.goto (-16), 3) := by decide +kernel
theorem dX3_waterIn_56 : decode cX3_waterIn 56 = .ok (.aload_n 0, 1) := by decide +kernel
theorem dX3_waterIn_57 : decode cX3_waterIn 57 = .ok (.getfield 16, 3) := by decide +kernel
theorem dX3_waterIn_60 : decode cX3_waterIn 60 = .ok (.getfield 68, 3) := by decide +kernel
theorem dX3_waterIn_63 : decode cX3_waterIn 63 = .ok (.iconst 4, 1) := by decide +kernel
theorem dX3_waterIn_64 : decode cX3_waterIn 64 = .ok (.aaload, 1) := by decide +kernel
theorem dX3_waterIn_65 : decode cX3_waterIn 65 = .ok (.iload_n 1, 1) := by decide +kernel
theorem dX3_waterIn_66 : decode cX3_waterIn 66 = .ok (.iaload, 1) := by decide +kernel
theorem dX3_waterIn_67 : decode cX3_waterIn 67 = .ok (.ireturn, 1) := by decide +kernel
set_option maxRecDepth 20000 in
theorem ggX3_lenders_X0_copyFrom : GoodIn wsX3_lenders wsX0_copyFrom := goodIn_r _ [7, 8, 9, 10, 11, 12, 13, 14, 15, 16, 17, 18, 6, 19, 20, 21, 22, 23, 24, 25, 26, 27, 44, 45, 46, 47, 48, 49, 50, 51, 52, 53] (by decide +kernel) (by decide +kernel)
set_option maxRecDepth 20000 in
theorem gX3_lenders_X0_copyFrom : GoodIn wsX3_lenders (wsV RX3 106 RX0 yX0_copyFrom wsX0_copyFrom) := goodIn_app (goodIn_of _ (by decide +kernel)) ggX3_lenders_X0_copyFrom
set_option maxRecDepth 20000 in
theorem ggX3_lenders_X0_lendAtNoon : GoodIn wsX3_lenders wsX0_lendAtNoon := goodIn_r _ [31, 12, 8, 20, 21, 22, 23, 32, 33, 34, 6, 35, 36, 37, 38, 39, 44, 45, 46, 47, 48, 49, 50, 51, 52, 53] (by decide +kernel) (by decide +kernel)
set_option maxRecDepth 20000 in
theorem gX3_lenders_X0_lendAtNoon : GoodIn wsX3_lenders (wsV RX3 113 RX0 yX0_lendAtNoon wsX0_lendAtNoon) := goodIn_app (goodIn_of _ (by decide +kernel)) ggX3_lenders_X0_lendAtNoon
theorem dX3_lenders_0 : decode cX3_lenders 0 = .ok (.aload_n 0, 1) := by decide +kernel
theorem dX3_lenders_1 : decode cX3_lenders 1 = .ok (.getfield 16, 3) := by decide +kernel
theorem dX3_lenders_4 : decode cX3_lenders 4 = .ok (.aload_n 0, 1) := by decide +kernel
theorem dX3_lenders_5 : decode cX3_lenders 5 = .ok (.getfield 12, 3) := by decide +kernel
theorem dX3_lenders_8 : decode cX3_lenders 8 = .ok (.invokevirtual 106, 3) := by decide +kernel
theorem dX3_lenders_11 : decode cX3_lenders 11 = .ok (.aload_n 0, 1) := by decide +kernel
theorem dX3_lenders_12 : decode cX3_lenders 12 = .ok (.getfield 16, 3) := by decide +kernel
theorem dX3_lenders_15 : decode cX3_lenders 15 = .ok (.invokevirtual 113, 3) := by decide +kernel
theorem dX3_lenders_18 : decode cX3_lenders 18 = .ok (.ireturn, 1) := by decide +kernel
set_option maxRecDepth 20000 in
theorem ggX3_count_X0_sumOf : GoodIn wsX3_count wsX0_sumOf := goodIn_r _ [8, 9, 10, 21, 22, 23, 24, 25, 26, 27, 28, 29, 30] (by decide +kernel) (by decide +kernel)
set_option maxRecDepth 20000 in
theorem gX3_count_X0_sumOf : GoodIn wsX3_count (wsV RX3 119 RX0 yX0_sumOf wsX0_sumOf) := goodIn_app (goodIn_of _ (by decide +kernel)) ggX3_count_X0_sumOf
set_option maxRecDepth 20000 in
theorem ggX3_count_X0_timeOfDay : GoodIn wsX3_count wsX0_timeOfDay := goodIn_r _ [14, 15, 16, 21, 22, 23, 24, 25, 26, 27, 28, 29, 30] (by decide +kernel) (by decide +kernel)
set_option maxRecDepth 20000 in
theorem gX3_count_X0_timeOfDay : GoodIn wsX3_count (wsV RX3 131 RX0 yX0_timeOfDay wsX0_timeOfDay) := goodIn_app (goodIn_of _ (by decide +kernel)) ggX3_count_X0_timeOfDay
theorem dX3_count_0 : decode cX3_count 0 = .ok (.iload_n 1, 1) := by decide +kernel
theorem dX3_count_1 : decode cX3_count 1 = .ok (.tableswitch 275 0 21 #[103, 111, 119, 127, 136, 146, 156, 176, 186, 196, 205, 213, 221, 239, 247, 275, 275, 275, 275, 275, 255, 265], 103) := by decide +kernel
theorem dX3_count_104 : decode cX3_count 104 = .ok (.aload_n 0, 1) := by decide +kernel
theorem dX3_count_105 : decode cX3_count 105 = .ok (.getfield 12, 3) := by decide +kernel
theorem dX3_count_108 : decode cX3_count 108 = .ok (.getfield 116, 3) := by decide +kernel
theorem dX3_count_111 : decode cX3_count 111 = .ok (.ireturn, 1) := by decide +kernel
theorem dX3_count_112 : decode cX3_count 112 = .ok (.aload_n 0, 1) := by decide +kernel
theorem dX3_count_113 : decode cX3_count 113 = .ok (.getfield 12, 3) := by decide +kernel
theorem dX3_count_116 : decode cX3_count 116 = .ok (.getfield 49, 3) := by decide +kernel
theorem dX3_count_119 : decode cX3_count 119 = .ok (.ireturn, 1) := by decide +kernel
theorem dX3_count_120 : decode cX3_count 120 = .ok (.aload_n 0, 1) := by decide +kernel
theorem dX3_count_121 : decode cX3_count 121 = .ok (.getfield 12, 3) := by decide +kernel
theorem dX3_count_124 : decode cX3_count 124 = .ok (.getfield 61, 3) := by decide +kernel
theorem dX3_count_127 : decode cX3_count 127 = .ok (.ireturn, 1) := by decide +kernel
theorem dX3_count_128 : decode cX3_count 128 = .ok (.aload_n 0, 1) := by decide +kernel
theorem dX3_count_129 : decode cX3_count 129 = .ok (.getfield 12, 3) := by decide +kernel
theorem dX3_count_132 : decode cX3_count 132 = .ok (.iconst 4, 1) := by decide +kernel
theorem dX3_count_133 : decode cX3_count 133 = .ok (.invokevirtual 119, 3) := by decide +kernel
theorem dX3_count_136 : decode cX3_count 136 = .ok (.ireturn, 1) := by decide +kernel
theorem dX3_count_137 : decode cX3_count 137 = .ok (.aload_n 0, 1) := by decide +kernel
theorem dX3_count_138 : decode cX3_count 138 = .ok (.getfield 12, 3) := by decide +kernel
theorem dX3_count_141 : decode cX3_count 141 = .ok (.bipush 6, 2) := by decide +kernel
theorem dX3_count_143 : decode cX3_count 143 = .ok (.invokevirtual 119, 3) := by decide +kernel
theorem dX3_count_146 : decode cX3_count 146 = .ok (.ireturn, 1) := by decide +kernel
theorem dX3_count_147 : decode cX3_count 147 = .ok (.aload_n 0, 1) := by decide +kernel
theorem dX3_count_148 : decode cX3_count 148 = .ok (.getfield 12, 3) := by decide +kernel
theorem dX3_count_151 : decode cX3_count 151 = .ok (.bipush 7, 2) := by decide +kernel
theorem dX3_count_153 : decode cX3_count 153 = .ok (.invokevirtual 119, 3) := by decide +kernel
theorem dX3_count_156 : decode cX3_count 156 = .ok (.ireturn, 1) := by decide +kernel
theorem dX3_count_157 : decode cX3_count 157 = .ok (.aload_n 0, 1) := by decide +kernel
theorem dX3_count_158 : decode cX3_count 158 = .ok (.getfield 12, 3) := by decide +kernel
theorem dX3_count_161 : decode cX3_count 161 = .ok (.bipush 8, 2) := by decide +kernel
theorem dX3_count_163 : decode cX3_count 163 = .ok (.invokevirtual 119, 3) := by decide +kernel
theorem dX3_count_166 : decode cX3_count 166 = .ok (.aload_n 0, 1) := by decide +kernel
theorem dX3_count_167 : decode cX3_count 167 = .ok (.getfield 12, 3) := by decide +kernel
theorem dX3_count_170 : decode cX3_count 170 = .ok (.bipush 9, 2) := by decide +kernel
theorem dX3_count_172 : decode cX3_count 172 = .ok (.invokevirtual 119, 3) := by decide +kernel
theorem dX3_count_175 : decode cX3_count 175 = .ok (.iadd, 1) := by decide +kernel
theorem dX3_count_176 : decode cX3_count 176 = .ok (.ireturn, 1) := by decide +kernel
theorem dX3_count_177 : decode cX3_count 177 = .ok (.aload_n 0, 1) := by decide +kernel
theorem dX3_count_178 : decode cX3_count 178 = .ok (.getfield 12, 3) := by decide +kernel
theorem dX3_count_181 : decode cX3_count 181 = .ok (.bipush 10, 2) := by decide +kernel
theorem dX3_count_183 : decode cX3_count 183 = .ok (.invokevirtual 119, 3) := by decide +kernel
theorem dX3_count_186 : decode cX3_count 186 = .ok (.ireturn, 1) := by decide +kernel
theorem dX3_count_187 : decode cX3_count 187 = .ok (.aload_n 0, 1) := by decide +kernel
theorem dX3_count_188 : decode cX3_count 188 = .ok (.getfield 12, 3) := by decide +kernel
theorem dX3_count_191 : decode cX3_count 191 = .ok (.bipush 11, 2) := by decide +kernel
theorem dX3_count_193 : decode cX3_count 193 = .ok (.invokevirtual 119, 3) := by decide +kernel
theorem dX3_count_196 : decode cX3_count 196 = .ok (.ireturn, 1) := by decide +kernel
theorem dX3_count_197 : decode cX3_count 197 = .ok (.aload_n 0, 1) := by decide +kernel
theorem dX3_count_198 : decode cX3_count 198 = .ok (.getfield 12, 3) := by decide +kernel
theorem dX3_count_201 : decode cX3_count 201 = .ok (.iconst 5, 1) := by decide +kernel
theorem dX3_count_202 : decode cX3_count 202 = .ok (.invokevirtual 119, 3) := by decide +kernel
theorem dX3_count_205 : decode cX3_count 205 = .ok (.ireturn, 1) := by decide +kernel
theorem dX3_count_206 : decode cX3_count 206 = .ok (.aload_n 0, 1) := by decide +kernel
theorem dX3_count_207 : decode cX3_count 207 = .ok (.getfield 12, 3) := by decide +kernel
theorem dX3_count_210 : decode cX3_count 210 = .ok (.getfield 122, 3) := by decide +kernel
theorem dX3_count_213 : decode cX3_count 213 = .ok (.ireturn, 1) := by decide +kernel
theorem dX3_count_214 : decode cX3_count 214 = .ok (.aload_n 0, 1) := by decide +kernel
theorem dX3_count_215 : decode cX3_count 215 = .ok (.getfield 12, 3) := by decide +kernel
theorem dX3_count_218 : decode cX3_count 218 = .ok (.getfield 125, 3) := by decide +kernel
theorem dX3_count_221 : decode cX3_count 221 = .ok (.ireturn, 1) := by decide +kernel
theorem dX3_count_222 : decode cX3_count 222 = .ok (.aload_n 0, 1) := by decide +kernel
theorem dX3_count_223 : decode cX3_count 223 = .ok (.getfield 12, 3) := by decide +kernel
theorem dX3_count_226 : decode cX3_count 226 = .ok (.getfield 128, 3) := by decide +kernel
theorem dX3_count_229 : decode cX3_count 229 = .ok (.iconst 0, 1) := by decide +kernel
theorem dX3_count_230 : decode cX3_count 230 = .ok (.iaload, 1) := by decide +kernel
theorem dX3_count_231 : decode cX3_count 231 = .ok (.aload_n 0, 1) := by decide +kernel
theorem dX3_count_232 : decode cX3_count 232 = .ok (.getfield 12, 3) := by decide +kernel
theorem dX3_count_235 : decode cX3_count 235 = .ok (.invokevirtual 131, 3) := by decide +kernel
theorem dX3_count_238 : decode cX3_count 238 = .ok (.isub, 1) := by decide +kernel
theorem dX3_count_239 : decode cX3_count 239 = .ok (.ireturn, 1) := by decide +kernel
theorem dX3_count_240 : decode cX3_count 240 = .ok (.aload_n 0, 1) := by decide +kernel
theorem dX3_count_241 : decode cX3_count 241 = .ok (.getfield 22, 3) := by decide +kernel
theorem dX3_count_244 : decode cX3_count 244 = .ok (.getfield 134, 3) := by decide +kernel
theorem dX3_count_247 : decode cX3_count 247 = .ok (.ireturn, 1) := by decide +kernel
theorem dX3_count_248 : decode cX3_count 248 = .ok (.aload_n 0, 1) := by decide +kernel
theorem dX3_count_249 : decode cX3_count 249 = .ok (.getfield 29, 3) := by decide +kernel
theorem dX3_count_252 : decode cX3_count 252 = .ok (.getfield 137, 3) := by decide +kernel
theorem dX3_count_255 : decode cX3_count 255 = .ok (.ireturn, 1) := by decide +kernel
theorem dX3_count_256 : decode cX3_count 256 = .ok (.aload_n 0, 1) := by decide +kernel
theorem dX3_count_257 : decode cX3_count 257 = .ok (.getfield 12, 3) := by decide +kernel
theorem dX3_count_260 : decode cX3_count 260 = .ok (.getfield 128, 3) := by decide +kernel
theorem dX3_count_263 : decode cX3_count 263 = .ok (.iconst 0, 1) := by decide +kernel
theorem dX3_count_264 : decode cX3_count 264 = .ok (.iaload, 1) := by decide +kernel
theorem dX3_count_265 : decode cX3_count 265 = .ok (.ireturn, 1) := by decide +kernel
theorem dX3_count_266 : decode cX3_count 266 = .ok (.aload_n 0, 1) := by decide +kernel
theorem dX3_count_267 : decode cX3_count 267 = .ok (.getfield 12, 3) := by decide +kernel
theorem dX3_count_270 : decode cX3_count 270 = .ok (.getfield 128, 3) := by decide +kernel
theorem dX3_count_273 : decode cX3_count 273 = .ok (.iconst 1, 1) := by decide +kernel
theorem dX3_count_274 : decode cX3_count 274 = .ok (.iaload, 1) := by decide +kernel
theorem dX3_count_275 : decode cX3_count 275 = .ok (.ireturn, 1) := by decide +kernel
theorem dX3_count_276 : decode cX3_count 276 = .ok (.iconst (-1), 1) := by decide +kernel
theorem dX3_count_277 : decode cX3_count 277 = .ok (.ireturn, 1) := by decide +kernel
set_option maxRecDepth 20000 in
theorem ggX3_undo_X1_giveBack : GoodIn wsX3_undo wsX1_giveBack := goodIn_r _ [7, 8, 9, 10, 11, 12, 13, 14, 15, 16, 17, 18, 19, 20, 21, 22, 23, 24, 25, 26, 27, 28, 29, 30, 31, 32, 33, 34, 35, 40, 41, 42, 43, 44, 45, 46, 47, 48, 49, 50, 51, 52] (by decide +kernel) (by decide +kernel)
set_option maxRecDepth 20000 in
theorem gX3_undo_X1_giveBack : GoodIn wsX3_undo (wsV RX3 140 RX1 yX1_giveBack wsX1_giveBack) := goodIn_app (goodIn_of _ (by decide +kernel)) ggX3_undo_X1_giveBack
theorem dX3_undo_0 : decode cX3_undo 0 = .ok (.aload_n 0, 1) := by decide +kernel
theorem dX3_undo_1 : decode cX3_undo 1 = .ok (.getfield 22, 3) := by decide +kernel
theorem dX3_undo_4 : decode cX3_undo 4 = .ok (.getfield 134, 3) := by decide +kernel
theorem dX3_undo_7 : decode cX3_undo 7 = .ok (.ifCond .ne 6, 3) := by decide +kernel
theorem dX3_undo_10 : decode cX3_undo 10 = .ok (.bipush (-2), 2) := by decide +kernel
theorem dX3_undo_12 : decode cX3_undo 12 = .ok (.ireturn, 1) := by decide +kernel
theorem dX3_undo_13 : decode cX3_undo 13 = .ok (.aload_n 0, 1) := by decide +kernel
theorem dX3_undo_14 : decode cX3_undo 14 = .ok (.getfield 22, 3) := by decide +kernel
theorem dX3_undo_17 : decode cX3_undo 17 = .ok (.aload_n 0, 1) := by decide +kernel
theorem dX3_undo_18 : decode cX3_undo 18 = .ok (.getfield 12, 3) := by decide +kernel
theorem dX3_undo_21 : decode cX3_undo 21 = .ok (.invokevirtual 140, 3) := by decide +kernel
theorem dX3_undo_24 : decode cX3_undo 24 = .ok (.aload_n 0, 1) := by decide +kernel
theorem dX3_undo_25 : decode cX3_undo 25 = .ok (.getfield 22, 3) := by decide +kernel
theorem dX3_undo_28 : decode cX3_undo 28 = .ok (.getfield 134, 3) := by decide +kernel
theorem dX3_undo_31 : decode cX3_undo 31 = .ok (.ireturn, 1) := by decide +kernel
set_option maxRecDepth 20000 in
theorem ggX3_type_X2_append : GoodIn wsX3_type wsX2_append := goodIn_r _ [6, 7, 8, 13, 14, 15, 16, 17, 18, 19] (by decide +kernel) (by decide +kernel)
set_option maxRecDepth 20000 in
theorem gX3_type_X2_append : GoodIn wsX3_type (wsV RX3 143 RX2 yX2_append wsX2_append) := goodIn_app (goodIn_of _ (by decide +kernel)) ggX3_type_X2_append
theorem dX3_type_0 : decode cX3_type 0 = .ok (.iload_n 1, 1) := by decide +kernel
theorem dX3_type_1 : decode cX3_type 1 = .ok (.bipush 32, 2) := by decide +kernel
theorem dX3_type_3 : decode cX3_type 3 = .ok (.if_icmp .lt 9, 3) := by decide +kernel
theorem dX3_type_6 : decode cX3_type 6 = .ok (.iload_n 1, 1) := by decide +kernel
theorem dX3_type_7 : decode cX3_type 7 = .ok (.bipush 126, 2) := by decide +kernel
theorem dX3_type_9 : decode cX3_type 9 = .ok (.if_icmp .le 5, 3) := by decide +kernel
theorem dX3_type_12 : decode cX3_type 12 = .ok (.iconst (-1), 1) := by decide +kernel
theorem dX3_type_13 : decode cX3_type 13 = .ok (.ireturn, 1) := by decide +kernel
theorem dX3_type_14 : decode cX3_type 14 = .ok (.aload_n 0, 1) := by decide +kernel
theorem dX3_type_15 : decode cX3_type 15 = .ok (.getfield 29, 3) := by decide +kernel
theorem dX3_type_18 : decode cX3_type 18 = .ok (.iload_n 1, 1) := by decide +kernel
theorem dX3_type_19 : decode cX3_type 19 = .ok (.i2c, 1) := by decide +kernel
theorem dX3_type_20 : decode cX3_type 20 = .ok (.invokevirtual 143, 3) := by decide +kernel
theorem dX3_type_23 : decode cX3_type 23 = .ok (.ifCond .eq 13, 3) := by decide +kernel
theorem dX3_type_26 : decode cX3_type 26 = .ok (.aload_n 0, 1) := by decide +kernel
theorem dX3_type_27 : decode cX3_type 27 = .ok (.getfield 29, 3) := by decide +kernel
theorem dX3_type_30 : decode cX3_type 30 = .ok (.getfield 137, 3) := by decide +kernel
theorem dX3_type_33 : decode cX3_type 33 = .ok (.goto 5, 3) := by decide +kernel
theorem dX3_type_36 : decode cX3_type 36 = .ok (.bipush (-3), 2) := by decide +kernel
theorem dX3_type_38 : decode cX3_type 38 = .ok (.ireturn, 1) := by decide +kernel
theorem dX3_clearText_0 : decode cX3_clearText 0 = .ok (.aload_n 0, 1) := by decide +kernel
theorem dX3_clearText_1 : decode cX3_clearText 1 = .ok (.getfield 29, 3) := by decide +kernel
theorem dX3_clearText_4 : decode cX3_clearText 4 = .ok (.getfield 137, 3) := by decide +kernel
theorem dX3_clearText_7 : decode cX3_clearText 7 = .ok (.istore_n 1, 1) := by decide +kernel
theorem dX3_clearText_8 : decode cX3_clearText 8 = .ok (.aload_n 0, 1) := by decide +kernel
theorem dX3_clearText_9 : decode cX3_clearText 9 = .ok (.getfield 29, 3) := by decide +kernel
theorem dX3_clearText_12 : decode cX3_clearText 12 = .ok (.iconst 0, 1) := by decide +kernel
theorem dX3_clearText_13 : decode cX3_clearText 13 = .ok (.putfield 137, 3) := by decide +kernel
theorem dX3_clearText_16 : decode cX3_clearText 16 = .ok (.iload_n 1, 1) := by decide +kernel
theorem dX3_clearText_17 : decode cX3_clearText 17 = .ok (.ireturn, 1) := by decide +kernel
set_option maxRecDepth 20000 in
theorem ggX3_fault_X0_copyFrom : GoodIn wsX3_fault wsX0_copyFrom := goodIn_r _ [8, 9, 10, 11, 12, 13, 14, 15, 16, 17, 18, 19, 7, 20, 21, 22, 23, 24, 25, 26, 27, 28, 148, 149, 150, 151, 152, 153, 154, 155, 156, 157] (by decide +kernel) (by decide +kernel)
set_option maxRecDepth 20000 in
theorem gX3_fault_X0_copyFrom : GoodIn wsX3_fault (wsV RX3 106 RX0 yX0_copyFrom wsX0_copyFrom) := goodIn_app (goodIn_of _ (by decide +kernel)) ggX3_fault_X0_copyFrom
set_option maxRecDepth 20000 in
theorem ggX3_fault_X2_runOn : GoodIn wsX3_fault wsX2_runOn := goodIn_r _ [33, 34, 35, 36, 37, 38, 39, 40, 41, 42, 32, 43, 44, 45, 46, 47, 48, 49, 50, 51, 52, 53, 54, 55, 56, 57, 58, 59, 60, 61, 7, 62, 63, 64, 65, 66, 13, 67, 68, 69, 70, 71, 72, 73, 74, 9, 21, 22, 23, 24, 75, 76, 77, 78, 79, 80, 81, 82, 83, 84, 85, 86, 15, 11, 16, 87, 88, 89, 90, 91, 92, 93, 94, 95, 12, 96, 97, 98, 99, 100, 101, 102, 103, 14, 10, 104, 105, 106, 107, 108, 109, 110, 111, 112, 113, 114, 115, 116, 117, 118, 119, 120, 121, 122, 123, 124, 125, 126, 127, 17, 128, 129, 130, 131, 132, 133, 134, 135, 136, 141, 142, 143, 144, 145, 146, 147, 148, 149, 150, 151, 152, 153, 154, 155, 156, 157] (by decide +kernel) (by decide +kernel)
set_option maxRecDepth 20000 in
theorem gX3_fault_X2_runOn : GoodIn wsX3_fault (wsV RX3 147 RX2 yX2_runOn wsX2_runOn) := goodIn_app (goodIn_of _ (by decide +kernel)) ggX3_fault_X2_runOn
theorem dX3_fault_0 : decode cX3_fault 0 = .ok (.iload_n 1, 1) := by decide +kernel
theorem dX3_fault_1 : decode cX3_fault 1 = .ok (.ifCond .eq 10, 3) := by decide +kernel
theorem dX3_fault_4 : decode cX3_fault 4 = .ok (.iload_n 1, 1) := by decide +kernel
theorem dX3_fault_5 : decode cX3_fault 5 = .ok (.iconst 1, 1) := by decide +kernel
theorem dX3_fault_6 : decode cX3_fault 6 = .ok (.if_icmp .eq 5, 3) := by decide +kernel
theorem dX3_fault_9 : decode cX3_fault 9 = .ok (.iconst (-1), 1) := by decide +kernel
theorem dX3_fault_10 : decode cX3_fault 10 = .ok (.ireturn, 1) := by decide +kernel
theorem dX3_fault_11 : decode cX3_fault 11 = .ok (.aload_n 0, 1) := by decide +kernel
theorem dX3_fault_12 : decode cX3_fault 12 = .ok (.getfield 16, 3) := by decide +kernel
theorem dX3_fault_15 : decode cX3_fault 15 = .ok (.aload_n 0, 1) := by decide +kernel
theorem dX3_fault_16 : decode cX3_fault 16 = .ok (.getfield 12, 3) := by decide +kernel
theorem dX3_fault_19 : decode cX3_fault 19 = .ok (.invokevirtual 106, 3) := by decide +kernel
theorem dX3_fault_22 : decode cX3_fault 22 = .ok (.aload_n 0, 1) := by decide +kernel
theorem dX3_fault_23 : decode cX3_fault 23 = .ok (.getfield 29, 3) := by decide +kernel
theorem dX3_fault_26 : decode cX3_fault 26 = .ok (.aload_n 0, 1) := by decide +kernel
theorem dX3_fault_27 : decode cX3_fault 27 = .ok (.getfield 16, 3) := by decide +kernel
theorem dX3_fault_30 : decode cX3_fault 30 = .ok (.invokevirtual 147, 3) := by decide +kernel
theorem dX3_fault_33 : decode cX3_fault 33 = .ok (.aload_n 0, 1) := by decide +kernel
theorem dX3_fault_34 : decode cX3_fault 34 = .ok (.getfield 29, 3) := by decide +kernel
theorem dX3_fault_37 : decode cX3_fault 37 = .ok (.getfield 150, 3) := by decide +kernel
theorem dX3_fault_40 : decode cX3_fault 40 = .ok (.ifCond .ne 6, 3) := by decide +kernel
theorem dX3_fault_43 : decode cX3_fault 43 = .ok (.bipush (-4), 2) := by decide +kernel
theorem dX3_fault_45 : decode cX3_fault 45 = .ok (.ireturn, 1) := by decide +kernel
theorem dX3_fault_46 : decode cX3_fault 46 = .ok (.iload_n 1, 1) := by decide +kernel
theorem dX3_fault_47 : decode cX3_fault 47 = .ok (.ifCond .ne 13, 3) := by decide +kernel
theorem dX3_fault_50 : decode cX3_fault 50 = .ok (.aload_n 0, 1) := by decide +kernel
theorem dX3_fault_51 : decode cX3_fault 51 = .ok (.getfield 29, 3) := by decide +kernel
theorem dX3_fault_54 : decode cX3_fault 54 = .ok (.getfield 153, 3) := by decide +kernel
theorem dX3_fault_57 : decode cX3_fault 57 = .ok (.goto 10, 3) := by decide +kernel
theorem dX3_fault_60 : decode cX3_fault 60 = .ok (.aload_n 0, 1) := by decide +kernel
theorem dX3_fault_61 : decode cX3_fault 61 = .ok (.getfield 29, 3) := by decide +kernel
theorem dX3_fault_64 : decode cX3_fault 64 = .ok (.getfield 150, 3) := by decide +kernel
theorem dX3_fault_67 : decode cX3_fault 67 = .ok (.ireturn, 1) := by decide +kernel
set_option maxRecDepth 20000 in
theorem ggX3_play_X1_note : GoodIn wsX3_play wsX1_note := goodIn_r _ [9, 10, 11, 12, 13, 14, 15, 16, 17, 18, 19, 20, 21, 22, 23, 24, 25, 26, 27, 28, 29, 30, 31, 32, 33, 34, 35, 36, 37, 166, 167, 168, 169, 170, 171, 172, 173, 174, 175, 176, 177, 178] (by decide +kernel) (by decide +kernel)
set_option maxRecDepth 20000 in
theorem gX3_play_X1_note : GoodIn wsX3_play (wsV RX3 33 RX1 yX1_note wsX1_note) := goodIn_app (goodIn_of _ (by decide +kernel)) ggX3_play_X1_note
set_option maxRecDepth 20000 in
theorem ggX3_play_X0_copyFrom : GoodIn wsX3_play wsX0_copyFrom := goodIn_r _ [17, 18, 19, 20, 21, 22, 23, 24, 25, 26, 27, 28, 16, 29, 30, 31, 32, 33, 34, 35, 36, 37, 169, 170, 171, 172, 173, 174, 175, 176, 177, 178] (by decide +kernel) (by decide +kernel)
set_option maxRecDepth 20000 in
theorem gX3_play_X0_copyFrom : GoodIn wsX3_play (wsV RX3 106 RX0 yX0_copyFrom wsX0_copyFrom) := goodIn_app (goodIn_of _ (by decide +kernel)) ggX3_play_X0_copyFrom
set_option maxRecDepth 20000 in
theorem ggX3_play_X2_runOn : GoodIn wsX3_play wsX2_runOn := goodIn_r _ [43, 44, 45, 46, 47, 48, 49, 50, 51, 52, 42, 53, 54, 55, 56, 57, 58, 59, 60, 61, 62, 63, 64, 65, 66, 67, 68, 69, 70, 71, 16, 72, 73, 74, 75, 76, 22, 77, 78, 79, 80, 81, 82, 83, 84, 18, 30, 31, 32, 33, 85, 86, 87, 88, 89, 90, 91, 92, 93, 94, 95, 96, 24, 20, 25, 97, 98, 99, 100, 101, 102, 103, 104, 105, 21, 106, 107, 108, 109, 110, 111, 112, 113, 23, 19, 114, 115, 116, 117, 118, 119, 120, 121, 122, 123, 124, 125, 126, 127, 128, 129, 130, 131, 132, 133, 134, 135, 136, 137, 26, 138, 139, 140, 141, 142, 143, 144, 145, 146, 159, 160, 161, 162, 163, 164, 165, 169, 170, 171, 172, 173, 174, 175, 176, 177, 178] (by decide +kernel) (by decide +kernel)
set_option maxRecDepth 20000 in
theorem gX3_play_X2_runOn : GoodIn wsX3_play (wsV RX3 147 RX2 yX2_runOn wsX2_runOn) := goodIn_app (goodIn_of _ (by decide +kernel)) ggX3_play_X2_runOn
set_option maxRecDepth 20000 in
theorem ggX3_play_X3_keepIfDone : GoodIn wsX3_play wsX3_keepIfDone := goodIn_r _ [150, 1, 151, 152, 153, 8, 154, 12, 11, 155, 156, 157, 158, 166, 167, 168] (by decide +kernel) (by decide +kernel)
set_option maxRecDepth 20000 in
theorem gX3_play_X3_keepIfDone : GoodIn wsX3_play (wsV RX3 41 RX3 yX3_keepIfDone wsX3_keepIfDone) := goodIn_app (goodIn_of _ (by decide +kernel)) ggX3_play_X3_keepIfDone
theorem dX3_play_0 : decode cX3_play 0 = .ok (.aload_n 0, 1) := by decide +kernel
theorem dX3_play_1 : decode cX3_play 1 = .ok (.getfield 22, 3) := by decide +kernel
theorem dX3_play_4 : decode cX3_play 4 = .ok (.aload_n 0, 1) := by decide +kernel
theorem dX3_play_5 : decode cX3_play 5 = .ok (.getfield 12, 3) := by decide +kernel
theorem dX3_play_8 : decode cX3_play 8 = .ok (.invokevirtual 33, 3) := by decide +kernel
theorem dX3_play_11 : decode cX3_play 11 = .ok (.aload_n 0, 1) := by decide +kernel
theorem dX3_play_12 : decode cX3_play 12 = .ok (.getfield 16, 3) := by decide +kernel
theorem dX3_play_15 : decode cX3_play 15 = .ok (.aload_n 0, 1) := by decide +kernel
theorem dX3_play_16 : decode cX3_play 16 = .ok (.getfield 12, 3) := by decide +kernel
theorem dX3_play_19 : decode cX3_play 19 = .ok (.invokevirtual 106, 3) := by decide +kernel
theorem dX3_play_22 : decode cX3_play 22 = .ok (.aload_n 0, 1) := by decide +kernel
theorem dX3_play_23 : decode cX3_play 23 = .ok (.getfield 29, 3) := by decide +kernel
theorem dX3_play_26 : decode cX3_play 26 = .ok (.aload_n 0, 1) := by decide +kernel
theorem dX3_play_27 : decode cX3_play 27 = .ok (.getfield 16, 3) := by decide +kernel
theorem dX3_play_30 : decode cX3_play 30 = .ok (.invokevirtual 147, 3) := by decide +kernel
theorem dX3_play_33 : decode cX3_play 33 = .ok (.aload_n 0, 1) := by decide +kernel
theorem dX3_play_34 : decode cX3_play 34 = .ok (.getfield 29, 3) := by decide +kernel
theorem dX3_play_37 : decode cX3_play 37 = .ok (.getfield 150, 3) := by decide +kernel
theorem dX3_play_40 : decode cX3_play 40 = .ok (.ifCond .eq 6, 3) := by decide +kernel
theorem dX3_play_43 : decode cX3_play 43 = .ok (.bipush (-2), 2) := by decide +kernel
theorem dX3_play_45 : decode cX3_play 45 = .ok (.ireturn, 1) := by decide +kernel
theorem dX3_play_46 : decode cX3_play 46 = .ok (.aload_n 0, 1) := by decide +kernel
theorem dX3_play_47 : decode cX3_play 47 = .ok (.getfield 12, 3) := by decide +kernel
theorem dX3_play_50 : decode cX3_play 50 = .ok (.aload_n 0, 1) := by decide +kernel
theorem dX3_play_51 : decode cX3_play 51 = .ok (.getfield 16, 3) := by decide +kernel
theorem dX3_play_54 : decode cX3_play 54 = .ok (.invokevirtual 106, 3) := by decide +kernel
theorem dX3_play_57 : decode cX3_play 57 = .ok (.aload_n 0, 1) := by decide +kernel
theorem dX3_play_58 : decode cX3_play 58 = .ok (.aload_n 0, 1) := by decide +kernel
theorem dX3_play_59 : decode cX3_play 59 = .ok (.getfield 29, 3) := by decide +kernel
theorem dX3_play_62 : decode cX3_play 62 = .ok (.getfield 156, 3) := by decide +kernel
theorem dX3_play_65 : decode cX3_play 65 = .ok (.invokevirtual 41, 3) := by decide +kernel
theorem dX3_play_68 : decode cX3_play 68 = .ok (.ireturn, 1) := by decide +kernel
set_option maxRecDepth 20000 in
theorem ggX3_keepIfDone_X1_keep : GoodIn wsX3_keepIfDone wsX1_keep := goodIn_r _ [6, 7, 8, 13, 14, 15] (by decide +kernel) (by decide +kernel)
set_option maxRecDepth 20000 in
theorem gX3_keepIfDone_X1_keep : GoodIn wsX3_keepIfDone (wsV RX3 159 RX1 yX1_keep wsX1_keep) := goodIn_app (goodIn_of _ (by decide +kernel)) ggX3_keepIfDone_X1_keep
theorem dX3_keepIfDone_0 : decode cX3_keepIfDone 0 = .ok (.iload_n 1, 1) := by decide +kernel
theorem dX3_keepIfDone_1 : decode cX3_keepIfDone 1 = .ok (.ifCond .lt 10, 3) := by decide +kernel
theorem dX3_keepIfDone_4 : decode cX3_keepIfDone 4 = .ok (.aload_n 0, 1) := by decide +kernel
theorem dX3_keepIfDone_5 : decode cX3_keepIfDone 5 = .ok (.getfield 22, 3) := by decide +kernel
theorem dX3_keepIfDone_8 : decode cX3_keepIfDone 8 = .ok (.invokevirtual 159, 3) := by decide +kernel
theorem dX3_keepIfDone_11 : decode cX3_keepIfDone 11 = .ok (.iload_n 1, 1) := by decide +kernel
theorem dX3_keepIfDone_12 : decode cX3_keepIfDone 12 = .ok (.ireturn, 1) := by decide +kernel
