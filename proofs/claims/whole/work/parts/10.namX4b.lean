theorem dX4_looks_40 : decode cX4_looks 40 = .ok (.imul, 1) := by decide +kernel
theorem dX4_looks_41 : decode cX4_looks 41 = .ok (.iadd, 1) := by decide +kernel
theorem dX4_looks_42 : decode cX4_looks 42 = .ok (.iconst 1, 1) := by decide +kernel
theorem dX4_looks_43 : decode cX4_looks 43 = .ok (.iadd, 1) := by decide +kernel
theorem dX4_looks_44 : decode cX4_looks 44 = .ok (.iaload, 1) := by decide +kernel
theorem dX4_looks_45 : decode cX4_looks 45 = .ok (.istore 4, 2) := by decide +kernel
theorem dX4_looks_47 : decode cX4_looks 47 = .ok (.aload_n 0, 1) := by decide +kernel
theorem dX4_looks_48 : decode cX4_looks 48 = .ok (.iload_n 3, 1) := by decide +kernel
theorem dX4_looks_49 : decode cX4_looks 49 = .ok (.invokevirtual 80, 3) := by decide +kernel
theorem dX4_looks_52 : decode cX4_looks 52 = .ok (.iload 4, 2) := by decide +kernel
theorem dX4_looks_54 : decode cX4_looks 54 = .ok (.if_icmp .lt 30, 3) := by decide +kernel
theorem dX4_looks_57 : decode cX4_looks 57 = .ok (.aload_n 0, 1) := by decide +kernel
theorem dX4_looks_58 : decode cX4_looks 58 = .ok (.iload_n 3, 1) := by decide +kernel
theorem dX4_looks_59 : decode cX4_looks 59 = .ok (.iload 4, 2) := by decide +kernel
theorem dX4_looks_61 : decode cX4_looks 61 = .ok (.invokevirtual 83, 3) := by decide +kernel
theorem dX4_looks_64 : decode cX4_looks 64 = .ok (.pop, 1) := by decide +kernel
theorem dX4_looks_65 : decode cX4_looks 65 = .ok (.aload_n 0, 1) := by decide +kernel
theorem dX4_looks_66 : decode cX4_looks 66 = .ok (.getfield 7, 3) := by decide +kernel
theorem dX4_looks_69 : decode cX4_looks 69 = .ok (.bipush 7, 2) := by decide +kernel
theorem dX4_looks_71 : decode cX4_looks 71 = .ok (.dup2, 1) := by decide +kernel
theorem dX4_looks_72 : decode cX4_looks 72 = .ok (.iaload, 1) := by decide +kernel
theorem dX4_looks_73 : decode cX4_looks 73 = .ok (.iconst 1, 1) := by decide +kernel
theorem dX4_looks_74 : decode cX4_looks 74 = .ok (.iadd, 1) := by decide +kernel
theorem dX4_looks_75 : decode cX4_looks 75 = .ok (.iastore, 1) := by decide +kernel
theorem dX4_looks_76 : decode cX4_looks 76 = .ok (.aload_n 0, 1) := by decide +kernel
theorem dX4_looks_77 : decode cX4_looks 77 = .ok (.iload_n 1, 1) := by decide +kernel
theorem dX4_looks_78 : decode cX4_looks 78 = .ok (.invokevirtual 95, 3) := by decide +kernel
theorem dX4_looks_81 : decode cX4_looks 81 = .ok (.goto 22, 3) := by decide +kernel
theorem dX4_looks_84 : decode cX4_looks 84 = .ok (.aload_n 0, 1) := by decide +kernel
theorem dX4_looks_85 : decode cX4_looks 85 = .ok (.getfield 7, 3) := by decide +kernel
theorem dX4_looks_88 : decode cX4_looks 88 = .ok (.iconst 2, 1) := by decide +kernel
theorem dX4_looks_89 : decode cX4_looks 89 = .ok (.iaload, 1) := by decide +kernel
theorem dX4_looks_90 : decode cX4_looks 90 = .ok (.iconst 1, 1) := by decide +kernel
theorem dX4_looks_91 : decode cX4_looks 91 = .ok (.if_icmp .ne 7, 3) := by decide +kernel
theorem dX4_looks_94 : decode cX4_looks 94 = .ok (.iconst 1, 1) := by decide +kernel
theorem dX4_looks_95 : decode cX4_looks 95 = .ok (.goto 4, 3) := by decide +kernel
theorem dX4_looks_98 : decode cX4_looks 98 = .ok (.iconst 0, 1) := by decide +kernel
theorem dX4_looks_99 : decode cX4_looks 99 = .ok (.istore_n 2, 1) := by decide +kernel
theorem dX4_looks_100 : decode cX4_looks 100 = .ok (.iinc 1 1, 3) := by decide +kernel
theorem dX4_looks_103 : decode cX4_looks 103 = .ok (.goto (-99), 3) := by decide +kernel
theorem dX4_looks_106 : decode cX4_looks 106 = .ok (.return_, 1) := by decide +kernel
set_option maxRecDepth 20000 in
theorem ggX4_flows_X4_isDry : GoodIn wsX4_flows wsX4_isDry := goodIn_r _ [6, 1, 7, 8, 5, 9, 25, 26, 27, 28, 29, 30, 31, 32, 33, 34, 35, 36] (by decide +kernel) (by decide +kernel)
set_option maxRecDepth 20000 in
theorem gX4_flows_X4_isDry : GoodIn wsX4_flows (wsV RX4 67 RX4 yX4_isDry wsX4_isDry) := goodIn_app (goodIn_of _ (by decide +kernel)) ggX4_flows_X4_isDry
set_option maxRecDepth 20000 in
theorem ggX4_flows_X4_of : GoodIn wsX4_flows wsX4_of := goodIn_r _ [13, 1, 25, 26, 27, 28, 29, 30, 31, 32, 33, 34, 35, 36] (by decide +kernel) (by decide +kernel)
set_option maxRecDepth 20000 in
theorem gX4_flows_X4_of : GoodIn wsX4_flows (wsV RX4 36 RX4 yX4_of wsX4_of) := goodIn_app (goodIn_of _ (by decide +kernel)) ggX4_flows_X4_of
set_option maxRecDepth 20000 in
theorem ggX4_flows_X4_room : GoodIn wsX4_flows wsX4_room := goodIn_r _ [17, 10, 11, 12, 5, 13, 1, 25, 26, 27, 28, 29, 30, 31, 32, 33, 34, 35, 36] (by decide +kernel) (by decide +kernel)
set_option maxRecDepth 20000 in
theorem gX4_flows_X4_room : GoodIn wsX4_flows (wsV RX4 99 RX4 yX4_room wsX4_room) := goodIn_app (goodIn_of _ (by decide +kernel)) ggX4_flows_X4_room
set_option maxRecDepth 20000 in
theorem ggX4_flows_X4_least : GoodIn wsX4_flows wsX4_least := goodIn_r _ [20] (by decide +kernel) (by decide +kernel)
set_option maxRecDepth 20000 in
theorem gX4_flows_X4_least : GoodIn wsX4_flows (va_wsS RX4 71 yX4_least wsX4_least) := goodIn_app (goodIn_of _ (by decide +kernel)) ggX4_flows_X4_least
set_option maxRecDepth 20000 in
theorem ggX4_flows_X4_adds : GoodIn wsX4_flows wsX4_adds := goodIn_r _ [24, 1, 25, 26, 27, 28, 29, 30, 31, 32, 33, 34, 35, 36] (by decide +kernel) (by decide +kernel)
set_option maxRecDepth 20000 in
theorem gX4_flows_X4_adds : GoodIn wsX4_flows (wsV RX4 44 RX4 yX4_adds wsX4_adds) := goodIn_app (goodIn_of _ (by decide +kernel)) ggX4_flows_X4_adds
theorem dX4_flows_0 : decode cX4_flows 0 = .ok (.iconst 0, 1) := by decide +kernel
theorem dX4_flows_1 : decode cX4_flows 1 = .ok (.istore_n 1, 1) := by decide +kernel
theorem dX4_flows_2 : decode cX4_flows 2 = .ok (.iload_n 1, 1) := by decide +kernel
theorem dX4_flows_3 : decode cX4_flows 3 = .ok (.aload_n 0, 1) := by decide +kernel
theorem dX4_flows_4 : decode cX4_flows 4 = .ok (.getfield 7, 3) := by decide +kernel
theorem dX4_flows_7 : decode cX4_flows 7 = .ok (.iconst 3, 1) := by decide +kernel
theorem dX4_flows_8 : decode cX4_flows 8 = .ok (.iaload, 1) := by decide +kernel
theorem dX4_flows_9 : decode cX4_flows 9 = .ok (.if_icmp .ge 69, 3) := by decide +kernel
theorem dX4_flows_12 : decode cX4_flows 12 = .ok (.aload_n 0, 1) := by decide +kernel
theorem dX4_flows_13 : decode cX4_flows 13 = .ok (.iload_n 1, 1) := by decide +kernel
theorem dX4_flows_14 : decode cX4_flows 14 = .ok (.aload_n 0, 1) := by decide +kernel
theorem dX4_flows_15 : decode cX4_flows 15 = .ok (.getfield 7, 3) := by decide +kernel
theorem dX4_flows_18 : decode cX4_flows 18 = .ok (.iconst 0, 1) := by decide +kernel
theorem dX4_flows_19 : decode cX4_flows 19 = .ok (.iaload, 1) := by decide +kernel
theorem dX4_flows_20 : decode cX4_flows 20 = .ok (.invokevirtual 67, 3) := by decide +kernel
theorem dX4_flows_23 : decode cX4_flows 23 = .ok (.ifCond .eq 7, 3) := by decide +kernel
theorem dX4_flows_26 : decode cX4_flows 26 = .ok (.iconst 0, 1) := by decide +kernel
theorem dX4_flows_27 : decode cX4_flows 27 = .ok (.goto 9, 3) := by decide +kernel
theorem dX4_flows_30 : decode cX4_flows 30 = .ok (.aload_n 0, 1) := by decide +kernel
theorem dX4_flows_31 : decode cX4_flows 31 = .ok (.iload_n 1, 1) := by decide +kernel
theorem dX4_flows_32 : decode cX4_flows 32 = .ok (.iconst 2, 1) := by decide +kernel
theorem dX4_flows_33 : decode cX4_flows 33 = .ok (.invokevirtual 36, 3) := by decide +kernel
theorem dX4_flows_36 : decode cX4_flows 36 = .ok (.istore_n 2, 1) := by decide +kernel
theorem dX4_flows_37 : decode cX4_flows 37 = .ok (.iload_n 2, 1) := by decide +kernel
theorem dX4_flows_38 : decode cX4_flows 38 = .ok (.aload_n 0, 1) := by decide +kernel
theorem dX4_flows_39 : decode cX4_flows 39 = .ok (.iload_n 1, 1) := by decide +kernel
theorem dX4_flows_40 : decode cX4_flows 40 = .ok (.invokevirtual 99, 3) := by decide +kernel
theorem dX4_flows_43 : decode cX4_flows 43 = .ok (.invokestatic 71, 3) := by decide +kernel
theorem dX4_flows_46 : decode cX4_flows 46 = .ok (.istore_n 3, 1) := by decide +kernel
theorem dX4_flows_47 : decode cX4_flows 47 = .ok (.aload_n 0, 1) := by decide +kernel
theorem dX4_flows_48 : decode cX4_flows 48 = .ok (.iload_n 1, 1) := by decide +kernel
theorem dX4_flows_49 : decode cX4_flows 49 = .ok (.iconst 4, 1) := by decide +kernel
theorem dX4_flows_50 : decode cX4_flows 50 = .ok (.iload_n 3, 1) := by decide +kernel
theorem dX4_flows_51 : decode cX4_flows 51 = .ok (.invokevirtual 44, 3) := by decide +kernel
theorem dX4_flows_54 : decode cX4_flows 54 = .ok (.aload_n 0, 1) := by decide +kernel
theorem dX4_flows_55 : decode cX4_flows 55 = .ok (.iload_n 1, 1) := by decide +kernel
theorem dX4_flows_56 : decode cX4_flows 56 = .ok (.bipush 6, 2) := by decide +kernel
theorem dX4_flows_58 : decode cX4_flows 58 = .ok (.iload_n 3, 1) := by decide +kernel
theorem dX4_flows_59 : decode cX4_flows 59 = .ok (.invokevirtual 44, 3) := by decide +kernel
theorem dX4_flows_62 : decode cX4_flows 62 = .ok (.aload_n 0, 1) := by decide +kernel
theorem dX4_flows_63 : decode cX4_flows 63 = .ok (.iload_n 1, 1) := by decide +kernel
theorem dX4_flows_64 : decode cX4_flows 64 = .ok (.bipush 7, 2) := by decide +kernel
theorem dX4_flows_66 : decode cX4_flows 66 = .ok (.iload_n 2, 1) := by decide +kernel
theorem dX4_flows_67 : decode cX4_flows 67 = .ok (.iload_n 3, 1) := by decide +kernel
theorem dX4_flows_68 : decode cX4_flows 68 = .ok (.isub, 1) := by decide +kernel
theorem dX4_flows_69 : decode cX4_flows 69 = .ok (.invokevirtual 44, 3) := by decide +kernel
theorem dX4_flows_72 : decode cX4_flows 72 = .ok (.iinc 1 1, 3) := by decide +kernel
theorem dX4_flows_75 : decode cX4_flows 75 = .ok (.goto (-73), 3) := by decide +kernel
theorem dX4_flows_78 : decode cX4_flows 78 = .ok (.return_, 1) := by decide +kernel
set_option maxRecDepth 20000 in
theorem ggX4_lends_X4_of : GoodIn wsX4_lends wsX4_of := goodIn_r _ [6, 1, 22, 23, 24, 25, 26, 27, 28, 29, 30, 31, 32, 33] (by decide +kernel) (by decide +kernel)
set_option maxRecDepth 20000 in
theorem gX4_lends_X4_of : GoodIn wsX4_lends (wsV RX4 36 RX4 yX4_of wsX4_of) := goodIn_app (goodIn_of _ (by decide +kernel)) ggX4_lends_X4_of
set_option maxRecDepth 20000 in
theorem ggX4_lends_X4_half : GoodIn wsX4_lends wsX4_half := goodIn_r _ [10, 2, 3, 4, 5, 6, 1, 22, 23, 24, 25, 26, 27, 28, 29, 30, 31, 32, 33] (by decide +kernel) (by decide +kernel)
set_option maxRecDepth 20000 in
theorem gX4_lends_X4_half : GoodIn wsX4_lends (wsV RX4 102 RX4 yX4_half wsX4_half) := goodIn_app (goodIn_of _ (by decide +kernel)) ggX4_lends_X4_half
set_option maxRecDepth 20000 in
theorem ggX4_lends_X4_room : GoodIn wsX4_lends wsX4_room := goodIn_r _ [14, 2, 3, 4, 5, 6, 1, 22, 23, 24, 25, 26, 27, 28, 29, 30, 31, 32, 33] (by decide +kernel) (by decide +kernel)
set_option maxRecDepth 20000 in
theorem gX4_lends_X4_room : GoodIn wsX4_lends (wsV RX4 99 RX4 yX4_room wsX4_room) := goodIn_app (goodIn_of _ (by decide +kernel)) ggX4_lends_X4_room
set_option maxRecDepth 20000 in
theorem ggX4_lends_X4_least : GoodIn wsX4_lends wsX4_least := goodIn_r _ [17] (by decide +kernel) (by decide +kernel)
set_option maxRecDepth 20000 in
theorem gX4_lends_X4_least : GoodIn wsX4_lends (va_wsS RX4 71 yX4_least wsX4_least) := goodIn_app (goodIn_of _ (by decide +kernel)) ggX4_lends_X4_least
set_option maxRecDepth 20000 in
theorem ggX4_lends_X4_adds : GoodIn wsX4_lends wsX4_adds := goodIn_r _ [21, 1, 22, 23, 24, 25, 26, 27, 28, 29, 30, 31, 32, 33] (by decide +kernel) (by decide +kernel)
set_option maxRecDepth 20000 in
theorem gX4_lends_X4_adds : GoodIn wsX4_lends (wsV RX4 44 RX4 yX4_adds wsX4_adds) := goodIn_app (goodIn_of _ (by decide +kernel)) ggX4_lends_X4_adds
theorem dX4_lends_0 : decode cX4_lends 0 = .ok (.iconst 0, 1) := by decide +kernel
theorem dX4_lends_1 : decode cX4_lends 1 = .ok (.istore_n 1, 1) := by decide +kernel
theorem dX4_lends_2 : decode cX4_lends 2 = .ok (.aload_n 0, 1) := by decide +kernel
theorem dX4_lends_3 : decode cX4_lends 3 = .ok (.getfield 7, 3) := by decide +kernel
theorem dX4_lends_6 : decode cX4_lends 6 = .ok (.iconst 3, 1) := by decide +kernel
theorem dX4_lends_7 : decode cX4_lends 7 = .ok (.iaload, 1) := by decide +kernel
theorem dX4_lends_8 : decode cX4_lends 8 = .ok (.iconst 1, 1) := by decide +kernel
theorem dX4_lends_9 : decode cX4_lends 9 = .ok (.isub, 1) := by decide +kernel
theorem dX4_lends_10 : decode cX4_lends 10 = .ok (.istore_n 2, 1) := by decide +kernel
theorem dX4_lends_11 : decode cX4_lends 11 = .ok (.iload_n 2, 1) := by decide +kernel
theorem dX4_lends_12 : decode cX4_lends 12 = .ok (.ifCond .le 83, 3) := by decide +kernel
theorem dX4_lends_15 : decode cX4_lends 15 = .ok (.aload_n 0, 1) := by decide +kernel
theorem dX4_lends_16 : decode cX4_lends 16 = .ok (.iload_n 2, 1) := by decide +kernel
theorem dX4_lends_17 : decode cX4_lends 17 = .ok (.iconst 0, 1) := by decide +kernel
theorem dX4_lends_18 : decode cX4_lends 18 = .ok (.invokevirtual 36, 3) := by decide +kernel
theorem dX4_lends_21 : decode cX4_lends 21 = .ok (.istore_n 3, 1) := by decide +kernel
theorem dX4_lends_22 : decode cX4_lends 22 = .ok (.aload_n 0, 1) := by decide +kernel
theorem dX4_lends_23 : decode cX4_lends 23 = .ok (.iload_n 2, 1) := by decide +kernel
theorem dX4_lends_24 : decode cX4_lends 24 = .ok (.iconst 4, 1) := by decide +kernel
theorem dX4_lends_25 : decode cX4_lends 25 = .ok (.invokevirtual 36, 3) := by decide +kernel
theorem dX4_lends_28 : decode cX4_lends 28 = .ok (.aload_n 0, 1) := by decide +kernel
theorem dX4_lends_29 : decode cX4_lends 29 = .ok (.iload_n 2, 1) := by decide +kernel
theorem dX4_lends_30 : decode cX4_lends 30 = .ok (.invokevirtual 102, 3) := by decide +kernel
theorem dX4_lends_33 : decode cX4_lends 33 = .ok (.isub, 1) := by decide +kernel
theorem dX4_lends_34 : decode cX4_lends 34 = .ok (.aload_n 0, 1) := by decide +kernel
theorem dX4_lends_35 : decode cX4_lends 35 = .ok (.iload_n 3, 1) := by decide +kernel
theorem dX4_lends_36 : decode cX4_lends 36 = .ok (.invokevirtual 99, 3) := by decide +kernel
theorem dX4_lends_39 : decode cX4_lends 39 = .ok (.invokestatic 71, 3) := by decide +kernel
theorem dX4_lends_42 : decode cX4_lends 42 = .ok (.istore 4, 2) := by decide +kernel
theorem dX4_lends_44 : decode cX4_lends 44 = .ok (.iload 4, 2) := by decide +kernel
theorem dX4_lends_46 : decode cX4_lends 46 = .ok (.ifCond .le 43, 3) := by decide +kernel
theorem dX4_lends_49 : decode cX4_lends 49 = .ok (.aload_n 0, 1) := by decide +kernel
theorem dX4_lends_50 : decode cX4_lends 50 = .ok (.iload_n 2, 1) := by decide +kernel
theorem dX4_lends_51 : decode cX4_lends 51 = .ok (.iconst 4, 1) := by decide +kernel
theorem dX4_lends_52 : decode cX4_lends 52 = .ok (.iload 4, 2) := by decide +kernel
theorem dX4_lends_54 : decode cX4_lends 54 = .ok (.ineg, 1) := by decide +kernel
theorem dX4_lends_55 : decode cX4_lends 55 = .ok (.invokevirtual 44, 3) := by decide +kernel
theorem dX4_lends_58 : decode cX4_lends 58 = .ok (.aload_n 0, 1) := by decide +kernel
theorem dX4_lends_59 : decode cX4_lends 59 = .ok (.iload_n 2, 1) := by decide +kernel
theorem dX4_lends_60 : decode cX4_lends 60 = .ok (.iconst 5, 1) := by decide +kernel
theorem dX4_lends_61 : decode cX4_lends 61 = .ok (.iload 4, 2) := by decide +kernel
theorem dX4_lends_63 : decode cX4_lends 63 = .ok (.invokevirtual 44, 3) := by decide +kernel
theorem dX4_lends_66 : decode cX4_lends 66 = .ok (.aload_n 0, 1) := by decide +kernel
theorem dX4_lends_67 : decode cX4_lends 67 = .ok (.iload_n 3, 1) := by decide +kernel
theorem dX4_lends_68 : decode cX4_lends 68 = .ok (.iconst 4, 1) := by decide +kernel
theorem dX4_lends_69 : decode cX4_lends 69 = .ok (.iload 4, 2) := by decide +kernel
theorem dX4_lends_71 : decode cX4_lends 71 = .ok (.invokevirtual 44, 3) := by decide +kernel
theorem dX4_lends_74 : decode cX4_lends 74 = .ok (.aload_n 0, 1) := by decide +kernel
theorem dX4_lends_75 : decode cX4_lends 75 = .ok (.iload_n 3, 1) := by decide +kernel
theorem dX4_lends_76 : decode cX4_lends 76 = .ok (.bipush 10, 2) := by decide +kernel
theorem dX4_lends_78 : decode cX4_lends 78 = .ok (.iload 4, 2) := by decide +kernel
theorem dX4_lends_80 : decode cX4_lends 80 = .ok (.invokevirtual 44, 3) := by decide +kernel
theorem dX4_lends_83 : decode cX4_lends 83 = .ok (.iload_n 1, 1) := by decide +kernel
theorem dX4_lends_84 : decode cX4_lends 84 = .ok (.iconst 1, 1) := by decide +kernel
theorem dX4_lends_85 : decode cX4_lends 85 = .ok (.iload_n 2, 1) := by decide +kernel
theorem dX4_lends_86 : decode cX4_lends 86 = .ok (.ishl, 1) := by decide +kernel
theorem dX4_lends_87 : decode cX4_lends 87 = .ok (.ior, 1) := by decide +kernel
theorem dX4_lends_88 : decode cX4_lends 88 = .ok (.istore_n 1, 1) := by decide +kernel
theorem dX4_lends_89 : decode cX4_lends 89 = .ok (.iinc 2 (-1), 3) := by decide +kernel
theorem dX4_lends_92 : decode cX4_lends 92 = .ok (.goto (-81), 3) := by decide +kernel
theorem dX4_lends_95 : decode cX4_lends 95 = .ok (.iload_n 1, 1) := by decide +kernel
theorem dX4_lends_96 : decode cX4_lends 96 = .ok (.ireturn, 1) := by decide +kernel
set_option maxRecDepth 20000 in
theorem ggX4_paysBack_X4_of : GoodIn wsX4_paysBack wsX4_of := goodIn_r _ [6, 1, 18, 19, 20, 21, 22, 23, 24, 25, 26, 27, 28, 29] (by decide +kernel) (by decide +kernel)
set_option maxRecDepth 20000 in
theorem gX4_paysBack_X4_of : GoodIn wsX4_paysBack (wsV RX4 36 RX4 yX4_of wsX4_of) := goodIn_app (goodIn_of _ (by decide +kernel)) ggX4_paysBack_X4_of
set_option maxRecDepth 20000 in
theorem ggX4_paysBack_X4_room : GoodIn wsX4_paysBack wsX4_room := goodIn_r _ [10, 2, 3, 4, 5, 6, 1, 18, 19, 20, 21, 22, 23, 24, 25, 26, 27, 28, 29] (by decide +kernel) (by decide +kernel)
set_option maxRecDepth 20000 in
theorem gX4_paysBack_X4_room : GoodIn wsX4_paysBack (wsV RX4 99 RX4 yX4_room wsX4_room) := goodIn_app (goodIn_of _ (by decide +kernel)) ggX4_paysBack_X4_room
set_option maxRecDepth 20000 in
theorem ggX4_paysBack_X4_least : GoodIn wsX4_paysBack wsX4_least := goodIn_r _ [13] (by decide +kernel) (by decide +kernel)
set_option maxRecDepth 20000 in
theorem gX4_paysBack_X4_least : GoodIn wsX4_paysBack (va_wsS RX4 71 yX4_least wsX4_least) := goodIn_app (goodIn_of _ (by decide +kernel)) ggX4_paysBack_X4_least
set_option maxRecDepth 20000 in
theorem ggX4_paysBack_X4_adds : GoodIn wsX4_paysBack wsX4_adds := goodIn_r _ [17, 1, 18, 19, 20, 21, 22, 23, 24, 25, 26, 27, 28, 29] (by decide +kernel) (by decide +kernel)
set_option maxRecDepth 20000 in
theorem gX4_paysBack_X4_adds : GoodIn wsX4_paysBack (wsV RX4 44 RX4 yX4_adds wsX4_adds) := goodIn_app (goodIn_of _ (by decide +kernel)) ggX4_paysBack_X4_adds
theorem dX4_paysBack_0 : decode cX4_paysBack 0 = .ok (.iconst 0, 1) := by decide +kernel
theorem dX4_paysBack_1 : decode cX4_paysBack 1 = .ok (.istore_n 1, 1) := by decide +kernel
theorem dX4_paysBack_2 : decode cX4_paysBack 2 = .ok (.iload_n 1, 1) := by decide +kernel
theorem dX4_paysBack_3 : decode cX4_paysBack 3 = .ok (.aload_n 0, 1) := by decide +kernel
theorem dX4_paysBack_4 : decode cX4_paysBack 4 = .ok (.getfield 7, 3) := by decide +kernel
theorem dX4_paysBack_7 : decode cX4_paysBack 7 = .ok (.iconst 3, 1) := by decide +kernel
theorem dX4_paysBack_8 : decode cX4_paysBack 8 = .ok (.iaload, 1) := by decide +kernel
theorem dX4_paysBack_9 : decode cX4_paysBack 9 = .ok (.if_icmp .ge 98, 3) := by decide +kernel
theorem dX4_paysBack_12 : decode cX4_paysBack 12 = .ok (.iload_n 1, 1) := by decide +kernel
theorem dX4_paysBack_13 : decode cX4_paysBack 13 = .ok (.iconst 1, 1) := by decide +kernel
theorem dX4_paysBack_14 : decode cX4_paysBack 14 = .ok (.iadd, 1) := by decide +kernel
theorem dX4_paysBack_15 : decode cX4_paysBack 15 = .ok (.istore_n 2, 1) := by decide +kernel
theorem dX4_paysBack_16 : decode cX4_paysBack 16 = .ok (.iload_n 2, 1) := by decide +kernel
theorem dX4_paysBack_17 : decode cX4_paysBack 17 = .ok (.aload_n 0, 1) := by decide +kernel
theorem dX4_paysBack_18 : decode cX4_paysBack 18 = .ok (.getfield 7, 3) := by decide +kernel
theorem dX4_paysBack_21 : decode cX4_paysBack 21 = .ok (.iconst 3, 1) := by decide +kernel
theorem dX4_paysBack_22 : decode cX4_paysBack 22 = .ok (.iaload, 1) := by decide +kernel
theorem dX4_paysBack_23 : decode cX4_paysBack 23 = .ok (.if_icmp .ge 78, 3) := by decide +kernel
theorem dX4_paysBack_26 : decode cX4_paysBack 26 = .ok (.aload_n 0, 1) := by decide +kernel
theorem dX4_paysBack_27 : decode cX4_paysBack 27 = .ok (.iload_n 2, 1) := by decide +kernel
theorem dX4_paysBack_28 : decode cX4_paysBack 28 = .ok (.iconst 0, 1) := by decide +kernel
theorem dX4_paysBack_29 : decode cX4_paysBack 29 = .ok (.invokevirtual 36, 3) := by decide +kernel
theorem dX4_paysBack_32 : decode cX4_paysBack 32 = .ok (.iload_n 1, 1) := by decide +kernel
theorem dX4_paysBack_33 : decode cX4_paysBack 33 = .ok (.if_icmp .ne 29, 3) := by decide +kernel
theorem dX4_paysBack_36 : decode cX4_paysBack 36 = .ok (.aload_n 0, 1) := by decide +kernel
theorem dX4_paysBack_37 : decode cX4_paysBack 37 = .ok (.iload_n 2, 1) := by decide +kernel
theorem dX4_paysBack_38 : decode cX4_paysBack 38 = .ok (.iconst 5, 1) := by decide +kernel
theorem dX4_paysBack_39 : decode cX4_paysBack 39 = .ok (.invokevirtual 36, 3) := by decide +kernel
theorem dX4_paysBack_42 : decode cX4_paysBack 42 = .ok (.aload_n 0, 1) := by decide +kernel
theorem dX4_paysBack_43 : decode cX4_paysBack 43 = .ok (.iload_n 1, 1) := by decide +kernel
theorem dX4_paysBack_44 : decode cX4_paysBack 44 = .ok (.iconst 4, 1) := by decide +kernel
theorem dX4_paysBack_45 : decode cX4_paysBack 45 = .ok (.invokevirtual 36, 3) := by decide +kernel
theorem dX4_paysBack_48 : decode cX4_paysBack 48 = .ok (.aload_n 0, 1) := by decide +kernel
theorem dX4_paysBack_49 : decode cX4_paysBack 49 = .ok (.iload_n 2, 1) := by decide +kernel
theorem dX4_paysBack_50 : decode cX4_paysBack 50 = .ok (.invokevirtual 99, 3) := by decide +kernel
theorem dX4_paysBack_53 : decode cX4_paysBack 53 = .ok (.invokestatic 71, 3) := by decide +kernel
theorem dX4_paysBack_56 : decode cX4_paysBack 56 = .ok (.invokestatic 71, 3) := by decide +kernel
theorem dX4_paysBack_59 : decode cX4_paysBack 59 = .ok (.goto 4, 3) := by decide +kernel
theorem dX4_paysBack_62 : decode cX4_paysBack 62 = .ok (.iconst 0, 1) := by decide +kernel
theorem dX4_paysBack_63 : decode cX4_paysBack 63 = .ok (.istore_n 3, 1) := by decide +kernel
theorem dX4_paysBack_64 : decode cX4_paysBack 64 = .ok (.aload_n 0, 1) := by decide +kernel
theorem dX4_paysBack_65 : decode cX4_paysBack 65 = .ok (.iload_n 1, 1) := by decide +kernel
theorem dX4_paysBack_66 : decode cX4_paysBack 66 = .ok (.iconst 4, 1) := by decide +kernel
theorem dX4_paysBack_67 : decode cX4_paysBack 67 = .ok (.iload_n 3, 1) := by decide +kernel
theorem dX4_paysBack_68 : decode cX4_paysBack 68 = .ok (.ineg, 1) := by decide +kernel
theorem dX4_paysBack_69 : decode cX4_paysBack 69 = .ok (.invokevirtual 44, 3) := by decide +kernel
theorem dX4_paysBack_72 : decode cX4_paysBack 72 = .ok (.aload_n 0, 1) := by decide +kernel
theorem dX4_paysBack_73 : decode cX4_paysBack 73 = .ok (.iload_n 2, 1) := by decide +kernel
theorem dX4_paysBack_74 : decode cX4_paysBack 74 = .ok (.iconst 4, 1) := by decide +kernel
theorem dX4_paysBack_75 : decode cX4_paysBack 75 = .ok (.iload_n 3, 1) := by decide +kernel
theorem dX4_paysBack_76 : decode cX4_paysBack 76 = .ok (.invokevirtual 44, 3) := by decide +kernel
theorem dX4_paysBack_79 : decode cX4_paysBack 79 = .ok (.aload_n 0, 1) := by decide +kernel
theorem dX4_paysBack_80 : decode cX4_paysBack 80 = .ok (.iload_n 2, 1) := by decide +kernel
theorem dX4_paysBack_81 : decode cX4_paysBack 81 = .ok (.iconst 5, 1) := by decide +kernel
theorem dX4_paysBack_82 : decode cX4_paysBack 82 = .ok (.iload_n 3, 1) := by decide +kernel
theorem dX4_paysBack_83 : decode cX4_paysBack 83 = .ok (.ineg, 1) := by decide +kernel
theorem dX4_paysBack_84 : decode cX4_paysBack 84 = .ok (.invokevirtual 44, 3) := by decide +kernel
theorem dX4_paysBack_87 : decode cX4_paysBack 87 = .ok (.aload_n 0, 1) := by decide +kernel
theorem dX4_paysBack_88 : decode cX4_paysBack 88 = .ok (.iload_n 2, 1) := by decide +kernel
theorem dX4_paysBack_89 : decode cX4_paysBack 89 = .ok (.bipush 11, 2) := by decide +kernel
theorem dX4_paysBack_91 : decode cX4_paysBack 91 = .ok (.iload_n 3, 1) := by decide +kernel
theorem dX4_paysBack_92 : decode cX4_paysBack 92 = .ok (.invokevirtual 44, 3) := by decide +kernel
theorem dX4_paysBack_95 : decode cX4_paysBack 95 = .ok (.iinc 2 1, 3) := by decide +kernel
theorem dX4_paysBack_98 : decode cX4_paysBack 98 = .ok (.goto (-82), 3) := by decide +kernel
theorem dX4_paysBack_101 : decode cX4_paysBack 101 = .ok (.iinc 1 1, 3) := by decide +kernel
theorem dX4_paysBack_104 : decode cX4_paysBack 104 = .ok (.goto (-102), 3) := by decide +kernel
theorem dX4_paysBack_107 : decode cX4_paysBack 107 = .ok (.return_, 1) := by decide +kernel
set_option maxRecDepth 20000 in
theorem ggX4_ticks_X4_flows : GoodIn wsX4_ticks wsX4_flows := goodIn_r _ [6, 1, 7, 8, 9, 5, 10, 11, 12, 13, 14, 15, 16, 17, 18, 19, 20, 21, 22, 23, 24, 25, 26, 27, 28, 61, 62, 63, 64, 65, 66, 67, 68, 69, 70, 71, 72] (by decide +kernel) (by decide +kernel)
set_option maxRecDepth 20000 in
theorem gX4_ticks_X4_flows : GoodIn wsX4_ticks (wsV RX4 105 RX4 yX4_flows wsX4_flows) := goodIn_app (goodIn_of _ (by decide +kernel)) ggX4_ticks_X4_flows
set_option maxRecDepth 20000 in
theorem ggX4_ticks_X4_lends : GoodIn wsX4_ticks wsX4_lends := goodIn_r _ [32, 1, 14, 15, 16, 5, 17, 33, 34, 35, 36, 18, 19, 20, 21, 22, 23, 24, 25, 26, 27, 28, 61, 62, 63, 64, 65, 66, 67, 68, 69, 70, 71, 72] (by decide +kernel) (by decide +kernel)
set_option maxRecDepth 20000 in
theorem gX4_ticks_X4_lends : GoodIn wsX4_ticks (wsV RX4 108 RX4 yX4_lends wsX4_lends) := goodIn_app (goodIn_of _ (by decide +kernel)) ggX4_ticks_X4_lends
set_option maxRecDepth 20000 in
theorem ggX4_ticks_X4_paysBack : GoodIn wsX4_ticks wsX4_paysBack := goodIn_r _ [40, 1, 14, 15, 16, 5, 17, 18, 19, 20, 21, 22, 23, 24, 25, 26, 27, 28, 61, 62, 63, 64, 65, 66, 67, 68, 69, 70, 71, 72] (by decide +kernel) (by decide +kernel)
set_option maxRecDepth 20000 in
theorem gX4_ticks_X4_paysBack : GoodIn wsX4_ticks (wsV RX4 112 RX4 yX4_paysBack wsX4_paysBack) := goodIn_app (goodIn_of _ (by decide +kernel)) ggX4_ticks_X4_paysBack
set_option maxRecDepth 20000 in
theorem ggX4_ticks_X4_looks : GoodIn wsX4_ticks wsX4_looks := goodIn_r _ [44, 1, 45, 46, 47, 5, 48, 14, 15, 16, 17, 22, 23, 24, 49, 50, 51, 52, 53, 54, 55, 56, 25, 26, 27, 28, 57, 58, 59, 60, 61, 62, 63, 64, 65, 66, 67, 68, 69, 70, 71, 72] (by decide +kernel) (by decide +kernel)
set_option maxRecDepth 20000 in
theorem gX4_ticks_X4_looks : GoodIn wsX4_ticks (wsV RX4 115 RX4 yX4_looks wsX4_looks) := goodIn_app (goodIn_of _ (by decide +kernel)) ggX4_ticks_X4_looks
theorem dX4_ticks_0 : decode cX4_ticks 0 = .ok (.aload_n 0, 1) := by decide +kernel
theorem dX4_ticks_1 : decode cX4_ticks 1 = .ok (.getfield 7, 3) := by decide +kernel
theorem dX4_ticks_4 : decode cX4_ticks 4 = .ok (.iconst 0, 1) := by decide +kernel
theorem dX4_ticks_5 : decode cX4_ticks 5 = .ok (.dup2, 1) := by decide +kernel
theorem dX4_ticks_6 : decode cX4_ticks 6 = .ok (.iaload, 1) := by decide +kernel
theorem dX4_ticks_7 : decode cX4_ticks 7 = .ok (.iconst 1, 1) := by decide +kernel
theorem dX4_ticks_8 : decode cX4_ticks 8 = .ok (.iadd, 1) := by decide +kernel
theorem dX4_ticks_9 : decode cX4_ticks 9 = .ok (.iastore, 1) := by decide +kernel
theorem dX4_ticks_10 : decode cX4_ticks 10 = .ok (.aload_n 0, 1) := by decide +kernel
theorem dX4_ticks_11 : decode cX4_ticks 11 = .ok (.invokevirtual 105, 3) := by decide +kernel
theorem dX4_ticks_14 : decode cX4_ticks 14 = .ok (.aload_n 0, 1) := by decide +kernel
theorem dX4_ticks_15 : decode cX4_ticks 15 = .ok (.getfield 7, 3) := by decide +kernel
theorem dX4_ticks_18 : decode cX4_ticks 18 = .ok (.iconst 0, 1) := by decide +kernel
theorem dX4_ticks_19 : decode cX4_ticks 19 = .ok (.iaload, 1) := by decide +kernel
theorem dX4_ticks_20 : decode cX4_ticks 20 = .ok (.aload_n 0, 1) := by decide +kernel
theorem dX4_ticks_21 : decode cX4_ticks 21 = .ok (.getfield 7, 3) := by decide +kernel
theorem dX4_ticks_24 : decode cX4_ticks 24 = .ok (.iconst 1, 1) := by decide +kernel
theorem dX4_ticks_25 : decode cX4_ticks 25 = .ok (.iaload, 1) := by decide +kernel
theorem dX4_ticks_26 : decode cX4_ticks 26 = .ok (.irem, 1) := by decide +kernel
theorem dX4_ticks_27 : decode cX4_ticks 27 = .ok (.istore_n 1, 1) := by decide +kernel
theorem dX4_ticks_28 : decode cX4_ticks 28 = .ok (.iload_n 1, 1) := by decide +kernel
theorem dX4_ticks_29 : decode cX4_ticks 29 = .ok (.ifCond .ne 11, 3) := by decide +kernel
theorem dX4_ticks_32 : decode cX4_ticks 32 = .ok (.aload_n 0, 1) := by decide +kernel
theorem dX4_ticks_33 : decode cX4_ticks 33 = .ok (.invokevirtual 108, 3) := by decide +kernel
theorem dX4_ticks_36 : decode cX4_ticks 36 = .ok (.pop, 1) := by decide +kernel
theorem dX4_ticks_37 : decode cX4_ticks 37 = .ok (.goto 19, 3) := by decide +kernel
theorem dX4_ticks_40 : decode cX4_ticks 40 = .ok (.iload_n 1, 1) := by decide +kernel
theorem dX4_ticks_41 : decode cX4_ticks 41 = .ok (.aload_n 0, 1) := by decide +kernel
theorem dX4_ticks_42 : decode cX4_ticks 42 = .ok (.getfield 7, 3) := by decide +kernel
theorem dX4_ticks_45 : decode cX4_ticks 45 = .ok (.iconst 1, 1) := by decide +kernel
theorem dX4_ticks_46 : decode cX4_ticks 46 = .ok (.iaload, 1) := by decide +kernel
theorem dX4_ticks_47 : decode cX4_ticks 47 = .ok (.iconst 2, 1) := by decide +kernel
theorem dX4_ticks_48 : decode cX4_ticks 48 = .ok (.idiv, 1) := by decide +kernel
theorem dX4_ticks_49 : decode cX4_ticks 49 = .ok (.if_icmp .ne 7, 3) := by decide +kernel
theorem dX4_ticks_52 : decode cX4_ticks 52 = .ok (.aload_n 0, 1) := by decide +kernel
theorem dX4_ticks_53 : decode cX4_ticks 53 = .ok (.invokevirtual 112, 3) := by decide +kernel
theorem dX4_ticks_56 : decode cX4_ticks 56 = .ok (.aload_n 0, 1) := by decide +kernel
theorem dX4_ticks_57 : decode cX4_ticks 57 = .ok (.invokevirtual 115, 3) := by decide +kernel
theorem dX4_ticks_60 : decode cX4_ticks 60 = .ok (.return_, 1) := by decide +kernel
set_option maxRecDepth 20000 in
theorem ggX4_passes_X4_in : GoodIn wsX4_passes wsX4_in := goodIn_r _ [6] (by decide +kernel) (by decide +kernel)
set_option maxRecDepth 20000 in
theorem gX4_passes_X4_in : GoodIn wsX4_passes (va_wsS RX4 32 yX4_in wsX4_in) := goodIn_app (goodIn_of _ (by decide +kernel)) ggX4_passes_X4_in
set_option maxRecDepth 20000 in
theorem ggX4_passes_X4_ticks : GoodIn wsX4_passes wsX4_ticks := goodIn_r _ [10, 1, 11, 12, 13, 5, 14, 15, 16, 17, 18, 3, 4, 6, 19, 20, 21, 22, 23, 24, 25, 26, 27, 28, 29, 30, 31, 32, 33, 34, 35, 36, 37, 38, 39, 40, 41, 42, 43, 44, 45, 46, 47, 48, 49, 50, 51, 52, 53, 54, 55, 56, 57, 58, 59, 60, 61, 62, 63, 64, 65, 66, 67, 68, 69, 70, 71, 72, 73, 74, 75, 76, 77] (by decide +kernel) (by decide +kernel)
set_option maxRecDepth 20000 in
theorem gX4_passes_X4_ticks : GoodIn wsX4_passes (wsV RX4 119 RX4 yX4_ticks wsX4_ticks) := goodIn_app (goodIn_of _ (by decide +kernel)) ggX4_passes_X4_ticks
theorem dX4_passes_0 : decode cX4_passes 0 = .ok (.iload_n 1, 1) := by decide +kernel
theorem dX4_passes_1 : decode cX4_passes 1 = .ok (.iconst 1, 1) := by decide +kernel
theorem dX4_passes_2 : decode cX4_passes 2 = .ok (.sipush 200, 3) := by decide +kernel
theorem dX4_passes_5 : decode cX4_passes 5 = .ok (.invokestatic 32, 3) := by decide +kernel
theorem dX4_passes_8 : decode cX4_passes 8 = .ok (.ifCond .ne 5, 3) := by decide +kernel
theorem dX4_passes_11 : decode cX4_passes 11 = .ok (.iconst (-1), 1) := by decide +kernel
theorem dX4_passes_12 : decode cX4_passes 12 = .ok (.ireturn, 1) := by decide +kernel
theorem dX4_passes_13 : decode cX4_passes 13 = .ok (.aload_n 0, 1) := by decide +kernel
theorem dX4_passes_14 : decode cX4_passes 14 = .ok (.getfield 7, 3) := by decide +kernel
theorem dX4_passes_17 : decode cX4_passes 17 = .ok (.iconst 0, 1) := by decide +kernel
theorem dX4_passes_18 : decode cX4_passes 18 = .ok (.iaload, 1) := by decide +kernel
theorem dX4_passes_19 : decode cX4_passes 19 = .ok (.iload_n 1, 1) := by decide +kernel
theorem dX4_passes_20 : decode cX4_passes 20 = .ok (.iadd, 1) := by decide +kernel
theorem dX4_passes_21 : decode cX4_passes 21 = .ok (.ldc 118, 2) := by decide +kernel
theorem dX4_passes_23 : decode cX4_passes 23 = .ok (.if_icmp .le 6, 3) := by decide +kernel
theorem dX4_passes_26 : decode cX4_passes 26 = .ok (.bipush (-3), 2) := by decide +kernel
theorem dX4_passes_28 : decode cX4_passes 28 = .ok (.ireturn, 1) := by decide +kernel
theorem dX4_passes_29 : decode cX4_passes 29 = .ok (.aload_n 0, 1) := by decide +kernel
theorem dX4_passes_30 : decode cX4_passes 30 = .ok (.getfield 7, 3) := by decide +kernel
theorem dX4_passes_33 : decode cX4_passes 33 = .ok (.bipush 7, 2) := by decide +kernel
theorem dX4_passes_35 : decode cX4_passes 35 = .ok (.iaload, 1) := by decide +kernel
theorem dX4_passes_36 : decode cX4_passes 36 = .ok (.istore_n 2, 1) := by decide +kernel
theorem dX4_passes_37 : decode cX4_passes 37 = .ok (.iconst 0, 1) := by decide +kernel
theorem dX4_passes_38 : decode cX4_passes 38 = .ok (.istore_n 3, 1) := by decide +kernel
theorem dX4_passes_39 : decode cX4_passes 39 = .ok (.iload_n 3, 1) := by decide +kernel
theorem dX4_passes_40 : decode cX4_passes 40 = .ok (.iload_n 1, 1) := by decide +kernel
theorem dX4_passes_41 : decode cX4_passes 41 = .ok (.if_icmp .ge 13, 3) := by decide +kernel
theorem dX4_passes_44 : decode cX4_passes 44 = .ok (.aload_n 0, 1) := by decide +kernel
theorem dX4_passes_45 : decode cX4_passes 45 = .ok (.invokevirtual 119, 3) := by decide +kernel
theorem dX4_passes_48 : decode cX4_passes 48 = .ok (.iinc 3 1, 3) := by decide +kernel
theorem dX4_passes_51 : decode cX4_passes 51 = .ok (.goto (-12), 3) := by decide +kernel
theorem dX4_passes_54 : decode cX4_passes 54 = .ok (.aload_n 0, 1) := by decide +kernel
theorem dX4_passes_55 : decode cX4_passes 55 = .ok (.getfield 7, 3) := by decide +kernel
theorem dX4_passes_58 : decode cX4_passes 58 = .ok (.bipush 7, 2) := by decide +kernel
theorem dX4_passes_60 : decode cX4_passes 60 = .ok (.iaload, 1) := by decide +kernel
theorem dX4_passes_61 : decode cX4_passes 61 = .ok (.iload_n 2, 1) := by decide +kernel
theorem dX4_passes_62 : decode cX4_passes 62 = .ok (.isub, 1) := by decide +kernel
theorem dX4_passes_63 : decode cX4_passes 63 = .ok (.ireturn, 1) := by decide +kernel
set_option maxRecDepth 20000 in
theorem ggX4_tick_X4_copy : GoodIn wsX4_tick wsX4_copy := goodIn_r _ [5, 6, 7, 82, 83, 84, 85, 86, 87, 88, 89, 90, 91, 92, 93] (by decide +kernel) (by decide +kernel)
set_option maxRecDepth 20000 in
theorem gX4_tick_X4_copy : GoodIn wsX4_tick (wsV RX4 48 RX4 yX4_copy wsX4_copy) := goodIn_app (goodIn_of _ (by decide +kernel)) ggX4_tick_X4_copy
set_option maxRecDepth 20000 in
theorem ggX4_tick_X4_passes : GoodIn wsX4_tick wsX4_passes := goodIn_r _ [11, 7, 12, 13, 14, 4, 15, 16, 17, 18, 19, 20, 21, 22, 23, 24, 25, 26, 27, 28, 29, 30, 31, 32, 33, 34, 35, 36, 37, 38, 39, 40, 41, 42, 43, 44, 45, 46, 47, 48, 49, 50, 51, 52, 53, 54, 55, 56, 57, 58, 59, 60, 61, 62, 63, 64, 65, 66, 67, 68, 69, 70, 71, 72, 73, 74, 82, 83, 84, 85, 86, 87, 88, 89, 90, 91, 92, 93] (by decide +kernel) (by decide +kernel)
set_option maxRecDepth 20000 in
theorem gX4_tick_X4_passes : GoodIn wsX4_tick (wsV RX4 122 RX4 yX4_passes wsX4_passes) := goodIn_app (goodIn_of _ (by decide +kernel)) ggX4_tick_X4_passes
set_option maxRecDepth 20000 in
theorem ggX4_tick_X4_recorded : GoodIn wsX4_tick wsX4_recorded := goodIn_r _ [78, 79, 80, 6, 81, 82, 83, 84, 85, 86, 87, 88, 89, 90, 91, 92, 93] (by decide +kernel) (by decide +kernel)
set_option maxRecDepth 20000 in
theorem gX4_tick_X4_recorded : GoodIn wsX4_tick (wsV RX4 55 RX4 yX4_recorded wsX4_recorded) := goodIn_app (goodIn_of _ (by decide +kernel)) ggX4_tick_X4_recorded
theorem dX4_tick_0 : decode cX4_tick 0 = .ok (.aload_n 0, 1) := by decide +kernel
theorem dX4_tick_1 : decode cX4_tick 1 = .ok (.invokevirtual 48, 3) := by decide +kernel
theorem dX4_tick_4 : decode cX4_tick 4 = .ok (.aload_n 0, 1) := by decide +kernel
theorem dX4_tick_5 : decode cX4_tick 5 = .ok (.aload_n 0, 1) := by decide +kernel
theorem dX4_tick_6 : decode cX4_tick 6 = .ok (.iload_n 1, 1) := by decide +kernel
theorem dX4_tick_7 : decode cX4_tick 7 = .ok (.invokevirtual 122, 3) := by decide +kernel
theorem dX4_tick_10 : decode cX4_tick 10 = .ok (.invokevirtual 55, 3) := by decide +kernel
theorem dX4_tick_13 : decode cX4_tick 13 = .ok (.ireturn, 1) := by decide +kernel
set_option maxRecDepth 20000 in
theorem ggX4_set_X4_in : GoodIn wsX4_set wsX4_in := goodIn_r _ [5] (by decide +kernel) (by decide +kernel)
set_option maxRecDepth 20000 in
theorem gX4_set_X4_in : GoodIn wsX4_set (va_wsS RX4 32 yX4_in wsX4_in) := goodIn_app (goodIn_of _ (by decide +kernel)) ggX4_set_X4_in
set_option maxRecDepth 20000 in
theorem ggX4_set_X4_copy : GoodIn wsX4_set wsX4_copy := goodIn_r _ [9, 10, 1, 18, 19, 20, 21, 22, 23, 24, 25, 26, 27, 28, 29] (by decide +kernel) (by decide +kernel)
set_option maxRecDepth 20000 in
theorem gX4_set_X4_copy : GoodIn wsX4_set (wsV RX4 48 RX4 yX4_copy wsX4_copy) := goodIn_app (goodIn_of _ (by decide +kernel)) ggX4_set_X4_copy
set_option maxRecDepth 20000 in
theorem ggX4_set_X4_recorded : GoodIn wsX4_set wsX4_recorded := goodIn_r _ [14, 15, 16, 10, 17, 18, 19, 20, 21, 22, 23, 24, 25, 26, 27, 28, 29] (by decide +kernel) (by decide +kernel)
set_option maxRecDepth 20000 in
theorem gX4_set_X4_recorded : GoodIn wsX4_set (wsV RX4 55 RX4 yX4_recorded wsX4_recorded) := goodIn_app (goodIn_of _ (by decide +kernel)) ggX4_set_X4_recorded
theorem dX4_set_0 : decode cX4_set 0 = .ok (.iload_n 1, 1) := by decide +kernel
theorem dX4_set_1 : decode cX4_set 1 = .ok (.iconst 0, 1) := by decide +kernel
theorem dX4_set_2 : decode cX4_set 2 = .ok (.iconst 1, 1) := by decide +kernel
theorem dX4_set_3 : decode cX4_set 3 = .ok (.invokestatic 32, 3) := by decide +kernel
theorem dX4_set_6 : decode cX4_set 6 = .ok (.ifCond .eq 29, 3) := by decide +kernel
theorem dX4_set_9 : decode cX4_set 9 = .ok (.iload_n 2, 1) := by decide +kernel
theorem dX4_set_10 : decode cX4_set 10 = .ok (.iload_n 1, 1) := by decide +kernel
theorem dX4_set_11 : decode cX4_set 11 = .ok (.ifCond .ne 7, 3) := by decide +kernel
theorem dX4_set_14 : decode cX4_set 14 = .ok (.iconst 4, 1) := by decide +kernel
theorem dX4_set_15 : decode cX4_set 15 = .ok (.goto 4, 3) := by decide +kernel
theorem dX4_set_18 : decode cX4_set 18 = .ok (.iconst 0, 1) := by decide +kernel
theorem dX4_set_19 : decode cX4_set 19 = .ok (.iload_n 1, 1) := by decide +kernel
theorem dX4_set_20 : decode cX4_set 20 = .ok (.ifCond .ne 8, 3) := by decide +kernel
theorem dX4_set_23 : decode cX4_set 23 = .ok (.bipush 100, 2) := by decide +kernel
theorem dX4_set_25 : decode cX4_set 25 = .ok (.goto 4, 3) := by decide +kernel
theorem dX4_set_28 : decode cX4_set 28 = .ok (.iconst 1, 1) := by decide +kernel
theorem dX4_set_29 : decode cX4_set 29 = .ok (.invokestatic 32, 3) := by decide +kernel
theorem dX4_set_32 : decode cX4_set 32 = .ok (.ifCond .ne 5, 3) := by decide +kernel
theorem dX4_set_35 : decode cX4_set 35 = .ok (.iconst (-1), 1) := by decide +kernel
theorem dX4_set_36 : decode cX4_set 36 = .ok (.ireturn, 1) := by decide +kernel
theorem dX4_set_37 : decode cX4_set 37 = .ok (.aload_n 0, 1) := by decide +kernel
theorem dX4_set_38 : decode cX4_set 38 = .ok (.invokevirtual 48, 3) := by decide +kernel
theorem dX4_set_41 : decode cX4_set 41 = .ok (.aload_n 0, 1) := by decide +kernel
theorem dX4_set_42 : decode cX4_set 42 = .ok (.getfield 7, 3) := by decide +kernel
theorem dX4_set_45 : decode cX4_set 45 = .ok (.iconst 1, 1) := by decide +kernel
theorem dX4_set_46 : decode cX4_set 46 = .ok (.iload_n 1, 1) := by decide +kernel
theorem dX4_set_47 : decode cX4_set 47 = .ok (.iadd, 1) := by decide +kernel
theorem dX4_set_48 : decode cX4_set 48 = .ok (.iaload, 1) := by decide +kernel
theorem dX4_set_49 : decode cX4_set 49 = .ok (.istore_n 3, 1) := by decide +kernel
theorem dX4_set_50 : decode cX4_set 50 = .ok (.aload_n 0, 1) := by decide +kernel
theorem dX4_set_51 : decode cX4_set 51 = .ok (.getfield 7, 3) := by decide +kernel
theorem dX4_set_54 : decode cX4_set 54 = .ok (.iconst 1, 1) := by decide +kernel
theorem dX4_set_55 : decode cX4_set 55 = .ok (.iload_n 1, 1) := by decide +kernel
theorem dX4_set_56 : decode cX4_set 56 = .ok (.iadd, 1) := by decide +kernel
theorem dX4_set_57 : decode cX4_set 57 = .ok (.iload_n 2, 1) := by decide +kernel
theorem dX4_set_58 : decode cX4_set 58 = .ok (.iastore, 1) := by decide +kernel
theorem dX4_set_59 : decode cX4_set 59 = .ok (.aload_n 0, 1) := by decide +kernel
theorem dX4_set_60 : decode cX4_set 60 = .ok (.iload_n 3, 1) := by decide +kernel
theorem dX4_set_61 : decode cX4_set 61 = .ok (.invokevirtual 55, 3) := by decide +kernel
theorem dX4_set_64 : decode cX4_set 64 = .ok (.ireturn, 1) := by decide +kernel
set_option maxRecDepth 20000 in
theorem ggX4_able_X4_isWell : GoodIn wsX4_able wsX4_isWell := goodIn_r _ [5, 6, 7, 8, 4, 9, 21, 22, 23, 24, 25, 26, 27, 28, 29, 30, 31, 32] (by decide +kernel) (by decide +kernel)
set_option maxRecDepth 20000 in
theorem gX4_able_X4_isWell : GoodIn wsX4_able (wsV RX4 40 RX4 yX4_isWell wsX4_isWell) := goodIn_app (goodIn_of _ (by decide +kernel)) ggX4_able_X4_isWell
set_option maxRecDepth 20000 in
theorem ggX4_able_X4_ableOf : GoodIn wsX4_able wsX4_ableOf := goodIn_r _ [13, 14, 15, 16, 4, 17, 6, 18, 19, 20, 21, 22, 23, 24, 25, 26, 27, 28, 29, 30, 31, 32] (by decide +kernel) (by decide +kernel)
set_option maxRecDepth 20000 in
theorem gX4_able_X4_ableOf : GoodIn wsX4_able (wsV RX4 80 RX4 yX4_ableOf wsX4_ableOf) := goodIn_app (goodIn_of _ (by decide +kernel)) ggX4_able_X4_ableOf
theorem dX4_able_0 : decode cX4_able 0 = .ok (.aload_n 0, 1) := by decide +kernel
theorem dX4_able_1 : decode cX4_able 1 = .ok (.iload_n 1, 1) := by decide +kernel
theorem dX4_able_2 : decode cX4_able 2 = .ok (.invokevirtual 40, 3) := by decide +kernel
theorem dX4_able_5 : decode cX4_able 5 = .ok (.ifCond .eq 11, 3) := by decide +kernel
theorem dX4_able_8 : decode cX4_able 8 = .ok (.aload_n 0, 1) := by decide +kernel
theorem dX4_able_9 : decode cX4_able 9 = .ok (.iload_n 1, 1) := by decide +kernel
theorem dX4_able_10 : decode cX4_able 10 = .ok (.invokevirtual 80, 3) := by decide +kernel
theorem dX4_able_13 : decode cX4_able 13 = .ok (.goto 4, 3) := by decide +kernel
theorem dX4_able_16 : decode cX4_able 16 = .ok (.iconst (-1), 1) := by decide +kernel
theorem dX4_able_17 : decode cX4_able 17 = .ok (.ireturn, 1) := by decide +kernel
set_option maxRecDepth 20000 in
theorem ggX4_gives_X4_isWell : GoodIn wsX4_gives wsX4_isWell := goodIn_r _ [5, 6, 7, 8, 4, 9, 28, 29, 30, 31, 32, 33, 34, 35, 36, 37, 38, 39] (by decide +kernel) (by decide +kernel)
set_option maxRecDepth 20000 in
theorem gX4_gives_X4_isWell : GoodIn wsX4_gives (wsV RX4 40 RX4 yX4_isWell wsX4_isWell) := goodIn_app (goodIn_of _ (by decide +kernel)) ggX4_gives_X4_isWell
set_option maxRecDepth 20000 in
theorem ggX4_gives_X4_isDraw : GoodIn wsX4_gives wsX4_isDraw := goodIn_r _ [12, 7, 8, 4, 9] (by decide +kernel) (by decide +kernel)
set_option maxRecDepth 20000 in
theorem gX4_gives_X4_isDraw : GoodIn wsX4_gives (va_wsS RX4 77 yX4_isDraw wsX4_isDraw) := goodIn_app (goodIn_of _ (by decide +kernel)) ggX4_gives_X4_isDraw
set_option maxRecDepth 20000 in
theorem ggX4_gives_X4_ableOf : GoodIn wsX4_gives wsX4_ableOf := goodIn_r _ [16, 17, 18, 19, 4, 20, 6, 21, 22, 23, 28, 29, 30, 31, 32, 33, 34, 35, 36, 37, 38, 39] (by decide +kernel) (by decide +kernel)
set_option maxRecDepth 20000 in
theorem gX4_gives_X4_ableOf : GoodIn wsX4_gives (wsV RX4 80 RX4 yX4_ableOf wsX4_ableOf) := goodIn_app (goodIn_of _ (by decide +kernel)) ggX4_gives_X4_ableOf
set_option maxRecDepth 20000 in
theorem ggX4_gives_X4_part : GoodIn wsX4_gives wsX4_part := goodIn_r _ [27, 17, 18, 19, 4, 20, 6, 21, 22, 23, 28, 29, 30, 31, 32, 33, 34, 35, 36, 37, 38, 39] (by decide +kernel) (by decide +kernel)
set_option maxRecDepth 20000 in
theorem gX4_gives_X4_part : GoodIn wsX4_gives (wsV RX4 74 RX4 yX4_part wsX4_part) := goodIn_app (goodIn_of _ (by decide +kernel)) ggX4_gives_X4_part
set_option maxRecDepth 20000 in
theorem ggX4_gives_X4_of : GoodIn wsX4_gives wsX4_of := goodIn_r _ [20, 6, 28, 29, 30, 31, 32, 33, 34, 35, 36, 37, 38, 39] (by decide +kernel) (by decide +kernel)
set_option maxRecDepth 20000 in
theorem gX4_gives_X4_of : GoodIn wsX4_gives (wsV RX4 36 RX4 yX4_of wsX4_of) := goodIn_app (goodIn_of _ (by decide +kernel)) ggX4_gives_X4_of
theorem dX4_gives_0 : decode cX4_gives 0 = .ok (.aload_n 0, 1) := by decide +kernel
theorem dX4_gives_1 : decode cX4_gives 1 = .ok (.iload_n 1, 1) := by decide +kernel
theorem dX4_gives_2 : decode cX4_gives 2 = .ok (.invokevirtual 40, 3) := by decide +kernel
theorem dX4_gives_5 : decode cX4_gives 5 = .ok (.ifCond .eq 18, 3) := by decide +kernel
theorem dX4_gives_8 : decode cX4_gives 8 = .ok (.iload_n 2, 1) := by decide +kernel
theorem dX4_gives_9 : decode cX4_gives 9 = .ok (.invokestatic 77, 3) := by decide +kernel
theorem dX4_gives_12 : decode cX4_gives 12 = .ok (.ifCond .eq 11, 3) := by decide +kernel
theorem dX4_gives_15 : decode cX4_gives 15 = .ok (.aload_n 0, 1) := by decide +kernel
theorem dX4_gives_16 : decode cX4_gives 16 = .ok (.iload_n 3, 1) := by decide +kernel
theorem dX4_gives_17 : decode cX4_gives 17 = .ok (.invokevirtual 40, 3) := by decide +kernel
theorem dX4_gives_20 : decode cX4_gives 20 = .ok (.ifCond .ne 5, 3) := by decide +kernel
theorem dX4_gives_23 : decode cX4_gives 23 = .ok (.iconst (-1), 1) := by decide +kernel
theorem dX4_gives_24 : decode cX4_gives 24 = .ok (.ireturn, 1) := by decide +kernel
theorem dX4_gives_25 : decode cX4_gives 25 = .ok (.aload_n 0, 1) := by decide +kernel
theorem dX4_gives_26 : decode cX4_gives 26 = .ok (.iload_n 1, 1) := by decide +kernel
theorem dX4_gives_27 : decode cX4_gives 27 = .ok (.invokevirtual 80, 3) := by decide +kernel
theorem dX4_gives_30 : decode cX4_gives 30 = .ok (.iload_n 2, 1) := by decide +kernel
theorem dX4_gives_31 : decode cX4_gives 31 = .ok (.if_icmp .ge 6, 3) := by decide +kernel
theorem dX4_gives_34 : decode cX4_gives 34 = .ok (.bipush (-2), 2) := by decide +kernel
theorem dX4_gives_36 : decode cX4_gives 36 = .ok (.ireturn, 1) := by decide +kernel
theorem dX4_gives_37 : decode cX4_gives 37 = .ok (.iload_n 2, 1) := by decide +kernel
theorem dX4_gives_38 : decode cX4_gives 38 = .ok (.istore 4, 2) := by decide +kernel
theorem dX4_gives_40 : decode cX4_gives 40 = .ok (.iload_n 1, 1) := by decide +kernel
theorem dX4_gives_41 : decode cX4_gives 41 = .ok (.istore 5, 2) := by decide +kernel
theorem dX4_gives_43 : decode cX4_gives 43 = .ok (.iload 5, 2) := by decide +kernel
theorem dX4_gives_45 : decode cX4_gives 45 = .ok (.ifCond .lt 42, 3) := by decide +kernel
theorem dX4_gives_48 : decode cX4_gives 48 = .ok (.aload_n 0, 1) := by decide +kernel
theorem dX4_gives_49 : decode cX4_gives 49 = .ok (.iload_n 1, 1) := by decide +kernel
theorem dX4_gives_50 : decode cX4_gives 50 = .ok (.iload 5, 2) := by decide +kernel
theorem dX4_gives_52 : decode cX4_gives 52 = .ok (.iload 4, 2) := by decide +kernel
theorem dX4_gives_54 : decode cX4_gives 54 = .ok (.invokevirtual 74, 3) := by decide +kernel
theorem dX4_gives_57 : decode cX4_gives 57 = .ok (.istore 6, 2) := by decide +kernel
theorem dX4_gives_59 : decode cX4_gives 59 = .ok (.iload 5, 2) := by decide +kernel
theorem dX4_gives_61 : decode cX4_gives 61 = .ok (.iload_n 3, 1) := by decide +kernel
theorem dX4_gives_62 : decode cX4_gives 62 = .ok (.if_icmp .ne 6, 3) := by decide +kernel
theorem dX4_gives_65 : decode cX4_gives 65 = .ok (.iload 6, 2) := by decide +kernel
theorem dX4_gives_67 : decode cX4_gives 67 = .ok (.ireturn, 1) := by decide +kernel
theorem dX4_gives_68 : decode cX4_gives 68 = .ok (.iload 4, 2) := by decide +kernel
theorem dX4_gives_70 : decode cX4_gives 70 = .ok (.iload 6, 2) := by decide +kernel
theorem dX4_gives_72 : decode cX4_gives 72 = .ok (.isub, 1) := by decide +kernel
theorem dX4_gives_73 : decode cX4_gives 73 = .ok (.istore 4, 2) := by decide +kernel
theorem dX4_gives_75 : decode cX4_gives 75 = .ok (.aload_n 0, 1) := by decide +kernel
theorem dX4_gives_76 : decode cX4_gives 76 = .ok (.iload 5, 2) := by decide +kernel
theorem dX4_gives_78 : decode cX4_gives 78 = .ok (.iconst 0, 1) := by decide +kernel
theorem dX4_gives_79 : decode cX4_gives 79 = .ok (.invokevirtual 36, 3) := by decide +kernel
theorem dX4_gives_82 : decode cX4_gives 82 = .ok (.istore 5, 2) := by decide +kernel
theorem dX4_gives_84 : decode cX4_gives 84 = .ok (.goto (-41), 3) := by decide +kernel
theorem dX4_gives_87 : decode cX4_gives 87 = .ok (.iconst 0, 1) := by decide +kernel
theorem dX4_gives_88 : decode cX4_gives 88 = .ok (.ireturn, 1) := by decide +kernel
set_option maxRecDepth 20000 in
theorem ggX4_possibleIn_X4_isWell : GoodIn wsX4_possibleIn wsX4_isWell := goodIn_r _ [5, 6, 7, 8, 4, 9, 81, 82, 83, 84, 85, 86, 87, 88, 89, 90, 91, 92] (by decide +kernel) (by decide +kernel)
set_option maxRecDepth 20000 in
theorem gX4_possibleIn_X4_isWell : GoodIn wsX4_possibleIn (wsV RX4 40 RX4 yX4_isWell wsX4_isWell) := goodIn_app (goodIn_of _ (by decide +kernel)) ggX4_possibleIn_X4_isWell
set_option maxRecDepth 20000 in
theorem ggX4_possibleIn_X4_isDraw : GoodIn wsX4_possibleIn wsX4_isDraw := goodIn_r _ [12, 7, 8, 4, 9] (by decide +kernel) (by decide +kernel)
set_option maxRecDepth 20000 in
theorem gX4_possibleIn_X4_isDraw : GoodIn wsX4_possibleIn (va_wsS RX4 77 yX4_isDraw wsX4_isDraw) := goodIn_app (goodIn_of _ (by decide +kernel)) ggX4_possibleIn_X4_isDraw
set_option maxRecDepth 20000 in
theorem ggX4_possibleIn_X4_copy : GoodIn wsX4_possibleIn wsX4_copy := goodIn_r _ [16, 17, 6, 81, 82, 83, 84, 85, 86, 87, 88, 89, 90, 91, 92] (by decide +kernel) (by decide +kernel)
set_option maxRecDepth 20000 in
theorem gX4_possibleIn_X4_copy : GoodIn wsX4_possibleIn (wsV RX4 48 RX4 yX4_copy wsX4_copy) := goodIn_app (goodIn_of _ (by decide +kernel)) ggX4_possibleIn_X4_copy
set_option maxRecDepth 20000 in
theorem ggX4_possibleIn_X4_ableOf : GoodIn wsX4_possibleIn wsX4_ableOf := goodIn_r _ [21, 22, 23, 24, 4, 25, 6, 26, 27, 28, 81, 82, 83, 84, 85, 86, 87, 88, 89, 90, 91, 92] (by decide +kernel) (by decide +kernel)
set_option maxRecDepth 20000 in
theorem gX4_possibleIn_X4_ableOf : GoodIn wsX4_possibleIn (wsV RX4 80 RX4 yX4_ableOf wsX4_ableOf) := goodIn_app (goodIn_of _ (by decide +kernel)) ggX4_possibleIn_X4_ableOf
set_option maxRecDepth 20000 in
theorem ggX4_possibleIn_X4_ticks : GoodIn wsX4_possibleIn wsX4_ticks := goodIn_r _ [32, 6, 33, 34, 35, 4, 36, 37, 38, 39, 40, 7, 8, 9, 22, 23, 24, 25, 41, 42, 43, 44, 26, 27, 28, 45, 46, 47, 48, 49, 50, 51, 52, 53, 54, 55, 56, 57, 58, 59, 60, 61, 62, 63, 64, 18, 19, 20, 21, 65, 66, 67, 68, 69, 70, 71, 72, 73, 74, 75, 76, 81, 82, 83, 84, 85, 86, 87, 88, 89, 90, 91, 92] (by decide +kernel) (by decide +kernel)
set_option maxRecDepth 20000 in
theorem gX4_possibleIn_X4_ticks : GoodIn wsX4_possibleIn (wsV RX4 119 RX4 yX4_ticks wsX4_ticks) := goodIn_app (goodIn_of _ (by decide +kernel)) ggX4_possibleIn_X4_ticks
set_option maxRecDepth 20000 in
theorem ggX4_possibleIn_X4_back : GoodIn wsX4_possibleIn wsX4_back := goodIn_r _ [80, 6, 17, 81, 82, 83, 84, 85, 86, 87, 88, 89, 90, 91, 92] (by decide +kernel) (by decide +kernel)
set_option maxRecDepth 20000 in
theorem gX4_possibleIn_X4_back : GoodIn wsX4_possibleIn (wsV RX4 125 RX4 yX4_back wsX4_back) := goodIn_app (goodIn_of _ (by decide +kernel)) ggX4_possibleIn_X4_back
theorem dX4_possibleIn_0 : decode cX4_possibleIn 0 = .ok (.aload_n 0, 1) := by decide +kernel
theorem dX4_possibleIn_1 : decode cX4_possibleIn 1 = .ok (.iload_n 1, 1) := by decide +kernel
theorem dX4_possibleIn_2 : decode cX4_possibleIn 2 = .ok (.invokevirtual 40, 3) := by decide +kernel
theorem dX4_possibleIn_5 : decode cX4_possibleIn 5 = .ok (.ifCond .eq 10, 3) := by decide +kernel
theorem dX4_possibleIn_8 : decode cX4_possibleIn 8 = .ok (.iload_n 2, 1) := by decide +kernel
theorem dX4_possibleIn_9 : decode cX4_possibleIn 9 = .ok (.invokestatic 77, 3) := by decide +kernel
theorem dX4_possibleIn_12 : decode cX4_possibleIn 12 = .ok (.ifCond .ne 5, 3) := by decide +kernel
theorem dX4_possibleIn_15 : decode cX4_possibleIn 15 = .ok (.iconst (-1), 1) := by decide +kernel
theorem dX4_possibleIn_16 : decode cX4_possibleIn 16 = .ok (.ireturn, 1) := by decide +kernel
theorem dX4_possibleIn_17 : decode cX4_possibleIn 17 = .ok (.aload_n 0, 1) := by decide +kernel
theorem dX4_possibleIn_18 : decode cX4_possibleIn 18 = .ok (.invokevirtual 48, 3) := by decide +kernel
theorem dX4_possibleIn_21 : decode cX4_possibleIn 21 = .ok (.iconst 0, 1) := by decide +kernel
theorem dX4_possibleIn_22 : decode cX4_possibleIn 22 = .ok (.istore_n 3, 1) := by decide +kernel
theorem dX4_possibleIn_23 : decode cX4_possibleIn 23 = .ok (.iload_n 3, 1) := by decide +kernel
theorem dX4_possibleIn_24 : decode cX4_possibleIn 24 = .ok (.sipush 300, 3) := by decide +kernel
theorem dX4_possibleIn_27 : decode cX4_possibleIn 27 = .ok (.if_icmp .gt 22, 3) := by decide +kernel
theorem dX4_possibleIn_30 : decode cX4_possibleIn 30 = .ok (.aload_n 0, 1) := by decide +kernel
theorem dX4_possibleIn_31 : decode cX4_possibleIn 31 = .ok (.iload_n 1, 1) := by decide +kernel
theorem dX4_possibleIn_32 : decode cX4_possibleIn 32 = .ok (.invokevirtual 80, 3) := by decide +kernel
theorem dX4_possibleIn_35 : decode cX4_possibleIn 35 = .ok (.iload_n 2, 1) := by decide +kernel
theorem dX4_possibleIn_36 : decode cX4_possibleIn 36 = .ok (.if_icmp .ge 13, 3) := by decide +kernel
theorem dX4_possibleIn_39 : decode cX4_possibleIn 39 = .ok (.aload_n 0, 1) := by decide +kernel
theorem dX4_possibleIn_40 : decode cX4_possibleIn 40 = .ok (.invokevirtual 119, 3) := by decide +kernel
theorem dX4_possibleIn_43 : decode cX4_possibleIn 43 = .ok (.iinc 3 1, 3) := by decide +kernel
theorem dX4_possibleIn_46 : decode cX4_possibleIn 46 = .ok (.goto (-23), 3) := by decide +kernel
theorem dX4_possibleIn_49 : decode cX4_possibleIn 49 = .ok (.aload_n 0, 1) := by decide +kernel
theorem dX4_possibleIn_50 : decode cX4_possibleIn 50 = .ok (.invokevirtual 125, 3) := by decide +kernel
theorem dX4_possibleIn_53 : decode cX4_possibleIn 53 = .ok (.iload_n 3, 1) := by decide +kernel
theorem dX4_possibleIn_54 : decode cX4_possibleIn 54 = .ok (.sipush 300, 3) := by decide +kernel
theorem dX4_possibleIn_57 : decode cX4_possibleIn 57 = .ok (.if_icmp .le 8, 3) := by decide +kernel
theorem dX4_possibleIn_60 : decode cX4_possibleIn 60 = .ok (.bipush (-4), 2) := by decide +kernel
theorem dX4_possibleIn_62 : decode cX4_possibleIn 62 = .ok (.goto 4, 3) := by decide +kernel
theorem dX4_possibleIn_65 : decode cX4_possibleIn 65 = .ok (.iload_n 3, 1) := by decide +kernel
theorem dX4_possibleIn_66 : decode cX4_possibleIn 66 = .ok (.ireturn, 1) := by decide +kernel
set_option maxRecDepth 20000 in
theorem ggX4_waterIn_X4_isWell : GoodIn wsX4_waterIn wsX4_isWell := goodIn_r _ [5, 6, 7, 8, 4, 9, 78, 79, 80, 81, 82, 83, 84, 85, 86, 87, 88, 89] (by decide +kernel) (by decide +kernel)
set_option maxRecDepth 20000 in
theorem gX4_waterIn_X4_isWell : GoodIn wsX4_waterIn (wsV RX4 40 RX4 yX4_isWell wsX4_isWell) := goodIn_app (goodIn_of _ (by decide +kernel)) ggX4_waterIn_X4_isWell
set_option maxRecDepth 20000 in
theorem ggX4_waterIn_X4_in : GoodIn wsX4_waterIn wsX4_in := goodIn_r _ [9] (by decide +kernel) (by decide +kernel)
set_option maxRecDepth 20000 in
theorem gX4_waterIn_X4_in : GoodIn wsX4_waterIn (va_wsS RX4 32 yX4_in wsX4_in) := goodIn_app (goodIn_of _ (by decide +kernel)) ggX4_waterIn_X4_in
set_option maxRecDepth 20000 in
theorem ggX4_waterIn_X4_copy : GoodIn wsX4_waterIn wsX4_copy := goodIn_r _ [13, 14, 6, 78, 79, 80, 81, 82, 83, 84, 85, 86, 87, 88, 89] (by decide +kernel) (by decide +kernel)
set_option maxRecDepth 20000 in
theorem gX4_waterIn_X4_copy : GoodIn wsX4_waterIn (wsV RX4 48 RX4 yX4_copy wsX4_copy) := goodIn_app (goodIn_of _ (by decide +kernel)) ggX4_waterIn_X4_copy
set_option maxRecDepth 20000 in
theorem ggX4_waterIn_X4_ticks : GoodIn wsX4_waterIn wsX4_ticks := goodIn_r _ [18, 6, 19, 20, 21, 4, 22, 23, 24, 25, 26, 7, 8, 9, 27, 28, 29, 30, 31, 32, 33, 34, 35, 36, 37, 38, 39, 40, 41, 42, 43, 44, 45, 46, 47, 48, 49, 50, 51, 52, 53, 54, 55, 56, 57, 58, 59, 60, 61, 62, 63, 64, 65, 66, 67, 68, 69, 70, 71, 72, 73, 78, 79, 80, 81, 82, 83, 84, 85, 86, 87, 88, 89] (by decide +kernel) (by decide +kernel)
set_option maxRecDepth 20000 in
theorem gX4_waterIn_X4_ticks : GoodIn wsX4_waterIn (wsV RX4 119 RX4 yX4_ticks wsX4_ticks) := goodIn_app (goodIn_of _ (by decide +kernel)) ggX4_waterIn_X4_ticks
set_option maxRecDepth 20000 in
theorem ggX4_waterIn_X4_of : GoodIn wsX4_waterIn wsX4_of := goodIn_r _ [30, 6, 78, 79, 80, 81, 82, 83, 84, 85, 86, 87, 88, 89] (by decide +kernel) (by decide +kernel)
set_option maxRecDepth 20000 in
theorem gX4_waterIn_X4_of : GoodIn wsX4_waterIn (wsV RX4 36 RX4 yX4_of wsX4_of) := goodIn_app (goodIn_of _ (by decide +kernel)) ggX4_waterIn_X4_of
set_option maxRecDepth 20000 in
theorem ggX4_waterIn_X4_back : GoodIn wsX4_waterIn wsX4_back := goodIn_r _ [77, 6, 14, 78, 79, 80, 81, 82, 83, 84, 85, 86, 87, 88, 89] (by decide +kernel) (by decide +kernel)
set_option maxRecDepth 20000 in
theorem gX4_waterIn_X4_back : GoodIn wsX4_waterIn (wsV RX4 125 RX4 yX4_back wsX4_back) := goodIn_app (goodIn_of _ (by decide +kernel)) ggX4_waterIn_X4_back
theorem dX4_waterIn_0 : decode cX4_waterIn 0 = .ok (.aload_n 0, 1) := by decide +kernel
theorem dX4_waterIn_1 : decode cX4_waterIn 1 = .ok (.iload_n 1, 1) := by decide +kernel
theorem dX4_waterIn_2 : decode cX4_waterIn 2 = .ok (.invokevirtual 40, 3) := by decide +kernel
theorem dX4_waterIn_5 : decode cX4_waterIn 5 = .ok (.ifCond .eq 14, 3) := by decide +kernel
theorem dX4_waterIn_8 : decode cX4_waterIn 8 = .ok (.iload_n 2, 1) := by decide +kernel
theorem dX4_waterIn_9 : decode cX4_waterIn 9 = .ok (.iconst 0, 1) := by decide +kernel
theorem dX4_waterIn_10 : decode cX4_waterIn 10 = .ok (.sipush 300, 3) := by decide +kernel
theorem dX4_waterIn_13 : decode cX4_waterIn 13 = .ok (.invokestatic 32, 3) := by decide +kernel
theorem dX4_waterIn_16 : decode cX4_waterIn 16 = .ok (.ifCond .ne 5, 3) := by decide +kernel
theorem dX4_waterIn_19 : decode cX4_waterIn 19 = .ok (.iconst (-1), 1) := by decide +kernel
theorem dX4_waterIn_20 : decode cX4_waterIn 20 = .ok (.ireturn, 1) := by decide +kernel
theorem dX4_waterIn_21 : decode cX4_waterIn 21 = .ok (.aload_n 0, 1) := by decide +kernel
theorem dX4_waterIn_22 : decode cX4_waterIn 22 = .ok (.invokevirtual 48, 3) := by decide +kernel
theorem dX4_waterIn_25 : decode cX4_waterIn 25 = .ok (.iconst 0, 1) := by decide +kernel
theorem dX4_waterIn_26 : decode cX4_waterIn 26 = .ok (.istore_n 3, 1) := by decide +kernel
theorem dX4_waterIn_27 : decode cX4_waterIn 27 = .ok (.iload_n 3, 1) := by decide +kernel
theorem dX4_waterIn_28 : decode cX4_waterIn 28 = .ok (.iload_n 2, 1) := by decide +kernel
theorem dX4_waterIn_29 : decode cX4_waterIn 29 = .ok (.if_icmp .ge 13, 3) := by decide +kernel
theorem dX4_waterIn_32 : decode cX4_waterIn 32 = .ok (.aload_n 0, 1) := by decide +kernel
theorem dX4_waterIn_33 : decode cX4_waterIn 33 = .ok (.invokevirtual 119, 3) := by decide +kernel
theorem dX4_waterIn_36 : decode cX4_waterIn 36 = .ok (.iinc 3 1, 3) := by decide +kernel
theorem dX4_waterIn_39 : decode cX4_waterIn 39 = .ok (.goto (-12), 3) := by decide +kernel
theorem dX4_waterIn_42 : decode cX4_waterIn 42 = .ok (.aload_n 0, 1) := by decide +kernel
theorem dX4_waterIn_43 : decode cX4_waterIn 43 = .ok (.iload_n 1, 1) := by decide +kernel
theorem dX4_waterIn_44 : decode cX4_waterIn 44 = .ok (.iconst 4, 1) := by decide +kernel
theorem dX4_waterIn_45 : decode cX4_waterIn 45 = .ok (.invokevirtual 36, 3) := by decide +kernel
theorem dX4_waterIn_48 : decode cX4_waterIn 48 = .ok (.istore_n 3, 1) := by decide +kernel
theorem dX4_waterIn_49 : decode cX4_waterIn 49 = .ok (.aload_n 0, 1) := by decide +kernel
theorem dX4_waterIn_50 : decode cX4_waterIn 50 = .ok (.invokevirtual 125, 3) := by decide +kernel
theorem dX4_waterIn_53 : decode cX4_waterIn 53 = .ok (.iload_n 3, 1) := by decide +kernel
theorem dX4_waterIn_54 : decode cX4_waterIn 54 = .ok (.ireturn, 1) := by decide +kernel
set_option maxRecDepth 20000 in
theorem ggX4_lenders_X4_copy : GoodIn wsX4_lenders wsX4_copy := goodIn_r _ [5, 6, 7, 35, 36, 37, 38, 39, 40, 41, 42, 43, 44, 45, 46] (by decide +kernel) (by decide +kernel)
set_option maxRecDepth 20000 in
theorem gX4_lenders_X4_copy : GoodIn wsX4_lenders (wsV RX4 48 RX4 yX4_copy wsX4_copy) := goodIn_app (goodIn_of _ (by decide +kernel)) ggX4_lenders_X4_copy
set_option maxRecDepth 20000 in
theorem ggX4_lenders_X4_lends : GoodIn wsX4_lenders wsX4_lends := goodIn_r _ [11, 7, 12, 13, 14, 4, 15, 16, 17, 18, 19, 20, 21, 22, 23, 24, 25, 26, 27, 28, 29, 30, 35, 36, 37, 38, 39, 40, 41, 42, 43, 44, 45, 46] (by decide +kernel) (by decide +kernel)
set_option maxRecDepth 20000 in
theorem gX4_lenders_X4_lends : GoodIn wsX4_lenders (wsV RX4 108 RX4 yX4_lends wsX4_lends) := goodIn_app (goodIn_of _ (by decide +kernel)) ggX4_lenders_X4_lends
set_option maxRecDepth 20000 in
theorem ggX4_lenders_X4_back : GoodIn wsX4_lenders wsX4_back := goodIn_r _ [34, 7, 6, 35, 36, 37, 38, 39, 40, 41, 42, 43, 44, 45, 46] (by decide +kernel) (by decide +kernel)
set_option maxRecDepth 20000 in
theorem gX4_lenders_X4_back : GoodIn wsX4_lenders (wsV RX4 125 RX4 yX4_back wsX4_back) := goodIn_app (goodIn_of _ (by decide +kernel)) ggX4_lenders_X4_back
theorem dX4_lenders_0 : decode cX4_lenders 0 = .ok (.aload_n 0, 1) := by decide +kernel
theorem dX4_lenders_1 : decode cX4_lenders 1 = .ok (.invokevirtual 48, 3) := by decide +kernel
theorem dX4_lenders_4 : decode cX4_lenders 4 = .ok (.aload_n 0, 1) := by decide +kernel
theorem dX4_lenders_5 : decode cX4_lenders 5 = .ok (.invokevirtual 108, 3) := by decide +kernel
theorem dX4_lenders_8 : decode cX4_lenders 8 = .ok (.istore_n 1, 1) := by decide +kernel
theorem dX4_lenders_9 : decode cX4_lenders 9 = .ok (.aload_n 0, 1) := by decide +kernel
theorem dX4_lenders_10 : decode cX4_lenders 10 = .ok (.invokevirtual 125, 3) := by decide +kernel
theorem dX4_lenders_13 : decode cX4_lenders 13 = .ok (.iload_n 1, 1) := by decide +kernel
theorem dX4_lenders_14 : decode cX4_lenders 14 = .ok (.ireturn, 1) := by decide +kernel
set_option maxRecDepth 20000 in
theorem ggX4_sum_X4_of : GoodIn wsX4_sum wsX4_of := goodIn_r _ [6, 1, 7, 8, 9, 10, 11, 12, 13, 14, 15, 16, 17, 18] (by decide +kernel) (by decide +kernel)
set_option maxRecDepth 20000 in
theorem gX4_sum_X4_of : GoodIn wsX4_sum (wsV RX4 36 RX4 yX4_of wsX4_of) := goodIn_app (goodIn_of _ (by decide +kernel)) ggX4_sum_X4_of
theorem dX4_sum_0 : decode cX4_sum 0 = .ok (.iconst 0, 1) := by decide +kernel
theorem dX4_sum_1 : decode cX4_sum 1 = .ok (.istore_n 2, 1) := by decide +kernel
theorem dX4_sum_2 : decode cX4_sum 2 = .ok (.iconst 0, 1) := by decide +kernel
theorem dX4_sum_3 : decode cX4_sum 3 = .ok (.istore_n 3, 1) := by decide +kernel
theorem dX4_sum_4 : decode cX4_sum 4 = .ok (.iload_n 3, 1) := by decide +kernel
theorem dX4_sum_5 : decode cX4_sum 5 = .ok (.aload_n 0, 1) := by decide +kernel
theorem dX4_sum_6 : decode cX4_sum 6 = .ok (.getfield 7, 3) := by decide +kernel
theorem dX4_sum_9 : decode cX4_sum 9 = .ok (.iconst 3, 1) := by decide +kernel
theorem dX4_sum_10 : decode cX4_sum 10 = .ok (.iaload, 1) := by decide +kernel
theorem dX4_sum_11 : decode cX4_sum 11 = .ok (.if_icmp .ge 18, 3) := by decide +kernel
theorem dX4_sum_14 : decode cX4_sum 14 = .ok (.iload_n 2, 1) := by decide +kernel
theorem dX4_sum_15 : decode cX4_sum 15 = .ok (.aload_n 0, 1) := by decide +kernel
theorem dX4_sum_16 : decode cX4_sum 16 = .ok (.iload_n 3, 1) := by decide +kernel
theorem dX4_sum_17 : decode cX4_sum 17 = .ok (.iload_n 1, 1) := by decide +kernel
theorem dX4_sum_18 : decode cX4_sum 18 = .ok (.invokevirtual 36, 3) := by decide +kernel
theorem dX4_sum_21 : decode cX4_sum 21 = .ok (.iadd, 1) := by decide +kernel
theorem dX4_sum_22 : decode cX4_sum 22 = .ok (.istore_n 2, 1) := by decide +kernel
theorem dX4_sum_23 : decode cX4_sum 23 = .ok (.iinc 3 1, 3) := by decide +kernel
theorem dX4_sum_26 : decode cX4_sum 26 = .ok (.goto (-22), 3) := by decide +kernel
theorem dX4_sum_29 : decode cX4_sum 29 = .ok (.iload_n 2, 1) := by decide +kernel
theorem dX4_sum_30 : decode cX4_sum 30 = .ok (.ireturn, 1) := by decide +kernel
set_option maxRecDepth 20000 in
theorem ggX4_count_X4_sum : GoodIn wsX4_count wsX4_sum := goodIn_r _ [8, 1, 9, 10, 11, 7, 12, 13, 14, 15, 16, 17, 18, 19, 20, 21, 22, 23, 24] (by decide +kernel) (by decide +kernel)
set_option maxRecDepth 20000 in
theorem gX4_count_X4_sum : GoodIn wsX4_count (wsV RX4 128 RX4 yX4_sum wsX4_sum) := goodIn_app (goodIn_of _ (by decide +kernel)) ggX4_count_X4_sum
theorem dX4_count_0 : decode cX4_count 0 = .ok (.iload_n 1, 1) := by decide +kernel
theorem dX4_count_1 : decode cX4_count 1 = .ok (.tableswitch 232 0 21 #[103, 110, 117, 124, 130, 137, 144, 152, 159, 166, 172, 179, 187, 208, 213, 232, 232, 232, 232, 232, 218, 225], 103) := by decide +kernel
theorem dX4_count_104 : decode cX4_count 104 = .ok (.aload_n 0, 1) := by decide +kernel
theorem dX4_count_105 : decode cX4_count 105 = .ok (.getfield 7, 3) := by decide +kernel
theorem dX4_count_108 : decode cX4_count 108 = .ok (.iconst 3, 1) := by decide +kernel
theorem dX4_count_109 : decode cX4_count 109 = .ok (.iaload, 1) := by decide +kernel
theorem dX4_count_110 : decode cX4_count 110 = .ok (.ireturn, 1) := by decide +kernel
theorem dX4_count_111 : decode cX4_count 111 = .ok (.aload_n 0, 1) := by decide +kernel
theorem dX4_count_112 : decode cX4_count 112 = .ok (.getfield 7, 3) := by decide +kernel
theorem dX4_count_115 : decode cX4_count 115 = .ok (.iconst 4, 1) := by decide +kernel
theorem dX4_count_116 : decode cX4_count 116 = .ok (.iaload, 1) := by decide +kernel
theorem dX4_count_117 : decode cX4_count 117 = .ok (.ireturn, 1) := by decide +kernel
theorem dX4_count_118 : decode cX4_count 118 = .ok (.aload_n 0, 1) := by decide +kernel
theorem dX4_count_119 : decode cX4_count 119 = .ok (.getfield 7, 3) := by decide +kernel
theorem dX4_count_122 : decode cX4_count 122 = .ok (.iconst 0, 1) := by decide +kernel
theorem dX4_count_123 : decode cX4_count 123 = .ok (.iaload, 1) := by decide +kernel
theorem dX4_count_124 : decode cX4_count 124 = .ok (.ireturn, 1) := by decide +kernel
theorem dX4_count_125 : decode cX4_count 125 = .ok (.aload_n 0, 1) := by decide +kernel
theorem dX4_count_126 : decode cX4_count 126 = .ok (.iconst 4, 1) := by decide +kernel
theorem dX4_count_127 : decode cX4_count 127 = .ok (.invokevirtual 128, 3) := by decide +kernel
theorem dX4_count_130 : decode cX4_count 130 = .ok (.ireturn, 1) := by decide +kernel
theorem dX4_count_131 : decode cX4_count 131 = .ok (.aload_n 0, 1) := by decide +kernel
theorem dX4_count_132 : decode cX4_count 132 = .ok (.bipush 6, 2) := by decide +kernel
theorem dX4_count_134 : decode cX4_count 134 = .ok (.invokevirtual 128, 3) := by decide +kernel
theorem dX4_count_137 : decode cX4_count 137 = .ok (.ireturn, 1) := by decide +kernel
theorem dX4_count_138 : decode cX4_count 138 = .ok (.aload_n 0, 1) := by decide +kernel
theorem dX4_count_139 : decode cX4_count 139 = .ok (.bipush 7, 2) := by decide +kernel
theorem dX4_count_141 : decode cX4_count 141 = .ok (.invokevirtual 128, 3) := by decide +kernel
theorem dX4_count_144 : decode cX4_count 144 = .ok (.ireturn, 1) := by decide +kernel
theorem dX4_count_145 : decode cX4_count 145 = .ok (.aload_n 0, 1) := by decide +kernel
theorem dX4_count_146 : decode cX4_count 146 = .ok (.getfield 7, 3) := by decide +kernel
theorem dX4_count_149 : decode cX4_count 149 = .ok (.bipush 6, 2) := by decide +kernel
theorem dX4_count_151 : decode cX4_count 151 = .ok (.iaload, 1) := by decide +kernel
theorem dX4_count_152 : decode cX4_count 152 = .ok (.ireturn, 1) := by decide +kernel
theorem dX4_count_153 : decode cX4_count 153 = .ok (.aload_n 0, 1) := by decide +kernel
theorem dX4_count_154 : decode cX4_count 154 = .ok (.bipush 10, 2) := by decide +kernel
theorem dX4_count_156 : decode cX4_count 156 = .ok (.invokevirtual 128, 3) := by decide +kernel
theorem dX4_count_159 : decode cX4_count 159 = .ok (.ireturn, 1) := by decide +kernel
theorem dX4_count_160 : decode cX4_count 160 = .ok (.aload_n 0, 1) := by decide +kernel
theorem dX4_count_161 : decode cX4_count 161 = .ok (.bipush 11, 2) := by decide +kernel
theorem dX4_count_163 : decode cX4_count 163 = .ok (.invokevirtual 128, 3) := by decide +kernel
theorem dX4_count_166 : decode cX4_count 166 = .ok (.ireturn, 1) := by decide +kernel
theorem dX4_count_167 : decode cX4_count 167 = .ok (.aload_n 0, 1) := by decide +kernel
theorem dX4_count_168 : decode cX4_count 168 = .ok (.iconst 5, 1) := by decide +kernel
theorem dX4_count_169 : decode cX4_count 169 = .ok (.invokevirtual 128, 3) := by decide +kernel
theorem dX4_count_172 : decode cX4_count 172 = .ok (.ireturn, 1) := by decide +kernel
theorem dX4_count_173 : decode cX4_count 173 = .ok (.aload_n 0, 1) := by decide +kernel
theorem dX4_count_174 : decode cX4_count 174 = .ok (.getfield 7, 3) := by decide +kernel
theorem dX4_count_177 : decode cX4_count 177 = .ok (.iconst 5, 1) := by decide +kernel
theorem dX4_count_178 : decode cX4_count 178 = .ok (.iaload, 1) := by decide +kernel
theorem dX4_count_179 : decode cX4_count 179 = .ok (.ireturn, 1) := by decide +kernel
theorem dX4_count_180 : decode cX4_count 180 = .ok (.aload_n 0, 1) := by decide +kernel
theorem dX4_count_181 : decode cX4_count 181 = .ok (.getfield 7, 3) := by decide +kernel
theorem dX4_count_184 : decode cX4_count 184 = .ok (.bipush 7, 2) := by decide +kernel
theorem dX4_count_186 : decode cX4_count 186 = .ok (.iaload, 1) := by decide +kernel
theorem dX4_count_187 : decode cX4_count 187 = .ok (.ireturn, 1) := by decide +kernel
theorem dX4_count_188 : decode cX4_count 188 = .ok (.aload_n 0, 1) := by decide +kernel
theorem dX4_count_189 : decode cX4_count 189 = .ok (.getfield 7, 3) := by decide +kernel
theorem dX4_count_192 : decode cX4_count 192 = .ok (.iconst 1, 1) := by decide +kernel
theorem dX4_count_193 : decode cX4_count 193 = .ok (.iaload, 1) := by decide +kernel
theorem dX4_count_194 : decode cX4_count 194 = .ok (.aload_n 0, 1) := by decide +kernel
theorem dX4_count_195 : decode cX4_count 195 = .ok (.getfield 7, 3) := by decide +kernel
theorem dX4_count_198 : decode cX4_count 198 = .ok (.iconst 0, 1) := by decide +kernel
theorem dX4_count_199 : decode cX4_count 199 = .ok (.iaload, 1) := by decide +kernel
theorem dX4_count_200 : decode cX4_count 200 = .ok (.aload_n 0, 1) := by decide +kernel
theorem dX4_count_201 : decode cX4_count 201 = .ok (.getfield 7, 3) := by decide +kernel
theorem dX4_count_204 : decode cX4_count 204 = .ok (.iconst 1, 1) := by decide +kernel
theorem dX4_count_205 : decode cX4_count 205 = .ok (.iaload, 1) := by decide +kernel
theorem dX4_count_206 : decode cX4_count 206 = .ok (.irem, 1) := by decide +kernel
theorem dX4_count_207 : decode cX4_count 207 = .ok (.isub, 1) := by decide +kernel
theorem dX4_count_208 : decode cX4_count 208 = .ok (.ireturn, 1) := by decide +kernel
theorem dX4_count_209 : decode cX4_count 209 = .ok (.aload_n 0, 1) := by decide +kernel
theorem dX4_count_210 : decode cX4_count 210 = .ok (.getfield 29, 3) := by decide +kernel
theorem dX4_count_213 : decode cX4_count 213 = .ok (.ireturn, 1) := by decide +kernel
theorem dX4_count_214 : decode cX4_count 214 = .ok (.aload_n 0, 1) := by decide +kernel
theorem dX4_count_215 : decode cX4_count 215 = .ok (.getfield 131, 3) := by decide +kernel
theorem dX4_count_218 : decode cX4_count 218 = .ok (.ireturn, 1) := by decide +kernel
theorem dX4_count_219 : decode cX4_count 219 = .ok (.aload_n 0, 1) := by decide +kernel
theorem dX4_count_220 : decode cX4_count 220 = .ok (.getfield 7, 3) := by decide +kernel
theorem dX4_count_223 : decode cX4_count 223 = .ok (.iconst 1, 1) := by decide +kernel
theorem dX4_count_224 : decode cX4_count 224 = .ok (.iaload, 1) := by decide +kernel
theorem dX4_count_225 : decode cX4_count 225 = .ok (.ireturn, 1) := by decide +kernel
theorem dX4_count_226 : decode cX4_count 226 = .ok (.aload_n 0, 1) := by decide +kernel
theorem dX4_count_227 : decode cX4_count 227 = .ok (.getfield 7, 3) := by decide +kernel
theorem dX4_count_230 : decode cX4_count 230 = .ok (.iconst 2, 1) := by decide +kernel
theorem dX4_count_231 : decode cX4_count 231 = .ok (.iaload, 1) := by decide +kernel
theorem dX4_count_232 : decode cX4_count 232 = .ok (.ireturn, 1) := by decide +kernel
theorem dX4_count_233 : decode cX4_count 233 = .ok (.iconst (-1), 1) := by decide +kernel
theorem dX4_count_234 : decode cX4_count 234 = .ok (.ireturn, 1) := by decide +kernel
set_option maxRecDepth 20000 in
theorem ggX4_type_X4_in : GoodIn wsX4_type wsX4_in := goodIn_r _ [6] (by decide +kernel) (by decide +kernel)
set_option maxRecDepth 20000 in
theorem gX4_type_X4_in : GoodIn wsX4_type (va_wsS RX4 32 yX4_in wsX4_in) := goodIn_app (goodIn_of _ (by decide +kernel)) ggX4_type_X4_in
theorem dX4_type_0 : decode cX4_type 0 = .ok (.iload_n 1, 1) := by decide +kernel
theorem dX4_type_1 : decode cX4_type 1 = .ok (.bipush 32, 2) := by decide +kernel
theorem dX4_type_3 : decode cX4_type 3 = .ok (.bipush 126, 2) := by decide +kernel
theorem dX4_type_5 : decode cX4_type 5 = .ok (.invokestatic 32, 3) := by decide +kernel
theorem dX4_type_8 : decode cX4_type 8 = .ok (.ifCond .ne 5, 3) := by decide +kernel
theorem dX4_type_11 : decode cX4_type 11 = .ok (.iconst (-1), 1) := by decide +kernel
theorem dX4_type_12 : decode cX4_type 12 = .ok (.ireturn, 1) := by decide +kernel
theorem dX4_type_13 : decode cX4_type 13 = .ok (.aload_n 0, 1) := by decide +kernel
theorem dX4_type_14 : decode cX4_type 14 = .ok (.getfield 131, 3) := by decide +kernel
theorem dX4_type_17 : decode cX4_type 17 = .ok (.bipush 60, 2) := by decide +kernel
theorem dX4_type_19 : decode cX4_type 19 = .ok (.if_icmp .ne 6, 3) := by decide +kernel
theorem dX4_type_22 : decode cX4_type 22 = .ok (.bipush (-3), 2) := by decide +kernel
theorem dX4_type_24 : decode cX4_type 24 = .ok (.ireturn, 1) := by decide +kernel
theorem dX4_type_25 : decode cX4_type 25 = .ok (.aload_n 0, 1) := by decide +kernel
theorem dX4_type_26 : decode cX4_type 26 = .ok (.getfield 19, 3) := by decide +kernel
theorem dX4_type_29 : decode cX4_type 29 = .ok (.aload_n 0, 1) := by decide +kernel
theorem dX4_type_30 : decode cX4_type 30 = .ok (.getfield 131, 3) := by decide +kernel
theorem dX4_type_33 : decode cX4_type 33 = .ok (.iload_n 1, 1) := by decide +kernel
theorem dX4_type_34 : decode cX4_type 34 = .ok (.iastore, 1) := by decide +kernel
theorem dX4_type_35 : decode cX4_type 35 = .ok (.aload_n 0, 1) := by decide +kernel
theorem dX4_type_36 : decode cX4_type 36 = .ok (.dup, 1) := by decide +kernel
theorem dX4_type_37 : decode cX4_type 37 = .ok (.getfield 131, 3) := by decide +kernel
theorem dX4_type_40 : decode cX4_type 40 = .ok (.iconst 1, 1) := by decide +kernel
theorem dX4_type_41 : decode cX4_type 41 = .ok (.iadd, 1) := by decide +kernel
theorem dX4_type_42 : decode cX4_type 42 = .ok (.putfield 131, 3) := by decide +kernel
theorem dX4_type_45 : decode cX4_type 45 = .ok (.aload_n 0, 1) := by decide +kernel
theorem dX4_type_46 : decode cX4_type 46 = .ok (.getfield 131, 3) := by decide +kernel
theorem dX4_type_49 : decode cX4_type 49 = .ok (.ireturn, 1) := by decide +kernel
theorem dX4_clearText_0 : decode cX4_clearText 0 = .ok (.aload_n 0, 1) := by decide +kernel
theorem dX4_clearText_1 : decode cX4_clearText 1 = .ok (.getfield 131, 3) := by decide +kernel
theorem dX4_clearText_4 : decode cX4_clearText 4 = .ok (.istore_n 1, 1) := by decide +kernel
theorem dX4_clearText_5 : decode cX4_clearText 5 = .ok (.aload_n 0, 1) := by decide +kernel
theorem dX4_clearText_6 : decode cX4_clearText 6 = .ok (.iconst 0, 1) := by decide +kernel
theorem dX4_clearText_7 : decode cX4_clearText 7 = .ok (.putfield 131, 3) := by decide +kernel
theorem dX4_clearText_10 : decode cX4_clearText 10 = .ok (.iload_n 1, 1) := by decide +kernel
theorem dX4_clearText_11 : decode cX4_clearText 11 = .ok (.ireturn, 1) := by decide +kernel
theorem dX4_here_0 : decode cX4_here 0 = .ok (.aload_n 0, 1) := by decide +kernel
theorem dX4_here_1 : decode cX4_here 1 = .ok (.getfield 134, 3) := by decide +kernel
theorem dX4_here_4 : decode cX4_here 4 = .ok (.aload_n 0, 1) := by decide +kernel
theorem dX4_here_5 : decode cX4_here 5 = .ok (.getfield 131, 3) := by decide +kernel
theorem dX4_here_8 : decode cX4_here 8 = .ok (.if_icmp .ge 15, 3) := by decide +kernel
theorem dX4_here_11 : decode cX4_here 11 = .ok (.aload_n 0, 1) := by decide +kernel
theorem dX4_here_12 : decode cX4_here 12 = .ok (.getfield 19, 3) := by decide +kernel
theorem dX4_here_15 : decode cX4_here 15 = .ok (.aload_n 0, 1) := by decide +kernel
theorem dX4_here_16 : decode cX4_here 16 = .ok (.getfield 134, 3) := by decide +kernel
theorem dX4_here_19 : decode cX4_here 19 = .ok (.iaload, 1) := by decide +kernel
theorem dX4_here_20 : decode cX4_here 20 = .ok (.goto 4, 3) := by decide +kernel
theorem dX4_here_23 : decode cX4_here 23 = .ok (.iconst 0, 1) := by decide +kernel
theorem dX4_here_24 : decode cX4_here 24 = .ok (.ireturn, 1) := by decide +kernel
set_option maxRecDepth 20000 in
theorem ggX4_reads_X4_here : GoodIn wsX4_reads wsX4_here := goodIn_r _ [7, 2, 8, 9, 13, 14, 15, 16, 17, 18, 19, 20, 21, 22, 23, 24] (by decide +kernel) (by decide +kernel)
set_option maxRecDepth 20000 in
theorem gX4_reads_X4_here : GoodIn wsX4_reads (wsV RX4 137 RX4 yX4_here wsX4_here) := goodIn_app (goodIn_of _ (by decide +kernel)) ggX4_reads_X4_here
set_option maxRecDepth 20000 in
theorem ggX4_reads_X4_in : GoodIn wsX4_reads wsX4_in := goodIn_r _ [12] (by decide +kernel) (by decide +kernel)
set_option maxRecDepth 20000 in
theorem gX4_reads_X4_in : GoodIn wsX4_reads (va_wsS RX4 32 yX4_in wsX4_in) := goodIn_app (goodIn_of _ (by decide +kernel)) ggX4_reads_X4_in
theorem dX4_reads_0 : decode cX4_reads 0 = .ok (.iconst 0, 1) := by decide +kernel
theorem dX4_reads_1 : decode cX4_reads 1 = .ok (.istore_n 2, 1) := by decide +kernel
theorem dX4_reads_2 : decode cX4_reads 2 = .ok (.iload_n 2, 1) := by decide +kernel
theorem dX4_reads_3 : decode cX4_reads 3 = .ok (.iload_n 1, 1) := by decide +kernel
theorem dX4_reads_4 : decode cX4_reads 4 = .ok (.if_icmp .ge 113, 3) := by decide +kernel
theorem dX4_reads_7 : decode cX4_reads 7 = .ok (.iconst 0, 1) := by decide +kernel
theorem dX4_reads_8 : decode cX4_reads 8 = .ok (.istore_n 3, 1) := by decide +kernel
theorem dX4_reads_9 : decode cX4_reads 9 = .ok (.aload_n 0, 1) := by decide +kernel
theorem dX4_reads_10 : decode cX4_reads 10 = .ok (.getfield 22, 3) := by decide +kernel
theorem dX4_reads_13 : decode cX4_reads 13 = .ok (.iload_n 2, 1) := by decide +kernel
theorem dX4_reads_14 : decode cX4_reads 14 = .ok (.iconst 0, 1) := by decide +kernel
theorem dX4_reads_15 : decode cX4_reads 15 = .ok (.iastore, 1) := by decide +kernel
theorem dX4_reads_16 : decode cX4_reads 16 = .ok (.iload_n 3, 1) := by decide +kernel
theorem dX4_reads_17 : decode cX4_reads 17 = .ok (.iconst 3, 1) := by decide +kernel
theorem dX4_reads_18 : decode cX4_reads 18 = .ok (.if_icmp .ge 56, 3) := by decide +kernel
theorem dX4_reads_21 : decode cX4_reads 21 = .ok (.aload_n 0, 1) := by decide +kernel
theorem dX4_reads_22 : decode cX4_reads 22 = .ok (.invokevirtual 137, 3) := by decide +kernel
theorem dX4_reads_25 : decode cX4_reads 25 = .ok (.bipush 48, 2) := by decide +kernel
theorem dX4_reads_27 : decode cX4_reads 27 = .ok (.bipush 57, 2) := by decide +kernel
theorem dX4_reads_29 : decode cX4_reads 29 = .ok (.invokestatic 32, 3) := by decide +kernel
theorem dX4_reads_32 : decode cX4_reads 32 = .ok (.ifCond .eq 42, 3) := by decide +kernel
theorem dX4_reads_35 : decode cX4_reads 35 = .ok (.aload_n 0, 1) := by decide +kernel
theorem dX4_reads_36 : decode cX4_reads 36 = .ok (.getfield 22, 3) := by decide +kernel
theorem dX4_reads_39 : decode cX4_reads 39 = .ok (.iload_n 2, 1) := by decide +kernel
theorem dX4_reads_40 : decode cX4_reads 40 = .ok (.bipush 10, 2) := by decide +kernel
theorem dX4_reads_42 : decode cX4_reads 42 = .ok (.aload_n 0, 1) := by decide +kernel
theorem dX4_reads_43 : decode cX4_reads 43 = .ok (.getfield 22, 3) := by decide +kernel
theorem dX4_reads_46 : decode cX4_reads 46 = .ok (.iload_n 2, 1) := by decide +kernel
theorem dX4_reads_47 : decode cX4_reads 47 = .ok (.iaload, 1) := by decide +kernel
theorem dX4_reads_48 : decode cX4_reads 48 = .ok (.imul, 1) := by decide +kernel
theorem dX4_reads_49 : decode cX4_reads 49 = .ok (.aload_n 0, 1) := by decide +kernel
theorem dX4_reads_50 : decode cX4_reads 50 = .ok (.invokevirtual 137, 3) := by decide +kernel
theorem dX4_reads_53 : decode cX4_reads 53 = .ok (.iadd, 1) := by decide +kernel
theorem dX4_reads_54 : decode cX4_reads 54 = .ok (.bipush 48, 2) := by decide +kernel
theorem dX4_reads_56 : decode cX4_reads 56 = .ok (.isub, 1) := by decide +kernel
theorem dX4_reads_57 : decode cX4_reads 57 = .ok (.iastore, 1) := by decide +kernel
theorem dX4_reads_58 : decode cX4_reads 58 = .ok (.aload_n 0, 1) := by decide +kernel
theorem dX4_reads_59 : decode cX4_reads 59 = .ok (.dup, 1) := by decide +kernel
theorem dX4_reads_60 : decode cX4_reads 60 = .ok (.getfield 134, 3) := by decide +kernel
theorem dX4_reads_63 : decode cX4_reads 63 = .ok (.iconst 1, 1) := by decide +kernel
theorem dX4_reads_64 : decode cX4_reads 64 = .ok (.iadd, 1) := by decide +kernel
theorem dX4_reads_65 : decode cX4_reads 65 = .ok (.putfield 134, 3) := by decide +kernel
theorem dX4_reads_68 : decode cX4_reads 68 = .ok (.iinc 3 1, 3) := by decide +kernel
theorem dX4_reads_71 : decode cX4_reads 71 = .ok (.goto (-55), 3) := by decide +kernel
theorem dX4_reads_74 : decode cX4_reads 74 = .ok (.iload_n 3, 1) := by decide +kernel
theorem dX4_reads_75 : decode cX4_reads 75 = .ok (.ifCond .eq 24, 3) := by decide +kernel
theorem dX4_reads_78 : decode cX4_reads 78 = .ok (.aload_n 0, 1) := by decide +kernel
theorem dX4_reads_79 : decode cX4_reads 79 = .ok (.invokevirtual 137, 3) := by decide +kernel
theorem dX4_reads_82 : decode cX4_reads 82 = .ok (.iload_n 2, 1) := by decide +kernel
theorem dX4_reads_83 : decode cX4_reads 83 = .ok (.iload_n 1, 1) := by decide +kernel
theorem dX4_reads_84 : decode cX4_reads 84 = .ok (.iconst 1, 1) := by decide +kernel
theorem dX4_reads_85 : decode cX4_reads 85 = .ok (.isub, 1) := by decide +kernel
theorem dX4_reads_86 : decode cX4_reads 86 = .ok (.if_icmp .ne 8, 3) := by decide +kernel
theorem dX4_reads_89 : decode cX4_reads 89 = .ok (.bipush 59, 2) := by decide +kernel
theorem dX4_reads_91 : decode cX4_reads 91 = .ok (.goto 5, 3) := by decide +kernel
theorem dX4_reads_94 : decode cX4_reads 94 = .ok (.bipush 44, 2) := by decide +kernel
theorem dX4_reads_96 : decode cX4_reads 96 = .ok (.if_icmp .eq 5, 3) := by decide +kernel
theorem dX4_reads_99 : decode cX4_reads 99 = .ok (.iconst 0, 1) := by decide +kernel
theorem dX4_reads_100 : decode cX4_reads 100 = .ok (.ireturn, 1) := by decide +kernel
theorem dX4_reads_101 : decode cX4_reads 101 = .ok (.aload_n 0, 1) := by decide +kernel
theorem dX4_reads_102 : decode cX4_reads 102 = .ok (.dup, 1) := by decide +kernel
theorem dX4_reads_103 : decode cX4_reads 103 = .ok (.getfield 134, 3) := by decide +kernel
theorem dX4_reads_106 : decode cX4_reads 106 = .ok (.iconst 1, 1) := by decide +kernel
theorem dX4_reads_107 : decode cX4_reads 107 = .ok (.iadd, 1) := by decide +kernel
theorem dX4_reads_108 : decode cX4_reads 108 = .ok (.putfield 134, 3) := by decide +kernel
theorem dX4_reads_111 : decode cX4_reads 111 = .ok (.iinc 2 1, 3) := by decide +kernel
theorem dX4_reads_114 : decode cX4_reads 114 = .ok (.goto (-112), 3) := by decide +kernel
theorem dX4_reads_117 : decode cX4_reads 117 = .ok (.iconst 1, 1) := by decide +kernel
theorem dX4_reads_118 : decode cX4_reads 118 = .ok (.ireturn, 1) := by decide +kernel
set_option maxRecDepth 20000 in
theorem ggX4_does_X4_draws : GoodIn wsX4_does wsX4_draws := goodIn_r _ [7, 8, 9, 10, 6, 11, 2, 12, 13, 14, 15, 16, 17, 18, 19, 20, 21, 22, 23, 24, 25, 26, 27, 28, 29, 30, 31, 32, 33, 34, 35, 36, 37, 38, 39, 40, 91, 92, 93, 94, 95, 96, 97, 98, 99, 100, 101, 102] (by decide +kernel) (by decide +kernel)
set_option maxRecDepth 20000 in
theorem gX4_does_X4_draws : GoodIn wsX4_does (wsV RX4 86 RX4 yX4_draws wsX4_draws) := goodIn_app (goodIn_of _ (by decide +kernel)) ggX4_does_X4_draws
set_option maxRecDepth 20000 in
theorem ggX4_does_X4_requests : GoodIn wsX4_does wsX4_requests := goodIn_r _ [44, 2, 8, 9, 10, 6, 11, 12, 13, 14, 15, 16, 17, 18, 19, 20, 21, 22, 23, 24, 25, 26, 27, 28, 29, 30, 31, 32, 33, 34, 35, 36, 37, 38, 39, 40, 91, 92, 93, 94, 95, 96, 97, 98, 99, 100, 101, 102] (by decide +kernel) (by decide +kernel)
set_option maxRecDepth 20000 in
theorem gX4_does_X4_requests : GoodIn wsX4_does (wsV RX4 89 RX4 yX4_requests wsX4_requests) := goodIn_app (goodIn_of _ (by decide +kernel)) ggX4_does_X4_requests
set_option maxRecDepth 20000 in
theorem ggX4_does_X4_passes : GoodIn wsX4_does wsX4_passes := goodIn_r _ [48, 2, 49, 12, 13, 6, 14, 50, 51, 52, 53, 54, 55, 56, 57, 58, 59, 60, 61, 22, 23, 24, 25, 62, 63, 64, 65, 26, 27, 28, 37, 38, 39, 40, 66, 67, 68, 69, 70, 71, 72, 73, 74, 75, 76, 77, 78, 79, 80, 81, 18, 19, 20, 21, 29, 30, 31, 32, 33, 34, 35, 36, 82, 83, 84, 85, 91, 92, 93, 94, 95, 96, 97, 98, 99, 100, 101, 102] (by decide +kernel) (by decide +kernel)
set_option maxRecDepth 20000 in
theorem gX4_does_X4_passes : GoodIn wsX4_does (wsV RX4 122 RX4 yX4_passes wsX4_passes) := goodIn_app (goodIn_of _ (by decide +kernel)) ggX4_does_X4_passes
set_option maxRecDepth 20000 in
theorem ggX4_does_X4_addsDrought : GoodIn wsX4_does wsX4_addsDrought := goodIn_r _ [89, 2, 90, 8, 9, 10, 6, 11, 12, 13, 14, 91, 92, 93, 94, 95, 96, 97, 98, 99, 100, 101, 102] (by decide +kernel) (by decide +kernel)
set_option maxRecDepth 20000 in
theorem gX4_does_X4_addsDrought : GoodIn wsX4_does (wsV RX4 60 RX4 yX4_addsDrought wsX4_addsDrought) := goodIn_app (goodIn_of _ (by decide +kernel)) ggX4_does_X4_addsDrought
theorem dX4_does_0 : decode cX4_does 0 = .ok (.iload_n 1, 1) := by decide +kernel
theorem dX4_does_1 : decode cX4_does 1 = .ok (.lookupswitch 80 #[(100, 35), (114, 52), (116, 69)], 35) := by decide +kernel
theorem dX4_does_36 : decode cX4_does 36 = .ok (.aload_n 0, 1) := by decide +kernel
theorem dX4_does_37 : decode cX4_does 37 = .ok (.aload_n 0, 1) := by decide +kernel
theorem dX4_does_38 : decode cX4_does 38 = .ok (.getfield 22, 3) := by decide +kernel
theorem dX4_does_41 : decode cX4_does 41 = .ok (.iconst 0, 1) := by decide +kernel
theorem dX4_does_42 : decode cX4_does 42 = .ok (.iaload, 1) := by decide +kernel
theorem dX4_does_43 : decode cX4_does 43 = .ok (.aload_n 0, 1) := by decide +kernel
theorem dX4_does_44 : decode cX4_does 44 = .ok (.getfield 22, 3) := by decide +kernel
theorem dX4_does_47 : decode cX4_does 47 = .ok (.iconst 1, 1) := by decide +kernel
theorem dX4_does_48 : decode cX4_does 48 = .ok (.iaload, 1) := by decide +kernel
theorem dX4_does_49 : decode cX4_does 49 = .ok (.invokevirtual 86, 3) := by decide +kernel
theorem dX4_does_52 : decode cX4_does 52 = .ok (.ireturn, 1) := by decide +kernel
theorem dX4_does_53 : decode cX4_does 53 = .ok (.aload_n 0, 1) := by decide +kernel
theorem dX4_does_54 : decode cX4_does 54 = .ok (.aload_n 0, 1) := by decide +kernel
theorem dX4_does_55 : decode cX4_does 55 = .ok (.getfield 22, 3) := by decide +kernel
theorem dX4_does_58 : decode cX4_does 58 = .ok (.iconst 0, 1) := by decide +kernel
theorem dX4_does_59 : decode cX4_does 59 = .ok (.iaload, 1) := by decide +kernel
theorem dX4_does_60 : decode cX4_does 60 = .ok (.aload_n 0, 1) := by decide +kernel
theorem dX4_does_61 : decode cX4_does 61 = .ok (.getfield 22, 3) := by decide +kernel
theorem dX4_does_64 : decode cX4_does 64 = .ok (.iconst 1, 1) := by decide +kernel
theorem dX4_does_65 : decode cX4_does 65 = .ok (.iaload, 1) := by decide +kernel
theorem dX4_does_66 : decode cX4_does 66 = .ok (.invokevirtual 89, 3) := by decide +kernel
theorem dX4_does_69 : decode cX4_does 69 = .ok (.ireturn, 1) := by decide +kernel
theorem dX4_does_70 : decode cX4_does 70 = .ok (.aload_n 0, 1) := by decide +kernel
theorem dX4_does_71 : decode cX4_does 71 = .ok (.aload_n 0, 1) := by decide +kernel
theorem dX4_does_72 : decode cX4_does 72 = .ok (.getfield 22, 3) := by decide +kernel
theorem dX4_does_75 : decode cX4_does 75 = .ok (.iconst 0, 1) := by decide +kernel
theorem dX4_does_76 : decode cX4_does 76 = .ok (.iaload, 1) := by decide +kernel
theorem dX4_does_77 : decode cX4_does 77 = .ok (.invokevirtual 122, 3) := by decide +kernel
theorem dX4_does_80 : decode cX4_does 80 = .ok (.ireturn, 1) := by decide +kernel
theorem dX4_does_81 : decode cX4_does 81 = .ok (.aload_n 0, 1) := by decide +kernel
theorem dX4_does_82 : decode cX4_does 82 = .ok (.aload_n 0, 1) := by decide +kernel
theorem dX4_does_83 : decode cX4_does 83 = .ok (.getfield 22, 3) := by decide +kernel
theorem dX4_does_86 : decode cX4_does 86 = .ok (.iconst 0, 1) := by decide +kernel
theorem dX4_does_87 : decode cX4_does 87 = .ok (.iaload, 1) := by decide +kernel
theorem dX4_does_88 : decode cX4_does 88 = .ok (.aload_n 0, 1) := by decide +kernel
theorem dX4_does_89 : decode cX4_does 89 = .ok (.getfield 7, 3) := by decide +kernel
theorem dX4_does_92 : decode cX4_does 92 = .ok (.iconst 0, 1) := by decide +kernel
theorem dX4_does_93 : decode cX4_does 93 = .ok (.iaload, 1) := by decide +kernel
theorem dX4_does_94 : decode cX4_does 94 = .ok (.aload_n 0, 1) := by decide +kernel
theorem dX4_does_95 : decode cX4_does 95 = .ok (.getfield 22, 3) := by decide +kernel
theorem dX4_does_98 : decode cX4_does 98 = .ok (.iconst 1, 1) := by decide +kernel
theorem dX4_does_99 : decode cX4_does 99 = .ok (.iaload, 1) := by decide +kernel
theorem dX4_does_100 : decode cX4_does 100 = .ok (.iadd, 1) := by decide +kernel
theorem dX4_does_101 : decode cX4_does 101 = .ok (.aload_n 0, 1) := by decide +kernel
theorem dX4_does_102 : decode cX4_does 102 = .ok (.getfield 7, 3) := by decide +kernel
theorem dX4_does_105 : decode cX4_does 105 = .ok (.iconst 0, 1) := by decide +kernel
theorem dX4_does_106 : decode cX4_does 106 = .ok (.iaload, 1) := by decide +kernel
theorem dX4_does_107 : decode cX4_does 107 = .ok (.aload_n 0, 1) := by decide +kernel
theorem dX4_does_108 : decode cX4_does 108 = .ok (.getfield 22, 3) := by decide +kernel
theorem dX4_does_111 : decode cX4_does 111 = .ok (.iconst 2, 1) := by decide +kernel
theorem dX4_does_112 : decode cX4_does 112 = .ok (.iaload, 1) := by decide +kernel
theorem dX4_does_113 : decode cX4_does 113 = .ok (.iadd, 1) := by decide +kernel
theorem dX4_does_114 : decode cX4_does 114 = .ok (.invokevirtual 60, 3) := by decide +kernel
theorem dX4_does_117 : decode cX4_does 117 = .ok (.ireturn, 1) := by decide +kernel
set_option maxRecDepth 20000 in
theorem ggX4_order_X4_here : GoodIn wsX4_order wsX4_here := goodIn_r _ [7, 1, 8, 9, 107, 108, 109, 110, 111, 112, 113, 114, 115, 116, 117, 118] (by decide +kernel) (by decide +kernel)
set_option maxRecDepth 20000 in
theorem gX4_order_X4_here : GoodIn wsX4_order (wsV RX4 137 RX4 yX4_here wsX4_here) := goodIn_app (goodIn_of _ (by decide +kernel)) ggX4_order_X4_here
set_option maxRecDepth 20000 in
theorem ggX4_order_X4_reads : GoodIn wsX4_order wsX4_reads := goodIn_r _ [13, 14, 1, 3, 4, 5, 6, 7, 8, 9, 15, 16, 17, 107, 108, 109, 110, 111, 112, 113, 114, 115, 116, 117, 118] (by decide +kernel) (by decide +kernel)
set_option maxRecDepth 20000 in
theorem gX4_order_X4_reads : GoodIn wsX4_order (wsV RX4 140 RX4 yX4_reads wsX4_reads) := goodIn_app (goodIn_of _ (by decide +kernel)) ggX4_order_X4_reads
set_option maxRecDepth 20000 in
theorem ggX4_order_X4_does : GoodIn wsX4_order wsX4_does := goodIn_r _ [21, 14, 22, 23, 24, 25, 6, 26, 27, 28, 29, 30, 15, 16, 17, 31, 32, 33, 34, 35, 36, 37, 38, 39, 40, 41, 42, 43, 44, 45, 46, 47, 48, 49, 50, 51, 52, 53, 54, 55, 56, 57, 58, 59, 60, 61, 62, 63, 64, 65, 66, 67, 68, 69, 70, 71, 72, 73, 74, 75, 76, 77, 78, 79, 80, 81, 82, 83, 84, 85, 86, 87, 88, 89, 90, 91, 92, 93, 94, 95, 96, 97, 98, 99, 100, 101, 102, 103, 104, 105, 106, 107, 108, 109, 110, 111, 112, 113, 114, 115, 116, 117, 118] (by decide +kernel) (by decide +kernel)
set_option maxRecDepth 20000 in
theorem gX4_order_X4_does : GoodIn wsX4_order (wsV RX4 146 RX4 yX4_does wsX4_does) := goodIn_app (goodIn_of _ (by decide +kernel)) ggX4_order_X4_does
theorem dX4_order_0 : decode cX4_order 0 = .ok (.aload_n 0, 1) := by decide +kernel
theorem dX4_order_1 : decode cX4_order 1 = .ok (.invokevirtual 137, 3) := by decide +kernel
theorem dX4_order_4 : decode cX4_order 4 = .ok (.istore_n 1, 1) := by decide +kernel
theorem dX4_order_5 : decode cX4_order 5 = .ok (.aload_n 0, 1) := by decide +kernel
theorem dX4_order_6 : decode cX4_order 6 = .ok (.dup, 1) := by decide +kernel
theorem dX4_order_7 : decode cX4_order 7 = .ok (.getfield 134, 3) := by decide +kernel
theorem dX4_order_10 : decode cX4_order 10 = .ok (.iconst 1, 1) := by decide +kernel
theorem dX4_order_11 : decode cX4_order 11 = .ok (.iadd, 1) := by decide +kernel
theorem dX4_order_12 : decode cX4_order 12 = .ok (.putfield 134, 3) := by decide +kernel
theorem dX4_order_15 : decode cX4_order 15 = .ok (.iload_n 1, 1) := by decide +kernel
theorem dX4_order_16 : decode cX4_order 16 = .ok (.bipush 100, 2) := by decide +kernel
theorem dX4_order_18 : decode cX4_order 18 = .ok (.if_icmp .eq 21, 3) := by decide +kernel
theorem dX4_order_21 : decode cX4_order 21 = .ok (.iload_n 1, 1) := by decide +kernel
theorem dX4_order_22 : decode cX4_order 22 = .ok (.bipush 114, 2) := by decide +kernel
theorem dX4_order_24 : decode cX4_order 24 = .ok (.if_icmp .eq 15, 3) := by decide +kernel
theorem dX4_order_27 : decode cX4_order 27 = .ok (.iload_n 1, 1) := by decide +kernel
theorem dX4_order_28 : decode cX4_order 28 = .ok (.bipush 116, 2) := by decide +kernel
theorem dX4_order_30 : decode cX4_order 30 = .ok (.if_icmp .eq 9, 3) := by decide +kernel
theorem dX4_order_33 : decode cX4_order 33 = .ok (.iload_n 1, 1) := by decide +kernel
theorem dX4_order_34 : decode cX4_order 34 = .ok (.bipush 110, 2) := by decide +kernel
theorem dX4_order_36 : decode cX4_order 36 = .ok (.if_icmp .ne 7, 3) := by decide +kernel
theorem dX4_order_39 : decode cX4_order 39 = .ok (.iconst 1, 1) := by decide +kernel
theorem dX4_order_40 : decode cX4_order 40 = .ok (.goto 4, 3) := by decide +kernel
theorem dX4_order_43 : decode cX4_order 43 = .ok (.iconst 0, 1) := by decide +kernel
theorem dX4_order_44 : decode cX4_order 44 = .ok (.istore_n 2, 1) := by decide +kernel
theorem dX4_order_45 : decode cX4_order 45 = .ok (.iload_n 2, 1) := by decide +kernel
theorem dX4_order_46 : decode cX4_order 46 = .ok (.ifCond .eq 31, 3) := by decide +kernel
theorem dX4_order_49 : decode cX4_order 49 = .ok (.aload_n 0, 1) := by decide +kernel
theorem dX4_order_50 : decode cX4_order 50 = .ok (.iload_n 1, 1) := by decide +kernel
theorem dX4_order_51 : decode cX4_order 51 = .ok (.bipush 116, 2) := by decide +kernel
theorem dX4_order_53 : decode cX4_order 53 = .ok (.if_icmp .ne 7, 3) := by decide +kernel
theorem dX4_order_56 : decode cX4_order 56 = .ok (.iconst 1, 1) := by decide +kernel
theorem dX4_order_57 : decode cX4_order 57 = .ok (.goto 14, 3) := by decide +kernel
theorem dX4_order_60 : decode cX4_order 60 = .ok (.iload_n 1, 1) := by decide +kernel
theorem dX4_order_61 : decode cX4_order 61 = .ok (.bipush 110, 2) := by decide +kernel
theorem dX4_order_63 : decode cX4_order 63 = .ok (.if_icmp .ne 7, 3) := by decide +kernel
theorem dX4_order_66 : decode cX4_order 66 = .ok (.iconst 3, 1) := by decide +kernel
theorem dX4_order_67 : decode cX4_order 67 = .ok (.goto 4, 3) := by decide +kernel
theorem dX4_order_70 : decode cX4_order 70 = .ok (.iconst 2, 1) := by decide +kernel
theorem dX4_order_71 : decode cX4_order 71 = .ok (.invokevirtual 140, 3) := by decide +kernel
theorem dX4_order_74 : decode cX4_order 74 = .ok (.ifCond .ne 9, 3) := by decide +kernel
theorem dX4_order_77 : decode cX4_order 77 = .ok (.aload_n 0, 1) := by decide +kernel
theorem dX4_order_78 : decode cX4_order 78 = .ok (.iconst 1, 1) := by decide +kernel
theorem dX4_order_79 : decode cX4_order 79 = .ok (.putfield 143, 3) := by decide +kernel
theorem dX4_order_82 : decode cX4_order 82 = .ok (.return_, 1) := by decide +kernel
theorem dX4_order_83 : decode cX4_order 83 = .ok (.aload_n 0, 1) := by decide +kernel
theorem dX4_order_84 : decode cX4_order 84 = .ok (.iload_n 1, 1) := by decide +kernel
theorem dX4_order_85 : decode cX4_order 85 = .ok (.invokevirtual 146, 3) := by decide +kernel
theorem dX4_order_88 : decode cX4_order 88 = .ok (.istore_n 3, 1) := by decide +kernel
theorem dX4_order_89 : decode cX4_order 89 = .ok (.aload_n 0, 1) := by decide +kernel
theorem dX4_order_90 : decode cX4_order 90 = .ok (.iload_n 3, 1) := by decide +kernel
theorem dX4_order_91 : decode cX4_order 91 = .ok (.iconst (-1), 1) := by decide +kernel
theorem dX4_order_92 : decode cX4_order 92 = .ok (.if_icmp .ne 7, 3) := by decide +kernel
theorem dX4_order_95 : decode cX4_order 95 = .ok (.iconst 2, 1) := by decide +kernel
theorem dX4_order_96 : decode cX4_order 96 = .ok (.goto 12, 3) := by decide +kernel
theorem dX4_order_99 : decode cX4_order 99 = .ok (.iload_n 3, 1) := by decide +kernel
theorem dX4_order_100 : decode cX4_order 100 = .ok (.ifCond .ge 7, 3) := by decide +kernel
theorem dX4_order_103 : decode cX4_order 103 = .ok (.iconst 3, 1) := by decide +kernel
theorem dX4_order_104 : decode cX4_order 104 = .ok (.goto 4, 3) := by decide +kernel
theorem dX4_order_107 : decode cX4_order 107 = .ok (.iconst 0, 1) := by decide +kernel
theorem dX4_order_108 : decode cX4_order 108 = .ok (.putfield 143, 3) := by decide +kernel
theorem dX4_order_111 : decode cX4_order 111 = .ok (.return_, 1) := by decide +kernel
set_option maxRecDepth 20000 in
theorem ggX4_tries_X4_order : GoodIn wsX4_tries wsX4_order := goodIn_r _ [10, 1, 3, 11, 12, 13, 9, 14, 4, 15, 16, 17, 18, 19, 20, 21, 22, 23, 24, 25, 26, 27, 28, 29, 30, 31, 32, 33, 34, 35, 36, 37, 38, 39, 40, 41, 42, 43, 44, 45, 46, 47, 48, 49, 50, 51, 52, 53, 54, 55, 56, 57, 58, 59, 60, 61, 62, 63, 64, 65, 66, 67, 68, 69, 70, 71, 72, 73, 74, 75, 76, 77, 78, 79, 80, 81, 82, 83, 84, 85, 86, 87, 88, 89, 90, 91, 92, 93, 94, 95, 96, 97, 98, 99, 100, 101, 102, 103, 104, 105, 106, 107, 108, 109, 110, 111, 112, 113, 114, 115, 116, 117, 118, 119, 120, 121, 122, 123, 124] (by decide +kernel) (by decide +kernel)
set_option maxRecDepth 20000 in
theorem gX4_tries_X4_order : GoodIn wsX4_tries (wsV RX4 155 RX4 yX4_order wsX4_order) := goodIn_app (goodIn_of _ (by decide +kernel)) ggX4_tries_X4_order
theorem dX4_tries_0 : decode cX4_tries 0 = .ok (.aload_n 0, 1) := by decide +kernel
theorem dX4_tries_1 : decode cX4_tries 1 = .ok (.iconst 0, 1) := by decide +kernel
theorem dX4_tries_2 : decode cX4_tries 2 = .ok (.putfield 134, 3) := by decide +kernel
theorem dX4_tries_5 : decode cX4_tries 5 = .ok (.aload_n 0, 1) := by decide +kernel
theorem dX4_tries_6 : decode cX4_tries 6 = .ok (.iconst 0, 1) := by decide +kernel
theorem dX4_tries_7 : decode cX4_tries 7 = .ok (.putfield 149, 3) := by decide +kernel
theorem dX4_tries_10 : decode cX4_tries 10 = .ok (.aload_n 0, 1) := by decide +kernel
theorem dX4_tries_11 : decode cX4_tries 11 = .ok (.iconst 0, 1) := by decide +kernel
theorem dX4_tries_12 : decode cX4_tries 12 = .ok (.putfield 143, 3) := by decide +kernel
theorem dX4_tries_15 : decode cX4_tries 15 = .ok (.aload_n 0, 1) := by decide +kernel
theorem dX4_tries_16 : decode cX4_tries 16 = .ok (.getfield 134, 3) := by decide +kernel
theorem dX4_tries_19 : decode cX4_tries 19 = .ok (.aload_n 0, 1) := by decide +kernel
theorem dX4_tries_20 : decode cX4_tries 20 = .ok (.getfield 131, 3) := by decide +kernel
theorem dX4_tries_23 : decode cX4_tries 23 = .ok (.if_icmp .ge 35, 3) := by decide +kernel
theorem dX4_tries_26 : decode cX4_tries 26 = .ok (.aload_n 0, 1) := by decide +kernel
theorem dX4_tries_27 : decode cX4_tries 27 = .ok (.getfield 143, 3) := by decide +kernel
theorem dX4_tries_30 : decode cX4_tries 30 = .ok (.ifCond .ne 28, 3) := by decide +kernel
theorem dX4_tries_33 : decode cX4_tries 33 = .ok (.aload_n 0, 1) := by decide +kernel
theorem dX4_tries_34 : decode cX4_tries 34 = .ok (.aload_n 0, 1) := by decide +kernel
theorem dX4_tries_35 : decode cX4_tries 35 = .ok (.getfield 134, 3) := by decide +kernel
theorem dX4_tries_38 : decode cX4_tries 38 = .ok (.putfield 152, 3) := by decide +kernel
theorem dX4_tries_41 : decode cX4_tries 41 = .ok (.aload_n 0, 1) := by decide +kernel
theorem dX4_tries_42 : decode cX4_tries 42 = .ok (.invokevirtual 155, 3) := by decide +kernel
theorem dX4_tries_45 : decode cX4_tries 45 = .ok (.aload_n 0, 1) := by decide +kernel
theorem dX4_tries_46 : decode cX4_tries 46 = .ok (.dup, 1) := by decide +kernel
theorem dX4_tries_47 : decode cX4_tries 47 = .ok (.getfield 149, 3) := by decide +kernel
theorem dX4_tries_50 : decode cX4_tries 50 = .ok (.iconst 1, 1) := by decide +kernel
theorem dX4_tries_51 : decode cX4_tries 51 = .ok (.iadd, 1) := by decide +kernel
theorem dX4_tries_52 : decode cX4_tries 52 = .ok (.putfield 149, 3) := by decide +kernel
theorem dX4_tries_55 : decode cX4_tries 55 = .ok (.goto (-40), 3) := by decide +kernel
theorem dX4_tries_58 : decode cX4_tries 58 = .ok (.return_, 1) := by decide +kernel
set_option maxRecDepth 20000 in
theorem ggX4_fault_X4_in : GoodIn wsX4_fault wsX4_in := goodIn_r _ [6] (by decide +kernel) (by decide +kernel)
set_option maxRecDepth 20000 in
theorem gX4_fault_X4_in : GoodIn wsX4_fault (va_wsS RX4 32 yX4_in wsX4_in) := goodIn_app (goodIn_of _ (by decide +kernel)) ggX4_fault_X4_in
set_option maxRecDepth 20000 in
theorem ggX4_fault_X4_copy : GoodIn wsX4_fault wsX4_copy := goodIn_r _ [10, 11, 12, 126, 127, 128, 129, 130, 131, 132, 133, 134, 135, 136, 137] (by decide +kernel) (by decide +kernel)
set_option maxRecDepth 20000 in
theorem gX4_fault_X4_copy : GoodIn wsX4_fault (wsV RX4 48 RX4 yX4_copy wsX4_copy) := goodIn_app (goodIn_of _ (by decide +kernel)) ggX4_fault_X4_copy
set_option maxRecDepth 20000 in
theorem ggX4_fault_X4_tries : GoodIn wsX4_fault wsX4_tries := goodIn_r _ [16, 17, 18, 1, 19, 2, 20, 21, 22, 5, 23, 24, 25, 26, 27, 28, 29, 30, 31, 32, 33, 3, 4, 6, 34, 35, 36, 37, 12, 38, 39, 40, 41, 42, 43, 44, 45, 46, 47, 48, 49, 50, 51, 52, 53, 54, 55, 56, 57, 58, 59, 60, 61, 62, 63, 64, 65, 66, 67, 68, 69, 70, 71, 72, 73, 74, 75, 76, 77, 78, 79, 80, 81, 82, 83, 84, 85, 86, 87, 88, 89, 90, 91, 92, 93, 94, 95, 96, 97, 98, 99, 100, 101, 102, 103, 104, 105, 106, 107, 108, 109, 110, 111, 112, 113, 114, 115, 116, 117, 118, 119, 120, 121, 126, 127, 128, 129, 130, 131, 132, 133, 134, 135, 136, 137] (by decide +kernel) (by decide +kernel)
set_option maxRecDepth 20000 in
theorem gX4_fault_X4_tries : GoodIn wsX4_fault (wsV RX4 158 RX4 yX4_tries wsX4_tries) := goodIn_app (goodIn_of _ (by decide +kernel)) ggX4_fault_X4_tries
set_option maxRecDepth 20000 in
theorem ggX4_fault_X4_back : GoodIn wsX4_fault wsX4_back := goodIn_r _ [125, 12, 11, 126, 127, 128, 129, 130, 131, 132, 133, 134, 135, 136, 137] (by decide +kernel) (by decide +kernel)
set_option maxRecDepth 20000 in
theorem gX4_fault_X4_back : GoodIn wsX4_fault (wsV RX4 125 RX4 yX4_back wsX4_back) := goodIn_app (goodIn_of _ (by decide +kernel)) ggX4_fault_X4_back
theorem dX4_fault_0 : decode cX4_fault 0 = .ok (.iload_n 1, 1) := by decide +kernel
theorem dX4_fault_1 : decode cX4_fault 1 = .ok (.iconst 0, 1) := by decide +kernel
theorem dX4_fault_2 : decode cX4_fault 2 = .ok (.iconst 1, 1) := by decide +kernel
theorem dX4_fault_3 : decode cX4_fault 3 = .ok (.invokestatic 32, 3) := by decide +kernel
theorem dX4_fault_6 : decode cX4_fault 6 = .ok (.ifCond .ne 5, 3) := by decide +kernel
theorem dX4_fault_9 : decode cX4_fault 9 = .ok (.iconst (-1), 1) := by decide +kernel
theorem dX4_fault_10 : decode cX4_fault 10 = .ok (.ireturn, 1) := by decide +kernel
theorem dX4_fault_11 : decode cX4_fault 11 = .ok (.aload_n 0, 1) := by decide +kernel
theorem dX4_fault_12 : decode cX4_fault 12 = .ok (.invokevirtual 48, 3) := by decide +kernel
theorem dX4_fault_15 : decode cX4_fault 15 = .ok (.aload_n 0, 1) := by decide +kernel
theorem dX4_fault_16 : decode cX4_fault 16 = .ok (.invokevirtual 158, 3) := by decide +kernel
theorem dX4_fault_19 : decode cX4_fault 19 = .ok (.aload_n 0, 1) := by decide +kernel
theorem dX4_fault_20 : decode cX4_fault 20 = .ok (.invokevirtual 125, 3) := by decide +kernel
theorem dX4_fault_23 : decode cX4_fault 23 = .ok (.aload_n 0, 1) := by decide +kernel
theorem dX4_fault_24 : decode cX4_fault 24 = .ok (.getfield 143, 3) := by decide +kernel
theorem dX4_fault_27 : decode cX4_fault 27 = .ok (.ifCond .ne 8, 3) := by decide +kernel
theorem dX4_fault_30 : decode cX4_fault 30 = .ok (.bipush (-4), 2) := by decide +kernel
theorem dX4_fault_32 : decode cX4_fault 32 = .ok (.goto 18, 3) := by decide +kernel
theorem dX4_fault_35 : decode cX4_fault 35 = .ok (.iload_n 1, 1) := by decide +kernel
theorem dX4_fault_36 : decode cX4_fault 36 = .ok (.ifCond .ne 10, 3) := by decide +kernel
theorem dX4_fault_39 : decode cX4_fault 39 = .ok (.aload_n 0, 1) := by decide +kernel
theorem dX4_fault_40 : decode cX4_fault 40 = .ok (.getfield 152, 3) := by decide +kernel
theorem dX4_fault_43 : decode cX4_fault 43 = .ok (.goto 7, 3) := by decide +kernel
theorem dX4_fault_46 : decode cX4_fault 46 = .ok (.aload_n 0, 1) := by decide +kernel
theorem dX4_fault_47 : decode cX4_fault 47 = .ok (.getfield 143, 3) := by decide +kernel
theorem dX4_fault_50 : decode cX4_fault 50 = .ok (.ireturn, 1) := by decide +kernel
set_option maxRecDepth 20000 in
theorem ggX4_play_X4_copy : GoodIn wsX4_play wsX4_copy := goodIn_r _ [7, 8, 9, 133, 134, 135, 136, 137, 138, 139, 140, 141, 142, 143, 144] (by decide +kernel) (by decide +kernel)
set_option maxRecDepth 20000 in
theorem gX4_play_X4_copy : GoodIn wsX4_play (wsV RX4 48 RX4 yX4_copy wsX4_copy) := goodIn_app (goodIn_of _ (by decide +kernel)) ggX4_play_X4_copy
set_option maxRecDepth 20000 in
theorem ggX4_play_X4_tries : GoodIn wsX4_play wsX4_tries := goodIn_r _ [13, 14, 2, 1, 15, 16, 17, 18, 19, 6, 20, 21, 22, 23, 24, 25, 26, 27, 28, 29, 30, 31, 32, 33, 34, 35, 36, 37, 9, 38, 39, 40, 41, 42, 43, 44, 45, 46, 47, 48, 49, 50, 51, 52, 53, 54, 55, 56, 57, 58, 59, 60, 61, 62, 63, 64, 65, 66, 67, 68, 69, 70, 71, 72, 73, 74, 75, 76, 77, 78, 79, 80, 81, 82, 83, 84, 85, 86, 87, 88, 89, 90, 91, 92, 93, 94, 95, 96, 97, 98, 99, 100, 101, 102, 103, 104, 105, 106, 107, 108, 109, 110, 111, 112, 113, 114, 115, 116, 117, 118, 119, 120, 121, 133, 134, 135, 136, 137, 138, 139, 140, 141, 142, 143, 144] (by decide +kernel) (by decide +kernel)
set_option maxRecDepth 20000 in
theorem gX4_play_X4_tries : GoodIn wsX4_play (wsV RX4 158 RX4 yX4_tries wsX4_tries) := goodIn_app (goodIn_of _ (by decide +kernel)) ggX4_play_X4_tries
set_option maxRecDepth 20000 in
theorem ggX4_play_X4_back : GoodIn wsX4_play wsX4_back := goodIn_r _ [125, 9, 8, 133, 134, 135, 136, 137, 138, 139, 140, 141, 142, 143, 144] (by decide +kernel) (by decide +kernel)
set_option maxRecDepth 20000 in
theorem gX4_play_X4_back : GoodIn wsX4_play (wsV RX4 125 RX4 yX4_back wsX4_back) := goodIn_app (goodIn_of _ (by decide +kernel)) ggX4_play_X4_back
set_option maxRecDepth 20000 in
theorem ggX4_play_X4_recorded : GoodIn wsX4_play wsX4_recorded := goodIn_r _ [129, 130, 131, 8, 132, 133, 134, 135, 136, 137, 138, 139, 140, 141, 142, 143, 144] (by decide +kernel) (by decide +kernel)
set_option maxRecDepth 20000 in
theorem gX4_play_X4_recorded : GoodIn wsX4_play (wsV RX4 55 RX4 yX4_recorded wsX4_recorded) := goodIn_app (goodIn_of _ (by decide +kernel)) ggX4_play_X4_recorded
theorem dX4_play_0 : decode cX4_play 0 = .ok (.aload_n 0, 1) := by decide +kernel
theorem dX4_play_1 : decode cX4_play 1 = .ok (.invokevirtual 48, 3) := by decide +kernel
theorem dX4_play_4 : decode cX4_play 4 = .ok (.aload_n 0, 1) := by decide +kernel
theorem dX4_play_5 : decode cX4_play 5 = .ok (.invokevirtual 158, 3) := by decide +kernel
theorem dX4_play_8 : decode cX4_play 8 = .ok (.aload_n 0, 1) := by decide +kernel
theorem dX4_play_9 : decode cX4_play 9 = .ok (.getfield 143, 3) := by decide +kernel
theorem dX4_play_12 : decode cX4_play 12 = .ok (.ifCond .eq 10, 3) := by decide +kernel
theorem dX4_play_15 : decode cX4_play 15 = .ok (.aload_n 0, 1) := by decide +kernel
theorem dX4_play_16 : decode cX4_play 16 = .ok (.invokevirtual 125, 3) := by decide +kernel
theorem dX4_play_19 : decode cX4_play 19 = .ok (.bipush (-2), 2) := by decide +kernel
theorem dX4_play_21 : decode cX4_play 21 = .ok (.ireturn, 1) := by decide +kernel
theorem dX4_play_22 : decode cX4_play 22 = .ok (.aload_n 0, 1) := by decide +kernel
theorem dX4_play_23 : decode cX4_play 23 = .ok (.aload_n 0, 1) := by decide +kernel
theorem dX4_play_24 : decode cX4_play 24 = .ok (.getfield 149, 3) := by decide +kernel
theorem dX4_play_27 : decode cX4_play 27 = .ok (.invokevirtual 55, 3) := by decide +kernel
theorem dX4_play_30 : decode cX4_play 30 = .ok (.ireturn, 1) := by decide +kernel
