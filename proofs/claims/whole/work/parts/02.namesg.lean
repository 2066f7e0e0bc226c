theorem dX5_isPair_38 : decode cX5_isPair 38 = .ok (.iload_n 1, 1) := by decide +kernel
theorem dX5_isPair_39 : decode cX5_isPair 39 = .ok (.iload_n 2, 1) := by decide +kernel
theorem dX5_isPair_40 : decode cX5_isPair 40 = .ok (.if_icmp .eq 7, 3) := by decide +kernel
theorem dX5_isPair_43 : decode cX5_isPair 43 = .ok (.iconst 1, 1) := by decide +kernel
theorem dX5_isPair_44 : decode cX5_isPair 44 = .ok (.goto 4, 3) := by decide +kernel
theorem dX5_isPair_47 : decode cX5_isPair 47 = .ok (.iconst 0, 1) := by decide +kernel
theorem dX5_isPair_48 : decode cX5_isPair 48 = .ok (.ireturn, 1) := by decide +kernel
theorem dX5_change_0 : decode cX5_change 0 = .ok (.aload_n 0, 1) := by decide +kernel
theorem dX5_change_1 : decode cX5_change 1 = .ok (.getfield 32, 3) := by decide +kernel
theorem dX5_change_4 : decode cX5_change 4 = .ok (.iload_n 1, 1) := by decide +kernel
theorem dX5_change_5 : decode cX5_change 5 = .ok (.iaload, 1) := by decide +kernel
theorem dX5_change_6 : decode cX5_change 6 = .ok (.istore_n 3, 1) := by decide +kernel
theorem dX5_change_7 : decode cX5_change 7 = .ok (.aload_n 0, 1) := by decide +kernel
theorem dX5_change_8 : decode cX5_change 8 = .ok (.getfield 32, 3) := by decide +kernel
theorem dX5_change_11 : decode cX5_change 11 = .ok (.iload_n 1, 1) := by decide +kernel
theorem dX5_change_12 : decode cX5_change 12 = .ok (.aload_n 0, 1) := by decide +kernel
theorem dX5_change_13 : decode cX5_change 13 = .ok (.getfield 32, 3) := by decide +kernel
theorem dX5_change_16 : decode cX5_change 16 = .ok (.iload_n 2, 1) := by decide +kernel
theorem dX5_change_17 : decode cX5_change 17 = .ok (.iaload, 1) := by decide +kernel
theorem dX5_change_18 : decode cX5_change 18 = .ok (.iastore, 1) := by decide +kernel
theorem dX5_change_19 : decode cX5_change 19 = .ok (.aload_n 0, 1) := by decide +kernel
theorem dX5_change_20 : decode cX5_change 20 = .ok (.getfield 32, 3) := by decide +kernel
theorem dX5_change_23 : decode cX5_change 23 = .ok (.iload_n 2, 1) := by decide +kernel
theorem dX5_change_24 : decode cX5_change 24 = .ok (.iload_n 3, 1) := by decide +kernel
theorem dX5_change_25 : decode cX5_change 25 = .ok (.iastore, 1) := by decide +kernel
theorem dX5_change_26 : decode cX5_change 26 = .ok (.return_, 1) := by decide +kernel
set_option maxRecDepth 20000 in
theorem ggX5_exchange_X5_isPair : GoodIn wsX5_exchange wsX5_isPair := goodIn_r _ [6, 7, 8, 9, 5, 10, 16, 17, 18, 19, 20, 21, 22, 23, 24, 25, 26, 27, 28, 29, 30, 31, 32, 33, 34] (by decide +kernel) (by decide +kernel)
set_option maxRecDepth 20000 in
theorem gX5_exchange_X5_isPair : GoodIn wsX5_exchange (wsV RX5 75 RX5 yX5_isPair wsX5_isPair) := goodIn_app (goodIn_of _ (by decide +kernel)) ggX5_exchange_X5_isPair
set_option maxRecDepth 20000 in
theorem ggX5_exchange_X5_change : GoodIn wsX5_exchange wsX5_change := goodIn_r _ [14, 15, 16, 17, 18, 19, 20, 21, 22, 23, 24, 25, 26, 27, 28, 29, 30, 31, 32, 33, 34] (by decide +kernel) (by decide +kernel)
set_option maxRecDepth 20000 in
theorem gX5_exchange_X5_change : GoodIn wsX5_exchange (wsV RX5 78 RX5 yX5_change wsX5_change) := goodIn_app (goodIn_of _ (by decide +kernel)) ggX5_exchange_X5_change
theorem dX5_exchange_0 : decode cX5_exchange 0 = .ok (.aload_n 0, 1) := by decide +kernel
theorem dX5_exchange_1 : decode cX5_exchange 1 = .ok (.iconst 0, 1) := by decide +kernel
theorem dX5_exchange_2 : decode cX5_exchange 2 = .ok (.putfield 51, 3) := by decide +kernel
theorem dX5_exchange_5 : decode cX5_exchange 5 = .ok (.aload_n 0, 1) := by decide +kernel
theorem dX5_exchange_6 : decode cX5_exchange 6 = .ok (.iload_n 1, 1) := by decide +kernel
theorem dX5_exchange_7 : decode cX5_exchange 7 = .ok (.iload_n 2, 1) := by decide +kernel
theorem dX5_exchange_8 : decode cX5_exchange 8 = .ok (.invokevirtual 75, 3) := by decide +kernel
theorem dX5_exchange_11 : decode cX5_exchange 11 = .ok (.ifCond .ne 5, 3) := by decide +kernel
theorem dX5_exchange_14 : decode cX5_exchange 14 = .ok (.iconst 0, 1) := by decide +kernel
theorem dX5_exchange_15 : decode cX5_exchange 15 = .ok (.ireturn, 1) := by decide +kernel
theorem dX5_exchange_16 : decode cX5_exchange 16 = .ok (.aload_n 0, 1) := by decide +kernel
theorem dX5_exchange_17 : decode cX5_exchange 17 = .ok (.iload_n 1, 1) := by decide +kernel
theorem dX5_exchange_18 : decode cX5_exchange 18 = .ok (.iload_n 2, 1) := by decide +kernel
theorem dX5_exchange_19 : decode cX5_exchange 19 = .ok (.invokevirtual 78, 3) := by decide +kernel
theorem dX5_exchange_22 : decode cX5_exchange 22 = .ok (.iconst 1, 1) := by decide +kernel
theorem dX5_exchange_23 : decode cX5_exchange 23 = .ok (.ireturn, 1) := by decide +kernel
set_option maxRecDepth 20000 in
theorem ggX5_number_X5_isIn : GoodIn wsX5_number wsX5_isIn := goodIn_r _ [7] (by decide +kernel) (by decide +kernel)
set_option maxRecDepth 20000 in
theorem gX5_number_X5_isIn : GoodIn wsX5_number (va_wsS RX5 54 yX5_isIn wsX5_isIn) := goodIn_app (goodIn_of _ (by decide +kernel)) ggX5_number_X5_isIn
theorem dX5_number_0 : decode cX5_number 0 = .ok (.aload_n 0, 1) := by decide +kernel
theorem dX5_number_1 : decode cX5_number 1 = .ok (.iconst 0, 1) := by decide +kernel
theorem dX5_number_2 : decode cX5_number 2 = .ok (.putfield 51, 3) := by decide +kernel
theorem dX5_number_5 : decode cX5_number 5 = .ok (.iload_n 1, 1) := by decide +kernel
theorem dX5_number_6 : decode cX5_number 6 = .ok (.iconst 0, 1) := by decide +kernel
theorem dX5_number_7 : decode cX5_number 7 = .ok (.aload_n 0, 1) := by decide +kernel
theorem dX5_number_8 : decode cX5_number 8 = .ok (.getfield 16, 3) := by decide +kernel
theorem dX5_number_11 : decode cX5_number 11 = .ok (.aload_n 0, 1) := by decide +kernel
theorem dX5_number_12 : decode cX5_number 12 = .ok (.getfield 16, 3) := by decide +kernel
theorem dX5_number_15 : decode cX5_number 15 = .ok (.imul, 1) := by decide +kernel
theorem dX5_number_16 : decode cX5_number 16 = .ok (.iconst 1, 1) := by decide +kernel
theorem dX5_number_17 : decode cX5_number 17 = .ok (.isub, 1) := by decide +kernel
theorem dX5_number_18 : decode cX5_number 18 = .ok (.invokestatic 54, 3) := by decide +kernel
theorem dX5_number_21 : decode cX5_number 21 = .ok (.ifCond .eq 12, 3) := by decide +kernel
theorem dX5_number_24 : decode cX5_number 24 = .ok (.aload_n 0, 1) := by decide +kernel
theorem dX5_number_25 : decode cX5_number 25 = .ok (.getfield 32, 3) := by decide +kernel
theorem dX5_number_28 : decode cX5_number 28 = .ok (.iload_n 1, 1) := by decide +kernel
theorem dX5_number_29 : decode cX5_number 29 = .ok (.iaload, 1) := by decide +kernel
theorem dX5_number_30 : decode cX5_number 30 = .ok (.goto 4, 3) := by decide +kernel
theorem dX5_number_33 : decode cX5_number 33 = .ok (.iconst (-1), 1) := by decide +kernel
theorem dX5_number_34 : decode cX5_number 34 = .ok (.ireturn, 1) := by decide +kernel
theorem dX5_round_0 : decode cX5_round 0 = .ok (.iload_n 1, 1) := by decide +kernel
theorem dX5_round_1 : decode cX5_round 1 = .ok (.invokestatic 82, 3) := by decide +kernel
theorem dX5_round_4 : decode cX5_round 4 = .ok (.istore_n 2, 1) := by decide +kernel
theorem dX5_round_5 : decode cX5_round 5 = .ok (.iload_n 2, 1) := by decide +kernel
theorem dX5_round_6 : decode cX5_round 6 = .ok (.aload_n 0, 1) := by decide +kernel
theorem dX5_round_7 : decode cX5_round 7 = .ok (.getfield 16, 3) := by decide +kernel
theorem dX5_round_10 : decode cX5_round 10 = .ok (.iload_n 2, 1) := by decide +kernel
theorem dX5_round_11 : decode cX5_round 11 = .ok (.isub, 1) := by decide +kernel
theorem dX5_round_12 : decode cX5_round 12 = .ok (.invokestatic 66, 3) := by decide +kernel
theorem dX5_round_15 : decode cX5_round 15 = .ok (.ireturn, 1) := by decide +kernel
set_option maxRecDepth 20000 in
theorem ggX5_costNow_X5_round : GoodIn wsX5_costNow wsX5_round := goodIn_r _ [11, 12, 13, 5, 14, 1, 15, 16, 17, 18, 19, 20, 21, 22, 23, 24, 25, 26, 27, 28, 29, 30, 31, 32, 33, 34, 35, 36] (by decide +kernel) (by decide +kernel)
set_option maxRecDepth 20000 in
theorem gX5_costNow_X5_round : GoodIn wsX5_costNow (wsV RX5 86 RX5 yX5_round wsX5_round) := goodIn_app (goodIn_of _ (by decide +kernel)) ggX5_costNow_X5_round
theorem dX5_costNow_0 : decode cX5_costNow 0 = .ok (.lconst 0, 1) := by decide +kernel
theorem dX5_costNow_1 : decode cX5_costNow 1 = .ok (.lstore_n 1, 1) := by decide +kernel
theorem dX5_costNow_2 : decode cX5_costNow 2 = .ok (.iconst 0, 1) := by decide +kernel
theorem dX5_costNow_3 : decode cX5_costNow 3 = .ok (.istore_n 3, 1) := by decide +kernel
theorem dX5_costNow_4 : decode cX5_costNow 4 = .ok (.iload_n 3, 1) := by decide +kernel
theorem dX5_costNow_5 : decode cX5_costNow 5 = .ok (.aload_n 0, 1) := by decide +kernel
theorem dX5_costNow_6 : decode cX5_costNow 6 = .ok (.getfield 16, 3) := by decide +kernel
theorem dX5_costNow_9 : decode cX5_costNow 9 = .ok (.aload_n 0, 1) := by decide +kernel
theorem dX5_costNow_10 : decode cX5_costNow 10 = .ok (.getfield 16, 3) := by decide +kernel
theorem dX5_costNow_13 : decode cX5_costNow 13 = .ok (.imul, 1) := by decide +kernel
theorem dX5_costNow_14 : decode cX5_costNow 14 = .ok (.if_icmp .ge 111, 3) := by decide +kernel
theorem dX5_costNow_17 : decode cX5_costNow 17 = .ok (.iconst 0, 1) := by decide +kernel
theorem dX5_costNow_18 : decode cX5_costNow 18 = .ok (.istore 4, 2) := by decide +kernel
theorem dX5_costNow_20 : decode cX5_costNow 20 = .ok (.iload 4, 2) := by decide +kernel
theorem dX5_costNow_22 : decode cX5_costNow 22 = .ok (.iload_n 3, 1) := by decide +kernel
theorem dX5_costNow_23 : decode cX5_costNow 23 = .ok (.if_icmp .ge 96, 3) := by decide +kernel
theorem dX5_costNow_26 : decode cX5_costNow 26 = .ok (.aload_n 0, 1) := by decide +kernel
theorem dX5_costNow_27 : decode cX5_costNow 27 = .ok (.iload_n 3, 1) := by decide +kernel
theorem dX5_costNow_28 : decode cX5_costNow 28 = .ok (.aload_n 0, 1) := by decide +kernel
theorem dX5_costNow_29 : decode cX5_costNow 29 = .ok (.getfield 16, 3) := by decide +kernel
theorem dX5_costNow_32 : decode cX5_costNow 32 = .ok (.irem, 1) := by decide +kernel
theorem dX5_costNow_33 : decode cX5_costNow 33 = .ok (.iload 4, 2) := by decide +kernel
theorem dX5_costNow_35 : decode cX5_costNow 35 = .ok (.aload_n 0, 1) := by decide +kernel
theorem dX5_costNow_36 : decode cX5_costNow 36 = .ok (.getfield 16, 3) := by decide +kernel
theorem dX5_costNow_39 : decode cX5_costNow 39 = .ok (.irem, 1) := by decide +kernel
theorem dX5_costNow_40 : decode cX5_costNow 40 = .ok (.isub, 1) := by decide +kernel
theorem dX5_costNow_41 : decode cX5_costNow 41 = .ok (.invokevirtual 86, 3) := by decide +kernel
theorem dX5_costNow_44 : decode cX5_costNow 44 = .ok (.istore 5, 2) := by decide +kernel
theorem dX5_costNow_46 : decode cX5_costNow 46 = .ok (.aload_n 0, 1) := by decide +kernel
theorem dX5_costNow_47 : decode cX5_costNow 47 = .ok (.iload_n 3, 1) := by decide +kernel
theorem dX5_costNow_48 : decode cX5_costNow 48 = .ok (.aload_n 0, 1) := by decide +kernel
theorem dX5_costNow_49 : decode cX5_costNow 49 = .ok (.getfield 16, 3) := by decide +kernel
theorem dX5_costNow_52 : decode cX5_costNow 52 = .ok (.idiv, 1) := by decide +kernel
theorem dX5_costNow_53 : decode cX5_costNow 53 = .ok (.iload 4, 2) := by decide +kernel
theorem dX5_costNow_55 : decode cX5_costNow 55 = .ok (.aload_n 0, 1) := by decide +kernel
theorem dX5_costNow_56 : decode cX5_costNow 56 = .ok (.getfield 16, 3) := by decide +kernel
theorem dX5_costNow_59 : decode cX5_costNow 59 = .ok (.idiv, 1) := by decide +kernel
theorem dX5_costNow_60 : decode cX5_costNow 60 = .ok (.isub, 1) := by decide +kernel
theorem dX5_costNow_61 : decode cX5_costNow 61 = .ok (.invokevirtual 86, 3) := by decide +kernel
theorem dX5_costNow_64 : decode cX5_costNow 64 = .ok (.istore 6, 2) := by decide +kernel
theorem dX5_costNow_66 : decode cX5_costNow 66 = .ok (.lload_n 1, 1) := by decide +kernel
theorem dX5_costNow_67 : decode cX5_costNow 67 = .ok (.aload_n 0, 1) := by decide +kernel
theorem dX5_costNow_68 : decode cX5_costNow 68 = .ok (.getfield 16, 3) := by decide +kernel
theorem dX5_costNow_71 : decode cX5_costNow 71 = .ok (.aload_n 0, 1) := by decide +kernel
theorem dX5_costNow_72 : decode cX5_costNow 72 = .ok (.getfield 16, 3) := by decide +kernel
theorem dX5_costNow_75 : decode cX5_costNow 75 = .ok (.imul, 1) := by decide +kernel
theorem dX5_costNow_76 : decode cX5_costNow 76 = .ok (.aload_n 0, 1) := by decide +kernel
theorem dX5_costNow_77 : decode cX5_costNow 77 = .ok (.getfield 32, 3) := by decide +kernel
theorem dX5_costNow_80 : decode cX5_costNow 80 = .ok (.iload_n 3, 1) := by decide +kernel
theorem dX5_costNow_81 : decode cX5_costNow 81 = .ok (.iaload, 1) := by decide +kernel
theorem dX5_costNow_82 : decode cX5_costNow 82 = .ok (.aload_n 0, 1) := by decide +kernel
theorem dX5_costNow_83 : decode cX5_costNow 83 = .ok (.getfield 32, 3) := by decide +kernel
theorem dX5_costNow_86 : decode cX5_costNow 86 = .ok (.iload 4, 2) := by decide +kernel
theorem dX5_costNow_88 : decode cX5_costNow 88 = .ok (.iaload, 1) := by decide +kernel
theorem dX5_costNow_89 : decode cX5_costNow 89 = .ok (.invokestatic 72, 3) := by decide +kernel
theorem dX5_costNow_92 : decode cX5_costNow 92 = .ok (.isub, 1) := by decide +kernel
theorem dX5_costNow_93 : decode cX5_costNow 93 = .ok (.i2l, 1) := by decide +kernel
theorem dX5_costNow_94 : decode cX5_costNow 94 = .ok (.sipush 1000, 3) := by decide +kernel
theorem dX5_costNow_97 : decode cX5_costNow 97 = .ok (.iload 5, 2) := by decide +kernel
theorem dX5_costNow_99 : decode cX5_costNow 99 = .ok (.iload 5, 2) := by decide +kernel
theorem dX5_costNow_101 : decode cX5_costNow 101 = .ok (.imul, 1) := by decide +kernel
theorem dX5_costNow_102 : decode cX5_costNow 102 = .ok (.iload 6, 2) := by decide +kernel
theorem dX5_costNow_104 : decode cX5_costNow 104 = .ok (.iload 6, 2) := by decide +kernel
theorem dX5_costNow_106 : decode cX5_costNow 106 = .ok (.imul, 1) := by decide +kernel
theorem dX5_costNow_107 : decode cX5_costNow 107 = .ok (.iadd, 1) := by decide +kernel
theorem dX5_costNow_108 : decode cX5_costNow 108 = .ok (.idiv, 1) := by decide +kernel
theorem dX5_costNow_109 : decode cX5_costNow 109 = .ok (.i2l, 1) := by decide +kernel
theorem dX5_costNow_110 : decode cX5_costNow 110 = .ok (.lmul, 1) := by decide +kernel
theorem dX5_costNow_111 : decode cX5_costNow 111 = .ok (.ladd, 1) := by decide +kernel
theorem dX5_costNow_112 : decode cX5_costNow 112 = .ok (.lstore_n 1, 1) := by decide +kernel
theorem dX5_costNow_113 : decode cX5_costNow 113 = .ok (.iinc 4 1, 3) := by decide +kernel
theorem dX5_costNow_116 : decode cX5_costNow 116 = .ok (.goto (-96), 3) := by decide +kernel
theorem dX5_costNow_119 : decode cX5_costNow 119 = .ok (.iinc 3 1, 3) := by decide +kernel
theorem dX5_costNow_122 : decode cX5_costNow 122 = .ok (.goto (-118), 3) := by decide +kernel
theorem dX5_costNow_125 : decode cX5_costNow 125 = .ok (.lload_n 1, 1) := by decide +kernel
theorem dX5_costNow_126 : decode cX5_costNow 126 = .ok (.lreturn, 1) := by decide +kernel
set_option maxRecDepth 20000 in
theorem ggX5_cost_X5_costNow : GoodIn wsX5_cost wsX5_costNow := goodIn_r _ [6, 7, 8, 9, 10, 11, 12, 13, 14, 15, 5, 16, 17, 18, 19, 20, 21, 22, 23, 24, 25, 26, 27, 28, 29, 30, 31, 32, 33, 34, 35, 36, 37, 38, 39, 40, 41] (by decide +kernel) (by decide +kernel)
set_option maxRecDepth 20000 in
theorem gX5_cost_X5_costNow : GoodIn wsX5_cost (wsV RX5 89 RX5 yX5_costNow wsX5_costNow) := goodIn_app (goodIn_of _ (by decide +kernel)) ggX5_cost_X5_costNow
theorem dX5_cost_0 : decode cX5_cost 0 = .ok (.aload_n 0, 1) := by decide +kernel
theorem dX5_cost_1 : decode cX5_cost 1 = .ok (.iconst 0, 1) := by decide +kernel
theorem dX5_cost_2 : decode cX5_cost 2 = .ok (.putfield 51, 3) := by decide +kernel
theorem dX5_cost_5 : decode cX5_cost 5 = .ok (.aload_n 0, 1) := by decide +kernel
theorem dX5_cost_6 : decode cX5_cost 6 = .ok (.invokevirtual 89, 3) := by decide +kernel
theorem dX5_cost_9 : decode cX5_cost 9 = .ok (.lreturn, 1) := by decide +kernel
set_option maxRecDepth 20000 in
theorem ggX5_worthOf_X5_costNow : GoodIn wsX5_worthOf wsX5_costNow := goodIn_r _ [5, 6, 7, 8, 9, 10, 11, 12, 13, 14, 4, 15, 16, 17, 18, 19, 20, 21, 26, 27, 28, 29, 30, 31, 32, 33, 34, 35, 36, 37, 38, 39, 40, 41, 42, 43, 44] (by decide +kernel) (by decide +kernel)
set_option maxRecDepth 20000 in
theorem gX5_worthOf_X5_costNow : GoodIn wsX5_worthOf (wsV RX5 89 RX5 yX5_costNow wsX5_costNow) := goodIn_app (goodIn_of _ (by decide +kernel)) ggX5_worthOf_X5_costNow
set_option maxRecDepth 20000 in
theorem ggX5_worthOf_X5_change : GoodIn wsX5_worthOf wsX5_change := goodIn_r _ [25, 7, 26, 27, 28, 29, 30, 31, 32, 33, 34, 35, 36, 37, 38, 39, 40, 41, 42, 43, 44] (by decide +kernel) (by decide +kernel)
set_option maxRecDepth 20000 in
theorem gX5_worthOf_X5_change : GoodIn wsX5_worthOf (wsV RX5 78 RX5 yX5_change wsX5_change) := goodIn_app (goodIn_of _ (by decide +kernel)) ggX5_worthOf_X5_change
theorem dX5_worthOf_0 : decode cX5_worthOf 0 = .ok (.aload_n 0, 1) := by decide +kernel
theorem dX5_worthOf_1 : decode cX5_worthOf 1 = .ok (.invokevirtual 89, 3) := by decide +kernel
theorem dX5_worthOf_4 : decode cX5_worthOf 4 = .ok (.lstore_n 3, 1) := by decide +kernel
theorem dX5_worthOf_5 : decode cX5_worthOf 5 = .ok (.aload_n 0, 1) := by decide +kernel
theorem dX5_worthOf_6 : decode cX5_worthOf 6 = .ok (.iload_n 1, 1) := by decide +kernel
theorem dX5_worthOf_7 : decode cX5_worthOf 7 = .ok (.iload_n 2, 1) := by decide +kernel
theorem dX5_worthOf_8 : decode cX5_worthOf 8 = .ok (.invokevirtual 78, 3) := by decide +kernel
theorem dX5_worthOf_11 : decode cX5_worthOf 11 = .ok (.aload_n 0, 1) := by decide +kernel
theorem dX5_worthOf_12 : decode cX5_worthOf 12 = .ok (.invokevirtual 89, 3) := by decide +kernel
theorem dX5_worthOf_15 : decode cX5_worthOf 15 = .ok (.lstore 5, 2) := by decide +kernel
theorem dX5_worthOf_17 : decode cX5_worthOf 17 = .ok (.aload_n 0, 1) := by decide +kernel
theorem dX5_worthOf_18 : decode cX5_worthOf 18 = .ok (.iload_n 1, 1) := by decide +kernel
theorem dX5_worthOf_19 : decode cX5_worthOf 19 = .ok (.iload_n 2, 1) := by decide +kernel
theorem dX5_worthOf_20 : decode cX5_worthOf 20 = .ok (.invokevirtual 78, 3) := by decide +kernel
theorem dX5_worthOf_23 : decode cX5_worthOf 23 = .ok (.lload_n 3, 1) := by decide +kernel
theorem dX5_worthOf_24 : decode cX5_worthOf 24 = .ok (.lload 5, 2) := by decide +kernel
theorem dX5_worthOf_26 : decode cX5_worthOf 26 = .ok (.lsub, 1) := by decide +kernel
theorem dX5_worthOf_27 : decode cX5_worthOf 27 = .ok (.lreturn, 1) := by decide +kernel
set_option maxRecDepth 20000 in
theorem ggX5_worth_X5_isPair : GoodIn wsX5_worth wsX5_isPair := goodIn_r _ [6, 7, 8, 9, 5, 10, 38, 39, 40, 41, 42, 43, 44, 45, 46, 47, 48, 49, 50, 51, 52, 53, 54, 55, 56] (by decide +kernel) (by decide +kernel)
set_option maxRecDepth 20000 in
theorem gX5_worth_X5_isPair : GoodIn wsX5_worth (wsV RX5 75 RX5 yX5_isPair wsX5_isPair) := goodIn_app (goodIn_of _ (by decide +kernel)) ggX5_worth_X5_isPair
set_option maxRecDepth 20000 in
theorem ggX5_worth_X5_worthOf : GoodIn wsX5_worth wsX5_worthOf := goodIn_r _ [14, 15, 16, 17, 5, 18, 7, 19, 20, 21, 22, 23, 24, 25, 26, 27, 28, 29, 30, 31, 32, 33, 34, 35, 36, 37, 38, 39, 40, 41, 42, 43, 44, 45, 46, 47, 48, 49, 50, 51, 52, 53, 54, 55, 56] (by decide +kernel) (by decide +kernel)
set_option maxRecDepth 20000 in
theorem gX5_worth_X5_worthOf : GoodIn wsX5_worth (wsV RX5 93 RX5 yX5_worthOf wsX5_worthOf) := goodIn_app (goodIn_of _ (by decide +kernel)) ggX5_worth_X5_worthOf
theorem dX5_worth_0 : decode cX5_worth 0 = .ok (.aload_n 0, 1) := by decide +kernel
theorem dX5_worth_1 : decode cX5_worth 1 = .ok (.aload_n 0, 1) := by decide +kernel
theorem dX5_worth_2 : decode cX5_worth 2 = .ok (.iload_n 1, 1) := by decide +kernel
theorem dX5_worth_3 : decode cX5_worth 3 = .ok (.iload_n 2, 1) := by decide +kernel
theorem dX5_worth_4 : decode cX5_worth 4 = .ok (.invokevirtual 75, 3) := by decide +kernel
theorem dX5_worth_7 : decode cX5_worth 7 = .ok (.ifCond .eq 7, 3) := by decide +kernel
theorem dX5_worth_10 : decode cX5_worth 10 = .ok (.iconst 0, 1) := by decide +kernel
theorem dX5_worth_11 : decode cX5_worth 11 = .ok (.goto 4, 3) := by decide +kernel
theorem dX5_worth_14 : decode cX5_worth 14 = .ok (.iconst 1, 1) := by decide +kernel
theorem dX5_worth_15 : decode cX5_worth 15 = .ok (.putfield 51, 3) := by decide +kernel
theorem dX5_worth_18 : decode cX5_worth 18 = .ok (.aload_n 0, 1) := by decide +kernel
theorem dX5_worth_19 : decode cX5_worth 19 = .ok (.getfield 51, 3) := by decide +kernel
theorem dX5_worth_22 : decode cX5_worth 22 = .ok (.ifCond .le 7, 3) := by decide +kernel
theorem dX5_worth_25 : decode cX5_worth 25 = .ok (.lconst 0, 1) := by decide +kernel
theorem dX5_worth_26 : decode cX5_worth 26 = .ok (.goto 9, 3) := by decide +kernel
theorem dX5_worth_29 : decode cX5_worth 29 = .ok (.aload_n 0, 1) := by decide +kernel
theorem dX5_worth_30 : decode cX5_worth 30 = .ok (.iload_n 1, 1) := by decide +kernel
theorem dX5_worth_31 : decode cX5_worth 31 = .ok (.iload_n 2, 1) := by decide +kernel
theorem dX5_worth_32 : decode cX5_worth 32 = .ok (.invokevirtual 93, 3) := by decide +kernel
theorem dX5_worth_35 : decode cX5_worth 35 = .ok (.lreturn, 1) := by decide +kernel
set_option maxRecDepth 20000 in
theorem ggX5_even_X5_isIn : GoodIn wsX5_even wsX5_isIn := goodIn_r _ [6] (by decide +kernel) (by decide +kernel)
set_option maxRecDepth 20000 in
theorem gX5_even_X5_isIn : GoodIn wsX5_even (va_wsS RX5 54 yX5_isIn wsX5_isIn) := goodIn_app (goodIn_of _ (by decide +kernel)) ggX5_even_X5_isIn
set_option maxRecDepth 20000 in
theorem ggX5_even_X5_worthOf : GoodIn wsX5_even wsX5_worthOf := goodIn_r _ [10, 11, 12, 13, 5, 14, 2, 15, 16, 17, 18, 19, 20, 21, 22, 23, 24, 25, 26, 27, 28, 29, 30, 31, 32, 33, 34, 35, 36, 37, 38, 39, 40, 41, 42, 43, 44, 45, 46, 47, 48, 49, 50, 51, 52] (by decide +kernel) (by decide +kernel)
set_option maxRecDepth 20000 in
theorem gX5_even_X5_worthOf : GoodIn wsX5_even (wsV RX5 93 RX5 yX5_worthOf wsX5_worthOf) := goodIn_app (goodIn_of _ (by decide +kernel)) ggX5_even_X5_worthOf
set_option maxRecDepth 20000 in
theorem ggX5_even_X5_change : GoodIn wsX5_even wsX5_change := goodIn_r _ [33, 15, 34, 35, 36, 37, 38, 39, 40, 41, 42, 43, 44, 45, 46, 47, 48, 49, 50, 51, 52] (by decide +kernel) (by decide +kernel)
set_option maxRecDepth 20000 in
theorem gX5_even_X5_change : GoodIn wsX5_even (wsV RX5 78 RX5 yX5_change wsX5_change) := goodIn_app (goodIn_of _ (by decide +kernel)) ggX5_even_X5_change
theorem dX5_even_0 : decode cX5_even 0 = .ok (.aload_n 0, 1) := by decide +kernel
theorem dX5_even_1 : decode cX5_even 1 = .ok (.iconst 0, 1) := by decide +kernel
theorem dX5_even_2 : decode cX5_even 2 = .ok (.putfield 51, 3) := by decide +kernel
theorem dX5_even_5 : decode cX5_even 5 = .ok (.iload_n 1, 1) := by decide +kernel
theorem dX5_even_6 : decode cX5_even 6 = .ok (.iconst 0, 1) := by decide +kernel
theorem dX5_even_7 : decode cX5_even 7 = .ok (.bipush 100, 2) := by decide +kernel
theorem dX5_even_9 : decode cX5_even 9 = .ok (.invokestatic 54, 3) := by decide +kernel
theorem dX5_even_12 : decode cX5_even 12 = .ok (.ifCond .eq 11, 3) := by decide +kernel
theorem dX5_even_15 : decode cX5_even 15 = .ok (.aload_n 0, 1) := by decide +kernel
theorem dX5_even_16 : decode cX5_even 16 = .ok (.getfield 16, 3) := by decide +kernel
theorem dX5_even_19 : decode cX5_even 19 = .ok (.iconst 5, 1) := by decide +kernel
theorem dX5_even_20 : decode cX5_even 20 = .ok (.if_icmp .le 5, 3) := by decide +kernel
theorem dX5_even_23 : decode cX5_even 23 = .ok (.iconst (-1), 1) := by decide +kernel
theorem dX5_even_24 : decode cX5_even 24 = .ok (.ireturn, 1) := by decide +kernel
theorem dX5_even_25 : decode cX5_even 25 = .ok (.iconst 0, 1) := by decide +kernel
theorem dX5_even_26 : decode cX5_even 26 = .ok (.istore_n 2, 1) := by decide +kernel
theorem dX5_even_27 : decode cX5_even 27 = .ok (.iconst 1, 1) := by decide +kernel
theorem dX5_even_28 : decode cX5_even 28 = .ok (.istore_n 3, 1) := by decide +kernel
theorem dX5_even_29 : decode cX5_even 29 = .ok (.iload_n 2, 1) := by decide +kernel
theorem dX5_even_30 : decode cX5_even 30 = .ok (.iload_n 1, 1) := by decide +kernel
theorem dX5_even_31 : decode cX5_even 31 = .ok (.if_icmp .ge 131, 3) := by decide +kernel
theorem dX5_even_34 : decode cX5_even 34 = .ok (.iload_n 3, 1) := by decide +kernel
theorem dX5_even_35 : decode cX5_even 35 = .ok (.ifCond .eq 127, 3) := by decide +kernel
theorem dX5_even_38 : decode cX5_even 38 = .ok (.lconst 0, 1) := by decide +kernel
theorem dX5_even_39 : decode cX5_even 39 = .ok (.lstore 4, 2) := by decide +kernel
theorem dX5_even_41 : decode cX5_even 41 = .ok (.iconst (-1), 1) := by decide +kernel
theorem dX5_even_42 : decode cX5_even 42 = .ok (.istore 6, 2) := by decide +kernel
theorem dX5_even_44 : decode cX5_even 44 = .ok (.iconst (-1), 1) := by decide +kernel
theorem dX5_even_45 : decode cX5_even 45 = .ok (.istore 7, 2) := by decide +kernel
theorem dX5_even_47 : decode cX5_even 47 = .ok (.iconst 0, 1) := by decide +kernel
theorem dX5_even_48 : decode cX5_even 48 = .ok (.istore 8, 2) := by decide +kernel
theorem dX5_even_50 : decode cX5_even 50 = .ok (.iload 8, 2) := by decide +kernel
theorem dX5_even_52 : decode cX5_even 52 = .ok (.aload_n 0, 1) := by decide +kernel
theorem dX5_even_53 : decode cX5_even 53 = .ok (.getfield 16, 3) := by decide +kernel
theorem dX5_even_56 : decode cX5_even 56 = .ok (.aload_n 0, 1) := by decide +kernel
theorem dX5_even_57 : decode cX5_even 57 = .ok (.getfield 16, 3) := by decide +kernel
theorem dX5_even_60 : decode cX5_even 60 = .ok (.imul, 1) := by decide +kernel
theorem dX5_even_61 : decode cX5_even 61 = .ok (.if_icmp .ge 68, 3) := by decide +kernel
theorem dX5_even_64 : decode cX5_even 64 = .ok (.iload 8, 2) := by decide +kernel
theorem dX5_even_66 : decode cX5_even 66 = .ok (.iconst 1, 1) := by decide +kernel
theorem dX5_even_67 : decode cX5_even 67 = .ok (.iadd, 1) := by decide +kernel
theorem dX5_even_68 : decode cX5_even 68 = .ok (.istore 9, 2) := by decide +kernel
theorem dX5_even_70 : decode cX5_even 70 = .ok (.iload 9, 2) := by decide +kernel
theorem dX5_even_72 : decode cX5_even 72 = .ok (.aload_n 0, 1) := by decide +kernel
theorem dX5_even_73 : decode cX5_even 73 = .ok (.getfield 16, 3) := by decide +kernel
theorem dX5_even_76 : decode cX5_even 76 = .ok (.aload_n 0, 1) := by decide +kernel
theorem dX5_even_77 : decode cX5_even 77 = .ok (.getfield 16, 3) := by decide +kernel
theorem dX5_even_80 : decode cX5_even 80 = .ok (.imul, 1) := by decide +kernel
theorem dX5_even_81 : decode cX5_even 81 = .ok (.if_icmp .ge 42, 3) := by decide +kernel
theorem dX5_even_84 : decode cX5_even 84 = .ok (.aload_n 0, 1) := by decide +kernel
theorem dX5_even_85 : decode cX5_even 85 = .ok (.iload 8, 2) := by decide +kernel
theorem dX5_even_87 : decode cX5_even 87 = .ok (.iload 9, 2) := by decide +kernel
theorem dX5_even_89 : decode cX5_even 89 = .ok (.invokevirtual 93, 3) := by decide +kernel
theorem dX5_even_92 : decode cX5_even 92 = .ok (.lstore 10, 2) := by decide +kernel
theorem dX5_even_94 : decode cX5_even 94 = .ok (.lload 10, 2) := by decide +kernel
theorem dX5_even_96 : decode cX5_even 96 = .ok (.lload 4, 2) := by decide +kernel
theorem dX5_even_98 : decode cX5_even 98 = .ok (.lcmp, 1) := by decide +kernel
theorem dX5_even_99 : decode cX5_even 99 = .ok (.ifCond .gt 6, 3) := by decide +kernel
theorem dX5_even_102 : decode cX5_even 102 = .ok (.goto 15, 3) := by decide +kernel
theorem dX5_even_105 : decode cX5_even 105 = .ok (.lload 10, 2) := by decide +kernel
theorem dX5_even_107 : decode cX5_even 107 = .ok (.lstore 4, 2) := by decide +kernel
theorem dX5_even_109 : decode cX5_even 109 = .ok (.iload 8, 2) := by decide +kernel
theorem dX5_even_111 : decode cX5_even 111 = .ok (.istore 6, 2) := by decide +kernel
theorem dX5_even_113 : decode cX5_even 113 = .ok (.iload 9, 2) := by decide +kernel
theorem dX5_even_115 : decode cX5_even 115 = .ok (.istore 7, 2) := by decide +kernel
theorem dX5_even_117 : decode cX5_even 117 = .ok (.iinc 9 1, 3) := by decide +kernel
theorem dX5_even_120 : decode cX5_even 120 = .ok (.goto (-50), 3) := by decide +kernel
theorem dX5_even_123 : decode cX5_even 123 = .ok (.iinc 8 1, 3) := by decide +kernel
theorem dX5_even_126 : decode cX5_even 126 = .ok (.goto (-76), 3) := by decide +kernel
theorem dX5_even_129 : decode cX5_even 129 = .ok (.iload 6, 2) := by decide +kernel
theorem dX5_even_131 : decode cX5_even 131 = .ok (.iconst (-1), 1) := by decide +kernel
theorem dX5_even_132 : decode cX5_even 132 = .ok (.if_icmp .eq 7, 3) := by decide +kernel
theorem dX5_even_135 : decode cX5_even 135 = .ok (.iconst 1, 1) := by decide +kernel
theorem dX5_even_136 : decode cX5_even 136 = .ok (.goto 4, 3) := by decide +kernel
theorem dX5_even_139 : decode cX5_even 139 = .ok (.iconst 0, 1) := by decide +kernel
theorem dX5_even_140 : decode cX5_even 140 = .ok (.istore_n 3, 1) := by decide +kernel
theorem dX5_even_141 : decode cX5_even 141 = .ok (.iload_n 3, 1) := by decide +kernel
theorem dX5_even_142 : decode cX5_even 142 = .ok (.ifCond .ne 6, 3) := by decide +kernel
theorem dX5_even_145 : decode cX5_even 145 = .ok (.goto (-116), 3) := by decide +kernel
theorem dX5_even_148 : decode cX5_even 148 = .ok (.aload_n 0, 1) := by decide +kernel
theorem dX5_even_149 : decode cX5_even 149 = .ok (.iload 6, 2) := by decide +kernel
theorem dX5_even_151 : decode cX5_even 151 = .ok (.iload 7, 2) := by decide +kernel
theorem dX5_even_153 : decode cX5_even 153 = .ok (.invokevirtual 78, 3) := by decide +kernel
theorem dX5_even_156 : decode cX5_even 156 = .ok (.iinc 2 1, 3) := by decide +kernel
theorem dX5_even_159 : decode cX5_even 159 = .ok (.goto (-130), 3) := by decide +kernel
theorem dX5_even_162 : decode cX5_even 162 = .ok (.iload_n 2, 1) := by decide +kernel
theorem dX5_even_163 : decode cX5_even 163 = .ok (.ireturn, 1) := by decide +kernel
theorem dX5_back_0 : decode cX5_back 0 = .ok (.aload_n 0, 1) := by decide +kernel
theorem dX5_back_1 : decode cX5_back 1 = .ok (.iconst 0, 1) := by decide +kernel
theorem dX5_back_2 : decode cX5_back 2 = .ok (.putfield 51, 3) := by decide +kernel
theorem dX5_back_5 : decode cX5_back 5 = .ok (.aload_n 0, 1) := by decide +kernel
theorem dX5_back_6 : decode cX5_back 6 = .ok (.getfield 97, 3) := by decide +kernel
theorem dX5_back_9 : decode cX5_back 9 = .ok (.iload_n 1, 1) := by decide +kernel
theorem dX5_back_10 : decode cX5_back 10 = .ok (.if_icmp .ne 5, 3) := by decide +kernel
theorem dX5_back_13 : decode cX5_back 13 = .ok (.iconst 0, 1) := by decide +kernel
theorem dX5_back_14 : decode cX5_back 14 = .ok (.ireturn, 1) := by decide +kernel
theorem dX5_back_15 : decode cX5_back 15 = .ok (.aload_n 0, 1) := by decide +kernel
theorem dX5_back_16 : decode cX5_back 16 = .ok (.iload_n 1, 1) := by decide +kernel
theorem dX5_back_17 : decode cX5_back 17 = .ok (.putfield 97, 3) := by decide +kernel
theorem dX5_back_20 : decode cX5_back 20 = .ok (.iconst 1, 1) := by decide +kernel
theorem dX5_back_21 : decode cX5_back 21 = .ok (.ireturn, 1) := by decide +kernel
set_option maxRecDepth 20000 in
theorem ggX5_isNet_X5_isIn : GoodIn wsX5_isNet wsX5_isIn := goodIn_r _ [4] (by decide +kernel) (by decide +kernel)
set_option maxRecDepth 20000 in
theorem gX5_isNet_X5_isIn : GoodIn wsX5_isNet (va_wsS RX5 54 yX5_isIn wsX5_isIn) := goodIn_app (goodIn_of _ (by decide +kernel)) ggX5_isNet_X5_isIn
theorem dX5_isNet_0 : decode cX5_isNet 0 = .ok (.iload_n 0, 1) := by decide +kernel
theorem dX5_isNet_1 : decode cX5_isNet 1 = .ok (.bipush (-8), 2) := by decide +kernel
theorem dX5_isNet_3 : decode cX5_isNet 3 = .ok (.bipush 8, 2) := by decide +kernel
theorem dX5_isNet_5 : decode cX5_isNet 5 = .ok (.invokestatic 54, 3) := by decide +kernel
theorem dX5_isNet_8 : decode cX5_isNet 8 = .ok (.ifCond .eq 26, 3) := by decide +kernel
theorem dX5_isNet_11 : decode cX5_isNet 11 = .ok (.iload_n 1, 1) := by decide +kernel
theorem dX5_isNet_12 : decode cX5_isNet 12 = .ok (.bipush (-8), 2) := by decide +kernel
theorem dX5_isNet_14 : decode cX5_isNet 14 = .ok (.bipush 8, 2) := by decide +kernel
theorem dX5_isNet_16 : decode cX5_isNet 16 = .ok (.invokestatic 54, 3) := by decide +kernel
theorem dX5_isNet_19 : decode cX5_isNet 19 = .ok (.ifCond .eq 15, 3) := by decide +kernel
theorem dX5_isNet_22 : decode cX5_isNet 22 = .ok (.iload_n 0, 1) := by decide +kernel
theorem dX5_isNet_23 : decode cX5_isNet 23 = .ok (.ifCond .ne 7, 3) := by decide +kernel
theorem dX5_isNet_26 : decode cX5_isNet 26 = .ok (.iload_n 1, 1) := by decide +kernel
theorem dX5_isNet_27 : decode cX5_isNet 27 = .ok (.ifCond .eq 7, 3) := by decide +kernel
theorem dX5_isNet_30 : decode cX5_isNet 30 = .ok (.iconst 1, 1) := by decide +kernel
theorem dX5_isNet_31 : decode cX5_isNet 31 = .ok (.goto 4, 3) := by decide +kernel
theorem dX5_isNet_34 : decode cX5_isNet 34 = .ok (.iconst 0, 1) := by decide +kernel
theorem dX5_isNet_35 : decode cX5_isNet 35 = .ok (.ireturn, 1) := by decide +kernel
set_option maxRecDepth 20000 in
theorem ggX5_net_X5_isNet : GoodIn wsX5_net wsX5_isNet := goodIn_r _ [8, 9, 10, 7, 11] (by decide +kernel) (by decide +kernel)
set_option maxRecDepth 20000 in
theorem gX5_net_X5_isNet : GoodIn wsX5_net (va_wsS RX5 101 yX5_isNet wsX5_isNet) := goodIn_app (goodIn_of _ (by decide +kernel)) ggX5_net_X5_isNet
theorem dX5_net_0 : decode cX5_net 0 = .ok (.aload_n 0, 1) := by decide +kernel
theorem dX5_net_1 : decode cX5_net 1 = .ok (.iconst 0, 1) := by decide +kernel
theorem dX5_net_2 : decode cX5_net 2 = .ok (.putfield 51, 3) := by decide +kernel
theorem dX5_net_5 : decode cX5_net 5 = .ok (.iload_n 1, 1) := by decide +kernel
theorem dX5_net_6 : decode cX5_net 6 = .ok (.iload_n 2, 1) := by decide +kernel
theorem dX5_net_7 : decode cX5_net 7 = .ok (.invokestatic 101, 3) := by decide +kernel
theorem dX5_net_10 : decode cX5_net 10 = .ok (.ifCond .ne 5, 3) := by decide +kernel
theorem dX5_net_13 : decode cX5_net 13 = .ok (.iconst 0, 1) := by decide +kernel
theorem dX5_net_14 : decode cX5_net 14 = .ok (.ireturn, 1) := by decide +kernel
theorem dX5_net_15 : decode cX5_net 15 = .ok (.aload_n 0, 1) := by decide +kernel
theorem dX5_net_16 : decode cX5_net 16 = .ok (.iload_n 1, 1) := by decide +kernel
theorem dX5_net_17 : decode cX5_net 17 = .ok (.putfield 19, 3) := by decide +kernel
theorem dX5_net_20 : decode cX5_net 20 = .ok (.aload_n 0, 1) := by decide +kernel
theorem dX5_net_21 : decode cX5_net 21 = .ok (.iload_n 2, 1) := by decide +kernel
theorem dX5_net_22 : decode cX5_net 22 = .ok (.putfield 22, 3) := by decide +kernel
theorem dX5_net_25 : decode cX5_net 25 = .ok (.aload_n 0, 1) := by decide +kernel
theorem dX5_net_26 : decode cX5_net 26 = .ok (.iconst (-1), 1) := by decide +kernel
theorem dX5_net_27 : decode cX5_net 27 = .ok (.putfield 25, 3) := by decide +kernel
theorem dX5_net_30 : decode cX5_net 30 = .ok (.iconst 1, 1) := by decide +kernel
theorem dX5_net_31 : decode cX5_net 31 = .ok (.ireturn, 1) := by decide +kernel
theorem dX5_m_0 : decode cX5_m 0 = .ok (.aload_n 0, 1) := by decide +kernel
theorem dX5_m_1 : decode cX5_m 1 = .ok (.getfield 19, 3) := by decide +kernel
theorem dX5_m_4 : decode cX5_m 4 = .ok (.aload_n 0, 1) := by decide +kernel
theorem dX5_m_5 : decode cX5_m 5 = .ok (.getfield 19, 3) := by decide +kernel
theorem dX5_m_8 : decode cX5_m 8 = .ok (.imul, 1) := by decide +kernel
theorem dX5_m_9 : decode cX5_m 9 = .ok (.aload_n 0, 1) := by decide +kernel
theorem dX5_m_10 : decode cX5_m 10 = .ok (.getfield 22, 3) := by decide +kernel
theorem dX5_m_13 : decode cX5_m 13 = .ok (.aload_n 0, 1) := by decide +kernel
theorem dX5_m_14 : decode cX5_m 14 = .ok (.getfield 22, 3) := by decide +kernel
theorem dX5_m_17 : decode cX5_m 17 = .ok (.imul, 1) := by decide +kernel
theorem dX5_m_18 : decode cX5_m 18 = .ok (.iadd, 1) := by decide +kernel
theorem dX5_m_19 : decode cX5_m 19 = .ok (.ireturn, 1) := by decide +kernel
set_option maxRecDepth 20000 in
theorem ggX5_pairOf_X5_m : GoodIn wsX5_pairOf wsX5_m := goodIn_r _ [7, 1, 2, 12, 13, 14, 15, 16, 17, 18, 19, 20, 21, 22, 23, 24, 25, 26, 27, 28, 29, 30] (by decide +kernel) (by decide +kernel)
set_option maxRecDepth 20000 in
theorem gX5_pairOf_X5_m : GoodIn wsX5_pairOf (wsV RX5 104 RX5 yX5_m wsX5_m) := goodIn_app (goodIn_of _ (by decide +kernel)) ggX5_pairOf_X5_m
set_option maxRecDepth 20000 in
theorem ggX5_pairOf_J9_floorMod_7cf53 : GoodIn wsX5_pairOf wsJ9_floorMod_7cf53 := goodIn_r _ [11] (by decide +kernel) (by decide +kernel)
set_option maxRecDepth 20000 in
theorem gX5_pairOf_J9_floorMod_7cf53 : GoodIn wsX5_pairOf (va_wsS RX5 108 yJ9_floorMod_7cf53 wsJ9_floorMod_7cf53) := goodIn_app (goodIn_of _ (by decide +kernel)) ggX5_pairOf_J9_floorMod_7cf53
theorem dX5_pairOf_0 : decode cX5_pairOf 0 = .ok (.aload_n 0, 1) := by decide +kernel
theorem dX5_pairOf_1 : decode cX5_pairOf 1 = .ok (.invokevirtual 104, 3) := by decide +kernel
theorem dX5_pairOf_4 : decode cX5_pairOf 4 = .ok (.aload_n 0, 1) := by decide +kernel
theorem dX5_pairOf_5 : decode cX5_pairOf 5 = .ok (.getfield 19, 3) := by decide +kernel
theorem dX5_pairOf_8 : decode cX5_pairOf 8 = .ok (.iload_n 1, 1) := by decide +kernel
theorem dX5_pairOf_9 : decode cX5_pairOf 9 = .ok (.imul, 1) := by decide +kernel
theorem dX5_pairOf_10 : decode cX5_pairOf 10 = .ok (.aload_n 0, 1) := by decide +kernel
theorem dX5_pairOf_11 : decode cX5_pairOf 11 = .ok (.getfield 22, 3) := by decide +kernel
theorem dX5_pairOf_14 : decode cX5_pairOf 14 = .ok (.iload_n 2, 1) := by decide +kernel
theorem dX5_pairOf_15 : decode cX5_pairOf 15 = .ok (.imul, 1) := by decide +kernel
theorem dX5_pairOf_16 : decode cX5_pairOf 16 = .ok (.iadd, 1) := by decide +kernel
theorem dX5_pairOf_17 : decode cX5_pairOf 17 = .ok (.aload_n 0, 1) := by decide +kernel
theorem dX5_pairOf_18 : decode cX5_pairOf 18 = .ok (.invokevirtual 104, 3) := by decide +kernel
theorem dX5_pairOf_21 : decode cX5_pairOf 21 = .ok (.invokestatic 108, 3) := by decide +kernel
theorem dX5_pairOf_24 : decode cX5_pairOf 24 = .ok (.imul, 1) := by decide +kernel
theorem dX5_pairOf_25 : decode cX5_pairOf 25 = .ok (.aload_n 0, 1) := by decide +kernel
theorem dX5_pairOf_26 : decode cX5_pairOf 26 = .ok (.getfield 19, 3) := by decide +kernel
theorem dX5_pairOf_29 : decode cX5_pairOf 29 = .ok (.iload_n 2, 1) := by decide +kernel
theorem dX5_pairOf_30 : decode cX5_pairOf 30 = .ok (.imul, 1) := by decide +kernel
theorem dX5_pairOf_31 : decode cX5_pairOf 31 = .ok (.aload_n 0, 1) := by decide +kernel
theorem dX5_pairOf_32 : decode cX5_pairOf 32 = .ok (.getfield 22, 3) := by decide +kernel
theorem dX5_pairOf_35 : decode cX5_pairOf 35 = .ok (.iload_n 1, 1) := by decide +kernel
theorem dX5_pairOf_36 : decode cX5_pairOf 36 = .ok (.imul, 1) := by decide +kernel
theorem dX5_pairOf_37 : decode cX5_pairOf 37 = .ok (.isub, 1) := by decide +kernel
theorem dX5_pairOf_38 : decode cX5_pairOf 38 = .ok (.aload_n 0, 1) := by decide +kernel
theorem dX5_pairOf_39 : decode cX5_pairOf 39 = .ok (.invokevirtual 104, 3) := by decide +kernel
theorem dX5_pairOf_42 : decode cX5_pairOf 42 = .ok (.invokestatic 108, 3) := by decide +kernel
theorem dX5_pairOf_45 : decode cX5_pairOf 45 = .ok (.iadd, 1) := by decide +kernel
theorem dX5_pairOf_46 : decode cX5_pairOf 46 = .ok (.ireturn, 1) := by decide +kernel
set_option maxRecDepth 20000 in
theorem ggX5_far_X5_m : GoodIn wsX5_far wsX5_m := goodIn_r _ [5, 6, 7, 8, 9, 10, 11, 12, 13, 14, 15, 16, 17, 18, 19, 20, 21, 22, 23, 24, 25, 26] (by decide +kernel) (by decide +kernel)
set_option maxRecDepth 20000 in
theorem gX5_far_X5_m : GoodIn wsX5_far (wsV RX5 104 RX5 yX5_m wsX5_m) := goodIn_app (goodIn_of _ (by decide +kernel)) ggX5_far_X5_m
theorem dX5_far_0 : decode cX5_far 0 = .ok (.iconst 2, 1) := by decide +kernel
theorem dX5_far_1 : decode cX5_far 1 = .ok (.iload_n 1, 1) := by decide +kernel
theorem dX5_far_2 : decode cX5_far 2 = .ok (.aload_n 0, 1) := by decide +kernel
theorem dX5_far_3 : decode cX5_far 3 = .ok (.invokevirtual 104, 3) := by decide +kernel
theorem dX5_far_6 : decode cX5_far 6 = .ok (.idiv, 1) := by decide +kernel
theorem dX5_far_7 : decode cX5_far 7 = .ok (.imul, 1) := by decide +kernel
theorem dX5_far_8 : decode cX5_far 8 = .ok (.iconst 1, 1) := by decide +kernel
theorem dX5_far_9 : decode cX5_far 9 = .ok (.iadd, 1) := by decide +kernel
theorem dX5_far_10 : decode cX5_far 10 = .ok (.aload_n 0, 1) := by decide +kernel
theorem dX5_far_11 : decode cX5_far 11 = .ok (.invokevirtual 104, 3) := by decide +kernel
theorem dX5_far_14 : decode cX5_far 14 = .ok (.isub, 1) := by decide +kernel
theorem dX5_far_15 : decode cX5_far 15 = .ok (.istore_n 2, 1) := by decide +kernel
theorem dX5_far_16 : decode cX5_far 16 = .ok (.iconst 2, 1) := by decide +kernel
theorem dX5_far_17 : decode cX5_far 17 = .ok (.iload_n 1, 1) := by decide +kernel
theorem dX5_far_18 : decode cX5_far 18 = .ok (.aload_n 0, 1) := by decide +kernel
theorem dX5_far_19 : decode cX5_far 19 = .ok (.invokevirtual 104, 3) := by decide +kernel
theorem dX5_far_22 : decode cX5_far 22 = .ok (.irem, 1) := by decide +kernel
theorem dX5_far_23 : decode cX5_far 23 = .ok (.imul, 1) := by decide +kernel
theorem dX5_far_24 : decode cX5_far 24 = .ok (.iconst 1, 1) := by decide +kernel
theorem dX5_far_25 : decode cX5_far 25 = .ok (.iadd, 1) := by decide +kernel
theorem dX5_far_26 : decode cX5_far 26 = .ok (.aload_n 0, 1) := by decide +kernel
theorem dX5_far_27 : decode cX5_far 27 = .ok (.invokevirtual 104, 3) := by decide +kernel
theorem dX5_far_30 : decode cX5_far 30 = .ok (.isub, 1) := by decide +kernel
theorem dX5_far_31 : decode cX5_far 31 = .ok (.istore_n 3, 1) := by decide +kernel
theorem dX5_far_32 : decode cX5_far 32 = .ok (.iload_n 2, 1) := by decide +kernel
theorem dX5_far_33 : decode cX5_far 33 = .ok (.iload_n 2, 1) := by decide +kernel
theorem dX5_far_34 : decode cX5_far 34 = .ok (.imul, 1) := by decide +kernel
theorem dX5_far_35 : decode cX5_far 35 = .ok (.iload_n 3, 1) := by decide +kernel
theorem dX5_far_36 : decode cX5_far 36 = .ok (.iload_n 3, 1) := by decide +kernel
theorem dX5_far_37 : decode cX5_far 37 = .ok (.imul, 1) := by decide +kernel
theorem dX5_far_38 : decode cX5_far 38 = .ok (.iadd, 1) := by decide +kernel
theorem dX5_far_39 : decode cX5_far 39 = .ok (.ireturn, 1) := by decide +kernel
set_option maxRecDepth 20000 in
theorem ggX5_rankAll_X5_m : GoodIn wsX5_rankAll wsX5_m := goodIn_r _ [11, 2, 3, 24, 25, 26, 27, 28, 29, 30, 31, 32, 33, 34, 35, 36, 37, 38, 39, 40, 41, 42] (by decide +kernel) (by decide +kernel)
set_option maxRecDepth 20000 in
theorem gX5_rankAll_X5_m : GoodIn wsX5_rankAll (wsV RX5 104 RX5 yX5_m wsX5_m) := goodIn_app (goodIn_of _ (by decide +kernel)) ggX5_rankAll_X5_m
set_option maxRecDepth 20000 in
theorem ggX5_rankAll_X5_pairOf : GoodIn wsX5_rankAll wsX5_pairOf := goodIn_r _ [15, 2, 3, 7, 8, 9, 10, 11, 16, 17, 18, 19, 24, 25, 26, 27, 28, 29, 30, 31, 32, 33, 34, 35, 36, 37, 38, 39, 40, 41, 42] (by decide +kernel) (by decide +kernel)
set_option maxRecDepth 20000 in
theorem gX5_rankAll_X5_pairOf : GoodIn wsX5_rankAll (wsV RX5 111 RX5 yX5_pairOf wsX5_pairOf) := goodIn_app (goodIn_of _ (by decide +kernel)) ggX5_rankAll_X5_pairOf
set_option maxRecDepth 20000 in
theorem ggX5_rankAll_X5_far : GoodIn wsX5_rankAll wsX5_far := goodIn_r _ [23, 7, 8, 9, 10, 11, 2, 3, 24, 25, 26, 27, 28, 29, 30, 31, 32, 33, 34, 35, 36, 37, 38, 39, 40, 41, 42] (by decide +kernel) (by decide +kernel)
set_option maxRecDepth 20000 in
theorem gX5_rankAll_X5_far : GoodIn wsX5_rankAll (wsV RX5 117 RX5 yX5_far wsX5_far) := goodIn_app (goodIn_of _ (by decide +kernel)) ggX5_rankAll_X5_far
theorem dX5_rankAll_0 : decode cX5_rankAll 0 = .ok (.aload_n 0, 1) := by decide +kernel
theorem dX5_rankAll_1 : decode cX5_rankAll 1 = .ok (.getfield 25, 3) := by decide +kernel
theorem dX5_rankAll_4 : decode cX5_rankAll 4 = .ok (.bipush 20, 2) := by decide +kernel
theorem dX5_rankAll_6 : decode cX5_rankAll 6 = .ok (.aload_n 0, 1) := by decide +kernel
theorem dX5_rankAll_7 : decode cX5_rankAll 7 = .ok (.getfield 19, 3) := by decide +kernel
theorem dX5_rankAll_10 : decode cX5_rankAll 10 = .ok (.imul, 1) := by decide +kernel
theorem dX5_rankAll_11 : decode cX5_rankAll 11 = .ok (.aload_n 0, 1) := by decide +kernel
theorem dX5_rankAll_12 : decode cX5_rankAll 12 = .ok (.getfield 22, 3) := by decide +kernel
theorem dX5_rankAll_15 : decode cX5_rankAll 15 = .ok (.iadd, 1) := by decide +kernel
theorem dX5_rankAll_16 : decode cX5_rankAll 16 = .ok (.sipush 1000, 3) := by decide +kernel
theorem dX5_rankAll_19 : decode cX5_rankAll 19 = .ok (.iadd, 1) := by decide +kernel
theorem dX5_rankAll_20 : decode cX5_rankAll 20 = .ok (.if_icmp .ne 4, 3) := by decide +kernel
theorem dX5_rankAll_23 : decode cX5_rankAll 23 = .ok (.return_, 1) := by decide +kernel
theorem dX5_rankAll_24 : decode cX5_rankAll 24 = .ok (.aload_n 0, 1) := by decide +kernel
theorem dX5_rankAll_25 : decode cX5_rankAll 25 = .ok (.bipush 20, 2) := by decide +kernel
theorem dX5_rankAll_27 : decode cX5_rankAll 27 = .ok (.aload_n 0, 1) := by decide +kernel
theorem dX5_rankAll_28 : decode cX5_rankAll 28 = .ok (.getfield 19, 3) := by decide +kernel
theorem dX5_rankAll_31 : decode cX5_rankAll 31 = .ok (.imul, 1) := by decide +kernel
theorem dX5_rankAll_32 : decode cX5_rankAll 32 = .ok (.aload_n 0, 1) := by decide +kernel
theorem dX5_rankAll_33 : decode cX5_rankAll 33 = .ok (.getfield 22, 3) := by decide +kernel
theorem dX5_rankAll_36 : decode cX5_rankAll 36 = .ok (.iadd, 1) := by decide +kernel
theorem dX5_rankAll_37 : decode cX5_rankAll 37 = .ok (.sipush 1000, 3) := by decide +kernel
theorem dX5_rankAll_40 : decode cX5_rankAll 40 = .ok (.iadd, 1) := by decide +kernel
theorem dX5_rankAll_41 : decode cX5_rankAll 41 = .ok (.putfield 25, 3) := by decide +kernel
theorem dX5_rankAll_44 : decode cX5_rankAll 44 = .ok (.aload_n 0, 1) := by decide +kernel
theorem dX5_rankAll_45 : decode cX5_rankAll 45 = .ok (.invokevirtual 104, 3) := by decide +kernel
theorem dX5_rankAll_48 : decode cX5_rankAll 48 = .ok (.istore_n 1, 1) := by decide +kernel
theorem dX5_rankAll_49 : decode cX5_rankAll 49 = .ok (.iconst 0, 1) := by decide +kernel
theorem dX5_rankAll_50 : decode cX5_rankAll 50 = .ok (.istore_n 2, 1) := by decide +kernel
theorem dX5_rankAll_51 : decode cX5_rankAll 51 = .ok (.iload_n 2, 1) := by decide +kernel
theorem dX5_rankAll_52 : decode cX5_rankAll 52 = .ok (.iload_n 1, 1) := by decide +kernel
theorem dX5_rankAll_53 : decode cX5_rankAll 53 = .ok (.iload_n 1, 1) := by decide +kernel
theorem dX5_rankAll_54 : decode cX5_rankAll 54 = .ok (.imul, 1) := by decide +kernel
theorem dX5_rankAll_55 : decode cX5_rankAll 55 = .ok (.if_icmp .ge 16, 3) := by decide +kernel
theorem dX5_rankAll_58 : decode cX5_rankAll 58 = .ok (.aload_n 0, 1) := by decide +kernel
theorem dX5_rankAll_59 : decode cX5_rankAll 59 = .ok (.getfield 45, 3) := by decide +kernel
theorem dX5_rankAll_62 : decode cX5_rankAll 62 = .ok (.iload_n 2, 1) := by decide +kernel
theorem dX5_rankAll_63 : decode cX5_rankAll 63 = .ok (.iconst 0, 1) := by decide +kernel
theorem dX5_rankAll_64 : decode cX5_rankAll 64 = .ok (.bastore, 1) := by decide +kernel
theorem dX5_rankAll_65 : decode cX5_rankAll 65 = .ok (.iinc 2 1, 3) := by decide +kernel
theorem dX5_rankAll_68 : decode cX5_rankAll 68 = .ok (.goto (-17), 3) := by decide +kernel
theorem dX5_rankAll_71 : decode cX5_rankAll 71 = .ok (.iconst 0, 1) := by decide +kernel
theorem dX5_rankAll_72 : decode cX5_rankAll 72 = .ok (.istore_n 2, 1) := by decide +kernel
theorem dX5_rankAll_73 : decode cX5_rankAll 73 = .ok (.iload_n 2, 1) := by decide +kernel
theorem dX5_rankAll_74 : decode cX5_rankAll 74 = .ok (.iload_n 1, 1) := by decide +kernel
theorem dX5_rankAll_75 : decode cX5_rankAll 75 = .ok (.if_icmp .ge 34, 3) := by decide +kernel
theorem dX5_rankAll_78 : decode cX5_rankAll 78 = .ok (.iconst 0, 1) := by decide +kernel
theorem dX5_rankAll_79 : decode cX5_rankAll 79 = .ok (.istore_n 3, 1) := by decide +kernel
theorem dX5_rankAll_80 : decode cX5_rankAll 80 = .ok (.iload_n 3, 1) := by decide +kernel
theorem dX5_rankAll_81 : decode cX5_rankAll 81 = .ok (.iload_n 1, 1) := by decide +kernel
theorem dX5_rankAll_82 : decode cX5_rankAll 82 = .ok (.if_icmp .ge 21, 3) := by decide +kernel
theorem dX5_rankAll_85 : decode cX5_rankAll 85 = .ok (.aload_n 0, 1) := by decide +kernel
theorem dX5_rankAll_86 : decode cX5_rankAll 86 = .ok (.getfield 45, 3) := by decide +kernel
theorem dX5_rankAll_89 : decode cX5_rankAll 89 = .ok (.aload_n 0, 1) := by decide +kernel
