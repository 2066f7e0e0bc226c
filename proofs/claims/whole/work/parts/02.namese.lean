theorem dX4_ramp_5 : decode cX4_ramp 5 = .ok (.iload_n 2, 1) := by decide +kernel
theorem dX4_ramp_6 : decode cX4_ramp 6 = .ok (.iload_n 3, 1) := by decide +kernel
theorem dX4_ramp_7 : decode cX4_ramp 7 = .ok (.iload 4, 2) := by decide +kernel
theorem dX4_ramp_9 : decode cX4_ramp 9 = .ok (.invokevirtual 60, 3) := by decide +kernel
theorem dX4_ramp_12 : decode cX4_ramp 12 = .ok (.ifCond .eq 27, 3) := by decide +kernel
theorem dX4_ramp_15 : decode cX4_ramp 15 = .ok (.iload 5, 2) := by decide +kernel
theorem dX4_ramp_17 : decode cX4_ramp 17 = .ok (.invokestatic 53, 3) := by decide +kernel
theorem dX4_ramp_20 : decode cX4_ramp 20 = .ok (.ifCond .eq 19, 3) := by decide +kernel
theorem dX4_ramp_23 : decode cX4_ramp 23 = .ok (.iload 6, 2) := by decide +kernel
theorem dX4_ramp_25 : decode cX4_ramp 25 = .ok (.sipush (-255), 3) := by decide +kernel
theorem dX4_ramp_28 : decode cX4_ramp 28 = .ok (.if_icmp .lt 11, 3) := by decide +kernel
theorem dX4_ramp_31 : decode cX4_ramp 31 = .ok (.iload 6, 2) := by decide +kernel
theorem dX4_ramp_33 : decode cX4_ramp 33 = .ok (.sipush 255, 3) := by decide +kernel
theorem dX4_ramp_36 : decode cX4_ramp 36 = .ok (.if_icmp .le 5, 3) := by decide +kernel
theorem dX4_ramp_39 : decode cX4_ramp 39 = .ok (.iconst 0, 1) := by decide +kernel
theorem dX4_ramp_40 : decode cX4_ramp 40 = .ok (.ireturn, 1) := by decide +kernel
theorem dX4_ramp_41 : decode cX4_ramp 41 = .ok (.iconst 0, 1) := by decide +kernel
theorem dX4_ramp_42 : decode cX4_ramp 42 = .ok (.istore 7, 2) := by decide +kernel
theorem dX4_ramp_44 : decode cX4_ramp 44 = .ok (.iload 7, 2) := by decide +kernel
theorem dX4_ramp_46 : decode cX4_ramp 46 = .ok (.iload_n 3, 1) := by decide +kernel
theorem dX4_ramp_47 : decode cX4_ramp 47 = .ok (.if_icmp .ge 66, 3) := by decide +kernel
theorem dX4_ramp_50 : decode cX4_ramp 50 = .ok (.iload 5, 2) := by decide +kernel
theorem dX4_ramp_52 : decode cX4_ramp 52 = .ok (.iload 6, 2) := by decide +kernel
theorem dX4_ramp_54 : decode cX4_ramp 54 = .ok (.iload 7, 2) := by decide +kernel
theorem dX4_ramp_56 : decode cX4_ramp 56 = .ok (.imul, 1) := by decide +kernel
theorem dX4_ramp_57 : decode cX4_ramp 57 = .ok (.iadd, 1) := by decide +kernel
theorem dX4_ramp_58 : decode cX4_ramp 58 = .ok (.istore 8, 2) := by decide +kernel
theorem dX4_ramp_60 : decode cX4_ramp 60 = .ok (.iconst 0, 1) := by decide +kernel
theorem dX4_ramp_61 : decode cX4_ramp 61 = .ok (.sipush 255, 3) := by decide +kernel
theorem dX4_ramp_64 : decode cX4_ramp 64 = .ok (.iload 8, 2) := by decide +kernel
theorem dX4_ramp_66 : decode cX4_ramp 66 = .ok (.invokestatic 64, 3) := by decide +kernel
theorem dX4_ramp_69 : decode cX4_ramp 69 = .ok (.invokestatic 70, 3) := by decide +kernel
theorem dX4_ramp_72 : decode cX4_ramp 72 = .ok (.istore 9, 2) := by decide +kernel
theorem dX4_ramp_74 : decode cX4_ramp 74 = .ok (.iconst 0, 1) := by decide +kernel
theorem dX4_ramp_75 : decode cX4_ramp 75 = .ok (.istore 10, 2) := by decide +kernel
theorem dX4_ramp_77 : decode cX4_ramp 77 = .ok (.iload 10, 2) := by decide +kernel
theorem dX4_ramp_79 : decode cX4_ramp 79 = .ok (.iload 4, 2) := by decide +kernel
theorem dX4_ramp_81 : decode cX4_ramp 81 = .ok (.if_icmp .ge 26, 3) := by decide +kernel
theorem dX4_ramp_84 : decode cX4_ramp 84 = .ok (.aload_n 0, 1) := by decide +kernel
theorem dX4_ramp_85 : decode cX4_ramp 85 = .ok (.getfield 10, 3) := by decide +kernel
theorem dX4_ramp_88 : decode cX4_ramp 88 = .ok (.iload_n 1, 1) := by decide +kernel
theorem dX4_ramp_89 : decode cX4_ramp 89 = .ok (.iload 7, 2) := by decide +kernel
theorem dX4_ramp_91 : decode cX4_ramp 91 = .ok (.iadd, 1) := by decide +kernel
theorem dX4_ramp_92 : decode cX4_ramp 92 = .ok (.iload_n 2, 1) := by decide +kernel
theorem dX4_ramp_93 : decode cX4_ramp 93 = .ok (.iload 10, 2) := by decide +kernel
theorem dX4_ramp_95 : decode cX4_ramp 95 = .ok (.iadd, 1) := by decide +kernel
theorem dX4_ramp_96 : decode cX4_ramp 96 = .ok (.iload 9, 2) := by decide +kernel
theorem dX4_ramp_98 : decode cX4_ramp 98 = .ok (.invokevirtual 56, 3) := by decide +kernel
theorem dX4_ramp_101 : decode cX4_ramp 101 = .ok (.iinc 10 1, 3) := by decide +kernel
theorem dX4_ramp_104 : decode cX4_ramp 104 = .ok (.goto (-27), 3) := by decide +kernel
theorem dX4_ramp_107 : decode cX4_ramp 107 = .ok (.iinc 7 1, 3) := by decide +kernel
theorem dX4_ramp_110 : decode cX4_ramp 110 = .ok (.goto (-66), 3) := by decide +kernel
theorem dX4_ramp_113 : decode cX4_ramp 113 = .ok (.iconst 1, 1) := by decide +kernel
theorem dX4_ramp_114 : decode cX4_ramp 114 = .ok (.ireturn, 1) := by decide +kernel
set_option maxRecDepth 20000 in
theorem ggX4_line_X2_has : GoodIn wsX4_line wsX2_has := goodIn_r _ [6, 7, 8, 27, 28, 29, 30] (by decide +kernel) (by decide +kernel)
set_option maxRecDepth 20000 in
theorem gX4_line_X2_has : GoodIn wsX4_line (wsV RX4 49 RX2 yX2_has wsX2_has) := goodIn_app (goodIn_of _ (by decide +kernel)) ggX4_line_X2_has
set_option maxRecDepth 20000 in
theorem ggX4_line_X2_isLine : GoodIn wsX4_line wsX2_isLine := goodIn_r _ [12, 13, 14, 3, 4, 5, 6, 7, 8, 15, 16, 17, 27, 28, 29, 30] (by decide +kernel) (by decide +kernel)
set_option maxRecDepth 20000 in
theorem gX4_line_X2_isLine : GoodIn wsX4_line (wsV RX4 73 RX2 yX2_isLine wsX2_isLine) := goodIn_app (goodIn_of _ (by decide +kernel)) ggX4_line_X2_isLine
set_option maxRecDepth 20000 in
theorem ggX4_line_X2_setLine : GoodIn wsX4_line wsX2_setLine := goodIn_r _ [21, 13, 14, 3, 4, 5, 6, 7, 8, 15, 16, 17, 27, 28, 29, 30] (by decide +kernel) (by decide +kernel)
set_option maxRecDepth 20000 in
theorem gX4_line_X2_setLine : GoodIn wsX4_line (wsV RX4 76 RX2 yX2_setLine wsX2_setLine) := goodIn_app (goodIn_of _ (by decide +kernel)) ggX4_line_X2_setLine
theorem dX4_line_0 : decode cX4_line 0 = .ok (.aload_n 0, 1) := by decide +kernel
theorem dX4_line_1 : decode cX4_line 1 = .ok (.getfield 10, 3) := by decide +kernel
theorem dX4_line_4 : decode cX4_line 4 = .ok (.iload_n 1, 1) := by decide +kernel
theorem dX4_line_5 : decode cX4_line 5 = .ok (.iload_n 2, 1) := by decide +kernel
theorem dX4_line_6 : decode cX4_line 6 = .ok (.invokevirtual 49, 3) := by decide +kernel
theorem dX4_line_9 : decode cX4_line 9 = .ok (.ifCond .eq 16, 3) := by decide +kernel
theorem dX4_line_12 : decode cX4_line 12 = .ok (.aload_n 0, 1) := by decide +kernel
theorem dX4_line_13 : decode cX4_line 13 = .ok (.getfield 10, 3) := by decide +kernel
theorem dX4_line_16 : decode cX4_line 16 = .ok (.iload_n 1, 1) := by decide +kernel
theorem dX4_line_17 : decode cX4_line 17 = .ok (.iload_n 2, 1) := by decide +kernel
theorem dX4_line_18 : decode cX4_line 18 = .ok (.invokevirtual 73, 3) := by decide +kernel
theorem dX4_line_21 : decode cX4_line 21 = .ok (.iload_n 3, 1) := by decide +kernel
theorem dX4_line_22 : decode cX4_line 22 = .ok (.if_icmp .ne 5, 3) := by decide +kernel
theorem dX4_line_25 : decode cX4_line 25 = .ok (.iconst 0, 1) := by decide +kernel
theorem dX4_line_26 : decode cX4_line 26 = .ok (.ireturn, 1) := by decide +kernel
theorem dX4_line_27 : decode cX4_line 27 = .ok (.aload_n 0, 1) := by decide +kernel
theorem dX4_line_28 : decode cX4_line 28 = .ok (.getfield 10, 3) := by decide +kernel
theorem dX4_line_31 : decode cX4_line 31 = .ok (.iload_n 1, 1) := by decide +kernel
theorem dX4_line_32 : decode cX4_line 32 = .ok (.iload_n 2, 1) := by decide +kernel
theorem dX4_line_33 : decode cX4_line 33 = .ok (.iload_n 3, 1) := by decide +kernel
theorem dX4_line_34 : decode cX4_line 34 = .ok (.invokevirtual 76, 3) := by decide +kernel
theorem dX4_line_37 : decode cX4_line 37 = .ok (.iconst 1, 1) := by decide +kernel
theorem dX4_line_38 : decode cX4_line 38 = .ok (.ireturn, 1) := by decide +kernel
set_option maxRecDepth 20000 in
theorem ggX4_grey_X2_has : GoodIn wsX4_grey wsX2_has := goodIn_r _ [6, 7, 8, 23, 24, 25, 26] (by decide +kernel) (by decide +kernel)
set_option maxRecDepth 20000 in
theorem gX4_grey_X2_has : GoodIn wsX4_grey (wsV RX4 49 RX2 yX2_has wsX2_has) := goodIn_app (goodIn_of _ (by decide +kernel)) ggX4_grey_X2_has
set_option maxRecDepth 20000 in
theorem ggX4_grey_X2_greyAt : GoodIn wsX4_grey wsX2_greyAt := goodIn_r _ [12, 13, 14, 3, 4, 5, 6, 7, 8, 15, 16, 17, 23, 24, 25, 26] (by decide +kernel) (by decide +kernel)
set_option maxRecDepth 20000 in
theorem gX4_grey_X2_greyAt : GoodIn wsX4_grey (wsV RX4 80 RX2 yX2_greyAt wsX2_greyAt) := goodIn_app (goodIn_of _ (by decide +kernel)) ggX4_grey_X2_greyAt
theorem dX4_grey_0 : decode cX4_grey 0 = .ok (.aload_n 0, 1) := by decide +kernel
theorem dX4_grey_1 : decode cX4_grey 1 = .ok (.getfield 10, 3) := by decide +kernel
theorem dX4_grey_4 : decode cX4_grey 4 = .ok (.iload_n 1, 1) := by decide +kernel
theorem dX4_grey_5 : decode cX4_grey 5 = .ok (.iload_n 2, 1) := by decide +kernel
theorem dX4_grey_6 : decode cX4_grey 6 = .ok (.invokevirtual 49, 3) := by decide +kernel
theorem dX4_grey_9 : decode cX4_grey 9 = .ok (.ifCond .eq 15, 3) := by decide +kernel
theorem dX4_grey_12 : decode cX4_grey 12 = .ok (.aload_n 0, 1) := by decide +kernel
theorem dX4_grey_13 : decode cX4_grey 13 = .ok (.getfield 10, 3) := by decide +kernel
theorem dX4_grey_16 : decode cX4_grey 16 = .ok (.iload_n 1, 1) := by decide +kernel
theorem dX4_grey_17 : decode cX4_grey 17 = .ok (.iload_n 2, 1) := by decide +kernel
theorem dX4_grey_18 : decode cX4_grey 18 = .ok (.invokevirtual 80, 3) := by decide +kernel
theorem dX4_grey_21 : decode cX4_grey 21 = .ok (.goto 4, 3) := by decide +kernel
theorem dX4_grey_24 : decode cX4_grey 24 = .ok (.iconst (-1), 1) := by decide +kernel
theorem dX4_grey_25 : decode cX4_grey 25 = .ok (.ireturn, 1) := by decide +kernel
set_option maxRecDepth 20000 in
theorem ggX4_table_X3_allows : GoodIn wsX4_table wsX3_allows := goodIn_r _ [5] (by decide +kernel) (by decide +kernel)
set_option maxRecDepth 20000 in
theorem gX4_table_X3_allows : GoodIn wsX4_table (va_wsS RX4 83 yX3_allows wsX3_allows) := goodIn_app (goodIn_of _ (by decide +kernel)) ggX4_table_X3_allows
set_option maxRecDepth 20000 in
theorem ggX4_table_X3_renew : GoodIn wsX4_table wsX3_renew := goodIn_r _ [9, 10, 11, 12, 13, 14, 15, 16, 17, 18, 19, 4, 20, 21, 22, 23, 24, 25, 26, 27, 28, 29, 30, 31, 32, 38, 39, 40, 41] (by decide +kernel) (by decide +kernel)
set_option maxRecDepth 20000 in
theorem gX4_table_X3_renew : GoodIn wsX4_table (wsV RX4 84 RX3 yX3_renew wsX3_renew) := goodIn_app (goodIn_of _ (by decide +kernel)) ggX4_table_X3_renew
theorem dX4_table_0 : decode cX4_table 0 = .ok (.iload_n 1, 1) := by decide +kernel
theorem dX4_table_1 : decode cX4_table 1 = .ok (.invokestatic 83, 3) := by decide +kernel
theorem dX4_table_4 : decode cX4_table 4 = .ok (.ifCond .ne 5, 3) := by decide +kernel
theorem dX4_table_7 : decode cX4_table 7 = .ok (.iconst 0, 1) := by decide +kernel
theorem dX4_table_8 : decode cX4_table 8 = .ok (.ireturn, 1) := by decide +kernel
theorem dX4_table_9 : decode cX4_table 9 = .ok (.aload_n 0, 1) := by decide +kernel
theorem dX4_table_10 : decode cX4_table 10 = .ok (.getfield 19, 3) := by decide +kernel
theorem dX4_table_13 : decode cX4_table 13 = .ok (.iload_n 1, 1) := by decide +kernel
theorem dX4_table_14 : decode cX4_table 14 = .ok (.invokevirtual 84, 3) := by decide +kernel
theorem dX4_table_17 : decode cX4_table 17 = .ok (.iconst 1, 1) := by decide +kernel
theorem dX4_table_18 : decode cX4_table 18 = .ok (.ireturn, 1) := by decide +kernel
set_option maxRecDepth 20000 in
theorem ggX4_exchange_X3_hasPair : GoodIn wsX4_exchange wsX3_hasPair := goodIn_r _ [6, 7, 8, 9, 5, 10, 11, 12, 13, 14, 15, 16, 17, 18, 19, 20, 21, 32, 33, 34, 35] (by decide +kernel) (by decide +kernel)
set_option maxRecDepth 20000 in
theorem gX4_exchange_X3_hasPair : GoodIn wsX4_exchange (wsV RX4 87 RX3 yX3_hasPair wsX3_hasPair) := goodIn_app (goodIn_of _ (by decide +kernel)) ggX4_exchange_X3_hasPair
set_option maxRecDepth 20000 in
theorem ggX4_exchange_X3_swap : GoodIn wsX4_exchange wsX3_swap := goodIn_r _ [25, 16, 26, 3, 4, 5, 6, 7, 8, 9, 10, 11, 12, 13, 14, 15, 17, 18, 19, 20, 21, 32, 33, 34, 35] (by decide +kernel) (by decide +kernel)
set_option maxRecDepth 20000 in
theorem gX4_exchange_X3_swap : GoodIn wsX4_exchange (wsV RX4 90 RX3 yX3_swap wsX3_swap) := goodIn_app (goodIn_of _ (by decide +kernel)) ggX4_exchange_X3_swap
theorem dX4_exchange_0 : decode cX4_exchange 0 = .ok (.aload_n 0, 1) := by decide +kernel
theorem dX4_exchange_1 : decode cX4_exchange 1 = .ok (.getfield 19, 3) := by decide +kernel
theorem dX4_exchange_4 : decode cX4_exchange 4 = .ok (.iload_n 1, 1) := by decide +kernel
theorem dX4_exchange_5 : decode cX4_exchange 5 = .ok (.iload_n 2, 1) := by decide +kernel
theorem dX4_exchange_6 : decode cX4_exchange 6 = .ok (.invokevirtual 87, 3) := by decide +kernel
theorem dX4_exchange_9 : decode cX4_exchange 9 = .ok (.ifCond .ne 5, 3) := by decide +kernel
theorem dX4_exchange_12 : decode cX4_exchange 12 = .ok (.iconst 0, 1) := by decide +kernel
theorem dX4_exchange_13 : decode cX4_exchange 13 = .ok (.ireturn, 1) := by decide +kernel
theorem dX4_exchange_14 : decode cX4_exchange 14 = .ok (.aload_n 0, 1) := by decide +kernel
theorem dX4_exchange_15 : decode cX4_exchange 15 = .ok (.getfield 19, 3) := by decide +kernel
theorem dX4_exchange_18 : decode cX4_exchange 18 = .ok (.iload_n 1, 1) := by decide +kernel
theorem dX4_exchange_19 : decode cX4_exchange 19 = .ok (.iload_n 2, 1) := by decide +kernel
theorem dX4_exchange_20 : decode cX4_exchange 20 = .ok (.invokevirtual 90, 3) := by decide +kernel
theorem dX4_exchange_23 : decode cX4_exchange 23 = .ok (.iconst 1, 1) := by decide +kernel
theorem dX4_exchange_24 : decode cX4_exchange 24 = .ok (.ireturn, 1) := by decide +kernel
set_option maxRecDepth 20000 in
theorem ggX4_number_X3_has : GoodIn wsX4_number wsX3_has := goodIn_r _ [6, 7, 8, 9, 5, 10, 11, 12, 13, 14, 15, 16, 17, 28, 29, 30, 31] (by decide +kernel) (by decide +kernel)
set_option maxRecDepth 20000 in
theorem gX4_number_X3_has : GoodIn wsX4_number (wsV RX4 93 RX3 yX3_has wsX3_has) := goodIn_app (goodIn_of _ (by decide +kernel)) ggX4_number_X3_has
set_option maxRecDepth 20000 in
theorem ggX4_number_X3_numberAt : GoodIn wsX4_number wsX3_numberAt := goodIn_r _ [21, 12, 22, 3, 4, 5, 6, 7, 8, 9, 10, 11, 13, 14, 15, 16, 17, 28, 29, 30, 31] (by decide +kernel) (by decide +kernel)
set_option maxRecDepth 20000 in
theorem gX4_number_X3_numberAt : GoodIn wsX4_number (wsV RX4 95 RX3 yX3_numberAt wsX3_numberAt) := goodIn_app (goodIn_of _ (by decide +kernel)) ggX4_number_X3_numberAt
theorem dX4_number_0 : decode cX4_number 0 = .ok (.aload_n 0, 1) := by decide +kernel
theorem dX4_number_1 : decode cX4_number 1 = .ok (.getfield 19, 3) := by decide +kernel
theorem dX4_number_4 : decode cX4_number 4 = .ok (.iload_n 1, 1) := by decide +kernel
theorem dX4_number_5 : decode cX4_number 5 = .ok (.invokevirtual 93, 3) := by decide +kernel
theorem dX4_number_8 : decode cX4_number 8 = .ok (.ifCond .eq 14, 3) := by decide +kernel
theorem dX4_number_11 : decode cX4_number 11 = .ok (.aload_n 0, 1) := by decide +kernel
theorem dX4_number_12 : decode cX4_number 12 = .ok (.getfield 19, 3) := by decide +kernel
theorem dX4_number_15 : decode cX4_number 15 = .ok (.iload_n 1, 1) := by decide +kernel
theorem dX4_number_16 : decode cX4_number 16 = .ok (.invokevirtual 95, 3) := by decide +kernel
theorem dX4_number_19 : decode cX4_number 19 = .ok (.goto 4, 3) := by decide +kernel
theorem dX4_number_22 : decode cX4_number 22 = .ok (.iconst (-1), 1) := by decide +kernel
theorem dX4_number_23 : decode cX4_number 23 = .ok (.ireturn, 1) := by decide +kernel
set_option maxRecDepth 20000 in
theorem ggX4_cost_X3_unevenness : GoodIn wsX4_cost wsX3_unevenness := goodIn_r _ [6, 7, 8, 9, 10, 11, 12, 13, 14, 15, 5, 16, 17, 18, 19, 20, 21, 22, 23, 24, 25, 31, 32, 33, 34] (by decide +kernel) (by decide +kernel)
set_option maxRecDepth 20000 in
theorem gX4_cost_X3_unevenness : GoodIn wsX4_cost (wsV RX4 99 RX3 yX3_unevenness wsX3_unevenness) := goodIn_app (goodIn_of _ (by decide +kernel)) ggX4_cost_X3_unevenness
theorem dX4_cost_0 : decode cX4_cost 0 = .ok (.aload_n 0, 1) := by decide +kernel
theorem dX4_cost_1 : decode cX4_cost 1 = .ok (.getfield 19, 3) := by decide +kernel
theorem dX4_cost_4 : decode cX4_cost 4 = .ok (.invokevirtual 99, 3) := by decide +kernel
theorem dX4_cost_7 : decode cX4_cost 7 = .ok (.lreturn, 1) := by decide +kernel
set_option maxRecDepth 20000 in
theorem ggX4_worth_X3_hasPair : GoodIn wsX4_worth wsX3_hasPair := goodIn_r _ [8, 9, 10, 11, 7, 12, 13, 14, 15, 16, 17, 18, 19, 20, 21, 22, 23, 42, 43, 44, 45] (by decide +kernel) (by decide +kernel)
set_option maxRecDepth 20000 in
theorem gX4_worth_X3_hasPair : GoodIn wsX4_worth (wsV RX4 87 RX3 yX3_hasPair wsX3_hasPair) := goodIn_app (goodIn_of _ (by decide +kernel)) ggX4_worth_X3_hasPair
set_option maxRecDepth 20000 in
theorem ggX4_worth_X3_gain : GoodIn wsX4_worth wsX3_gain := goodIn_r _ [27, 18, 20, 21, 22, 23, 28, 29, 30, 19, 31, 5, 6, 7, 8, 9, 10, 11, 12, 13, 14, 15, 16, 17, 32, 33, 34, 35, 36, 42, 43, 44, 45] (by decide +kernel) (by decide +kernel)
set_option maxRecDepth 20000 in
theorem gX4_worth_X3_gain : GoodIn wsX4_worth (wsV RX4 110 RX3 yX3_gain wsX3_gain) := goodIn_app (goodIn_of _ (by decide +kernel)) ggX4_worth_X3_gain
theorem dX4_worth_0 : decode cX4_worth 0 = .ok (.aload_n 0, 1) := by decide +kernel
theorem dX4_worth_1 : decode cX4_worth 1 = .ok (.getfield 19, 3) := by decide +kernel
theorem dX4_worth_4 : decode cX4_worth 4 = .ok (.iload_n 1, 1) := by decide +kernel
theorem dX4_worth_5 : decode cX4_worth 5 = .ok (.iload_n 2, 1) := by decide +kernel
theorem dX4_worth_6 : decode cX4_worth 6 = .ok (.invokevirtual 87, 3) := by decide +kernel
theorem dX4_worth_9 : decode cX4_worth 9 = .ok (.ifCond .ne 13, 3) := by decide +kernel
theorem dX4_worth_12 : decode cX4_worth 12 = .ok (.new 103, 3) := by decide +kernel
theorem dX4_worth_15 : decode cX4_worth 15 = .ok (.dup, 1) := by decide +kernel
theorem dX4_worth_16 : decode cX4_worth 16 = .ok (.ldc 105, 2) := by decide +kernel
theorem dX4_worth_18 : decode cX4_worth 18 = .ok (.invokespecial 107, 3) := by decide +kernel
theorem dX4_worth_21 : decode cX4_worth 21 = .ok (.athrow, 1) := by decide +kernel
theorem dX4_worth_22 : decode cX4_worth 22 = .ok (.aload_n 0, 1) := by decide +kernel
theorem dX4_worth_23 : decode cX4_worth 23 = .ok (.getfield 19, 3) := by decide +kernel
theorem dX4_worth_26 : decode cX4_worth 26 = .ok (.iload_n 1, 1) := by decide +kernel
theorem dX4_worth_27 : decode cX4_worth 27 = .ok (.iload_n 2, 1) := by decide +kernel
theorem dX4_worth_28 : decode cX4_worth 28 = .ok (.invokevirtual 110, 3) := by decide +kernel
theorem dX4_worth_31 : decode cX4_worth 31 = .ok (.lreturn, 1) := by decide +kernel
set_option maxRecDepth 20000 in
theorem ggX4_even_X3_side : GoodIn wsX4_even wsX3_side := goodIn_r _ [6, 7, 51, 52, 53, 54] (by decide +kernel) (by decide +kernel)
set_option maxRecDepth 20000 in
theorem gX4_even_X3_side : GoodIn wsX4_even (wsV RX4 114 RX3 yX3_side wsX3_side) := goodIn_app (goodIn_of _ (by decide +kernel)) ggX4_even_X3_side
set_option maxRecDepth 20000 in
theorem ggX4_even_X3_swapBest : GoodIn wsX4_even wsX3_swapBest := goodIn_r _ [11, 12, 13, 14, 5, 15, 7, 16, 17, 18, 19, 20, 21, 22, 23, 24, 25, 26, 27, 28, 29, 30, 31, 32, 33, 34, 35, 36, 37, 38, 39, 40, 41, 42, 43, 44, 45, 51, 52, 53, 54] (by decide +kernel) (by decide +kernel)
set_option maxRecDepth 20000 in
theorem gX4_even_X3_swapBest : GoodIn wsX4_even (wsV RX4 118 RX3 yX3_swapBest wsX3_swapBest) := goodIn_app (goodIn_of _ (by decide +kernel)) ggX4_even_X3_swapBest
theorem dX4_even_0 : decode cX4_even 0 = .ok (.iload_n 1, 1) := by decide +kernel
theorem dX4_even_1 : decode cX4_even 1 = .ok (.ifCond .lt 20, 3) := by decide +kernel
theorem dX4_even_4 : decode cX4_even 4 = .ok (.iload_n 1, 1) := by decide +kernel
theorem dX4_even_5 : decode cX4_even 5 = .ok (.bipush 100, 2) := by decide +kernel
theorem dX4_even_7 : decode cX4_even 7 = .ok (.if_icmp .gt 14, 3) := by decide +kernel
theorem dX4_even_10 : decode cX4_even 10 = .ok (.aload_n 0, 1) := by decide +kernel
theorem dX4_even_11 : decode cX4_even 11 = .ok (.getfield 19, 3) := by decide +kernel
theorem dX4_even_14 : decode cX4_even 14 = .ok (.invokevirtual 114, 3) := by decide +kernel
theorem dX4_even_17 : decode cX4_even 17 = .ok (.iconst 5, 1) := by decide +kernel
theorem dX4_even_18 : decode cX4_even 18 = .ok (.if_icmp .le 5, 3) := by decide +kernel
theorem dX4_even_21 : decode cX4_even 21 = .ok (.iconst (-1), 1) := by decide +kernel
theorem dX4_even_22 : decode cX4_even 22 = .ok (.ireturn, 1) := by decide +kernel
theorem dX4_even_23 : decode cX4_even 23 = .ok (.iconst 0, 1) := by decide +kernel
theorem dX4_even_24 : decode cX4_even 24 = .ok (.istore_n 2, 1) := by decide +kernel
theorem dX4_even_25 : decode cX4_even 25 = .ok (.iload_n 2, 1) := by decide +kernel
theorem dX4_even_26 : decode cX4_even 26 = .ok (.iload_n 1, 1) := by decide +kernel
theorem dX4_even_27 : decode cX4_even 27 = .ok (.if_icmp .ge 19, 3) := by decide +kernel
theorem dX4_even_30 : decode cX4_even 30 = .ok (.aload_n 0, 1) := by decide +kernel
theorem dX4_even_31 : decode cX4_even 31 = .ok (.getfield 19, 3) := by decide +kernel
theorem dX4_even_34 : decode cX4_even 34 = .ok (.invokevirtual 118, 3) := by decide +kernel
theorem dX4_even_37 : decode cX4_even 37 = .ok (.ifCond .eq 9, 3) := by decide +kernel
theorem dX4_even_40 : decode cX4_even 40 = .ok (.iinc 2 1, 3) := by decide +kernel
theorem dX4_even_43 : decode cX4_even 43 = .ok (.goto (-18), 3) := by decide +kernel
theorem dX4_even_46 : decode cX4_even 46 = .ok (.iload_n 2, 1) := by decide +kernel
theorem dX4_even_47 : decode cX4_even 47 = .ok (.ireturn, 1) := by decide +kernel
theorem dX4_back_0 : decode cX4_back 0 = .ok (.aload_n 0, 1) := by decide +kernel
theorem dX4_back_1 : decode cX4_back 1 = .ok (.getfield 37, 3) := by decide +kernel
theorem dX4_back_4 : decode cX4_back 4 = .ok (.iload_n 1, 1) := by decide +kernel
theorem dX4_back_5 : decode cX4_back 5 = .ok (.if_icmp .ne 5, 3) := by decide +kernel
theorem dX4_back_8 : decode cX4_back 8 = .ok (.iconst 0, 1) := by decide +kernel
theorem dX4_back_9 : decode cX4_back 9 = .ok (.ireturn, 1) := by decide +kernel
theorem dX4_back_10 : decode cX4_back 10 = .ok (.aload_n 0, 1) := by decide +kernel
theorem dX4_back_11 : decode cX4_back 11 = .ok (.iload_n 1, 1) := by decide +kernel
theorem dX4_back_12 : decode cX4_back 12 = .ok (.putfield 37, 3) := by decide +kernel
theorem dX4_back_15 : decode cX4_back 15 = .ok (.iconst 1, 1) := by decide +kernel
theorem dX4_back_16 : decode cX4_back 16 = .ok (.ireturn, 1) := by decide +kernel
set_option maxRecDepth 20000 in
theorem ggX4_net_X1_allows : GoodIn wsX4_net wsX1_allows := goodIn_r _ [5] (by decide +kernel) (by decide +kernel)
set_option maxRecDepth 20000 in
theorem gX4_net_X1_allows : GoodIn wsX4_net (va_wsS RX4 122 yX1_allows wsX1_allows) := goodIn_app (goodIn_of _ (by decide +kernel)) ggX4_net_X1_allows
set_option maxRecDepth 20000 in
theorem ggX4_net_X1_renew : GoodIn wsX4_net wsX1_renew := goodIn_r _ [9, 10, 11, 12, 13, 14, 15, 16, 17, 18, 19, 20, 21, 22, 23, 4, 24, 25, 26, 27, 28, 29, 30, 31, 32, 33, 34, 35, 36, 37, 38, 39, 45, 46, 47, 48, 49] (by decide +kernel) (by decide +kernel)
set_option maxRecDepth 20000 in
theorem gX4_net_X1_renew : GoodIn wsX4_net (wsV RX4 124 RX1 yX1_renew wsX1_renew) := goodIn_app (goodIn_of _ (by decide +kernel)) ggX4_net_X1_renew
theorem dX4_net_0 : decode cX4_net 0 = .ok (.iload_n 1, 1) := by decide +kernel
theorem dX4_net_1 : decode cX4_net 1 = .ok (.iload_n 2, 1) := by decide +kernel
theorem dX4_net_2 : decode cX4_net 2 = .ok (.invokestatic 122, 3) := by decide +kernel
theorem dX4_net_5 : decode cX4_net 5 = .ok (.ifCond .ne 5, 3) := by decide +kernel
theorem dX4_net_8 : decode cX4_net 8 = .ok (.iconst 0, 1) := by decide +kernel
theorem dX4_net_9 : decode cX4_net 9 = .ok (.ireturn, 1) := by decide +kernel
theorem dX4_net_10 : decode cX4_net 10 = .ok (.aload_n 0, 1) := by decide +kernel
theorem dX4_net_11 : decode cX4_net 11 = .ok (.getfield 33, 3) := by decide +kernel
theorem dX4_net_14 : decode cX4_net 14 = .ok (.iload_n 1, 1) := by decide +kernel
theorem dX4_net_15 : decode cX4_net 15 = .ok (.iload_n 2, 1) := by decide +kernel
theorem dX4_net_16 : decode cX4_net 16 = .ok (.invokevirtual 124, 3) := by decide +kernel
theorem dX4_net_19 : decode cX4_net 19 = .ok (.iconst 1, 1) := by decide +kernel
theorem dX4_net_20 : decode cX4_net 20 = .ok (.ireturn, 1) := by decide +kernel
set_option maxRecDepth 20000 in
theorem ggX4_dot_X4_dots : GoodIn wsX4_dot wsX4_dots := goodIn_r _ [5, 6, 7, 8, 9, 10, 11, 12, 13, 14, 15, 16, 17, 18, 19, 20, 21, 22, 23, 24, 25, 26, 27, 28, 29, 30, 31, 32, 33, 34, 35, 36, 37, 38, 39, 40, 41, 42, 43, 44, 45, 46, 47, 48, 49, 50, 51, 52, 53, 54, 55, 56, 57, 58, 59, 60, 61, 62, 63, 64, 65, 66, 67, 68, 69, 70, 71, 72, 73, 74, 75, 76, 77, 78, 79, 80, 81, 4, 82, 83, 84, 85, 86, 87, 88, 89, 90, 91, 92, 93, 94, 95, 96, 97, 98, 99, 100, 101, 102, 103, 104, 105, 106, 107, 108, 109, 110, 111, 112, 113, 114, 115, 116, 117, 118, 119, 120, 121, 122, 123, 124, 125, 126, 127, 128, 129, 130, 131, 132, 133, 134, 135, 136, 137, 138, 139, 140, 141, 142, 143, 144, 145, 146, 147, 148, 149, 150, 151, 152, 153, 154, 155, 156, 157, 158, 159, 160, 161, 162, 163] (by decide +kernel) (by decide +kernel)
set_option maxRecDepth 20000 in
theorem gX4_dot_X4_dots : GoodIn wsX4_dot (wsV RX4 125 RX4 yX4_dots wsX4_dots) := goodIn_app (goodIn_of _ (by decide +kernel)) ggX4_dot_X4_dots
theorem dX4_dot_0 : decode cX4_dot 0 = .ok (.aload_n 0, 1) := by decide +kernel
theorem dX4_dot_1 : decode cX4_dot 1 = .ok (.iload_n 1, 1) := by decide +kernel
theorem dX4_dot_2 : decode cX4_dot 2 = .ok (.iload_n 2, 1) := by decide +kernel
theorem dX4_dot_3 : decode cX4_dot 3 = .ok (.iload_n 3, 1) := by decide +kernel
theorem dX4_dot_4 : decode cX4_dot 4 = .ok (.iconst 1, 1) := by decide +kernel
theorem dX4_dot_5 : decode cX4_dot 5 = .ok (.iconst 1, 1) := by decide +kernel
theorem dX4_dot_6 : decode cX4_dot 6 = .ok (.invokevirtual 125, 3) := by decide +kernel
theorem dX4_dot_9 : decode cX4_dot 9 = .ok (.ireturn, 1) := by decide +kernel
set_option maxRecDepth 20000 in
theorem ggX4_dots_X2_hasBox : GoodIn wsX4_dots wsX2_hasBox := goodIn_r _ [8, 9, 10, 11, 12, 13, 7, 14, 143, 144, 145, 146] (by decide +kernel) (by decide +kernel)
set_option maxRecDepth 20000 in
theorem gX4_dots_X2_hasBox : GoodIn wsX4_dots (wsV RX4 60 RX2 yX2_hasBox wsX2_hasBox) := goodIn_app (goodIn_of _ (by decide +kernel)) ggX4_dots_X2_hasBox
set_option maxRecDepth 20000 in
theorem ggX4_dots_X0_goOver : GoodIn wsX4_dots wsX0_goOver := goodIn_r _ [19, 20, 21, 22, 23, 24, 25, 26, 27, 28, 29, 30, 31, 32, 33, 7, 34, 10, 35, 36, 37, 18, 38, 39, 40, 41, 42, 9, 43, 44, 45, 46, 47, 48, 49, 50, 51, 52, 53, 54, 55, 11, 12, 13, 14, 56, 57, 58, 59, 60, 61, 62, 63, 64, 65, 66, 67, 68, 69, 70, 71, 72, 73, 147, 148, 149, 150, 143, 144, 145, 146] (by decide +kernel) (by decide +kernel)
set_option maxRecDepth 20000 in
theorem gX4_dots_X0_goOver : GoodIn wsX4_dots (wsV RX4 129 RX0 yX0_goOver wsX0_goOver) := goodIn_app (goodIn_of _ (by decide +kernel)) ggX4_dots_X0_goOver
set_option maxRecDepth 20000 in
theorem ggX4_dots_X4_isInked : GoodIn wsX4_dots wsX4_isInked := goodIn_r _ [78, 1, 2, 79, 80, 81, 58, 59, 7, 60, 61, 11, 12, 13, 14, 9, 10, 56, 49, 50, 82, 52, 53, 54, 55, 83, 84, 85, 18, 86, 47, 48, 87, 88, 89, 90, 91, 92, 93, 77, 94, 95, 96, 68, 97, 98, 99, 100, 101, 102, 103, 104, 105, 106, 107, 108, 109, 110, 111, 112, 113, 114, 115, 116, 117, 118, 119, 120, 121, 122, 123, 124, 125, 126, 127, 128, 129, 130, 131, 132, 133, 134, 135, 136, 137, 138, 139, 140, 141, 142, 143, 144, 145, 146, 147, 148, 149, 150, 151, 152, 153, 154, 155, 156, 157, 158, 159] (by decide +kernel) (by decide +kernel)
set_option maxRecDepth 20000 in
theorem gX4_dots_X4_isInked : GoodIn wsX4_dots (wsV RX4 133 RX4 yX4_isInked wsX4_isInked) := goodIn_app (goodIn_of _ (by decide +kernel)) ggX4_dots_X4_isInked
theorem dX4_dots_0 : decode cX4_dots 0 = .ok (.iload_n 1, 1) := by decide +kernel
theorem dX4_dots_1 : decode cX4_dots 1 = .ok (.ifCond .lt 24, 3) := by decide +kernel
theorem dX4_dots_4 : decode cX4_dots 4 = .ok (.iload_n 1, 1) := by decide +kernel
theorem dX4_dots_5 : decode cX4_dots 5 = .ok (.iconst 2, 1) := by decide +kernel
theorem dX4_dots_6 : decode cX4_dots 6 = .ok (.if_icmp .gt 19, 3) := by decide +kernel
theorem dX4_dots_9 : decode cX4_dots 9 = .ok (.aload_n 0, 1) := by decide +kernel
theorem dX4_dots_10 : decode cX4_dots 10 = .ok (.getfield 10, 3) := by decide +kernel
theorem dX4_dots_13 : decode cX4_dots 13 = .ok (.iload_n 2, 1) := by decide +kernel
theorem dX4_dots_14 : decode cX4_dots 14 = .ok (.iload_n 3, 1) := by decide +kernel
theorem dX4_dots_15 : decode cX4_dots 15 = .ok (.iload 4, 2) := by decide +kernel
theorem dX4_dots_17 : decode cX4_dots 17 = .ok (.iload 5, 2) := by decide +kernel
theorem dX4_dots_19 : decode cX4_dots 19 = .ok (.invokevirtual 60, 3) := by decide +kernel
theorem dX4_dots_22 : decode cX4_dots 22 = .ok (.ifCond .ne 5, 3) := by decide +kernel
theorem dX4_dots_25 : decode cX4_dots 25 = .ok (.iconst (-1), 1) := by decide +kernel
theorem dX4_dots_26 : decode cX4_dots 26 = .ok (.ireturn, 1) := by decide +kernel
theorem dX4_dots_27 : decode cX4_dots 27 = .ok (.iload_n 1, 1) := by decide +kernel
theorem dX4_dots_28 : decode cX4_dots 28 = .ok (.iconst 1, 1) := by decide +kernel
theorem dX4_dots_29 : decode cX4_dots 29 = .ok (.if_icmp .ne 18, 3) := by decide +kernel
theorem dX4_dots_32 : decode cX4_dots 32 = .ok (.aload_n 0, 1) := by decide +kernel
theorem dX4_dots_33 : decode cX4_dots 33 = .ok (.getfield 26, 3) := by decide +kernel
theorem dX4_dots_36 : decode cX4_dots 36 = .ok (.aload_n 0, 1) := by decide +kernel
theorem dX4_dots_37 : decode cX4_dots 37 = .ok (.getfield 10, 3) := by decide +kernel
theorem dX4_dots_40 : decode cX4_dots 40 = .ok (.aload_n 0, 1) := by decide +kernel
theorem dX4_dots_41 : decode cX4_dots 41 = .ok (.getfield 37, 3) := by decide +kernel
theorem dX4_dots_44 : decode cX4_dots 44 = .ok (.invokevirtual 129, 3) := by decide +kernel
theorem dX4_dots_47 : decode cX4_dots 47 = .ok (.iconst 0, 1) := by decide +kernel
theorem dX4_dots_48 : decode cX4_dots 48 = .ok (.istore 6, 2) := by decide +kernel
theorem dX4_dots_50 : decode cX4_dots 50 = .ok (.iload_n 3, 1) := by decide +kernel
theorem dX4_dots_51 : decode cX4_dots 51 = .ok (.istore 7, 2) := by decide +kernel
theorem dX4_dots_53 : decode cX4_dots 53 = .ok (.iload 7, 2) := by decide +kernel
theorem dX4_dots_55 : decode cX4_dots 55 = .ok (.iload_n 3, 1) := by decide +kernel
theorem dX4_dots_56 : decode cX4_dots 56 = .ok (.iload 5, 2) := by decide +kernel
theorem dX4_dots_58 : decode cX4_dots 58 = .ok (.iadd, 1) := by decide +kernel
theorem dX4_dots_59 : decode cX4_dots 59 = .ok (.if_icmp .ge 42, 3) := by decide +kernel
theorem dX4_dots_62 : decode cX4_dots 62 = .ok (.iload_n 2, 1) := by decide +kernel
theorem dX4_dots_63 : decode cX4_dots 63 = .ok (.istore 8, 2) := by decide +kernel
theorem dX4_dots_65 : decode cX4_dots 65 = .ok (.iload 8, 2) := by decide +kernel
theorem dX4_dots_67 : decode cX4_dots 67 = .ok (.iload_n 2, 1) := by decide +kernel
theorem dX4_dots_68 : decode cX4_dots 68 = .ok (.iload 4, 2) := by decide +kernel
theorem dX4_dots_70 : decode cX4_dots 70 = .ok (.iadd, 1) := by decide +kernel
theorem dX4_dots_71 : decode cX4_dots 71 = .ok (.if_icmp .ge 24, 3) := by decide +kernel
theorem dX4_dots_74 : decode cX4_dots 74 = .ok (.aload_n 0, 1) := by decide +kernel
theorem dX4_dots_75 : decode cX4_dots 75 = .ok (.iload_n 1, 1) := by decide +kernel
theorem dX4_dots_76 : decode cX4_dots 76 = .ok (.iload 8, 2) := by decide +kernel
theorem dX4_dots_78 : decode cX4_dots 78 = .ok (.iload 7, 2) := by decide +kernel
theorem dX4_dots_80 : decode cX4_dots 80 = .ok (.invokevirtual 133, 3) := by decide +kernel
theorem dX4_dots_83 : decode cX4_dots 83 = .ok (.ifCond .eq 6, 3) := by decide +kernel
theorem dX4_dots_86 : decode cX4_dots 86 = .ok (.iinc 6 1, 3) := by decide +kernel
theorem dX4_dots_89 : decode cX4_dots 89 = .ok (.iinc 8 1, 3) := by decide +kernel
theorem dX4_dots_92 : decode cX4_dots 92 = .ok (.goto (-27), 3) := by decide +kernel
theorem dX4_dots_95 : decode cX4_dots 95 = .ok (.iinc 7 1, 3) := by decide +kernel
theorem dX4_dots_98 : decode cX4_dots 98 = .ok (.goto (-45), 3) := by decide +kernel
theorem dX4_dots_101 : decode cX4_dots 101 = .ok (.iload 6, 2) := by decide +kernel
theorem dX4_dots_103 : decode cX4_dots 103 = .ok (.ireturn, 1) := by decide +kernel
set_option maxRecDepth 20000 in
theorem ggX4_read_X4_dots : GoodIn wsX4_read wsX4_dots := goodIn_r _ [5, 6, 7, 8, 9, 10, 11, 12, 13, 14, 15, 16, 17, 18, 19, 20, 21, 22, 23, 24, 25, 26, 27, 28, 29, 30, 31, 32, 33, 34, 35, 36, 37, 38, 39, 40, 41, 42, 43, 44, 45, 46, 47, 48, 49, 50, 51, 52, 53, 54, 55, 56, 57, 58, 59, 60, 61, 62, 63, 64, 65, 66, 67, 68, 69, 70, 71, 72, 73, 74, 75, 76, 77, 78, 79, 80, 81, 4, 82, 83, 84, 85, 86, 87, 88, 89, 90, 91, 92, 93, 94, 95, 96, 97, 98, 99, 100, 101, 102, 103, 104, 105, 106, 107, 108, 109, 110, 111, 112, 113, 114, 115, 116, 117, 118, 119, 120, 121, 122, 123, 124, 125, 126, 127, 128, 129, 130, 131, 132, 133, 134, 135, 136, 137, 138, 139, 140, 141, 142, 143, 144, 145, 146, 147, 148, 149, 150, 151, 152, 153, 154, 155, 156, 157, 158, 159, 160, 161, 162, 163] (by decide +kernel) (by decide +kernel)
set_option maxRecDepth 20000 in
theorem gX4_read_X4_dots : GoodIn wsX4_read (wsV RX4 125 RX4 yX4_dots wsX4_dots) := goodIn_app (goodIn_of _ (by decide +kernel)) ggX4_read_X4_dots
theorem dX4_read_0 : decode cX4_read 0 = .ok (.aload_n 0, 1) := by decide +kernel
theorem dX4_read_1 : decode cX4_read 1 = .ok (.iload_n 1, 1) := by decide +kernel
theorem dX4_read_2 : decode cX4_read 2 = .ok (.iload_n 2, 1) := by decide +kernel
theorem dX4_read_3 : decode cX4_read 3 = .ok (.iload_n 3, 1) := by decide +kernel
theorem dX4_read_4 : decode cX4_read 4 = .ok (.iload 4, 2) := by decide +kernel
theorem dX4_read_6 : decode cX4_read 6 = .ok (.iload 5, 2) := by decide +kernel
theorem dX4_read_8 : decode cX4_read 8 = .ok (.invokevirtual 125, 3) := by decide +kernel
theorem dX4_read_11 : decode cX4_read 11 = .ok (.istore 6, 2) := by decide +kernel
theorem dX4_read_13 : decode cX4_read 13 = .ok (.iload 6, 2) := by decide +kernel
theorem dX4_read_15 : decode cX4_read 15 = .ok (.iconst (-1), 1) := by decide +kernel
theorem dX4_read_16 : decode cX4_read 16 = .ok (.if_icmp .ne 5, 3) := by decide +kernel
theorem dX4_read_19 : decode cX4_read 19 = .ok (.iconst (-1), 1) := by decide +kernel
theorem dX4_read_20 : decode cX4_read 20 = .ok (.ireturn, 1) := by decide +kernel
theorem dX4_read_21 : decode cX4_read 21 = .ok (.iload 4, 2) := by decide +kernel
theorem dX4_read_23 : decode cX4_read 23 = .ok (.iload 5, 2) := by decide +kernel
theorem dX4_read_25 : decode cX4_read 25 = .ok (.imul, 1) := by decide +kernel
theorem dX4_read_26 : decode cX4_read 26 = .ok (.istore 7, 2) := by decide +kernel
theorem dX4_read_28 : decode cX4_read 28 = .ok (.iload 7, 2) := by decide +kernel
theorem dX4_read_30 : decode cX4_read 30 = .ok (.iconst 1, 1) := by decide +kernel
theorem dX4_read_31 : decode cX4_read 31 = .ok (.if_icmp .ge 7, 3) := by decide +kernel
theorem dX4_read_34 : decode cX4_read 34 = .ok (.iconst (-1), 1) := by decide +kernel
theorem dX4_read_35 : decode cX4_read 35 = .ok (.goto 17, 3) := by decide +kernel
theorem dX4_read_38 : decode cX4_read 38 = .ok (.sipush 510, 3) := by decide +kernel
theorem dX4_read_41 : decode cX4_read 41 = .ok (.iload 6, 2) := by decide +kernel
theorem dX4_read_43 : decode cX4_read 43 = .ok (.imul, 1) := by decide +kernel
theorem dX4_read_44 : decode cX4_read 44 = .ok (.iload 7, 2) := by decide +kernel
theorem dX4_read_46 : decode cX4_read 46 = .ok (.iadd, 1) := by decide +kernel
theorem dX4_read_47 : decode cX4_read 47 = .ok (.iconst 2, 1) := by decide +kernel
theorem dX4_read_48 : decode cX4_read 48 = .ok (.iload 7, 2) := by decide +kernel
theorem dX4_read_50 : decode cX4_read 50 = .ok (.imul, 1) := by decide +kernel
theorem dX4_read_51 : decode cX4_read 51 = .ok (.idiv, 1) := by decide +kernel
theorem dX4_read_52 : decode cX4_read 52 = .ok (.ireturn, 1) := by decide +kernel
set_option maxRecDepth 20000 in
theorem ggX4_lost_X0_goOver : GoodIn wsX4_lost wsX0_goOver := goodIn_r _ [8, 9, 10, 11, 12, 13, 14, 15, 16, 17, 18, 19, 20, 21, 22, 23, 24, 25, 26, 27, 28, 7, 29, 30, 31, 32, 33, 34, 35, 36, 37, 38, 39, 40, 41, 42, 43, 44, 45, 46, 47, 48, 49, 50, 51, 52, 53, 54, 55, 56, 57, 58, 59, 60, 61, 62, 63, 64, 65, 66, 67, 68, 69, 79, 80, 81, 82, 83, 84, 85, 86] (by decide +kernel) (by decide +kernel)
set_option maxRecDepth 20000 in
theorem gX4_lost_X0_goOver : GoodIn wsX4_lost (wsV RX4 129 RX0 yX0_goOver wsX0_goOver) := goodIn_app (goodIn_of _ (by decide +kernel)) ggX4_lost_X0_goOver
set_option maxRecDepth 20000 in
theorem ggX4_lost_X0_gone : GoodIn wsX4_lost wsX0_gone := goodIn_r _ [73, 9, 79, 80, 81, 82] (by decide +kernel) (by decide +kernel)
set_option maxRecDepth 20000 in
theorem gX4_lost_X0_gone : GoodIn wsX4_lost (wsV RX4 137 RX0 yX0_gone wsX0_gone) := goodIn_app (goodIn_of _ (by decide +kernel)) ggX4_lost_X0_gone
theorem dX4_lost_0 : decode cX4_lost 0 = .ok (.aload_n 0, 1) := by decide +kernel
theorem dX4_lost_1 : decode cX4_lost 1 = .ok (.getfield 26, 3) := by decide +kernel
theorem dX4_lost_4 : decode cX4_lost 4 = .ok (.aload_n 0, 1) := by decide +kernel
theorem dX4_lost_5 : decode cX4_lost 5 = .ok (.getfield 10, 3) := by decide +kernel
theorem dX4_lost_8 : decode cX4_lost 8 = .ok (.aload_n 0, 1) := by decide +kernel
theorem dX4_lost_9 : decode cX4_lost 9 = .ok (.getfield 37, 3) := by decide +kernel
theorem dX4_lost_12 : decode cX4_lost 12 = .ok (.invokevirtual 129, 3) := by decide +kernel
theorem dX4_lost_15 : decode cX4_lost 15 = .ok (.aload_n 0, 1) := by decide +kernel
theorem dX4_lost_16 : decode cX4_lost 16 = .ok (.getfield 26, 3) := by decide +kernel
theorem dX4_lost_19 : decode cX4_lost 19 = .ok (.invokevirtual 137, 3) := by decide +kernel
theorem dX4_lost_22 : decode cX4_lost 22 = .ok (.ireturn, 1) := by decide +kernel
set_option maxRecDepth 20000 in
theorem ggX4_rank_X1_rankAt : GoodIn wsX4_rank wsX1_rankAt := goodIn_r _ [6, 7, 8, 9, 5, 10, 11, 12, 13, 14, 15, 16, 17, 18, 19, 20, 21, 22, 23, 24, 25, 26, 32, 33, 34, 35, 36] (by decide +kernel) (by decide +kernel)
set_option maxRecDepth 20000 in
theorem gX4_rank_X1_rankAt : GoodIn wsX4_rank (wsV RX4 140 RX1 yX1_rankAt wsX1_rankAt) := goodIn_app (goodIn_of _ (by decide +kernel)) ggX4_rank_X1_rankAt
theorem dX4_rank_0 : decode cX4_rank 0 = .ok (.iload_n 1, 1) := by decide +kernel
theorem dX4_rank_1 : decode cX4_rank 1 = .ok (.ifCond .lt 21, 3) := by decide +kernel
theorem dX4_rank_4 : decode cX4_rank 4 = .ok (.iload_n 1, 1) := by decide +kernel
theorem dX4_rank_5 : decode cX4_rank 5 = .ok (.sipush 1000, 3) := by decide +kernel
theorem dX4_rank_8 : decode cX4_rank 8 = .ok (.if_icmp .gt 14, 3) := by decide +kernel
theorem dX4_rank_11 : decode cX4_rank 11 = .ok (.iload_n 2, 1) := by decide +kernel
theorem dX4_rank_12 : decode cX4_rank 12 = .ok (.ifCond .lt 10, 3) := by decide +kernel
theorem dX4_rank_15 : decode cX4_rank 15 = .ok (.iload_n 2, 1) := by decide +kernel
theorem dX4_rank_16 : decode cX4_rank 16 = .ok (.sipush 1000, 3) := by decide +kernel
theorem dX4_rank_19 : decode cX4_rank 19 = .ok (.if_icmp .le 5, 3) := by decide +kernel
theorem dX4_rank_22 : decode cX4_rank 22 = .ok (.iconst (-1), 1) := by decide +kernel
theorem dX4_rank_23 : decode cX4_rank 23 = .ok (.ireturn, 1) := by decide +kernel
theorem dX4_rank_24 : decode cX4_rank 24 = .ok (.aload_n 0, 1) := by decide +kernel
theorem dX4_rank_25 : decode cX4_rank 25 = .ok (.getfield 33, 3) := by decide +kernel
theorem dX4_rank_28 : decode cX4_rank 28 = .ok (.iload_n 1, 1) := by decide +kernel
theorem dX4_rank_29 : decode cX4_rank 29 = .ok (.iload_n 2, 1) := by decide +kernel
theorem dX4_rank_30 : decode cX4_rank 30 = .ok (.invokevirtual 140, 3) := by decide +kernel
theorem dX4_rank_33 : decode cX4_rank 33 = .ok (.ireturn, 1) := by decide +kernel
set_option maxRecDepth 20000 in
theorem ggX4_beat_X1_allows : GoodIn wsX4_beat wsX1_allows := goodIn_r _ [6] (by decide +kernel) (by decide +kernel)
set_option maxRecDepth 20000 in
theorem gX4_beat_X1_allows : GoodIn wsX4_beat (va_wsS RX4 122 yX1_allows wsX1_allows) := goodIn_app (goodIn_of _ (by decide +kernel)) ggX4_beat_X1_allows
set_option maxRecDepth 20000 in
theorem ggX4_beat_X1_beatAbove : GoodIn wsX4_beat wsX1_beatAbove := goodIn_r _ [10, 11, 12, 13, 14, 15, 16, 17, 18, 19, 20, 34, 35, 36, 37, 38] (by decide +kernel) (by decide +kernel)
set_option maxRecDepth 20000 in
theorem gX4_beat_X1_beatAbove : GoodIn wsX4_beat (wsV RX4 145 RX1 yX1_beatAbove wsX1_beatAbove) := goodIn_app (goodIn_of _ (by decide +kernel)) ggX4_beat_X1_beatAbove
set_option maxRecDepth 20000 in
theorem ggX4_beat_X1_beatBelow : GoodIn wsX4_beat wsX1_beatBelow := goodIn_r _ [24, 17, 34, 35, 36, 37, 38] (by decide +kernel) (by decide +kernel)
set_option maxRecDepth 20000 in
theorem gX4_beat_X1_beatBelow : GoodIn wsX4_beat (wsV RX4 148 RX1 yX1_beatBelow wsX1_beatBelow) := goodIn_app (goodIn_of _ (by decide +kernel)) ggX4_beat_X1_beatBelow
set_option maxRecDepth 20000 in
theorem ggX4_beat_X4_commonDivisor : GoodIn wsX4_beat wsX4_commonDivisor := goodIn_r _ [28] (by decide +kernel) (by decide +kernel)
set_option maxRecDepth 20000 in
theorem gX4_beat_X4_commonDivisor : GoodIn wsX4_beat (va_wsS RX4 151 yX4_commonDivisor wsX4_commonDivisor) := goodIn_app (goodIn_of _ (by decide +kernel)) ggX4_beat_X4_commonDivisor
theorem dX4_beat_0 : decode cX4_beat 0 = .ok (.iload_n 1, 1) := by decide +kernel
theorem dX4_beat_1 : decode cX4_beat 1 = .ok (.iload_n 2, 1) := by decide +kernel
theorem dX4_beat_2 : decode cX4_beat 2 = .ok (.invokestatic 122, 3) := by decide +kernel
theorem dX4_beat_5 : decode cX4_beat 5 = .ok (.ifCond .eq 12, 3) := by decide +kernel
theorem dX4_beat_8 : decode cX4_beat 8 = .ok (.iload_n 3, 1) := by decide +kernel
theorem dX4_beat_9 : decode cX4_beat 9 = .ok (.ifCond .lt 8, 3) := by decide +kernel
theorem dX4_beat_12 : decode cX4_beat 12 = .ok (.iload_n 3, 1) := by decide +kernel
theorem dX4_beat_13 : decode cX4_beat 13 = .ok (.iconst 1, 1) := by decide +kernel
theorem dX4_beat_14 : decode cX4_beat 14 = .ok (.if_icmp .le 7, 3) := by decide +kernel
theorem dX4_beat_17 : decode cX4_beat 17 = .ok (.ldc2_w 143, 3) := by decide +kernel
theorem dX4_beat_20 : decode cX4_beat 20 = .ok (.lreturn, 1) := by decide +kernel
theorem dX4_beat_21 : decode cX4_beat 21 = .ok (.aload_n 0, 1) := by decide +kernel
theorem dX4_beat_22 : decode cX4_beat 22 = .ok (.getfield 33, 3) := by decide +kernel
theorem dX4_beat_25 : decode cX4_beat 25 = .ok (.iload_n 1, 1) := by decide +kernel
theorem dX4_beat_26 : decode cX4_beat 26 = .ok (.iload_n 2, 1) := by decide +kernel
theorem dX4_beat_27 : decode cX4_beat 27 = .ok (.invokevirtual 145, 3) := by decide +kernel
theorem dX4_beat_30 : decode cX4_beat 30 = .ok (.istore 4, 2) := by decide +kernel
theorem dX4_beat_32 : decode cX4_beat 32 = .ok (.aload_n 0, 1) := by decide +kernel
theorem dX4_beat_33 : decode cX4_beat 33 = .ok (.getfield 33, 3) := by decide +kernel
theorem dX4_beat_36 : decode cX4_beat 36 = .ok (.iload_n 1, 1) := by decide +kernel
theorem dX4_beat_37 : decode cX4_beat 37 = .ok (.iload_n 2, 1) := by decide +kernel
theorem dX4_beat_38 : decode cX4_beat 38 = .ok (.invokevirtual 148, 3) := by decide +kernel
theorem dX4_beat_41 : decode cX4_beat 41 = .ok (.istore 5, 2) := by decide +kernel
theorem dX4_beat_43 : decode cX4_beat 43 = .ok (.iload 4, 2) := by decide +kernel
theorem dX4_beat_45 : decode cX4_beat 45 = .ok (.iload 5, 2) := by decide +kernel
theorem dX4_beat_47 : decode cX4_beat 47 = .ok (.invokestatic 151, 3) := by decide +kernel
theorem dX4_beat_50 : decode cX4_beat 50 = .ok (.istore 6, 2) := by decide +kernel
theorem dX4_beat_52 : decode cX4_beat 52 = .ok (.iload_n 3, 1) := by decide +kernel
theorem dX4_beat_53 : decode cX4_beat 53 = .ok (.ifCond .ne 8, 3) := by decide +kernel
theorem dX4_beat_56 : decode cX4_beat 56 = .ok (.iload 4, 2) := by decide +kernel
theorem dX4_beat_58 : decode cX4_beat 58 = .ok (.goto 5, 3) := by decide +kernel
theorem dX4_beat_61 : decode cX4_beat 61 = .ok (.iload 5, 2) := by decide +kernel
theorem dX4_beat_63 : decode cX4_beat 63 = .ok (.istore 7, 2) := by decide +kernel
theorem dX4_beat_65 : decode cX4_beat 65 = .ok (.iload 6, 2) := by decide +kernel
theorem dX4_beat_67 : decode cX4_beat 67 = .ok (.iconst 1, 1) := by decide +kernel
theorem dX4_beat_68 : decode cX4_beat 68 = .ok (.if_icmp .ge 9, 3) := by decide +kernel
theorem dX4_beat_71 : decode cX4_beat 71 = .ok (.ldc2_w 143, 3) := by decide +kernel
theorem dX4_beat_74 : decode cX4_beat 74 = .ok (.goto 9, 3) := by decide +kernel
theorem dX4_beat_77 : decode cX4_beat 77 = .ok (.iload 7, 2) := by decide +kernel
theorem dX4_beat_79 : decode cX4_beat 79 = .ok (.iload 6, 2) := by decide +kernel
theorem dX4_beat_81 : decode cX4_beat 81 = .ok (.idiv, 1) := by decide +kernel
theorem dX4_beat_82 : decode cX4_beat 82 = .ok (.i2l, 1) := by decide +kernel
theorem dX4_beat_83 : decode cX4_beat 83 = .ok (.lreturn, 1) := by decide +kernel
set_option maxRecDepth 20000 in
theorem ggX4_best_X1_beatAbove : GoodIn wsX4_best wsX1_beatAbove := goodIn_r _ [6, 7, 8, 9, 10, 11, 12, 13, 14, 15, 16, 26, 27, 28, 29, 30] (by decide +kernel) (by decide +kernel)
set_option maxRecDepth 20000 in
theorem gX4_best_X1_beatAbove : GoodIn wsX4_best (wsV RX4 145 RX1 yX1_beatAbove wsX1_beatAbove) := goodIn_app (goodIn_of _ (by decide +kernel)) ggX4_best_X1_beatAbove
set_option maxRecDepth 20000 in
theorem ggX4_best_X1_beatBelow : GoodIn wsX4_best wsX1_beatBelow := goodIn_r _ [20, 13, 26, 27, 28, 29, 30] (by decide +kernel) (by decide +kernel)
set_option maxRecDepth 20000 in
theorem gX4_best_X1_beatBelow : GoodIn wsX4_best (wsV RX4 148 RX1 yX1_beatBelow wsX1_beatBelow) := goodIn_app (goodIn_of _ (by decide +kernel)) ggX4_best_X1_beatBelow
theorem dX4_best_0 : decode cX4_best 0 = .ok (.iconst 1, 1) := by decide +kernel
theorem dX4_best_1 : decode cX4_best 1 = .ok (.istore_n 1, 1) := by decide +kernel
theorem dX4_best_2 : decode cX4_best 2 = .ok (.iconst 0, 1) := by decide +kernel
theorem dX4_best_3 : decode cX4_best 3 = .ok (.istore_n 2, 1) := by decide +kernel
theorem dX4_best_4 : decode cX4_best 4 = .ok (.iconst 1, 1) := by decide +kernel
theorem dX4_best_5 : decode cX4_best 5 = .ok (.istore_n 3, 1) := by decide +kernel
theorem dX4_best_6 : decode cX4_best 6 = .ok (.iload_n 3, 1) := by decide +kernel
theorem dX4_best_7 : decode cX4_best 7 = .ok (.bipush 8, 2) := by decide +kernel
theorem dX4_best_9 : decode cX4_best 9 = .ok (.if_icmp .gt 86, 3) := by decide +kernel
theorem dX4_best_12 : decode cX4_best 12 = .ok (.iconst 0, 1) := by decide +kernel
theorem dX4_best_13 : decode cX4_best 13 = .ok (.istore 4, 2) := by decide +kernel
theorem dX4_best_15 : decode cX4_best 15 = .ok (.iload 4, 2) := by decide +kernel
theorem dX4_best_17 : decode cX4_best 17 = .ok (.bipush 8, 2) := by decide +kernel
theorem dX4_best_19 : decode cX4_best 19 = .ok (.if_icmp .gt 70, 3) := by decide +kernel
theorem dX4_best_22 : decode cX4_best 22 = .ok (.aload_n 0, 1) := by decide +kernel
theorem dX4_best_23 : decode cX4_best 23 = .ok (.getfield 33, 3) := by decide +kernel
theorem dX4_best_26 : decode cX4_best 26 = .ok (.iload_n 3, 1) := by decide +kernel
theorem dX4_best_27 : decode cX4_best 27 = .ok (.iload 4, 2) := by decide +kernel
theorem dX4_best_29 : decode cX4_best 29 = .ok (.invokevirtual 145, 3) := by decide +kernel
theorem dX4_best_32 : decode cX4_best 32 = .ok (.i2l, 1) := by decide +kernel
theorem dX4_best_33 : decode cX4_best 33 = .ok (.aload_n 0, 1) := by decide +kernel
theorem dX4_best_34 : decode cX4_best 34 = .ok (.getfield 33, 3) := by decide +kernel
theorem dX4_best_37 : decode cX4_best 37 = .ok (.iload_n 1, 1) := by decide +kernel
theorem dX4_best_38 : decode cX4_best 38 = .ok (.iload_n 2, 1) := by decide +kernel
theorem dX4_best_39 : decode cX4_best 39 = .ok (.invokevirtual 148, 3) := by decide +kernel
theorem dX4_best_42 : decode cX4_best 42 = .ok (.i2l, 1) := by decide +kernel
theorem dX4_best_43 : decode cX4_best 43 = .ok (.lmul, 1) := by decide +kernel
theorem dX4_best_44 : decode cX4_best 44 = .ok (.lstore 5, 2) := by decide +kernel
theorem dX4_best_46 : decode cX4_best 46 = .ok (.aload_n 0, 1) := by decide +kernel
theorem dX4_best_47 : decode cX4_best 47 = .ok (.getfield 33, 3) := by decide +kernel
theorem dX4_best_50 : decode cX4_best 50 = .ok (.iload_n 1, 1) := by decide +kernel
theorem dX4_best_51 : decode cX4_best 51 = .ok (.iload_n 2, 1) := by decide +kernel
theorem dX4_best_52 : decode cX4_best 52 = .ok (.invokevirtual 145, 3) := by decide +kernel
theorem dX4_best_55 : decode cX4_best 55 = .ok (.i2l, 1) := by decide +kernel
theorem dX4_best_56 : decode cX4_best 56 = .ok (.aload_n 0, 1) := by decide +kernel
theorem dX4_best_57 : decode cX4_best 57 = .ok (.getfield 33, 3) := by decide +kernel
theorem dX4_best_60 : decode cX4_best 60 = .ok (.iload_n 3, 1) := by decide +kernel
theorem dX4_best_61 : decode cX4_best 61 = .ok (.iload 4, 2) := by decide +kernel
theorem dX4_best_63 : decode cX4_best 63 = .ok (.invokevirtual 148, 3) := by decide +kernel
theorem dX4_best_66 : decode cX4_best 66 = .ok (.i2l, 1) := by decide +kernel
theorem dX4_best_67 : decode cX4_best 67 = .ok (.lmul, 1) := by decide +kernel
theorem dX4_best_68 : decode cX4_best 68 = .ok (.lstore 7, 2) := by decide +kernel
theorem dX4_best_70 : decode cX4_best 70 = .ok (.lload 5, 2) := by decide +kernel
theorem dX4_best_72 : decode cX4_best 72 = .ok (.lload 7, 2) := by decide +kernel
theorem dX4_best_74 : decode cX4_best 74 = .ok (.lcmp, 1) := by decide +kernel
theorem dX4_best_75 : decode cX4_best 75 = .ok (.ifCond .le 8, 3) := by decide +kernel
theorem dX4_best_78 : decode cX4_best 78 = .ok (.iload_n 3, 1) := by decide +kernel
theorem dX4_best_79 : decode cX4_best 79 = .ok (.istore_n 1, 1) := by decide +kernel
theorem dX4_best_80 : decode cX4_best 80 = .ok (.iload 4, 2) := by decide +kernel
theorem dX4_best_82 : decode cX4_best 82 = .ok (.istore_n 2, 1) := by decide +kernel
theorem dX4_best_83 : decode cX4_best 83 = .ok (.iinc 4 1, 3) := by decide +kernel
theorem dX4_best_86 : decode cX4_best 86 = .ok (.goto (-71), 3) := by decide +kernel
theorem dX4_best_89 : decode cX4_best 89 = .ok (.iinc 3 1, 3) := by decide +kernel
theorem dX4_best_92 : decode cX4_best 92 = .ok (.goto (-86), 3) := by decide +kernel
theorem dX4_best_95 : decode cX4_best 95 = .ok (.bipush 10, 2) := by decide +kernel
theorem dX4_best_97 : decode cX4_best 97 = .ok (.iload_n 1, 1) := by decide +kernel
theorem dX4_best_98 : decode cX4_best 98 = .ok (.imul, 1) := by decide +kernel
theorem dX4_best_99 : decode cX4_best 99 = .ok (.iload_n 2, 1) := by decide +kernel
theorem dX4_best_100 : decode cX4_best 100 = .ok (.iadd, 1) := by decide +kernel
theorem dX4_best_101 : decode cX4_best 101 = .ok (.ireturn, 1) := by decide +kernel
set_option maxRecDepth 20000 in
theorem ggX4_count_X2_width : GoodIn wsX4_count wsX2_width := goodIn_r _ [9, 10, 48, 49, 50, 51] (by decide +kernel) (by decide +kernel)
set_option maxRecDepth 20000 in
theorem gX4_count_X2_width : GoodIn wsX4_count (wsV RX4 154 RX2 yX2_width wsX2_width) := goodIn_app (goodIn_of _ (by decide +kernel)) ggX4_count_X2_width
set_option maxRecDepth 20000 in
theorem ggX4_count_X2_height : GoodIn wsX4_count wsX2_height := goodIn_r _ [14, 15, 48, 49, 50, 51] (by decide +kernel) (by decide +kernel)
set_option maxRecDepth 20000 in
theorem gX4_count_X2_height : GoodIn wsX4_count (wsV RX4 157 RX2 yX2_height wsX2_height) := goodIn_app (goodIn_of _ (by decide +kernel)) ggX4_count_X2_height
set_option maxRecDepth 20000 in
theorem ggX4_count_X2_lineCount : GoodIn wsX4_count wsX2_lineCount := goodIn_r _ [19, 20, 48, 49, 50, 51] (by decide +kernel) (by decide +kernel)
set_option maxRecDepth 20000 in
theorem gX4_count_X2_lineCount : GoodIn wsX4_count (wsV RX4 160 RX2 yX2_lineCount wsX2_lineCount) := goodIn_app (goodIn_of _ (by decide +kernel)) ggX4_count_X2_lineCount
set_option maxRecDepth 20000 in
theorem ggX4_count_X2_greySum : GoodIn wsX4_count wsX2_greySum := goodIn_r _ [24, 25, 20, 48, 49, 50, 51] (by decide +kernel) (by decide +kernel)
set_option maxRecDepth 20000 in
theorem gX4_count_X2_greySum : GoodIn wsX4_count (wsV RX4 163 RX2 yX2_greySum wsX2_greySum) := goodIn_app (goodIn_of _ (by decide +kernel)) ggX4_count_X2_greySum
set_option maxRecDepth 20000 in
theorem ggX4_count_X3_side : GoodIn wsX4_count wsX3_side := goodIn_r _ [30, 31, 52, 53, 54, 55] (by decide +kernel) (by decide +kernel)
set_option maxRecDepth 20000 in
theorem gX4_count_X3_side : GoodIn wsX4_count (wsV RX4 114 RX3 yX3_side wsX3_side) := goodIn_app (goodIn_of _ (by decide +kernel)) ggX4_count_X3_side
