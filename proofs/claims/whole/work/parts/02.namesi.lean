theorem dX5_dotsIn_6 : decode cX5_dotsIn 6 = .ok (.istore 6, 2) := by decide +kernel
theorem dX5_dotsIn_8 : decode cX5_dotsIn 8 = .ok (.iconst 0, 1) := by decide +kernel
theorem dX5_dotsIn_9 : decode cX5_dotsIn 9 = .ok (.istore 7, 2) := by decide +kernel
theorem dX5_dotsIn_11 : decode cX5_dotsIn 11 = .ok (.iload 7, 2) := by decide +kernel
theorem dX5_dotsIn_13 : decode cX5_dotsIn 13 = .ok (.iload 4, 2) := by decide +kernel
theorem dX5_dotsIn_15 : decode cX5_dotsIn 15 = .ok (.if_icmp .ge 55, 3) := by decide +kernel
theorem dX5_dotsIn_18 : decode cX5_dotsIn 18 = .ok (.iconst 0, 1) := by decide +kernel
theorem dX5_dotsIn_19 : decode cX5_dotsIn 19 = .ok (.istore 8, 2) := by decide +kernel
theorem dX5_dotsIn_21 : decode cX5_dotsIn 21 = .ok (.iload 8, 2) := by decide +kernel
theorem dX5_dotsIn_23 : decode cX5_dotsIn 23 = .ok (.iload 5, 2) := by decide +kernel
theorem dX5_dotsIn_25 : decode cX5_dotsIn 25 = .ok (.if_icmp .ge 39, 3) := by decide +kernel
theorem dX5_dotsIn_28 : decode cX5_dotsIn 28 = .ok (.iload 6, 2) := by decide +kernel
theorem dX5_dotsIn_30 : decode cX5_dotsIn 30 = .ok (.aload_n 0, 1) := by decide +kernel
theorem dX5_dotsIn_31 : decode cX5_dotsIn 31 = .ok (.getfield 42, 3) := by decide +kernel
theorem dX5_dotsIn_34 : decode cX5_dotsIn 34 = .ok (.bipush 24, 2) := by decide +kernel
theorem dX5_dotsIn_36 : decode cX5_dotsIn 36 = .ok (.iload_n 3, 1) := by decide +kernel
theorem dX5_dotsIn_37 : decode cX5_dotsIn 37 = .ok (.iload 8, 2) := by decide +kernel
theorem dX5_dotsIn_39 : decode cX5_dotsIn 39 = .ok (.iadd, 1) := by decide +kernel
theorem dX5_dotsIn_40 : decode cX5_dotsIn 40 = .ok (.imul, 1) := by decide +kernel
theorem dX5_dotsIn_41 : decode cX5_dotsIn 41 = .ok (.iload_n 2, 1) := by decide +kernel
theorem dX5_dotsIn_42 : decode cX5_dotsIn 42 = .ok (.iadd, 1) := by decide +kernel
theorem dX5_dotsIn_43 : decode cX5_dotsIn 43 = .ok (.iload 7, 2) := by decide +kernel
theorem dX5_dotsIn_45 : decode cX5_dotsIn 45 = .ok (.iadd, 1) := by decide +kernel
theorem dX5_dotsIn_46 : decode cX5_dotsIn 46 = .ok (.baload, 1) := by decide +kernel
theorem dX5_dotsIn_47 : decode cX5_dotsIn 47 = .ok (.ifCond .eq 7, 3) := by decide +kernel
theorem dX5_dotsIn_50 : decode cX5_dotsIn 50 = .ok (.iconst 1, 1) := by decide +kernel
theorem dX5_dotsIn_51 : decode cX5_dotsIn 51 = .ok (.goto 4, 3) := by decide +kernel
theorem dX5_dotsIn_54 : decode cX5_dotsIn 54 = .ok (.iconst 0, 1) := by decide +kernel
theorem dX5_dotsIn_55 : decode cX5_dotsIn 55 = .ok (.iadd, 1) := by decide +kernel
theorem dX5_dotsIn_56 : decode cX5_dotsIn 56 = .ok (.istore 6, 2) := by decide +kernel
theorem dX5_dotsIn_58 : decode cX5_dotsIn 58 = .ok (.iinc 8 1, 3) := by decide +kernel
theorem dX5_dotsIn_61 : decode cX5_dotsIn 61 = .ok (.goto (-40), 3) := by decide +kernel
theorem dX5_dotsIn_64 : decode cX5_dotsIn 64 = .ok (.iinc 7 1, 3) := by decide +kernel
theorem dX5_dotsIn_67 : decode cX5_dotsIn 67 = .ok (.goto (-56), 3) := by decide +kernel
theorem dX5_dotsIn_70 : decode cX5_dotsIn 70 = .ok (.iload 6, 2) := by decide +kernel
theorem dX5_dotsIn_72 : decode cX5_dotsIn 72 = .ok (.ireturn, 1) := by decide +kernel
set_option maxRecDepth 20000 in
theorem ggX5_dots_X5_isWay : GoodIn wsX5_dots wsX5_isWay := goodIn_r _ [6, 7, 8, 5, 9] (by decide +kernel) (by decide +kernel)
set_option maxRecDepth 20000 in
theorem gX5_dots_X5_isWay : GoodIn wsX5_dots (wsV RX5 136 RX5 yX5_isWay wsX5_isWay) := goodIn_app (goodIn_of _ (by decide +kernel)) ggX5_dots_X5_isWay
set_option maxRecDepth 20000 in
theorem ggX5_dots_X5_isBox : GoodIn wsX5_dots wsX5_isBox := goodIn_r _ [13, 14, 15, 16, 17, 18, 5, 19, 7, 8, 9, 73, 74, 75, 76, 77, 78, 79, 80, 81, 82, 83, 84, 85, 86, 87, 88, 89, 90, 91] (by decide +kernel) (by decide +kernel)
set_option maxRecDepth 20000 in
theorem gX5_dots_X5_isBox : GoodIn wsX5_dots (wsV RX5 62 RX5 yX5_isBox wsX5_isBox) := goodIn_app (goodIn_of _ (by decide +kernel)) ggX5_dots_X5_isBox
set_option maxRecDepth 20000 in
theorem ggX5_dots_X5_dotsIn : GoodIn wsX5_dots wsX5_dotsIn := goodIn_r _ [23, 24, 25, 26, 27, 5, 28, 15, 14, 29, 30, 31, 32, 33, 34, 35, 36, 37, 38, 39, 40, 41, 42, 43, 44, 45, 46, 47, 48, 49, 16, 17, 18, 19, 7, 8, 9, 50, 51, 52, 53, 54, 55, 56, 57, 58, 59, 60, 61, 62, 63, 64, 65, 66, 67, 68, 69, 70, 71, 72, 73, 74, 75, 76, 77, 78, 79, 80, 81, 82, 83, 84, 85, 86, 87, 88, 89, 90, 91] (by decide +kernel) (by decide +kernel)
set_option maxRecDepth 20000 in
theorem gX5_dots_X5_dotsIn : GoodIn wsX5_dots (wsV RX5 144 RX5 yX5_dotsIn wsX5_dotsIn) := goodIn_app (goodIn_of _ (by decide +kernel)) ggX5_dots_X5_dotsIn
theorem dX5_dots_0 : decode cX5_dots 0 = .ok (.aload_n 0, 1) := by decide +kernel
theorem dX5_dots_1 : decode cX5_dots 1 = .ok (.iconst 0, 1) := by decide +kernel
theorem dX5_dots_2 : decode cX5_dots 2 = .ok (.putfield 51, 3) := by decide +kernel
theorem dX5_dots_5 : decode cX5_dots 5 = .ok (.aload_n 0, 1) := by decide +kernel
theorem dX5_dots_6 : decode cX5_dots 6 = .ok (.iload_n 1, 1) := by decide +kernel
theorem dX5_dots_7 : decode cX5_dots 7 = .ok (.invokevirtual 136, 3) := by decide +kernel
theorem dX5_dots_10 : decode cX5_dots 10 = .ok (.ifCond .eq 30, 3) := by decide +kernel
theorem dX5_dots_13 : decode cX5_dots 13 = .ok (.aload_n 0, 1) := by decide +kernel
theorem dX5_dots_14 : decode cX5_dots 14 = .ok (.iload_n 2, 1) := by decide +kernel
theorem dX5_dots_15 : decode cX5_dots 15 = .ok (.iload_n 3, 1) := by decide +kernel
theorem dX5_dots_16 : decode cX5_dots 16 = .ok (.iload 4, 2) := by decide +kernel
theorem dX5_dots_18 : decode cX5_dots 18 = .ok (.iload 5, 2) := by decide +kernel
theorem dX5_dots_20 : decode cX5_dots 20 = .ok (.invokevirtual 62, 3) := by decide +kernel
theorem dX5_dots_23 : decode cX5_dots 23 = .ok (.ifCond .eq 17, 3) := by decide +kernel
theorem dX5_dots_26 : decode cX5_dots 26 = .ok (.aload_n 0, 1) := by decide +kernel
theorem dX5_dots_27 : decode cX5_dots 27 = .ok (.iload_n 1, 1) := by decide +kernel
theorem dX5_dots_28 : decode cX5_dots 28 = .ok (.iload_n 2, 1) := by decide +kernel
theorem dX5_dots_29 : decode cX5_dots 29 = .ok (.iload_n 3, 1) := by decide +kernel
theorem dX5_dots_30 : decode cX5_dots 30 = .ok (.iload 4, 2) := by decide +kernel
theorem dX5_dots_32 : decode cX5_dots 32 = .ok (.iload 5, 2) := by decide +kernel
theorem dX5_dots_34 : decode cX5_dots 34 = .ok (.invokevirtual 144, 3) := by decide +kernel
theorem dX5_dots_37 : decode cX5_dots 37 = .ok (.goto 4, 3) := by decide +kernel
theorem dX5_dots_40 : decode cX5_dots 40 = .ok (.iconst (-1), 1) := by decide +kernel
theorem dX5_dots_41 : decode cX5_dots 41 = .ok (.ireturn, 1) := by decide +kernel
set_option maxRecDepth 20000 in
theorem ggX5_read_X5_isWay : GoodIn wsX5_read wsX5_isWay := goodIn_r _ [6, 7, 8, 5, 9] (by decide +kernel) (by decide +kernel)
set_option maxRecDepth 20000 in
theorem gX5_read_X5_isWay : GoodIn wsX5_read (wsV RX5 136 RX5 yX5_isWay wsX5_isWay) := goodIn_app (goodIn_of _ (by decide +kernel)) ggX5_read_X5_isWay
set_option maxRecDepth 20000 in
theorem ggX5_read_X5_isBox : GoodIn wsX5_read wsX5_isBox := goodIn_r _ [13, 14, 15, 16, 17, 18, 5, 19, 7, 8, 9, 73, 74, 75, 76, 77, 78, 79, 80, 81, 82, 83, 84, 85, 86, 87, 88, 89, 90, 91] (by decide +kernel) (by decide +kernel)
set_option maxRecDepth 20000 in
theorem gX5_read_X5_isBox : GoodIn wsX5_read (wsV RX5 62 RX5 yX5_isBox wsX5_isBox) := goodIn_app (goodIn_of _ (by decide +kernel)) ggX5_read_X5_isBox
set_option maxRecDepth 20000 in
theorem ggX5_read_X5_dotsIn : GoodIn wsX5_read wsX5_dotsIn := goodIn_r _ [23, 24, 25, 26, 27, 5, 28, 15, 14, 29, 30, 31, 32, 33, 34, 35, 36, 37, 38, 39, 40, 41, 42, 43, 44, 45, 46, 47, 48, 49, 16, 17, 18, 19, 7, 8, 9, 50, 51, 52, 53, 54, 55, 56, 57, 58, 59, 60, 61, 62, 63, 64, 65, 66, 67, 68, 69, 70, 71, 72, 73, 74, 75, 76, 77, 78, 79, 80, 81, 82, 83, 84, 85, 86, 87, 88, 89, 90, 91] (by decide +kernel) (by decide +kernel)
set_option maxRecDepth 20000 in
theorem gX5_read_X5_dotsIn : GoodIn wsX5_read (wsV RX5 144 RX5 yX5_dotsIn wsX5_dotsIn) := goodIn_app (goodIn_of _ (by decide +kernel)) ggX5_read_X5_dotsIn
theorem dX5_read_0 : decode cX5_read 0 = .ok (.aload_n 0, 1) := by decide +kernel
theorem dX5_read_1 : decode cX5_read 1 = .ok (.iconst 0, 1) := by decide +kernel
theorem dX5_read_2 : decode cX5_read 2 = .ok (.putfield 51, 3) := by decide +kernel
theorem dX5_read_5 : decode cX5_read 5 = .ok (.aload_n 0, 1) := by decide +kernel
theorem dX5_read_6 : decode cX5_read 6 = .ok (.iload_n 1, 1) := by decide +kernel
theorem dX5_read_7 : decode cX5_read 7 = .ok (.invokevirtual 136, 3) := by decide +kernel
theorem dX5_read_10 : decode cX5_read 10 = .ok (.ifCond .eq 16, 3) := by decide +kernel
theorem dX5_read_13 : decode cX5_read 13 = .ok (.aload_n 0, 1) := by decide +kernel
theorem dX5_read_14 : decode cX5_read 14 = .ok (.iload_n 2, 1) := by decide +kernel
theorem dX5_read_15 : decode cX5_read 15 = .ok (.iload_n 3, 1) := by decide +kernel
theorem dX5_read_16 : decode cX5_read 16 = .ok (.iload 4, 2) := by decide +kernel
theorem dX5_read_18 : decode cX5_read 18 = .ok (.iload 5, 2) := by decide +kernel
theorem dX5_read_20 : decode cX5_read 20 = .ok (.invokevirtual 62, 3) := by decide +kernel
theorem dX5_read_23 : decode cX5_read 23 = .ok (.ifCond .ne 5, 3) := by decide +kernel
theorem dX5_read_26 : decode cX5_read 26 = .ok (.iconst (-1), 1) := by decide +kernel
theorem dX5_read_27 : decode cX5_read 27 = .ok (.ireturn, 1) := by decide +kernel
theorem dX5_read_28 : decode cX5_read 28 = .ok (.sipush 510, 3) := by decide +kernel
theorem dX5_read_31 : decode cX5_read 31 = .ok (.aload_n 0, 1) := by decide +kernel
theorem dX5_read_32 : decode cX5_read 32 = .ok (.iload_n 1, 1) := by decide +kernel
theorem dX5_read_33 : decode cX5_read 33 = .ok (.iload_n 2, 1) := by decide +kernel
theorem dX5_read_34 : decode cX5_read 34 = .ok (.iload_n 3, 1) := by decide +kernel
theorem dX5_read_35 : decode cX5_read 35 = .ok (.iload 4, 2) := by decide +kernel
theorem dX5_read_37 : decode cX5_read 37 = .ok (.iload 5, 2) := by decide +kernel
theorem dX5_read_39 : decode cX5_read 39 = .ok (.invokevirtual 144, 3) := by decide +kernel
theorem dX5_read_42 : decode cX5_read 42 = .ok (.imul, 1) := by decide +kernel
theorem dX5_read_43 : decode cX5_read 43 = .ok (.iload 4, 2) := by decide +kernel
theorem dX5_read_45 : decode cX5_read 45 = .ok (.iload 5, 2) := by decide +kernel
theorem dX5_read_47 : decode cX5_read 47 = .ok (.imul, 1) := by decide +kernel
theorem dX5_read_48 : decode cX5_read 48 = .ok (.iadd, 1) := by decide +kernel
theorem dX5_read_49 : decode cX5_read 49 = .ok (.iconst 2, 1) := by decide +kernel
theorem dX5_read_50 : decode cX5_read 50 = .ok (.iload 4, 2) := by decide +kernel
theorem dX5_read_52 : decode cX5_read 52 = .ok (.imul, 1) := by decide +kernel
theorem dX5_read_53 : decode cX5_read 53 = .ok (.iload 5, 2) := by decide +kernel
theorem dX5_read_55 : decode cX5_read 55 = .ok (.imul, 1) := by decide +kernel
theorem dX5_read_56 : decode cX5_read 56 = .ok (.idiv, 1) := by decide +kernel
theorem dX5_read_57 : decode cX5_read 57 = .ok (.ireturn, 1) := by decide +kernel
set_option maxRecDepth 20000 in
theorem ggX5_lost_X5_carryAll : GoodIn wsX5_lost wsX5_carryAll := goodIn_r _ [7, 2, 8, 9, 10, 11, 12, 13, 14, 15, 16, 17, 18, 19, 20, 21, 6, 22, 23, 24, 25, 26, 27, 28, 29, 30, 31, 32, 33, 34, 35, 36, 37, 38, 39, 40, 41, 42, 43, 44, 45, 46, 47, 48] (by decide +kernel) (by decide +kernel)
set_option maxRecDepth 20000 in
theorem gX5_lost_X5_carryAll : GoodIn wsX5_lost (wsV RX5 133 RX5 yX5_carryAll wsX5_carryAll) := goodIn_app (goodIn_of _ (by decide +kernel)) ggX5_lost_X5_carryAll
theorem dX5_lost_0 : decode cX5_lost 0 = .ok (.aload_n 0, 1) := by decide +kernel
theorem dX5_lost_1 : decode cX5_lost 1 = .ok (.iconst 0, 1) := by decide +kernel
theorem dX5_lost_2 : decode cX5_lost 2 = .ok (.putfield 51, 3) := by decide +kernel
theorem dX5_lost_5 : decode cX5_lost 5 = .ok (.aload_n 0, 1) := by decide +kernel
theorem dX5_lost_6 : decode cX5_lost 6 = .ok (.invokevirtual 133, 3) := by decide +kernel
theorem dX5_lost_9 : decode cX5_lost 9 = .ok (.aload_n 0, 1) := by decide +kernel
theorem dX5_lost_10 : decode cX5_lost 10 = .ok (.getfield 123, 3) := by decide +kernel
theorem dX5_lost_13 : decode cX5_lost 13 = .ok (.ireturn, 1) := by decide +kernel
set_option maxRecDepth 20000 in
theorem ggX5_beats_X5_m : GoodIn wsX5_beats wsX5_m := goodIn_r _ [9, 2, 3, 10, 11, 12, 13, 14, 15, 16, 17, 18, 19, 20, 21, 22, 23, 24, 25, 26, 27, 28] (by decide +kernel) (by decide +kernel)
set_option maxRecDepth 20000 in
theorem gX5_beats_X5_m : GoodIn wsX5_beats (wsV RX5 104 RX5 yX5_m wsX5_m) := goodIn_app (goodIn_of _ (by decide +kernel)) ggX5_beats_X5_m
theorem dX5_beats_0 : decode cX5_beats 0 = .ok (.aload_n 0, 1) := by decide +kernel
theorem dX5_beats_1 : decode cX5_beats 1 = .ok (.invokevirtual 104, 3) := by decide +kernel
theorem dX5_beats_4 : decode cX5_beats 4 = .ok (.i2l, 1) := by decide +kernel
theorem dX5_beats_5 : decode cX5_beats 5 = .ok (.lstore_n 3, 1) := by decide +kernel
theorem dX5_beats_6 : decode cX5_beats 6 = .ok (.iload_n 1, 1) := by decide +kernel
theorem dX5_beats_7 : decode cX5_beats 7 = .ok (.iload_n 1, 1) := by decide +kernel
theorem dX5_beats_8 : decode cX5_beats 8 = .ok (.imul, 1) := by decide +kernel
theorem dX5_beats_9 : decode cX5_beats 9 = .ok (.iload_n 2, 1) := by decide +kernel
theorem dX5_beats_10 : decode cX5_beats 10 = .ok (.iload_n 2, 1) := by decide +kernel
theorem dX5_beats_11 : decode cX5_beats 11 = .ok (.imul, 1) := by decide +kernel
theorem dX5_beats_12 : decode cX5_beats 12 = .ok (.iadd, 1) := by decide +kernel
theorem dX5_beats_13 : decode cX5_beats 13 = .ok (.i2l, 1) := by decide +kernel
theorem dX5_beats_14 : decode cX5_beats 14 = .ok (.lstore 5, 2) := by decide +kernel
theorem dX5_beats_16 : decode cX5_beats 16 = .ok (.iload_n 1, 1) := by decide +kernel
theorem dX5_beats_17 : decode cX5_beats 17 = .ok (.i2l, 1) := by decide +kernel
theorem dX5_beats_18 : decode cX5_beats 18 = .ok (.lstore 7, 2) := by decide +kernel
theorem dX5_beats_20 : decode cX5_beats 20 = .ok (.iload_n 2, 1) := by decide +kernel
theorem dX5_beats_21 : decode cX5_beats 21 = .ok (.i2l, 1) := by decide +kernel
theorem dX5_beats_22 : decode cX5_beats 22 = .ok (.lstore 9, 2) := by decide +kernel
theorem dX5_beats_24 : decode cX5_beats 24 = .ok (.aload_n 0, 1) := by decide +kernel
theorem dX5_beats_25 : decode cX5_beats 25 = .ok (.lload_n 3, 1) := by decide +kernel
theorem dX5_beats_26 : decode cX5_beats 26 = .ok (.lload 5, 2) := by decide +kernel
theorem dX5_beats_28 : decode cX5_beats 28 = .ok (.lmul, 1) := by decide +kernel
theorem dX5_beats_29 : decode cX5_beats 29 = .ok (.lload_n 3, 1) := by decide +kernel
theorem dX5_beats_30 : decode cX5_beats 30 = .ok (.lmul, 1) := by decide +kernel
theorem dX5_beats_31 : decode cX5_beats 31 = .ok (.lload 5, 2) := by decide +kernel
theorem dX5_beats_33 : decode cX5_beats 33 = .ok (.lmul, 1) := by decide +kernel
theorem dX5_beats_34 : decode cX5_beats 34 = .ok (.putfield 148, 3) := by decide +kernel
theorem dX5_beats_37 : decode cX5_beats 37 = .ok (.iconst 0, 1) := by decide +kernel
theorem dX5_beats_38 : decode cX5_beats 38 = .ok (.istore 11, 2) := by decide +kernel
theorem dX5_beats_40 : decode cX5_beats 40 = .ok (.iload 11, 2) := by decide +kernel
theorem dX5_beats_42 : decode cX5_beats 42 = .ok (.iconst 4, 1) := by decide +kernel
theorem dX5_beats_43 : decode cX5_beats 43 = .ok (.if_icmp .ge 86, 3) := by decide +kernel
theorem dX5_beats_46 : decode cX5_beats 46 = .ok (.aload_n 0, 1) := by decide +kernel
theorem dX5_beats_47 : decode cX5_beats 47 = .ok (.getfield 19, 3) := by decide +kernel
theorem dX5_beats_50 : decode cX5_beats 50 = .ok (.i2l, 1) := by decide +kernel
theorem dX5_beats_51 : decode cX5_beats 51 = .ok (.lload 5, 2) := by decide +kernel
theorem dX5_beats_53 : decode cX5_beats 53 = .ok (.lmul, 1) := by decide +kernel
theorem dX5_beats_54 : decode cX5_beats 54 = .ok (.lload 7, 2) := by decide +kernel
theorem dX5_beats_56 : decode cX5_beats 56 = .ok (.lload_n 3, 1) := by decide +kernel
theorem dX5_beats_57 : decode cX5_beats 57 = .ok (.lmul, 1) := by decide +kernel
theorem dX5_beats_58 : decode cX5_beats 58 = .ok (.lsub, 1) := by decide +kernel
theorem dX5_beats_59 : decode cX5_beats 59 = .ok (.lstore 12, 2) := by decide +kernel
theorem dX5_beats_61 : decode cX5_beats 61 = .ok (.aload_n 0, 1) := by decide +kernel
theorem dX5_beats_62 : decode cX5_beats 62 = .ok (.getfield 22, 3) := by decide +kernel
theorem dX5_beats_65 : decode cX5_beats 65 = .ok (.i2l, 1) := by decide +kernel
theorem dX5_beats_66 : decode cX5_beats 66 = .ok (.lload 5, 2) := by decide +kernel
theorem dX5_beats_68 : decode cX5_beats 68 = .ok (.lmul, 1) := by decide +kernel
theorem dX5_beats_69 : decode cX5_beats 69 = .ok (.lload 9, 2) := by decide +kernel
theorem dX5_beats_71 : decode cX5_beats 71 = .ok (.lload_n 3, 1) := by decide +kernel
theorem dX5_beats_72 : decode cX5_beats 72 = .ok (.lmul, 1) := by decide +kernel
theorem dX5_beats_73 : decode cX5_beats 73 = .ok (.lsub, 1) := by decide +kernel
theorem dX5_beats_74 : decode cX5_beats 74 = .ok (.lstore 14, 2) := by decide +kernel
theorem dX5_beats_76 : decode cX5_beats 76 = .ok (.lload 12, 2) := by decide +kernel
theorem dX5_beats_78 : decode cX5_beats 78 = .ok (.lload 12, 2) := by decide +kernel
theorem dX5_beats_80 : decode cX5_beats 80 = .ok (.lmul, 1) := by decide +kernel
theorem dX5_beats_81 : decode cX5_beats 81 = .ok (.lload 14, 2) := by decide +kernel
theorem dX5_beats_83 : decode cX5_beats 83 = .ok (.lload 14, 2) := by decide +kernel
theorem dX5_beats_85 : decode cX5_beats 85 = .ok (.lmul, 1) := by decide +kernel
theorem dX5_beats_86 : decode cX5_beats 86 = .ok (.ladd, 1) := by decide +kernel
theorem dX5_beats_87 : decode cX5_beats 87 = .ok (.lstore 16, 2) := by decide +kernel
theorem dX5_beats_89 : decode cX5_beats 89 = .ok (.iload 11, 2) := by decide +kernel
theorem dX5_beats_91 : decode cX5_beats 91 = .ok (.ifCond .eq 13, 3) := by decide +kernel
theorem dX5_beats_94 : decode cX5_beats 94 = .ok (.lload 16, 2) := by decide +kernel
theorem dX5_beats_96 : decode cX5_beats 96 = .ok (.aload_n 0, 1) := by decide +kernel
theorem dX5_beats_97 : decode cX5_beats 97 = .ok (.getfield 152, 3) := by decide +kernel
theorem dX5_beats_100 : decode cX5_beats 100 = .ok (.lcmp, 1) := by decide +kernel
theorem dX5_beats_101 : decode cX5_beats 101 = .ok (.ifCond .ge 9, 3) := by decide +kernel
theorem dX5_beats_104 : decode cX5_beats 104 = .ok (.aload_n 0, 1) := by decide +kernel
theorem dX5_beats_105 : decode cX5_beats 105 = .ok (.lload 16, 2) := by decide +kernel
theorem dX5_beats_107 : decode cX5_beats 107 = .ok (.putfield 152, 3) := by decide +kernel
theorem dX5_beats_110 : decode cX5_beats 110 = .ok (.lload 7, 2) := by decide +kernel
theorem dX5_beats_112 : decode cX5_beats 112 = .ok (.lstore 18, 2) := by decide +kernel
theorem dX5_beats_114 : decode cX5_beats 114 = .ok (.lload 9, 2) := by decide +kernel
theorem dX5_beats_116 : decode cX5_beats 116 = .ok (.lneg, 1) := by decide +kernel
theorem dX5_beats_117 : decode cX5_beats 117 = .ok (.lstore 7, 2) := by decide +kernel
theorem dX5_beats_119 : decode cX5_beats 119 = .ok (.lload 18, 2) := by decide +kernel
theorem dX5_beats_121 : decode cX5_beats 121 = .ok (.lstore 9, 2) := by decide +kernel
theorem dX5_beats_123 : decode cX5_beats 123 = .ok (.iinc 11 1, 3) := by decide +kernel
theorem dX5_beats_126 : decode cX5_beats 126 = .ok (.goto (-86), 3) := by decide +kernel
theorem dX5_beats_129 : decode cX5_beats 129 = .ok (.return_, 1) := by decide +kernel
set_option maxRecDepth 20000 in
theorem ggX5_beat_X5_isNet : GoodIn wsX5_beat wsX5_isNet := goodIn_r _ [8, 9, 10, 7, 11] (by decide +kernel) (by decide +kernel)
set_option maxRecDepth 20000 in
theorem gX5_beat_X5_isNet : GoodIn wsX5_beat (va_wsS RX5 101 yX5_isNet wsX5_isNet) := goodIn_app (goodIn_of _ (by decide +kernel)) ggX5_beat_X5_isNet
set_option maxRecDepth 20000 in
theorem ggX5_beat_X5_isIn : GoodIn wsX5_beat wsX5_isIn := goodIn_r _ [11] (by decide +kernel) (by decide +kernel)
set_option maxRecDepth 20000 in
theorem gX5_beat_X5_isIn : GoodIn wsX5_beat (va_wsS RX5 54 yX5_isIn wsX5_isIn) := goodIn_app (goodIn_of _ (by decide +kernel)) ggX5_beat_X5_isIn
set_option maxRecDepth 20000 in
theorem ggX5_beat_X5_beats : GoodIn wsX5_beat wsX5_beats := goodIn_r _ [15, 4, 16, 17, 3, 18, 19, 20, 7, 21, 22, 23, 24, 25, 26, 27, 28, 29, 30, 31, 32, 33, 34, 35, 36, 37, 38, 39, 40] (by decide +kernel) (by decide +kernel)
set_option maxRecDepth 20000 in
theorem gX5_beat_X5_beats : GoodIn wsX5_beat (wsV RX5 157 RX5 yX5_beats wsX5_beats) := goodIn_app (goodIn_of _ (by decide +kernel)) ggX5_beat_X5_beats
theorem dX5_beat_0 : decode cX5_beat 0 = .ok (.aload_n 0, 1) := by decide +kernel
theorem dX5_beat_1 : decode cX5_beat 1 = .ok (.iconst 0, 1) := by decide +kernel
theorem dX5_beat_2 : decode cX5_beat 2 = .ok (.putfield 51, 3) := by decide +kernel
theorem dX5_beat_5 : decode cX5_beat 5 = .ok (.iload_n 1, 1) := by decide +kernel
theorem dX5_beat_6 : decode cX5_beat 6 = .ok (.iload_n 2, 1) := by decide +kernel
theorem dX5_beat_7 : decode cX5_beat 7 = .ok (.invokestatic 101, 3) := by decide +kernel
theorem dX5_beat_10 : decode cX5_beat 10 = .ok (.ifCond .eq 12, 3) := by decide +kernel
theorem dX5_beat_13 : decode cX5_beat 13 = .ok (.iload_n 3, 1) := by decide +kernel
theorem dX5_beat_14 : decode cX5_beat 14 = .ok (.iconst 0, 1) := by decide +kernel
theorem dX5_beat_15 : decode cX5_beat 15 = .ok (.iconst 1, 1) := by decide +kernel
theorem dX5_beat_16 : decode cX5_beat 16 = .ok (.invokestatic 54, 3) := by decide +kernel
theorem dX5_beat_19 : decode cX5_beat 19 = .ok (.ifCond .ne 7, 3) := by decide +kernel
theorem dX5_beat_22 : decode cX5_beat 22 = .ok (.ldc2_w 155, 3) := by decide +kernel
theorem dX5_beat_25 : decode cX5_beat 25 = .ok (.lreturn, 1) := by decide +kernel
theorem dX5_beat_26 : decode cX5_beat 26 = .ok (.aload_n 0, 1) := by decide +kernel
theorem dX5_beat_27 : decode cX5_beat 27 = .ok (.iload_n 1, 1) := by decide +kernel
theorem dX5_beat_28 : decode cX5_beat 28 = .ok (.iload_n 2, 1) := by decide +kernel
theorem dX5_beat_29 : decode cX5_beat 29 = .ok (.invokevirtual 157, 3) := by decide +kernel
theorem dX5_beat_32 : decode cX5_beat 32 = .ok (.aload_n 0, 1) := by decide +kernel
theorem dX5_beat_33 : decode cX5_beat 33 = .ok (.getfield 152, 3) := by decide +kernel
theorem dX5_beat_36 : decode cX5_beat 36 = .ok (.lstore 4, 2) := by decide +kernel
theorem dX5_beat_38 : decode cX5_beat 38 = .ok (.aload_n 0, 1) := by decide +kernel
theorem dX5_beat_39 : decode cX5_beat 39 = .ok (.getfield 148, 3) := by decide +kernel
theorem dX5_beat_42 : decode cX5_beat 42 = .ok (.lstore 6, 2) := by decide +kernel
theorem dX5_beat_44 : decode cX5_beat 44 = .ok (.lload 6, 2) := by decide +kernel
theorem dX5_beat_46 : decode cX5_beat 46 = .ok (.lconst 0, 1) := by decide +kernel
theorem dX5_beat_47 : decode cX5_beat 47 = .ok (.lcmp, 1) := by decide +kernel
theorem dX5_beat_48 : decode cX5_beat 48 = .ok (.ifCond .eq 21, 3) := by decide +kernel
theorem dX5_beat_51 : decode cX5_beat 51 = .ok (.lload 4, 2) := by decide +kernel
theorem dX5_beat_53 : decode cX5_beat 53 = .ok (.lload 6, 2) := by decide +kernel
theorem dX5_beat_55 : decode cX5_beat 55 = .ok (.lrem, 1) := by decide +kernel
theorem dX5_beat_56 : decode cX5_beat 56 = .ok (.lstore 8, 2) := by decide +kernel
theorem dX5_beat_58 : decode cX5_beat 58 = .ok (.lload 6, 2) := by decide +kernel
theorem dX5_beat_60 : decode cX5_beat 60 = .ok (.lstore 4, 2) := by decide +kernel
theorem dX5_beat_62 : decode cX5_beat 62 = .ok (.lload 8, 2) := by decide +kernel
theorem dX5_beat_64 : decode cX5_beat 64 = .ok (.lstore 6, 2) := by decide +kernel
theorem dX5_beat_66 : decode cX5_beat 66 = .ok (.goto (-22), 3) := by decide +kernel
theorem dX5_beat_69 : decode cX5_beat 69 = .ok (.iload_n 3, 1) := by decide +kernel
theorem dX5_beat_70 : decode cX5_beat 70 = .ok (.ifCond .ne 13, 3) := by decide +kernel
theorem dX5_beat_73 : decode cX5_beat 73 = .ok (.aload_n 0, 1) := by decide +kernel
theorem dX5_beat_74 : decode cX5_beat 74 = .ok (.getfield 152, 3) := by decide +kernel
theorem dX5_beat_77 : decode cX5_beat 77 = .ok (.lload 4, 2) := by decide +kernel
theorem dX5_beat_79 : decode cX5_beat 79 = .ok (.ldiv, 1) := by decide +kernel
theorem dX5_beat_80 : decode cX5_beat 80 = .ok (.goto 10, 3) := by decide +kernel
theorem dX5_beat_83 : decode cX5_beat 83 = .ok (.aload_n 0, 1) := by decide +kernel
theorem dX5_beat_84 : decode cX5_beat 84 = .ok (.getfield 148, 3) := by decide +kernel
theorem dX5_beat_87 : decode cX5_beat 87 = .ok (.lload 4, 2) := by decide +kernel
theorem dX5_beat_89 : decode cX5_beat 89 = .ok (.ldiv, 1) := by decide +kernel
theorem dX5_beat_90 : decode cX5_beat 90 = .ok (.lreturn, 1) := by decide +kernel
set_option maxRecDepth 20000 in
theorem ggX5_best_X5_beats : GoodIn wsX5_best wsX5_beats := goodIn_r _ [8, 3, 9, 10, 2, 11, 12, 13, 7, 14, 15, 16, 17, 18, 19, 20, 21, 22, 23, 24, 25, 26, 27, 28, 29, 30, 31, 32, 33] (by decide +kernel) (by decide +kernel)
set_option maxRecDepth 20000 in
theorem gX5_best_X5_beats : GoodIn wsX5_best (wsV RX5 157 RX5 yX5_beats wsX5_beats) := goodIn_app (goodIn_of _ (by decide +kernel)) ggX5_best_X5_beats
theorem dX5_best_0 : decode cX5_best 0 = .ok (.aload_n 0, 1) := by decide +kernel
theorem dX5_best_1 : decode cX5_best 1 = .ok (.iconst 0, 1) := by decide +kernel
theorem dX5_best_2 : decode cX5_best 2 = .ok (.putfield 51, 3) := by decide +kernel
theorem dX5_best_5 : decode cX5_best 5 = .ok (.iconst (-1), 1) := by decide +kernel
theorem dX5_best_6 : decode cX5_best 6 = .ok (.istore_n 1, 1) := by decide +kernel
theorem dX5_best_7 : decode cX5_best 7 = .ok (.lconst 0, 1) := by decide +kernel
theorem dX5_best_8 : decode cX5_best 8 = .ok (.lstore_n 2, 1) := by decide +kernel
theorem dX5_best_9 : decode cX5_best 9 = .ok (.lconst 1, 1) := by decide +kernel
theorem dX5_best_10 : decode cX5_best 10 = .ok (.lstore 4, 2) := by decide +kernel
theorem dX5_best_12 : decode cX5_best 12 = .ok (.iconst 1, 1) := by decide +kernel
theorem dX5_best_13 : decode cX5_best 13 = .ok (.istore 6, 2) := by decide +kernel
theorem dX5_best_15 : decode cX5_best 15 = .ok (.iload 6, 2) := by decide +kernel
theorem dX5_best_17 : decode cX5_best 17 = .ok (.bipush 8, 2) := by decide +kernel
theorem dX5_best_19 : decode cX5_best 19 = .ok (.if_icmp .gt 78, 3) := by decide +kernel
theorem dX5_best_22 : decode cX5_best 22 = .ok (.iconst 0, 1) := by decide +kernel
theorem dX5_best_23 : decode cX5_best 23 = .ok (.istore 7, 2) := by decide +kernel
theorem dX5_best_25 : decode cX5_best 25 = .ok (.iload 7, 2) := by decide +kernel
theorem dX5_best_27 : decode cX5_best 27 = .ok (.bipush 8, 2) := by decide +kernel
theorem dX5_best_29 : decode cX5_best 29 = .ok (.if_icmp .gt 62, 3) := by decide +kernel
theorem dX5_best_32 : decode cX5_best 32 = .ok (.aload_n 0, 1) := by decide +kernel
theorem dX5_best_33 : decode cX5_best 33 = .ok (.iload 6, 2) := by decide +kernel
theorem dX5_best_35 : decode cX5_best 35 = .ok (.iload 7, 2) := by decide +kernel
theorem dX5_best_37 : decode cX5_best 37 = .ok (.invokevirtual 157, 3) := by decide +kernel
theorem dX5_best_40 : decode cX5_best 40 = .ok (.iload_n 1, 1) := by decide +kernel
theorem dX5_best_41 : decode cX5_best 41 = .ok (.iconst (-1), 1) := by decide +kernel
theorem dX5_best_42 : decode cX5_best 42 = .ok (.if_icmp .eq 23, 3) := by decide +kernel
theorem dX5_best_45 : decode cX5_best 45 = .ok (.aload_n 0, 1) := by decide +kernel
theorem dX5_best_46 : decode cX5_best 46 = .ok (.getfield 152, 3) := by decide +kernel
theorem dX5_best_49 : decode cX5_best 49 = .ok (.lload 4, 2) := by decide +kernel
theorem dX5_best_51 : decode cX5_best 51 = .ok (.lmul, 1) := by decide +kernel
theorem dX5_best_52 : decode cX5_best 52 = .ok (.lload_n 2, 1) := by decide +kernel
theorem dX5_best_53 : decode cX5_best 53 = .ok (.aload_n 0, 1) := by decide +kernel
theorem dX5_best_54 : decode cX5_best 54 = .ok (.getfield 148, 3) := by decide +kernel
theorem dX5_best_57 : decode cX5_best 57 = .ok (.lmul, 1) := by decide +kernel
theorem dX5_best_58 : decode cX5_best 58 = .ok (.lcmp, 1) := by decide +kernel
theorem dX5_best_59 : decode cX5_best 59 = .ok (.ifCond .gt 6, 3) := by decide +kernel
theorem dX5_best_62 : decode cX5_best 62 = .ok (.goto 23, 3) := by decide +kernel
theorem dX5_best_65 : decode cX5_best 65 = .ok (.bipush 10, 2) := by decide +kernel
theorem dX5_best_67 : decode cX5_best 67 = .ok (.iload 6, 2) := by decide +kernel
theorem dX5_best_69 : decode cX5_best 69 = .ok (.imul, 1) := by decide +kernel
theorem dX5_best_70 : decode cX5_best 70 = .ok (.iload 7, 2) := by decide +kernel
theorem dX5_best_72 : decode cX5_best 72 = .ok (.iadd, 1) := by decide +kernel
theorem dX5_best_73 : decode cX5_best 73 = .ok (.istore_n 1, 1) := by decide +kernel
theorem dX5_best_74 : decode cX5_best 74 = .ok (.aload_n 0, 1) := by decide +kernel
theorem dX5_best_75 : decode cX5_best 75 = .ok (.getfield 152, 3) := by decide +kernel
theorem dX5_best_78 : decode cX5_best 78 = .ok (.lstore_n 2, 1) := by decide +kernel
theorem dX5_best_79 : decode cX5_best 79 = .ok (.aload_n 0, 1) := by decide +kernel
theorem dX5_best_80 : decode cX5_best 80 = .ok (.getfield 148, 3) := by decide +kernel
theorem dX5_best_83 : decode cX5_best 83 = .ok (.lstore 4, 2) := by decide +kernel
theorem dX5_best_85 : decode cX5_best 85 = .ok (.iinc 7 1, 3) := by decide +kernel
theorem dX5_best_88 : decode cX5_best 88 = .ok (.goto (-63), 3) := by decide +kernel
theorem dX5_best_91 : decode cX5_best 91 = .ok (.iinc 6 1, 3) := by decide +kernel
theorem dX5_best_94 : decode cX5_best 94 = .ok (.goto (-79), 3) := by decide +kernel
theorem dX5_best_97 : decode cX5_best 97 = .ok (.iload_n 1, 1) := by decide +kernel
theorem dX5_best_98 : decode cX5_best 98 = .ok (.ireturn, 1) := by decide +kernel
set_option maxRecDepth 20000 in
theorem ggX5_count_X5_m : GoodIn wsX5_count wsX5_m := goodIn_r _ [13, 14, 15, 35, 36, 37, 38, 39, 40, 41, 42, 43, 44, 45, 46, 47, 48, 49, 50, 51, 52, 53] (by decide +kernel) (by decide +kernel)
set_option maxRecDepth 20000 in
theorem gX5_count_X5_m : GoodIn wsX5_count (wsV RX5 104 RX5 yX5_m wsX5_m) := goodIn_app (goodIn_of _ (by decide +kernel)) ggX5_count_X5_m
set_option maxRecDepth 20000 in
theorem ggX5_count_X5_rankAll : GoodIn wsX5_count wsX5_rankAll := goodIn_r _ [19, 20, 14, 15, 21, 7, 22, 9, 10, 11, 12, 13, 23, 24, 25, 26, 27, 28, 29, 30, 31, 32, 33, 34, 35, 36, 37, 38, 39, 40, 41, 42, 43, 44, 45, 46, 47, 48, 49, 50, 51, 52, 53] (by decide +kernel) (by decide +kernel)
set_option maxRecDepth 20000 in
theorem gX5_count_X5_rankAll : GoodIn wsX5_count (wsV RX5 120 RX5 yX5_rankAll wsX5_rankAll) := goodIn_app (goodIn_of _ (by decide +kernel)) ggX5_count_X5_rankAll
theorem dX5_count_0 : decode cX5_count 0 = .ok (.aload_n 0, 1) := by decide +kernel
theorem dX5_count_1 : decode cX5_count 1 = .ok (.iconst 0, 1) := by decide +kernel
theorem dX5_count_2 : decode cX5_count 2 = .ok (.putfield 51, 3) := by decide +kernel
theorem dX5_count_5 : decode cX5_count 5 = .ok (.iconst 0, 1) := by decide +kernel
theorem dX5_count_6 : decode cX5_count 6 = .ok (.istore_n 2, 1) := by decide +kernel
theorem dX5_count_7 : decode cX5_count 7 = .ok (.iload_n 1, 1) := by decide +kernel
theorem dX5_count_8 : decode cX5_count 8 = .ok (.tableswitch 188 0 7 #[48, 53, 58, 58, 156, 161, 166, 175], 48) := by decide +kernel
theorem dX5_count_56 : decode cX5_count 56 = .ok (.aload_n 0, 1) := by decide +kernel
theorem dX5_count_57 : decode cX5_count 57 = .ok (.getfield 7, 3) := by decide +kernel
theorem dX5_count_60 : decode cX5_count 60 = .ok (.ireturn, 1) := by decide +kernel
theorem dX5_count_61 : decode cX5_count 61 = .ok (.aload_n 0, 1) := by decide +kernel
theorem dX5_count_62 : decode cX5_count 62 = .ok (.getfield 13, 3) := by decide +kernel
theorem dX5_count_65 : decode cX5_count 65 = .ok (.ireturn, 1) := by decide +kernel
theorem dX5_count_66 : decode cX5_count 66 = .ok (.iconst 0, 1) := by decide +kernel
theorem dX5_count_67 : decode cX5_count 67 = .ok (.istore_n 3, 1) := by decide +kernel
theorem dX5_count_68 : decode cX5_count 68 = .ok (.iload_n 3, 1) := by decide +kernel
theorem dX5_count_69 : decode cX5_count 69 = .ok (.aload_n 0, 1) := by decide +kernel
theorem dX5_count_70 : decode cX5_count 70 = .ok (.getfield 13, 3) := by decide +kernel
theorem dX5_count_73 : decode cX5_count 73 = .ok (.if_icmp .ge 89, 3) := by decide +kernel
theorem dX5_count_76 : decode cX5_count 76 = .ok (.iconst 0, 1) := by decide +kernel
theorem dX5_count_77 : decode cX5_count 77 = .ok (.istore 4, 2) := by decide +kernel
theorem dX5_count_79 : decode cX5_count 79 = .ok (.iload 4, 2) := by decide +kernel
theorem dX5_count_81 : decode cX5_count 81 = .ok (.aload_n 0, 1) := by decide +kernel
theorem dX5_count_82 : decode cX5_count 82 = .ok (.getfield 7, 3) := by decide +kernel
theorem dX5_count_85 : decode cX5_count 85 = .ok (.if_icmp .ge 71, 3) := by decide +kernel
theorem dX5_count_88 : decode cX5_count 88 = .ok (.iload_n 2, 1) := by decide +kernel
theorem dX5_count_89 : decode cX5_count 89 = .ok (.iload_n 1, 1) := by decide +kernel
theorem dX5_count_90 : decode cX5_count 90 = .ok (.iconst 2, 1) := by decide +kernel
theorem dX5_count_91 : decode cX5_count 91 = .ok (.if_icmp .ne 26, 3) := by decide +kernel
theorem dX5_count_94 : decode cX5_count 94 = .ok (.aload_n 0, 1) := by decide +kernel
theorem dX5_count_95 : decode cX5_count 95 = .ok (.getfield 38, 3) := by decide +kernel
theorem dX5_count_98 : decode cX5_count 98 = .ok (.bipush 24, 2) := by decide +kernel
theorem dX5_count_100 : decode cX5_count 100 = .ok (.iload_n 3, 1) := by decide +kernel
theorem dX5_count_101 : decode cX5_count 101 = .ok (.imul, 1) := by decide +kernel
theorem dX5_count_102 : decode cX5_count 102 = .ok (.iload 4, 2) := by decide +kernel
theorem dX5_count_104 : decode cX5_count 104 = .ok (.iadd, 1) := by decide +kernel
theorem dX5_count_105 : decode cX5_count 105 = .ok (.baload, 1) := by decide +kernel
theorem dX5_count_106 : decode cX5_count 106 = .ok (.ifCond .eq 7, 3) := by decide +kernel
theorem dX5_count_109 : decode cX5_count 109 = .ok (.iconst 1, 1) := by decide +kernel
theorem dX5_count_110 : decode cX5_count 110 = .ok (.goto 38, 3) := by decide +kernel
theorem dX5_count_113 : decode cX5_count 113 = .ok (.iconst 0, 1) := by decide +kernel
theorem dX5_count_114 : decode cX5_count 114 = .ok (.goto 34, 3) := by decide +kernel
theorem dX5_count_117 : decode cX5_count 117 = .ok (.aload_n 0, 1) := by decide +kernel
theorem dX5_count_118 : decode cX5_count 118 = .ok (.getfield 38, 3) := by decide +kernel
theorem dX5_count_121 : decode cX5_count 121 = .ok (.bipush 24, 2) := by decide +kernel
theorem dX5_count_123 : decode cX5_count 123 = .ok (.iload_n 3, 1) := by decide +kernel
theorem dX5_count_124 : decode cX5_count 124 = .ok (.imul, 1) := by decide +kernel
theorem dX5_count_125 : decode cX5_count 125 = .ok (.iload 4, 2) := by decide +kernel
theorem dX5_count_127 : decode cX5_count 127 = .ok (.iadd, 1) := by decide +kernel
theorem dX5_count_128 : decode cX5_count 128 = .ok (.baload, 1) := by decide +kernel
theorem dX5_count_129 : decode cX5_count 129 = .ok (.ifCond .eq 7, 3) := by decide +kernel
theorem dX5_count_132 : decode cX5_count 132 = .ok (.iconst 0, 1) := by decide +kernel
theorem dX5_count_133 : decode cX5_count 133 = .ok (.goto 15, 3) := by decide +kernel
theorem dX5_count_136 : decode cX5_count 136 = .ok (.aload_n 0, 1) := by decide +kernel
theorem dX5_count_137 : decode cX5_count 137 = .ok (.getfield 28, 3) := by decide +kernel
theorem dX5_count_140 : decode cX5_count 140 = .ok (.bipush 24, 2) := by decide +kernel
theorem dX5_count_142 : decode cX5_count 142 = .ok (.iload_n 3, 1) := by decide +kernel
theorem dX5_count_143 : decode cX5_count 143 = .ok (.imul, 1) := by decide +kernel
theorem dX5_count_144 : decode cX5_count 144 = .ok (.iload 4, 2) := by decide +kernel
theorem dX5_count_146 : decode cX5_count 146 = .ok (.iadd, 1) := by decide +kernel
theorem dX5_count_147 : decode cX5_count 147 = .ok (.iaload, 1) := by decide +kernel
theorem dX5_count_148 : decode cX5_count 148 = .ok (.iadd, 1) := by decide +kernel
theorem dX5_count_149 : decode cX5_count 149 = .ok (.istore_n 2, 1) := by decide +kernel
theorem dX5_count_150 : decode cX5_count 150 = .ok (.iinc 4 1, 3) := by decide +kernel
theorem dX5_count_153 : decode cX5_count 153 = .ok (.goto (-74), 3) := by decide +kernel
theorem dX5_count_156 : decode cX5_count 156 = .ok (.iinc 3 1, 3) := by decide +kernel
theorem dX5_count_159 : decode cX5_count 159 = .ok (.goto (-91), 3) := by decide +kernel
theorem dX5_count_162 : decode cX5_count 162 = .ok (.iload_n 2, 1) := by decide +kernel
theorem dX5_count_163 : decode cX5_count 163 = .ok (.ireturn, 1) := by decide +kernel
theorem dX5_count_164 : decode cX5_count 164 = .ok (.aload_n 0, 1) := by decide +kernel
theorem dX5_count_165 : decode cX5_count 165 = .ok (.getfield 16, 3) := by decide +kernel
theorem dX5_count_168 : decode cX5_count 168 = .ok (.ireturn, 1) := by decide +kernel
theorem dX5_count_169 : decode cX5_count 169 = .ok (.aload_n 0, 1) := by decide +kernel
theorem dX5_count_170 : decode cX5_count 170 = .ok (.invokevirtual 104, 3) := by decide +kernel
theorem dX5_count_173 : decode cX5_count 173 = .ok (.ireturn, 1) := by decide +kernel
theorem dX5_count_174 : decode cX5_count 174 = .ok (.aload_n 0, 1) := by decide +kernel
theorem dX5_count_175 : decode cX5_count 175 = .ok (.invokevirtual 120, 3) := by decide +kernel
theorem dX5_count_178 : decode cX5_count 178 = .ok (.aload_n 0, 1) := by decide +kernel
theorem dX5_count_179 : decode cX5_count 179 = .ok (.getfield 114, 3) := by decide +kernel
theorem dX5_count_182 : decode cX5_count 182 = .ok (.ireturn, 1) := by decide +kernel
theorem dX5_count_183 : decode cX5_count 183 = .ok (.aload_n 0, 1) := by decide +kernel
theorem dX5_count_184 : decode cX5_count 184 = .ok (.getfield 97, 3) := by decide +kernel
theorem dX5_count_187 : decode cX5_count 187 = .ok (.ifCond .eq 7, 3) := by decide +kernel
theorem dX5_count_190 : decode cX5_count 190 = .ok (.iconst 1, 1) := by decide +kernel
theorem dX5_count_191 : decode cX5_count 191 = .ok (.goto 4, 3) := by decide +kernel
theorem dX5_count_194 : decode cX5_count 194 = .ok (.iconst 0, 1) := by decide +kernel
theorem dX5_count_195 : decode cX5_count 195 = .ok (.ireturn, 1) := by decide +kernel
theorem dX5_count_196 : decode cX5_count 196 = .ok (.iconst (-1), 1) := by decide +kernel
theorem dX5_count_197 : decode cX5_count 197 = .ok (.ireturn, 1) := by decide +kernel
theorem dJ9_floorDiv_7cf53_0 : decode cJ9_floorDiv_7cf53 0 = .ok (.iload_n 0, 1) := by decide +kernel
theorem dJ9_floorDiv_7cf53_1 : decode cJ9_floorDiv_7cf53 1 = .ok (.iload_n 1, 1) := by decide +kernel
theorem dJ9_floorDiv_7cf53_2 : decode cJ9_floorDiv_7cf53 2 = .ok (.idiv, 1) := by decide +kernel
theorem dJ9_floorDiv_7cf53_3 : decode cJ9_floorDiv_7cf53 3 = .ok (.istore_n 2, 1) := by decide +kernel
theorem dJ9_floorDiv_7cf53_4 : decode cJ9_floorDiv_7cf53 4 = .ok (.iload_n 0, 1) := by decide +kernel
theorem dJ9_floorDiv_7cf53_5 : decode cJ9_floorDiv_7cf53 5 = .ok (.iload_n 1, 1) := by decide +kernel
theorem dJ9_floorDiv_7cf53_6 : decode cJ9_floorDiv_7cf53 6 = .ok (.ixor, 1) := by decide +kernel
theorem dJ9_floorDiv_7cf53_7 : decode cJ9_floorDiv_7cf53 7 = .ok (.ifCond .ge 14, 3) := by decide +kernel
theorem dJ9_floorDiv_7cf53_10 : decode cJ9_floorDiv_7cf53 10 = .ok (.iload_n 2, 1) := by decide +kernel
theorem dJ9_floorDiv_7cf53_11 : decode cJ9_floorDiv_7cf53 11 = .ok (.iload_n 1, 1) := by decide +kernel
theorem dJ9_floorDiv_7cf53_12 : decode cJ9_floorDiv_7cf53 12 = .ok (.imul, 1) := by decide +kernel
theorem dJ9_floorDiv_7cf53_13 : decode cJ9_floorDiv_7cf53 13 = .ok (.iload_n 0, 1) := by decide +kernel
theorem dJ9_floorDiv_7cf53_14 : decode cJ9_floorDiv_7cf53 14 = .ok (.if_icmp .eq 7, 3) := by decide +kernel
theorem dJ9_floorDiv_7cf53_17 : decode cJ9_floorDiv_7cf53 17 = .ok (.iload_n 2, 1) := by decide +kernel
theorem dJ9_floorDiv_7cf53_18 : decode cJ9_floorDiv_7cf53 18 = .ok (.iconst 1, 1) := by decide +kernel
theorem dJ9_floorDiv_7cf53_19 : decode cJ9_floorDiv_7cf53 19 = .ok (.isub, 1) := by decide +kernel
theorem dJ9_floorDiv_7cf53_20 : decode cJ9_floorDiv_7cf53 20 = .ok (.ireturn, 1) := by decide +kernel
theorem dJ9_floorDiv_7cf53_21 : decode cJ9_floorDiv_7cf53 21 = .ok (.iload_n 2, 1) := by decide +kernel
theorem dJ9_floorDiv_7cf53_22 : decode cJ9_floorDiv_7cf53 22 = .ok (.ireturn, 1) := by decide +kernel
theorem dJ9_floorMod_7cf53_0 : decode cJ9_floorMod_7cf53 0 = .ok (.iload_n 0, 1) := by decide +kernel
theorem dJ9_floorMod_7cf53_1 : decode cJ9_floorMod_7cf53 1 = .ok (.iload_n 1, 1) := by decide +kernel
theorem dJ9_floorMod_7cf53_2 : decode cJ9_floorMod_7cf53 2 = .ok (.irem, 1) := by decide +kernel
theorem dJ9_floorMod_7cf53_3 : decode cJ9_floorMod_7cf53 3 = .ok (.istore_n 2, 1) := by decide +kernel
theorem dJ9_floorMod_7cf53_4 : decode cJ9_floorMod_7cf53 4 = .ok (.iload_n 0, 1) := by decide +kernel
theorem dJ9_floorMod_7cf53_5 : decode cJ9_floorMod_7cf53 5 = .ok (.iload_n 1, 1) := by decide +kernel
theorem dJ9_floorMod_7cf53_6 : decode cJ9_floorMod_7cf53 6 = .ok (.ixor, 1) := by decide +kernel
theorem dJ9_floorMod_7cf53_7 : decode cJ9_floorMod_7cf53 7 = .ok (.ifCond .ge 11, 3) := by decide +kernel
theorem dJ9_floorMod_7cf53_10 : decode cJ9_floorMod_7cf53 10 = .ok (.iload_n 2, 1) := by decide +kernel
theorem dJ9_floorMod_7cf53_11 : decode cJ9_floorMod_7cf53 11 = .ok (.ifCond .eq 7, 3) := by decide +kernel
theorem dJ9_floorMod_7cf53_14 : decode cJ9_floorMod_7cf53 14 = .ok (.iload_n 2, 1) := by decide +kernel
theorem dJ9_floorMod_7cf53_15 : decode cJ9_floorMod_7cf53 15 = .ok (.iload_n 1, 1) := by decide +kernel
theorem dJ9_floorMod_7cf53_16 : decode cJ9_floorMod_7cf53 16 = .ok (.iadd, 1) := by decide +kernel
theorem dJ9_floorMod_7cf53_17 : decode cJ9_floorMod_7cf53 17 = .ok (.ireturn, 1) := by decide +kernel
theorem dJ9_floorMod_7cf53_18 : decode cJ9_floorMod_7cf53 18 = .ok (.iload_n 2, 1) := by decide +kernel
theorem dJ9_floorMod_7cf53_19 : decode cJ9_floorMod_7cf53 19 = .ok (.ireturn, 1) := by decide +kernel
theorem dJ9_abs_0f7a4_0 : decode cJ9_abs_0f7a4 0 = .ok (.iload_n 0, 1) := by decide +kernel
theorem dJ9_abs_0f7a4_1 : decode cJ9_abs_0f7a4 1 = .ok (.ifCond .ge 8, 3) := by decide +kernel
theorem dJ9_abs_0f7a4_4 : decode cJ9_abs_0f7a4 4 = .ok (.iload_n 0, 1) := by decide +kernel
theorem dJ9_abs_0f7a4_5 : decode cJ9_abs_0f7a4 5 = .ok (.ineg, 1) := by decide +kernel
theorem dJ9_abs_0f7a4_6 : decode cJ9_abs_0f7a4 6 = .ok (.goto 4, 3) := by decide +kernel
theorem dJ9_abs_0f7a4_9 : decode cJ9_abs_0f7a4 9 = .ok (.iload_n 0, 1) := by decide +kernel
theorem dJ9_abs_0f7a4_10 : decode cJ9_abs_0f7a4 10 = .ok (.ireturn, 1) := by decide +kernel
theorem dJ9_max_7cf53_0 : decode cJ9_max_7cf53 0 = .ok (.iload_n 0, 1) := by decide +kernel
theorem dJ9_max_7cf53_1 : decode cJ9_max_7cf53 1 = .ok (.iload_n 1, 1) := by decide +kernel
theorem dJ9_max_7cf53_2 : decode cJ9_max_7cf53 2 = .ok (.if_icmp .lt 7, 3) := by decide +kernel
theorem dJ9_max_7cf53_5 : decode cJ9_max_7cf53 5 = .ok (.iload_n 0, 1) := by decide +kernel
theorem dJ9_max_7cf53_6 : decode cJ9_max_7cf53 6 = .ok (.goto 4, 3) := by decide +kernel
theorem dJ9_max_7cf53_9 : decode cJ9_max_7cf53 9 = .ok (.iload_n 1, 1) := by decide +kernel
theorem dJ9_max_7cf53_10 : decode cJ9_max_7cf53 10 = .ok (.ireturn, 1) := by decide +kernel
theorem dJ9_min_7cf53_0 : decode cJ9_min_7cf53 0 = .ok (.iload_n 0, 1) := by decide +kernel
theorem dJ9_min_7cf53_1 : decode cJ9_min_7cf53 1 = .ok (.iload_n 1, 1) := by decide +kernel
theorem dJ9_min_7cf53_2 : decode cJ9_min_7cf53 2 = .ok (.if_icmp .gt 7, 3) := by decide +kernel
theorem dJ9_min_7cf53_5 : decode cJ9_min_7cf53 5 = .ok (.iload_n 0, 1) := by decide +kernel
theorem dJ9_min_7cf53_6 : decode cJ9_min_7cf53 6 = .ok (.goto 4, 3) := by decide +kernel
theorem dJ9_min_7cf53_9 : decode cJ9_min_7cf53 9 = .ok (.iload_n 1, 1) := by decide +kernel
theorem dJ9_min_7cf53_10 : decode cJ9_min_7cf53 10 = .ok (.ireturn, 1) := by decide +kernel
theorem dJ7_fill_53178_0 : decode cJ7_fill_53178 0 = .ok (.iconst 0, 1) := by decide +kernel
theorem dJ7_fill_53178_1 : decode cJ7_fill_53178 1 = .ok (.istore_n 2, 1) := by decide +kernel
theorem dJ7_fill_53178_2 : decode cJ7_fill_53178 2 = .ok (.aload_n 0, 1) := by decide +kernel
theorem dJ7_fill_53178_3 : decode cJ7_fill_53178 3 = .ok (.arraylength, 1) := by decide +kernel
theorem dJ7_fill_53178_4 : decode cJ7_fill_53178 4 = .ok (.istore_n 3, 1) := by decide +kernel
theorem dJ7_fill_53178_5 : decode cJ7_fill_53178 5 = .ok (.iload_n 2, 1) := by decide +kernel
theorem dJ7_fill_53178_6 : decode cJ7_fill_53178 6 = .ok (.iload_n 3, 1) := by decide +kernel
theorem dJ7_fill_53178_7 : decode cJ7_fill_53178 7 = .ok (.if_icmp .ge 13, 3) := by decide +kernel
theorem dJ7_fill_53178_10 : decode cJ7_fill_53178 10 = .ok (.aload_n 0, 1) := by decide +kernel
theorem dJ7_fill_53178_11 : decode cJ7_fill_53178 11 = .ok (.iload_n 2, 1) := by decide +kernel
theorem dJ7_fill_53178_12 : decode cJ7_fill_53178 12 = .ok (.iload_n 1, 1) := by decide +kernel
theorem dJ7_fill_53178_13 : decode cJ7_fill_53178 13 = .ok (.iastore, 1) := by decide +kernel
theorem dJ7_fill_53178_14 : decode cJ7_fill_53178 14 = .ok (.iinc 2 1, 3) := by decide +kernel
theorem dJ7_fill_53178_17 : decode cJ7_fill_53178 17 = .ok (.goto (-12), 3) := by decide +kernel
theorem dJ7_fill_53178_20 : decode cJ7_fill_53178 20 = .ok (.return_, 1) := by decide +kernel
set_option maxRecDepth 20000 in
theorem ggL_worth_X4_worth : GoodIn wsL_worth wsX4_worth := goodIn_ca (goodIn_r _ [6, 7, 8, 9, 10, 11, 12, 13, 14, 15, 16, 17, 18, 19, 20, 21, 22, 23, 24, 25, 26, 27, 28, 29, 30, 31, 32, 33, 34, 35, 36, 37, 38, 39, 40, 41, 42, 43, 44, 45, 46, 47, 48, 49, 50, 51] (by decide +kernel) (by decide +kernel)) (goodIn_sub (fun _ h => List.mem_cons_of_mem _ (List.mem_append_right _ h)) (by decide +kernel))
set_option maxRecDepth 20000 in
theorem gL_worth_X4_worth : GoodIn wsL_worth (wsV RL 7 RX4 yX4_worth wsX4_worth) := goodIn_app (goodIn_of _ (by decide +kernel)) ggL_worth_X4_worth
theorem dL_worth_0 : decode cL_worth 0 = .ok (.aload_n 3, 1) := by decide +kernel
theorem dL_worth_1 : decode cL_worth 1 = .ok (.iconst 0, 1) := by decide +kernel
theorem dL_worth_2 : decode cL_worth 2 = .ok (.aload_n 0, 1) := by decide +kernel
theorem dL_worth_3 : decode cL_worth 3 = .ok (.iload_n 1, 1) := by decide +kernel
theorem dL_worth_4 : decode cL_worth 4 = .ok (.iload_n 2, 1) := by decide +kernel
theorem dL_worth_5 : decode cL_worth 5 = .ok (.invokevirtual 7, 3) := by decide +kernel
theorem dL_worth_8 : decode cL_worth 8 = .ok (.lastore, 1) := by decide +kernel
theorem dL_worth_9 : decode cL_worth 9 = .ok (.goto 7, 3) := by decide +kernel
theorem dL_worth_12 : decode cL_worth 12 = .ok (.astore 4, 2) := by decide +kernel
theorem dL_worth_14 : decode cL_worth 14 = .ok (.iconst 1, 1) := by decide +kernel
theorem dL_worth_15 : decode cL_worth 15 = .ok (.ireturn, 1) := by decide +kernel
theorem dL_worth_16 : decode cL_worth 16 = .ok (.iconst 0, 1) := by decide +kernel
theorem dL_worth_17 : decode cL_worth 17 = .ok (.ireturn, 1) := by decide +kernel
