theorem dX0_init_0 : decode cX0_init 0 = .ok (.aload_n 0, 1) := by decide +kernel
theorem dX0_init_1 : decode cX0_init 1 = .ok (.invokespecial 3, 3) := by decide +kernel
theorem dX0_init_4 : decode cX0_init 4 = .ok (.aload_n 0, 1) := by decide +kernel
theorem dX0_init_5 : decode cX0_init 5 = .ok (.bipush 24, 2) := by decide +kernel
theorem dX0_init_7 : decode cX0_init 7 = .ok (.newarray .int, 2) := by decide +kernel
theorem dX0_init_9 : decode cX0_init 9 = .ok (.putfield 11, 3) := by decide +kernel
theorem dX0_init_12 : decode cX0_init 12 = .ok (.aload_n 0, 1) := by decide +kernel
theorem dX0_init_13 : decode cX0_init 13 = .ok (.bipush 24, 2) := by decide +kernel
theorem dX0_init_15 : decode cX0_init 15 = .ok (.newarray .int, 2) := by decide +kernel
theorem dX0_init_17 : decode cX0_init 17 = .ok (.putfield 17, 3) := by decide +kernel
theorem dX0_init_20 : decode cX0_init 20 = .ok (.aload_n 0, 1) := by decide +kernel
theorem dX0_init_21 : decode cX0_init 21 = .ok (.sipush 576, 3) := by decide +kernel
theorem dX0_init_24 : decode cX0_init 24 = .ok (.newarray .boolean, 2) := by decide +kernel
theorem dX0_init_26 : decode cX0_init 26 = .ok (.putfield 20, 3) := by decide +kernel
theorem dX0_init_29 : decode cX0_init 29 = .ok (.aload_n 0, 1) := by decide +kernel
theorem dX0_init_30 : decode cX0_init 30 = .ok (.iconst 0, 1) := by decide +kernel
theorem dX0_init_31 : decode cX0_init 31 = .ok (.putfield 24, 3) := by decide +kernel
theorem dX0_init_34 : decode cX0_init 34 = .ok (.return_, 1) := by decide +kernel
theorem dX0_gone_0 : decode cX0_gone 0 = .ok (.aload_n 0, 1) := by decide +kernel
theorem dX0_gone_1 : decode cX0_gone 1 = .ok (.getfield 24, 3) := by decide +kernel
theorem dX0_gone_4 : decode cX0_gone 4 = .ok (.ireturn, 1) := by decide +kernel
set_option maxRecDepth 20000 in
theorem ggX0_hasInk_X2_spot : GoodIn wsX0_hasInk wsX2_spot := goodIn_r _ [5] (by decide +kernel) (by decide +kernel)
set_option maxRecDepth 20000 in
theorem gX0_hasInk_X2_spot : GoodIn wsX0_hasInk (va_wsS RX0 28 yX2_spot wsX2_spot) := goodIn_app (goodIn_of _ (by decide +kernel)) ggX0_hasInk_X2_spot
theorem dX0_hasInk_0 : decode cX0_hasInk 0 = .ok (.iload_n 1, 1) := by decide +kernel
theorem dX0_hasInk_1 : decode cX0_hasInk 1 = .ok (.iload_n 2, 1) := by decide +kernel
theorem dX0_hasInk_2 : decode cX0_hasInk 2 = .ok (.invokestatic 28, 3) := by decide +kernel
theorem dX0_hasInk_5 : decode cX0_hasInk 5 = .ok (.istore_n 3, 1) := by decide +kernel
theorem dX0_hasInk_6 : decode cX0_hasInk 6 = .ok (.iload_n 3, 1) := by decide +kernel
theorem dX0_hasInk_7 : decode cX0_hasInk 7 = .ok (.ifCond .lt 25, 3) := by decide +kernel
theorem dX0_hasInk_10 : decode cX0_hasInk 10 = .ok (.iload_n 3, 1) := by decide +kernel
theorem dX0_hasInk_11 : decode cX0_hasInk 11 = .ok (.aload_n 0, 1) := by decide +kernel
theorem dX0_hasInk_12 : decode cX0_hasInk 12 = .ok (.getfield 20, 3) := by decide +kernel
theorem dX0_hasInk_15 : decode cX0_hasInk 15 = .ok (.arraylength, 1) := by decide +kernel
theorem dX0_hasInk_16 : decode cX0_hasInk 16 = .ok (.if_icmp .ge 16, 3) := by decide +kernel
theorem dX0_hasInk_19 : decode cX0_hasInk 19 = .ok (.aload_n 0, 1) := by decide +kernel
theorem dX0_hasInk_20 : decode cX0_hasInk 20 = .ok (.getfield 20, 3) := by decide +kernel
theorem dX0_hasInk_23 : decode cX0_hasInk 23 = .ok (.iload_n 3, 1) := by decide +kernel
theorem dX0_hasInk_24 : decode cX0_hasInk 24 = .ok (.baload, 1) := by decide +kernel
theorem dX0_hasInk_25 : decode cX0_hasInk 25 = .ok (.ifCond .eq 7, 3) := by decide +kernel
theorem dX0_hasInk_28 : decode cX0_hasInk 28 = .ok (.iconst 1, 1) := by decide +kernel
theorem dX0_hasInk_29 : decode cX0_hasInk 29 = .ok (.goto 4, 3) := by decide +kernel
theorem dX0_hasInk_32 : decode cX0_hasInk 32 = .ok (.iconst 0, 1) := by decide +kernel
theorem dX0_hasInk_33 : decode cX0_hasInk 33 = .ok (.ireturn, 1) := by decide +kernel
set_option maxRecDepth 20000 in
theorem ggX0_goOver_J7_fill_53178 : GoodIn wsX0_goOver wsJ7_fill_53178 := goodIn_r _ [11] (by decide +kernel) (by decide +kernel)
set_option maxRecDepth 20000 in
theorem gX0_goOver_J7_fill_53178 : GoodIn wsX0_goOver (va_wsS RX0 32 yJ7_fill_53178 wsJ7_fill_53178) := goodIn_app (goodIn_of _ (by decide +kernel)) ggX0_goOver_J7_fill_53178
set_option maxRecDepth 20000 in
theorem ggX0_goOver_X2_height : GoodIn wsX0_goOver wsX2_height := goodIn_r _ [16, 17, 67, 68, 69, 70] (by decide +kernel) (by decide +kernel)
set_option maxRecDepth 20000 in
theorem gX0_goOver_X2_height : GoodIn wsX0_goOver (wsV RX0 38 RX2 yX2_height wsX2_height) := goodIn_app (goodIn_of _ (by decide +kernel)) ggX0_goOver_X2_height
set_option maxRecDepth 20000 in
theorem ggX0_goOver_X0_goOverRow : GoodIn wsX0_goOver wsX0_goOverRow := goodIn_r _ [22, 23, 24, 25, 15, 26, 27, 28, 29, 30, 21, 31, 2, 32, 1, 33, 34, 35, 36, 37, 38, 39, 40, 41, 42, 43, 44, 17, 45, 46, 47, 48, 49, 50, 51, 52, 53, 54, 3, 55, 56, 57, 58, 59, 60, 61, 62, 67, 68, 69, 70, 63, 64, 65, 66] (by decide +kernel) (by decide +kernel)
set_option maxRecDepth 20000 in
theorem gX0_goOver_X0_goOverRow : GoodIn wsX0_goOver (wsV RX0 42 RX0 yX0_goOverRow wsX0_goOverRow) := goodIn_app (goodIn_of _ (by decide +kernel)) ggX0_goOver_X0_goOverRow
theorem dX0_goOver_0 : decode cX0_goOver 0 = .ok (.aload_n 0, 1) := by decide +kernel
theorem dX0_goOver_1 : decode cX0_goOver 1 = .ok (.iconst 0, 1) := by decide +kernel
theorem dX0_goOver_2 : decode cX0_goOver 2 = .ok (.putfield 24, 3) := by decide +kernel
theorem dX0_goOver_5 : decode cX0_goOver 5 = .ok (.aload_n 0, 1) := by decide +kernel
theorem dX0_goOver_6 : decode cX0_goOver 6 = .ok (.getfield 11, 3) := by decide +kernel
theorem dX0_goOver_9 : decode cX0_goOver 9 = .ok (.iconst 0, 1) := by decide +kernel
theorem dX0_goOver_10 : decode cX0_goOver 10 = .ok (.invokestatic 32, 3) := by decide +kernel
theorem dX0_goOver_13 : decode cX0_goOver 13 = .ok (.iconst 0, 1) := by decide +kernel
theorem dX0_goOver_14 : decode cX0_goOver 14 = .ok (.istore_n 3, 1) := by decide +kernel
theorem dX0_goOver_15 : decode cX0_goOver 15 = .ok (.iload_n 3, 1) := by decide +kernel
theorem dX0_goOver_16 : decode cX0_goOver 16 = .ok (.aload_n 1, 1) := by decide +kernel
theorem dX0_goOver_17 : decode cX0_goOver 17 = .ok (.invokevirtual 38, 3) := by decide +kernel
theorem dX0_goOver_20 : decode cX0_goOver 20 = .ok (.if_icmp .ge 66, 3) := by decide +kernel
theorem dX0_goOver_23 : decode cX0_goOver 23 = .ok (.aload_n 0, 1) := by decide +kernel
theorem dX0_goOver_24 : decode cX0_goOver 24 = .ok (.getfield 17, 3) := by decide +kernel
theorem dX0_goOver_27 : decode cX0_goOver 27 = .ok (.iconst 0, 1) := by decide +kernel
theorem dX0_goOver_28 : decode cX0_goOver 28 = .ok (.invokestatic 32, 3) := by decide +kernel
theorem dX0_goOver_31 : decode cX0_goOver 31 = .ok (.iload_n 2, 1) := by decide +kernel
theorem dX0_goOver_32 : decode cX0_goOver 32 = .ok (.ifCond .eq 14, 3) := by decide +kernel
theorem dX0_goOver_35 : decode cX0_goOver 35 = .ok (.iload_n 3, 1) := by decide +kernel
theorem dX0_goOver_36 : decode cX0_goOver 36 = .ok (.iconst 2, 1) := by decide +kernel
theorem dX0_goOver_37 : decode cX0_goOver 37 = .ok (.irem, 1) := by decide +kernel
theorem dX0_goOver_38 : decode cX0_goOver 38 = .ok (.iconst 1, 1) := by decide +kernel
theorem dX0_goOver_39 : decode cX0_goOver 39 = .ok (.if_icmp .ne 7, 3) := by decide +kernel
theorem dX0_goOver_42 : decode cX0_goOver 42 = .ok (.iconst 1, 1) := by decide +kernel
theorem dX0_goOver_43 : decode cX0_goOver 43 = .ok (.goto 4, 3) := by decide +kernel
theorem dX0_goOver_46 : decode cX0_goOver 46 = .ok (.iconst 0, 1) := by decide +kernel
theorem dX0_goOver_47 : decode cX0_goOver 47 = .ok (.istore 4, 2) := by decide +kernel
theorem dX0_goOver_49 : decode cX0_goOver 49 = .ok (.aload_n 0, 1) := by decide +kernel
theorem dX0_goOver_50 : decode cX0_goOver 50 = .ok (.aload_n 1, 1) := by decide +kernel
theorem dX0_goOver_51 : decode cX0_goOver 51 = .ok (.iload_n 3, 1) := by decide +kernel
theorem dX0_goOver_52 : decode cX0_goOver 52 = .ok (.iload 4, 2) := by decide +kernel
theorem dX0_goOver_54 : decode cX0_goOver 54 = .ok (.ifCond .eq 7, 3) := by decide +kernel
theorem dX0_goOver_57 : decode cX0_goOver 57 = .ok (.iconst (-1), 1) := by decide +kernel
theorem dX0_goOver_58 : decode cX0_goOver 58 = .ok (.goto 4, 3) := by decide +kernel
theorem dX0_goOver_61 : decode cX0_goOver 61 = .ok (.iconst 1, 1) := by decide +kernel
theorem dX0_goOver_62 : decode cX0_goOver 62 = .ok (.invokevirtual 42, 3) := by decide +kernel
theorem dX0_goOver_65 : decode cX0_goOver 65 = .ok (.aload_n 0, 1) := by decide +kernel
theorem dX0_goOver_66 : decode cX0_goOver 66 = .ok (.getfield 17, 3) := by decide +kernel
theorem dX0_goOver_69 : decode cX0_goOver 69 = .ok (.iconst 0, 1) := by decide +kernel
theorem dX0_goOver_70 : decode cX0_goOver 70 = .ok (.aload_n 0, 1) := by decide +kernel
theorem dX0_goOver_71 : decode cX0_goOver 71 = .ok (.getfield 11, 3) := by decide +kernel
theorem dX0_goOver_74 : decode cX0_goOver 74 = .ok (.iconst 0, 1) := by decide +kernel
theorem dX0_goOver_75 : decode cX0_goOver 75 = .ok (.bipush 24, 2) := by decide +kernel
theorem dX0_goOver_77 : decode cX0_goOver 77 = .ok (.invokestatic 46, 3) := by decide +kernel
theorem dX0_goOver_80 : decode cX0_goOver 80 = .ok (.iinc 3 1, 3) := by decide +kernel
theorem dX0_goOver_83 : decode cX0_goOver 83 = .ok (.goto (-68), 3) := by decide +kernel
theorem dX0_goOver_86 : decode cX0_goOver 86 = .ok (.iconst 0, 1) := by decide +kernel
theorem dX0_goOver_87 : decode cX0_goOver 87 = .ok (.istore_n 3, 1) := by decide +kernel
theorem dX0_goOver_88 : decode cX0_goOver 88 = .ok (.iload_n 3, 1) := by decide +kernel
theorem dX0_goOver_89 : decode cX0_goOver 89 = .ok (.aload_n 0, 1) := by decide +kernel
theorem dX0_goOver_90 : decode cX0_goOver 90 = .ok (.getfield 11, 3) := by decide +kernel
theorem dX0_goOver_93 : decode cX0_goOver 93 = .ok (.arraylength, 1) := by decide +kernel
theorem dX0_goOver_94 : decode cX0_goOver 94 = .ok (.if_icmp .ge 24, 3) := by decide +kernel
theorem dX0_goOver_97 : decode cX0_goOver 97 = .ok (.aload_n 0, 1) := by decide +kernel
theorem dX0_goOver_98 : decode cX0_goOver 98 = .ok (.dup, 1) := by decide +kernel
theorem dX0_goOver_99 : decode cX0_goOver 99 = .ok (.getfield 24, 3) := by decide +kernel
theorem dX0_goOver_102 : decode cX0_goOver 102 = .ok (.aload_n 0, 1) := by decide +kernel
theorem dX0_goOver_103 : decode cX0_goOver 103 = .ok (.getfield 11, 3) := by decide +kernel
theorem dX0_goOver_106 : decode cX0_goOver 106 = .ok (.iload_n 3, 1) := by decide +kernel
theorem dX0_goOver_107 : decode cX0_goOver 107 = .ok (.iaload, 1) := by decide +kernel
theorem dX0_goOver_108 : decode cX0_goOver 108 = .ok (.iadd, 1) := by decide +kernel
theorem dX0_goOver_109 : decode cX0_goOver 109 = .ok (.putfield 24, 3) := by decide +kernel
theorem dX0_goOver_112 : decode cX0_goOver 112 = .ok (.iinc 3 1, 3) := by decide +kernel
theorem dX0_goOver_115 : decode cX0_goOver 115 = .ok (.goto (-27), 3) := by decide +kernel
theorem dX0_goOver_118 : decode cX0_goOver 118 = .ok (.return_, 1) := by decide +kernel
set_option maxRecDepth 20000 in
theorem ggX0_goOverRow_X2_width : GoodIn wsX0_goOverRow wsX2_width := goodIn_r _ [5, 6, 47, 48, 49, 50] (by decide +kernel) (by decide +kernel)
set_option maxRecDepth 20000 in
theorem gX0_goOverRow_X2_width : GoodIn wsX0_goOverRow (wsV RX0 52 RX2 yX2_width wsX2_width) := goodIn_app (goodIn_of _ (by decide +kernel)) ggX0_goOverRow_X2_width
set_option maxRecDepth 20000 in
theorem ggX0_goOverRow_X0_goOverPlace : GoodIn wsX0_goOverRow wsX0_goOverPlace := goodIn_r _ [11, 12, 13, 14, 15, 16, 4, 17, 18, 19, 20, 21, 22, 23, 24, 25, 26, 6, 27, 28, 29, 30, 31, 32, 33, 1, 2, 3, 5, 34, 35, 36, 10, 37, 38, 39, 40, 41, 42, 43, 44, 45, 46, 51, 52, 53, 54, 47, 48, 49, 50] (by decide +kernel) (by decide +kernel)
set_option maxRecDepth 20000 in
theorem gX0_goOverRow_X0_goOverPlace : GoodIn wsX0_goOverRow (wsV RX0 55 RX0 yX0_goOverPlace wsX0_goOverPlace) := goodIn_app (goodIn_of _ (by decide +kernel)) ggX0_goOverRow_X0_goOverPlace
theorem dX0_goOverRow_0 : decode cX0_goOverRow 0 = .ok (.aload_n 1, 1) := by decide +kernel
theorem dX0_goOverRow_1 : decode cX0_goOverRow 1 = .ok (.invokevirtual 52, 3) := by decide +kernel
theorem dX0_goOverRow_4 : decode cX0_goOverRow 4 = .ok (.iconst 1, 1) := by decide +kernel
theorem dX0_goOverRow_5 : decode cX0_goOverRow 5 = .ok (.isub, 1) := by decide +kernel
theorem dX0_goOverRow_6 : decode cX0_goOverRow 6 = .ok (.istore 4, 2) := by decide +kernel
theorem dX0_goOverRow_8 : decode cX0_goOverRow 8 = .ok (.iconst 0, 1) := by decide +kernel
theorem dX0_goOverRow_9 : decode cX0_goOverRow 9 = .ok (.istore 5, 2) := by decide +kernel
theorem dX0_goOverRow_11 : decode cX0_goOverRow 11 = .ok (.iload 5, 2) := by decide +kernel
theorem dX0_goOverRow_13 : decode cX0_goOverRow 13 = .ok (.iload 4, 2) := by decide +kernel
theorem dX0_goOverRow_15 : decode cX0_goOverRow 15 = .ok (.if_icmp .gt 30, 3) := by decide +kernel
theorem dX0_goOverRow_18 : decode cX0_goOverRow 18 = .ok (.aload_n 0, 1) := by decide +kernel
theorem dX0_goOverRow_19 : decode cX0_goOverRow 19 = .ok (.aload_n 1, 1) := by decide +kernel
theorem dX0_goOverRow_20 : decode cX0_goOverRow 20 = .ok (.iload_n 3, 1) := by decide +kernel
theorem dX0_goOverRow_21 : decode cX0_goOverRow 21 = .ok (.ifCond .le 8, 3) := by decide +kernel
theorem dX0_goOverRow_24 : decode cX0_goOverRow 24 = .ok (.iload 5, 2) := by decide +kernel
theorem dX0_goOverRow_26 : decode cX0_goOverRow 26 = .ok (.goto 8, 3) := by decide +kernel
theorem dX0_goOverRow_29 : decode cX0_goOverRow 29 = .ok (.iload 4, 2) := by decide +kernel
theorem dX0_goOverRow_31 : decode cX0_goOverRow 31 = .ok (.iload 5, 2) := by decide +kernel
theorem dX0_goOverRow_33 : decode cX0_goOverRow 33 = .ok (.isub, 1) := by decide +kernel
theorem dX0_goOverRow_34 : decode cX0_goOverRow 34 = .ok (.iload_n 2, 1) := by decide +kernel
theorem dX0_goOverRow_35 : decode cX0_goOverRow 35 = .ok (.iload_n 3, 1) := by decide +kernel
theorem dX0_goOverRow_36 : decode cX0_goOverRow 36 = .ok (.invokevirtual 55, 3) := by decide +kernel
theorem dX0_goOverRow_39 : decode cX0_goOverRow 39 = .ok (.iinc 5 1, 3) := by decide +kernel
theorem dX0_goOverRow_42 : decode cX0_goOverRow 42 = .ok (.goto (-31), 3) := by decide +kernel
theorem dX0_goOverRow_45 : decode cX0_goOverRow 45 = .ok (.return_, 1) := by decide +kernel
set_option maxRecDepth 20000 in
theorem ggX0_goOverPlace_X2_spot : GoodIn wsX0_goOverPlace wsX2_spot := goodIn_r _ [7] (by decide +kernel) (by decide +kernel)
set_option maxRecDepth 20000 in
theorem gX0_goOverPlace_X2_spot : GoodIn wsX0_goOverPlace (va_wsS RX0 28 yX2_spot wsX2_spot) := goodIn_app (goodIn_of _ (by decide +kernel)) ggX0_goOverPlace_X2_spot
set_option maxRecDepth 20000 in
theorem ggX0_goOverPlace_X2_isLine : GoodIn wsX0_goOverPlace wsX2_isLine := goodIn_r _ [11, 12, 13, 14, 15, 6, 16, 17, 18, 19, 5, 7, 47, 48, 49, 50] (by decide +kernel) (by decide +kernel)
set_option maxRecDepth 20000 in
theorem gX0_goOverPlace_X2_isLine : GoodIn wsX0_goOverPlace (wsV RX0 59 RX2 yX2_isLine wsX2_isLine) := goodIn_app (goodIn_of _ (by decide +kernel)) ggX0_goOverPlace_X2_isLine
set_option maxRecDepth 20000 in
theorem ggX0_goOverPlace_X2_greyAt : GoodIn wsX0_goOverPlace wsX2_greyAt := goodIn_r _ [23, 24, 13, 14, 15, 6, 16, 17, 18, 19, 5, 7, 47, 48, 49, 50] (by decide +kernel) (by decide +kernel)
set_option maxRecDepth 20000 in
theorem gX0_goOverPlace_X2_greyAt : GoodIn wsX0_goOverPlace (wsV RX0 63 RX2 yX2_greyAt wsX2_greyAt) := goodIn_app (goodIn_of _ (by decide +kernel)) ggX0_goOverPlace_X2_greyAt
set_option maxRecDepth 20000 in
theorem ggX0_goOverPlace_X2_width : GoodIn wsX0_goOverPlace wsX2_width := goodIn_r _ [28, 17, 47, 48, 49, 50] (by decide +kernel) (by decide +kernel)
set_option maxRecDepth 20000 in
theorem gX0_goOverPlace_X2_width : GoodIn wsX0_goOverPlace (wsV RX0 52 RX2 yX2_width wsX2_width) := goodIn_app (goodIn_of _ (by decide +kernel)) ggX0_goOverPlace_X2_width
set_option maxRecDepth 20000 in
theorem ggX0_goOverPlace_X0_carryOn : GoodIn wsX0_goOverPlace wsX0_carryOn := goodIn_r _ [33, 1, 34, 35, 36, 37, 38, 39, 40, 41, 32, 42, 3, 43, 44, 45, 46] (by decide +kernel) (by decide +kernel)
set_option maxRecDepth 20000 in
theorem gX0_goOverPlace_X0_carryOn : GoodIn wsX0_goOverPlace (wsV RX0 66 RX0 yX0_carryOn wsX0_carryOn) := goodIn_app (goodIn_of _ (by decide +kernel)) ggX0_goOverPlace_X0_carryOn
theorem dX0_goOverPlace_0 : decode cX0_goOverPlace 0 = .ok (.iload_n 2, 1) := by decide +kernel
theorem dX0_goOverPlace_1 : decode cX0_goOverPlace 1 = .ok (.iload_n 3, 1) := by decide +kernel
theorem dX0_goOverPlace_2 : decode cX0_goOverPlace 2 = .ok (.invokestatic 28, 3) := by decide +kernel
theorem dX0_goOverPlace_5 : decode cX0_goOverPlace 5 = .ok (.istore 5, 2) := by decide +kernel
theorem dX0_goOverPlace_7 : decode cX0_goOverPlace 7 = .ok (.iload_n 2, 1) := by decide +kernel
theorem dX0_goOverPlace_8 : decode cX0_goOverPlace 8 = .ok (.ifCond .lt 27, 3) := by decide +kernel
theorem dX0_goOverPlace_11 : decode cX0_goOverPlace 11 = .ok (.iload_n 2, 1) := by decide +kernel
theorem dX0_goOverPlace_12 : decode cX0_goOverPlace 12 = .ok (.aload_n 0, 1) := by decide +kernel
theorem dX0_goOverPlace_13 : decode cX0_goOverPlace 13 = .ok (.getfield 11, 3) := by decide +kernel
theorem dX0_goOverPlace_16 : decode cX0_goOverPlace 16 = .ok (.arraylength, 1) := by decide +kernel
theorem dX0_goOverPlace_17 : decode cX0_goOverPlace 17 = .ok (.if_icmp .ge 18, 3) := by decide +kernel
theorem dX0_goOverPlace_20 : decode cX0_goOverPlace 20 = .ok (.iload 5, 2) := by decide +kernel
theorem dX0_goOverPlace_22 : decode cX0_goOverPlace 22 = .ok (.ifCond .lt 13, 3) := by decide +kernel
theorem dX0_goOverPlace_25 : decode cX0_goOverPlace 25 = .ok (.iload 5, 2) := by decide +kernel
theorem dX0_goOverPlace_27 : decode cX0_goOverPlace 27 = .ok (.aload_n 0, 1) := by decide +kernel
theorem dX0_goOverPlace_28 : decode cX0_goOverPlace 28 = .ok (.getfield 20, 3) := by decide +kernel
theorem dX0_goOverPlace_31 : decode cX0_goOverPlace 31 = .ok (.arraylength, 1) := by decide +kernel
theorem dX0_goOverPlace_32 : decode cX0_goOverPlace 32 = .ok (.if_icmp .lt 4, 3) := by decide +kernel
theorem dX0_goOverPlace_35 : decode cX0_goOverPlace 35 = .ok (.return_, 1) := by decide +kernel
theorem dX0_goOverPlace_36 : decode cX0_goOverPlace 36 = .ok (.aload_n 1, 1) := by decide +kernel
theorem dX0_goOverPlace_37 : decode cX0_goOverPlace 37 = .ok (.iload_n 2, 1) := by decide +kernel
theorem dX0_goOverPlace_38 : decode cX0_goOverPlace 38 = .ok (.iload_n 3, 1) := by decide +kernel
theorem dX0_goOverPlace_39 : decode cX0_goOverPlace 39 = .ok (.invokevirtual 59, 3) := by decide +kernel
theorem dX0_goOverPlace_42 : decode cX0_goOverPlace 42 = .ok (.ifCond .eq 19, 3) := by decide +kernel
theorem dX0_goOverPlace_45 : decode cX0_goOverPlace 45 = .ok (.aload_n 0, 1) := by decide +kernel
theorem dX0_goOverPlace_46 : decode cX0_goOverPlace 46 = .ok (.dup, 1) := by decide +kernel
theorem dX0_goOverPlace_47 : decode cX0_goOverPlace 47 = .ok (.getfield 24, 3) := by decide +kernel
theorem dX0_goOverPlace_50 : decode cX0_goOverPlace 50 = .ok (.aload_n 0, 1) := by decide +kernel
theorem dX0_goOverPlace_51 : decode cX0_goOverPlace 51 = .ok (.getfield 11, 3) := by decide +kernel
theorem dX0_goOverPlace_54 : decode cX0_goOverPlace 54 = .ok (.iload_n 2, 1) := by decide +kernel
theorem dX0_goOverPlace_55 : decode cX0_goOverPlace 55 = .ok (.iaload, 1) := by decide +kernel
theorem dX0_goOverPlace_56 : decode cX0_goOverPlace 56 = .ok (.iadd, 1) := by decide +kernel
theorem dX0_goOverPlace_57 : decode cX0_goOverPlace 57 = .ok (.putfield 24, 3) := by decide +kernel
theorem dX0_goOverPlace_60 : decode cX0_goOverPlace 60 = .ok (.return_, 1) := by decide +kernel
theorem dX0_goOverPlace_61 : decode cX0_goOverPlace 61 = .ok (.aload_n 1, 1) := by decide +kernel
theorem dX0_goOverPlace_62 : decode cX0_goOverPlace 62 = .ok (.iload_n 2, 1) := by decide +kernel
theorem dX0_goOverPlace_63 : decode cX0_goOverPlace 63 = .ok (.iload_n 3, 1) := by decide +kernel
theorem dX0_goOverPlace_64 : decode cX0_goOverPlace 64 = .ok (.invokevirtual 63, 3) := by decide +kernel
theorem dX0_goOverPlace_67 : decode cX0_goOverPlace 67 = .ok (.aload_n 0, 1) := by decide +kernel
theorem dX0_goOverPlace_68 : decode cX0_goOverPlace 68 = .ok (.getfield 11, 3) := by decide +kernel
theorem dX0_goOverPlace_71 : decode cX0_goOverPlace 71 = .ok (.iload_n 2, 1) := by decide +kernel
theorem dX0_goOverPlace_72 : decode cX0_goOverPlace 72 = .ok (.iaload, 1) := by decide +kernel
theorem dX0_goOverPlace_73 : decode cX0_goOverPlace 73 = .ok (.iadd, 1) := by decide +kernel
theorem dX0_goOverPlace_74 : decode cX0_goOverPlace 74 = .ok (.istore 6, 2) := by decide +kernel
theorem dX0_goOverPlace_76 : decode cX0_goOverPlace 76 = .ok (.aload_n 0, 1) := by decide +kernel
theorem dX0_goOverPlace_77 : decode cX0_goOverPlace 77 = .ok (.getfield 20, 3) := by decide +kernel
theorem dX0_goOverPlace_80 : decode cX0_goOverPlace 80 = .ok (.iload 5, 2) := by decide +kernel
theorem dX0_goOverPlace_82 : decode cX0_goOverPlace 82 = .ok (.iload 6, 2) := by decide +kernel
theorem dX0_goOverPlace_84 : decode cX0_goOverPlace 84 = .ok (.sipush 128, 3) := by decide +kernel
theorem dX0_goOverPlace_87 : decode cX0_goOverPlace 87 = .ok (.if_icmp .lt 7, 3) := by decide +kernel
theorem dX0_goOverPlace_90 : decode cX0_goOverPlace 90 = .ok (.iconst 1, 1) := by decide +kernel
theorem dX0_goOverPlace_91 : decode cX0_goOverPlace 91 = .ok (.goto 4, 3) := by decide +kernel
theorem dX0_goOverPlace_94 : decode cX0_goOverPlace 94 = .ok (.iconst 0, 1) := by decide +kernel
theorem dX0_goOverPlace_95 : decode cX0_goOverPlace 95 = .ok (.bastore, 1) := by decide +kernel
theorem dX0_goOverPlace_96 : decode cX0_goOverPlace 96 = .ok (.aload_n 0, 1) := by decide +kernel
theorem dX0_goOverPlace_97 : decode cX0_goOverPlace 97 = .ok (.aload_n 0, 1) := by decide +kernel
theorem dX0_goOverPlace_98 : decode cX0_goOverPlace 98 = .ok (.getfield 20, 3) := by decide +kernel
theorem dX0_goOverPlace_101 : decode cX0_goOverPlace 101 = .ok (.iload 5, 2) := by decide +kernel
theorem dX0_goOverPlace_103 : decode cX0_goOverPlace 103 = .ok (.baload, 1) := by decide +kernel
theorem dX0_goOverPlace_104 : decode cX0_goOverPlace 104 = .ok (.ifCond .eq 12, 3) := by decide +kernel
theorem dX0_goOverPlace_107 : decode cX0_goOverPlace 107 = .ok (.iload 6, 2) := by decide +kernel
theorem dX0_goOverPlace_109 : decode cX0_goOverPlace 109 = .ok (.sipush 255, 3) := by decide +kernel
theorem dX0_goOverPlace_112 : decode cX0_goOverPlace 112 = .ok (.isub, 1) := by decide +kernel
theorem dX0_goOverPlace_113 : decode cX0_goOverPlace 113 = .ok (.goto 5, 3) := by decide +kernel
theorem dX0_goOverPlace_116 : decode cX0_goOverPlace 116 = .ok (.iload 6, 2) := by decide +kernel
theorem dX0_goOverPlace_118 : decode cX0_goOverPlace 118 = .ok (.iload_n 2, 1) := by decide +kernel
theorem dX0_goOverPlace_119 : decode cX0_goOverPlace 119 = .ok (.iload 4, 2) := by decide +kernel
theorem dX0_goOverPlace_121 : decode cX0_goOverPlace 121 = .ok (.aload_n 1, 1) := by decide +kernel
theorem dX0_goOverPlace_122 : decode cX0_goOverPlace 122 = .ok (.invokevirtual 52, 3) := by decide +kernel
theorem dX0_goOverPlace_125 : decode cX0_goOverPlace 125 = .ok (.invokevirtual 66, 3) := by decide +kernel
theorem dX0_goOverPlace_128 : decode cX0_goOverPlace 128 = .ok (.return_, 1) := by decide +kernel
set_option maxRecDepth 20000 in
theorem ggX0_carryOn_J9_floorDiv_7cf53 : GoodIn wsX0_carryOn wsJ9_floorDiv_7cf53 := goodIn_r _ [6] (by decide +kernel) (by decide +kernel)
set_option maxRecDepth 20000 in
theorem gX0_carryOn_J9_floorDiv_7cf53 : GoodIn wsX0_carryOn (va_wsS RX0 70 yJ9_floorDiv_7cf53 wsJ9_floorDiv_7cf53) := goodIn_app (goodIn_of _ (by decide +kernel)) ggX0_carryOn_J9_floorDiv_7cf53
set_option maxRecDepth 20000 in
theorem ggX0_carryOn_X0_give : GoodIn wsX0_carryOn wsX0_give := goodIn_r _ [11, 12, 13, 14, 15, 16] (by decide +kernel) (by decide +kernel)
set_option maxRecDepth 20000 in
theorem gX0_carryOn_X0_give : GoodIn wsX0_carryOn (wsV RX0 75 RX0 yX0_give wsX0_give) := goodIn_app (goodIn_of _ (by decide +kernel)) ggX0_carryOn_X0_give
theorem dX0_carryOn_0 : decode cX0_carryOn 0 = .ok (.bipush 7, 2) := by decide +kernel
theorem dX0_carryOn_2 : decode cX0_carryOn 2 = .ok (.iload_n 1, 1) := by decide +kernel
theorem dX0_carryOn_3 : decode cX0_carryOn 3 = .ok (.imul, 1) := by decide +kernel
theorem dX0_carryOn_4 : decode cX0_carryOn 4 = .ok (.bipush 16, 2) := by decide +kernel
theorem dX0_carryOn_6 : decode cX0_carryOn 6 = .ok (.invokestatic 70, 3) := by decide +kernel
theorem dX0_carryOn_9 : decode cX0_carryOn 9 = .ok (.istore 5, 2) := by decide +kernel
theorem dX0_carryOn_11 : decode cX0_carryOn 11 = .ok (.iconst 3, 1) := by decide +kernel
theorem dX0_carryOn_12 : decode cX0_carryOn 12 = .ok (.iload_n 1, 1) := by decide +kernel
theorem dX0_carryOn_13 : decode cX0_carryOn 13 = .ok (.imul, 1) := by decide +kernel
theorem dX0_carryOn_14 : decode cX0_carryOn 14 = .ok (.bipush 16, 2) := by decide +kernel
theorem dX0_carryOn_16 : decode cX0_carryOn 16 = .ok (.invokestatic 70, 3) := by decide +kernel
theorem dX0_carryOn_19 : decode cX0_carryOn 19 = .ok (.istore 6, 2) := by decide +kernel
theorem dX0_carryOn_21 : decode cX0_carryOn 21 = .ok (.iconst 5, 1) := by decide +kernel
theorem dX0_carryOn_22 : decode cX0_carryOn 22 = .ok (.iload_n 1, 1) := by decide +kernel
theorem dX0_carryOn_23 : decode cX0_carryOn 23 = .ok (.imul, 1) := by decide +kernel
theorem dX0_carryOn_24 : decode cX0_carryOn 24 = .ok (.bipush 16, 2) := by decide +kernel
theorem dX0_carryOn_26 : decode cX0_carryOn 26 = .ok (.invokestatic 70, 3) := by decide +kernel
theorem dX0_carryOn_29 : decode cX0_carryOn 29 = .ok (.istore 7, 2) := by decide +kernel
theorem dX0_carryOn_31 : decode cX0_carryOn 31 = .ok (.iload_n 1, 1) := by decide +kernel
theorem dX0_carryOn_32 : decode cX0_carryOn 32 = .ok (.iload 5, 2) := by decide +kernel
theorem dX0_carryOn_34 : decode cX0_carryOn 34 = .ok (.isub, 1) := by decide +kernel
theorem dX0_carryOn_35 : decode cX0_carryOn 35 = .ok (.iload 6, 2) := by decide +kernel
theorem dX0_carryOn_37 : decode cX0_carryOn 37 = .ok (.isub, 1) := by decide +kernel
theorem dX0_carryOn_38 : decode cX0_carryOn 38 = .ok (.iload 7, 2) := by decide +kernel
theorem dX0_carryOn_40 : decode cX0_carryOn 40 = .ok (.isub, 1) := by decide +kernel
theorem dX0_carryOn_41 : decode cX0_carryOn 41 = .ok (.istore 8, 2) := by decide +kernel
theorem dX0_carryOn_43 : decode cX0_carryOn 43 = .ok (.aload_n 0, 1) := by decide +kernel
theorem dX0_carryOn_44 : decode cX0_carryOn 44 = .ok (.aload_n 0, 1) := by decide +kernel
theorem dX0_carryOn_45 : decode cX0_carryOn 45 = .ok (.getfield 11, 3) := by decide +kernel
theorem dX0_carryOn_48 : decode cX0_carryOn 48 = .ok (.iload_n 2, 1) := by decide +kernel
theorem dX0_carryOn_49 : decode cX0_carryOn 49 = .ok (.iload_n 3, 1) := by decide +kernel
theorem dX0_carryOn_50 : decode cX0_carryOn 50 = .ok (.iadd, 1) := by decide +kernel
theorem dX0_carryOn_51 : decode cX0_carryOn 51 = .ok (.iload 5, 2) := by decide +kernel
theorem dX0_carryOn_53 : decode cX0_carryOn 53 = .ok (.iload 4, 2) := by decide +kernel
theorem dX0_carryOn_55 : decode cX0_carryOn 55 = .ok (.invokevirtual 75, 3) := by decide +kernel
theorem dX0_carryOn_58 : decode cX0_carryOn 58 = .ok (.aload_n 0, 1) := by decide +kernel
theorem dX0_carryOn_59 : decode cX0_carryOn 59 = .ok (.aload_n 0, 1) := by decide +kernel
theorem dX0_carryOn_60 : decode cX0_carryOn 60 = .ok (.getfield 17, 3) := by decide +kernel
theorem dX0_carryOn_63 : decode cX0_carryOn 63 = .ok (.iload_n 2, 1) := by decide +kernel
theorem dX0_carryOn_64 : decode cX0_carryOn 64 = .ok (.iload_n 3, 1) := by decide +kernel
theorem dX0_carryOn_65 : decode cX0_carryOn 65 = .ok (.isub, 1) := by decide +kernel
theorem dX0_carryOn_66 : decode cX0_carryOn 66 = .ok (.iload 6, 2) := by decide +kernel
theorem dX0_carryOn_68 : decode cX0_carryOn 68 = .ok (.iload 4, 2) := by decide +kernel
theorem dX0_carryOn_70 : decode cX0_carryOn 70 = .ok (.invokevirtual 75, 3) := by decide +kernel
theorem dX0_carryOn_73 : decode cX0_carryOn 73 = .ok (.aload_n 0, 1) := by decide +kernel
theorem dX0_carryOn_74 : decode cX0_carryOn 74 = .ok (.aload_n 0, 1) := by decide +kernel
theorem dX0_carryOn_75 : decode cX0_carryOn 75 = .ok (.getfield 17, 3) := by decide +kernel
theorem dX0_carryOn_78 : decode cX0_carryOn 78 = .ok (.iload_n 2, 1) := by decide +kernel
theorem dX0_carryOn_79 : decode cX0_carryOn 79 = .ok (.iload 7, 2) := by decide +kernel
theorem dX0_carryOn_81 : decode cX0_carryOn 81 = .ok (.iload 4, 2) := by decide +kernel
theorem dX0_carryOn_83 : decode cX0_carryOn 83 = .ok (.invokevirtual 75, 3) := by decide +kernel
theorem dX0_carryOn_86 : decode cX0_carryOn 86 = .ok (.aload_n 0, 1) := by decide +kernel
theorem dX0_carryOn_87 : decode cX0_carryOn 87 = .ok (.aload_n 0, 1) := by decide +kernel
theorem dX0_carryOn_88 : decode cX0_carryOn 88 = .ok (.getfield 17, 3) := by decide +kernel
theorem dX0_carryOn_91 : decode cX0_carryOn 91 = .ok (.iload_n 2, 1) := by decide +kernel
theorem dX0_carryOn_92 : decode cX0_carryOn 92 = .ok (.iload_n 3, 1) := by decide +kernel
theorem dX0_carryOn_93 : decode cX0_carryOn 93 = .ok (.iadd, 1) := by decide +kernel
theorem dX0_carryOn_94 : decode cX0_carryOn 94 = .ok (.iload 8, 2) := by decide +kernel
theorem dX0_carryOn_96 : decode cX0_carryOn 96 = .ok (.iload 4, 2) := by decide +kernel
theorem dX0_carryOn_98 : decode cX0_carryOn 98 = .ok (.invokevirtual 75, 3) := by decide +kernel
theorem dX0_carryOn_101 : decode cX0_carryOn 101 = .ok (.return_, 1) := by decide +kernel
theorem dX0_give_0 : decode cX0_give 0 = .ok (.iload_n 2, 1) := by decide +kernel
theorem dX0_give_1 : decode cX0_give 1 = .ok (.ifCond .lt 25, 3) := by decide +kernel
theorem dX0_give_4 : decode cX0_give 4 = .ok (.iload_n 2, 1) := by decide +kernel
theorem dX0_give_5 : decode cX0_give 5 = .ok (.iload 4, 2) := by decide +kernel
theorem dX0_give_7 : decode cX0_give 7 = .ok (.if_icmp .ge 19, 3) := by decide +kernel
theorem dX0_give_10 : decode cX0_give 10 = .ok (.iload_n 2, 1) := by decide +kernel
theorem dX0_give_11 : decode cX0_give 11 = .ok (.aload_n 1, 1) := by decide +kernel
theorem dX0_give_12 : decode cX0_give 12 = .ok (.arraylength, 1) := by decide +kernel
theorem dX0_give_13 : decode cX0_give 13 = .ok (.if_icmp .ge 13, 3) := by decide +kernel
theorem dX0_give_16 : decode cX0_give 16 = .ok (.aload_n 1, 1) := by decide +kernel
theorem dX0_give_17 : decode cX0_give 17 = .ok (.iload_n 2, 1) := by decide +kernel
theorem dX0_give_18 : decode cX0_give 18 = .ok (.dup2, 1) := by decide +kernel
theorem dX0_give_19 : decode cX0_give 19 = .ok (.iaload, 1) := by decide +kernel
theorem dX0_give_20 : decode cX0_give 20 = .ok (.iload_n 3, 1) := by decide +kernel
theorem dX0_give_21 : decode cX0_give 21 = .ok (.iadd, 1) := by decide +kernel
theorem dX0_give_22 : decode cX0_give 22 = .ok (.iastore, 1) := by decide +kernel
theorem dX0_give_23 : decode cX0_give 23 = .ok (.goto 13, 3) := by decide +kernel
theorem dX0_give_26 : decode cX0_give 26 = .ok (.aload_n 0, 1) := by decide +kernel
theorem dX0_give_27 : decode cX0_give 27 = .ok (.dup, 1) := by decide +kernel
theorem dX0_give_28 : decode cX0_give 28 = .ok (.getfield 24, 3) := by decide +kernel
theorem dX0_give_31 : decode cX0_give 31 = .ok (.iload_n 3, 1) := by decide +kernel
theorem dX0_give_32 : decode cX0_give 32 = .ok (.iadd, 1) := by decide +kernel
theorem dX0_give_33 : decode cX0_give 33 = .ok (.putfield 24, 3) := by decide +kernel
theorem dX0_give_36 : decode cX0_give 36 = .ok (.return_, 1) := by decide +kernel
set_option maxRecDepth 20000 in
theorem ggX1_init_X1_renew : GoodIn wsX1_init wsX1_renew := goodIn_r _ [10, 11, 12, 13, 14, 15, 16, 17, 18, 19, 20, 21, 22, 23, 24, 9, 25, 26, 27, 28, 29, 30, 31, 32, 33, 34, 35, 5, 36, 37, 38, 39, 40, 41, 42, 43, 44] (by decide +kernel) (by decide +kernel)
set_option maxRecDepth 20000 in
theorem gX1_init_X1_renew : GoodIn wsX1_init (wsV RX1 15 RX1 yX1_renew wsX1_renew) := goodIn_app (goodIn_of _ (by decide +kernel)) ggX1_init_X1_renew
theorem dX1_init_0 : decode cX1_init 0 = .ok (.aload_n 0, 1) := by decide +kernel
theorem dX1_init_1 : decode cX1_init 1 = .ok (.invokespecial 5, 3) := by decide +kernel
theorem dX1_init_4 : decode cX1_init 4 = .ok (.aload_n 0, 1) := by decide +kernel
theorem dX1_init_5 : decode cX1_init 5 = .ok (.sipush 128, 3) := by decide +kernel
theorem dX1_init_8 : decode cX1_init 8 = .ok (.newarray .int, 2) := by decide +kernel
theorem dX1_init_10 : decode cX1_init 10 = .ok (.putfield 11, 3) := by decide +kernel
theorem dX1_init_13 : decode cX1_init 13 = .ok (.aload_n 0, 1) := by decide +kernel
theorem dX1_init_14 : decode cX1_init 14 = .ok (.iconst 2, 1) := by decide +kernel
theorem dX1_init_15 : decode cX1_init 15 = .ok (.iconst 1, 1) := by decide +kernel
theorem dX1_init_16 : decode cX1_init 16 = .ok (.invokevirtual 15, 3) := by decide +kernel
theorem dX1_init_19 : decode cX1_init 19 = .ok (.return_, 1) := by decide +kernel
theorem dX1_allows_0 : decode cX1_allows 0 = .ok (.iload_n 0, 1) := by decide +kernel
theorem dX1_allows_1 : decode cX1_allows 1 = .ok (.bipush (-8), 2) := by decide +kernel
theorem dX1_allows_3 : decode cX1_allows 3 = .ok (.if_icmp .lt 33, 3) := by decide +kernel
theorem dX1_allows_6 : decode cX1_allows 6 = .ok (.iload_n 0, 1) := by decide +kernel
theorem dX1_allows_7 : decode cX1_allows 7 = .ok (.bipush 8, 2) := by decide +kernel
theorem dX1_allows_9 : decode cX1_allows 9 = .ok (.if_icmp .gt 27, 3) := by decide +kernel
theorem dX1_allows_12 : decode cX1_allows 12 = .ok (.iload_n 1, 1) := by decide +kernel
theorem dX1_allows_13 : decode cX1_allows 13 = .ok (.bipush (-8), 2) := by decide +kernel
theorem dX1_allows_15 : decode cX1_allows 15 = .ok (.if_icmp .lt 21, 3) := by decide +kernel
theorem dX1_allows_18 : decode cX1_allows 18 = .ok (.iload_n 1, 1) := by decide +kernel
theorem dX1_allows_19 : decode cX1_allows 19 = .ok (.bipush 8, 2) := by decide +kernel
theorem dX1_allows_21 : decode cX1_allows 21 = .ok (.if_icmp .gt 15, 3) := by decide +kernel
theorem dX1_allows_24 : decode cX1_allows 24 = .ok (.iload_n 0, 1) := by decide +kernel
theorem dX1_allows_25 : decode cX1_allows 25 = .ok (.ifCond .ne 7, 3) := by decide +kernel
theorem dX1_allows_28 : decode cX1_allows 28 = .ok (.iload_n 1, 1) := by decide +kernel
theorem dX1_allows_29 : decode cX1_allows 29 = .ok (.ifCond .eq 7, 3) := by decide +kernel
theorem dX1_allows_32 : decode cX1_allows 32 = .ok (.iconst 1, 1) := by decide +kernel
theorem dX1_allows_33 : decode cX1_allows 33 = .ok (.goto 4, 3) := by decide +kernel
theorem dX1_allows_36 : decode cX1_allows 36 = .ok (.iconst 0, 1) := by decide +kernel
theorem dX1_allows_37 : decode cX1_allows 37 = .ok (.ireturn, 1) := by decide +kernel
set_option maxRecDepth 20000 in
theorem ggX1_renew_X4_commonDivisor : GoodIn wsX1_renew wsX4_commonDivisor := goodIn_r _ [11] (by decide +kernel) (by decide +kernel)
set_option maxRecDepth 20000 in
theorem gX1_renew_X4_commonDivisor_n38 : GoodIn wsX1_renew (wsX4_commonDivisor) := ggX1_renew_X4_commonDivisor
set_option maxRecDepth 20000 in
theorem ggX1_renew_X1_keyAt : GoodIn wsX1_renew wsX1_keyAt := goodIn_r _ [16, 1, 2, 3, 17, 10, 18, 19, 20, 21, 22, 32, 33, 34, 35, 36] (by decide +kernel) (by decide +kernel)
set_option maxRecDepth 20000 in
theorem gX1_renew_X1_keyAt : GoodIn wsX1_renew (wsV RX1 42 RX1 yX1_keyAt wsX1_keyAt) := goodIn_app (goodIn_of _ (by decide +kernel)) ggX1_renew_X1_keyAt
set_option maxRecDepth 20000 in
theorem ggX1_renew_X1_keep : GoodIn wsX1_renew wsX1_keep := goodIn_r _ [26, 27, 4, 28, 29, 30, 15, 31, 32, 33, 34, 35, 36] (by decide +kernel) (by decide +kernel)
set_option maxRecDepth 20000 in
theorem gX1_renew_X1_keep : GoodIn wsX1_renew (wsV RX1 45 RX1 yX1_keep wsX1_keep) := goodIn_app (goodIn_of _ (by decide +kernel)) ggX1_renew_X1_keep
theorem dX1_renew_0 : decode cX1_renew 0 = .ok (.aload_n 0, 1) := by decide +kernel
theorem dX1_renew_1 : decode cX1_renew 1 = .ok (.iload_n 1, 1) := by decide +kernel
theorem dX1_renew_2 : decode cX1_renew 2 = .ok (.putfield 19, 3) := by decide +kernel
theorem dX1_renew_5 : decode cX1_renew 5 = .ok (.aload_n 0, 1) := by decide +kernel
theorem dX1_renew_6 : decode cX1_renew 6 = .ok (.iload_n 2, 1) := by decide +kernel
theorem dX1_renew_7 : decode cX1_renew 7 = .ok (.putfield 23, 3) := by decide +kernel
theorem dX1_renew_10 : decode cX1_renew 10 = .ok (.aload_n 0, 1) := by decide +kernel
theorem dX1_renew_11 : decode cX1_renew 11 = .ok (.iload_n 1, 1) := by decide +kernel
theorem dX1_renew_12 : decode cX1_renew 12 = .ok (.iload_n 1, 1) := by decide +kernel
theorem dX1_renew_13 : decode cX1_renew 13 = .ok (.imul, 1) := by decide +kernel
theorem dX1_renew_14 : decode cX1_renew 14 = .ok (.iload_n 2, 1) := by decide +kernel
theorem dX1_renew_15 : decode cX1_renew 15 = .ok (.iload_n 2, 1) := by decide +kernel
theorem dX1_renew_16 : decode cX1_renew 16 = .ok (.imul, 1) := by decide +kernel
theorem dX1_renew_17 : decode cX1_renew 17 = .ok (.iadd, 1) := by decide +kernel
theorem dX1_renew_18 : decode cX1_renew 18 = .ok (.putfield 26, 3) := by decide +kernel
theorem dX1_renew_21 : decode cX1_renew 21 = .ok (.aload_n 0, 1) := by decide +kernel
theorem dX1_renew_22 : decode cX1_renew 22 = .ok (.iconst 0, 1) := by decide +kernel
theorem dX1_renew_23 : decode cX1_renew 23 = .ok (.putfield 29, 3) := by decide +kernel
theorem dX1_renew_26 : decode cX1_renew 26 = .ok (.iload_n 1, 1) := by decide +kernel
theorem dX1_renew_27 : decode cX1_renew 27 = .ok (.invokestatic 32, 3) := by decide +kernel
theorem dX1_renew_30 : decode cX1_renew 30 = .ok (.iload_n 2, 1) := by decide +kernel
theorem dX1_renew_31 : decode cX1_renew 31 = .ok (.invokestatic 32, 3) := by decide +kernel
theorem dX1_renew_34 : decode cX1_renew 34 = .ok (.invokestatic 38, 3) := by decide +kernel
theorem dX1_renew_37 : decode cX1_renew 37 = .ok (.istore_n 3, 1) := by decide +kernel
theorem dX1_renew_38 : decode cX1_renew 38 = .ok (.iload_n 3, 1) := by decide +kernel
theorem dX1_renew_39 : decode cX1_renew 39 = .ok (.iconst 1, 1) := by decide +kernel
theorem dX1_renew_40 : decode cX1_renew 40 = .ok (.if_icmp .ge 7, 3) := by decide +kernel
theorem dX1_renew_43 : decode cX1_renew 43 = .ok (.iconst 0, 1) := by decide +kernel
theorem dX1_renew_44 : decode cX1_renew 44 = .ok (.goto 9, 3) := by decide +kernel
theorem dX1_renew_47 : decode cX1_renew 47 = .ok (.aload_n 0, 1) := by decide +kernel
theorem dX1_renew_48 : decode cX1_renew 48 = .ok (.getfield 26, 3) := by decide +kernel
theorem dX1_renew_51 : decode cX1_renew 51 = .ok (.iload_n 3, 1) := by decide +kernel
theorem dX1_renew_52 : decode cX1_renew 52 = .ok (.idiv, 1) := by decide +kernel
theorem dX1_renew_53 : decode cX1_renew 53 = .ok (.istore 4, 2) := by decide +kernel
theorem dX1_renew_55 : decode cX1_renew 55 = .ok (.iconst 0, 1) := by decide +kernel
theorem dX1_renew_56 : decode cX1_renew 56 = .ok (.istore 5, 2) := by decide +kernel
theorem dX1_renew_58 : decode cX1_renew 58 = .ok (.iload 5, 2) := by decide +kernel
theorem dX1_renew_60 : decode cX1_renew 60 = .ok (.iload_n 3, 1) := by decide +kernel
theorem dX1_renew_61 : decode cX1_renew 61 = .ok (.if_icmp .ge 37, 3) := by decide +kernel
theorem dX1_renew_64 : decode cX1_renew 64 = .ok (.iconst 0, 1) := by decide +kernel
theorem dX1_renew_65 : decode cX1_renew 65 = .ok (.istore 6, 2) := by decide +kernel
theorem dX1_renew_67 : decode cX1_renew 67 = .ok (.iload 6, 2) := by decide +kernel
theorem dX1_renew_69 : decode cX1_renew 69 = .ok (.iload 4, 2) := by decide +kernel
theorem dX1_renew_71 : decode cX1_renew 71 = .ok (.if_icmp .ge 21, 3) := by decide +kernel
theorem dX1_renew_74 : decode cX1_renew 74 = .ok (.aload_n 0, 1) := by decide +kernel
theorem dX1_renew_75 : decode cX1_renew 75 = .ok (.aload_n 0, 1) := by decide +kernel
theorem dX1_renew_76 : decode cX1_renew 76 = .ok (.iload 5, 2) := by decide +kernel
theorem dX1_renew_78 : decode cX1_renew 78 = .ok (.iload 6, 2) := by decide +kernel
theorem dX1_renew_80 : decode cX1_renew 80 = .ok (.invokevirtual 42, 3) := by decide +kernel
theorem dX1_renew_83 : decode cX1_renew 83 = .ok (.invokevirtual 45, 3) := by decide +kernel
theorem dX1_renew_86 : decode cX1_renew 86 = .ok (.iinc 6 1, 3) := by decide +kernel
theorem dX1_renew_89 : decode cX1_renew 89 = .ok (.goto (-22), 3) := by decide +kernel
theorem dX1_renew_92 : decode cX1_renew 92 = .ok (.iinc 5 1, 3) := by decide +kernel
theorem dX1_renew_95 : decode cX1_renew 95 = .ok (.goto (-37), 3) := by decide +kernel
theorem dX1_renew_98 : decode cX1_renew 98 = .ok (.return_, 1) := by decide +kernel
theorem dX1_square_0 : decode cX1_square 0 = .ok (.aload_n 0, 1) := by decide +kernel
theorem dX1_square_1 : decode cX1_square 1 = .ok (.getfield 26, 3) := by decide +kernel
theorem dX1_square_4 : decode cX1_square 4 = .ok (.ireturn, 1) := by decide +kernel
theorem dX1_pairCount_0 : decode cX1_pairCount 0 = .ok (.aload_n 0, 1) := by decide +kernel
theorem dX1_pairCount_1 : decode cX1_pairCount 1 = .ok (.getfield 29, 3) := by decide +kernel
theorem dX1_pairCount_4 : decode cX1_pairCount 4 = .ok (.ireturn, 1) := by decide +kernel
set_option maxRecDepth 20000 in
theorem ggX1_keyAt_X4_within : GoodIn wsX1_keyAt wsX4_within := goodIn_r _ [6, 7, 8, 9, 10] (by decide +kernel) (by decide +kernel)
set_option maxRecDepth 20000 in
theorem gX1_keyAt_X4_within_n49 : GoodIn wsX1_keyAt (wsX4_within) := ggX1_keyAt_X4_within
theorem dX1_keyAt_0 : decode cX1_keyAt 0 = .ok (.aload_n 0, 1) := by decide +kernel
theorem dX1_keyAt_1 : decode cX1_keyAt 1 = .ok (.getfield 19, 3) := by decide +kernel
theorem dX1_keyAt_4 : decode cX1_keyAt 4 = .ok (.iload_n 1, 1) := by decide +kernel
theorem dX1_keyAt_5 : decode cX1_keyAt 5 = .ok (.imul, 1) := by decide +kernel
theorem dX1_keyAt_6 : decode cX1_keyAt 6 = .ok (.aload_n 0, 1) := by decide +kernel
theorem dX1_keyAt_7 : decode cX1_keyAt 7 = .ok (.getfield 23, 3) := by decide +kernel
theorem dX1_keyAt_10 : decode cX1_keyAt 10 = .ok (.iload_n 2, 1) := by decide +kernel
theorem dX1_keyAt_11 : decode cX1_keyAt 11 = .ok (.imul, 1) := by decide +kernel
theorem dX1_keyAt_12 : decode cX1_keyAt 12 = .ok (.iadd, 1) := by decide +kernel
theorem dX1_keyAt_13 : decode cX1_keyAt 13 = .ok (.aload_n 0, 1) := by decide +kernel
theorem dX1_keyAt_14 : decode cX1_keyAt 14 = .ok (.getfield 26, 3) := by decide +kernel
theorem dX1_keyAt_17 : decode cX1_keyAt 17 = .ok (.invokestatic 49, 3) := by decide +kernel
theorem dX1_keyAt_20 : decode cX1_keyAt 20 = .ok (.istore_n 3, 1) := by decide +kernel
theorem dX1_keyAt_21 : decode cX1_keyAt 21 = .ok (.aload_n 0, 1) := by decide +kernel
theorem dX1_keyAt_22 : decode cX1_keyAt 22 = .ok (.getfield 19, 3) := by decide +kernel
theorem dX1_keyAt_25 : decode cX1_keyAt 25 = .ok (.iload_n 2, 1) := by decide +kernel
theorem dX1_keyAt_26 : decode cX1_keyAt 26 = .ok (.imul, 1) := by decide +kernel
theorem dX1_keyAt_27 : decode cX1_keyAt 27 = .ok (.aload_n 0, 1) := by decide +kernel
theorem dX1_keyAt_28 : decode cX1_keyAt 28 = .ok (.getfield 23, 3) := by decide +kernel
theorem dX1_keyAt_31 : decode cX1_keyAt 31 = .ok (.iload_n 1, 1) := by decide +kernel
theorem dX1_keyAt_32 : decode cX1_keyAt 32 = .ok (.imul, 1) := by decide +kernel
theorem dX1_keyAt_33 : decode cX1_keyAt 33 = .ok (.isub, 1) := by decide +kernel
theorem dX1_keyAt_34 : decode cX1_keyAt 34 = .ok (.aload_n 0, 1) := by decide +kernel
theorem dX1_keyAt_35 : decode cX1_keyAt 35 = .ok (.getfield 26, 3) := by decide +kernel
theorem dX1_keyAt_38 : decode cX1_keyAt 38 = .ok (.invokestatic 49, 3) := by decide +kernel
theorem dX1_keyAt_41 : decode cX1_keyAt 41 = .ok (.istore 4, 2) := by decide +kernel
theorem dX1_keyAt_43 : decode cX1_keyAt 43 = .ok (.iconst 2, 1) := by decide +kernel
theorem dX1_keyAt_44 : decode cX1_keyAt 44 = .ok (.iload_n 3, 1) := by decide +kernel
theorem dX1_keyAt_45 : decode cX1_keyAt 45 = .ok (.imul, 1) := by decide +kernel
theorem dX1_keyAt_46 : decode cX1_keyAt 46 = .ok (.iconst 1, 1) := by decide +kernel
theorem dX1_keyAt_47 : decode cX1_keyAt 47 = .ok (.iadd, 1) := by decide +kernel
theorem dX1_keyAt_48 : decode cX1_keyAt 48 = .ok (.aload_n 0, 1) := by decide +kernel
theorem dX1_keyAt_49 : decode cX1_keyAt 49 = .ok (.getfield 26, 3) := by decide +kernel
theorem dX1_keyAt_52 : decode cX1_keyAt 52 = .ok (.isub, 1) := by decide +kernel
theorem dX1_keyAt_53 : decode cX1_keyAt 53 = .ok (.istore 5, 2) := by decide +kernel
theorem dX1_keyAt_55 : decode cX1_keyAt 55 = .ok (.iconst 2, 1) := by decide +kernel
theorem dX1_keyAt_56 : decode cX1_keyAt 56 = .ok (.iload 4, 2) := by decide +kernel
theorem dX1_keyAt_58 : decode cX1_keyAt 58 = .ok (.imul, 1) := by decide +kernel
theorem dX1_keyAt_59 : decode cX1_keyAt 59 = .ok (.iconst 1, 1) := by decide +kernel
theorem dX1_keyAt_60 : decode cX1_keyAt 60 = .ok (.iadd, 1) := by decide +kernel
theorem dX1_keyAt_61 : decode cX1_keyAt 61 = .ok (.aload_n 0, 1) := by decide +kernel
theorem dX1_keyAt_62 : decode cX1_keyAt 62 = .ok (.getfield 26, 3) := by decide +kernel
theorem dX1_keyAt_65 : decode cX1_keyAt 65 = .ok (.isub, 1) := by decide +kernel
theorem dX1_keyAt_66 : decode cX1_keyAt 66 = .ok (.istore 6, 2) := by decide +kernel
theorem dX1_keyAt_68 : decode cX1_keyAt 68 = .ok (.iload 5, 2) := by decide +kernel
theorem dX1_keyAt_70 : decode cX1_keyAt 70 = .ok (.iload 5, 2) := by decide +kernel
theorem dX1_keyAt_72 : decode cX1_keyAt 72 = .ok (.imul, 1) := by decide +kernel
theorem dX1_keyAt_73 : decode cX1_keyAt 73 = .ok (.iload 6, 2) := by decide +kernel
theorem dX1_keyAt_75 : decode cX1_keyAt 75 = .ok (.iload 6, 2) := by decide +kernel
theorem dX1_keyAt_77 : decode cX1_keyAt 77 = .ok (.imul, 1) := by decide +kernel
theorem dX1_keyAt_78 : decode cX1_keyAt 78 = .ok (.iadd, 1) := by decide +kernel
theorem dX1_keyAt_79 : decode cX1_keyAt 79 = .ok (.sipush 128, 3) := by decide +kernel
theorem dX1_keyAt_82 : decode cX1_keyAt 82 = .ok (.imul, 1) := by decide +kernel
theorem dX1_keyAt_83 : decode cX1_keyAt 83 = .ok (.iload_n 3, 1) := by decide +kernel
theorem dX1_keyAt_84 : decode cX1_keyAt 84 = .ok (.iadd, 1) := by decide +kernel
theorem dX1_keyAt_85 : decode cX1_keyAt 85 = .ok (.sipush 128, 3) := by decide +kernel
theorem dX1_keyAt_88 : decode cX1_keyAt 88 = .ok (.imul, 1) := by decide +kernel
theorem dX1_keyAt_89 : decode cX1_keyAt 89 = .ok (.iload 4, 2) := by decide +kernel
theorem dX1_keyAt_91 : decode cX1_keyAt 91 = .ok (.iadd, 1) := by decide +kernel
theorem dX1_keyAt_92 : decode cX1_keyAt 92 = .ok (.ireturn, 1) := by decide +kernel
set_option maxRecDepth 20000 in
theorem ggX1_keep_X1_upTo : GoodIn wsX1_keep wsX1_upTo := goodIn_r _ [7, 2, 1, 8, 9, 10, 11, 12] (by decide +kernel) (by decide +kernel)
set_option maxRecDepth 20000 in
theorem gX1_keep_X1_upTo : GoodIn wsX1_keep (wsV RX1 52 RX1 yX1_upTo wsX1_upTo) := goodIn_app (goodIn_of _ (by decide +kernel)) ggX1_keep_X1_upTo
theorem dX1_keep_0 : decode cX1_keep 0 = .ok (.aload_n 0, 1) := by decide +kernel
theorem dX1_keep_1 : decode cX1_keep 1 = .ok (.iload_n 1, 1) := by decide +kernel
theorem dX1_keep_2 : decode cX1_keep 2 = .ok (.invokevirtual 52, 3) := by decide +kernel
theorem dX1_keep_5 : decode cX1_keep 5 = .ok (.istore_n 2, 1) := by decide +kernel
theorem dX1_keep_6 : decode cX1_keep 6 = .ok (.iload_n 2, 1) := by decide +kernel
theorem dX1_keep_7 : decode cX1_keep 7 = .ok (.ifCond .lt 26, 3) := by decide +kernel
theorem dX1_keep_10 : decode cX1_keep 10 = .ok (.iload_n 2, 1) := by decide +kernel
theorem dX1_keep_11 : decode cX1_keep 11 = .ok (.aload_n 0, 1) := by decide +kernel
theorem dX1_keep_12 : decode cX1_keep 12 = .ok (.getfield 11, 3) := by decide +kernel
theorem dX1_keep_15 : decode cX1_keep 15 = .ok (.arraylength, 1) := by decide +kernel
theorem dX1_keep_16 : decode cX1_keep 16 = .ok (.if_icmp .ge 17, 3) := by decide +kernel
theorem dX1_keep_19 : decode cX1_keep 19 = .ok (.aload_n 0, 1) := by decide +kernel
theorem dX1_keep_20 : decode cX1_keep 20 = .ok (.getfield 11, 3) := by decide +kernel
theorem dX1_keep_23 : decode cX1_keep 23 = .ok (.iload_n 2, 1) := by decide +kernel
theorem dX1_keep_24 : decode cX1_keep 24 = .ok (.iaload, 1) := by decide +kernel
theorem dX1_keep_25 : decode cX1_keep 25 = .ok (.iload_n 1, 1) := by decide +kernel
theorem dX1_keep_26 : decode cX1_keep 26 = .ok (.if_icmp .ne 7, 3) := by decide +kernel
theorem dX1_keep_29 : decode cX1_keep 29 = .ok (.iconst 1, 1) := by decide +kernel
theorem dX1_keep_30 : decode cX1_keep 30 = .ok (.goto 4, 3) := by decide +kernel
theorem dX1_keep_33 : decode cX1_keep 33 = .ok (.iconst 0, 1) := by decide +kernel
theorem dX1_keep_34 : decode cX1_keep 34 = .ok (.istore_n 3, 1) := by decide +kernel
