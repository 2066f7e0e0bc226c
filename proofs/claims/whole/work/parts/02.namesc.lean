theorem dX1_keep_35 : decode cX1_keep 35 = .ok (.iload_n 3, 1) := by decide +kernel
theorem dX1_keep_36 : decode cX1_keep 36 = .ok (.ifCond .ne 15, 3) := by decide +kernel
theorem dX1_keep_39 : decode cX1_keep 39 = .ok (.aload_n 0, 1) := by decide +kernel
theorem dX1_keep_40 : decode cX1_keep 40 = .ok (.getfield 29, 3) := by decide +kernel
theorem dX1_keep_43 : decode cX1_keep 43 = .ok (.aload_n 0, 1) := by decide +kernel
theorem dX1_keep_44 : decode cX1_keep 44 = .ok (.getfield 11, 3) := by decide +kernel
theorem dX1_keep_47 : decode cX1_keep 47 = .ok (.arraylength, 1) := by decide +kernel
theorem dX1_keep_48 : decode cX1_keep 48 = .ok (.if_icmp .lt 4, 3) := by decide +kernel
theorem dX1_keep_51 : decode cX1_keep 51 = .ok (.return_, 1) := by decide +kernel
theorem dX1_keep_52 : decode cX1_keep 52 = .ok (.aload_n 0, 1) := by decide +kernel
theorem dX1_keep_53 : decode cX1_keep 53 = .ok (.getfield 29, 3) := by decide +kernel
theorem dX1_keep_56 : decode cX1_keep 56 = .ok (.istore 4, 2) := by decide +kernel
theorem dX1_keep_58 : decode cX1_keep 58 = .ok (.iload 4, 2) := by decide +kernel
theorem dX1_keep_60 : decode cX1_keep 60 = .ok (.iload_n 2, 1) := by decide +kernel
theorem dX1_keep_61 : decode cX1_keep 61 = .ok (.iconst 1, 1) := by decide +kernel
theorem dX1_keep_62 : decode cX1_keep 62 = .ok (.iadd, 1) := by decide +kernel
theorem dX1_keep_63 : decode cX1_keep 63 = .ok (.if_icmp .le 31, 3) := by decide +kernel
theorem dX1_keep_66 : decode cX1_keep 66 = .ok (.iload 4, 2) := by decide +kernel
theorem dX1_keep_68 : decode cX1_keep 68 = .ok (.iconst 1, 1) := by decide +kernel
theorem dX1_keep_69 : decode cX1_keep 69 = .ok (.if_icmp .lt 25, 3) := by decide +kernel
theorem dX1_keep_72 : decode cX1_keep 72 = .ok (.aload_n 0, 1) := by decide +kernel
theorem dX1_keep_73 : decode cX1_keep 73 = .ok (.getfield 11, 3) := by decide +kernel
theorem dX1_keep_76 : decode cX1_keep 76 = .ok (.iload 4, 2) := by decide +kernel
theorem dX1_keep_78 : decode cX1_keep 78 = .ok (.aload_n 0, 1) := by decide +kernel
theorem dX1_keep_79 : decode cX1_keep 79 = .ok (.getfield 11, 3) := by decide +kernel
theorem dX1_keep_82 : decode cX1_keep 82 = .ok (.iload 4, 2) := by decide +kernel
theorem dX1_keep_84 : decode cX1_keep 84 = .ok (.iconst 1, 1) := by decide +kernel
theorem dX1_keep_85 : decode cX1_keep 85 = .ok (.isub, 1) := by decide +kernel
theorem dX1_keep_86 : decode cX1_keep 86 = .ok (.iaload, 1) := by decide +kernel
theorem dX1_keep_87 : decode cX1_keep 87 = .ok (.iastore, 1) := by decide +kernel
theorem dX1_keep_88 : decode cX1_keep 88 = .ok (.iinc 4 (-1), 3) := by decide +kernel
theorem dX1_keep_91 : decode cX1_keep 91 = .ok (.goto (-33), 3) := by decide +kernel
theorem dX1_keep_94 : decode cX1_keep 94 = .ok (.iload_n 2, 1) := by decide +kernel
theorem dX1_keep_95 : decode cX1_keep 95 = .ok (.iconst 1, 1) := by decide +kernel
theorem dX1_keep_96 : decode cX1_keep 96 = .ok (.iadd, 1) := by decide +kernel
theorem dX1_keep_97 : decode cX1_keep 97 = .ok (.ifCond .lt 33, 3) := by decide +kernel
theorem dX1_keep_100 : decode cX1_keep 100 = .ok (.iload_n 2, 1) := by decide +kernel
theorem dX1_keep_101 : decode cX1_keep 101 = .ok (.iconst 1, 1) := by decide +kernel
theorem dX1_keep_102 : decode cX1_keep 102 = .ok (.iadd, 1) := by decide +kernel
theorem dX1_keep_103 : decode cX1_keep 103 = .ok (.aload_n 0, 1) := by decide +kernel
theorem dX1_keep_104 : decode cX1_keep 104 = .ok (.getfield 11, 3) := by decide +kernel
theorem dX1_keep_107 : decode cX1_keep 107 = .ok (.arraylength, 1) := by decide +kernel
theorem dX1_keep_108 : decode cX1_keep 108 = .ok (.if_icmp .ge 22, 3) := by decide +kernel
theorem dX1_keep_111 : decode cX1_keep 111 = .ok (.aload_n 0, 1) := by decide +kernel
theorem dX1_keep_112 : decode cX1_keep 112 = .ok (.getfield 11, 3) := by decide +kernel
theorem dX1_keep_115 : decode cX1_keep 115 = .ok (.iload_n 2, 1) := by decide +kernel
theorem dX1_keep_116 : decode cX1_keep 116 = .ok (.iconst 1, 1) := by decide +kernel
theorem dX1_keep_117 : decode cX1_keep 117 = .ok (.iadd, 1) := by decide +kernel
theorem dX1_keep_118 : decode cX1_keep 118 = .ok (.iload_n 1, 1) := by decide +kernel
theorem dX1_keep_119 : decode cX1_keep 119 = .ok (.iastore, 1) := by decide +kernel
theorem dX1_keep_120 : decode cX1_keep 120 = .ok (.aload_n 0, 1) := by decide +kernel
theorem dX1_keep_121 : decode cX1_keep 121 = .ok (.dup, 1) := by decide +kernel
theorem dX1_keep_122 : decode cX1_keep 122 = .ok (.getfield 29, 3) := by decide +kernel
theorem dX1_keep_125 : decode cX1_keep 125 = .ok (.iconst 1, 1) := by decide +kernel
theorem dX1_keep_126 : decode cX1_keep 126 = .ok (.iadd, 1) := by decide +kernel
theorem dX1_keep_127 : decode cX1_keep 127 = .ok (.putfield 29, 3) := by decide +kernel
theorem dX1_keep_130 : decode cX1_keep 130 = .ok (.return_, 1) := by decide +kernel
theorem dX1_upTo_0 : decode cX1_upTo 0 = .ok (.iconst (-1), 1) := by decide +kernel
theorem dX1_upTo_1 : decode cX1_upTo 1 = .ok (.istore_n 2, 1) := by decide +kernel
theorem dX1_upTo_2 : decode cX1_upTo 2 = .ok (.sipush 128, 3) := by decide +kernel
theorem dX1_upTo_5 : decode cX1_upTo 5 = .ok (.istore_n 3, 1) := by decide +kernel
theorem dX1_upTo_6 : decode cX1_upTo 6 = .ok (.iload_n 3, 1) := by decide +kernel
theorem dX1_upTo_7 : decode cX1_upTo 7 = .ok (.ifCond .le 48, 3) := by decide +kernel
theorem dX1_upTo_10 : decode cX1_upTo 10 = .ok (.iload_n 2, 1) := by decide +kernel
theorem dX1_upTo_11 : decode cX1_upTo 11 = .ok (.iload_n 3, 1) := by decide +kernel
theorem dX1_upTo_12 : decode cX1_upTo 12 = .ok (.iadd, 1) := by decide +kernel
theorem dX1_upTo_13 : decode cX1_upTo 13 = .ok (.istore 4, 2) := by decide +kernel
theorem dX1_upTo_15 : decode cX1_upTo 15 = .ok (.iload 4, 2) := by decide +kernel
theorem dX1_upTo_17 : decode cX1_upTo 17 = .ok (.aload_n 0, 1) := by decide +kernel
theorem dX1_upTo_18 : decode cX1_upTo 18 = .ok (.getfield 29, 3) := by decide +kernel
theorem dX1_upTo_21 : decode cX1_upTo 21 = .ok (.if_icmp .ge 27, 3) := by decide +kernel
theorem dX1_upTo_24 : decode cX1_upTo 24 = .ok (.iload 4, 2) := by decide +kernel
theorem dX1_upTo_26 : decode cX1_upTo 26 = .ok (.aload_n 0, 1) := by decide +kernel
theorem dX1_upTo_27 : decode cX1_upTo 27 = .ok (.getfield 11, 3) := by decide +kernel
theorem dX1_upTo_30 : decode cX1_upTo 30 = .ok (.arraylength, 1) := by decide +kernel
theorem dX1_upTo_31 : decode cX1_upTo 31 = .ok (.if_icmp .ge 17, 3) := by decide +kernel
theorem dX1_upTo_34 : decode cX1_upTo 34 = .ok (.aload_n 0, 1) := by decide +kernel
theorem dX1_upTo_35 : decode cX1_upTo 35 = .ok (.getfield 11, 3) := by decide +kernel
theorem dX1_upTo_38 : decode cX1_upTo 38 = .ok (.iload 4, 2) := by decide +kernel
theorem dX1_upTo_40 : decode cX1_upTo 40 = .ok (.iaload, 1) := by decide +kernel
theorem dX1_upTo_41 : decode cX1_upTo 41 = .ok (.iload_n 1, 1) := by decide +kernel
theorem dX1_upTo_42 : decode cX1_upTo 42 = .ok (.if_icmp .gt 6, 3) := by decide +kernel
theorem dX1_upTo_45 : decode cX1_upTo 45 = .ok (.iload 4, 2) := by decide +kernel
theorem dX1_upTo_47 : decode cX1_upTo 47 = .ok (.istore_n 2, 1) := by decide +kernel
theorem dX1_upTo_48 : decode cX1_upTo 48 = .ok (.iload_n 3, 1) := by decide +kernel
theorem dX1_upTo_49 : decode cX1_upTo 49 = .ok (.iconst 2, 1) := by decide +kernel
theorem dX1_upTo_50 : decode cX1_upTo 50 = .ok (.idiv, 1) := by decide +kernel
theorem dX1_upTo_51 : decode cX1_upTo 51 = .ok (.istore_n 3, 1) := by decide +kernel
theorem dX1_upTo_52 : decode cX1_upTo 52 = .ok (.goto (-46), 3) := by decide +kernel
theorem dX1_upTo_55 : decode cX1_upTo 55 = .ok (.iload_n 2, 1) := by decide +kernel
theorem dX1_upTo_56 : decode cX1_upTo 56 = .ok (.ireturn, 1) := by decide +kernel
set_option maxRecDepth 20000 in
theorem ggX1_rankAt_X1_keyAt : GoodIn wsX1_rankAt wsX1_keyAt := goodIn_r _ [5, 6, 7, 8, 9, 10, 11, 12, 13, 14, 15, 22, 23, 24, 25, 26] (by decide +kernel) (by decide +kernel)
set_option maxRecDepth 20000 in
theorem gX1_rankAt_X1_keyAt : GoodIn wsX1_rankAt (wsV RX1 42 RX1 yX1_keyAt wsX1_keyAt) := goodIn_app (goodIn_of _ (by decide +kernel)) ggX1_rankAt_X1_keyAt
set_option maxRecDepth 20000 in
theorem ggX1_rankAt_X1_upTo : GoodIn wsX1_rankAt wsX1_upTo := goodIn_r _ [19, 20, 21, 22, 23, 24, 25, 26] (by decide +kernel) (by decide +kernel)
set_option maxRecDepth 20000 in
theorem gX1_rankAt_X1_upTo : GoodIn wsX1_rankAt (wsV RX1 52 RX1 yX1_upTo wsX1_upTo) := goodIn_app (goodIn_of _ (by decide +kernel)) ggX1_rankAt_X1_upTo
theorem dX1_rankAt_0 : decode cX1_rankAt 0 = .ok (.aload_n 0, 1) := by decide +kernel
theorem dX1_rankAt_1 : decode cX1_rankAt 1 = .ok (.aload_n 0, 1) := by decide +kernel
theorem dX1_rankAt_2 : decode cX1_rankAt 2 = .ok (.iload_n 1, 1) := by decide +kernel
theorem dX1_rankAt_3 : decode cX1_rankAt 3 = .ok (.iload_n 2, 1) := by decide +kernel
theorem dX1_rankAt_4 : decode cX1_rankAt 4 = .ok (.invokevirtual 42, 3) := by decide +kernel
theorem dX1_rankAt_7 : decode cX1_rankAt 7 = .ok (.invokevirtual 52, 3) := by decide +kernel
theorem dX1_rankAt_10 : decode cX1_rankAt 10 = .ok (.ireturn, 1) := by decide +kernel
set_option maxRecDepth 20000 in
theorem ggX1_inks_X1_rankAt : GoodIn wsX1_inks wsX1_rankAt := goodIn_r _ [6, 7, 8, 9, 5, 10, 11, 12, 13, 14, 15, 16, 17, 18, 19, 20, 21, 22, 23, 24, 1, 25, 26, 27, 28, 29, 30] (by decide +kernel) (by decide +kernel)
set_option maxRecDepth 20000 in
theorem gX1_inks_X1_rankAt : GoodIn wsX1_inks (wsV RX1 55 RX1 yX1_rankAt wsX1_rankAt) := goodIn_app (goodIn_of _ (by decide +kernel)) ggX1_inks_X1_rankAt
theorem dX1_inks_0 : decode cX1_inks 0 = .ok (.aload_n 0, 1) := by decide +kernel
theorem dX1_inks_1 : decode cX1_inks 1 = .ok (.getfield 29, 3) := by decide +kernel
theorem dX1_inks_4 : decode cX1_inks 4 = .ok (.iload_n 1, 1) := by decide +kernel
theorem dX1_inks_5 : decode cX1_inks 5 = .ok (.imul, 1) := by decide +kernel
theorem dX1_inks_6 : decode cX1_inks 6 = .ok (.sipush 255, 3) := by decide +kernel
theorem dX1_inks_9 : decode cX1_inks 9 = .ok (.aload_n 0, 1) := by decide +kernel
theorem dX1_inks_10 : decode cX1_inks 10 = .ok (.iload_n 2, 1) := by decide +kernel
theorem dX1_inks_11 : decode cX1_inks 11 = .ok (.iload_n 3, 1) := by decide +kernel
theorem dX1_inks_12 : decode cX1_inks 12 = .ok (.invokevirtual 55, 3) := by decide +kernel
theorem dX1_inks_15 : decode cX1_inks 15 = .ok (.imul, 1) := by decide +kernel
theorem dX1_inks_16 : decode cX1_inks 16 = .ok (.if_icmp .le 7, 3) := by decide +kernel
theorem dX1_inks_19 : decode cX1_inks 19 = .ok (.iconst 1, 1) := by decide +kernel
theorem dX1_inks_20 : decode cX1_inks 20 = .ok (.goto 4, 3) := by decide +kernel
theorem dX1_inks_23 : decode cX1_inks 23 = .ok (.iconst 0, 1) := by decide +kernel
theorem dX1_inks_24 : decode cX1_inks 24 = .ok (.ireturn, 1) := by decide +kernel
theorem dX1_beatAbove_0 : decode cX1_beatAbove 0 = .ok (.aload_n 0, 1) := by decide +kernel
theorem dX1_beatAbove_1 : decode cX1_beatAbove 1 = .ok (.getfield 19, 3) := by decide +kernel
theorem dX1_beatAbove_4 : decode cX1_beatAbove 4 = .ok (.iload_n 1, 1) := by decide +kernel
theorem dX1_beatAbove_5 : decode cX1_beatAbove 5 = .ok (.imul, 1) := by decide +kernel
theorem dX1_beatAbove_6 : decode cX1_beatAbove 6 = .ok (.aload_n 0, 1) := by decide +kernel
theorem dX1_beatAbove_7 : decode cX1_beatAbove 7 = .ok (.getfield 23, 3) := by decide +kernel
theorem dX1_beatAbove_10 : decode cX1_beatAbove 10 = .ok (.iload_n 2, 1) := by decide +kernel
theorem dX1_beatAbove_11 : decode cX1_beatAbove 11 = .ok (.imul, 1) := by decide +kernel
theorem dX1_beatAbove_12 : decode cX1_beatAbove 12 = .ok (.iadd, 1) := by decide +kernel
theorem dX1_beatAbove_13 : decode cX1_beatAbove 13 = .ok (.invokestatic 32, 3) := by decide +kernel
theorem dX1_beatAbove_16 : decode cX1_beatAbove 16 = .ok (.istore_n 3, 1) := by decide +kernel
theorem dX1_beatAbove_17 : decode cX1_beatAbove 17 = .ok (.aload_n 0, 1) := by decide +kernel
theorem dX1_beatAbove_18 : decode cX1_beatAbove 18 = .ok (.getfield 19, 3) := by decide +kernel
theorem dX1_beatAbove_21 : decode cX1_beatAbove 21 = .ok (.iload_n 2, 1) := by decide +kernel
theorem dX1_beatAbove_22 : decode cX1_beatAbove 22 = .ok (.imul, 1) := by decide +kernel
theorem dX1_beatAbove_23 : decode cX1_beatAbove 23 = .ok (.aload_n 0, 1) := by decide +kernel
theorem dX1_beatAbove_24 : decode cX1_beatAbove 24 = .ok (.getfield 23, 3) := by decide +kernel
theorem dX1_beatAbove_27 : decode cX1_beatAbove 27 = .ok (.iload_n 1, 1) := by decide +kernel
theorem dX1_beatAbove_28 : decode cX1_beatAbove 28 = .ok (.imul, 1) := by decide +kernel
theorem dX1_beatAbove_29 : decode cX1_beatAbove 29 = .ok (.isub, 1) := by decide +kernel
theorem dX1_beatAbove_30 : decode cX1_beatAbove 30 = .ok (.invokestatic 32, 3) := by decide +kernel
theorem dX1_beatAbove_33 : decode cX1_beatAbove 33 = .ok (.istore 4, 2) := by decide +kernel
theorem dX1_beatAbove_35 : decode cX1_beatAbove 35 = .ok (.aload_n 0, 1) := by decide +kernel
theorem dX1_beatAbove_36 : decode cX1_beatAbove 36 = .ok (.getfield 26, 3) := by decide +kernel
theorem dX1_beatAbove_39 : decode cX1_beatAbove 39 = .ok (.iload_n 1, 1) := by decide +kernel
theorem dX1_beatAbove_40 : decode cX1_beatAbove 40 = .ok (.iload_n 1, 1) := by decide +kernel
theorem dX1_beatAbove_41 : decode cX1_beatAbove 41 = .ok (.imul, 1) := by decide +kernel
theorem dX1_beatAbove_42 : decode cX1_beatAbove 42 = .ok (.iadd, 1) := by decide +kernel
theorem dX1_beatAbove_43 : decode cX1_beatAbove 43 = .ok (.iload_n 2, 1) := by decide +kernel
theorem dX1_beatAbove_44 : decode cX1_beatAbove 44 = .ok (.iload_n 2, 1) := by decide +kernel
theorem dX1_beatAbove_45 : decode cX1_beatAbove 45 = .ok (.imul, 1) := by decide +kernel
theorem dX1_beatAbove_46 : decode cX1_beatAbove 46 = .ok (.iadd, 1) := by decide +kernel
theorem dX1_beatAbove_47 : decode cX1_beatAbove 47 = .ok (.iconst 2, 1) := by decide +kernel
theorem dX1_beatAbove_48 : decode cX1_beatAbove 48 = .ok (.iload_n 3, 1) := by decide +kernel
theorem dX1_beatAbove_49 : decode cX1_beatAbove 49 = .ok (.iload 4, 2) := by decide +kernel
theorem dX1_beatAbove_51 : decode cX1_beatAbove 51 = .ok (.invokestatic 58, 3) := by decide +kernel
theorem dX1_beatAbove_54 : decode cX1_beatAbove 54 = .ok (.imul, 1) := by decide +kernel
theorem dX1_beatAbove_55 : decode cX1_beatAbove 55 = .ok (.isub, 1) := by decide +kernel
theorem dX1_beatAbove_56 : decode cX1_beatAbove 56 = .ok (.ireturn, 1) := by decide +kernel
theorem dX1_beatBelow_0 : decode cX1_beatBelow 0 = .ok (.aload_n 0, 1) := by decide +kernel
theorem dX1_beatBelow_1 : decode cX1_beatBelow 1 = .ok (.getfield 26, 3) := by decide +kernel
theorem dX1_beatBelow_4 : decode cX1_beatBelow 4 = .ok (.iload_n 1, 1) := by decide +kernel
theorem dX1_beatBelow_5 : decode cX1_beatBelow 5 = .ok (.iload_n 1, 1) := by decide +kernel
theorem dX1_beatBelow_6 : decode cX1_beatBelow 6 = .ok (.imul, 1) := by decide +kernel
theorem dX1_beatBelow_7 : decode cX1_beatBelow 7 = .ok (.iload_n 2, 1) := by decide +kernel
theorem dX1_beatBelow_8 : decode cX1_beatBelow 8 = .ok (.iload_n 2, 1) := by decide +kernel
theorem dX1_beatBelow_9 : decode cX1_beatBelow 9 = .ok (.imul, 1) := by decide +kernel
theorem dX1_beatBelow_10 : decode cX1_beatBelow 10 = .ok (.iadd, 1) := by decide +kernel
theorem dX1_beatBelow_11 : decode cX1_beatBelow 11 = .ok (.imul, 1) := by decide +kernel
theorem dX1_beatBelow_12 : decode cX1_beatBelow 12 = .ok (.ireturn, 1) := by decide +kernel
theorem dX2_init_0 : decode cX2_init 0 = .ok (.aload_n 0, 1) := by decide +kernel
theorem dX2_init_1 : decode cX2_init 1 = .ok (.invokespecial 1, 3) := by decide +kernel
theorem dX2_init_4 : decode cX2_init 4 = .ok (.aload_n 0, 1) := by decide +kernel
theorem dX2_init_5 : decode cX2_init 5 = .ok (.sipush 576, 3) := by decide +kernel
theorem dX2_init_8 : decode cX2_init 8 = .ok (.newarray .int, 2) := by decide +kernel
theorem dX2_init_10 : decode cX2_init 10 = .ok (.putfield 9, 3) := by decide +kernel
theorem dX2_init_13 : decode cX2_init 13 = .ok (.aload_n 0, 1) := by decide +kernel
theorem dX2_init_14 : decode cX2_init 14 = .ok (.sipush 576, 3) := by decide +kernel
theorem dX2_init_17 : decode cX2_init 17 = .ok (.newarray .boolean, 2) := by decide +kernel
theorem dX2_init_19 : decode cX2_init 19 = .ok (.putfield 13, 3) := by decide +kernel
theorem dX2_init_22 : decode cX2_init 22 = .ok (.aload_n 0, 1) := by decide +kernel
theorem dX2_init_23 : decode cX2_init 23 = .ok (.bipush 8, 2) := by decide +kernel
theorem dX2_init_25 : decode cX2_init 25 = .ok (.putfield 17, 3) := by decide +kernel
theorem dX2_init_28 : decode cX2_init 28 = .ok (.aload_n 0, 1) := by decide +kernel
theorem dX2_init_29 : decode cX2_init 29 = .ok (.bipush 8, 2) := by decide +kernel
theorem dX2_init_31 : decode cX2_init 31 = .ok (.putfield 21, 3) := by decide +kernel
theorem dX2_init_34 : decode cX2_init 34 = .ok (.return_, 1) := by decide +kernel
theorem dX2_allows_0 : decode cX2_allows 0 = .ok (.iload_n 0, 1) := by decide +kernel
theorem dX2_allows_1 : decode cX2_allows 1 = .ok (.iconst 1, 1) := by decide +kernel
theorem dX2_allows_2 : decode cX2_allows 2 = .ok (.if_icmp .lt 13, 3) := by decide +kernel
theorem dX2_allows_5 : decode cX2_allows 5 = .ok (.iload_n 0, 1) := by decide +kernel
theorem dX2_allows_6 : decode cX2_allows 6 = .ok (.bipush 24, 2) := by decide +kernel
theorem dX2_allows_8 : decode cX2_allows 8 = .ok (.if_icmp .gt 7, 3) := by decide +kernel
theorem dX2_allows_11 : decode cX2_allows 11 = .ok (.iconst 1, 1) := by decide +kernel
theorem dX2_allows_12 : decode cX2_allows 12 = .ok (.goto 4, 3) := by decide +kernel
theorem dX2_allows_15 : decode cX2_allows 15 = .ok (.iconst 0, 1) := by decide +kernel
theorem dX2_allows_16 : decode cX2_allows 16 = .ok (.ireturn, 1) := by decide +kernel
theorem dX2_spot_0 : decode cX2_spot 0 = .ok (.iload_n 1, 1) := by decide +kernel
theorem dX2_spot_1 : decode cX2_spot 1 = .ok (.bipush 24, 2) := by decide +kernel
theorem dX2_spot_3 : decode cX2_spot 3 = .ok (.imul, 1) := by decide +kernel
theorem dX2_spot_4 : decode cX2_spot 4 = .ok (.iload_n 0, 1) := by decide +kernel
theorem dX2_spot_5 : decode cX2_spot 5 = .ok (.iadd, 1) := by decide +kernel
theorem dX2_spot_6 : decode cX2_spot 6 = .ok (.ireturn, 1) := by decide +kernel
theorem dX2_renew_0 : decode cX2_renew 0 = .ok (.aload_n 0, 1) := by decide +kernel
theorem dX2_renew_1 : decode cX2_renew 1 = .ok (.iload_n 1, 1) := by decide +kernel
theorem dX2_renew_2 : decode cX2_renew 2 = .ok (.putfield 17, 3) := by decide +kernel
theorem dX2_renew_5 : decode cX2_renew 5 = .ok (.aload_n 0, 1) := by decide +kernel
theorem dX2_renew_6 : decode cX2_renew 6 = .ok (.iload_n 2, 1) := by decide +kernel
theorem dX2_renew_7 : decode cX2_renew 7 = .ok (.putfield 21, 3) := by decide +kernel
theorem dX2_renew_10 : decode cX2_renew 10 = .ok (.iconst 0, 1) := by decide +kernel
theorem dX2_renew_11 : decode cX2_renew 11 = .ok (.istore_n 3, 1) := by decide +kernel
theorem dX2_renew_12 : decode cX2_renew 12 = .ok (.iload_n 3, 1) := by decide +kernel
theorem dX2_renew_13 : decode cX2_renew 13 = .ok (.aload_n 0, 1) := by decide +kernel
theorem dX2_renew_14 : decode cX2_renew 14 = .ok (.getfield 9, 3) := by decide +kernel
theorem dX2_renew_17 : decode cX2_renew 17 = .ok (.arraylength, 1) := by decide +kernel
theorem dX2_renew_18 : decode cX2_renew 18 = .ok (.if_icmp .ge 32, 3) := by decide +kernel
theorem dX2_renew_21 : decode cX2_renew 21 = .ok (.iload_n 3, 1) := by decide +kernel
theorem dX2_renew_22 : decode cX2_renew 22 = .ok (.aload_n 0, 1) := by decide +kernel
theorem dX2_renew_23 : decode cX2_renew 23 = .ok (.getfield 13, 3) := by decide +kernel
theorem dX2_renew_26 : decode cX2_renew 26 = .ok (.arraylength, 1) := by decide +kernel
theorem dX2_renew_27 : decode cX2_renew 27 = .ok (.if_icmp .ge 23, 3) := by decide +kernel
theorem dX2_renew_30 : decode cX2_renew 30 = .ok (.aload_n 0, 1) := by decide +kernel
theorem dX2_renew_31 : decode cX2_renew 31 = .ok (.getfield 9, 3) := by decide +kernel
theorem dX2_renew_34 : decode cX2_renew 34 = .ok (.iload_n 3, 1) := by decide +kernel
theorem dX2_renew_35 : decode cX2_renew 35 = .ok (.iconst 0, 1) := by decide +kernel
theorem dX2_renew_36 : decode cX2_renew 36 = .ok (.iastore, 1) := by decide +kernel
theorem dX2_renew_37 : decode cX2_renew 37 = .ok (.aload_n 0, 1) := by decide +kernel
theorem dX2_renew_38 : decode cX2_renew 38 = .ok (.getfield 13, 3) := by decide +kernel
theorem dX2_renew_41 : decode cX2_renew 41 = .ok (.iload_n 3, 1) := by decide +kernel
theorem dX2_renew_42 : decode cX2_renew 42 = .ok (.iconst 0, 1) := by decide +kernel
theorem dX2_renew_43 : decode cX2_renew 43 = .ok (.bastore, 1) := by decide +kernel
theorem dX2_renew_44 : decode cX2_renew 44 = .ok (.iinc 3 1, 3) := by decide +kernel
theorem dX2_renew_47 : decode cX2_renew 47 = .ok (.goto (-35), 3) := by decide +kernel
theorem dX2_renew_50 : decode cX2_renew 50 = .ok (.return_, 1) := by decide +kernel
theorem dX2_width_0 : decode cX2_width 0 = .ok (.aload_n 0, 1) := by decide +kernel
theorem dX2_width_1 : decode cX2_width 1 = .ok (.getfield 17, 3) := by decide +kernel
theorem dX2_width_4 : decode cX2_width 4 = .ok (.ireturn, 1) := by decide +kernel
theorem dX2_height_0 : decode cX2_height 0 = .ok (.aload_n 0, 1) := by decide +kernel
theorem dX2_height_1 : decode cX2_height 1 = .ok (.getfield 21, 3) := by decide +kernel
theorem dX2_height_4 : decode cX2_height 4 = .ok (.ireturn, 1) := by decide +kernel
theorem dX2_has_0 : decode cX2_has 0 = .ok (.iload_n 1, 1) := by decide +kernel
theorem dX2_has_1 : decode cX2_has 1 = .ok (.ifCond .lt 27, 3) := by decide +kernel
theorem dX2_has_4 : decode cX2_has 4 = .ok (.iload_n 1, 1) := by decide +kernel
theorem dX2_has_5 : decode cX2_has 5 = .ok (.aload_n 0, 1) := by decide +kernel
theorem dX2_has_6 : decode cX2_has 6 = .ok (.getfield 17, 3) := by decide +kernel
theorem dX2_has_9 : decode cX2_has 9 = .ok (.if_icmp .ge 19, 3) := by decide +kernel
theorem dX2_has_12 : decode cX2_has 12 = .ok (.iload_n 2, 1) := by decide +kernel
theorem dX2_has_13 : decode cX2_has 13 = .ok (.ifCond .lt 15, 3) := by decide +kernel
theorem dX2_has_16 : decode cX2_has 16 = .ok (.iload_n 2, 1) := by decide +kernel
theorem dX2_has_17 : decode cX2_has 17 = .ok (.aload_n 0, 1) := by decide +kernel
theorem dX2_has_18 : decode cX2_has 18 = .ok (.getfield 21, 3) := by decide +kernel
theorem dX2_has_21 : decode cX2_has 21 = .ok (.if_icmp .ge 7, 3) := by decide +kernel
theorem dX2_has_24 : decode cX2_has 24 = .ok (.iconst 1, 1) := by decide +kernel
theorem dX2_has_25 : decode cX2_has 25 = .ok (.goto 4, 3) := by decide +kernel
theorem dX2_has_28 : decode cX2_has 28 = .ok (.iconst 0, 1) := by decide +kernel
theorem dX2_has_29 : decode cX2_has 29 = .ok (.ireturn, 1) := by decide +kernel
set_option maxRecDepth 20000 in
theorem ggX2_hasBox_X2_has : GoodIn wsX2_hasBox wsX2_has := goodIn_r _ [7, 1, 2, 8, 9, 10, 11] (by decide +kernel) (by decide +kernel)
set_option maxRecDepth 20000 in
theorem gX2_hasBox_X2_has : GoodIn wsX2_hasBox (wsV RX2 24 RX2 yX2_has wsX2_has) := goodIn_app (goodIn_of _ (by decide +kernel)) ggX2_hasBox_X2_has
theorem dX2_hasBox_0 : decode cX2_hasBox 0 = .ok (.aload_n 0, 1) := by decide +kernel
theorem dX2_hasBox_1 : decode cX2_hasBox 1 = .ok (.iload_n 1, 1) := by decide +kernel
theorem dX2_hasBox_2 : decode cX2_hasBox 2 = .ok (.iload_n 2, 1) := by decide +kernel
theorem dX2_hasBox_3 : decode cX2_hasBox 3 = .ok (.invokevirtual 24, 3) := by decide +kernel
theorem dX2_hasBox_6 : decode cX2_hasBox 6 = .ok (.ifCond .eq 39, 3) := by decide +kernel
theorem dX2_hasBox_9 : decode cX2_hasBox 9 = .ok (.iload_n 3, 1) := by decide +kernel
theorem dX2_hasBox_10 : decode cX2_hasBox 10 = .ok (.iconst 1, 1) := by decide +kernel
theorem dX2_hasBox_11 : decode cX2_hasBox 11 = .ok (.if_icmp .lt 34, 3) := by decide +kernel
theorem dX2_hasBox_14 : decode cX2_hasBox 14 = .ok (.iload_n 3, 1) := by decide +kernel
theorem dX2_hasBox_15 : decode cX2_hasBox 15 = .ok (.aload_n 0, 1) := by decide +kernel
theorem dX2_hasBox_16 : decode cX2_hasBox 16 = .ok (.getfield 17, 3) := by decide +kernel
theorem dX2_hasBox_19 : decode cX2_hasBox 19 = .ok (.iload_n 1, 1) := by decide +kernel
theorem dX2_hasBox_20 : decode cX2_hasBox 20 = .ok (.isub, 1) := by decide +kernel
theorem dX2_hasBox_21 : decode cX2_hasBox 21 = .ok (.if_icmp .gt 24, 3) := by decide +kernel
theorem dX2_hasBox_24 : decode cX2_hasBox 24 = .ok (.iload 4, 2) := by decide +kernel
theorem dX2_hasBox_26 : decode cX2_hasBox 26 = .ok (.iconst 1, 1) := by decide +kernel
theorem dX2_hasBox_27 : decode cX2_hasBox 27 = .ok (.if_icmp .lt 18, 3) := by decide +kernel
theorem dX2_hasBox_30 : decode cX2_hasBox 30 = .ok (.iload 4, 2) := by decide +kernel
theorem dX2_hasBox_32 : decode cX2_hasBox 32 = .ok (.aload_n 0, 1) := by decide +kernel
theorem dX2_hasBox_33 : decode cX2_hasBox 33 = .ok (.getfield 21, 3) := by decide +kernel
theorem dX2_hasBox_36 : decode cX2_hasBox 36 = .ok (.iload_n 2, 1) := by decide +kernel
theorem dX2_hasBox_37 : decode cX2_hasBox 37 = .ok (.isub, 1) := by decide +kernel
theorem dX2_hasBox_38 : decode cX2_hasBox 38 = .ok (.if_icmp .gt 7, 3) := by decide +kernel
theorem dX2_hasBox_41 : decode cX2_hasBox 41 = .ok (.iconst 1, 1) := by decide +kernel
theorem dX2_hasBox_42 : decode cX2_hasBox 42 = .ok (.goto 4, 3) := by decide +kernel
theorem dX2_hasBox_45 : decode cX2_hasBox 45 = .ok (.iconst 0, 1) := by decide +kernel
theorem dX2_hasBox_46 : decode cX2_hasBox 46 = .ok (.ireturn, 1) := by decide +kernel
set_option maxRecDepth 20000 in
theorem ggX2_greyAt_X2_has : GoodIn wsX2_greyAt wsX2_has := goodIn_r _ [6, 7, 8, 12, 13, 14, 15] (by decide +kernel) (by decide +kernel)
set_option maxRecDepth 20000 in
theorem gX2_greyAt_X2_has : GoodIn wsX2_greyAt (wsV RX2 24 RX2 yX2_has wsX2_has) := goodIn_app (goodIn_of _ (by decide +kernel)) ggX2_greyAt_X2_has
set_option maxRecDepth 20000 in
theorem ggX2_greyAt_X2_spot : GoodIn wsX2_greyAt wsX2_spot := goodIn_r _ [11] (by decide +kernel) (by decide +kernel)
set_option maxRecDepth 20000 in
theorem gX2_greyAt_X2_spot : GoodIn wsX2_greyAt (va_wsS RX2 28 yX2_spot wsX2_spot) := goodIn_app (goodIn_of _ (by decide +kernel)) ggX2_greyAt_X2_spot
theorem dX2_greyAt_0 : decode cX2_greyAt 0 = .ok (.aload_n 0, 1) := by decide +kernel
theorem dX2_greyAt_1 : decode cX2_greyAt 1 = .ok (.iload_n 1, 1) := by decide +kernel
theorem dX2_greyAt_2 : decode cX2_greyAt 2 = .ok (.iload_n 2, 1) := by decide +kernel
theorem dX2_greyAt_3 : decode cX2_greyAt 3 = .ok (.invokevirtual 24, 3) := by decide +kernel
theorem dX2_greyAt_6 : decode cX2_greyAt 6 = .ok (.ifCond .eq 16, 3) := by decide +kernel
theorem dX2_greyAt_9 : decode cX2_greyAt 9 = .ok (.aload_n 0, 1) := by decide +kernel
theorem dX2_greyAt_10 : decode cX2_greyAt 10 = .ok (.getfield 9, 3) := by decide +kernel
theorem dX2_greyAt_13 : decode cX2_greyAt 13 = .ok (.iload_n 1, 1) := by decide +kernel
theorem dX2_greyAt_14 : decode cX2_greyAt 14 = .ok (.iload_n 2, 1) := by decide +kernel
theorem dX2_greyAt_15 : decode cX2_greyAt 15 = .ok (.invokestatic 28, 3) := by decide +kernel
theorem dX2_greyAt_18 : decode cX2_greyAt 18 = .ok (.iaload, 1) := by decide +kernel
theorem dX2_greyAt_19 : decode cX2_greyAt 19 = .ok (.goto 4, 3) := by decide +kernel
theorem dX2_greyAt_22 : decode cX2_greyAt 22 = .ok (.iconst 0, 1) := by decide +kernel
theorem dX2_greyAt_23 : decode cX2_greyAt 23 = .ok (.ireturn, 1) := by decide +kernel
set_option maxRecDepth 20000 in
theorem ggX2_setGrey_X2_has : GoodIn wsX2_setGrey wsX2_has := goodIn_r _ [6, 7, 8, 12, 13, 14, 15] (by decide +kernel) (by decide +kernel)
set_option maxRecDepth 20000 in
theorem gX2_setGrey_X2_has : GoodIn wsX2_setGrey (wsV RX2 24 RX2 yX2_has wsX2_has) := goodIn_app (goodIn_of _ (by decide +kernel)) ggX2_setGrey_X2_has
set_option maxRecDepth 20000 in
theorem ggX2_setGrey_X2_spot : GoodIn wsX2_setGrey wsX2_spot := goodIn_r _ [11] (by decide +kernel) (by decide +kernel)
set_option maxRecDepth 20000 in
theorem gX2_setGrey_X2_spot : GoodIn wsX2_setGrey (va_wsS RX2 28 yX2_spot wsX2_spot) := goodIn_app (goodIn_of _ (by decide +kernel)) ggX2_setGrey_X2_spot
theorem dX2_setGrey_0 : decode cX2_setGrey 0 = .ok (.aload_n 0, 1) := by decide +kernel
theorem dX2_setGrey_1 : decode cX2_setGrey 1 = .ok (.iload_n 1, 1) := by decide +kernel
theorem dX2_setGrey_2 : decode cX2_setGrey 2 = .ok (.iload_n 2, 1) := by decide +kernel
theorem dX2_setGrey_3 : decode cX2_setGrey 3 = .ok (.invokevirtual 24, 3) := by decide +kernel
theorem dX2_setGrey_6 : decode cX2_setGrey 6 = .ok (.ifCond .eq 14, 3) := by decide +kernel
theorem dX2_setGrey_9 : decode cX2_setGrey 9 = .ok (.aload_n 0, 1) := by decide +kernel
theorem dX2_setGrey_10 : decode cX2_setGrey 10 = .ok (.getfield 9, 3) := by decide +kernel
theorem dX2_setGrey_13 : decode cX2_setGrey 13 = .ok (.iload_n 1, 1) := by decide +kernel
theorem dX2_setGrey_14 : decode cX2_setGrey 14 = .ok (.iload_n 2, 1) := by decide +kernel
theorem dX2_setGrey_15 : decode cX2_setGrey 15 = .ok (.invokestatic 28, 3) := by decide +kernel
theorem dX2_setGrey_18 : decode cX2_setGrey 18 = .ok (.iload_n 3, 1) := by decide +kernel
theorem dX2_setGrey_19 : decode cX2_setGrey 19 = .ok (.iastore, 1) := by decide +kernel
theorem dX2_setGrey_20 : decode cX2_setGrey 20 = .ok (.return_, 1) := by decide +kernel
set_option maxRecDepth 20000 in
theorem ggX2_isLine_X2_has : GoodIn wsX2_isLine wsX2_has := goodIn_r _ [6, 7, 8, 12, 13, 14, 15] (by decide +kernel) (by decide +kernel)
set_option maxRecDepth 20000 in
theorem gX2_isLine_X2_has : GoodIn wsX2_isLine (wsV RX2 24 RX2 yX2_has wsX2_has) := goodIn_app (goodIn_of _ (by decide +kernel)) ggX2_isLine_X2_has
set_option maxRecDepth 20000 in
theorem ggX2_isLine_X2_spot : GoodIn wsX2_isLine wsX2_spot := goodIn_r _ [11] (by decide +kernel) (by decide +kernel)
set_option maxRecDepth 20000 in
theorem gX2_isLine_X2_spot : GoodIn wsX2_isLine (va_wsS RX2 28 yX2_spot wsX2_spot) := goodIn_app (goodIn_of _ (by decide +kernel)) ggX2_isLine_X2_spot
theorem dX2_isLine_0 : decode cX2_isLine 0 = .ok (.aload_n 0, 1) := by decide +kernel
theorem dX2_isLine_1 : decode cX2_isLine 1 = .ok (.iload_n 1, 1) := by decide +kernel
theorem dX2_isLine_2 : decode cX2_isLine 2 = .ok (.iload_n 2, 1) := by decide +kernel
theorem dX2_isLine_3 : decode cX2_isLine 3 = .ok (.invokevirtual 24, 3) := by decide +kernel
theorem dX2_isLine_6 : decode cX2_isLine 6 = .ok (.ifCond .eq 20, 3) := by decide +kernel
theorem dX2_isLine_9 : decode cX2_isLine 9 = .ok (.aload_n 0, 1) := by decide +kernel
theorem dX2_isLine_10 : decode cX2_isLine 10 = .ok (.getfield 13, 3) := by decide +kernel
theorem dX2_isLine_13 : decode cX2_isLine 13 = .ok (.iload_n 1, 1) := by decide +kernel
theorem dX2_isLine_14 : decode cX2_isLine 14 = .ok (.iload_n 2, 1) := by decide +kernel
theorem dX2_isLine_15 : decode cX2_isLine 15 = .ok (.invokestatic 28, 3) := by decide +kernel
theorem dX2_isLine_18 : decode cX2_isLine 18 = .ok (.baload, 1) := by decide +kernel
theorem dX2_isLine_19 : decode cX2_isLine 19 = .ok (.ifCond .eq 7, 3) := by decide +kernel
theorem dX2_isLine_22 : decode cX2_isLine 22 = .ok (.iconst 1, 1) := by decide +kernel
theorem dX2_isLine_23 : decode cX2_isLine 23 = .ok (.goto 4, 3) := by decide +kernel
theorem dX2_isLine_26 : decode cX2_isLine 26 = .ok (.iconst 0, 1) := by decide +kernel
theorem dX2_isLine_27 : decode cX2_isLine 27 = .ok (.ireturn, 1) := by decide +kernel
set_option maxRecDepth 20000 in
theorem ggX2_setLine_X2_has : GoodIn wsX2_setLine wsX2_has := goodIn_r _ [6, 7, 8, 12, 13, 14, 15] (by decide +kernel) (by decide +kernel)
set_option maxRecDepth 20000 in
theorem gX2_setLine_X2_has : GoodIn wsX2_setLine (wsV RX2 24 RX2 yX2_has wsX2_has) := goodIn_app (goodIn_of _ (by decide +kernel)) ggX2_setLine_X2_has
set_option maxRecDepth 20000 in
theorem ggX2_setLine_X2_spot : GoodIn wsX2_setLine wsX2_spot := goodIn_r _ [11] (by decide +kernel) (by decide +kernel)
set_option maxRecDepth 20000 in
theorem gX2_setLine_X2_spot : GoodIn wsX2_setLine (va_wsS RX2 28 yX2_spot wsX2_spot) := goodIn_app (goodIn_of _ (by decide +kernel)) ggX2_setLine_X2_spot
theorem dX2_setLine_0 : decode cX2_setLine 0 = .ok (.aload_n 0, 1) := by decide +kernel
theorem dX2_setLine_1 : decode cX2_setLine 1 = .ok (.iload_n 1, 1) := by decide +kernel
theorem dX2_setLine_2 : decode cX2_setLine 2 = .ok (.iload_n 2, 1) := by decide +kernel
theorem dX2_setLine_3 : decode cX2_setLine 3 = .ok (.invokevirtual 24, 3) := by decide +kernel
theorem dX2_setLine_6 : decode cX2_setLine 6 = .ok (.ifCond .eq 14, 3) := by decide +kernel
theorem dX2_setLine_9 : decode cX2_setLine 9 = .ok (.aload_n 0, 1) := by decide +kernel
theorem dX2_setLine_10 : decode cX2_setLine 10 = .ok (.getfield 13, 3) := by decide +kernel
theorem dX2_setLine_13 : decode cX2_setLine 13 = .ok (.iload_n 1, 1) := by decide +kernel
theorem dX2_setLine_14 : decode cX2_setLine 14 = .ok (.iload_n 2, 1) := by decide +kernel
theorem dX2_setLine_15 : decode cX2_setLine 15 = .ok (.invokestatic 28, 3) := by decide +kernel
theorem dX2_setLine_18 : decode cX2_setLine 18 = .ok (.iload_n 3, 1) := by decide +kernel
theorem dX2_setLine_19 : decode cX2_setLine 19 = .ok (.bastore, 1) := by decide +kernel
theorem dX2_setLine_20 : decode cX2_setLine 20 = .ok (.return_, 1) := by decide +kernel
theorem dX2_lineCount_0 : decode cX2_lineCount 0 = .ok (.iconst 0, 1) := by decide +kernel
theorem dX2_lineCount_1 : decode cX2_lineCount 1 = .ok (.istore_n 1, 1) := by decide +kernel
theorem dX2_lineCount_2 : decode cX2_lineCount 2 = .ok (.iconst 0, 1) := by decide +kernel
theorem dX2_lineCount_3 : decode cX2_lineCount 3 = .ok (.istore_n 2, 1) := by decide +kernel
theorem dX2_lineCount_4 : decode cX2_lineCount 4 = .ok (.iload_n 2, 1) := by decide +kernel
theorem dX2_lineCount_5 : decode cX2_lineCount 5 = .ok (.aload_n 0, 1) := by decide +kernel
theorem dX2_lineCount_6 : decode cX2_lineCount 6 = .ok (.getfield 13, 3) := by decide +kernel
theorem dX2_lineCount_9 : decode cX2_lineCount 9 = .ok (.arraylength, 1) := by decide +kernel
theorem dX2_lineCount_10 : decode cX2_lineCount 10 = .ok (.if_icmp .ge 21, 3) := by decide +kernel
theorem dX2_lineCount_13 : decode cX2_lineCount 13 = .ok (.aload_n 0, 1) := by decide +kernel
theorem dX2_lineCount_14 : decode cX2_lineCount 14 = .ok (.getfield 13, 3) := by decide +kernel
theorem dX2_lineCount_17 : decode cX2_lineCount 17 = .ok (.iload_n 2, 1) := by decide +kernel
theorem dX2_lineCount_18 : decode cX2_lineCount 18 = .ok (.baload, 1) := by decide +kernel
theorem dX2_lineCount_19 : decode cX2_lineCount 19 = .ok (.ifCond .eq 6, 3) := by decide +kernel
theorem dX2_lineCount_22 : decode cX2_lineCount 22 = .ok (.iinc 1 1, 3) := by decide +kernel
theorem dX2_lineCount_25 : decode cX2_lineCount 25 = .ok (.iinc 2 1, 3) := by decide +kernel
theorem dX2_lineCount_28 : decode cX2_lineCount 28 = .ok (.goto (-24), 3) := by decide +kernel
theorem dX2_lineCount_31 : decode cX2_lineCount 31 = .ok (.iload_n 1, 1) := by decide +kernel
theorem dX2_lineCount_32 : decode cX2_lineCount 32 = .ok (.ireturn, 1) := by decide +kernel
theorem dX2_greySum_0 : decode cX2_greySum 0 = .ok (.iconst 0, 1) := by decide +kernel
theorem dX2_greySum_1 : decode cX2_greySum 1 = .ok (.istore_n 1, 1) := by decide +kernel
theorem dX2_greySum_2 : decode cX2_greySum 2 = .ok (.iconst 0, 1) := by decide +kernel
theorem dX2_greySum_3 : decode cX2_greySum 3 = .ok (.istore_n 2, 1) := by decide +kernel
theorem dX2_greySum_4 : decode cX2_greySum 4 = .ok (.iload_n 2, 1) := by decide +kernel
theorem dX2_greySum_5 : decode cX2_greySum 5 = .ok (.aload_n 0, 1) := by decide +kernel
theorem dX2_greySum_6 : decode cX2_greySum 6 = .ok (.getfield 9, 3) := by decide +kernel
theorem dX2_greySum_9 : decode cX2_greySum 9 = .ok (.arraylength, 1) := by decide +kernel
theorem dX2_greySum_10 : decode cX2_greySum 10 = .ok (.if_icmp .ge 36, 3) := by decide +kernel
theorem dX2_greySum_13 : decode cX2_greySum 13 = .ok (.iload_n 2, 1) := by decide +kernel
theorem dX2_greySum_14 : decode cX2_greySum 14 = .ok (.aload_n 0, 1) := by decide +kernel
theorem dX2_greySum_15 : decode cX2_greySum 15 = .ok (.getfield 13, 3) := by decide +kernel
theorem dX2_greySum_18 : decode cX2_greySum 18 = .ok (.arraylength, 1) := by decide +kernel
theorem dX2_greySum_19 : decode cX2_greySum 19 = .ok (.if_icmp .ge 27, 3) := by decide +kernel
theorem dX2_greySum_22 : decode cX2_greySum 22 = .ok (.aload_n 0, 1) := by decide +kernel
theorem dX2_greySum_23 : decode cX2_greySum 23 = .ok (.getfield 13, 3) := by decide +kernel
theorem dX2_greySum_26 : decode cX2_greySum 26 = .ok (.iload_n 2, 1) := by decide +kernel
theorem dX2_greySum_27 : decode cX2_greySum 27 = .ok (.baload, 1) := by decide +kernel
theorem dX2_greySum_28 : decode cX2_greySum 28 = .ok (.ifCond .ne 12, 3) := by decide +kernel
theorem dX2_greySum_31 : decode cX2_greySum 31 = .ok (.iload_n 1, 1) := by decide +kernel
theorem dX2_greySum_32 : decode cX2_greySum 32 = .ok (.aload_n 0, 1) := by decide +kernel
theorem dX2_greySum_33 : decode cX2_greySum 33 = .ok (.getfield 9, 3) := by decide +kernel
theorem dX2_greySum_36 : decode cX2_greySum 36 = .ok (.iload_n 2, 1) := by decide +kernel
theorem dX2_greySum_37 : decode cX2_greySum 37 = .ok (.iaload, 1) := by decide +kernel
theorem dX2_greySum_38 : decode cX2_greySum 38 = .ok (.iadd, 1) := by decide +kernel
theorem dX2_greySum_39 : decode cX2_greySum 39 = .ok (.istore_n 1, 1) := by decide +kernel
theorem dX2_greySum_40 : decode cX2_greySum 40 = .ok (.iinc 2 1, 3) := by decide +kernel
theorem dX2_greySum_43 : decode cX2_greySum 43 = .ok (.goto (-39), 3) := by decide +kernel
theorem dX2_greySum_46 : decode cX2_greySum 46 = .ok (.iload_n 1, 1) := by decide +kernel
theorem dX2_greySum_47 : decode cX2_greySum 47 = .ok (.ireturn, 1) := by decide +kernel
set_option maxRecDepth 20000 in
theorem ggX3_init_X3_renew : GoodIn wsX3_init wsX3_renew := goodIn_r _ [12, 13, 5, 6, 14, 15, 16, 17, 18, 19, 20, 11, 21, 22, 23, 24, 25, 26, 27, 28, 29, 30, 31, 32, 7, 33, 34, 35, 36] (by decide +kernel) (by decide +kernel)
set_option maxRecDepth 20000 in
theorem gX3_init_X3_renew : GoodIn wsX3_init (wsV RX3 21 RX3 yX3_renew wsX3_renew) := goodIn_app (goodIn_of _ (by decide +kernel)) ggX3_init_X3_renew
theorem dX3_init_0 : decode cX3_init 0 = .ok (.aload_n 0, 1) := by decide +kernel
theorem dX3_init_1 : decode cX3_init 1 = .ok (.invokespecial 5, 3) := by decide +kernel
theorem dX3_init_4 : decode cX3_init 4 = .ok (.aload_n 0, 1) := by decide +kernel
theorem dX3_init_5 : decode cX3_init 5 = .ok (.bipush 64, 2) := by decide +kernel
theorem dX3_init_7 : decode cX3_init 7 = .ok (.newarray .int, 2) := by decide +kernel
theorem dX3_init_9 : decode cX3_init 9 = .ok (.putfield 11, 3) := by decide +kernel
theorem dX3_init_12 : decode cX3_init 12 = .ok (.aload_n 0, 1) := by decide +kernel
theorem dX3_init_13 : decode cX3_init 13 = .ok (.bipush 64, 2) := by decide +kernel
theorem dX3_init_15 : decode cX3_init 15 = .ok (.newarray .int, 2) := by decide +kernel
theorem dX3_init_17 : decode cX3_init 17 = .ok (.putfield 15, 3) := by decide +kernel
theorem dX3_init_20 : decode cX3_init 20 = .ok (.aload_n 0, 1) := by decide +kernel
theorem dX3_init_21 : decode cX3_init 21 = .ok (.sipush 225, 3) := by decide +kernel
theorem dX3_init_24 : decode cX3_init 24 = .ok (.newarray .int, 2) := by decide +kernel
theorem dX3_init_26 : decode cX3_init 26 = .ok (.putfield 18, 3) := by decide +kernel
theorem dX3_init_29 : decode cX3_init 29 = .ok (.aload_n 0, 1) := by decide +kernel
theorem dX3_init_30 : decode cX3_init 30 = .ok (.iconst 1, 1) := by decide +kernel
theorem dX3_init_31 : decode cX3_init 31 = .ok (.invokevirtual 21, 3) := by decide +kernel
theorem dX3_init_34 : decode cX3_init 34 = .ok (.return_, 1) := by decide +kernel
theorem dX3_allows_0 : decode cX3_allows 0 = .ok (.iload_n 0, 1) := by decide +kernel
theorem dX3_allows_1 : decode cX3_allows 1 = .ok (.iconst 1, 1) := by decide +kernel
theorem dX3_allows_2 : decode cX3_allows 2 = .ok (.if_icmp .lt 13, 3) := by decide +kernel
theorem dX3_allows_5 : decode cX3_allows 5 = .ok (.iload_n 0, 1) := by decide +kernel
theorem dX3_allows_6 : decode cX3_allows 6 = .ok (.bipush 8, 2) := by decide +kernel
theorem dX3_allows_8 : decode cX3_allows 8 = .ok (.if_icmp .gt 7, 3) := by decide +kernel
theorem dX3_allows_11 : decode cX3_allows 11 = .ok (.iconst 1, 1) := by decide +kernel
theorem dX3_allows_12 : decode cX3_allows 12 = .ok (.goto 4, 3) := by decide +kernel
theorem dX3_allows_15 : decode cX3_allows 15 = .ok (.iconst 0, 1) := by decide +kernel
theorem dX3_allows_16 : decode cX3_allows 16 = .ok (.ireturn, 1) := by decide +kernel
set_option maxRecDepth 20000 in
theorem ggX3_renew_X3_has : GoodIn wsX3_renew wsX3_has := goodIn_r _ [12, 13, 14, 15, 11, 16, 1, 2, 3, 17, 18, 6, 19, 25, 26, 27, 28] (by decide +kernel) (by decide +kernel)
set_option maxRecDepth 20000 in
theorem gX3_renew_X3_has : GoodIn wsX3_renew (wsV RX3 29 RX3 yX3_has wsX3_has) := goodIn_app (goodIn_of _ (by decide +kernel)) ggX3_renew_X3_has
set_option maxRecDepth 20000 in
theorem ggX3_renew_X3_setNearness : GoodIn wsX3_renew wsX3_setNearness := goodIn_r _ [23, 1, 17, 18, 6, 19, 24, 25, 26, 27, 28] (by decide +kernel) (by decide +kernel)
set_option maxRecDepth 20000 in
theorem gX3_renew_X3_setNearness : GoodIn wsX3_renew (wsV RX3 39 RX3 yX3_setNearness wsX3_setNearness) := goodIn_app (goodIn_of _ (by decide +kernel)) ggX3_renew_X3_setNearness
theorem dX3_renew_0 : decode cX3_renew 0 = .ok (.aload_n 0, 1) := by decide +kernel
theorem dX3_renew_1 : decode cX3_renew 1 = .ok (.iload_n 1, 1) := by decide +kernel
theorem dX3_renew_2 : decode cX3_renew 2 = .ok (.putfield 25, 3) := by decide +kernel
theorem dX3_renew_5 : decode cX3_renew 5 = .ok (.iconst 0, 1) := by decide +kernel
theorem dX3_renew_6 : decode cX3_renew 6 = .ok (.istore_n 2, 1) := by decide +kernel
theorem dX3_renew_7 : decode cX3_renew 7 = .ok (.iload_n 2, 1) := by decide +kernel
theorem dX3_renew_8 : decode cX3_renew 8 = .ok (.iload_n 1, 1) := by decide +kernel
theorem dX3_renew_9 : decode cX3_renew 9 = .ok (.if_icmp .ge 60, 3) := by decide +kernel
theorem dX3_renew_12 : decode cX3_renew 12 = .ok (.iconst 0, 1) := by decide +kernel
theorem dX3_renew_13 : decode cX3_renew 13 = .ok (.istore_n 3, 1) := by decide +kernel
theorem dX3_renew_14 : decode cX3_renew 14 = .ok (.iload_n 3, 1) := by decide +kernel
theorem dX3_renew_15 : decode cX3_renew 15 = .ok (.iload_n 1, 1) := by decide +kernel
theorem dX3_renew_16 : decode cX3_renew 16 = .ok (.if_icmp .ge 47, 3) := by decide +kernel
theorem dX3_renew_19 : decode cX3_renew 19 = .ok (.iload_n 2, 1) := by decide +kernel
theorem dX3_renew_20 : decode cX3_renew 20 = .ok (.iload_n 1, 1) := by decide +kernel
theorem dX3_renew_21 : decode cX3_renew 21 = .ok (.imul, 1) := by decide +kernel
theorem dX3_renew_22 : decode cX3_renew 22 = .ok (.iload_n 3, 1) := by decide +kernel
theorem dX3_renew_23 : decode cX3_renew 23 = .ok (.iadd, 1) := by decide +kernel
theorem dX3_renew_24 : decode cX3_renew 24 = .ok (.istore 4, 2) := by decide +kernel
theorem dX3_renew_26 : decode cX3_renew 26 = .ok (.aload_n 0, 1) := by decide +kernel
theorem dX3_renew_27 : decode cX3_renew 27 = .ok (.iload 4, 2) := by decide +kernel
theorem dX3_renew_29 : decode cX3_renew 29 = .ok (.invokevirtual 29, 3) := by decide +kernel
theorem dX3_renew_32 : decode cX3_renew 32 = .ok (.ifCond .eq 25, 3) := by decide +kernel
theorem dX3_renew_35 : decode cX3_renew 35 = .ok (.aload_n 0, 1) := by decide +kernel
theorem dX3_renew_36 : decode cX3_renew 36 = .ok (.getfield 11, 3) := by decide +kernel
theorem dX3_renew_39 : decode cX3_renew 39 = .ok (.iload 4, 2) := by decide +kernel
theorem dX3_renew_41 : decode cX3_renew 41 = .ok (.iload 4, 2) := by decide +kernel
theorem dX3_renew_43 : decode cX3_renew 43 = .ok (.iastore, 1) := by decide +kernel
theorem dX3_renew_44 : decode cX3_renew 44 = .ok (.aload_n 0, 1) := by decide +kernel
theorem dX3_renew_45 : decode cX3_renew 45 = .ok (.getfield 15, 3) := by decide +kernel
theorem dX3_renew_48 : decode cX3_renew 48 = .ok (.iload 4, 2) := by decide +kernel
theorem dX3_renew_50 : decode cX3_renew 50 = .ok (.iload_n 2, 1) := by decide +kernel
theorem dX3_renew_51 : decode cX3_renew 51 = .ok (.bipush 15, 2) := by decide +kernel
theorem dX3_renew_53 : decode cX3_renew 53 = .ok (.imul, 1) := by decide +kernel
theorem dX3_renew_54 : decode cX3_renew 54 = .ok (.iload_n 3, 1) := by decide +kernel
theorem dX3_renew_55 : decode cX3_renew 55 = .ok (.iadd, 1) := by decide +kernel
theorem dX3_renew_56 : decode cX3_renew 56 = .ok (.iastore, 1) := by decide +kernel
theorem dX3_renew_57 : decode cX3_renew 57 = .ok (.iinc 3 1, 3) := by decide +kernel
theorem dX3_renew_60 : decode cX3_renew 60 = .ok (.goto (-46), 3) := by decide +kernel
theorem dX3_renew_63 : decode cX3_renew 63 = .ok (.iinc 2 1, 3) := by decide +kernel
theorem dX3_renew_66 : decode cX3_renew 66 = .ok (.goto (-59), 3) := by decide +kernel
theorem dX3_renew_69 : decode cX3_renew 69 = .ok (.iconst 1, 1) := by decide +kernel
theorem dX3_renew_70 : decode cX3_renew 70 = .ok (.iload_n 1, 1) := by decide +kernel
theorem dX3_renew_71 : decode cX3_renew 71 = .ok (.isub, 1) := by decide +kernel
theorem dX3_renew_72 : decode cX3_renew 72 = .ok (.istore_n 2, 1) := by decide +kernel
theorem dX3_renew_73 : decode cX3_renew 73 = .ok (.iload_n 2, 1) := by decide +kernel
theorem dX3_renew_74 : decode cX3_renew 74 = .ok (.iload_n 1, 1) := by decide +kernel
theorem dX3_renew_75 : decode cX3_renew 75 = .ok (.if_icmp .ge 45, 3) := by decide +kernel
theorem dX3_renew_78 : decode cX3_renew 78 = .ok (.iconst 1, 1) := by decide +kernel
theorem dX3_renew_79 : decode cX3_renew 79 = .ok (.iload_n 1, 1) := by decide +kernel
theorem dX3_renew_80 : decode cX3_renew 80 = .ok (.isub, 1) := by decide +kernel
theorem dX3_renew_81 : decode cX3_renew 81 = .ok (.istore_n 3, 1) := by decide +kernel
theorem dX3_renew_82 : decode cX3_renew 82 = .ok (.iload_n 3, 1) := by decide +kernel
theorem dX3_renew_83 : decode cX3_renew 83 = .ok (.iload_n 1, 1) := by decide +kernel
theorem dX3_renew_84 : decode cX3_renew 84 = .ok (.if_icmp .ge 30, 3) := by decide +kernel
theorem dX3_renew_87 : decode cX3_renew 87 = .ok (.aload_n 0, 1) := by decide +kernel
theorem dX3_renew_88 : decode cX3_renew 88 = .ok (.bipush 112, 2) := by decide +kernel
theorem dX3_renew_90 : decode cX3_renew 90 = .ok (.iload_n 2, 1) := by decide +kernel
theorem dX3_renew_91 : decode cX3_renew 91 = .ok (.bipush 15, 2) := by decide +kernel
theorem dX3_renew_93 : decode cX3_renew 93 = .ok (.imul, 1) := by decide +kernel
