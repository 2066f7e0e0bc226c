set_option maxRecDepth 20000 in
theorem ggX4_count_X1_square : GoodIn wsX4_count wsX1_square := goodIn_r _ [36, 37, 56, 57, 58, 59, 60] (by decide +kernel) (by decide +kernel)
set_option maxRecDepth 20000 in
theorem gX4_count_X1_square : GoodIn wsX4_count (wsV RX4 166 RX1 yX1_square wsX1_square) := goodIn_app (goodIn_of _ (by decide +kernel)) ggX4_count_X1_square
set_option maxRecDepth 20000 in
theorem ggX4_count_X1_pairCount : GoodIn wsX4_count wsX1_pairCount := goodIn_r _ [41, 42, 56, 57, 58, 59, 60] (by decide +kernel) (by decide +kernel)
set_option maxRecDepth 20000 in
theorem gX4_count_X1_pairCount : GoodIn wsX4_count (wsV RX4 169 RX1 yX1_pairCount wsX1_pairCount) := goodIn_app (goodIn_of _ (by decide +kernel)) ggX4_count_X1_pairCount
theorem dX4_count_0 : decode cX4_count 0 = .ok (.iload_n 1, 1) := by decide +kernel
theorem dX4_count_1 : decode cX4_count 1 = .ok (.tableswitch 116 0 7 #[47, 55, 63, 71, 79, 87, 95, 103], 47) := by decide +kernel
theorem dX4_count_48 : decode cX4_count 48 = .ok (.aload_n 0, 1) := by decide +kernel
theorem dX4_count_49 : decode cX4_count 49 = .ok (.getfield 10, 3) := by decide +kernel
theorem dX4_count_52 : decode cX4_count 52 = .ok (.invokevirtual 154, 3) := by decide +kernel
theorem dX4_count_55 : decode cX4_count 55 = .ok (.ireturn, 1) := by decide +kernel
theorem dX4_count_56 : decode cX4_count 56 = .ok (.aload_n 0, 1) := by decide +kernel
theorem dX4_count_57 : decode cX4_count 57 = .ok (.getfield 10, 3) := by decide +kernel
theorem dX4_count_60 : decode cX4_count 60 = .ok (.invokevirtual 157, 3) := by decide +kernel
theorem dX4_count_63 : decode cX4_count 63 = .ok (.ireturn, 1) := by decide +kernel
theorem dX4_count_64 : decode cX4_count 64 = .ok (.aload_n 0, 1) := by decide +kernel
theorem dX4_count_65 : decode cX4_count 65 = .ok (.getfield 10, 3) := by decide +kernel
theorem dX4_count_68 : decode cX4_count 68 = .ok (.invokevirtual 160, 3) := by decide +kernel
theorem dX4_count_71 : decode cX4_count 71 = .ok (.ireturn, 1) := by decide +kernel
theorem dX4_count_72 : decode cX4_count 72 = .ok (.aload_n 0, 1) := by decide +kernel
theorem dX4_count_73 : decode cX4_count 73 = .ok (.getfield 10, 3) := by decide +kernel
theorem dX4_count_76 : decode cX4_count 76 = .ok (.invokevirtual 163, 3) := by decide +kernel
theorem dX4_count_79 : decode cX4_count 79 = .ok (.ireturn, 1) := by decide +kernel
theorem dX4_count_80 : decode cX4_count 80 = .ok (.aload_n 0, 1) := by decide +kernel
theorem dX4_count_81 : decode cX4_count 81 = .ok (.getfield 19, 3) := by decide +kernel
theorem dX4_count_84 : decode cX4_count 84 = .ok (.invokevirtual 114, 3) := by decide +kernel
theorem dX4_count_87 : decode cX4_count 87 = .ok (.ireturn, 1) := by decide +kernel
theorem dX4_count_88 : decode cX4_count 88 = .ok (.aload_n 0, 1) := by decide +kernel
theorem dX4_count_89 : decode cX4_count 89 = .ok (.getfield 33, 3) := by decide +kernel
theorem dX4_count_92 : decode cX4_count 92 = .ok (.invokevirtual 166, 3) := by decide +kernel
theorem dX4_count_95 : decode cX4_count 95 = .ok (.ireturn, 1) := by decide +kernel
theorem dX4_count_96 : decode cX4_count 96 = .ok (.aload_n 0, 1) := by decide +kernel
theorem dX4_count_97 : decode cX4_count 97 = .ok (.getfield 33, 3) := by decide +kernel
theorem dX4_count_100 : decode cX4_count 100 = .ok (.invokevirtual 169, 3) := by decide +kernel
theorem dX4_count_103 : decode cX4_count 103 = .ok (.ireturn, 1) := by decide +kernel
theorem dX4_count_104 : decode cX4_count 104 = .ok (.aload_n 0, 1) := by decide +kernel
theorem dX4_count_105 : decode cX4_count 105 = .ok (.getfield 37, 3) := by decide +kernel
theorem dX4_count_108 : decode cX4_count 108 = .ok (.ifCond .eq 7, 3) := by decide +kernel
theorem dX4_count_111 : decode cX4_count 111 = .ok (.iconst 1, 1) := by decide +kernel
theorem dX4_count_112 : decode cX4_count 112 = .ok (.goto 4, 3) := by decide +kernel
theorem dX4_count_115 : decode cX4_count 115 = .ok (.iconst 0, 1) := by decide +kernel
theorem dX4_count_116 : decode cX4_count 116 = .ok (.ireturn, 1) := by decide +kernel
theorem dX4_count_117 : decode cX4_count 117 = .ok (.iconst (-1), 1) := by decide +kernel
theorem dX4_count_118 : decode cX4_count 118 = .ok (.ireturn, 1) := by decide +kernel
theorem dX4_isGrey_0 : decode cX4_isGrey 0 = .ok (.iload_n 0, 1) := by decide +kernel
theorem dX4_isGrey_1 : decode cX4_isGrey 1 = .ok (.ifCond .lt 14, 3) := by decide +kernel
theorem dX4_isGrey_4 : decode cX4_isGrey 4 = .ok (.iload_n 0, 1) := by decide +kernel
theorem dX4_isGrey_5 : decode cX4_isGrey 5 = .ok (.sipush 255, 3) := by decide +kernel
theorem dX4_isGrey_8 : decode cX4_isGrey 8 = .ok (.if_icmp .gt 7, 3) := by decide +kernel
theorem dX4_isGrey_11 : decode cX4_isGrey 11 = .ok (.iconst 1, 1) := by decide +kernel
theorem dX4_isGrey_12 : decode cX4_isGrey 12 = .ok (.goto 4, 3) := by decide +kernel
theorem dX4_isGrey_15 : decode cX4_isGrey 15 = .ok (.iconst 0, 1) := by decide +kernel
theorem dX4_isGrey_16 : decode cX4_isGrey 16 = .ok (.ireturn, 1) := by decide +kernel
set_option maxRecDepth 20000 in
theorem ggX4_isInked_X2_greyAt : GoodIn wsX4_isInked wsX2_greyAt := goodIn_r _ [9, 10, 11, 12, 13, 8, 14, 15, 16, 17, 18, 19, 90, 91, 92, 93] (by decide +kernel) (by decide +kernel)
set_option maxRecDepth 20000 in
theorem gX4_isInked_X2_greyAt : GoodIn wsX4_isInked (wsV RX4 80 RX2 yX2_greyAt wsX2_greyAt) := goodIn_app (goodIn_of _ (by decide +kernel)) ggX4_isInked_X2_greyAt
set_option maxRecDepth 20000 in
theorem ggX4_isInked_X2_isLine : GoodIn wsX4_isInked wsX2_isLine := goodIn_r _ [23, 24, 11, 12, 13, 8, 14, 15, 16, 17, 18, 19, 90, 91, 92, 93] (by decide +kernel) (by decide +kernel)
set_option maxRecDepth 20000 in
theorem gX4_isInked_X2_isLine : GoodIn wsX4_isInked (wsV RX4 73 RX2 yX2_isLine wsX2_isLine) := goodIn_app (goodIn_of _ (by decide +kernel)) ggX4_isInked_X2_isLine
set_option maxRecDepth 20000 in
theorem ggX4_isInked_X0_hasInk : GoodIn wsX4_isInked wsX0_hasInk := goodIn_r _ [29, 30, 31, 18, 8, 19, 94, 95, 96, 97] (by decide +kernel) (by decide +kernel)
set_option maxRecDepth 20000 in
theorem gX4_isInked_X0_hasInk : GoodIn wsX4_isInked (wsV RX4 172 RX0 yX0_hasInk wsX0_hasInk) := goodIn_app (goodIn_of _ (by decide +kernel)) ggX4_isInked_X0_hasInk
set_option maxRecDepth 20000 in
theorem ggX4_isInked_X3_inks : GoodIn wsX4_isInked wsX3_inks := goodIn_r _ [36, 37, 38, 39, 40, 41, 42, 43, 44, 45, 46, 47, 35, 48, 49, 50, 51, 52, 53, 54, 55, 56, 57, 58, 59, 60, 61, 62, 98, 99, 100, 101] (by decide +kernel) (by decide +kernel)
set_option maxRecDepth 20000 in
theorem gX4_isInked_X3_inks : GoodIn wsX4_isInked (wsV RX4 175 RX3 yX3_inks wsX3_inks) := goodIn_app (goodIn_of _ (by decide +kernel)) ggX4_isInked_X3_inks
set_option maxRecDepth 20000 in
theorem ggX4_isInked_X1_inks : GoodIn wsX4_isInked wsX1_inks := goodIn_r _ [67, 68, 69, 70, 71, 66, 72, 73, 74, 75, 76, 77, 78, 79, 38, 39, 40, 41, 42, 43, 44, 80, 81, 82, 83, 84, 102, 103, 104, 105, 106] (by decide +kernel) (by decide +kernel)
set_option maxRecDepth 20000 in
theorem gX4_isInked_X1_inks : GoodIn wsX4_isInked (wsV RX4 178 RX1 yX1_inks wsX1_inks) := goodIn_app (goodIn_of _ (by decide +kernel)) ggX4_isInked_X1_inks
theorem dX4_isInked_0 : decode cX4_isInked 0 = .ok (.aload_n 0, 1) := by decide +kernel
theorem dX4_isInked_1 : decode cX4_isInked 1 = .ok (.getfield 10, 3) := by decide +kernel
theorem dX4_isInked_4 : decode cX4_isInked 4 = .ok (.iload_n 2, 1) := by decide +kernel
theorem dX4_isInked_5 : decode cX4_isInked 5 = .ok (.iload_n 3, 1) := by decide +kernel
theorem dX4_isInked_6 : decode cX4_isInked 6 = .ok (.invokevirtual 80, 3) := by decide +kernel
theorem dX4_isInked_9 : decode cX4_isInked 9 = .ok (.istore 4, 2) := by decide +kernel
theorem dX4_isInked_11 : decode cX4_isInked 11 = .ok (.aload_n 0, 1) := by decide +kernel
theorem dX4_isInked_12 : decode cX4_isInked 12 = .ok (.getfield 10, 3) := by decide +kernel
theorem dX4_isInked_15 : decode cX4_isInked 15 = .ok (.iload_n 2, 1) := by decide +kernel
theorem dX4_isInked_16 : decode cX4_isInked 16 = .ok (.iload_n 3, 1) := by decide +kernel
theorem dX4_isInked_17 : decode cX4_isInked 17 = .ok (.invokevirtual 73, 3) := by decide +kernel
theorem dX4_isInked_20 : decode cX4_isInked 20 = .ok (.ifCond .eq 17, 3) := by decide +kernel
theorem dX4_isInked_23 : decode cX4_isInked 23 = .ok (.iload 4, 2) := by decide +kernel
theorem dX4_isInked_25 : decode cX4_isInked 25 = .ok (.sipush 128, 3) := by decide +kernel
theorem dX4_isInked_28 : decode cX4_isInked 28 = .ok (.if_icmp .lt 7, 3) := by decide +kernel
theorem dX4_isInked_31 : decode cX4_isInked 31 = .ok (.iconst 1, 1) := by decide +kernel
theorem dX4_isInked_32 : decode cX4_isInked 32 = .ok (.goto 4, 3) := by decide +kernel
theorem dX4_isInked_35 : decode cX4_isInked 35 = .ok (.iconst 0, 1) := by decide +kernel
theorem dX4_isInked_36 : decode cX4_isInked 36 = .ok (.ireturn, 1) := by decide +kernel
theorem dX4_isInked_37 : decode cX4_isInked 37 = .ok (.iload_n 1, 1) := by decide +kernel
theorem dX4_isInked_38 : decode cX4_isInked 38 = .ok (.iconst 1, 1) := by decide +kernel
theorem dX4_isInked_39 : decode cX4_isInked 39 = .ok (.if_icmp .ne 13, 3) := by decide +kernel
theorem dX4_isInked_42 : decode cX4_isInked 42 = .ok (.aload_n 0, 1) := by decide +kernel
theorem dX4_isInked_43 : decode cX4_isInked 43 = .ok (.getfield 26, 3) := by decide +kernel
theorem dX4_isInked_46 : decode cX4_isInked 46 = .ok (.iload_n 2, 1) := by decide +kernel
theorem dX4_isInked_47 : decode cX4_isInked 47 = .ok (.iload_n 3, 1) := by decide +kernel
theorem dX4_isInked_48 : decode cX4_isInked 48 = .ok (.invokevirtual 172, 3) := by decide +kernel
theorem dX4_isInked_51 : decode cX4_isInked 51 = .ok (.ireturn, 1) := by decide +kernel
theorem dX4_isInked_52 : decode cX4_isInked 52 = .ok (.iload_n 1, 1) := by decide +kernel
theorem dX4_isInked_53 : decode cX4_isInked 53 = .ok (.ifCond .ne 17, 3) := by decide +kernel
theorem dX4_isInked_56 : decode cX4_isInked 56 = .ok (.aload_n 0, 1) := by decide +kernel
theorem dX4_isInked_57 : decode cX4_isInked 57 = .ok (.getfield 19, 3) := by decide +kernel
theorem dX4_isInked_60 : decode cX4_isInked 60 = .ok (.iload 4, 2) := by decide +kernel
theorem dX4_isInked_62 : decode cX4_isInked 62 = .ok (.iload_n 2, 1) := by decide +kernel
theorem dX4_isInked_63 : decode cX4_isInked 63 = .ok (.iload_n 3, 1) := by decide +kernel
theorem dX4_isInked_64 : decode cX4_isInked 64 = .ok (.invokevirtual 175, 3) := by decide +kernel
theorem dX4_isInked_67 : decode cX4_isInked 67 = .ok (.goto 14, 3) := by decide +kernel
theorem dX4_isInked_70 : decode cX4_isInked 70 = .ok (.aload_n 0, 1) := by decide +kernel
theorem dX4_isInked_71 : decode cX4_isInked 71 = .ok (.getfield 33, 3) := by decide +kernel
theorem dX4_isInked_74 : decode cX4_isInked 74 = .ok (.iload 4, 2) := by decide +kernel
theorem dX4_isInked_76 : decode cX4_isInked 76 = .ok (.iload_n 2, 1) := by decide +kernel
theorem dX4_isInked_77 : decode cX4_isInked 77 = .ok (.iload_n 3, 1) := by decide +kernel
theorem dX4_isInked_78 : decode cX4_isInked 78 = .ok (.invokevirtual 178, 3) := by decide +kernel
theorem dX4_isInked_81 : decode cX4_isInked 81 = .ok (.ireturn, 1) := by decide +kernel
set_option maxRecDepth 20000 in
theorem ggX4_within_J9_floorMod_7cf53 : GoodIn wsX4_within wsJ9_floorMod_7cf53 := goodIn_r _ [4] (by decide +kernel) (by decide +kernel)
set_option maxRecDepth 20000 in
theorem gX4_within_J9_floorMod_7cf53 : GoodIn wsX4_within (va_wsS RX4 179 yJ9_floorMod_7cf53 wsJ9_floorMod_7cf53) := goodIn_app (goodIn_of _ (by decide +kernel)) ggX4_within_J9_floorMod_7cf53
theorem dX4_within_0 : decode cX4_within 0 = .ok (.iload_n 1, 1) := by decide +kernel
theorem dX4_within_1 : decode cX4_within 1 = .ok (.iconst 1, 1) := by decide +kernel
theorem dX4_within_2 : decode cX4_within 2 = .ok (.if_icmp .ge 7, 3) := by decide +kernel
theorem dX4_within_5 : decode cX4_within 5 = .ok (.iconst 0, 1) := by decide +kernel
theorem dX4_within_6 : decode cX4_within 6 = .ok (.goto 8, 3) := by decide +kernel
theorem dX4_within_9 : decode cX4_within 9 = .ok (.iload_n 0, 1) := by decide +kernel
theorem dX4_within_10 : decode cX4_within 10 = .ok (.iload_n 1, 1) := by decide +kernel
theorem dX4_within_11 : decode cX4_within 11 = .ok (.invokestatic 179, 3) := by decide +kernel
theorem dX4_within_14 : decode cX4_within 14 = .ok (.ireturn, 1) := by decide +kernel
theorem dX4_commonDivisor_0 : decode cX4_commonDivisor 0 = .ok (.iload_n 0, 1) := by decide +kernel
theorem dX4_commonDivisor_1 : decode cX4_commonDivisor 1 = .ok (.istore_n 2, 1) := by decide +kernel
theorem dX4_commonDivisor_2 : decode cX4_commonDivisor 2 = .ok (.iload_n 1, 1) := by decide +kernel
theorem dX4_commonDivisor_3 : decode cX4_commonDivisor 3 = .ok (.istore_n 3, 1) := by decide +kernel
theorem dX4_commonDivisor_4 : decode cX4_commonDivisor 4 = .ok (.iconst 0, 1) := by decide +kernel
theorem dX4_commonDivisor_5 : decode cX4_commonDivisor 5 = .ok (.istore 4, 2) := by decide +kernel
theorem dX4_commonDivisor_7 : decode cX4_commonDivisor 7 = .ok (.iload 4, 2) := by decide +kernel
theorem dX4_commonDivisor_9 : decode cX4_commonDivisor 9 = .ok (.bipush 64, 2) := by decide +kernel
theorem dX4_commonDivisor_11 : decode cX4_commonDivisor 11 = .ok (.if_icmp .ge 23, 3) := by decide +kernel
theorem dX4_commonDivisor_14 : decode cX4_commonDivisor 14 = .ok (.iload_n 3, 1) := by decide +kernel
theorem dX4_commonDivisor_15 : decode cX4_commonDivisor 15 = .ok (.ifCond .le 19, 3) := by decide +kernel
theorem dX4_commonDivisor_18 : decode cX4_commonDivisor 18 = .ok (.iload_n 2, 1) := by decide +kernel
theorem dX4_commonDivisor_19 : decode cX4_commonDivisor 19 = .ok (.iload_n 3, 1) := by decide +kernel
theorem dX4_commonDivisor_20 : decode cX4_commonDivisor 20 = .ok (.irem, 1) := by decide +kernel
theorem dX4_commonDivisor_21 : decode cX4_commonDivisor 21 = .ok (.istore 5, 2) := by decide +kernel
theorem dX4_commonDivisor_23 : decode cX4_commonDivisor 23 = .ok (.iload_n 3, 1) := by decide +kernel
theorem dX4_commonDivisor_24 : decode cX4_commonDivisor 24 = .ok (.istore_n 2, 1) := by decide +kernel
theorem dX4_commonDivisor_25 : decode cX4_commonDivisor 25 = .ok (.iload 5, 2) := by decide +kernel
theorem dX4_commonDivisor_27 : decode cX4_commonDivisor 27 = .ok (.istore_n 3, 1) := by decide +kernel
theorem dX4_commonDivisor_28 : decode cX4_commonDivisor 28 = .ok (.iinc 4 1, 3) := by decide +kernel
theorem dX4_commonDivisor_31 : decode cX4_commonDivisor 31 = .ok (.goto (-24), 3) := by decide +kernel
theorem dX4_commonDivisor_34 : decode cX4_commonDivisor 34 = .ok (.iload_n 2, 1) := by decide +kernel
theorem dX4_commonDivisor_35 : decode cX4_commonDivisor 35 = .ok (.ireturn, 1) := by decide +kernel
theorem dX5_init_0 : decode cX5_init 0 = .ok (.aload_n 0, 1) := by decide +kernel
theorem dX5_init_1 : decode cX5_init 1 = .ok (.invokespecial 1, 3) := by decide +kernel
theorem dX5_init_4 : decode cX5_init 4 = .ok (.aload_n 0, 1) := by decide +kernel
theorem dX5_init_5 : decode cX5_init 5 = .ok (.bipush 8, 2) := by decide +kernel
theorem dX5_init_7 : decode cX5_init 7 = .ok (.putfield 7, 3) := by decide +kernel
theorem dX5_init_10 : decode cX5_init 10 = .ok (.aload_n 0, 1) := by decide +kernel
theorem dX5_init_11 : decode cX5_init 11 = .ok (.bipush 8, 2) := by decide +kernel
theorem dX5_init_13 : decode cX5_init 13 = .ok (.putfield 13, 3) := by decide +kernel
theorem dX5_init_16 : decode cX5_init 16 = .ok (.aload_n 0, 1) := by decide +kernel
theorem dX5_init_17 : decode cX5_init 17 = .ok (.iconst 1, 1) := by decide +kernel
theorem dX5_init_18 : decode cX5_init 18 = .ok (.putfield 16, 3) := by decide +kernel
theorem dX5_init_21 : decode cX5_init 21 = .ok (.aload_n 0, 1) := by decide +kernel
theorem dX5_init_22 : decode cX5_init 22 = .ok (.iconst 2, 1) := by decide +kernel
theorem dX5_init_23 : decode cX5_init 23 = .ok (.putfield 19, 3) := by decide +kernel
theorem dX5_init_26 : decode cX5_init 26 = .ok (.aload_n 0, 1) := by decide +kernel
theorem dX5_init_27 : decode cX5_init 27 = .ok (.iconst 1, 1) := by decide +kernel
theorem dX5_init_28 : decode cX5_init 28 = .ok (.putfield 22, 3) := by decide +kernel
theorem dX5_init_31 : decode cX5_init 31 = .ok (.aload_n 0, 1) := by decide +kernel
theorem dX5_init_32 : decode cX5_init 32 = .ok (.iconst (-1), 1) := by decide +kernel
theorem dX5_init_33 : decode cX5_init 33 = .ok (.putfield 25, 3) := by decide +kernel
theorem dX5_init_36 : decode cX5_init 36 = .ok (.aload_n 0, 1) := by decide +kernel
theorem dX5_init_37 : decode cX5_init 37 = .ok (.sipush 576, 3) := by decide +kernel
theorem dX5_init_40 : decode cX5_init 40 = .ok (.newarray .int, 2) := by decide +kernel
theorem dX5_init_42 : decode cX5_init 42 = .ok (.putfield 28, 3) := by decide +kernel
theorem dX5_init_45 : decode cX5_init 45 = .ok (.aload_n 0, 1) := by decide +kernel
theorem dX5_init_46 : decode cX5_init 46 = .ok (.bipush 64, 2) := by decide +kernel
theorem dX5_init_48 : decode cX5_init 48 = .ok (.newarray .int, 2) := by decide +kernel
theorem dX5_init_50 : decode cX5_init 50 = .ok (.putfield 32, 3) := by decide +kernel
theorem dX5_init_53 : decode cX5_init 53 = .ok (.aload_n 0, 1) := by decide +kernel
theorem dX5_init_54 : decode cX5_init 54 = .ok (.sipush 576, 3) := by decide +kernel
theorem dX5_init_57 : decode cX5_init 57 = .ok (.newarray .int, 2) := by decide +kernel
theorem dX5_init_59 : decode cX5_init 59 = .ok (.putfield 35, 3) := by decide +kernel
theorem dX5_init_62 : decode cX5_init 62 = .ok (.aload_n 0, 1) := by decide +kernel
theorem dX5_init_63 : decode cX5_init 63 = .ok (.sipush 576, 3) := by decide +kernel
theorem dX5_init_66 : decode cX5_init 66 = .ok (.newarray .boolean, 2) := by decide +kernel
theorem dX5_init_68 : decode cX5_init 68 = .ok (.putfield 38, 3) := by decide +kernel
theorem dX5_init_71 : decode cX5_init 71 = .ok (.aload_n 0, 1) := by decide +kernel
theorem dX5_init_72 : decode cX5_init 72 = .ok (.sipush 576, 3) := by decide +kernel
theorem dX5_init_75 : decode cX5_init 75 = .ok (.newarray .boolean, 2) := by decide +kernel
theorem dX5_init_77 : decode cX5_init 77 = .ok (.putfield 42, 3) := by decide +kernel
theorem dX5_init_80 : decode cX5_init 80 = .ok (.aload_n 0, 1) := by decide +kernel
theorem dX5_init_81 : decode cX5_init 81 = .ok (.sipush 16384, 3) := by decide +kernel
theorem dX5_init_84 : decode cX5_init 84 = .ok (.newarray .boolean, 2) := by decide +kernel
theorem dX5_init_86 : decode cX5_init 86 = .ok (.putfield 45, 3) := by decide +kernel
theorem dX5_init_89 : decode cX5_init 89 = .ok (.aload_n 0, 1) := by decide +kernel
theorem dX5_init_90 : decode cX5_init 90 = .ok (.sipush 16384, 3) := by decide +kernel
theorem dX5_init_93 : decode cX5_init 93 = .ok (.newarray .int, 2) := by decide +kernel
theorem dX5_init_95 : decode cX5_init 95 = .ok (.putfield 48, 3) := by decide +kernel
theorem dX5_init_98 : decode cX5_init 98 = .ok (.return_, 1) := by decide +kernel
theorem dX5_thrown_0 : decode cX5_thrown 0 = .ok (.aload_n 0, 1) := by decide +kernel
theorem dX5_thrown_1 : decode cX5_thrown 1 = .ok (.getfield 51, 3) := by decide +kernel
theorem dX5_thrown_4 : decode cX5_thrown 4 = .ok (.ireturn, 1) := by decide +kernel
theorem dX5_isIn_0 : decode cX5_isIn 0 = .ok (.iload_n 0, 1) := by decide +kernel
theorem dX5_isIn_1 : decode cX5_isIn 1 = .ok (.iload_n 1, 1) := by decide +kernel
theorem dX5_isIn_2 : decode cX5_isIn 2 = .ok (.if_icmp .lt 12, 3) := by decide +kernel
theorem dX5_isIn_5 : decode cX5_isIn 5 = .ok (.iload_n 0, 1) := by decide +kernel
theorem dX5_isIn_6 : decode cX5_isIn 6 = .ok (.iload_n 2, 1) := by decide +kernel
theorem dX5_isIn_7 : decode cX5_isIn 7 = .ok (.if_icmp .gt 7, 3) := by decide +kernel
theorem dX5_isIn_10 : decode cX5_isIn 10 = .ok (.iconst 1, 1) := by decide +kernel
theorem dX5_isIn_11 : decode cX5_isIn 11 = .ok (.goto 4, 3) := by decide +kernel
theorem dX5_isIn_14 : decode cX5_isIn 14 = .ok (.iconst 0, 1) := by decide +kernel
theorem dX5_isIn_15 : decode cX5_isIn 15 = .ok (.ireturn, 1) := by decide +kernel
set_option maxRecDepth 20000 in
theorem ggX5_isPlace_X5_isIn : GoodIn wsX5_isPlace wsX5_isIn := goodIn_r _ [6] (by decide +kernel) (by decide +kernel)
set_option maxRecDepth 20000 in
theorem gX5_isPlace_X5_isIn : GoodIn wsX5_isPlace (va_wsS RX5 54 yX5_isIn wsX5_isIn) := goodIn_app (goodIn_of _ (by decide +kernel)) ggX5_isPlace_X5_isIn
theorem dX5_isPlace_0 : decode cX5_isPlace 0 = .ok (.iload_n 1, 1) := by decide +kernel
theorem dX5_isPlace_1 : decode cX5_isPlace 1 = .ok (.iconst 0, 1) := by decide +kernel
theorem dX5_isPlace_2 : decode cX5_isPlace 2 = .ok (.aload_n 0, 1) := by decide +kernel
theorem dX5_isPlace_3 : decode cX5_isPlace 3 = .ok (.getfield 7, 3) := by decide +kernel
theorem dX5_isPlace_6 : decode cX5_isPlace 6 = .ok (.iconst 1, 1) := by decide +kernel
theorem dX5_isPlace_7 : decode cX5_isPlace 7 = .ok (.isub, 1) := by decide +kernel
theorem dX5_isPlace_8 : decode cX5_isPlace 8 = .ok (.invokestatic 54, 3) := by decide +kernel
theorem dX5_isPlace_11 : decode cX5_isPlace 11 = .ok (.ifCond .eq 21, 3) := by decide +kernel
theorem dX5_isPlace_14 : decode cX5_isPlace 14 = .ok (.iload_n 2, 1) := by decide +kernel
theorem dX5_isPlace_15 : decode cX5_isPlace 15 = .ok (.iconst 0, 1) := by decide +kernel
theorem dX5_isPlace_16 : decode cX5_isPlace 16 = .ok (.aload_n 0, 1) := by decide +kernel
theorem dX5_isPlace_17 : decode cX5_isPlace 17 = .ok (.getfield 13, 3) := by decide +kernel
theorem dX5_isPlace_20 : decode cX5_isPlace 20 = .ok (.iconst 1, 1) := by decide +kernel
theorem dX5_isPlace_21 : decode cX5_isPlace 21 = .ok (.isub, 1) := by decide +kernel
theorem dX5_isPlace_22 : decode cX5_isPlace 22 = .ok (.invokestatic 54, 3) := by decide +kernel
theorem dX5_isPlace_25 : decode cX5_isPlace 25 = .ok (.ifCond .eq 7, 3) := by decide +kernel
theorem dX5_isPlace_28 : decode cX5_isPlace 28 = .ok (.iconst 1, 1) := by decide +kernel
theorem dX5_isPlace_29 : decode cX5_isPlace 29 = .ok (.goto 4, 3) := by decide +kernel
theorem dX5_isPlace_32 : decode cX5_isPlace 32 = .ok (.iconst 0, 1) := by decide +kernel
theorem dX5_isPlace_33 : decode cX5_isPlace 33 = .ok (.ireturn, 1) := by decide +kernel
set_option maxRecDepth 20000 in
theorem ggX5_picture_X5_isIn : GoodIn wsX5_picture wsX5_isIn := goodIn_r _ [9] (by decide +kernel) (by decide +kernel)
set_option maxRecDepth 20000 in
theorem gX5_picture_X5_isIn : GoodIn wsX5_picture (va_wsS RX5 54 yX5_isIn wsX5_isIn) := goodIn_app (goodIn_of _ (by decide +kernel)) ggX5_picture_X5_isIn
theorem dX5_picture_0 : decode cX5_picture 0 = .ok (.aload_n 0, 1) := by decide +kernel
theorem dX5_picture_1 : decode cX5_picture 1 = .ok (.iconst 0, 1) := by decide +kernel
theorem dX5_picture_2 : decode cX5_picture 2 = .ok (.putfield 51, 3) := by decide +kernel
theorem dX5_picture_5 : decode cX5_picture 5 = .ok (.iload_n 1, 1) := by decide +kernel
theorem dX5_picture_6 : decode cX5_picture 6 = .ok (.iconst 1, 1) := by decide +kernel
theorem dX5_picture_7 : decode cX5_picture 7 = .ok (.bipush 24, 2) := by decide +kernel
theorem dX5_picture_9 : decode cX5_picture 9 = .ok (.invokestatic 54, 3) := by decide +kernel
theorem dX5_picture_12 : decode cX5_picture 12 = .ok (.ifCond .eq 13, 3) := by decide +kernel
theorem dX5_picture_15 : decode cX5_picture 15 = .ok (.iload_n 2, 1) := by decide +kernel
theorem dX5_picture_16 : decode cX5_picture 16 = .ok (.iconst 1, 1) := by decide +kernel
theorem dX5_picture_17 : decode cX5_picture 17 = .ok (.bipush 24, 2) := by decide +kernel
theorem dX5_picture_19 : decode cX5_picture 19 = .ok (.invokestatic 54, 3) := by decide +kernel
theorem dX5_picture_22 : decode cX5_picture 22 = .ok (.ifCond .ne 5, 3) := by decide +kernel
theorem dX5_picture_25 : decode cX5_picture 25 = .ok (.iconst 0, 1) := by decide +kernel
theorem dX5_picture_26 : decode cX5_picture 26 = .ok (.ireturn, 1) := by decide +kernel
theorem dX5_picture_27 : decode cX5_picture 27 = .ok (.aload_n 0, 1) := by decide +kernel
theorem dX5_picture_28 : decode cX5_picture 28 = .ok (.iload_n 1, 1) := by decide +kernel
theorem dX5_picture_29 : decode cX5_picture 29 = .ok (.putfield 7, 3) := by decide +kernel
theorem dX5_picture_32 : decode cX5_picture 32 = .ok (.aload_n 0, 1) := by decide +kernel
theorem dX5_picture_33 : decode cX5_picture 33 = .ok (.iload_n 2, 1) := by decide +kernel
theorem dX5_picture_34 : decode cX5_picture 34 = .ok (.putfield 13, 3) := by decide +kernel
theorem dX5_picture_37 : decode cX5_picture 37 = .ok (.iconst 0, 1) := by decide +kernel
theorem dX5_picture_38 : decode cX5_picture 38 = .ok (.istore_n 3, 1) := by decide +kernel
theorem dX5_picture_39 : decode cX5_picture 39 = .ok (.iload_n 3, 1) := by decide +kernel
theorem dX5_picture_40 : decode cX5_picture 40 = .ok (.sipush 576, 3) := by decide +kernel
theorem dX5_picture_43 : decode cX5_picture 43 = .ok (.if_icmp .ge 23, 3) := by decide +kernel
theorem dX5_picture_46 : decode cX5_picture 46 = .ok (.aload_n 0, 1) := by decide +kernel
theorem dX5_picture_47 : decode cX5_picture 47 = .ok (.getfield 28, 3) := by decide +kernel
theorem dX5_picture_50 : decode cX5_picture 50 = .ok (.iload_n 3, 1) := by decide +kernel
theorem dX5_picture_51 : decode cX5_picture 51 = .ok (.iconst 0, 1) := by decide +kernel
theorem dX5_picture_52 : decode cX5_picture 52 = .ok (.iastore, 1) := by decide +kernel
theorem dX5_picture_53 : decode cX5_picture 53 = .ok (.aload_n 0, 1) := by decide +kernel
theorem dX5_picture_54 : decode cX5_picture 54 = .ok (.getfield 38, 3) := by decide +kernel
theorem dX5_picture_57 : decode cX5_picture 57 = .ok (.iload_n 3, 1) := by decide +kernel
theorem dX5_picture_58 : decode cX5_picture 58 = .ok (.iconst 0, 1) := by decide +kernel
theorem dX5_picture_59 : decode cX5_picture 59 = .ok (.bastore, 1) := by decide +kernel
theorem dX5_picture_60 : decode cX5_picture 60 = .ok (.iinc 3 1, 3) := by decide +kernel
theorem dX5_picture_63 : decode cX5_picture 63 = .ok (.goto (-24), 3) := by decide +kernel
theorem dX5_picture_66 : decode cX5_picture 66 = .ok (.iconst 1, 1) := by decide +kernel
theorem dX5_picture_67 : decode cX5_picture 67 = .ok (.ireturn, 1) := by decide +kernel
set_option maxRecDepth 20000 in
theorem ggX5_shade_X5_isPlace : GoodIn wsX5_shade wsX5_isPlace := goodIn_r _ [7, 8, 9, 10, 11, 6, 12, 13, 14, 15, 16, 17, 18, 19, 20, 21, 22, 23, 24, 25, 26, 27, 28, 29, 30, 31] (by decide +kernel) (by decide +kernel)
set_option maxRecDepth 20000 in
theorem gX5_shade_X5_isPlace : GoodIn wsX5_shade (wsV RX5 58 RX5 yX5_isPlace wsX5_isPlace) := goodIn_app (goodIn_of _ (by decide +kernel)) ggX5_shade_X5_isPlace
set_option maxRecDepth 20000 in
theorem ggX5_shade_X5_isIn : GoodIn wsX5_shade wsX5_isIn := goodIn_r _ [12] (by decide +kernel) (by decide +kernel)
set_option maxRecDepth 20000 in
theorem gX5_shade_X5_isIn : GoodIn wsX5_shade (va_wsS RX5 54 yX5_isIn wsX5_isIn) := goodIn_app (goodIn_of _ (by decide +kernel)) ggX5_shade_X5_isIn
theorem dX5_shade_0 : decode cX5_shade 0 = .ok (.aload_n 0, 1) := by decide +kernel
theorem dX5_shade_1 : decode cX5_shade 1 = .ok (.iconst 0, 1) := by decide +kernel
theorem dX5_shade_2 : decode cX5_shade 2 = .ok (.putfield 51, 3) := by decide +kernel
theorem dX5_shade_5 : decode cX5_shade 5 = .ok (.aload_n 0, 1) := by decide +kernel
theorem dX5_shade_6 : decode cX5_shade 6 = .ok (.iload_n 1, 1) := by decide +kernel
theorem dX5_shade_7 : decode cX5_shade 7 = .ok (.iload_n 2, 1) := by decide +kernel
theorem dX5_shade_8 : decode cX5_shade 8 = .ok (.invokevirtual 58, 3) := by decide +kernel
theorem dX5_shade_11 : decode cX5_shade 11 = .ok (.ifCond .eq 14, 3) := by decide +kernel
theorem dX5_shade_14 : decode cX5_shade 14 = .ok (.iload_n 3, 1) := by decide +kernel
theorem dX5_shade_15 : decode cX5_shade 15 = .ok (.iconst 0, 1) := by decide +kernel
theorem dX5_shade_16 : decode cX5_shade 16 = .ok (.sipush 255, 3) := by decide +kernel
theorem dX5_shade_19 : decode cX5_shade 19 = .ok (.invokestatic 54, 3) := by decide +kernel
theorem dX5_shade_22 : decode cX5_shade 22 = .ok (.ifCond .ne 5, 3) := by decide +kernel
theorem dX5_shade_25 : decode cX5_shade 25 = .ok (.iconst 0, 1) := by decide +kernel
theorem dX5_shade_26 : decode cX5_shade 26 = .ok (.ireturn, 1) := by decide +kernel
theorem dX5_shade_27 : decode cX5_shade 27 = .ok (.aload_n 0, 1) := by decide +kernel
theorem dX5_shade_28 : decode cX5_shade 28 = .ok (.getfield 28, 3) := by decide +kernel
theorem dX5_shade_31 : decode cX5_shade 31 = .ok (.bipush 24, 2) := by decide +kernel
theorem dX5_shade_33 : decode cX5_shade 33 = .ok (.iload_n 2, 1) := by decide +kernel
theorem dX5_shade_34 : decode cX5_shade 34 = .ok (.imul, 1) := by decide +kernel
theorem dX5_shade_35 : decode cX5_shade 35 = .ok (.iload_n 1, 1) := by decide +kernel
theorem dX5_shade_36 : decode cX5_shade 36 = .ok (.iadd, 1) := by decide +kernel
theorem dX5_shade_37 : decode cX5_shade 37 = .ok (.iload_n 3, 1) := by decide +kernel
theorem dX5_shade_38 : decode cX5_shade 38 = .ok (.iastore, 1) := by decide +kernel
theorem dX5_shade_39 : decode cX5_shade 39 = .ok (.iconst 1, 1) := by decide +kernel
theorem dX5_shade_40 : decode cX5_shade 40 = .ok (.ireturn, 1) := by decide +kernel
set_option maxRecDepth 20000 in
theorem ggX5_isBox_X5_isPlace : GoodIn wsX5_isBox wsX5_isPlace := goodIn_r _ [7, 1, 2, 8, 9, 6, 10, 11, 12, 13, 14, 15, 16, 17, 18, 19, 20, 21, 22, 23, 24, 25, 26, 27, 28, 29] (by decide +kernel) (by decide +kernel)
set_option maxRecDepth 20000 in
theorem gX5_isBox_X5_isPlace : GoodIn wsX5_isBox (wsV RX5 58 RX5 yX5_isPlace wsX5_isPlace) := goodIn_app (goodIn_of _ (by decide +kernel)) ggX5_isBox_X5_isPlace
theorem dX5_isBox_0 : decode cX5_isBox 0 = .ok (.aload_n 0, 1) := by decide +kernel
theorem dX5_isBox_1 : decode cX5_isBox 1 = .ok (.iload_n 1, 1) := by decide +kernel
theorem dX5_isBox_2 : decode cX5_isBox 2 = .ok (.iload_n 2, 1) := by decide +kernel
theorem dX5_isBox_3 : decode cX5_isBox 3 = .ok (.invokevirtual 58, 3) := by decide +kernel
theorem dX5_isBox_6 : decode cX5_isBox 6 = .ok (.ifCond .eq 39, 3) := by decide +kernel
theorem dX5_isBox_9 : decode cX5_isBox 9 = .ok (.iload_n 3, 1) := by decide +kernel
theorem dX5_isBox_10 : decode cX5_isBox 10 = .ok (.iconst 1, 1) := by decide +kernel
theorem dX5_isBox_11 : decode cX5_isBox 11 = .ok (.if_icmp .lt 34, 3) := by decide +kernel
theorem dX5_isBox_14 : decode cX5_isBox 14 = .ok (.iload 4, 2) := by decide +kernel
theorem dX5_isBox_16 : decode cX5_isBox 16 = .ok (.iconst 1, 1) := by decide +kernel
theorem dX5_isBox_17 : decode cX5_isBox 17 = .ok (.if_icmp .lt 28, 3) := by decide +kernel
theorem dX5_isBox_20 : decode cX5_isBox 20 = .ok (.iload_n 3, 1) := by decide +kernel
theorem dX5_isBox_21 : decode cX5_isBox 21 = .ok (.aload_n 0, 1) := by decide +kernel
theorem dX5_isBox_22 : decode cX5_isBox 22 = .ok (.getfield 7, 3) := by decide +kernel
theorem dX5_isBox_25 : decode cX5_isBox 25 = .ok (.iload_n 1, 1) := by decide +kernel
theorem dX5_isBox_26 : decode cX5_isBox 26 = .ok (.isub, 1) := by decide +kernel
theorem dX5_isBox_27 : decode cX5_isBox 27 = .ok (.if_icmp .gt 18, 3) := by decide +kernel
theorem dX5_isBox_30 : decode cX5_isBox 30 = .ok (.iload 4, 2) := by decide +kernel
theorem dX5_isBox_32 : decode cX5_isBox 32 = .ok (.aload_n 0, 1) := by decide +kernel
theorem dX5_isBox_33 : decode cX5_isBox 33 = .ok (.getfield 13, 3) := by decide +kernel
theorem dX5_isBox_36 : decode cX5_isBox 36 = .ok (.iload_n 2, 1) := by decide +kernel
theorem dX5_isBox_37 : decode cX5_isBox 37 = .ok (.isub, 1) := by decide +kernel
theorem dX5_isBox_38 : decode cX5_isBox 38 = .ok (.if_icmp .gt 7, 3) := by decide +kernel
theorem dX5_isBox_41 : decode cX5_isBox 41 = .ok (.iconst 1, 1) := by decide +kernel
theorem dX5_isBox_42 : decode cX5_isBox 42 = .ok (.goto 4, 3) := by decide +kernel
theorem dX5_isBox_45 : decode cX5_isBox 45 = .ok (.iconst 0, 1) := by decide +kernel
theorem dX5_isBox_46 : decode cX5_isBox 46 = .ok (.ireturn, 1) := by decide +kernel
set_option maxRecDepth 20000 in
theorem ggX5_ramp_X5_isBox : GoodIn wsX5_ramp wsX5_isBox := goodIn_r _ [14, 15, 16, 17, 18, 19, 13, 20, 21, 22, 23, 24, 25, 26, 27, 28, 29, 30, 31, 32, 33, 34, 35, 36, 37, 38, 39, 40, 41, 42] (by decide +kernel) (by decide +kernel)
set_option maxRecDepth 20000 in
theorem gX5_ramp_X5_isBox : GoodIn wsX5_ramp (wsV RX5 62 RX5 yX5_isBox wsX5_isBox) := goodIn_app (goodIn_of _ (by decide +kernel)) ggX5_ramp_X5_isBox
set_option maxRecDepth 20000 in
theorem ggX5_ramp_X5_isIn : GoodIn wsX5_ramp wsX5_isIn := goodIn_r _ [23] (by decide +kernel) (by decide +kernel)
set_option maxRecDepth 20000 in
theorem gX5_ramp_X5_isIn : GoodIn wsX5_ramp (va_wsS RX5 54 yX5_isIn wsX5_isIn) := goodIn_app (goodIn_of _ (by decide +kernel)) ggX5_ramp_X5_isIn
theorem dX5_ramp_0 : decode cX5_ramp 0 = .ok (.aload_n 0, 1) := by decide +kernel
theorem dX5_ramp_1 : decode cX5_ramp 1 = .ok (.iconst 0, 1) := by decide +kernel
theorem dX5_ramp_2 : decode cX5_ramp 2 = .ok (.putfield 51, 3) := by decide +kernel
theorem dX5_ramp_5 : decode cX5_ramp 5 = .ok (.aload_n 0, 1) := by decide +kernel
theorem dX5_ramp_6 : decode cX5_ramp 6 = .ok (.iload_n 1, 1) := by decide +kernel
theorem dX5_ramp_7 : decode cX5_ramp 7 = .ok (.iload_n 2, 1) := by decide +kernel
theorem dX5_ramp_8 : decode cX5_ramp 8 = .ok (.iload_n 3, 1) := by decide +kernel
theorem dX5_ramp_9 : decode cX5_ramp 9 = .ok (.iload 4, 2) := by decide +kernel
theorem dX5_ramp_11 : decode cX5_ramp 11 = .ok (.invokevirtual 62, 3) := by decide +kernel
theorem dX5_ramp_14 : decode cX5_ramp 14 = .ok (.ifCond .eq 29, 3) := by decide +kernel
theorem dX5_ramp_17 : decode cX5_ramp 17 = .ok (.iload 5, 2) := by decide +kernel
theorem dX5_ramp_19 : decode cX5_ramp 19 = .ok (.iconst 0, 1) := by decide +kernel
theorem dX5_ramp_20 : decode cX5_ramp 20 = .ok (.sipush 255, 3) := by decide +kernel
theorem dX5_ramp_23 : decode cX5_ramp 23 = .ok (.invokestatic 54, 3) := by decide +kernel
theorem dX5_ramp_26 : decode cX5_ramp 26 = .ok (.ifCond .eq 17, 3) := by decide +kernel
theorem dX5_ramp_29 : decode cX5_ramp 29 = .ok (.iload 6, 2) := by decide +kernel
theorem dX5_ramp_31 : decode cX5_ramp 31 = .ok (.sipush (-255), 3) := by decide +kernel
theorem dX5_ramp_34 : decode cX5_ramp 34 = .ok (.sipush 255, 3) := by decide +kernel
theorem dX5_ramp_37 : decode cX5_ramp 37 = .ok (.invokestatic 54, 3) := by decide +kernel
theorem dX5_ramp_40 : decode cX5_ramp 40 = .ok (.ifCond .ne 5, 3) := by decide +kernel
theorem dX5_ramp_43 : decode cX5_ramp 43 = .ok (.iconst 0, 1) := by decide +kernel
theorem dX5_ramp_44 : decode cX5_ramp 44 = .ok (.ireturn, 1) := by decide +kernel
theorem dX5_ramp_45 : decode cX5_ramp 45 = .ok (.iconst 0, 1) := by decide +kernel
theorem dX5_ramp_46 : decode cX5_ramp 46 = .ok (.istore 7, 2) := by decide +kernel
theorem dX5_ramp_48 : decode cX5_ramp 48 = .ok (.iload 7, 2) := by decide +kernel
theorem dX5_ramp_50 : decode cX5_ramp 50 = .ok (.iload_n 3, 1) := by decide +kernel
theorem dX5_ramp_51 : decode cX5_ramp 51 = .ok (.if_icmp .ge 60, 3) := by decide +kernel
theorem dX5_ramp_54 : decode cX5_ramp 54 = .ok (.iconst 0, 1) := by decide +kernel
theorem dX5_ramp_55 : decode cX5_ramp 55 = .ok (.istore 8, 2) := by decide +kernel
theorem dX5_ramp_57 : decode cX5_ramp 57 = .ok (.iload 8, 2) := by decide +kernel
theorem dX5_ramp_59 : decode cX5_ramp 59 = .ok (.iload 4, 2) := by decide +kernel
theorem dX5_ramp_61 : decode cX5_ramp 61 = .ok (.if_icmp .ge 44, 3) := by decide +kernel
theorem dX5_ramp_64 : decode cX5_ramp 64 = .ok (.aload_n 0, 1) := by decide +kernel
theorem dX5_ramp_65 : decode cX5_ramp 65 = .ok (.getfield 28, 3) := by decide +kernel
theorem dX5_ramp_68 : decode cX5_ramp 68 = .ok (.bipush 24, 2) := by decide +kernel
theorem dX5_ramp_70 : decode cX5_ramp 70 = .ok (.iload_n 2, 1) := by decide +kernel
theorem dX5_ramp_71 : decode cX5_ramp 71 = .ok (.iload 8, 2) := by decide +kernel
theorem dX5_ramp_73 : decode cX5_ramp 73 = .ok (.iadd, 1) := by decide +kernel
theorem dX5_ramp_74 : decode cX5_ramp 74 = .ok (.imul, 1) := by decide +kernel
theorem dX5_ramp_75 : decode cX5_ramp 75 = .ok (.iload_n 1, 1) := by decide +kernel
theorem dX5_ramp_76 : decode cX5_ramp 76 = .ok (.iadd, 1) := by decide +kernel
theorem dX5_ramp_77 : decode cX5_ramp 77 = .ok (.iload 7, 2) := by decide +kernel
theorem dX5_ramp_79 : decode cX5_ramp 79 = .ok (.iadd, 1) := by decide +kernel
theorem dX5_ramp_80 : decode cX5_ramp 80 = .ok (.iconst 0, 1) := by decide +kernel
theorem dX5_ramp_81 : decode cX5_ramp 81 = .ok (.sipush 255, 3) := by decide +kernel
theorem dX5_ramp_84 : decode cX5_ramp 84 = .ok (.iload 5, 2) := by decide +kernel
theorem dX5_ramp_86 : decode cX5_ramp 86 = .ok (.iload 6, 2) := by decide +kernel
theorem dX5_ramp_88 : decode cX5_ramp 88 = .ok (.iload 7, 2) := by decide +kernel
theorem dX5_ramp_90 : decode cX5_ramp 90 = .ok (.imul, 1) := by decide +kernel
theorem dX5_ramp_91 : decode cX5_ramp 91 = .ok (.iadd, 1) := by decide +kernel
theorem dX5_ramp_92 : decode cX5_ramp 92 = .ok (.invokestatic 66, 3) := by decide +kernel
theorem dX5_ramp_95 : decode cX5_ramp 95 = .ok (.invokestatic 72, 3) := by decide +kernel
theorem dX5_ramp_98 : decode cX5_ramp 98 = .ok (.iastore, 1) := by decide +kernel
theorem dX5_ramp_99 : decode cX5_ramp 99 = .ok (.iinc 8 1, 3) := by decide +kernel
theorem dX5_ramp_102 : decode cX5_ramp 102 = .ok (.goto (-45), 3) := by decide +kernel
theorem dX5_ramp_105 : decode cX5_ramp 105 = .ok (.iinc 7 1, 3) := by decide +kernel
theorem dX5_ramp_108 : decode cX5_ramp 108 = .ok (.goto (-60), 3) := by decide +kernel
theorem dX5_ramp_111 : decode cX5_ramp 111 = .ok (.iconst 1, 1) := by decide +kernel
theorem dX5_ramp_112 : decode cX5_ramp 112 = .ok (.ireturn, 1) := by decide +kernel
set_option maxRecDepth 20000 in
theorem ggX5_line_X5_isPlace : GoodIn wsX5_line wsX5_isPlace := goodIn_r _ [7, 8, 9, 10, 11, 6, 12, 13, 14, 15, 16, 17, 18, 19, 20, 21, 22, 23, 24, 25, 26, 27, 28, 29, 30, 31] (by decide +kernel) (by decide +kernel)
set_option maxRecDepth 20000 in
theorem gX5_line_X5_isPlace : GoodIn wsX5_line (wsV RX5 58 RX5 yX5_isPlace wsX5_isPlace) := goodIn_app (goodIn_of _ (by decide +kernel)) ggX5_line_X5_isPlace
theorem dX5_line_0 : decode cX5_line 0 = .ok (.aload_n 0, 1) := by decide +kernel
theorem dX5_line_1 : decode cX5_line 1 = .ok (.iconst 0, 1) := by decide +kernel
theorem dX5_line_2 : decode cX5_line 2 = .ok (.putfield 51, 3) := by decide +kernel
theorem dX5_line_5 : decode cX5_line 5 = .ok (.aload_n 0, 1) := by decide +kernel
theorem dX5_line_6 : decode cX5_line 6 = .ok (.iload_n 1, 1) := by decide +kernel
theorem dX5_line_7 : decode cX5_line 7 = .ok (.iload_n 2, 1) := by decide +kernel
theorem dX5_line_8 : decode cX5_line 8 = .ok (.invokevirtual 58, 3) := by decide +kernel
theorem dX5_line_11 : decode cX5_line 11 = .ok (.ifCond .eq 18, 3) := by decide +kernel
theorem dX5_line_14 : decode cX5_line 14 = .ok (.aload_n 0, 1) := by decide +kernel
theorem dX5_line_15 : decode cX5_line 15 = .ok (.getfield 38, 3) := by decide +kernel
theorem dX5_line_18 : decode cX5_line 18 = .ok (.bipush 24, 2) := by decide +kernel
theorem dX5_line_20 : decode cX5_line 20 = .ok (.iload_n 2, 1) := by decide +kernel
theorem dX5_line_21 : decode cX5_line 21 = .ok (.imul, 1) := by decide +kernel
theorem dX5_line_22 : decode cX5_line 22 = .ok (.iload_n 1, 1) := by decide +kernel
theorem dX5_line_23 : decode cX5_line 23 = .ok (.iadd, 1) := by decide +kernel
theorem dX5_line_24 : decode cX5_line 24 = .ok (.baload, 1) := by decide +kernel
theorem dX5_line_25 : decode cX5_line 25 = .ok (.iload_n 3, 1) := by decide +kernel
theorem dX5_line_26 : decode cX5_line 26 = .ok (.if_icmp .ne 5, 3) := by decide +kernel
theorem dX5_line_29 : decode cX5_line 29 = .ok (.iconst 0, 1) := by decide +kernel
theorem dX5_line_30 : decode cX5_line 30 = .ok (.ireturn, 1) := by decide +kernel
theorem dX5_line_31 : decode cX5_line 31 = .ok (.aload_n 0, 1) := by decide +kernel
theorem dX5_line_32 : decode cX5_line 32 = .ok (.getfield 38, 3) := by decide +kernel
theorem dX5_line_35 : decode cX5_line 35 = .ok (.bipush 24, 2) := by decide +kernel
theorem dX5_line_37 : decode cX5_line 37 = .ok (.iload_n 2, 1) := by decide +kernel
theorem dX5_line_38 : decode cX5_line 38 = .ok (.imul, 1) := by decide +kernel
theorem dX5_line_39 : decode cX5_line 39 = .ok (.iload_n 1, 1) := by decide +kernel
theorem dX5_line_40 : decode cX5_line 40 = .ok (.iadd, 1) := by decide +kernel
theorem dX5_line_41 : decode cX5_line 41 = .ok (.iload_n 3, 1) := by decide +kernel
theorem dX5_line_42 : decode cX5_line 42 = .ok (.bastore, 1) := by decide +kernel
theorem dX5_line_43 : decode cX5_line 43 = .ok (.iconst 1, 1) := by decide +kernel
theorem dX5_line_44 : decode cX5_line 44 = .ok (.ireturn, 1) := by decide +kernel
set_option maxRecDepth 20000 in
theorem ggX5_grey_X5_isPlace : GoodIn wsX5_grey wsX5_isPlace := goodIn_r _ [7, 8, 9, 10, 11, 6, 12, 13, 14, 15, 16, 17, 18, 19, 20, 21, 22, 23, 24, 25, 26, 27, 28, 29, 30, 31] (by decide +kernel) (by decide +kernel)
set_option maxRecDepth 20000 in
theorem gX5_grey_X5_isPlace : GoodIn wsX5_grey (wsV RX5 58 RX5 yX5_isPlace wsX5_isPlace) := goodIn_app (goodIn_of _ (by decide +kernel)) ggX5_grey_X5_isPlace
theorem dX5_grey_0 : decode cX5_grey 0 = .ok (.aload_n 0, 1) := by decide +kernel
theorem dX5_grey_1 : decode cX5_grey 1 = .ok (.iconst 0, 1) := by decide +kernel
theorem dX5_grey_2 : decode cX5_grey 2 = .ok (.putfield 51, 3) := by decide +kernel
theorem dX5_grey_5 : decode cX5_grey 5 = .ok (.aload_n 0, 1) := by decide +kernel
theorem dX5_grey_6 : decode cX5_grey 6 = .ok (.iload_n 1, 1) := by decide +kernel
theorem dX5_grey_7 : decode cX5_grey 7 = .ok (.iload_n 2, 1) := by decide +kernel
theorem dX5_grey_8 : decode cX5_grey 8 = .ok (.invokevirtual 58, 3) := by decide +kernel
theorem dX5_grey_11 : decode cX5_grey 11 = .ok (.ifCond .eq 17, 3) := by decide +kernel
theorem dX5_grey_14 : decode cX5_grey 14 = .ok (.aload_n 0, 1) := by decide +kernel
theorem dX5_grey_15 : decode cX5_grey 15 = .ok (.getfield 28, 3) := by decide +kernel
theorem dX5_grey_18 : decode cX5_grey 18 = .ok (.bipush 24, 2) := by decide +kernel
theorem dX5_grey_20 : decode cX5_grey 20 = .ok (.iload_n 2, 1) := by decide +kernel
theorem dX5_grey_21 : decode cX5_grey 21 = .ok (.imul, 1) := by decide +kernel
theorem dX5_grey_22 : decode cX5_grey 22 = .ok (.iload_n 1, 1) := by decide +kernel
theorem dX5_grey_23 : decode cX5_grey 23 = .ok (.iadd, 1) := by decide +kernel
theorem dX5_grey_24 : decode cX5_grey 24 = .ok (.iaload, 1) := by decide +kernel
theorem dX5_grey_25 : decode cX5_grey 25 = .ok (.goto 4, 3) := by decide +kernel
theorem dX5_grey_28 : decode cX5_grey 28 = .ok (.iconst (-1), 1) := by decide +kernel
theorem dX5_grey_29 : decode cX5_grey 29 = .ok (.ireturn, 1) := by decide +kernel
set_option maxRecDepth 20000 in
theorem ggX5_table_X5_isIn : GoodIn wsX5_table wsX5_isIn := goodIn_r _ [7] (by decide +kernel) (by decide +kernel)
set_option maxRecDepth 20000 in
theorem gX5_table_X5_isIn : GoodIn wsX5_table (va_wsS RX5 54 yX5_isIn wsX5_isIn) := goodIn_app (goodIn_of _ (by decide +kernel)) ggX5_table_X5_isIn
theorem dX5_table_0 : decode cX5_table 0 = .ok (.aload_n 0, 1) := by decide +kernel
theorem dX5_table_1 : decode cX5_table 1 = .ok (.iconst 0, 1) := by decide +kernel
theorem dX5_table_2 : decode cX5_table 2 = .ok (.putfield 51, 3) := by decide +kernel
theorem dX5_table_5 : decode cX5_table 5 = .ok (.iload_n 1, 1) := by decide +kernel
theorem dX5_table_6 : decode cX5_table 6 = .ok (.iconst 1, 1) := by decide +kernel
theorem dX5_table_7 : decode cX5_table 7 = .ok (.bipush 8, 2) := by decide +kernel
theorem dX5_table_9 : decode cX5_table 9 = .ok (.invokestatic 54, 3) := by decide +kernel
theorem dX5_table_12 : decode cX5_table 12 = .ok (.ifCond .ne 5, 3) := by decide +kernel
theorem dX5_table_15 : decode cX5_table 15 = .ok (.iconst 0, 1) := by decide +kernel
theorem dX5_table_16 : decode cX5_table 16 = .ok (.ireturn, 1) := by decide +kernel
theorem dX5_table_17 : decode cX5_table 17 = .ok (.aload_n 0, 1) := by decide +kernel
theorem dX5_table_18 : decode cX5_table 18 = .ok (.iload_n 1, 1) := by decide +kernel
theorem dX5_table_19 : decode cX5_table 19 = .ok (.putfield 16, 3) := by decide +kernel
theorem dX5_table_22 : decode cX5_table 22 = .ok (.iconst 0, 1) := by decide +kernel
theorem dX5_table_23 : decode cX5_table 23 = .ok (.istore_n 2, 1) := by decide +kernel
theorem dX5_table_24 : decode cX5_table 24 = .ok (.iload_n 2, 1) := by decide +kernel
theorem dX5_table_25 : decode cX5_table 25 = .ok (.aload_n 0, 1) := by decide +kernel
theorem dX5_table_26 : decode cX5_table 26 = .ok (.getfield 16, 3) := by decide +kernel
theorem dX5_table_29 : decode cX5_table 29 = .ok (.aload_n 0, 1) := by decide +kernel
theorem dX5_table_30 : decode cX5_table 30 = .ok (.getfield 16, 3) := by decide +kernel
theorem dX5_table_33 : decode cX5_table 33 = .ok (.imul, 1) := by decide +kernel
theorem dX5_table_34 : decode cX5_table 34 = .ok (.if_icmp .ge 16, 3) := by decide +kernel
theorem dX5_table_37 : decode cX5_table 37 = .ok (.aload_n 0, 1) := by decide +kernel
theorem dX5_table_38 : decode cX5_table 38 = .ok (.getfield 32, 3) := by decide +kernel
theorem dX5_table_41 : decode cX5_table 41 = .ok (.iload_n 2, 1) := by decide +kernel
theorem dX5_table_42 : decode cX5_table 42 = .ok (.iload_n 2, 1) := by decide +kernel
theorem dX5_table_43 : decode cX5_table 43 = .ok (.iastore, 1) := by decide +kernel
theorem dX5_table_44 : decode cX5_table 44 = .ok (.iinc 2 1, 3) := by decide +kernel
theorem dX5_table_47 : decode cX5_table 47 = .ok (.goto (-23), 3) := by decide +kernel
theorem dX5_table_50 : decode cX5_table 50 = .ok (.iconst 1, 1) := by decide +kernel
theorem dX5_table_51 : decode cX5_table 51 = .ok (.ireturn, 1) := by decide +kernel
set_option maxRecDepth 20000 in
theorem ggX5_isPair_X5_isIn : GoodIn wsX5_isPair wsX5_isIn := goodIn_r _ [5] (by decide +kernel) (by decide +kernel)
set_option maxRecDepth 20000 in
theorem gX5_isPair_X5_isIn : GoodIn wsX5_isPair (va_wsS RX5 54 yX5_isIn wsX5_isIn) := goodIn_app (goodIn_of _ (by decide +kernel)) ggX5_isPair_X5_isIn
theorem dX5_isPair_0 : decode cX5_isPair 0 = .ok (.iload_n 1, 1) := by decide +kernel
theorem dX5_isPair_1 : decode cX5_isPair 1 = .ok (.iconst 0, 1) := by decide +kernel
theorem dX5_isPair_2 : decode cX5_isPair 2 = .ok (.aload_n 0, 1) := by decide +kernel
theorem dX5_isPair_3 : decode cX5_isPair 3 = .ok (.getfield 16, 3) := by decide +kernel
theorem dX5_isPair_6 : decode cX5_isPair 6 = .ok (.aload_n 0, 1) := by decide +kernel
theorem dX5_isPair_7 : decode cX5_isPair 7 = .ok (.getfield 16, 3) := by decide +kernel
theorem dX5_isPair_10 : decode cX5_isPair 10 = .ok (.imul, 1) := by decide +kernel
theorem dX5_isPair_11 : decode cX5_isPair 11 = .ok (.iconst 1, 1) := by decide +kernel
theorem dX5_isPair_12 : decode cX5_isPair 12 = .ok (.isub, 1) := by decide +kernel
theorem dX5_isPair_13 : decode cX5_isPair 13 = .ok (.invokestatic 54, 3) := by decide +kernel
theorem dX5_isPair_16 : decode cX5_isPair 16 = .ok (.ifCond .eq 31, 3) := by decide +kernel
theorem dX5_isPair_19 : decode cX5_isPair 19 = .ok (.iload_n 2, 1) := by decide +kernel
theorem dX5_isPair_20 : decode cX5_isPair 20 = .ok (.iconst 0, 1) := by decide +kernel
theorem dX5_isPair_21 : decode cX5_isPair 21 = .ok (.aload_n 0, 1) := by decide +kernel
theorem dX5_isPair_22 : decode cX5_isPair 22 = .ok (.getfield 16, 3) := by decide +kernel
theorem dX5_isPair_25 : decode cX5_isPair 25 = .ok (.aload_n 0, 1) := by decide +kernel
theorem dX5_isPair_26 : decode cX5_isPair 26 = .ok (.getfield 16, 3) := by decide +kernel
theorem dX5_isPair_29 : decode cX5_isPair 29 = .ok (.imul, 1) := by decide +kernel
theorem dX5_isPair_30 : decode cX5_isPair 30 = .ok (.iconst 1, 1) := by decide +kernel
theorem dX5_isPair_31 : decode cX5_isPair 31 = .ok (.isub, 1) := by decide +kernel
theorem dX5_isPair_32 : decode cX5_isPair 32 = .ok (.invokestatic 54, 3) := by decide +kernel
theorem dX5_isPair_35 : decode cX5_isPair 35 = .ok (.ifCond .eq 12, 3) := by decide +kernel
