theorem dX3_renew_94 : decode cX3_renew 94 = .ok (.iadd, 1) := by decide +kernel
theorem dX3_renew_95 : decode cX3_renew 95 = .ok (.iload_n 3, 1) := by decide +kernel
theorem dX3_renew_96 : decode cX3_renew 96 = .ok (.iadd, 1) := by decide +kernel
theorem dX3_renew_97 : decode cX3_renew 97 = .ok (.iload_n 3, 1) := by decide +kernel
theorem dX3_renew_98 : decode cX3_renew 98 = .ok (.invokestatic 33, 3) := by decide +kernel
theorem dX3_renew_101 : decode cX3_renew 101 = .ok (.iload_n 2, 1) := by decide +kernel
theorem dX3_renew_102 : decode cX3_renew 102 = .ok (.invokestatic 33, 3) := by decide +kernel
theorem dX3_renew_105 : decode cX3_renew 105 = .ok (.invokevirtual 39, 3) := by decide +kernel
theorem dX3_renew_108 : decode cX3_renew 108 = .ok (.iinc 3 1, 3) := by decide +kernel
theorem dX3_renew_111 : decode cX3_renew 111 = .ok (.goto (-29), 3) := by decide +kernel
theorem dX3_renew_114 : decode cX3_renew 114 = .ok (.iinc 2 1, 3) := by decide +kernel
theorem dX3_renew_117 : decode cX3_renew 117 = .ok (.goto (-44), 3) := by decide +kernel
theorem dX3_renew_120 : decode cX3_renew 120 = .ok (.return_, 1) := by decide +kernel
theorem dX3_setNearness_0 : decode cX3_setNearness 0 = .ok (.iload_n 2, 1) := by decide +kernel
theorem dX3_setNearness_1 : decode cX3_setNearness 1 = .ok (.aload_n 0, 1) := by decide +kernel
theorem dX3_setNearness_2 : decode cX3_setNearness 2 = .ok (.getfield 25, 3) := by decide +kernel
theorem dX3_setNearness_5 : decode cX3_setNearness 5 = .ok (.iload_n 2, 1) := by decide +kernel
theorem dX3_setNearness_6 : decode cX3_setNearness 6 = .ok (.isub, 1) := by decide +kernel
theorem dX3_setNearness_7 : decode cX3_setNearness 7 = .ok (.invokestatic 43, 3) := by decide +kernel
theorem dX3_setNearness_10 : decode cX3_setNearness 10 = .ok (.istore 4, 2) := by decide +kernel
theorem dX3_setNearness_12 : decode cX3_setNearness 12 = .ok (.iload_n 3, 1) := by decide +kernel
theorem dX3_setNearness_13 : decode cX3_setNearness 13 = .ok (.aload_n 0, 1) := by decide +kernel
theorem dX3_setNearness_14 : decode cX3_setNearness 14 = .ok (.getfield 25, 3) := by decide +kernel
theorem dX3_setNearness_17 : decode cX3_setNearness 17 = .ok (.iload_n 3, 1) := by decide +kernel
theorem dX3_setNearness_18 : decode cX3_setNearness 18 = .ok (.isub, 1) := by decide +kernel
theorem dX3_setNearness_19 : decode cX3_setNearness 19 = .ok (.invokestatic 43, 3) := by decide +kernel
theorem dX3_setNearness_22 : decode cX3_setNearness 22 = .ok (.istore 5, 2) := by decide +kernel
theorem dX3_setNearness_24 : decode cX3_setNearness 24 = .ok (.iload 4, 2) := by decide +kernel
theorem dX3_setNearness_26 : decode cX3_setNearness 26 = .ok (.iload 4, 2) := by decide +kernel
theorem dX3_setNearness_28 : decode cX3_setNearness 28 = .ok (.imul, 1) := by decide +kernel
theorem dX3_setNearness_29 : decode cX3_setNearness 29 = .ok (.iload 5, 2) := by decide +kernel
theorem dX3_setNearness_31 : decode cX3_setNearness 31 = .ok (.iload 5, 2) := by decide +kernel
theorem dX3_setNearness_33 : decode cX3_setNearness 33 = .ok (.imul, 1) := by decide +kernel
theorem dX3_setNearness_34 : decode cX3_setNearness 34 = .ok (.iadd, 1) := by decide +kernel
theorem dX3_setNearness_35 : decode cX3_setNearness 35 = .ok (.istore 6, 2) := by decide +kernel
theorem dX3_setNearness_37 : decode cX3_setNearness 37 = .ok (.iload_n 1, 1) := by decide +kernel
theorem dX3_setNearness_38 : decode cX3_setNearness 38 = .ok (.ifCond .lt 34, 3) := by decide +kernel
theorem dX3_setNearness_41 : decode cX3_setNearness 41 = .ok (.iload_n 1, 1) := by decide +kernel
theorem dX3_setNearness_42 : decode cX3_setNearness 42 = .ok (.aload_n 0, 1) := by decide +kernel
theorem dX3_setNearness_43 : decode cX3_setNearness 43 = .ok (.getfield 18, 3) := by decide +kernel
theorem dX3_setNearness_46 : decode cX3_setNearness 46 = .ok (.arraylength, 1) := by decide +kernel
theorem dX3_setNearness_47 : decode cX3_setNearness 47 = .ok (.if_icmp .ge 25, 3) := by decide +kernel
theorem dX3_setNearness_50 : decode cX3_setNearness 50 = .ok (.aload_n 0, 1) := by decide +kernel
theorem dX3_setNearness_51 : decode cX3_setNearness 51 = .ok (.getfield 18, 3) := by decide +kernel
theorem dX3_setNearness_54 : decode cX3_setNearness 54 = .ok (.iload_n 1, 1) := by decide +kernel
theorem dX3_setNearness_55 : decode cX3_setNearness 55 = .ok (.iload 6, 2) := by decide +kernel
theorem dX3_setNearness_57 : decode cX3_setNearness 57 = .ok (.iconst 1, 1) := by decide +kernel
theorem dX3_setNearness_58 : decode cX3_setNearness 58 = .ok (.if_icmp .ge 7, 3) := by decide +kernel
theorem dX3_setNearness_61 : decode cX3_setNearness 61 = .ok (.iconst 0, 1) := by decide +kernel
theorem dX3_setNearness_62 : decode cX3_setNearness 62 = .ok (.goto 9, 3) := by decide +kernel
theorem dX3_setNearness_65 : decode cX3_setNearness 65 = .ok (.sipush 1000, 3) := by decide +kernel
theorem dX3_setNearness_68 : decode cX3_setNearness 68 = .ok (.iload 6, 2) := by decide +kernel
theorem dX3_setNearness_70 : decode cX3_setNearness 70 = .ok (.idiv, 1) := by decide +kernel
theorem dX3_setNearness_71 : decode cX3_setNearness 71 = .ok (.iastore, 1) := by decide +kernel
theorem dX3_setNearness_72 : decode cX3_setNearness 72 = .ok (.return_, 1) := by decide +kernel
theorem dX3_nearnessAt_0 : decode cX3_nearnessAt 0 = .ok (.iload_n 1, 1) := by decide +kernel
theorem dX3_nearnessAt_1 : decode cX3_nearnessAt 1 = .ok (.ifCond .lt 21, 3) := by decide +kernel
theorem dX3_nearnessAt_4 : decode cX3_nearnessAt 4 = .ok (.iload_n 1, 1) := by decide +kernel
theorem dX3_nearnessAt_5 : decode cX3_nearnessAt 5 = .ok (.aload_n 0, 1) := by decide +kernel
theorem dX3_nearnessAt_6 : decode cX3_nearnessAt 6 = .ok (.getfield 18, 3) := by decide +kernel
theorem dX3_nearnessAt_9 : decode cX3_nearnessAt 9 = .ok (.arraylength, 1) := by decide +kernel
theorem dX3_nearnessAt_10 : decode cX3_nearnessAt 10 = .ok (.if_icmp .ge 12, 3) := by decide +kernel
theorem dX3_nearnessAt_13 : decode cX3_nearnessAt 13 = .ok (.aload_n 0, 1) := by decide +kernel
theorem dX3_nearnessAt_14 : decode cX3_nearnessAt 14 = .ok (.getfield 18, 3) := by decide +kernel
theorem dX3_nearnessAt_17 : decode cX3_nearnessAt 17 = .ok (.iload_n 1, 1) := by decide +kernel
theorem dX3_nearnessAt_18 : decode cX3_nearnessAt 18 = .ok (.iaload, 1) := by decide +kernel
theorem dX3_nearnessAt_19 : decode cX3_nearnessAt 19 = .ok (.goto 4, 3) := by decide +kernel
theorem dX3_nearnessAt_22 : decode cX3_nearnessAt 22 = .ok (.iconst 0, 1) := by decide +kernel
theorem dX3_nearnessAt_23 : decode cX3_nearnessAt 23 = .ok (.ireturn, 1) := by decide +kernel
theorem dX3_side_0 : decode cX3_side 0 = .ok (.aload_n 0, 1) := by decide +kernel
theorem dX3_side_1 : decode cX3_side 1 = .ok (.getfield 25, 3) := by decide +kernel
theorem dX3_side_4 : decode cX3_side 4 = .ok (.ireturn, 1) := by decide +kernel
theorem dX3_places_0 : decode cX3_places 0 = .ok (.aload_n 0, 1) := by decide +kernel
theorem dX3_places_1 : decode cX3_places 1 = .ok (.getfield 25, 3) := by decide +kernel
theorem dX3_places_4 : decode cX3_places 4 = .ok (.aload_n 0, 1) := by decide +kernel
theorem dX3_places_5 : decode cX3_places 5 = .ok (.getfield 25, 3) := by decide +kernel
theorem dX3_places_8 : decode cX3_places 8 = .ok (.imul, 1) := by decide +kernel
theorem dX3_places_9 : decode cX3_places 9 = .ok (.aload_n 0, 1) := by decide +kernel
theorem dX3_places_10 : decode cX3_places 10 = .ok (.getfield 11, 3) := by decide +kernel
theorem dX3_places_13 : decode cX3_places 13 = .ok (.arraylength, 1) := by decide +kernel
theorem dX3_places_14 : decode cX3_places 14 = .ok (.aload_n 0, 1) := by decide +kernel
theorem dX3_places_15 : decode cX3_places 15 = .ok (.getfield 15, 3) := by decide +kernel
theorem dX3_places_18 : decode cX3_places 18 = .ok (.arraylength, 1) := by decide +kernel
theorem dX3_places_19 : decode cX3_places 19 = .ok (.invokestatic 43, 3) := by decide +kernel
theorem dX3_places_22 : decode cX3_places 22 = .ok (.invokestatic 43, 3) := by decide +kernel
theorem dX3_places_25 : decode cX3_places 25 = .ok (.ireturn, 1) := by decide +kernel
set_option maxRecDepth 20000 in
theorem ggX3_has_X3_places : GoodIn wsX3_has wsX3_places := goodIn_r _ [5, 6, 7, 8, 9, 10, 11, 12, 13, 14, 15, 16] (by decide +kernel) (by decide +kernel)
set_option maxRecDepth 20000 in
theorem gX3_has_X3_places : GoodIn wsX3_has (wsV RX3 47 RX3 yX3_places wsX3_places) := goodIn_app (goodIn_of _ (by decide +kernel)) ggX3_has_X3_places
theorem dX3_has_0 : decode cX3_has 0 = .ok (.iload_n 1, 1) := by decide +kernel
theorem dX3_has_1 : decode cX3_has 1 = .ok (.ifCond .lt 15, 3) := by decide +kernel
theorem dX3_has_4 : decode cX3_has 4 = .ok (.iload_n 1, 1) := by decide +kernel
theorem dX3_has_5 : decode cX3_has 5 = .ok (.aload_n 0, 1) := by decide +kernel
theorem dX3_has_6 : decode cX3_has 6 = .ok (.invokevirtual 47, 3) := by decide +kernel
theorem dX3_has_9 : decode cX3_has 9 = .ok (.if_icmp .ge 7, 3) := by decide +kernel
theorem dX3_has_12 : decode cX3_has 12 = .ok (.iconst 1, 1) := by decide +kernel
theorem dX3_has_13 : decode cX3_has 13 = .ok (.goto 4, 3) := by decide +kernel
theorem dX3_has_16 : decode cX3_has 16 = .ok (.iconst 0, 1) := by decide +kernel
theorem dX3_has_17 : decode cX3_has 17 = .ok (.ireturn, 1) := by decide +kernel
set_option maxRecDepth 20000 in
theorem ggX3_hasPair_X3_has : GoodIn wsX3_hasPair wsX3_has := goodIn_r _ [5, 6, 7, 8, 4, 9, 10, 11, 12, 13, 14, 15, 16, 17, 18, 19, 20] (by decide +kernel) (by decide +kernel)
set_option maxRecDepth 20000 in
theorem gX3_hasPair_X3_has : GoodIn wsX3_hasPair (wsV RX3 29 RX3 yX3_has wsX3_has) := goodIn_app (goodIn_of _ (by decide +kernel)) ggX3_hasPair_X3_has
theorem dX3_hasPair_0 : decode cX3_hasPair 0 = .ok (.aload_n 0, 1) := by decide +kernel
theorem dX3_hasPair_1 : decode cX3_hasPair 1 = .ok (.iload_n 1, 1) := by decide +kernel
theorem dX3_hasPair_2 : decode cX3_hasPair 2 = .ok (.invokevirtual 29, 3) := by decide +kernel
theorem dX3_hasPair_5 : decode cX3_hasPair 5 = .ok (.ifCond .eq 20, 3) := by decide +kernel
theorem dX3_hasPair_8 : decode cX3_hasPair 8 = .ok (.aload_n 0, 1) := by decide +kernel
theorem dX3_hasPair_9 : decode cX3_hasPair 9 = .ok (.iload_n 2, 1) := by decide +kernel
theorem dX3_hasPair_10 : decode cX3_hasPair 10 = .ok (.invokevirtual 29, 3) := by decide +kernel
theorem dX3_hasPair_13 : decode cX3_hasPair 13 = .ok (.ifCond .eq 12, 3) := by decide +kernel
theorem dX3_hasPair_16 : decode cX3_hasPair 16 = .ok (.iload_n 1, 1) := by decide +kernel
theorem dX3_hasPair_17 : decode cX3_hasPair 17 = .ok (.iload_n 2, 1) := by decide +kernel
theorem dX3_hasPair_18 : decode cX3_hasPair 18 = .ok (.if_icmp .eq 7, 3) := by decide +kernel
theorem dX3_hasPair_21 : decode cX3_hasPair 21 = .ok (.iconst 1, 1) := by decide +kernel
theorem dX3_hasPair_22 : decode cX3_hasPair 22 = .ok (.goto 4, 3) := by decide +kernel
theorem dX3_hasPair_25 : decode cX3_hasPair 25 = .ok (.iconst 0, 1) := by decide +kernel
theorem dX3_hasPair_26 : decode cX3_hasPair 26 = .ok (.ireturn, 1) := by decide +kernel
set_option maxRecDepth 20000 in
theorem ggX3_numberAt_X3_has : GoodIn wsX3_numberAt wsX3_has := goodIn_r _ [6, 7, 8, 9, 5, 10, 11, 1, 12, 13, 14, 15, 16, 17, 18, 19, 20] (by decide +kernel) (by decide +kernel)
set_option maxRecDepth 20000 in
theorem gX3_numberAt_X3_has : GoodIn wsX3_numberAt (wsV RX3 29 RX3 yX3_has wsX3_has) := goodIn_app (goodIn_of _ (by decide +kernel)) ggX3_numberAt_X3_has
theorem dX3_numberAt_0 : decode cX3_numberAt 0 = .ok (.aload_n 0, 1) := by decide +kernel
theorem dX3_numberAt_1 : decode cX3_numberAt 1 = .ok (.iload_n 1, 1) := by decide +kernel
theorem dX3_numberAt_2 : decode cX3_numberAt 2 = .ok (.invokevirtual 29, 3) := by decide +kernel
theorem dX3_numberAt_5 : decode cX3_numberAt 5 = .ok (.ifCond .eq 12, 3) := by decide +kernel
theorem dX3_numberAt_8 : decode cX3_numberAt 8 = .ok (.aload_n 0, 1) := by decide +kernel
theorem dX3_numberAt_9 : decode cX3_numberAt 9 = .ok (.getfield 11, 3) := by decide +kernel
theorem dX3_numberAt_12 : decode cX3_numberAt 12 = .ok (.iload_n 1, 1) := by decide +kernel
theorem dX3_numberAt_13 : decode cX3_numberAt 13 = .ok (.iaload, 1) := by decide +kernel
theorem dX3_numberAt_14 : decode cX3_numberAt 14 = .ok (.goto 4, 3) := by decide +kernel
theorem dX3_numberAt_17 : decode cX3_numberAt 17 = .ok (.iconst 0, 1) := by decide +kernel
theorem dX3_numberAt_18 : decode cX3_numberAt 18 = .ok (.ireturn, 1) := by decide +kernel
set_option maxRecDepth 20000 in
theorem ggX3_swap_X3_hasPair : GoodIn wsX3_swap wsX3_hasPair := goodIn_r _ [6, 7, 8, 9, 5, 10, 11, 12, 13, 14, 15, 1, 16, 17, 18, 19, 20, 21, 22, 23, 24] (by decide +kernel) (by decide +kernel)
set_option maxRecDepth 20000 in
theorem gX3_swap_X3_hasPair : GoodIn wsX3_swap (wsV RX3 51 RX3 yX3_hasPair wsX3_hasPair) := goodIn_app (goodIn_of _ (by decide +kernel)) ggX3_swap_X3_hasPair
theorem dX3_swap_0 : decode cX3_swap 0 = .ok (.aload_n 0, 1) := by decide +kernel
theorem dX3_swap_1 : decode cX3_swap 1 = .ok (.iload_n 1, 1) := by decide +kernel
theorem dX3_swap_2 : decode cX3_swap 2 = .ok (.iload_n 2, 1) := by decide +kernel
theorem dX3_swap_3 : decode cX3_swap 3 = .ok (.invokevirtual 51, 3) := by decide +kernel
theorem dX3_swap_6 : decode cX3_swap 6 = .ok (.ifCond .eq 29, 3) := by decide +kernel
theorem dX3_swap_9 : decode cX3_swap 9 = .ok (.aload_n 0, 1) := by decide +kernel
theorem dX3_swap_10 : decode cX3_swap 10 = .ok (.getfield 11, 3) := by decide +kernel
theorem dX3_swap_13 : decode cX3_swap 13 = .ok (.iload_n 1, 1) := by decide +kernel
theorem dX3_swap_14 : decode cX3_swap 14 = .ok (.iaload, 1) := by decide +kernel
theorem dX3_swap_15 : decode cX3_swap 15 = .ok (.istore_n 3, 1) := by decide +kernel
theorem dX3_swap_16 : decode cX3_swap 16 = .ok (.aload_n 0, 1) := by decide +kernel
theorem dX3_swap_17 : decode cX3_swap 17 = .ok (.getfield 11, 3) := by decide +kernel
theorem dX3_swap_20 : decode cX3_swap 20 = .ok (.iload_n 1, 1) := by decide +kernel
theorem dX3_swap_21 : decode cX3_swap 21 = .ok (.aload_n 0, 1) := by decide +kernel
theorem dX3_swap_22 : decode cX3_swap 22 = .ok (.getfield 11, 3) := by decide +kernel
theorem dX3_swap_25 : decode cX3_swap 25 = .ok (.iload_n 2, 1) := by decide +kernel
theorem dX3_swap_26 : decode cX3_swap 26 = .ok (.iaload, 1) := by decide +kernel
theorem dX3_swap_27 : decode cX3_swap 27 = .ok (.iastore, 1) := by decide +kernel
theorem dX3_swap_28 : decode cX3_swap 28 = .ok (.aload_n 0, 1) := by decide +kernel
theorem dX3_swap_29 : decode cX3_swap 29 = .ok (.getfield 11, 3) := by decide +kernel
theorem dX3_swap_32 : decode cX3_swap 32 = .ok (.iload_n 2, 1) := by decide +kernel
theorem dX3_swap_33 : decode cX3_swap 33 = .ok (.iload_n 3, 1) := by decide +kernel
theorem dX3_swap_34 : decode cX3_swap 34 = .ok (.iastore, 1) := by decide +kernel
theorem dX3_swap_35 : decode cX3_swap 35 = .ok (.return_, 1) := by decide +kernel
set_option maxRecDepth 20000 in
theorem ggX3_inks_X4_within : GoodIn wsX3_inks wsX4_within := goodIn_r _ [4, 5, 6, 7, 8] (by decide +kernel) (by decide +kernel)
set_option maxRecDepth 20000 in
theorem gX3_inks_X4_within_n55 : GoodIn wsX3_inks (wsX4_within) := ggX3_inks_X4_within
set_option maxRecDepth 20000 in
theorem ggX3_inks_X3_places : GoodIn wsX3_inks wsX3_places := goodIn_r _ [13, 1, 14, 15, 16, 17, 18, 19, 28, 29, 30, 31] (by decide +kernel) (by decide +kernel)
set_option maxRecDepth 20000 in
theorem gX3_inks_X3_places : GoodIn wsX3_inks (wsV RX3 47 RX3 yX3_places wsX3_places) := goodIn_app (goodIn_of _ (by decide +kernel)) ggX3_inks_X3_places
set_option maxRecDepth 20000 in
theorem ggX3_inks_X3_numberAt : GoodIn wsX3_inks wsX3_numberAt := goodIn_r _ [23, 14, 24, 25, 26, 12, 27, 9, 10, 11, 13, 1, 15, 16, 17, 18, 19, 28, 29, 30, 31] (by decide +kernel) (by decide +kernel)
set_option maxRecDepth 20000 in
theorem gX3_inks_X3_numberAt : GoodIn wsX3_inks (wsV RX3 58 RX3 yX3_numberAt wsX3_numberAt) := goodIn_app (goodIn_of _ (by decide +kernel)) ggX3_inks_X3_numberAt
theorem dX3_inks_0 : decode cX3_inks 0 = .ok (.iload_n 3, 1) := by decide +kernel
theorem dX3_inks_1 : decode cX3_inks 1 = .ok (.aload_n 0, 1) := by decide +kernel
theorem dX3_inks_2 : decode cX3_inks 2 = .ok (.getfield 25, 3) := by decide +kernel
theorem dX3_inks_5 : decode cX3_inks 5 = .ok (.invokestatic 55, 3) := by decide +kernel
theorem dX3_inks_8 : decode cX3_inks 8 = .ok (.aload_n 0, 1) := by decide +kernel
theorem dX3_inks_9 : decode cX3_inks 9 = .ok (.getfield 25, 3) := by decide +kernel
theorem dX3_inks_12 : decode cX3_inks 12 = .ok (.imul, 1) := by decide +kernel
theorem dX3_inks_13 : decode cX3_inks 13 = .ok (.iload_n 2, 1) := by decide +kernel
theorem dX3_inks_14 : decode cX3_inks 14 = .ok (.aload_n 0, 1) := by decide +kernel
theorem dX3_inks_15 : decode cX3_inks 15 = .ok (.getfield 25, 3) := by decide +kernel
theorem dX3_inks_18 : decode cX3_inks 18 = .ok (.invokestatic 55, 3) := by decide +kernel
theorem dX3_inks_21 : decode cX3_inks 21 = .ok (.iadd, 1) := by decide +kernel
theorem dX3_inks_22 : decode cX3_inks 22 = .ok (.istore 4, 2) := by decide +kernel
theorem dX3_inks_24 : decode cX3_inks 24 = .ok (.aload_n 0, 1) := by decide +kernel
theorem dX3_inks_25 : decode cX3_inks 25 = .ok (.invokevirtual 47, 3) := by decide +kernel
theorem dX3_inks_28 : decode cX3_inks 28 = .ok (.iload_n 1, 1) := by decide +kernel
theorem dX3_inks_29 : decode cX3_inks 29 = .ok (.imul, 1) := by decide +kernel
theorem dX3_inks_30 : decode cX3_inks 30 = .ok (.sipush 255, 3) := by decide +kernel
theorem dX3_inks_33 : decode cX3_inks 33 = .ok (.aload_n 0, 1) := by decide +kernel
theorem dX3_inks_34 : decode cX3_inks 34 = .ok (.iload 4, 2) := by decide +kernel
theorem dX3_inks_36 : decode cX3_inks 36 = .ok (.invokevirtual 58, 3) := by decide +kernel
theorem dX3_inks_39 : decode cX3_inks 39 = .ok (.imul, 1) := by decide +kernel
theorem dX3_inks_40 : decode cX3_inks 40 = .ok (.if_icmp .le 7, 3) := by decide +kernel
theorem dX3_inks_43 : decode cX3_inks 43 = .ok (.iconst 1, 1) := by decide +kernel
theorem dX3_inks_44 : decode cX3_inks 44 = .ok (.goto 4, 3) := by decide +kernel
theorem dX3_inks_47 : decode cX3_inks 47 = .ok (.iconst 0, 1) := by decide +kernel
theorem dX3_inks_48 : decode cX3_inks 48 = .ok (.ireturn, 1) := by decide +kernel
set_option maxRecDepth 20000 in
theorem ggX3_unevenness_X3_places : GoodIn wsX3_unevenness wsX3_places := goodIn_r _ [11, 12, 1, 6, 13, 14, 4, 15, 21, 22, 23, 24] (by decide +kernel) (by decide +kernel)
set_option maxRecDepth 20000 in
theorem gX3_unevenness_X3_places : GoodIn wsX3_unevenness (wsV RX3 47 RX3 yX3_places wsX3_places) := goodIn_app (goodIn_of _ (by decide +kernel)) ggX3_unevenness_X3_places
set_option maxRecDepth 20000 in
theorem ggX3_unevenness_X3_nearnessAt : GoodIn wsX3_unevenness wsX3_nearnessAt := goodIn_r _ [19, 20, 21, 22, 23, 24] (by decide +kernel) (by decide +kernel)
set_option maxRecDepth 20000 in
theorem gX3_unevenness_X3_nearnessAt : GoodIn wsX3_unevenness (wsV RX3 64 RX3 yX3_nearnessAt wsX3_nearnessAt) := goodIn_app (goodIn_of _ (by decide +kernel)) ggX3_unevenness_X3_nearnessAt
theorem dX3_unevenness_0 : decode cX3_unevenness 0 = .ok (.aload_n 0, 1) := by decide +kernel
theorem dX3_unevenness_1 : decode cX3_unevenness 1 = .ok (.invokevirtual 47, 3) := by decide +kernel
theorem dX3_unevenness_4 : decode cX3_unevenness 4 = .ok (.istore_n 1, 1) := by decide +kernel
theorem dX3_unevenness_5 : decode cX3_unevenness 5 = .ok (.lconst 0, 1) := by decide +kernel
theorem dX3_unevenness_6 : decode cX3_unevenness 6 = .ok (.lstore_n 2, 1) := by decide +kernel
theorem dX3_unevenness_7 : decode cX3_unevenness 7 = .ok (.iconst 1, 1) := by decide +kernel
theorem dX3_unevenness_8 : decode cX3_unevenness 8 = .ok (.istore 4, 2) := by decide +kernel
theorem dX3_unevenness_10 : decode cX3_unevenness 10 = .ok (.iload 4, 2) := by decide +kernel
theorem dX3_unevenness_12 : decode cX3_unevenness 12 = .ok (.iload_n 1, 1) := by decide +kernel
theorem dX3_unevenness_13 : decode cX3_unevenness 13 = .ok (.if_icmp .ge 76, 3) := by decide +kernel
theorem dX3_unevenness_16 : decode cX3_unevenness 16 = .ok (.iconst 0, 1) := by decide +kernel
theorem dX3_unevenness_17 : decode cX3_unevenness 17 = .ok (.istore 5, 2) := by decide +kernel
theorem dX3_unevenness_19 : decode cX3_unevenness 19 = .ok (.iload 5, 2) := by decide +kernel
theorem dX3_unevenness_21 : decode cX3_unevenness 21 = .ok (.iload 4, 2) := by decide +kernel
theorem dX3_unevenness_23 : decode cX3_unevenness 23 = .ok (.if_icmp .ge 60, 3) := by decide +kernel
theorem dX3_unevenness_26 : decode cX3_unevenness 26 = .ok (.aload_n 0, 1) := by decide +kernel
theorem dX3_unevenness_27 : decode cX3_unevenness 27 = .ok (.getfield 11, 3) := by decide +kernel
theorem dX3_unevenness_30 : decode cX3_unevenness 30 = .ok (.iload 5, 2) := by decide +kernel
theorem dX3_unevenness_32 : decode cX3_unevenness 32 = .ok (.iaload, 1) := by decide +kernel
theorem dX3_unevenness_33 : decode cX3_unevenness 33 = .ok (.aload_n 0, 1) := by decide +kernel
theorem dX3_unevenness_34 : decode cX3_unevenness 34 = .ok (.getfield 11, 3) := by decide +kernel
theorem dX3_unevenness_37 : decode cX3_unevenness 37 = .ok (.iload 4, 2) := by decide +kernel
theorem dX3_unevenness_39 : decode cX3_unevenness 39 = .ok (.iaload, 1) := by decide +kernel
theorem dX3_unevenness_40 : decode cX3_unevenness 40 = .ok (.invokestatic 61, 3) := by decide +kernel
theorem dX3_unevenness_43 : decode cX3_unevenness 43 = .ok (.istore 6, 2) := by decide +kernel
theorem dX3_unevenness_45 : decode cX3_unevenness 45 = .ok (.lload_n 2, 1) := by decide +kernel
theorem dX3_unevenness_46 : decode cX3_unevenness 46 = .ok (.iload_n 1, 1) := by decide +kernel
theorem dX3_unevenness_47 : decode cX3_unevenness 47 = .ok (.iload 6, 2) := by decide +kernel
theorem dX3_unevenness_49 : decode cX3_unevenness 49 = .ok (.isub, 1) := by decide +kernel
theorem dX3_unevenness_50 : decode cX3_unevenness 50 = .ok (.i2l, 1) := by decide +kernel
theorem dX3_unevenness_51 : decode cX3_unevenness 51 = .ok (.aload_n 0, 1) := by decide +kernel
theorem dX3_unevenness_52 : decode cX3_unevenness 52 = .ok (.bipush 112, 2) := by decide +kernel
theorem dX3_unevenness_54 : decode cX3_unevenness 54 = .ok (.aload_n 0, 1) := by decide +kernel
theorem dX3_unevenness_55 : decode cX3_unevenness 55 = .ok (.getfield 15, 3) := by decide +kernel
theorem dX3_unevenness_58 : decode cX3_unevenness 58 = .ok (.iload 5, 2) := by decide +kernel
theorem dX3_unevenness_60 : decode cX3_unevenness 60 = .ok (.iaload, 1) := by decide +kernel
theorem dX3_unevenness_61 : decode cX3_unevenness 61 = .ok (.iadd, 1) := by decide +kernel
theorem dX3_unevenness_62 : decode cX3_unevenness 62 = .ok (.aload_n 0, 1) := by decide +kernel
theorem dX3_unevenness_63 : decode cX3_unevenness 63 = .ok (.getfield 15, 3) := by decide +kernel
theorem dX3_unevenness_66 : decode cX3_unevenness 66 = .ok (.iload 4, 2) := by decide +kernel
theorem dX3_unevenness_68 : decode cX3_unevenness 68 = .ok (.iaload, 1) := by decide +kernel
theorem dX3_unevenness_69 : decode cX3_unevenness 69 = .ok (.isub, 1) := by decide +kernel
theorem dX3_unevenness_70 : decode cX3_unevenness 70 = .ok (.invokevirtual 64, 3) := by decide +kernel
theorem dX3_unevenness_73 : decode cX3_unevenness 73 = .ok (.i2l, 1) := by decide +kernel
theorem dX3_unevenness_74 : decode cX3_unevenness 74 = .ok (.lmul, 1) := by decide +kernel
theorem dX3_unevenness_75 : decode cX3_unevenness 75 = .ok (.ladd, 1) := by decide +kernel
theorem dX3_unevenness_76 : decode cX3_unevenness 76 = .ok (.lstore_n 2, 1) := by decide +kernel
theorem dX3_unevenness_77 : decode cX3_unevenness 77 = .ok (.iinc 5 1, 3) := by decide +kernel
theorem dX3_unevenness_80 : decode cX3_unevenness 80 = .ok (.goto (-61), 3) := by decide +kernel
theorem dX3_unevenness_83 : decode cX3_unevenness 83 = .ok (.iinc 4 1, 3) := by decide +kernel
theorem dX3_unevenness_86 : decode cX3_unevenness 86 = .ok (.goto (-76), 3) := by decide +kernel
theorem dX3_unevenness_89 : decode cX3_unevenness 89 = .ok (.lload_n 2, 1) := by decide +kernel
theorem dX3_unevenness_90 : decode cX3_unevenness 90 = .ok (.lreturn, 1) := by decide +kernel
set_option maxRecDepth 20000 in
theorem ggX3_gain_X3_hasPair : GoodIn wsX3_gain wsX3_hasPair := goodIn_r _ [14, 15, 16, 17, 13, 18, 19, 20, 21, 22, 23, 1, 9, 2, 3, 4, 5, 29, 30, 31, 32] (by decide +kernel) (by decide +kernel)
set_option maxRecDepth 20000 in
theorem gX3_gain_X3_hasPair : GoodIn wsX3_gain (wsV RX3 51 RX3 yX3_hasPair wsX3_hasPair) := goodIn_app (goodIn_of _ (by decide +kernel)) ggX3_gain_X3_hasPair
set_option maxRecDepth 20000 in
theorem ggX3_gain_X3_places : GoodIn wsX3_gain wsX3_places := goodIn_r _ [22, 23, 1, 9, 2, 3, 4, 5, 29, 30, 31, 32] (by decide +kernel) (by decide +kernel)
set_option maxRecDepth 20000 in
theorem gX3_gain_X3_places : GoodIn wsX3_gain (wsV RX3 47 RX3 yX3_places wsX3_places) := goodIn_app (goodIn_of _ (by decide +kernel)) ggX3_gain_X3_places
set_option maxRecDepth 20000 in
theorem ggX3_gain_X3_nearnessAt : GoodIn wsX3_gain wsX3_nearnessAt := goodIn_r _ [27, 28, 29, 30, 31, 32] (by decide +kernel) (by decide +kernel)
set_option maxRecDepth 20000 in
theorem gX3_gain_X3_nearnessAt : GoodIn wsX3_gain (wsV RX3 64 RX3 yX3_nearnessAt wsX3_nearnessAt) := goodIn_app (goodIn_of _ (by decide +kernel)) ggX3_gain_X3_nearnessAt
theorem dX3_gain_0 : decode cX3_gain 0 = .ok (.aload_n 0, 1) := by decide +kernel
theorem dX3_gain_1 : decode cX3_gain 1 = .ok (.iload_n 1, 1) := by decide +kernel
theorem dX3_gain_2 : decode cX3_gain 2 = .ok (.iload_n 2, 1) := by decide +kernel
theorem dX3_gain_3 : decode cX3_gain 3 = .ok (.invokevirtual 51, 3) := by decide +kernel
theorem dX3_gain_6 : decode cX3_gain 6 = .ok (.ifCond .ne 5, 3) := by decide +kernel
theorem dX3_gain_9 : decode cX3_gain 9 = .ok (.lconst 0, 1) := by decide +kernel
theorem dX3_gain_10 : decode cX3_gain 10 = .ok (.lreturn, 1) := by decide +kernel
theorem dX3_gain_11 : decode cX3_gain 11 = .ok (.aload_n 0, 1) := by decide +kernel
theorem dX3_gain_12 : decode cX3_gain 12 = .ok (.getfield 11, 3) := by decide +kernel
theorem dX3_gain_15 : decode cX3_gain 15 = .ok (.iload_n 1, 1) := by decide +kernel
theorem dX3_gain_16 : decode cX3_gain 16 = .ok (.iaload, 1) := by decide +kernel
theorem dX3_gain_17 : decode cX3_gain 17 = .ok (.aload_n 0, 1) := by decide +kernel
theorem dX3_gain_18 : decode cX3_gain 18 = .ok (.getfield 11, 3) := by decide +kernel
theorem dX3_gain_21 : decode cX3_gain 21 = .ok (.iload_n 2, 1) := by decide +kernel
theorem dX3_gain_22 : decode cX3_gain 22 = .ok (.iaload, 1) := by decide +kernel
theorem dX3_gain_23 : decode cX3_gain 23 = .ok (.invokestatic 43, 3) := by decide +kernel
theorem dX3_gain_26 : decode cX3_gain 26 = .ok (.istore_n 3, 1) := by decide +kernel
theorem dX3_gain_27 : decode cX3_gain 27 = .ok (.aload_n 0, 1) := by decide +kernel
theorem dX3_gain_28 : decode cX3_gain 28 = .ok (.getfield 11, 3) := by decide +kernel
theorem dX3_gain_31 : decode cX3_gain 31 = .ok (.iload_n 1, 1) := by decide +kernel
theorem dX3_gain_32 : decode cX3_gain 32 = .ok (.iaload, 1) := by decide +kernel
theorem dX3_gain_33 : decode cX3_gain 33 = .ok (.aload_n 0, 1) := by decide +kernel
theorem dX3_gain_34 : decode cX3_gain 34 = .ok (.getfield 11, 3) := by decide +kernel
theorem dX3_gain_37 : decode cX3_gain 37 = .ok (.iload_n 2, 1) := by decide +kernel
theorem dX3_gain_38 : decode cX3_gain 38 = .ok (.iaload, 1) := by decide +kernel
theorem dX3_gain_39 : decode cX3_gain 39 = .ok (.invokestatic 61, 3) := by decide +kernel
theorem dX3_gain_42 : decode cX3_gain 42 = .ok (.istore 4, 2) := by decide +kernel
theorem dX3_gain_44 : decode cX3_gain 44 = .ok (.bipush 112, 2) := by decide +kernel
theorem dX3_gain_46 : decode cX3_gain 46 = .ok (.aload_n 0, 1) := by decide +kernel
theorem dX3_gain_47 : decode cX3_gain 47 = .ok (.getfield 15, 3) := by decide +kernel
theorem dX3_gain_50 : decode cX3_gain 50 = .ok (.iload_n 1, 1) := by decide +kernel
theorem dX3_gain_51 : decode cX3_gain 51 = .ok (.iaload, 1) := by decide +kernel
theorem dX3_gain_52 : decode cX3_gain 52 = .ok (.iadd, 1) := by decide +kernel
theorem dX3_gain_53 : decode cX3_gain 53 = .ok (.istore 5, 2) := by decide +kernel
theorem dX3_gain_55 : decode cX3_gain 55 = .ok (.bipush 112, 2) := by decide +kernel
theorem dX3_gain_57 : decode cX3_gain 57 = .ok (.aload_n 0, 1) := by decide +kernel
theorem dX3_gain_58 : decode cX3_gain 58 = .ok (.getfield 15, 3) := by decide +kernel
theorem dX3_gain_61 : decode cX3_gain 61 = .ok (.iload_n 2, 1) := by decide +kernel
theorem dX3_gain_62 : decode cX3_gain 62 = .ok (.iaload, 1) := by decide +kernel
theorem dX3_gain_63 : decode cX3_gain 63 = .ok (.iadd, 1) := by decide +kernel
theorem dX3_gain_64 : decode cX3_gain 64 = .ok (.istore 6, 2) := by decide +kernel
theorem dX3_gain_66 : decode cX3_gain 66 = .ok (.aload_n 0, 1) := by decide +kernel
theorem dX3_gain_67 : decode cX3_gain 67 = .ok (.invokevirtual 47, 3) := by decide +kernel
theorem dX3_gain_70 : decode cX3_gain 70 = .ok (.istore 7, 2) := by decide +kernel
theorem dX3_gain_72 : decode cX3_gain 72 = .ok (.lconst 0, 1) := by decide +kernel
theorem dX3_gain_73 : decode cX3_gain 73 = .ok (.lstore 8, 2) := by decide +kernel
theorem dX3_gain_75 : decode cX3_gain 75 = .ok (.iconst 0, 1) := by decide +kernel
theorem dX3_gain_76 : decode cX3_gain 76 = .ok (.istore 10, 2) := by decide +kernel
theorem dX3_gain_78 : decode cX3_gain 78 = .ok (.iload 10, 2) := by decide +kernel
theorem dX3_gain_80 : decode cX3_gain 80 = .ok (.iload 7, 2) := by decide +kernel
theorem dX3_gain_82 : decode cX3_gain 82 = .ok (.if_icmp .ge 80, 3) := by decide +kernel
theorem dX3_gain_85 : decode cX3_gain 85 = .ok (.aload_n 0, 1) := by decide +kernel
theorem dX3_gain_86 : decode cX3_gain 86 = .ok (.getfield 11, 3) := by decide +kernel
theorem dX3_gain_89 : decode cX3_gain 89 = .ok (.iload 10, 2) := by decide +kernel
theorem dX3_gain_91 : decode cX3_gain 91 = .ok (.iaload, 1) := by decide +kernel
theorem dX3_gain_92 : decode cX3_gain 92 = .ok (.istore 11, 2) := by decide +kernel
theorem dX3_gain_94 : decode cX3_gain 94 = .ok (.iload 11, 2) := by decide +kernel
theorem dX3_gain_96 : decode cX3_gain 96 = .ok (.iload 4, 2) := by decide +kernel
theorem dX3_gain_98 : decode cX3_gain 98 = .ok (.if_icmp .ge 58, 3) := by decide +kernel
theorem dX3_gain_101 : decode cX3_gain 101 = .ok (.iload 11, 2) := by decide +kernel
theorem dX3_gain_103 : decode cX3_gain 103 = .ok (.iload_n 3, 1) := by decide +kernel
theorem dX3_gain_104 : decode cX3_gain 104 = .ok (.if_icmp .eq 52, 3) := by decide +kernel
theorem dX3_gain_107 : decode cX3_gain 107 = .ok (.iload 4, 2) := by decide +kernel
theorem dX3_gain_109 : decode cX3_gain 109 = .ok (.iload_n 3, 1) := by decide +kernel
theorem dX3_gain_110 : decode cX3_gain 110 = .ok (.iload 11, 2) := by decide +kernel
theorem dX3_gain_112 : decode cX3_gain 112 = .ok (.invokestatic 61, 3) := by decide +kernel
theorem dX3_gain_115 : decode cX3_gain 115 = .ok (.isub, 1) := by decide +kernel
theorem dX3_gain_116 : decode cX3_gain 116 = .ok (.istore 12, 2) := by decide +kernel
theorem dX3_gain_118 : decode cX3_gain 118 = .ok (.aload_n 0, 1) := by decide +kernel
theorem dX3_gain_119 : decode cX3_gain 119 = .ok (.getfield 15, 3) := by decide +kernel
theorem dX3_gain_122 : decode cX3_gain 122 = .ok (.iload 10, 2) := by decide +kernel
theorem dX3_gain_124 : decode cX3_gain 124 = .ok (.iaload, 1) := by decide +kernel
theorem dX3_gain_125 : decode cX3_gain 125 = .ok (.istore 13, 2) := by decide +kernel
theorem dX3_gain_127 : decode cX3_gain 127 = .ok (.lload 8, 2) := by decide +kernel
theorem dX3_gain_129 : decode cX3_gain 129 = .ok (.iload 12, 2) := by decide +kernel
theorem dX3_gain_131 : decode cX3_gain 131 = .ok (.i2l, 1) := by decide +kernel
theorem dX3_gain_132 : decode cX3_gain 132 = .ok (.aload_n 0, 1) := by decide +kernel
theorem dX3_gain_133 : decode cX3_gain 133 = .ok (.iload 5, 2) := by decide +kernel
theorem dX3_gain_135 : decode cX3_gain 135 = .ok (.iload 13, 2) := by decide +kernel
theorem dX3_gain_137 : decode cX3_gain 137 = .ok (.isub, 1) := by decide +kernel
theorem dX3_gain_138 : decode cX3_gain 138 = .ok (.invokevirtual 64, 3) := by decide +kernel
theorem dX3_gain_141 : decode cX3_gain 141 = .ok (.aload_n 0, 1) := by decide +kernel
theorem dX3_gain_142 : decode cX3_gain 142 = .ok (.iload 6, 2) := by decide +kernel
theorem dX3_gain_144 : decode cX3_gain 144 = .ok (.iload 13, 2) := by decide +kernel
theorem dX3_gain_146 : decode cX3_gain 146 = .ok (.isub, 1) := by decide +kernel
theorem dX3_gain_147 : decode cX3_gain 147 = .ok (.invokevirtual 64, 3) := by decide +kernel
theorem dX3_gain_150 : decode cX3_gain 150 = .ok (.isub, 1) := by decide +kernel
theorem dX3_gain_151 : decode cX3_gain 151 = .ok (.i2l, 1) := by decide +kernel
theorem dX3_gain_152 : decode cX3_gain 152 = .ok (.lmul, 1) := by decide +kernel
theorem dX3_gain_153 : decode cX3_gain 153 = .ok (.ladd, 1) := by decide +kernel
theorem dX3_gain_154 : decode cX3_gain 154 = .ok (.lstore 8, 2) := by decide +kernel
theorem dX3_gain_156 : decode cX3_gain 156 = .ok (.iinc 10 1, 3) := by decide +kernel
theorem dX3_gain_159 : decode cX3_gain 159 = .ok (.goto (-81), 3) := by decide +kernel
theorem dX3_gain_162 : decode cX3_gain 162 = .ok (.aload_n 0, 1) := by decide +kernel
theorem dX3_gain_163 : decode cX3_gain 163 = .ok (.getfield 11, 3) := by decide +kernel
theorem dX3_gain_166 : decode cX3_gain 166 = .ok (.iload_n 1, 1) := by decide +kernel
theorem dX3_gain_167 : decode cX3_gain 167 = .ok (.iaload, 1) := by decide +kernel
theorem dX3_gain_168 : decode cX3_gain 168 = .ok (.iload_n 3, 1) := by decide +kernel
theorem dX3_gain_169 : decode cX3_gain 169 = .ok (.if_icmp .ne 8, 3) := by decide +kernel
theorem dX3_gain_172 : decode cX3_gain 172 = .ok (.lload 8, 2) := by decide +kernel
theorem dX3_gain_174 : decode cX3_gain 174 = .ok (.goto 6, 3) := by decide +kernel
theorem dX3_gain_177 : decode cX3_gain 177 = .ok (.lload 8, 2) := by decide +kernel
theorem dX3_gain_179 : decode cX3_gain 179 = .ok (.lneg, 1) := by decide +kernel
theorem dX3_gain_180 : decode cX3_gain 180 = .ok (.lreturn, 1) := by decide +kernel
set_option maxRecDepth 20000 in
theorem ggX3_swapBest_X3_places : GoodIn wsX3_swapBest wsX3_places := goodIn_r _ [5, 6, 7, 8, 9, 10, 11, 12, 37, 38, 39, 40] (by decide +kernel) (by decide +kernel)
set_option maxRecDepth 20000 in
theorem gX3_swapBest_X3_places : GoodIn wsX3_swapBest (wsV RX3 47 RX3 yX3_places wsX3_places) := goodIn_app (goodIn_of _ (by decide +kernel)) ggX3_swapBest_X3_places
set_option maxRecDepth 20000 in
theorem ggX3_swapBest_X3_gain : GoodIn wsX3_swapBest wsX3_gain := goodIn_r _ [16, 7, 9, 10, 11, 12, 17, 18, 19, 8, 20, 21, 22, 4, 23, 24, 25, 26, 27, 1, 2, 3, 5, 6, 28, 29, 30, 31, 32, 37, 38, 39, 40] (by decide +kernel) (by decide +kernel)
set_option maxRecDepth 20000 in
theorem gX3_swapBest_X3_gain : GoodIn wsX3_swapBest (wsV RX3 67 RX3 yX3_gain wsX3_gain) := goodIn_app (goodIn_of _ (by decide +kernel)) ggX3_swapBest_X3_gain
set_option maxRecDepth 20000 in
theorem ggX3_swapBest_X3_swap : GoodIn wsX3_swapBest wsX3_swap := goodIn_r _ [36, 7, 20, 21, 22, 4, 23, 24, 25, 26, 27, 1, 2, 3, 5, 6, 8, 9, 10, 11, 12, 37, 38, 39, 40] (by decide +kernel) (by decide +kernel)
set_option maxRecDepth 20000 in
theorem gX3_swapBest_X3_swap : GoodIn wsX3_swapBest (wsV RX3 71 RX3 yX3_swap wsX3_swap) := goodIn_app (goodIn_of _ (by decide +kernel)) ggX3_swapBest_X3_swap
theorem dX3_swapBest_0 : decode cX3_swapBest 0 = .ok (.aload_n 0, 1) := by decide +kernel
theorem dX3_swapBest_1 : decode cX3_swapBest 1 = .ok (.invokevirtual 47, 3) := by decide +kernel
theorem dX3_swapBest_4 : decode cX3_swapBest 4 = .ok (.istore_n 1, 1) := by decide +kernel
theorem dX3_swapBest_5 : decode cX3_swapBest 5 = .ok (.lconst 0, 1) := by decide +kernel
theorem dX3_swapBest_6 : decode cX3_swapBest 6 = .ok (.lstore_n 2, 1) := by decide +kernel
theorem dX3_swapBest_7 : decode cX3_swapBest 7 = .ok (.iconst 0, 1) := by decide +kernel
theorem dX3_swapBest_8 : decode cX3_swapBest 8 = .ok (.istore 4, 2) := by decide +kernel
theorem dX3_swapBest_10 : decode cX3_swapBest 10 = .ok (.iconst 0, 1) := by decide +kernel
theorem dX3_swapBest_11 : decode cX3_swapBest 11 = .ok (.istore 5, 2) := by decide +kernel
theorem dX3_swapBest_13 : decode cX3_swapBest 13 = .ok (.iconst 0, 1) := by decide +kernel
theorem dX3_swapBest_14 : decode cX3_swapBest 14 = .ok (.istore 6, 2) := by decide +kernel
theorem dX3_swapBest_16 : decode cX3_swapBest 16 = .ok (.iload 6, 2) := by decide +kernel
theorem dX3_swapBest_18 : decode cX3_swapBest 18 = .ok (.iload_n 1, 1) := by decide +kernel
theorem dX3_swapBest_19 : decode cX3_swapBest 19 = .ok (.if_icmp .ge 55, 3) := by decide +kernel
theorem dX3_swapBest_22 : decode cX3_swapBest 22 = .ok (.iload 6, 2) := by decide +kernel
theorem dX3_swapBest_24 : decode cX3_swapBest 24 = .ok (.iconst 1, 1) := by decide +kernel
theorem dX3_swapBest_25 : decode cX3_swapBest 25 = .ok (.iadd, 1) := by decide +kernel
theorem dX3_swapBest_26 : decode cX3_swapBest 26 = .ok (.istore 7, 2) := by decide +kernel
theorem dX3_swapBest_28 : decode cX3_swapBest 28 = .ok (.iload 7, 2) := by decide +kernel
theorem dX3_swapBest_30 : decode cX3_swapBest 30 = .ok (.iload_n 1, 1) := by decide +kernel
theorem dX3_swapBest_31 : decode cX3_swapBest 31 = .ok (.if_icmp .ge 37, 3) := by decide +kernel
theorem dX3_swapBest_34 : decode cX3_swapBest 34 = .ok (.aload_n 0, 1) := by decide +kernel
theorem dX3_swapBest_35 : decode cX3_swapBest 35 = .ok (.iload 6, 2) := by decide +kernel
theorem dX3_swapBest_37 : decode cX3_swapBest 37 = .ok (.iload 7, 2) := by decide +kernel
theorem dX3_swapBest_39 : decode cX3_swapBest 39 = .ok (.invokevirtual 67, 3) := by decide +kernel
theorem dX3_swapBest_42 : decode cX3_swapBest 42 = .ok (.lstore 8, 2) := by decide +kernel
theorem dX3_swapBest_44 : decode cX3_swapBest 44 = .ok (.lload 8, 2) := by decide +kernel
theorem dX3_swapBest_46 : decode cX3_swapBest 46 = .ok (.lload_n 2, 1) := by decide +kernel
theorem dX3_swapBest_47 : decode cX3_swapBest 47 = .ok (.lcmp, 1) := by decide +kernel
theorem dX3_swapBest_48 : decode cX3_swapBest 48 = .ok (.ifCond .le 14, 3) := by decide +kernel
theorem dX3_swapBest_51 : decode cX3_swapBest 51 = .ok (.lload 8, 2) := by decide +kernel
theorem dX3_swapBest_53 : decode cX3_swapBest 53 = .ok (.lstore_n 2, 1) := by decide +kernel
theorem dX3_swapBest_54 : decode cX3_swapBest 54 = .ok (.iload 6, 2) := by decide +kernel
theorem dX3_swapBest_56 : decode cX3_swapBest 56 = .ok (.istore 4, 2) := by decide +kernel
theorem dX3_swapBest_58 : decode cX3_swapBest 58 = .ok (.iload 7, 2) := by decide +kernel
theorem dX3_swapBest_60 : decode cX3_swapBest 60 = .ok (.istore 5, 2) := by decide +kernel
theorem dX3_swapBest_62 : decode cX3_swapBest 62 = .ok (.iinc 7 1, 3) := by decide +kernel
theorem dX3_swapBest_65 : decode cX3_swapBest 65 = .ok (.goto (-37), 3) := by decide +kernel
theorem dX3_swapBest_68 : decode cX3_swapBest 68 = .ok (.iinc 6 1, 3) := by decide +kernel
theorem dX3_swapBest_71 : decode cX3_swapBest 71 = .ok (.goto (-55), 3) := by decide +kernel
theorem dX3_swapBest_74 : decode cX3_swapBest 74 = .ok (.aload_n 0, 1) := by decide +kernel
theorem dX3_swapBest_75 : decode cX3_swapBest 75 = .ok (.iload 4, 2) := by decide +kernel
theorem dX3_swapBest_77 : decode cX3_swapBest 77 = .ok (.iload 5, 2) := by decide +kernel
theorem dX3_swapBest_79 : decode cX3_swapBest 79 = .ok (.invokevirtual 71, 3) := by decide +kernel
theorem dX3_swapBest_82 : decode cX3_swapBest 82 = .ok (.lload_n 2, 1) := by decide +kernel
theorem dX3_swapBest_83 : decode cX3_swapBest 83 = .ok (.lconst 0, 1) := by decide +kernel
theorem dX3_swapBest_84 : decode cX3_swapBest 84 = .ok (.lcmp, 1) := by decide +kernel
theorem dX3_swapBest_85 : decode cX3_swapBest 85 = .ok (.ifCond .le 7, 3) := by decide +kernel
theorem dX3_swapBest_88 : decode cX3_swapBest 88 = .ok (.iconst 1, 1) := by decide +kernel
theorem dX3_swapBest_89 : decode cX3_swapBest 89 = .ok (.goto 4, 3) := by decide +kernel
theorem dX3_swapBest_92 : decode cX3_swapBest 92 = .ok (.iconst 0, 1) := by decide +kernel
theorem dX3_swapBest_93 : decode cX3_swapBest 93 = .ok (.ireturn, 1) := by decide +kernel
set_option maxRecDepth 20000 in
theorem ggX4_init_X2_init : GoodIn wsX4_init wsX2_init := goodIn_r _ [23, 24, 2, 3, 25, 26, 27, 28, 29, 30, 105, 106, 107, 108] (by decide +kernel) (by decide +kernel)
set_option maxRecDepth 20000 in
theorem gX4_init_X2_init : GoodIn wsX4_init (wsX2_init) := ggX4_init_X2_init
set_option maxRecDepth 20000 in
theorem ggX4_init_X3_init : GoodIn wsX4_init wsX3_init := goodIn_r _ [33, 34, 2, 3, 25, 35, 36, 37, 38, 39, 40, 10, 41, 42, 43, 44, 45, 46, 47, 48, 49, 50, 51, 52, 53, 54, 55, 56, 57, 58, 59, 60, 61, 114, 115, 116, 117] (by decide +kernel) (by decide +kernel)
set_option maxRecDepth 20000 in
theorem gX4_init_X3_init : GoodIn wsX4_init (wsX3_init) := ggX4_init_X3_init
set_option maxRecDepth 20000 in
theorem ggX4_init_X0_init : GoodIn wsX4_init wsX0_init := goodIn_r _ [64, 65, 2, 3, 25, 66, 67, 27, 68, 69, 118, 119, 120, 121] (by decide +kernel) (by decide +kernel)
set_option maxRecDepth 20000 in
theorem gX4_init_X0_init : GoodIn wsX4_init (wsX0_init) := ggX4_init_X0_init
set_option maxRecDepth 20000 in
theorem ggX4_init_X1_init : GoodIn wsX4_init wsX1_init := goodIn_r _ [72, 73, 2, 3, 25, 74, 75, 76, 77, 18, 78, 79, 80, 81, 82, 83, 44, 45, 46, 84, 85, 86, 87, 88, 89, 90, 91, 92, 93, 94, 95, 96, 97, 98, 99, 100, 101, 102, 103, 104, 122, 123, 124, 125, 126] (by decide +kernel) (by decide +kernel)
set_option maxRecDepth 20000 in
theorem gX4_init_X1_init : GoodIn wsX4_init (wsX1_init) := ggX4_init_X1_init
theorem dX4_init_0 : decode cX4_init 0 = .ok (.aload_n 0, 1) := by decide +kernel
theorem dX4_init_1 : decode cX4_init 1 = .ok (.invokespecial 1, 3) := by decide +kernel
theorem dX4_init_4 : decode cX4_init 4 = .ok (.aload_n 0, 1) := by decide +kernel
theorem dX4_init_5 : decode cX4_init 5 = .ok (.new 7, 3) := by decide +kernel
theorem dX4_init_8 : decode cX4_init 8 = .ok (.dup, 1) := by decide +kernel
theorem dX4_init_9 : decode cX4_init 9 = .ok (.invokespecial 9, 3) := by decide +kernel
theorem dX4_init_12 : decode cX4_init 12 = .ok (.putfield 10, 3) := by decide +kernel
theorem dX4_init_15 : decode cX4_init 15 = .ok (.aload_n 0, 1) := by decide +kernel
theorem dX4_init_16 : decode cX4_init 16 = .ok (.new 16, 3) := by decide +kernel
theorem dX4_init_19 : decode cX4_init 19 = .ok (.dup, 1) := by decide +kernel
theorem dX4_init_20 : decode cX4_init 20 = .ok (.invokespecial 18, 3) := by decide +kernel
theorem dX4_init_23 : decode cX4_init 23 = .ok (.putfield 19, 3) := by decide +kernel
theorem dX4_init_26 : decode cX4_init 26 = .ok (.aload_n 0, 1) := by decide +kernel
theorem dX4_init_27 : decode cX4_init 27 = .ok (.new 23, 3) := by decide +kernel
theorem dX4_init_30 : decode cX4_init 30 = .ok (.dup, 1) := by decide +kernel
theorem dX4_init_31 : decode cX4_init 31 = .ok (.invokespecial 25, 3) := by decide +kernel
theorem dX4_init_34 : decode cX4_init 34 = .ok (.putfield 26, 3) := by decide +kernel
theorem dX4_init_37 : decode cX4_init 37 = .ok (.aload_n 0, 1) := by decide +kernel
theorem dX4_init_38 : decode cX4_init 38 = .ok (.new 30, 3) := by decide +kernel
theorem dX4_init_41 : decode cX4_init 41 = .ok (.dup, 1) := by decide +kernel
theorem dX4_init_42 : decode cX4_init 42 = .ok (.invokespecial 32, 3) := by decide +kernel
theorem dX4_init_45 : decode cX4_init 45 = .ok (.putfield 33, 3) := by decide +kernel
theorem dX4_init_48 : decode cX4_init 48 = .ok (.aload_n 0, 1) := by decide +kernel
theorem dX4_init_49 : decode cX4_init 49 = .ok (.iconst 0, 1) := by decide +kernel
theorem dX4_init_50 : decode cX4_init 50 = .ok (.putfield 37, 3) := by decide +kernel
theorem dX4_init_53 : decode cX4_init 53 = .ok (.return_, 1) := by decide +kernel
set_option maxRecDepth 20000 in
theorem ggX4_picture_X2_allows : GoodIn wsX4_picture wsX2_allows := goodIn_r _ [5] (by decide +kernel) (by decide +kernel)
set_option maxRecDepth 20000 in
theorem gX4_picture_X2_allows : GoodIn wsX4_picture (va_wsS RX4 41 yX2_allows wsX2_allows) := goodIn_app (goodIn_of _ (by decide +kernel)) ggX4_picture_X2_allows
set_option maxRecDepth 20000 in
theorem ggX4_picture_X2_renew : GoodIn wsX4_picture wsX2_renew := goodIn_r _ [9, 10, 11, 12, 13, 19, 20, 21, 22] (by decide +kernel) (by decide +kernel)
set_option maxRecDepth 20000 in
theorem gX4_picture_X2_renew : GoodIn wsX4_picture (wsV RX4 45 RX2 yX2_renew wsX2_renew) := goodIn_app (goodIn_of _ (by decide +kernel)) ggX4_picture_X2_renew
theorem dX4_picture_0 : decode cX4_picture 0 = .ok (.iload_n 1, 1) := by decide +kernel
theorem dX4_picture_1 : decode cX4_picture 1 = .ok (.invokestatic 41, 3) := by decide +kernel
theorem dX4_picture_4 : decode cX4_picture 4 = .ok (.ifCond .eq 10, 3) := by decide +kernel
theorem dX4_picture_7 : decode cX4_picture 7 = .ok (.iload_n 2, 1) := by decide +kernel
theorem dX4_picture_8 : decode cX4_picture 8 = .ok (.invokestatic 41, 3) := by decide +kernel
theorem dX4_picture_11 : decode cX4_picture 11 = .ok (.ifCond .ne 5, 3) := by decide +kernel
theorem dX4_picture_14 : decode cX4_picture 14 = .ok (.iconst 0, 1) := by decide +kernel
theorem dX4_picture_15 : decode cX4_picture 15 = .ok (.ireturn, 1) := by decide +kernel
theorem dX4_picture_16 : decode cX4_picture 16 = .ok (.aload_n 0, 1) := by decide +kernel
theorem dX4_picture_17 : decode cX4_picture 17 = .ok (.getfield 10, 3) := by decide +kernel
theorem dX4_picture_20 : decode cX4_picture 20 = .ok (.iload_n 1, 1) := by decide +kernel
theorem dX4_picture_21 : decode cX4_picture 21 = .ok (.iload_n 2, 1) := by decide +kernel
theorem dX4_picture_22 : decode cX4_picture 22 = .ok (.invokevirtual 45, 3) := by decide +kernel
theorem dX4_picture_25 : decode cX4_picture 25 = .ok (.iconst 1, 1) := by decide +kernel
theorem dX4_picture_26 : decode cX4_picture 26 = .ok (.ireturn, 1) := by decide +kernel
set_option maxRecDepth 20000 in
theorem ggX4_shade_X2_has : GoodIn wsX4_shade wsX2_has := goodIn_r _ [6, 7, 8, 27, 28, 29, 30] (by decide +kernel) (by decide +kernel)
set_option maxRecDepth 20000 in
theorem gX4_shade_X2_has : GoodIn wsX4_shade (wsV RX4 49 RX2 yX2_has wsX2_has) := goodIn_app (goodIn_of _ (by decide +kernel)) ggX4_shade_X2_has
set_option maxRecDepth 20000 in
theorem ggX4_shade_X4_isGrey : GoodIn wsX4_shade wsX4_isGrey := goodIn_r _ [12] (by decide +kernel) (by decide +kernel)
set_option maxRecDepth 20000 in
theorem gX4_shade_X4_isGrey : GoodIn wsX4_shade (va_wsS RX4 53 yX4_isGrey wsX4_isGrey) := goodIn_app (goodIn_of _ (by decide +kernel)) ggX4_shade_X4_isGrey
set_option maxRecDepth 20000 in
theorem ggX4_shade_X2_setGrey : GoodIn wsX4_shade wsX2_setGrey := goodIn_r _ [16, 17, 18, 3, 4, 5, 6, 7, 8, 19, 20, 21, 27, 28, 29, 30] (by decide +kernel) (by decide +kernel)
set_option maxRecDepth 20000 in
theorem gX4_shade_X2_setGrey : GoodIn wsX4_shade (wsV RX4 56 RX2 yX2_setGrey wsX2_setGrey) := goodIn_app (goodIn_of _ (by decide +kernel)) ggX4_shade_X2_setGrey
theorem dX4_shade_0 : decode cX4_shade 0 = .ok (.aload_n 0, 1) := by decide +kernel
theorem dX4_shade_1 : decode cX4_shade 1 = .ok (.getfield 10, 3) := by decide +kernel
theorem dX4_shade_4 : decode cX4_shade 4 = .ok (.iload_n 1, 1) := by decide +kernel
theorem dX4_shade_5 : decode cX4_shade 5 = .ok (.iload_n 2, 1) := by decide +kernel
theorem dX4_shade_6 : decode cX4_shade 6 = .ok (.invokevirtual 49, 3) := by decide +kernel
theorem dX4_shade_9 : decode cX4_shade 9 = .ok (.ifCond .eq 10, 3) := by decide +kernel
theorem dX4_shade_12 : decode cX4_shade 12 = .ok (.iload_n 3, 1) := by decide +kernel
theorem dX4_shade_13 : decode cX4_shade 13 = .ok (.invokestatic 53, 3) := by decide +kernel
theorem dX4_shade_16 : decode cX4_shade 16 = .ok (.ifCond .ne 5, 3) := by decide +kernel
theorem dX4_shade_19 : decode cX4_shade 19 = .ok (.iconst 0, 1) := by decide +kernel
theorem dX4_shade_20 : decode cX4_shade 20 = .ok (.ireturn, 1) := by decide +kernel
theorem dX4_shade_21 : decode cX4_shade 21 = .ok (.aload_n 0, 1) := by decide +kernel
theorem dX4_shade_22 : decode cX4_shade 22 = .ok (.getfield 10, 3) := by decide +kernel
theorem dX4_shade_25 : decode cX4_shade 25 = .ok (.iload_n 1, 1) := by decide +kernel
theorem dX4_shade_26 : decode cX4_shade 26 = .ok (.iload_n 2, 1) := by decide +kernel
theorem dX4_shade_27 : decode cX4_shade 27 = .ok (.iload_n 3, 1) := by decide +kernel
theorem dX4_shade_28 : decode cX4_shade 28 = .ok (.invokevirtual 56, 3) := by decide +kernel
theorem dX4_shade_31 : decode cX4_shade 31 = .ok (.iconst 1, 1) := by decide +kernel
theorem dX4_shade_32 : decode cX4_shade 32 = .ok (.ireturn, 1) := by decide +kernel
set_option maxRecDepth 20000 in
theorem ggX4_ramp_X2_hasBox : GoodIn wsX4_ramp wsX2_hasBox := goodIn_r _ [13, 14, 15, 16, 17, 18, 12, 19, 37, 38, 39, 40] (by decide +kernel) (by decide +kernel)
set_option maxRecDepth 20000 in
theorem gX4_ramp_X2_hasBox : GoodIn wsX4_ramp (wsV RX4 60 RX2 yX2_hasBox wsX2_hasBox) := goodIn_app (goodIn_of _ (by decide +kernel)) ggX4_ramp_X2_hasBox
set_option maxRecDepth 20000 in
theorem ggX4_ramp_X4_isGrey : GoodIn wsX4_ramp wsX4_isGrey := goodIn_r _ [23] (by decide +kernel) (by decide +kernel)
set_option maxRecDepth 20000 in
theorem gX4_ramp_X4_isGrey : GoodIn wsX4_ramp (va_wsS RX4 53 yX4_isGrey wsX4_isGrey) := goodIn_app (goodIn_of _ (by decide +kernel)) ggX4_ramp_X4_isGrey
set_option maxRecDepth 20000 in
theorem ggX4_ramp_X2_setGrey : GoodIn wsX4_ramp wsX2_setGrey := goodIn_r _ [27, 28, 16, 17, 18, 12, 19, 14, 15, 29, 30, 31, 37, 38, 39, 40] (by decide +kernel) (by decide +kernel)
set_option maxRecDepth 20000 in
theorem gX4_ramp_X2_setGrey : GoodIn wsX4_ramp (wsV RX4 56 RX2 yX2_setGrey wsX2_setGrey) := goodIn_app (goodIn_of _ (by decide +kernel)) ggX4_ramp_X2_setGrey
theorem dX4_ramp_0 : decode cX4_ramp 0 = .ok (.aload_n 0, 1) := by decide +kernel
theorem dX4_ramp_1 : decode cX4_ramp 1 = .ok (.getfield 10, 3) := by decide +kernel
theorem dX4_ramp_4 : decode cX4_ramp 4 = .ok (.iload_n 1, 1) := by decide +kernel
