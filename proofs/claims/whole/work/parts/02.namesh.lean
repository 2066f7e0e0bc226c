theorem dX5_rankAll_90 : decode cX5_rankAll 90 = .ok (.iload_n 2, 1) := by decide +kernel
theorem dX5_rankAll_91 : decode cX5_rankAll 91 = .ok (.iload_n 3, 1) := by decide +kernel
theorem dX5_rankAll_92 : decode cX5_rankAll 92 = .ok (.invokevirtual 111, 3) := by decide +kernel
theorem dX5_rankAll_95 : decode cX5_rankAll 95 = .ok (.iconst 1, 1) := by decide +kernel
theorem dX5_rankAll_96 : decode cX5_rankAll 96 = .ok (.bastore, 1) := by decide +kernel
theorem dX5_rankAll_97 : decode cX5_rankAll 97 = .ok (.iinc 3 1, 3) := by decide +kernel
theorem dX5_rankAll_100 : decode cX5_rankAll 100 = .ok (.goto (-20), 3) := by decide +kernel
theorem dX5_rankAll_103 : decode cX5_rankAll 103 = .ok (.iinc 2 1, 3) := by decide +kernel
theorem dX5_rankAll_106 : decode cX5_rankAll 106 = .ok (.goto (-33), 3) := by decide +kernel
theorem dX5_rankAll_109 : decode cX5_rankAll 109 = .ok (.aload_n 0, 1) := by decide +kernel
theorem dX5_rankAll_110 : decode cX5_rankAll 110 = .ok (.iconst 0, 1) := by decide +kernel
theorem dX5_rankAll_111 : decode cX5_rankAll 111 = .ok (.putfield 114, 3) := by decide +kernel
theorem dX5_rankAll_114 : decode cX5_rankAll 114 = .ok (.iconst 0, 1) := by decide +kernel
theorem dX5_rankAll_115 : decode cX5_rankAll 115 = .ok (.istore_n 2, 1) := by decide +kernel
theorem dX5_rankAll_116 : decode cX5_rankAll 116 = .ok (.iload_n 2, 1) := by decide +kernel
theorem dX5_rankAll_117 : decode cX5_rankAll 117 = .ok (.iload_n 1, 1) := by decide +kernel
theorem dX5_rankAll_118 : decode cX5_rankAll 118 = .ok (.iload_n 1, 1) := by decide +kernel
theorem dX5_rankAll_119 : decode cX5_rankAll 119 = .ok (.imul, 1) := by decide +kernel
theorem dX5_rankAll_120 : decode cX5_rankAll 120 = .ok (.if_icmp .ge 32, 3) := by decide +kernel
theorem dX5_rankAll_123 : decode cX5_rankAll 123 = .ok (.aload_n 0, 1) := by decide +kernel
theorem dX5_rankAll_124 : decode cX5_rankAll 124 = .ok (.dup, 1) := by decide +kernel
theorem dX5_rankAll_125 : decode cX5_rankAll 125 = .ok (.getfield 114, 3) := by decide +kernel
theorem dX5_rankAll_128 : decode cX5_rankAll 128 = .ok (.aload_n 0, 1) := by decide +kernel
theorem dX5_rankAll_129 : decode cX5_rankAll 129 = .ok (.getfield 45, 3) := by decide +kernel
theorem dX5_rankAll_132 : decode cX5_rankAll 132 = .ok (.iload_n 2, 1) := by decide +kernel
theorem dX5_rankAll_133 : decode cX5_rankAll 133 = .ok (.baload, 1) := by decide +kernel
theorem dX5_rankAll_134 : decode cX5_rankAll 134 = .ok (.ifCond .eq 7, 3) := by decide +kernel
theorem dX5_rankAll_137 : decode cX5_rankAll 137 = .ok (.iconst 1, 1) := by decide +kernel
theorem dX5_rankAll_138 : decode cX5_rankAll 138 = .ok (.goto 4, 3) := by decide +kernel
theorem dX5_rankAll_141 : decode cX5_rankAll 141 = .ok (.iconst 0, 1) := by decide +kernel
theorem dX5_rankAll_142 : decode cX5_rankAll 142 = .ok (.iadd, 1) := by decide +kernel
theorem dX5_rankAll_143 : decode cX5_rankAll 143 = .ok (.putfield 114, 3) := by decide +kernel
theorem dX5_rankAll_146 : decode cX5_rankAll 146 = .ok (.iinc 2 1, 3) := by decide +kernel
theorem dX5_rankAll_149 : decode cX5_rankAll 149 = .ok (.goto (-33), 3) := by decide +kernel
theorem dX5_rankAll_152 : decode cX5_rankAll 152 = .ok (.iconst 0, 1) := by decide +kernel
theorem dX5_rankAll_153 : decode cX5_rankAll 153 = .ok (.istore_n 2, 1) := by decide +kernel
theorem dX5_rankAll_154 : decode cX5_rankAll 154 = .ok (.iload_n 2, 1) := by decide +kernel
theorem dX5_rankAll_155 : decode cX5_rankAll 155 = .ok (.iload_n 1, 1) := by decide +kernel
theorem dX5_rankAll_156 : decode cX5_rankAll 156 = .ok (.iload_n 1, 1) := by decide +kernel
theorem dX5_rankAll_157 : decode cX5_rankAll 157 = .ok (.imul, 1) := by decide +kernel
theorem dX5_rankAll_158 : decode cX5_rankAll 158 = .ok (.if_icmp .ge 94, 3) := by decide +kernel
theorem dX5_rankAll_161 : decode cX5_rankAll 161 = .ok (.aload_n 0, 1) := by decide +kernel
theorem dX5_rankAll_162 : decode cX5_rankAll 162 = .ok (.getfield 45, 3) := by decide +kernel
theorem dX5_rankAll_165 : decode cX5_rankAll 165 = .ok (.iload_n 2, 1) := by decide +kernel
theorem dX5_rankAll_166 : decode cX5_rankAll 166 = .ok (.baload, 1) := by decide +kernel
theorem dX5_rankAll_167 : decode cX5_rankAll 167 = .ok (.ifCond .ne 6, 3) := by decide +kernel
theorem dX5_rankAll_170 : decode cX5_rankAll 170 = .ok (.goto 76, 3) := by decide +kernel
theorem dX5_rankAll_173 : decode cX5_rankAll 173 = .ok (.iconst 0, 1) := by decide +kernel
theorem dX5_rankAll_174 : decode cX5_rankAll 174 = .ok (.istore_n 3, 1) := by decide +kernel
theorem dX5_rankAll_175 : decode cX5_rankAll 175 = .ok (.iconst 0, 1) := by decide +kernel
theorem dX5_rankAll_176 : decode cX5_rankAll 176 = .ok (.istore 4, 2) := by decide +kernel
theorem dX5_rankAll_178 : decode cX5_rankAll 178 = .ok (.iload 4, 2) := by decide +kernel
theorem dX5_rankAll_180 : decode cX5_rankAll 180 = .ok (.iload_n 1, 1) := by decide +kernel
theorem dX5_rankAll_181 : decode cX5_rankAll 181 = .ok (.iload_n 1, 1) := by decide +kernel
theorem dX5_rankAll_182 : decode cX5_rankAll 182 = .ok (.imul, 1) := by decide +kernel
theorem dX5_rankAll_183 : decode cX5_rankAll 183 = .ok (.if_icmp .ge 56, 3) := by decide +kernel
theorem dX5_rankAll_186 : decode cX5_rankAll 186 = .ok (.aload_n 0, 1) := by decide +kernel
theorem dX5_rankAll_187 : decode cX5_rankAll 187 = .ok (.getfield 45, 3) := by decide +kernel
theorem dX5_rankAll_190 : decode cX5_rankAll 190 = .ok (.iload 4, 2) := by decide +kernel
theorem dX5_rankAll_192 : decode cX5_rankAll 192 = .ok (.baload, 1) := by decide +kernel
theorem dX5_rankAll_193 : decode cX5_rankAll 193 = .ok (.ifCond .eq 40, 3) := by decide +kernel
theorem dX5_rankAll_196 : decode cX5_rankAll 196 = .ok (.aload_n 0, 1) := by decide +kernel
theorem dX5_rankAll_197 : decode cX5_rankAll 197 = .ok (.iload 4, 2) := by decide +kernel
theorem dX5_rankAll_199 : decode cX5_rankAll 199 = .ok (.invokevirtual 117, 3) := by decide +kernel
theorem dX5_rankAll_202 : decode cX5_rankAll 202 = .ok (.aload_n 0, 1) := by decide +kernel
theorem dX5_rankAll_203 : decode cX5_rankAll 203 = .ok (.iload_n 2, 1) := by decide +kernel
theorem dX5_rankAll_204 : decode cX5_rankAll 204 = .ok (.invokevirtual 117, 3) := by decide +kernel
theorem dX5_rankAll_207 : decode cX5_rankAll 207 = .ok (.if_icmp .lt 23, 3) := by decide +kernel
theorem dX5_rankAll_210 : decode cX5_rankAll 210 = .ok (.aload_n 0, 1) := by decide +kernel
theorem dX5_rankAll_211 : decode cX5_rankAll 211 = .ok (.iload 4, 2) := by decide +kernel
theorem dX5_rankAll_213 : decode cX5_rankAll 213 = .ok (.invokevirtual 117, 3) := by decide +kernel
theorem dX5_rankAll_216 : decode cX5_rankAll 216 = .ok (.aload_n 0, 1) := by decide +kernel
theorem dX5_rankAll_217 : decode cX5_rankAll 217 = .ok (.iload_n 2, 1) := by decide +kernel
theorem dX5_rankAll_218 : decode cX5_rankAll 218 = .ok (.invokevirtual 117, 3) := by decide +kernel
theorem dX5_rankAll_221 : decode cX5_rankAll 221 = .ok (.if_icmp .ne 12, 3) := by decide +kernel
theorem dX5_rankAll_224 : decode cX5_rankAll 224 = .ok (.iload 4, 2) := by decide +kernel
theorem dX5_rankAll_226 : decode cX5_rankAll 226 = .ok (.iload_n 2, 1) := by decide +kernel
theorem dX5_rankAll_227 : decode cX5_rankAll 227 = .ok (.if_icmp .ge 6, 3) := by decide +kernel
theorem dX5_rankAll_230 : decode cX5_rankAll 230 = .ok (.iinc 3 1, 3) := by decide +kernel
theorem dX5_rankAll_233 : decode cX5_rankAll 233 = .ok (.iinc 4 1, 3) := by decide +kernel
theorem dX5_rankAll_236 : decode cX5_rankAll 236 = .ok (.goto (-58), 3) := by decide +kernel
theorem dX5_rankAll_239 : decode cX5_rankAll 239 = .ok (.aload_n 0, 1) := by decide +kernel
theorem dX5_rankAll_240 : decode cX5_rankAll 240 = .ok (.getfield 48, 3) := by decide +kernel
theorem dX5_rankAll_243 : decode cX5_rankAll 243 = .ok (.iload_n 2, 1) := by decide +kernel
theorem dX5_rankAll_244 : decode cX5_rankAll 244 = .ok (.iload_n 3, 1) := by decide +kernel
theorem dX5_rankAll_245 : decode cX5_rankAll 245 = .ok (.iastore, 1) := by decide +kernel
theorem dX5_rankAll_246 : decode cX5_rankAll 246 = .ok (.iinc 2 1, 3) := by decide +kernel
theorem dX5_rankAll_249 : decode cX5_rankAll 249 = .ok (.goto (-95), 3) := by decide +kernel
theorem dX5_rankAll_252 : decode cX5_rankAll 252 = .ok (.return_, 1) := by decide +kernel
set_option maxRecDepth 20000 in
theorem ggX5_rank_X5_isIn : GoodIn wsX5_rank wsX5_isIn := goodIn_r _ [6] (by decide +kernel) (by decide +kernel)
set_option maxRecDepth 20000 in
theorem gX5_rank_X5_isIn : GoodIn wsX5_rank (va_wsS RX5 54 yX5_isIn wsX5_isIn) := goodIn_app (goodIn_of _ (by decide +kernel)) ggX5_rank_X5_isIn
set_option maxRecDepth 20000 in
theorem ggX5_rank_X5_rankAll : GoodIn wsX5_rank wsX5_rankAll := goodIn_r _ [10, 11, 12, 13, 14, 15, 2, 16, 17, 18, 5, 19, 20, 21, 22, 23, 24, 25, 26, 27, 28, 29, 30, 31, 32, 33, 34, 35, 36, 37, 38, 39, 40, 41, 42, 43, 44, 45, 46, 47, 48, 49, 50] (by decide +kernel) (by decide +kernel)
set_option maxRecDepth 20000 in
theorem gX5_rank_X5_rankAll : GoodIn wsX5_rank (wsV RX5 120 RX5 yX5_rankAll wsX5_rankAll) := goodIn_app (goodIn_of _ (by decide +kernel)) ggX5_rank_X5_rankAll
set_option maxRecDepth 20000 in
theorem ggX5_rank_X5_pairOf : GoodIn wsX5_rank wsX5_pairOf := goodIn_r _ [23, 12, 13, 16, 17, 18, 5, 19, 24, 25, 26, 27, 32, 33, 34, 35, 36, 37, 38, 39, 40, 41, 42, 43, 44, 45, 46, 47, 48, 49, 50] (by decide +kernel) (by decide +kernel)
set_option maxRecDepth 20000 in
theorem gX5_rank_X5_pairOf : GoodIn wsX5_rank (wsV RX5 111 RX5 yX5_pairOf wsX5_pairOf) := goodIn_app (goodIn_of _ (by decide +kernel)) ggX5_rank_X5_pairOf
theorem dX5_rank_0 : decode cX5_rank 0 = .ok (.aload_n 0, 1) := by decide +kernel
theorem dX5_rank_1 : decode cX5_rank 1 = .ok (.iconst 0, 1) := by decide +kernel
theorem dX5_rank_2 : decode cX5_rank 2 = .ok (.putfield 51, 3) := by decide +kernel
theorem dX5_rank_5 : decode cX5_rank 5 = .ok (.iload_n 1, 1) := by decide +kernel
theorem dX5_rank_6 : decode cX5_rank 6 = .ok (.iconst 0, 1) := by decide +kernel
theorem dX5_rank_7 : decode cX5_rank 7 = .ok (.sipush 1000, 3) := by decide +kernel
theorem dX5_rank_10 : decode cX5_rank 10 = .ok (.invokestatic 54, 3) := by decide +kernel
theorem dX5_rank_13 : decode cX5_rank 13 = .ok (.ifCond .eq 14, 3) := by decide +kernel
theorem dX5_rank_16 : decode cX5_rank 16 = .ok (.iload_n 2, 1) := by decide +kernel
theorem dX5_rank_17 : decode cX5_rank 17 = .ok (.iconst 0, 1) := by decide +kernel
theorem dX5_rank_18 : decode cX5_rank 18 = .ok (.sipush 1000, 3) := by decide +kernel
theorem dX5_rank_21 : decode cX5_rank 21 = .ok (.invokestatic 54, 3) := by decide +kernel
theorem dX5_rank_24 : decode cX5_rank 24 = .ok (.ifCond .ne 5, 3) := by decide +kernel
theorem dX5_rank_27 : decode cX5_rank 27 = .ok (.iconst (-1), 1) := by decide +kernel
theorem dX5_rank_28 : decode cX5_rank 28 = .ok (.ireturn, 1) := by decide +kernel
theorem dX5_rank_29 : decode cX5_rank 29 = .ok (.aload_n 0, 1) := by decide +kernel
theorem dX5_rank_30 : decode cX5_rank 30 = .ok (.invokevirtual 120, 3) := by decide +kernel
theorem dX5_rank_33 : decode cX5_rank 33 = .ok (.aload_n 0, 1) := by decide +kernel
theorem dX5_rank_34 : decode cX5_rank 34 = .ok (.getfield 48, 3) := by decide +kernel
theorem dX5_rank_37 : decode cX5_rank 37 = .ok (.aload_n 0, 1) := by decide +kernel
theorem dX5_rank_38 : decode cX5_rank 38 = .ok (.iload_n 1, 1) := by decide +kernel
theorem dX5_rank_39 : decode cX5_rank 39 = .ok (.iload_n 2, 1) := by decide +kernel
theorem dX5_rank_40 : decode cX5_rank 40 = .ok (.invokevirtual 111, 3) := by decide +kernel
theorem dX5_rank_43 : decode cX5_rank 43 = .ok (.iaload, 1) := by decide +kernel
theorem dX5_rank_44 : decode cX5_rank 44 = .ok (.ireturn, 1) := by decide +kernel
set_option maxRecDepth 20000 in
theorem ggX5_isWay_X5_isIn : GoodIn wsX5_isWay wsX5_isIn := goodIn_r _ [4] (by decide +kernel) (by decide +kernel)
set_option maxRecDepth 20000 in
theorem gX5_isWay_X5_isIn : GoodIn wsX5_isWay (va_wsS RX5 54 yX5_isIn wsX5_isIn) := goodIn_app (goodIn_of _ (by decide +kernel)) ggX5_isWay_X5_isIn
theorem dX5_isWay_0 : decode cX5_isWay 0 = .ok (.iload_n 1, 1) := by decide +kernel
theorem dX5_isWay_1 : decode cX5_isWay 1 = .ok (.iconst 0, 1) := by decide +kernel
theorem dX5_isWay_2 : decode cX5_isWay 2 = .ok (.iconst 2, 1) := by decide +kernel
theorem dX5_isWay_3 : decode cX5_isWay 3 = .ok (.invokestatic 54, 3) := by decide +kernel
theorem dX5_isWay_6 : decode cX5_isWay 6 = .ok (.ireturn, 1) := by decide +kernel
set_option maxRecDepth 20000 in
theorem ggX5_carry_X5_isPlace : GoodIn wsX5_carry wsX5_isPlace := goodIn_r _ [7, 8, 9, 10, 11, 6, 12, 13, 14, 15, 16, 17, 18, 19, 20, 21, 22, 23, 24, 25, 26, 27, 28, 29, 30, 31] (by decide +kernel) (by decide +kernel)
set_option maxRecDepth 20000 in
theorem gX5_carry_X5_isPlace : GoodIn wsX5_carry (wsV RX5 58 RX5 yX5_isPlace wsX5_isPlace) := goodIn_app (goodIn_of _ (by decide +kernel)) ggX5_carry_X5_isPlace
theorem dX5_carry_0 : decode cX5_carry 0 = .ok (.aload_n 0, 1) := by decide +kernel
theorem dX5_carry_1 : decode cX5_carry 1 = .ok (.iload_n 1, 1) := by decide +kernel
theorem dX5_carry_2 : decode cX5_carry 2 = .ok (.iload_n 2, 1) := by decide +kernel
theorem dX5_carry_3 : decode cX5_carry 3 = .ok (.invokevirtual 58, 3) := by decide +kernel
theorem dX5_carry_6 : decode cX5_carry 6 = .ok (.ifCond .eq 21, 3) := by decide +kernel
theorem dX5_carry_9 : decode cX5_carry 9 = .ok (.aload_n 0, 1) := by decide +kernel
theorem dX5_carry_10 : decode cX5_carry 10 = .ok (.getfield 35, 3) := by decide +kernel
theorem dX5_carry_13 : decode cX5_carry 13 = .ok (.bipush 24, 2) := by decide +kernel
theorem dX5_carry_15 : decode cX5_carry 15 = .ok (.iload_n 2, 1) := by decide +kernel
theorem dX5_carry_16 : decode cX5_carry 16 = .ok (.imul, 1) := by decide +kernel
theorem dX5_carry_17 : decode cX5_carry 17 = .ok (.iload_n 1, 1) := by decide +kernel
theorem dX5_carry_18 : decode cX5_carry 18 = .ok (.iadd, 1) := by decide +kernel
theorem dX5_carry_19 : decode cX5_carry 19 = .ok (.dup2, 1) := by decide +kernel
theorem dX5_carry_20 : decode cX5_carry 20 = .ok (.iaload, 1) := by decide +kernel
theorem dX5_carry_21 : decode cX5_carry 21 = .ok (.iload_n 3, 1) := by decide +kernel
theorem dX5_carry_22 : decode cX5_carry 22 = .ok (.iadd, 1) := by decide +kernel
theorem dX5_carry_23 : decode cX5_carry 23 = .ok (.iastore, 1) := by decide +kernel
theorem dX5_carry_24 : decode cX5_carry 24 = .ok (.goto 13, 3) := by decide +kernel
theorem dX5_carry_27 : decode cX5_carry 27 = .ok (.aload_n 0, 1) := by decide +kernel
theorem dX5_carry_28 : decode cX5_carry 28 = .ok (.dup, 1) := by decide +kernel
theorem dX5_carry_29 : decode cX5_carry 29 = .ok (.getfield 123, 3) := by decide +kernel
theorem dX5_carry_32 : decode cX5_carry 32 = .ok (.iload_n 3, 1) := by decide +kernel
theorem dX5_carry_33 : decode cX5_carry 33 = .ok (.iadd, 1) := by decide +kernel
theorem dX5_carry_34 : decode cX5_carry 34 = .ok (.putfield 123, 3) := by decide +kernel
theorem dX5_carry_37 : decode cX5_carry 37 = .ok (.return_, 1) := by decide +kernel
set_option maxRecDepth 20000 in
theorem ggX5_carryAll_J9_floorDiv_7cf53 : GoodIn wsX5_carryAll wsJ9_floorDiv_7cf53 := goodIn_r _ [12] (by decide +kernel) (by decide +kernel)
set_option maxRecDepth 20000 in
theorem gX5_carryAll_J9_floorDiv_7cf53 : GoodIn wsX5_carryAll (va_wsS RX5 126 yJ9_floorDiv_7cf53 wsJ9_floorDiv_7cf53) := goodIn_app (goodIn_of _ (by decide +kernel)) ggX5_carryAll_J9_floorDiv_7cf53
set_option maxRecDepth 20000 in
theorem ggX5_carryAll_X5_carry : GoodIn wsX5_carryAll wsX5_carry := goodIn_r _ [17, 2, 1, 18, 19, 20, 16, 21, 5, 3, 22, 23, 24, 25, 26, 27, 28, 29, 30, 31, 32, 33, 34, 35, 36, 37, 38, 39, 40, 41, 42, 43] (by decide +kernel) (by decide +kernel)
set_option maxRecDepth 20000 in
theorem gX5_carryAll_X5_carry : GoodIn wsX5_carryAll (wsV RX5 129 RX5 yX5_carry wsX5_carry) := goodIn_app (goodIn_of _ (by decide +kernel)) ggX5_carryAll_X5_carry
theorem dX5_carryAll_0 : decode cX5_carryAll 0 = .ok (.aload_n 0, 1) := by decide +kernel
theorem dX5_carryAll_1 : decode cX5_carryAll 1 = .ok (.iconst 0, 1) := by decide +kernel
theorem dX5_carryAll_2 : decode cX5_carryAll 2 = .ok (.putfield 123, 3) := by decide +kernel
theorem dX5_carryAll_5 : decode cX5_carryAll 5 = .ok (.iconst 0, 1) := by decide +kernel
theorem dX5_carryAll_6 : decode cX5_carryAll 6 = .ok (.istore_n 1, 1) := by decide +kernel
theorem dX5_carryAll_7 : decode cX5_carryAll 7 = .ok (.iload_n 1, 1) := by decide +kernel
theorem dX5_carryAll_8 : decode cX5_carryAll 8 = .ok (.sipush 576, 3) := by decide +kernel
theorem dX5_carryAll_11 : decode cX5_carryAll 11 = .ok (.if_icmp .ge 16, 3) := by decide +kernel
theorem dX5_carryAll_14 : decode cX5_carryAll 14 = .ok (.aload_n 0, 1) := by decide +kernel
theorem dX5_carryAll_15 : decode cX5_carryAll 15 = .ok (.getfield 35, 3) := by decide +kernel
theorem dX5_carryAll_18 : decode cX5_carryAll 18 = .ok (.iload_n 1, 1) := by decide +kernel
theorem dX5_carryAll_19 : decode cX5_carryAll 19 = .ok (.iconst 0, 1) := by decide +kernel
theorem dX5_carryAll_20 : decode cX5_carryAll 20 = .ok (.iastore, 1) := by decide +kernel
theorem dX5_carryAll_21 : decode cX5_carryAll 21 = .ok (.iinc 1 1, 3) := by decide +kernel
theorem dX5_carryAll_24 : decode cX5_carryAll 24 = .ok (.goto (-17), 3) := by decide +kernel
theorem dX5_carryAll_27 : decode cX5_carryAll 27 = .ok (.iconst 0, 1) := by decide +kernel
theorem dX5_carryAll_28 : decode cX5_carryAll 28 = .ok (.istore_n 1, 1) := by decide +kernel
theorem dX5_carryAll_29 : decode cX5_carryAll 29 = .ok (.iload_n 1, 1) := by decide +kernel
theorem dX5_carryAll_30 : decode cX5_carryAll 30 = .ok (.aload_n 0, 1) := by decide +kernel
theorem dX5_carryAll_31 : decode cX5_carryAll 31 = .ok (.getfield 13, 3) := by decide +kernel
theorem dX5_carryAll_34 : decode cX5_carryAll 34 = .ok (.if_icmp .ge 291, 3) := by decide +kernel
theorem dX5_carryAll_37 : decode cX5_carryAll 37 = .ok (.aload_n 0, 1) := by decide +kernel
theorem dX5_carryAll_38 : decode cX5_carryAll 38 = .ok (.getfield 97, 3) := by decide +kernel
theorem dX5_carryAll_41 : decode cX5_carryAll 41 = .ok (.ifCond .eq 14, 3) := by decide +kernel
theorem dX5_carryAll_44 : decode cX5_carryAll 44 = .ok (.iload_n 1, 1) := by decide +kernel
theorem dX5_carryAll_45 : decode cX5_carryAll 45 = .ok (.iconst 2, 1) := by decide +kernel
theorem dX5_carryAll_46 : decode cX5_carryAll 46 = .ok (.irem, 1) := by decide +kernel
theorem dX5_carryAll_47 : decode cX5_carryAll 47 = .ok (.iconst 1, 1) := by decide +kernel
theorem dX5_carryAll_48 : decode cX5_carryAll 48 = .ok (.if_icmp .ne 7, 3) := by decide +kernel
theorem dX5_carryAll_51 : decode cX5_carryAll 51 = .ok (.iconst 1, 1) := by decide +kernel
theorem dX5_carryAll_52 : decode cX5_carryAll 52 = .ok (.goto 4, 3) := by decide +kernel
theorem dX5_carryAll_55 : decode cX5_carryAll 55 = .ok (.iconst 0, 1) := by decide +kernel
theorem dX5_carryAll_56 : decode cX5_carryAll 56 = .ok (.istore_n 2, 1) := by decide +kernel
theorem dX5_carryAll_57 : decode cX5_carryAll 57 = .ok (.iload_n 2, 1) := by decide +kernel
theorem dX5_carryAll_58 : decode cX5_carryAll 58 = .ok (.ifCond .eq 7, 3) := by decide +kernel
theorem dX5_carryAll_61 : decode cX5_carryAll 61 = .ok (.iconst (-1), 1) := by decide +kernel
theorem dX5_carryAll_62 : decode cX5_carryAll 62 = .ok (.goto 4, 3) := by decide +kernel
theorem dX5_carryAll_65 : decode cX5_carryAll 65 = .ok (.iconst 1, 1) := by decide +kernel
theorem dX5_carryAll_66 : decode cX5_carryAll 66 = .ok (.istore_n 3, 1) := by decide +kernel
theorem dX5_carryAll_67 : decode cX5_carryAll 67 = .ok (.iconst 0, 1) := by decide +kernel
theorem dX5_carryAll_68 : decode cX5_carryAll 68 = .ok (.istore 4, 2) := by decide +kernel
theorem dX5_carryAll_70 : decode cX5_carryAll 70 = .ok (.iload 4, 2) := by decide +kernel
theorem dX5_carryAll_72 : decode cX5_carryAll 72 = .ok (.aload_n 0, 1) := by decide +kernel
theorem dX5_carryAll_73 : decode cX5_carryAll 73 = .ok (.getfield 7, 3) := by decide +kernel
theorem dX5_carryAll_76 : decode cX5_carryAll 76 = .ok (.if_icmp .ge 243, 3) := by decide +kernel
theorem dX5_carryAll_79 : decode cX5_carryAll 79 = .ok (.iload_n 2, 1) := by decide +kernel
theorem dX5_carryAll_80 : decode cX5_carryAll 80 = .ok (.ifCond .eq 15, 3) := by decide +kernel
theorem dX5_carryAll_83 : decode cX5_carryAll 83 = .ok (.aload_n 0, 1) := by decide +kernel
theorem dX5_carryAll_84 : decode cX5_carryAll 84 = .ok (.getfield 7, 3) := by decide +kernel
theorem dX5_carryAll_87 : decode cX5_carryAll 87 = .ok (.iconst 1, 1) := by decide +kernel
theorem dX5_carryAll_88 : decode cX5_carryAll 88 = .ok (.isub, 1) := by decide +kernel
theorem dX5_carryAll_89 : decode cX5_carryAll 89 = .ok (.iload 4, 2) := by decide +kernel
theorem dX5_carryAll_91 : decode cX5_carryAll 91 = .ok (.isub, 1) := by decide +kernel
theorem dX5_carryAll_92 : decode cX5_carryAll 92 = .ok (.goto 5, 3) := by decide +kernel
theorem dX5_carryAll_95 : decode cX5_carryAll 95 = .ok (.iload 4, 2) := by decide +kernel
theorem dX5_carryAll_97 : decode cX5_carryAll 97 = .ok (.istore 5, 2) := by decide +kernel
theorem dX5_carryAll_99 : decode cX5_carryAll 99 = .ok (.bipush 24, 2) := by decide +kernel
theorem dX5_carryAll_101 : decode cX5_carryAll 101 = .ok (.iload_n 1, 1) := by decide +kernel
theorem dX5_carryAll_102 : decode cX5_carryAll 102 = .ok (.imul, 1) := by decide +kernel
theorem dX5_carryAll_103 : decode cX5_carryAll 103 = .ok (.iload 5, 2) := by decide +kernel
theorem dX5_carryAll_105 : decode cX5_carryAll 105 = .ok (.iadd, 1) := by decide +kernel
theorem dX5_carryAll_106 : decode cX5_carryAll 106 = .ok (.istore 6, 2) := by decide +kernel
theorem dX5_carryAll_108 : decode cX5_carryAll 108 = .ok (.aload_n 0, 1) := by decide +kernel
theorem dX5_carryAll_109 : decode cX5_carryAll 109 = .ok (.getfield 38, 3) := by decide +kernel
theorem dX5_carryAll_112 : decode cX5_carryAll 112 = .ok (.iload 6, 2) := by decide +kernel
theorem dX5_carryAll_114 : decode cX5_carryAll 114 = .ok (.baload, 1) := by decide +kernel
theorem dX5_carryAll_115 : decode cX5_carryAll 115 = .ok (.ifCond .eq 47, 3) := by decide +kernel
theorem dX5_carryAll_118 : decode cX5_carryAll 118 = .ok (.aload_n 0, 1) := by decide +kernel
theorem dX5_carryAll_119 : decode cX5_carryAll 119 = .ok (.getfield 42, 3) := by decide +kernel
theorem dX5_carryAll_122 : decode cX5_carryAll 122 = .ok (.iload 6, 2) := by decide +kernel
theorem dX5_carryAll_124 : decode cX5_carryAll 124 = .ok (.aload_n 0, 1) := by decide +kernel
theorem dX5_carryAll_125 : decode cX5_carryAll 125 = .ok (.getfield 28, 3) := by decide +kernel
theorem dX5_carryAll_128 : decode cX5_carryAll 128 = .ok (.iload 6, 2) := by decide +kernel
theorem dX5_carryAll_130 : decode cX5_carryAll 130 = .ok (.iaload, 1) := by decide +kernel
theorem dX5_carryAll_131 : decode cX5_carryAll 131 = .ok (.sipush 128, 3) := by decide +kernel
theorem dX5_carryAll_134 : decode cX5_carryAll 134 = .ok (.if_icmp .lt 7, 3) := by decide +kernel
theorem dX5_carryAll_137 : decode cX5_carryAll 137 = .ok (.iconst 1, 1) := by decide +kernel
theorem dX5_carryAll_138 : decode cX5_carryAll 138 = .ok (.goto 4, 3) := by decide +kernel
theorem dX5_carryAll_141 : decode cX5_carryAll 141 = .ok (.iconst 0, 1) := by decide +kernel
theorem dX5_carryAll_142 : decode cX5_carryAll 142 = .ok (.bastore, 1) := by decide +kernel
theorem dX5_carryAll_143 : decode cX5_carryAll 143 = .ok (.aload_n 0, 1) := by decide +kernel
theorem dX5_carryAll_144 : decode cX5_carryAll 144 = .ok (.dup, 1) := by decide +kernel
theorem dX5_carryAll_145 : decode cX5_carryAll 145 = .ok (.getfield 123, 3) := by decide +kernel
theorem dX5_carryAll_148 : decode cX5_carryAll 148 = .ok (.aload_n 0, 1) := by decide +kernel
theorem dX5_carryAll_149 : decode cX5_carryAll 149 = .ok (.getfield 35, 3) := by decide +kernel
theorem dX5_carryAll_152 : decode cX5_carryAll 152 = .ok (.iload 6, 2) := by decide +kernel
theorem dX5_carryAll_154 : decode cX5_carryAll 154 = .ok (.iaload, 1) := by decide +kernel
theorem dX5_carryAll_155 : decode cX5_carryAll 155 = .ok (.iadd, 1) := by decide +kernel
theorem dX5_carryAll_156 : decode cX5_carryAll 156 = .ok (.putfield 123, 3) := by decide +kernel
theorem dX5_carryAll_159 : decode cX5_carryAll 159 = .ok (.goto 154, 3) := by decide +kernel
theorem dX5_carryAll_162 : decode cX5_carryAll 162 = .ok (.aload_n 0, 1) := by decide +kernel
theorem dX5_carryAll_163 : decode cX5_carryAll 163 = .ok (.getfield 28, 3) := by decide +kernel
theorem dX5_carryAll_166 : decode cX5_carryAll 166 = .ok (.iload 6, 2) := by decide +kernel
theorem dX5_carryAll_168 : decode cX5_carryAll 168 = .ok (.iaload, 1) := by decide +kernel
theorem dX5_carryAll_169 : decode cX5_carryAll 169 = .ok (.aload_n 0, 1) := by decide +kernel
theorem dX5_carryAll_170 : decode cX5_carryAll 170 = .ok (.getfield 35, 3) := by decide +kernel
theorem dX5_carryAll_173 : decode cX5_carryAll 173 = .ok (.iload 6, 2) := by decide +kernel
theorem dX5_carryAll_175 : decode cX5_carryAll 175 = .ok (.iaload, 1) := by decide +kernel
theorem dX5_carryAll_176 : decode cX5_carryAll 176 = .ok (.iadd, 1) := by decide +kernel
theorem dX5_carryAll_177 : decode cX5_carryAll 177 = .ok (.istore 7, 2) := by decide +kernel
theorem dX5_carryAll_179 : decode cX5_carryAll 179 = .ok (.aload_n 0, 1) := by decide +kernel
theorem dX5_carryAll_180 : decode cX5_carryAll 180 = .ok (.getfield 42, 3) := by decide +kernel
theorem dX5_carryAll_183 : decode cX5_carryAll 183 = .ok (.iload 6, 2) := by decide +kernel
theorem dX5_carryAll_185 : decode cX5_carryAll 185 = .ok (.iload 7, 2) := by decide +kernel
theorem dX5_carryAll_187 : decode cX5_carryAll 187 = .ok (.sipush 128, 3) := by decide +kernel
theorem dX5_carryAll_190 : decode cX5_carryAll 190 = .ok (.if_icmp .lt 7, 3) := by decide +kernel
theorem dX5_carryAll_193 : decode cX5_carryAll 193 = .ok (.iconst 1, 1) := by decide +kernel
theorem dX5_carryAll_194 : decode cX5_carryAll 194 = .ok (.goto 4, 3) := by decide +kernel
theorem dX5_carryAll_197 : decode cX5_carryAll 197 = .ok (.iconst 0, 1) := by decide +kernel
theorem dX5_carryAll_198 : decode cX5_carryAll 198 = .ok (.bastore, 1) := by decide +kernel
theorem dX5_carryAll_199 : decode cX5_carryAll 199 = .ok (.aload_n 0, 1) := by decide +kernel
theorem dX5_carryAll_200 : decode cX5_carryAll 200 = .ok (.getfield 42, 3) := by decide +kernel
theorem dX5_carryAll_203 : decode cX5_carryAll 203 = .ok (.iload 6, 2) := by decide +kernel
theorem dX5_carryAll_205 : decode cX5_carryAll 205 = .ok (.baload, 1) := by decide +kernel
theorem dX5_carryAll_206 : decode cX5_carryAll 206 = .ok (.ifCond .eq 12, 3) := by decide +kernel
theorem dX5_carryAll_209 : decode cX5_carryAll 209 = .ok (.iload 7, 2) := by decide +kernel
theorem dX5_carryAll_211 : decode cX5_carryAll 211 = .ok (.sipush 255, 3) := by decide +kernel
theorem dX5_carryAll_214 : decode cX5_carryAll 214 = .ok (.isub, 1) := by decide +kernel
theorem dX5_carryAll_215 : decode cX5_carryAll 215 = .ok (.goto 5, 3) := by decide +kernel
theorem dX5_carryAll_218 : decode cX5_carryAll 218 = .ok (.iload 7, 2) := by decide +kernel
theorem dX5_carryAll_220 : decode cX5_carryAll 220 = .ok (.istore 8, 2) := by decide +kernel
theorem dX5_carryAll_222 : decode cX5_carryAll 222 = .ok (.bipush 7, 2) := by decide +kernel
theorem dX5_carryAll_224 : decode cX5_carryAll 224 = .ok (.iload 8, 2) := by decide +kernel
theorem dX5_carryAll_226 : decode cX5_carryAll 226 = .ok (.imul, 1) := by decide +kernel
theorem dX5_carryAll_227 : decode cX5_carryAll 227 = .ok (.bipush 16, 2) := by decide +kernel
theorem dX5_carryAll_229 : decode cX5_carryAll 229 = .ok (.invokestatic 126, 3) := by decide +kernel
theorem dX5_carryAll_232 : decode cX5_carryAll 232 = .ok (.istore 9, 2) := by decide +kernel
theorem dX5_carryAll_234 : decode cX5_carryAll 234 = .ok (.iconst 3, 1) := by decide +kernel
theorem dX5_carryAll_235 : decode cX5_carryAll 235 = .ok (.iload 8, 2) := by decide +kernel
theorem dX5_carryAll_237 : decode cX5_carryAll 237 = .ok (.imul, 1) := by decide +kernel
theorem dX5_carryAll_238 : decode cX5_carryAll 238 = .ok (.bipush 16, 2) := by decide +kernel
theorem dX5_carryAll_240 : decode cX5_carryAll 240 = .ok (.invokestatic 126, 3) := by decide +kernel
theorem dX5_carryAll_243 : decode cX5_carryAll 243 = .ok (.istore 10, 2) := by decide +kernel
theorem dX5_carryAll_245 : decode cX5_carryAll 245 = .ok (.iconst 5, 1) := by decide +kernel
theorem dX5_carryAll_246 : decode cX5_carryAll 246 = .ok (.iload 8, 2) := by decide +kernel
theorem dX5_carryAll_248 : decode cX5_carryAll 248 = .ok (.imul, 1) := by decide +kernel
theorem dX5_carryAll_249 : decode cX5_carryAll 249 = .ok (.bipush 16, 2) := by decide +kernel
theorem dX5_carryAll_251 : decode cX5_carryAll 251 = .ok (.invokestatic 126, 3) := by decide +kernel
theorem dX5_carryAll_254 : decode cX5_carryAll 254 = .ok (.istore 11, 2) := by decide +kernel
theorem dX5_carryAll_256 : decode cX5_carryAll 256 = .ok (.aload_n 0, 1) := by decide +kernel
theorem dX5_carryAll_257 : decode cX5_carryAll 257 = .ok (.iload 5, 2) := by decide +kernel
theorem dX5_carryAll_259 : decode cX5_carryAll 259 = .ok (.iload_n 3, 1) := by decide +kernel
theorem dX5_carryAll_260 : decode cX5_carryAll 260 = .ok (.iadd, 1) := by decide +kernel
theorem dX5_carryAll_261 : decode cX5_carryAll 261 = .ok (.iload_n 1, 1) := by decide +kernel
theorem dX5_carryAll_262 : decode cX5_carryAll 262 = .ok (.iload 9, 2) := by decide +kernel
theorem dX5_carryAll_264 : decode cX5_carryAll 264 = .ok (.invokevirtual 129, 3) := by decide +kernel
theorem dX5_carryAll_267 : decode cX5_carryAll 267 = .ok (.aload_n 0, 1) := by decide +kernel
theorem dX5_carryAll_268 : decode cX5_carryAll 268 = .ok (.iload 5, 2) := by decide +kernel
theorem dX5_carryAll_270 : decode cX5_carryAll 270 = .ok (.iload_n 3, 1) := by decide +kernel
theorem dX5_carryAll_271 : decode cX5_carryAll 271 = .ok (.isub, 1) := by decide +kernel
theorem dX5_carryAll_272 : decode cX5_carryAll 272 = .ok (.iload_n 1, 1) := by decide +kernel
theorem dX5_carryAll_273 : decode cX5_carryAll 273 = .ok (.iconst 1, 1) := by decide +kernel
theorem dX5_carryAll_274 : decode cX5_carryAll 274 = .ok (.iadd, 1) := by decide +kernel
theorem dX5_carryAll_275 : decode cX5_carryAll 275 = .ok (.iload 10, 2) := by decide +kernel
theorem dX5_carryAll_277 : decode cX5_carryAll 277 = .ok (.invokevirtual 129, 3) := by decide +kernel
theorem dX5_carryAll_280 : decode cX5_carryAll 280 = .ok (.aload_n 0, 1) := by decide +kernel
theorem dX5_carryAll_281 : decode cX5_carryAll 281 = .ok (.iload 5, 2) := by decide +kernel
theorem dX5_carryAll_283 : decode cX5_carryAll 283 = .ok (.iload_n 1, 1) := by decide +kernel
theorem dX5_carryAll_284 : decode cX5_carryAll 284 = .ok (.iconst 1, 1) := by decide +kernel
theorem dX5_carryAll_285 : decode cX5_carryAll 285 = .ok (.iadd, 1) := by decide +kernel
theorem dX5_carryAll_286 : decode cX5_carryAll 286 = .ok (.iload 11, 2) := by decide +kernel
theorem dX5_carryAll_288 : decode cX5_carryAll 288 = .ok (.invokevirtual 129, 3) := by decide +kernel
theorem dX5_carryAll_291 : decode cX5_carryAll 291 = .ok (.aload_n 0, 1) := by decide +kernel
theorem dX5_carryAll_292 : decode cX5_carryAll 292 = .ok (.iload 5, 2) := by decide +kernel
theorem dX5_carryAll_294 : decode cX5_carryAll 294 = .ok (.iload_n 3, 1) := by decide +kernel
theorem dX5_carryAll_295 : decode cX5_carryAll 295 = .ok (.iadd, 1) := by decide +kernel
theorem dX5_carryAll_296 : decode cX5_carryAll 296 = .ok (.iload_n 1, 1) := by decide +kernel
theorem dX5_carryAll_297 : decode cX5_carryAll 297 = .ok (.iconst 1, 1) := by decide +kernel
theorem dX5_carryAll_298 : decode cX5_carryAll 298 = .ok (.iadd, 1) := by decide +kernel
theorem dX5_carryAll_299 : decode cX5_carryAll 299 = .ok (.iload 8, 2) := by decide +kernel
theorem dX5_carryAll_301 : decode cX5_carryAll 301 = .ok (.iload 9, 2) := by decide +kernel
theorem dX5_carryAll_303 : decode cX5_carryAll 303 = .ok (.isub, 1) := by decide +kernel
theorem dX5_carryAll_304 : decode cX5_carryAll 304 = .ok (.iload 10, 2) := by decide +kernel
theorem dX5_carryAll_306 : decode cX5_carryAll 306 = .ok (.isub, 1) := by decide +kernel
theorem dX5_carryAll_307 : decode cX5_carryAll 307 = .ok (.iload 11, 2) := by decide +kernel
theorem dX5_carryAll_309 : decode cX5_carryAll 309 = .ok (.isub, 1) := by decide +kernel
theorem dX5_carryAll_310 : decode cX5_carryAll 310 = .ok (.invokevirtual 129, 3) := by decide +kernel
theorem dX5_carryAll_313 : decode cX5_carryAll 313 = .ok (.iinc 4 1, 3) := by decide +kernel
theorem dX5_carryAll_316 : decode cX5_carryAll 316 = .ok (.goto (-246), 3) := by decide +kernel
theorem dX5_carryAll_319 : decode cX5_carryAll 319 = .ok (.iinc 1 1, 3) := by decide +kernel
theorem dX5_carryAll_322 : decode cX5_carryAll 322 = .ok (.goto (-293), 3) := by decide +kernel
theorem dX5_carryAll_325 : decode cX5_carryAll 325 = .ok (.return_, 1) := by decide +kernel
set_option maxRecDepth 20000 in
theorem ggX5_make_X5_carryAll : GoodIn wsX5_make wsX5_carryAll := goodIn_r _ [14, 15, 16, 1, 17, 2, 4, 5, 3, 18, 19, 20, 21, 22, 23, 24, 13, 25, 26, 27, 28, 29, 30, 31, 32, 56, 57, 58, 59, 60, 61, 62, 63, 64, 65, 66, 67, 68, 69, 70, 71, 72, 73, 74] (by decide +kernel) (by decide +kernel)
set_option maxRecDepth 20000 in
theorem gX5_make_X5_carryAll : GoodIn wsX5_make (wsV RX5 133 RX5 yX5_carryAll wsX5_carryAll) := goodIn_app (goodIn_of _ (by decide +kernel)) ggX5_make_X5_carryAll
set_option maxRecDepth 20000 in
theorem ggX5_make_X5_rankAll : GoodIn wsX5_make wsX5_rankAll := goodIn_r _ [36, 37, 38, 39, 40, 8, 9, 41, 42, 43, 13, 44, 45, 46, 47, 48, 49, 50, 20, 51, 52, 53, 54, 55, 56, 57, 58, 59, 60, 61, 62, 63, 64, 65, 66, 67, 68, 69, 70, 71, 72, 73, 74] (by decide +kernel) (by decide +kernel)
set_option maxRecDepth 20000 in
theorem gX5_make_X5_rankAll : GoodIn wsX5_make (wsV RX5 120 RX5 yX5_rankAll wsX5_rankAll) := goodIn_app (goodIn_of _ (by decide +kernel)) ggX5_make_X5_rankAll
set_option maxRecDepth 20000 in
theorem ggX5_make_X5_pairOf : GoodIn wsX5_make wsX5_pairOf := goodIn_r _ [48, 38, 39, 41, 42, 43, 13, 44, 49, 50, 20, 51, 56, 57, 58, 59, 60, 61, 62, 63, 64, 65, 66, 67, 68, 69, 70, 71, 72, 73, 74] (by decide +kernel) (by decide +kernel)
set_option maxRecDepth 20000 in
theorem gX5_make_X5_pairOf : GoodIn wsX5_make (wsV RX5 111 RX5 yX5_pairOf wsX5_pairOf) := goodIn_app (goodIn_of _ (by decide +kernel)) ggX5_make_X5_pairOf
theorem dX5_make_0 : decode cX5_make 0 = .ok (.iload_n 1, 1) := by decide +kernel
theorem dX5_make_1 : decode cX5_make 1 = .ok (.iconst 1, 1) := by decide +kernel
theorem dX5_make_2 : decode cX5_make 2 = .ok (.if_icmp .ne 8, 3) := by decide +kernel
theorem dX5_make_5 : decode cX5_make 5 = .ok (.aload_n 0, 1) := by decide +kernel
theorem dX5_make_6 : decode cX5_make 6 = .ok (.invokevirtual 133, 3) := by decide +kernel
theorem dX5_make_9 : decode cX5_make 9 = .ok (.return_, 1) := by decide +kernel
theorem dX5_make_10 : decode cX5_make 10 = .ok (.iload_n 1, 1) := by decide +kernel
theorem dX5_make_11 : decode cX5_make 11 = .ok (.iconst 2, 1) := by decide +kernel
theorem dX5_make_12 : decode cX5_make 12 = .ok (.if_icmp .ne 7, 3) := by decide +kernel
theorem dX5_make_15 : decode cX5_make 15 = .ok (.aload_n 0, 1) := by decide +kernel
theorem dX5_make_16 : decode cX5_make 16 = .ok (.invokevirtual 120, 3) := by decide +kernel
theorem dX5_make_19 : decode cX5_make 19 = .ok (.iconst 0, 1) := by decide +kernel
theorem dX5_make_20 : decode cX5_make 20 = .ok (.istore_n 2, 1) := by decide +kernel
theorem dX5_make_21 : decode cX5_make 21 = .ok (.iload_n 2, 1) := by decide +kernel
theorem dX5_make_22 : decode cX5_make 22 = .ok (.aload_n 0, 1) := by decide +kernel
theorem dX5_make_23 : decode cX5_make 23 = .ok (.getfield 13, 3) := by decide +kernel
theorem dX5_make_26 : decode cX5_make 26 = .ok (.if_icmp .ge 173, 3) := by decide +kernel
theorem dX5_make_29 : decode cX5_make 29 = .ok (.iconst 0, 1) := by decide +kernel
theorem dX5_make_30 : decode cX5_make 30 = .ok (.istore_n 3, 1) := by decide +kernel
theorem dX5_make_31 : decode cX5_make 31 = .ok (.iload_n 3, 1) := by decide +kernel
theorem dX5_make_32 : decode cX5_make 32 = .ok (.aload_n 0, 1) := by decide +kernel
theorem dX5_make_33 : decode cX5_make 33 = .ok (.getfield 7, 3) := by decide +kernel
theorem dX5_make_36 : decode cX5_make 36 = .ok (.if_icmp .ge 157, 3) := by decide +kernel
theorem dX5_make_39 : decode cX5_make 39 = .ok (.bipush 24, 2) := by decide +kernel
theorem dX5_make_41 : decode cX5_make 41 = .ok (.iload_n 2, 1) := by decide +kernel
theorem dX5_make_42 : decode cX5_make 42 = .ok (.imul, 1) := by decide +kernel
theorem dX5_make_43 : decode cX5_make 43 = .ok (.iload_n 3, 1) := by decide +kernel
theorem dX5_make_44 : decode cX5_make 44 = .ok (.iadd, 1) := by decide +kernel
theorem dX5_make_45 : decode cX5_make 45 = .ok (.istore 4, 2) := by decide +kernel
theorem dX5_make_47 : decode cX5_make 47 = .ok (.aload_n 0, 1) := by decide +kernel
theorem dX5_make_48 : decode cX5_make 48 = .ok (.getfield 28, 3) := by decide +kernel
theorem dX5_make_51 : decode cX5_make 51 = .ok (.iload 4, 2) := by decide +kernel
theorem dX5_make_53 : decode cX5_make 53 = .ok (.iaload, 1) := by decide +kernel
theorem dX5_make_54 : decode cX5_make 54 = .ok (.istore 5, 2) := by decide +kernel
theorem dX5_make_56 : decode cX5_make 56 = .ok (.aload_n 0, 1) := by decide +kernel
theorem dX5_make_57 : decode cX5_make 57 = .ok (.getfield 38, 3) := by decide +kernel
theorem dX5_make_60 : decode cX5_make 60 = .ok (.iload 4, 2) := by decide +kernel
theorem dX5_make_62 : decode cX5_make 62 = .ok (.baload, 1) := by decide +kernel
theorem dX5_make_63 : decode cX5_make 63 = .ok (.ifCond .eq 26, 3) := by decide +kernel
theorem dX5_make_66 : decode cX5_make 66 = .ok (.aload_n 0, 1) := by decide +kernel
theorem dX5_make_67 : decode cX5_make 67 = .ok (.getfield 42, 3) := by decide +kernel
theorem dX5_make_70 : decode cX5_make 70 = .ok (.iload 4, 2) := by decide +kernel
theorem dX5_make_72 : decode cX5_make 72 = .ok (.iload 5, 2) := by decide +kernel
theorem dX5_make_74 : decode cX5_make 74 = .ok (.sipush 128, 3) := by decide +kernel
theorem dX5_make_77 : decode cX5_make 77 = .ok (.if_icmp .lt 7, 3) := by decide +kernel
theorem dX5_make_80 : decode cX5_make 80 = .ok (.iconst 1, 1) := by decide +kernel
theorem dX5_make_81 : decode cX5_make 81 = .ok (.goto 4, 3) := by decide +kernel
theorem dX5_make_84 : decode cX5_make 84 = .ok (.iconst 0, 1) := by decide +kernel
theorem dX5_make_85 : decode cX5_make 85 = .ok (.bastore, 1) := by decide +kernel
theorem dX5_make_86 : decode cX5_make 86 = .ok (.goto 101, 3) := by decide +kernel
theorem dX5_make_89 : decode cX5_make 89 = .ok (.iload_n 1, 1) := by decide +kernel
theorem dX5_make_90 : decode cX5_make 90 = .ok (.ifCond .ne 60, 3) := by decide +kernel
theorem dX5_make_93 : decode cX5_make 93 = .ok (.aload_n 0, 1) := by decide +kernel
theorem dX5_make_94 : decode cX5_make 94 = .ok (.getfield 42, 3) := by decide +kernel
theorem dX5_make_97 : decode cX5_make 97 = .ok (.iload 4, 2) := by decide +kernel
theorem dX5_make_99 : decode cX5_make 99 = .ok (.aload_n 0, 1) := by decide +kernel
theorem dX5_make_100 : decode cX5_make 100 = .ok (.getfield 16, 3) := by decide +kernel
theorem dX5_make_103 : decode cX5_make 103 = .ok (.aload_n 0, 1) := by decide +kernel
theorem dX5_make_104 : decode cX5_make 104 = .ok (.getfield 16, 3) := by decide +kernel
theorem dX5_make_107 : decode cX5_make 107 = .ok (.imul, 1) := by decide +kernel
theorem dX5_make_108 : decode cX5_make 108 = .ok (.iload 5, 2) := by decide +kernel
theorem dX5_make_110 : decode cX5_make 110 = .ok (.imul, 1) := by decide +kernel
theorem dX5_make_111 : decode cX5_make 111 = .ok (.sipush 255, 3) := by decide +kernel
theorem dX5_make_114 : decode cX5_make 114 = .ok (.aload_n 0, 1) := by decide +kernel
theorem dX5_make_115 : decode cX5_make 115 = .ok (.getfield 32, 3) := by decide +kernel
theorem dX5_make_118 : decode cX5_make 118 = .ok (.aload_n 0, 1) := by decide +kernel
theorem dX5_make_119 : decode cX5_make 119 = .ok (.getfield 16, 3) := by decide +kernel
theorem dX5_make_122 : decode cX5_make 122 = .ok (.iload_n 2, 1) := by decide +kernel
theorem dX5_make_123 : decode cX5_make 123 = .ok (.aload_n 0, 1) := by decide +kernel
theorem dX5_make_124 : decode cX5_make 124 = .ok (.getfield 16, 3) := by decide +kernel
theorem dX5_make_127 : decode cX5_make 127 = .ok (.irem, 1) := by decide +kernel
theorem dX5_make_128 : decode cX5_make 128 = .ok (.imul, 1) := by decide +kernel
theorem dX5_make_129 : decode cX5_make 129 = .ok (.iload_n 3, 1) := by decide +kernel
theorem dX5_make_130 : decode cX5_make 130 = .ok (.aload_n 0, 1) := by decide +kernel
theorem dX5_make_131 : decode cX5_make 131 = .ok (.getfield 16, 3) := by decide +kernel
theorem dX5_make_134 : decode cX5_make 134 = .ok (.irem, 1) := by decide +kernel
theorem dX5_make_135 : decode cX5_make 135 = .ok (.iadd, 1) := by decide +kernel
theorem dX5_make_136 : decode cX5_make 136 = .ok (.iaload, 1) := by decide +kernel
theorem dX5_make_137 : decode cX5_make 137 = .ok (.imul, 1) := by decide +kernel
theorem dX5_make_138 : decode cX5_make 138 = .ok (.if_icmp .le 7, 3) := by decide +kernel
theorem dX5_make_141 : decode cX5_make 141 = .ok (.iconst 1, 1) := by decide +kernel
theorem dX5_make_142 : decode cX5_make 142 = .ok (.goto 4, 3) := by decide +kernel
theorem dX5_make_145 : decode cX5_make 145 = .ok (.iconst 0, 1) := by decide +kernel
theorem dX5_make_146 : decode cX5_make 146 = .ok (.bastore, 1) := by decide +kernel
theorem dX5_make_147 : decode cX5_make 147 = .ok (.goto 40, 3) := by decide +kernel
theorem dX5_make_150 : decode cX5_make 150 = .ok (.aload_n 0, 1) := by decide +kernel
theorem dX5_make_151 : decode cX5_make 151 = .ok (.getfield 42, 3) := by decide +kernel
theorem dX5_make_154 : decode cX5_make 154 = .ok (.iload 4, 2) := by decide +kernel
theorem dX5_make_156 : decode cX5_make 156 = .ok (.aload_n 0, 1) := by decide +kernel
theorem dX5_make_157 : decode cX5_make 157 = .ok (.getfield 114, 3) := by decide +kernel
theorem dX5_make_160 : decode cX5_make 160 = .ok (.iload 5, 2) := by decide +kernel
theorem dX5_make_162 : decode cX5_make 162 = .ok (.imul, 1) := by decide +kernel
theorem dX5_make_163 : decode cX5_make 163 = .ok (.sipush 255, 3) := by decide +kernel
theorem dX5_make_166 : decode cX5_make 166 = .ok (.aload_n 0, 1) := by decide +kernel
theorem dX5_make_167 : decode cX5_make 167 = .ok (.getfield 48, 3) := by decide +kernel
theorem dX5_make_170 : decode cX5_make 170 = .ok (.aload_n 0, 1) := by decide +kernel
theorem dX5_make_171 : decode cX5_make 171 = .ok (.iload_n 3, 1) := by decide +kernel
theorem dX5_make_172 : decode cX5_make 172 = .ok (.iload_n 2, 1) := by decide +kernel
theorem dX5_make_173 : decode cX5_make 173 = .ok (.invokevirtual 111, 3) := by decide +kernel
theorem dX5_make_176 : decode cX5_make 176 = .ok (.iaload, 1) := by decide +kernel
theorem dX5_make_177 : decode cX5_make 177 = .ok (.imul, 1) := by decide +kernel
theorem dX5_make_178 : decode cX5_make 178 = .ok (.if_icmp .le 7, 3) := by decide +kernel
theorem dX5_make_181 : decode cX5_make 181 = .ok (.iconst 1, 1) := by decide +kernel
theorem dX5_make_182 : decode cX5_make 182 = .ok (.goto 4, 3) := by decide +kernel
theorem dX5_make_185 : decode cX5_make 185 = .ok (.iconst 0, 1) := by decide +kernel
theorem dX5_make_186 : decode cX5_make 186 = .ok (.bastore, 1) := by decide +kernel
theorem dX5_make_187 : decode cX5_make 187 = .ok (.iinc 3 1, 3) := by decide +kernel
theorem dX5_make_190 : decode cX5_make 190 = .ok (.goto (-159), 3) := by decide +kernel
theorem dX5_make_193 : decode cX5_make 193 = .ok (.iinc 2 1, 3) := by decide +kernel
theorem dX5_make_196 : decode cX5_make 196 = .ok (.goto (-175), 3) := by decide +kernel
theorem dX5_make_199 : decode cX5_make 199 = .ok (.return_, 1) := by decide +kernel
set_option maxRecDepth 20000 in
theorem ggX5_dot_X5_isWay : GoodIn wsX5_dot wsX5_isWay := goodIn_r _ [7, 8, 9, 6, 10] (by decide +kernel) (by decide +kernel)
set_option maxRecDepth 20000 in
theorem gX5_dot_X5_isWay : GoodIn wsX5_dot (wsV RX5 136 RX5 yX5_isWay wsX5_isWay) := goodIn_app (goodIn_of _ (by decide +kernel)) ggX5_dot_X5_isWay
set_option maxRecDepth 20000 in
theorem ggX5_dot_X5_isPlace : GoodIn wsX5_dot wsX5_isPlace := goodIn_r _ [14, 15, 16, 8, 9, 6, 10, 65, 66, 67, 68, 69, 70, 71, 72, 73, 74, 75, 76, 77, 78, 79, 80, 81, 82, 83] (by decide +kernel) (by decide +kernel)
set_option maxRecDepth 20000 in
theorem gX5_dot_X5_isPlace : GoodIn wsX5_dot (wsV RX5 58 RX5 yX5_isPlace wsX5_isPlace) := goodIn_app (goodIn_of _ (by decide +kernel)) ggX5_dot_X5_isPlace
set_option maxRecDepth 20000 in
theorem ggX5_dot_X5_make : GoodIn wsX5_dot wsX5_make := goodIn_r _ [20, 16, 15, 21, 22, 2, 23, 24, 25, 26, 27, 28, 29, 6, 30, 31, 32, 33, 34, 35, 36, 37, 38, 39, 40, 41, 11, 12, 13, 14, 8, 9, 10, 42, 43, 44, 45, 46, 47, 48, 49, 50, 51, 52, 53, 54, 55, 56, 57, 58, 59, 60, 61, 62, 63, 64, 65, 66, 67, 68, 69, 70, 71, 72, 73, 74, 75, 76, 77, 78, 79, 80, 81, 82, 83] (by decide +kernel) (by decide +kernel)
set_option maxRecDepth 20000 in
theorem gX5_dot_X5_make : GoodIn wsX5_dot (wsV RX5 140 RX5 yX5_make wsX5_make) := goodIn_app (goodIn_of _ (by decide +kernel)) ggX5_dot_X5_make
theorem dX5_dot_0 : decode cX5_dot 0 = .ok (.aload_n 0, 1) := by decide +kernel
theorem dX5_dot_1 : decode cX5_dot 1 = .ok (.iconst 0, 1) := by decide +kernel
theorem dX5_dot_2 : decode cX5_dot 2 = .ok (.putfield 51, 3) := by decide +kernel
theorem dX5_dot_5 : decode cX5_dot 5 = .ok (.aload_n 0, 1) := by decide +kernel
theorem dX5_dot_6 : decode cX5_dot 6 = .ok (.iload_n 1, 1) := by decide +kernel
theorem dX5_dot_7 : decode cX5_dot 7 = .ok (.invokevirtual 136, 3) := by decide +kernel
theorem dX5_dot_10 : decode cX5_dot 10 = .ok (.ifCond .eq 12, 3) := by decide +kernel
theorem dX5_dot_13 : decode cX5_dot 13 = .ok (.aload_n 0, 1) := by decide +kernel
theorem dX5_dot_14 : decode cX5_dot 14 = .ok (.iload_n 2, 1) := by decide +kernel
theorem dX5_dot_15 : decode cX5_dot 15 = .ok (.iload_n 3, 1) := by decide +kernel
theorem dX5_dot_16 : decode cX5_dot 16 = .ok (.invokevirtual 58, 3) := by decide +kernel
theorem dX5_dot_19 : decode cX5_dot 19 = .ok (.ifCond .ne 5, 3) := by decide +kernel
theorem dX5_dot_22 : decode cX5_dot 22 = .ok (.iconst (-1), 1) := by decide +kernel
theorem dX5_dot_23 : decode cX5_dot 23 = .ok (.ireturn, 1) := by decide +kernel
theorem dX5_dot_24 : decode cX5_dot 24 = .ok (.aload_n 0, 1) := by decide +kernel
theorem dX5_dot_25 : decode cX5_dot 25 = .ok (.iload_n 1, 1) := by decide +kernel
theorem dX5_dot_26 : decode cX5_dot 26 = .ok (.invokevirtual 140, 3) := by decide +kernel
theorem dX5_dot_29 : decode cX5_dot 29 = .ok (.aload_n 0, 1) := by decide +kernel
theorem dX5_dot_30 : decode cX5_dot 30 = .ok (.getfield 42, 3) := by decide +kernel
theorem dX5_dot_33 : decode cX5_dot 33 = .ok (.bipush 24, 2) := by decide +kernel
theorem dX5_dot_35 : decode cX5_dot 35 = .ok (.iload_n 3, 1) := by decide +kernel
theorem dX5_dot_36 : decode cX5_dot 36 = .ok (.imul, 1) := by decide +kernel
theorem dX5_dot_37 : decode cX5_dot 37 = .ok (.iload_n 2, 1) := by decide +kernel
theorem dX5_dot_38 : decode cX5_dot 38 = .ok (.iadd, 1) := by decide +kernel
theorem dX5_dot_39 : decode cX5_dot 39 = .ok (.baload, 1) := by decide +kernel
theorem dX5_dot_40 : decode cX5_dot 40 = .ok (.ifCond .eq 7, 3) := by decide +kernel
theorem dX5_dot_43 : decode cX5_dot 43 = .ok (.iconst 1, 1) := by decide +kernel
theorem dX5_dot_44 : decode cX5_dot 44 = .ok (.goto 4, 3) := by decide +kernel
theorem dX5_dot_47 : decode cX5_dot 47 = .ok (.iconst 0, 1) := by decide +kernel
theorem dX5_dot_48 : decode cX5_dot 48 = .ok (.ireturn, 1) := by decide +kernel
set_option maxRecDepth 20000 in
theorem ggX5_dotsIn_X5_make : GoodIn wsX5_dotsIn wsX5_make := goodIn_r _ [6, 7, 8, 9, 10, 1, 11, 12, 13, 14, 15, 16, 17, 5, 18, 19, 20, 21, 22, 23, 24, 25, 26, 27, 28, 29, 30, 31, 32, 33, 34, 35, 36, 37, 38, 39, 40, 41, 42, 43, 44, 45, 46, 47, 48, 49, 50, 51, 52, 53, 54, 55, 56, 57, 58, 59, 60, 61, 62, 63, 64, 65, 66, 67, 68, 69, 70, 71, 72, 73, 74, 75, 76, 77, 78] (by decide +kernel) (by decide +kernel)
set_option maxRecDepth 20000 in
theorem gX5_dotsIn_X5_make : GoodIn wsX5_dotsIn (wsV RX5 140 RX5 yX5_make wsX5_make) := goodIn_app (goodIn_of _ (by decide +kernel)) ggX5_dotsIn_X5_make
theorem dX5_dotsIn_0 : decode cX5_dotsIn 0 = .ok (.aload_n 0, 1) := by decide +kernel
theorem dX5_dotsIn_1 : decode cX5_dotsIn 1 = .ok (.iload_n 1, 1) := by decide +kernel
theorem dX5_dotsIn_2 : decode cX5_dotsIn 2 = .ok (.invokevirtual 140, 3) := by decide +kernel
theorem dX5_dotsIn_5 : decode cX5_dotsIn 5 = .ok (.iconst 0, 1) := by decide +kernel
