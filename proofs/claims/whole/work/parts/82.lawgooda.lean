set_option maxRecDepth 20000 in
theorem ggL_law_X4_init : GoodIn wsLaw wsX4_init := goodIn_r _ [9, 10, 11, 12, 13, 14, 15, 16, 17, 18, 19, 20, 21, 22, 23, 24, 25, 26, 27, 28, 29, 30, 31, 32, 33, 34, 35, 36, 37, 38, 39, 40, 41, 42, 43, 44, 45, 46, 47, 48, 49, 50, 51, 52, 53, 54, 55, 56, 57, 58, 59, 60, 61, 62, 63, 64, 65, 66, 67, 68, 69, 70, 71, 72, 73, 74, 75, 76, 77, 78, 79, 80, 81, 82, 83, 84, 85, 86, 87, 88, 89, 90, 91, 92, 93, 2, 94, 95, 96, 97, 98, 99, 100, 101, 102, 103, 104, 105, 106, 107, 108, 109, 110, 111, 112, 604, 605, 606, 607, 580, 581, 582, 583, 584, 608, 609, 610, 611, 612, 613, 614, 615, 616, 617, 618, 619, 620] (by decide +kernel) (by decide +kernel)
set_option maxRecDepth 20000 in
theorem gL_law_X4_init : GoodIn wsLaw (wsX4_init) := ggL_law_X4_init
set_option maxRecDepth 20000 in
theorem ggL_law_X5_init : GoodIn wsLaw wsX5_init := goodIn_r _ [115, 116, 11, 12, 117, 118, 119, 120, 121, 122, 34, 123, 124, 125, 36, 126, 127, 128, 129, 585, 586, 587, 588, 589, 590, 591, 592, 593, 594, 595, 596, 597, 598, 599, 600, 601, 602, 603] (by decide +kernel) (by decide +kernel)
set_option maxRecDepth 20000 in
theorem gL_law_X5_init : GoodIn wsLaw (wsX5_init) := ggL_law_X5_init
set_option maxRecDepth 20000 in
theorem ggL_law_X4_picture : GoodIn wsLaw wsX4_picture := goodIn_r _ [133, 16, 134, 135, 15, 136, 137, 138, 139, 140, 38, 39, 35, 37, 580, 581, 582, 583, 584, 604, 605, 606, 607] (by decide +kernel) (by decide +kernel)
set_option maxRecDepth 20000 in
theorem gL_law_X4_picture : GoodIn wsLaw (wsV RL 19 RX4 yX4_picture wsX4_picture) := goodIn_app (goodIn_of _ (by decide +kernel)) ggL_law_X4_picture
set_option maxRecDepth 20000 in
theorem ggL_law_X5_picture : GoodIn wsLaw wsX5_picture := goodIn_r _ [144, 145, 117, 118, 123, 126, 146, 147, 5, 148, 585, 586, 587, 588, 589, 590, 591, 592, 593, 594, 595, 596, 597, 598, 599, 600, 601, 602, 603] (by decide +kernel) (by decide +kernel)
set_option maxRecDepth 20000 in
theorem gL_law_X5_picture : GoodIn wsLaw (wsV RL 23 RX5 yX5_picture wsX5_picture) := goodIn_app (goodIn_of _ (by decide +kernel)) ggL_law_X5_picture
set_option maxRecDepth 20000 in
theorem ggL_law_X4_shade : GoodIn wsLaw wsX4_shade := goodIn_r _ [152, 16, 153, 154, 155, 15, 156, 38, 39, 157, 158, 2, 159, 160, 161, 162, 163, 35, 164, 165, 166, 167, 580, 581, 582, 583, 584, 604, 605, 606, 607] (by decide +kernel) (by decide +kernel)
set_option maxRecDepth 20000 in
theorem gL_law_X4_shade : GoodIn wsLaw (wsV RL 24 RX4 yX4_shade wsX4_shade) := goodIn_app (goodIn_of _ (by decide +kernel)) ggL_law_X4_shade
set_option maxRecDepth 20000 in
theorem ggL_law_X5_shade : GoodIn wsLaw wsX5_shade := goodIn_r _ [171, 145, 123, 172, 173, 174, 5, 175, 117, 118, 146, 147, 148, 585, 586, 587, 588, 589, 590, 591, 592, 593, 594, 595, 596, 597, 598, 599, 600, 601, 602, 603] (by decide +kernel) (by decide +kernel)
set_option maxRecDepth 20000 in
theorem gL_law_X5_shade : GoodIn wsLaw (wsV RL 28 RX5 yX5_shade wsX5_shade) := goodIn_app (goodIn_of _ (by decide +kernel)) ggL_law_X5_shade
set_option maxRecDepth 20000 in
theorem ggL_law_X4_ramp : GoodIn wsLaw wsX4_ramp := goodIn_r _ [179, 16, 180, 65, 54, 66, 181, 182, 183, 184, 185, 186, 15, 187, 38, 39, 164, 154, 155, 156, 157, 158, 2, 159, 160, 161, 162, 163, 35, 165, 166, 167, 580, 581, 582, 583, 584, 604, 605, 606, 607] (by decide +kernel) (by decide +kernel)
set_option maxRecDepth 20000 in
theorem gL_law_X4_ramp : GoodIn wsLaw (wsV RL 29 RX4 yX4_ramp wsX4_ramp) := goodIn_app (goodIn_of _ (by decide +kernel)) ggL_law_X4_ramp
set_option maxRecDepth 20000 in
theorem ggL_law_X5_ramp : GoodIn wsLaw wsX5_ramp := goodIn_r _ [191, 145, 123, 192, 65, 54, 66, 193, 182, 183, 194, 195, 196, 5, 197, 117, 118, 172, 173, 174, 175, 146, 147, 148, 585, 586, 587, 588, 589, 590, 591, 592, 593, 594, 595, 596, 597, 598, 599, 600, 601, 602, 603] (by decide +kernel) (by decide +kernel)
set_option maxRecDepth 20000 in
theorem gL_law_X5_ramp : GoodIn wsLaw (wsV RL 33 RX5 yX5_ramp wsX5_ramp) := goodIn_app (goodIn_of _ (by decide +kernel)) ggL_law_X5_ramp
set_option maxRecDepth 20000 in
theorem ggL_law_X4_line : GoodIn wsLaw wsX4_line := goodIn_r _ [201, 16, 153, 154, 155, 15, 156, 38, 39, 202, 203, 204, 205, 37, 164, 165, 166, 167, 206, 207, 208, 209, 580, 581, 582, 583, 584, 604, 605, 606, 607] (by decide +kernel) (by decide +kernel)
set_option maxRecDepth 20000 in
theorem gL_law_X4_line : GoodIn wsLaw (wsV RL 34 RX4 yX4_line wsX4_line) := goodIn_app (goodIn_of _ (by decide +kernel)) ggL_law_X4_line
set_option maxRecDepth 20000 in
theorem ggL_law_X5_line : GoodIn wsLaw wsX5_line := goodIn_r _ [213, 145, 126, 172, 173, 174, 5, 175, 117, 118, 146, 147, 148, 585, 586, 587, 588, 589, 590, 591, 592, 593, 594, 595, 596, 597, 598, 599, 600, 601, 602, 603] (by decide +kernel) (by decide +kernel)
set_option maxRecDepth 20000 in
theorem gL_law_X5_line : GoodIn wsLaw (wsV RL 38 RX5 yX5_line wsX5_line) := goodIn_app (goodIn_of _ (by decide +kernel)) ggL_law_X5_line
set_option maxRecDepth 20000 in
theorem ggL_law_X4_grey : GoodIn wsLaw wsX4_grey := goodIn_r _ [217, 16, 153, 154, 155, 15, 156, 38, 39, 218, 219, 220, 221, 35, 164, 165, 166, 167, 580, 581, 582, 583, 584, 604, 605, 606, 607] (by decide +kernel) (by decide +kernel)
set_option maxRecDepth 20000 in
theorem gL_law_X4_grey : GoodIn wsLaw (wsV RL 39 RX4 yX4_grey wsX4_grey) := goodIn_app (goodIn_of _ (by decide +kernel)) ggL_law_X4_grey
set_option maxRecDepth 20000 in
theorem ggL_law_X5_grey : GoodIn wsLaw wsX5_grey := goodIn_r _ [225, 145, 123, 172, 173, 174, 5, 175, 117, 118, 146, 147, 148, 585, 586, 587, 588, 589, 590, 591, 592, 593, 594, 595, 596, 597, 598, 599, 600, 601, 602, 603] (by decide +kernel) (by decide +kernel)
set_option maxRecDepth 20000 in
theorem gL_law_X5_grey : GoodIn wsLaw (wsV RL 43 RX5 yX5_grey wsX5_grey) := goodIn_app (goodIn_of _ (by decide +kernel)) ggL_law_X5_grey
set_option maxRecDepth 20000 in
theorem ggL_law_X4_table : GoodIn wsLaw wsX4_table := goodIn_r _ [229, 20, 230, 231, 19, 232, 233, 48, 49, 50, 51, 44, 45, 52, 53, 54, 55, 56, 57, 58, 59, 60, 61, 62, 63, 64, 65, 66, 67, 68, 69, 70, 46, 580, 581, 582, 583, 584, 608, 609, 610, 611] (by decide +kernel) (by decide +kernel)
set_option maxRecDepth 20000 in
theorem gL_law_X4_table : GoodIn wsLaw (wsV RL 44 RX4 yX4_table wsX4_table) := goodIn_app (goodIn_of _ (by decide +kernel)) ggL_law_X4_table
set_option maxRecDepth 20000 in
theorem ggL_law_X5_table : GoodIn wsLaw wsX5_table := goodIn_r _ [237, 145, 119, 124, 146, 147, 5, 148, 585, 586, 587, 588, 589, 590, 591, 592, 593, 594, 595, 596, 597, 598, 599, 600, 601, 602, 603] (by decide +kernel) (by decide +kernel)
set_option maxRecDepth 20000 in
theorem gL_law_X5_table : GoodIn wsLaw (wsV RL 48 RX5 yX5_table wsX5_table) := goodIn_app (goodIn_of _ (by decide +kernel)) ggL_law_X5_table
set_option maxRecDepth 20000 in
theorem ggL_law_X4_exchange : GoodIn wsLaw wsX4_exchange := goodIn_r _ [241, 20, 242, 243, 244, 19, 245, 56, 57, 58, 59, 60, 61, 62, 63, 51, 44, 45, 64, 65, 54, 66, 246, 247, 248, 249, 250, 580, 581, 582, 583, 584, 608, 609, 610, 611] (by decide +kernel) (by decide +kernel)
set_option maxRecDepth 20000 in
theorem gL_law_X4_exchange : GoodIn wsLaw (wsV RL 49 RX4 yX4_exchange wsX4_exchange) := goodIn_app (goodIn_of _ (by decide +kernel)) ggL_law_X4_exchange
set_option maxRecDepth 20000 in
theorem ggL_law_X5_exchange : GoodIn wsLaw wsX5_exchange := goodIn_r _ [254, 145, 255, 256, 257, 5, 258, 119, 146, 147, 148, 259, 260, 261, 262, 124, 585, 586, 587, 588, 589, 590, 591, 592, 593, 594, 595, 596, 597, 598, 599, 600, 601, 602, 603] (by decide +kernel) (by decide +kernel)
set_option maxRecDepth 20000 in
theorem gL_law_X5_exchange : GoodIn wsLaw (wsV RL 52 RX5 yX5_exchange wsX5_exchange) := goodIn_app (goodIn_of _ (by decide +kernel)) ggL_law_X5_exchange
set_option maxRecDepth 20000 in
theorem ggL_law_X4_number : GoodIn wsLaw wsX4_number := goodIn_r _ [266, 20, 267, 57, 58, 19, 59, 60, 61, 62, 63, 51, 44, 45, 64, 65, 54, 66, 268, 269, 270, 271, 56, 580, 581, 582, 583, 584, 608, 609, 610, 611] (by decide +kernel) (by decide +kernel)
set_option maxRecDepth 20000 in
theorem gL_law_X4_number : GoodIn wsLaw (wsV RL 53 RX4 yX4_number wsX4_number) := goodIn_app (goodIn_of _ (by decide +kernel)) ggL_law_X4_number
set_option maxRecDepth 20000 in
theorem ggL_law_X5_number : GoodIn wsLaw wsX5_number := goodIn_r _ [275, 145, 119, 124, 146, 147, 5, 148, 585, 586, 587, 588, 589, 590, 591, 592, 593, 594, 595, 596, 597, 598, 599, 600, 601, 602, 603] (by decide +kernel) (by decide +kernel)
set_option maxRecDepth 20000 in
theorem gL_law_X5_number : GoodIn wsLaw (wsV RL 57 RX5 yX5_number wsX5_number) := goodIn_app (goodIn_of _ (by decide +kernel)) ggL_law_X5_number
set_option maxRecDepth 20000 in
theorem ggL_law_X4_cost : GoodIn wsLaw wsX4_cost := goodIn_r _ [279, 20, 280, 281, 282, 19, 283, 44, 284, 182, 54, 183, 45, 60, 61, 62, 63, 51, 64, 65, 66, 285, 286, 287, 288, 46, 580, 581, 582, 583, 584, 608, 609, 610, 611] (by decide +kernel) (by decide +kernel)
set_option maxRecDepth 20000 in
theorem gL_law_X4_cost : GoodIn wsLaw (wsV RL 58 RX4 yX4_cost wsX4_cost) := goodIn_app (goodIn_of _ (by decide +kernel)) ggL_law_X4_cost
set_option maxRecDepth 20000 in
theorem ggL_law_X5_cost : GoodIn wsLaw wsX5_cost := goodIn_r _ [292, 145, 293, 294, 295, 5, 296, 119, 124, 193, 182, 54, 183, 297, 298, 299, 300, 301, 53, 55, 192, 65, 66, 585, 586, 587, 588, 589, 590, 591, 592, 593, 594, 595, 596, 597, 598, 599, 600, 601, 602, 603] (by decide +kernel) (by decide +kernel)
set_option maxRecDepth 20000 in
theorem gL_law_X5_cost : GoodIn wsLaw (wsV RL 62 RX5 yX5_cost wsX5_cost) := goodIn_app (goodIn_of _ (by decide +kernel)) ggL_law_X5_cost
set_option maxRecDepth 20000 in
theorem ggL_law_L_worth : GoodIn wsLaw wsLw := goodIn_ca (goodIn_r _ [305, 306, 307, 308, 309, 2, 310, 311, 312, 20, 242, 243, 244, 19, 245, 56, 57, 58, 59, 60, 61, 62, 63, 51, 44, 45, 64, 65, 54, 66, 313, 314, 315, 316, 284, 182, 183, 250, 285, 286, 287, 288, 46, 580, 581, 582, 583, 584, 608, 609, 610, 611] (by decide +kernel) (by decide +kernel)) (goodIn_sub (fun _ h => List.mem_append_right _ h) (by decide +kernel))
set_option maxRecDepth 20000 in
theorem gL_law_L_worth : GoodIn wsLaw (va_wsS RL 63 yL_worth wsLw) := goodIn_app (goodIn_of _ (by decide +kernel)) ggL_law_L_worth
set_option maxRecDepth 20000 in
theorem ggL_law_X5_worth : GoodIn wsLaw wsX5_worth := goodIn_r _ [320, 145, 255, 256, 257, 5, 258, 119, 146, 147, 148, 321, 322, 323, 324, 293, 294, 295, 296, 124, 193, 182, 54, 183, 297, 298, 299, 300, 301, 53, 55, 192, 65, 66, 259, 260, 261, 262, 585, 586, 587, 588, 589, 590, 591, 592, 593, 594, 595, 596, 597, 598, 599, 600, 601, 602, 603] (by decide +kernel) (by decide +kernel)
set_option maxRecDepth 20000 in
theorem gL_law_X5_worth : GoodIn wsLaw (wsV RL 68 RX5 yX5_worth wsX5_worth) := goodIn_app (goodIn_of _ (by decide +kernel)) ggL_law_X5_worth
set_option maxRecDepth 20000 in
theorem ggL_law_X5_thrown : GoodIn wsLaw wsX5_thrown := goodIn_r _ [328, 145, 585, 586, 587, 588, 589, 590, 591, 592, 593, 594, 595, 596, 597, 598, 599, 600, 601, 602, 603] (by decide +kernel) (by decide +kernel)
set_option maxRecDepth 20000 in
theorem gL_law_X5_thrown : GoodIn wsLaw (wsV RL 69 RX5 yX5_thrown wsX5_thrown) := goodIn_app (goodIn_of _ (by decide +kernel)) ggL_law_X5_thrown
