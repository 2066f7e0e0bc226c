set_option maxRecDepth 20000 in
theorem ggL_law_X4_even : GoodIn wsLaw wsX4_even := goodIn_r _ [332, 20, 333, 334, 335, 19, 336, 51, 337, 338, 339, 340, 60, 61, 62, 63, 44, 45, 64, 65, 54, 66, 341, 314, 315, 316, 284, 182, 183, 250, 243, 244, 245, 56, 57, 58, 59, 285, 286, 287, 288, 46, 342, 247, 248, 249, 580, 581, 582, 583, 584, 608, 609, 610, 611] (by decide +kernel) (by decide +kernel)
set_option maxRecDepth 20000 in
theorem gL_law_X4_even : GoodIn wsLaw (wsV RL 73 RX4 yX4_even wsX4_even) := goodIn_app (goodIn_of _ (by decide +kernel)) ggL_law_X4_even
set_option maxRecDepth 20000 in
theorem ggL_law_X5_even : GoodIn wsLaw wsX5_even := goodIn_r _ [346, 145, 119, 146, 147, 5, 148, 321, 322, 323, 324, 293, 294, 295, 296, 124, 193, 182, 54, 183, 297, 298, 299, 300, 301, 53, 55, 192, 65, 66, 259, 260, 261, 262, 585, 586, 587, 588, 589, 590, 591, 592, 593, 594, 595, 596, 597, 598, 599, 600, 601, 602, 603] (by decide +kernel) (by decide +kernel)
set_option maxRecDepth 20000 in
theorem gL_law_X5_even : GoodIn wsLaw (wsV RL 76 RX5 yX5_even wsX5_even) := goodIn_app (goodIn_of _ (by decide +kernel)) ggL_law_X5_even
set_option maxRecDepth 20000 in
theorem ggL_law_X4_back : GoodIn wsLaw wsX4_back := goodIn_r _ [350, 29, 580, 581, 582, 583, 584] (by decide +kernel) (by decide +kernel)
set_option maxRecDepth 20000 in
theorem gL_law_X4_back : GoodIn wsLaw (wsV RL 77 RX4 yX4_back wsX4_back) := goodIn_app (goodIn_of _ (by decide +kernel)) ggL_law_X4_back
set_option maxRecDepth 20000 in
theorem ggL_law_X5_back : GoodIn wsLaw wsX5_back := goodIn_r _ [354, 145, 355, 585, 586, 587, 588, 589, 590, 591, 592, 593, 594, 595, 596, 597, 598, 599, 600, 601, 602, 603] (by decide +kernel) (by decide +kernel)
set_option maxRecDepth 20000 in
theorem gL_law_X5_back : GoodIn wsLaw (wsV RL 81 RX5 yX5_back wsX5_back) := goodIn_app (goodIn_of _ (by decide +kernel)) ggL_law_X5_back
set_option maxRecDepth 20000 in
theorem ggL_law_X4_net : GoodIn wsLaw wsX4_net := goodIn_r _ [359, 28, 360, 361, 27, 362, 363, 85, 86, 87, 88, 89, 90, 91, 92, 53, 54, 55, 93, 2, 94, 95, 96, 97, 98, 99, 100, 101, 102, 103, 104, 105, 106, 107, 108, 83, 109, 110, 111, 112, 580, 581, 582, 583, 584, 616, 617, 618, 619, 620] (by decide +kernel) (by decide +kernel)
set_option maxRecDepth 20000 in
theorem gL_law_X4_net : GoodIn wsLaw (wsV RL 82 RX4 yX4_net wsX4_net) := goodIn_app (goodIn_of _ (by decide +kernel)) ggL_law_X4_net
set_option maxRecDepth 20000 in
theorem ggL_law_X5_net : GoodIn wsLaw wsX5_net := goodIn_r _ [367, 145, 120, 121, 122, 368, 369, 5, 370, 146, 147, 148, 585, 586, 587, 588, 589, 590, 591, 592, 593, 594, 595, 596, 597, 598, 599, 600, 601, 602, 603] (by decide +kernel) (by decide +kernel)
set_option maxRecDepth 20000 in
theorem gL_law_X5_net : GoodIn wsLaw (wsV RL 85 RX5 yX5_net wsX5_net) := goodIn_app (goodIn_of _ (by decide +kernel)) ggL_law_X5_net
set_option maxRecDepth 20000 in
theorem ggL_law_X4_dot : GoodIn wsLaw wsX4_dot := goodIn_r _ [374, 375, 376, 377, 2, 378, 16, 24, 29, 184, 185, 186, 15, 187, 38, 39, 164, 154, 155, 156, 379, 380, 381, 23, 382, 78, 75, 76, 383, 384, 385, 386, 387, 388, 389, 390, 391, 392, 393, 394, 395, 396, 397, 398, 399, 400, 401, 402, 403, 404, 405, 406, 77, 407, 166, 167, 408, 203, 204, 205, 37, 165, 409, 219, 220, 221, 35, 410, 411, 412, 413, 414, 415, 103, 416, 417, 418, 419, 420, 421, 422, 423, 424, 20, 28, 218, 202, 425, 426, 427, 428, 429, 430, 431, 19, 432, 51, 99, 100, 101, 102, 104, 60, 61, 62, 63, 44, 45, 64, 65, 54, 66, 433, 269, 270, 271, 56, 57, 58, 59, 434, 435, 436, 27, 437, 91, 438, 439, 440, 441, 95, 96, 97, 98, 88, 89, 90, 109, 110, 111, 112, 83, 580, 581, 582, 583, 584, 604, 605, 606, 607, 612, 613, 614, 615, 608, 609, 610, 611, 616, 617, 618, 619, 620] (by decide +kernel) (by decide +kernel)
set_option maxRecDepth 20000 in
theorem gL_law_X4_dot : GoodIn wsLaw (wsV RL 86 RX4 yX4_dot wsX4_dot) := goodIn_app (goodIn_of _ (by decide +kernel)) ggL_law_X4_dot
set_option maxRecDepth 20000 in
theorem ggL_law_X5_dot : GoodIn wsLaw wsX5_dot := goodIn_r _ [445, 145, 127, 446, 447, 448, 5, 449, 146, 147, 148, 172, 173, 174, 175, 117, 118, 450, 451, 452, 453, 123, 126, 119, 124, 454, 129, 455, 456, 457, 458, 459, 125, 355, 460, 415, 103, 416, 461, 462, 463, 464, 465, 466, 467, 468, 122, 120, 121, 128, 469, 470, 471, 472, 473, 474, 475, 476, 477, 102, 104, 478, 479, 480, 481, 585, 586, 587, 588, 589, 590, 591, 592, 593, 594, 595, 596, 597, 598, 599, 600, 601, 602, 603] (by decide +kernel) (by decide +kernel)
set_option maxRecDepth 20000 in
theorem gL_law_X5_dot : GoodIn wsLaw (wsV RL 90 RX5 yX5_dot wsX5_dot) := goodIn_app (goodIn_of _ (by decide +kernel)) ggL_law_X5_dot
set_option maxRecDepth 20000 in
theorem ggL_law_X4_dots : GoodIn wsLaw wsX4_dots := goodIn_r _ [378, 16, 24, 29, 184, 185, 186, 15, 187, 38, 39, 164, 154, 155, 156, 379, 380, 381, 23, 382, 78, 75, 76, 383, 384, 385, 386, 387, 388, 389, 390, 391, 392, 393, 394, 395, 396, 397, 398, 399, 400, 401, 402, 403, 404, 405, 406, 77, 407, 166, 167, 408, 203, 204, 205, 37, 165, 409, 219, 220, 221, 35, 410, 411, 412, 413, 414, 415, 103, 416, 417, 418, 419, 420, 421, 422, 423, 2, 424, 20, 28, 218, 202, 425, 426, 427, 428, 429, 430, 431, 19, 432, 51, 99, 100, 101, 102, 104, 60, 61, 62, 63, 44, 45, 64, 65, 54, 66, 433, 269, 270, 271, 56, 57, 58, 59, 434, 435, 436, 27, 437, 91, 438, 439, 440, 441, 95, 96, 97, 98, 88, 89, 90, 109, 110, 111, 112, 83, 580, 581, 582, 583, 584, 604, 605, 606, 607, 612, 613, 614, 615, 608, 609, 610, 611, 616, 617, 618, 619, 620] (by decide +kernel) (by decide +kernel)
set_option maxRecDepth 20000 in
theorem gL_law_X4_dots : GoodIn wsLaw (wsV RL 91 RX4 yX4_dots wsX4_dots) := goodIn_app (goodIn_of _ (by decide +kernel)) ggL_law_X4_dots
set_option maxRecDepth 20000 in
theorem ggL_law_X5_dots : GoodIn wsLaw wsX5_dots := goodIn_r _ [486, 145, 446, 447, 448, 5, 449, 146, 147, 148, 194, 195, 196, 197, 117, 118, 172, 173, 174, 175, 487, 488, 489, 490, 127, 450, 451, 452, 453, 123, 126, 119, 124, 454, 129, 455, 456, 457, 458, 459, 125, 355, 460, 415, 103, 416, 461, 462, 463, 464, 465, 466, 467, 468, 122, 120, 121, 128, 469, 470, 471, 472, 473, 474, 475, 476, 477, 102, 104, 478, 479, 480, 481, 585, 586, 587, 588, 589, 590, 591, 592, 593, 594, 595, 596, 597, 598, 599, 600, 601, 602, 603] (by decide +kernel) (by decide +kernel)
set_option maxRecDepth 20000 in
theorem gL_law_X5_dots : GoodIn wsLaw (wsV RL 95 RX5 yX5_dots wsX5_dots) := goodIn_app (goodIn_of _ (by decide +kernel)) ggL_law_X5_dots
set_option maxRecDepth 20000 in
theorem ggL_law_X4_read : GoodIn wsLaw wsX4_read := goodIn_r _ [494, 375, 376, 377, 2, 378, 16, 24, 29, 184, 185, 186, 15, 187, 38, 39, 164, 154, 155, 156, 379, 380, 381, 23, 382, 78, 75, 76, 383, 384, 385, 386, 387, 388, 389, 390, 391, 392, 393, 394, 395, 396, 397, 398, 399, 400, 401, 402, 403, 404, 405, 406, 77, 407, 166, 167, 408, 203, 204, 205, 37, 165, 409, 219, 220, 221, 35, 410, 411, 412, 413, 414, 415, 103, 416, 417, 418, 419, 420, 421, 422, 423, 424, 20, 28, 218, 202, 425, 426, 427, 428, 429, 430, 431, 19, 432, 51, 99, 100, 101, 102, 104, 60, 61, 62, 63, 44, 45, 64, 65, 54, 66, 433, 269, 270, 271, 56, 57, 58, 59, 434, 435, 436, 27, 437, 91, 438, 439, 440, 441, 95, 96, 97, 98, 88, 89, 90, 109, 110, 111, 112, 83, 580, 581, 582, 583, 584, 604, 605, 606, 607, 612, 613, 614, 615, 608, 609, 610, 611, 616, 617, 618, 619, 620] (by decide +kernel) (by decide +kernel)
set_option maxRecDepth 20000 in
theorem gL_law_X4_read : GoodIn wsLaw (wsV RL 96 RX4 yX4_read wsX4_read) := goodIn_app (goodIn_of _ (by decide +kernel)) ggL_law_X4_read
set_option maxRecDepth 20000 in
theorem ggL_law_X5_read : GoodIn wsLaw wsX5_read := goodIn_r _ [498, 145, 446, 447, 448, 5, 449, 146, 147, 148, 194, 195, 196, 197, 117, 118, 172, 173, 174, 175, 487, 488, 489, 490, 127, 450, 451, 452, 453, 123, 126, 119, 124, 454, 129, 455, 456, 457, 458, 459, 125, 355, 460, 415, 103, 416, 461, 462, 463, 464, 465, 466, 467, 468, 122, 120, 121, 128, 469, 470, 471, 472, 473, 474, 475, 476, 477, 102, 104, 478, 479, 480, 481, 585, 586, 587, 588, 589, 590, 591, 592, 593, 594, 595, 596, 597, 598, 599, 600, 601, 602, 603] (by decide +kernel) (by decide +kernel)
set_option maxRecDepth 20000 in
theorem gL_law_X5_read : GoodIn wsLaw (wsV RL 99 RX5 yX5_read wsX5_read) := goodIn_app (goodIn_of _ (by decide +kernel)) ggL_law_X5_read
set_option maxRecDepth 20000 in
theorem ggL_law_X4_lost : GoodIn wsLaw wsX4_lost := goodIn_r _ [502, 24, 16, 29, 379, 380, 381, 23, 382, 78, 75, 76, 383, 384, 385, 386, 387, 388, 389, 390, 391, 392, 393, 15, 394, 39, 395, 396, 397, 398, 399, 400, 401, 402, 38, 403, 404, 405, 406, 77, 407, 166, 167, 408, 203, 204, 205, 37, 164, 154, 155, 156, 165, 409, 219, 220, 221, 35, 410, 411, 412, 413, 414, 415, 103, 416, 417, 418, 419, 420, 503, 504, 505, 506, 580, 581, 582, 583, 584, 612, 613, 614, 615, 604, 605, 606, 607] (by decide +kernel) (by decide +kernel)
set_option maxRecDepth 20000 in
theorem gL_law_X4_lost : GoodIn wsLaw (wsV RL 100 RX4 yX4_lost wsX4_lost) := goodIn_app (goodIn_of _ (by decide +kernel)) ggL_law_X4_lost
set_option maxRecDepth 20000 in
theorem ggL_law_X5_lost : GoodIn wsLaw wsX5_lost := goodIn_r _ [510, 145, 459, 455, 456, 457, 5, 458, 125, 118, 355, 117, 126, 127, 123, 460, 415, 103, 416, 461, 462, 463, 464, 172, 173, 174, 175, 146, 147, 148, 585, 586, 587, 588, 589, 590, 591, 592, 593, 594, 595, 596, 597, 598, 599, 600, 601, 602, 603] (by decide +kernel) (by decide +kernel)
set_option maxRecDepth 20000 in
theorem gL_law_X5_lost : GoodIn wsLaw (wsV RL 103 RX5 yX5_lost wsX5_lost) := goodIn_app (goodIn_of _ (by decide +kernel)) ggL_law_X5_lost
set_option maxRecDepth 20000 in
theorem ggL_law_X4_rank : GoodIn wsLaw wsX4_rank := goodIn_r _ [514, 28, 515, 439, 440, 27, 441, 95, 96, 97, 98, 88, 89, 90, 99, 2, 100, 101, 102, 103, 104, 109, 110, 111, 112, 91, 83, 580, 581, 582, 583, 584, 616, 617, 618, 619, 620] (by decide +kernel) (by decide +kernel)
set_option maxRecDepth 20000 in
theorem gL_law_X4_rank : GoodIn wsLaw (wsV RL 104 RX4 yX4_rank wsX4_rank) := goodIn_app (goodIn_of _ (by decide +kernel)) ggL_law_X4_rank
set_option maxRecDepth 20000 in
theorem ggL_law_X5_rank : GoodIn wsLaw wsX5_rank := goodIn_r _ [519, 145, 129, 146, 147, 5, 148, 465, 466, 467, 468, 122, 120, 121, 128, 454, 469, 470, 471, 472, 473, 474, 475, 476, 477, 102, 103, 104, 478, 479, 480, 481, 585, 586, 587, 588, 589, 590, 591, 592, 593, 594, 595, 596, 597, 598, 599, 600, 601, 602, 603] (by decide +kernel) (by decide +kernel)
set_option maxRecDepth 20000 in
theorem gL_law_X5_rank : GoodIn wsLaw (wsV RL 107 RX5 yX5_rank wsX5_rank) := goodIn_app (goodIn_of _ (by decide +kernel)) ggL_law_X5_rank
set_option maxRecDepth 20000 in
theorem ggL_law_X4_beat : GoodIn wsLaw wsX4_beat := goodIn_r _ [523, 524, 28, 360, 361, 27, 362, 525, 526, 527, 528, 88, 89, 92, 53, 54, 55, 90, 529, 182, 183, 530, 531, 532, 533, 534, 93, 2, 94, 580, 581, 582, 583, 584, 616, 617, 618, 619, 620] (by decide +kernel) (by decide +kernel)
set_option maxRecDepth 20000 in
theorem gL_law_X4_beat : GoodIn wsLaw (wsV RL 108 RX4 yX4_beat wsX4_beat) := goodIn_app (goodIn_of _ (by decide +kernel)) ggL_law_X4_beat
set_option maxRecDepth 20000 in
theorem ggL_law_X5_beat : GoodIn wsLaw wsX5_beat := goodIn_r _ [538, 145, 539, 540, 541, 368, 369, 5, 370, 146, 147, 148, 542, 543, 544, 545, 120, 121, 469, 470, 471, 472, 585, 586, 587, 588, 589, 590, 591, 592, 593, 594, 595, 596, 597, 598, 599, 600, 601, 602, 603] (by decide +kernel) (by decide +kernel)
set_option maxRecDepth 20000 in
theorem gL_law_X5_beat : GoodIn wsLaw (wsV RL 112 RX5 yX5_beat wsX5_beat) := goodIn_app (goodIn_of _ (by decide +kernel)) ggL_law_X5_beat
set_option maxRecDepth 20000 in
theorem ggL_law_X4_best : GoodIn wsLaw wsX4_best := goodIn_r _ [549, 28, 525, 526, 527, 27, 528, 88, 89, 92, 53, 54, 55, 90, 529, 182, 183, 530, 531, 532, 533, 580, 581, 582, 583, 584, 616, 617, 618, 619, 620] (by decide +kernel) (by decide +kernel)
set_option maxRecDepth 20000 in
theorem gL_law_X4_best : GoodIn wsLaw (wsV RL 113 RX4 yX4_best wsX4_best) := goodIn_app (goodIn_of _ (by decide +kernel)) ggL_law_X4_best
set_option maxRecDepth 20000 in
theorem ggL_law_X5_best : GoodIn wsLaw wsX5_best := goodIn_r _ [553, 145, 540, 541, 542, 543, 544, 5, 545, 120, 121, 469, 470, 471, 472, 585, 586, 587, 588, 589, 590, 591, 592, 593, 594, 595, 596, 597, 598, 599, 600, 601, 602, 603] (by decide +kernel) (by decide +kernel)
set_option maxRecDepth 20000 in
theorem gL_law_X5_best : GoodIn wsLaw (wsV RL 116 RX5 yX5_best wsX5_best) := goodIn_app (goodIn_of _ (by decide +kernel)) ggL_law_X5_best
set_option maxRecDepth 20000 in
theorem ggL_law_X4_count : GoodIn wsLaw wsX4_count := goodIn_r _ [557, 16, 20, 28, 29, 558, 400, 401, 15, 402, 38, 559, 392, 393, 394, 39, 560, 561, 562, 563, 37, 564, 565, 566, 567, 35, 333, 334, 335, 19, 336, 51, 568, 569, 570, 27, 571, 90, 572, 573, 574, 575, 91, 580, 581, 582, 583, 584, 604, 605, 606, 607, 608, 609, 610, 611, 616, 617, 618, 619, 620] (by decide +kernel) (by decide +kernel)
set_option maxRecDepth 20000 in
theorem gL_law_X4_count : GoodIn wsLaw (wsV RL 117 RX4 yX4_count wsX4_count) := goodIn_app (goodIn_of _ (by decide +kernel)) ggL_law_X4_count
set_option maxRecDepth 20000 in
theorem ggL_law_X5_count : GoodIn wsLaw wsX5_count := goodIn_r _ [579, 145, 117, 118, 126, 123, 119, 454, 355, 469, 470, 471, 5, 472, 120, 121, 465, 466, 467, 468, 122, 128, 129, 473, 474, 475, 476, 477, 102, 103, 104, 478, 479, 480, 481, 585, 586, 587, 588, 589, 590, 591, 592, 593, 594, 595, 596, 597, 598, 599, 600, 601, 602, 603] (by decide +kernel) (by decide +kernel)
set_option maxRecDepth 20000 in
theorem gL_law_X5_count : GoodIn wsLaw (wsV RL 120 RX5 yX5_count wsX5_count) := goodIn_app (goodIn_of _ (by decide +kernel)) ggL_law_X5_count
