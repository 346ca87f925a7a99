set_option maxRecDepth 20000 in
theorem ggL_law_X7_actorFor : GoodIn wsL_law wsX7_actorFor := goodIn_r _ [465, 122, 105, 189, 190, 5, 191, 123, 124, 125, 126, 127, 128, 129, 309, 310, 311, 399, 400, 401, 402, 398, 403, 86, 404, 405, 406, 407, 90, 89, 104, 335, 336, 337, 338, 94, 223, 224, 225, 226, 192, 193, 194, 195, 88, 339, 340, 341, 342, 259, 91, 92, 87, 343, 344, 345, 346, 93, 408, 409, 410, 411, 412, 413, 414, 415, 639, 640, 641, 642, 643, 644, 645, 646, 647, 648, 649, 650, 651, 652, 653, 654, 655, 656, 657, 658, 659, 660, 661, 662, 663, 664, 665, 666, 667] (by decide +kernel) (by decide +kernel)
set_option maxRecDepth 20000 in
theorem gL_law_X7_actorFor : GoodIn wsL_law (wsV RL 140 RX7 yX7_actorFor wsX7_actorFor) := goodIn_app (goodIn_of _ (by decide +kernel)) ggL_law_X7_actorFor
set_option maxRecDepth 20000 in
theorem ggL_law_L_chain : GoodIn wsL_law wsL_chain := goodIn_ca (goodIn_ca (goodIn_r _ [468, 137, 111, 469, 470, 471, 2, 472, 16, 303, 143, 144, 145, 146, 147, 282, 283, 284, 116, 117, 354, 355, 356, 357, 28, 37, 358, 359, 360, 361, 20, 24, 142, 362, 363, 364, 27, 365, 63, 366, 367, 368, 369, 19, 370, 51, 50, 319, 320, 321, 322, 168, 304, 289, 290, 323, 324, 325, 23, 326, 254, 56, 55, 327, 328, 329, 330, 58, 371, 372, 373, 374, 64, 375, 376, 377, 378, 379, 380, 381, 382, 383, 384, 385, 65, 386, 179, 180, 181, 182, 183, 184, 387, 388, 389, 390, 173, 174, 172, 473, 474, 475, 476, 455, 456, 457, 458, 459, 460, 461, 631, 632, 633, 634, 635, 636, 637, 638, 668, 669, 670, 677, 678, 679, 680, 671, 672, 673, 674, 675, 676] (by decide +kernel) (by decide +kernel)) (goodIn_sub (fun _ h => List.mem_append_left _ (List.mem_append_right _ h)) (by decide +kernel))) (goodIn_sub (fun _ h => List.mem_append_left _ (List.mem_append_left _ (List.mem_append_right _ h))) (by decide +kernel))
set_option maxRecDepth 20000 in
theorem gL_law_L_chain : GoodIn wsL_law (va_wsS RL 141 yL_chain wsL_chain) := goodIn_app (goodIn_of _ (by decide +kernel)) ggL_law_L_chain
set_option maxRecDepth 20000 in
theorem ggL_law_X7_chain : GoodIn wsL_law wsX7_chain := goodIn_r _ [480, 122, 106, 105, 86, 155, 156, 5, 157, 123, 124, 125, 126, 127, 128, 129, 309, 310, 311, 399, 400, 401, 402, 398, 403, 404, 405, 406, 407, 90, 89, 104, 335, 336, 337, 338, 94, 223, 224, 225, 226, 192, 193, 194, 195, 88, 339, 340, 341, 342, 259, 91, 92, 87, 343, 344, 345, 346, 93, 408, 409, 410, 411, 412, 413, 414, 415, 639, 640, 641, 642, 643, 644, 645, 646, 647, 648, 649, 650, 651, 652, 653, 654, 655, 656, 657, 658, 659, 660, 661, 662, 663, 664, 665, 666, 667] (by decide +kernel) (by decide +kernel)
set_option maxRecDepth 20000 in
theorem gL_law_X7_chain : GoodIn wsL_law (wsV RL 143 RX7 yX7_chain wsX7_chain) := goodIn_app (goodIn_of _ (by decide +kernel)) ggL_law_X7_chain
set_option maxRecDepth 20000 in
theorem ggL_law_L_show : GoodIn wsL_law wsL_show := goodIn_ca (goodIn_ca (goodIn_r _ [483, 111, 161, 484, 485, 486, 2, 487, 166, 167, 38, 32, 488, 282, 283, 284, 116, 117, 489, 490, 491, 31, 492, 493, 72, 494, 495, 496, 497, 70, 631, 632, 633, 634, 635, 636, 637, 638, 681, 682, 683, 684] (by decide +kernel) (by decide +kernel)) (goodIn_sub (fun _ h => List.mem_append_right _ h) (by decide +kernel))) (goodIn_sub (fun _ h => List.mem_append_left _ (List.mem_append_left _ (List.mem_append_right _ h))) (by decide +kernel))
set_option maxRecDepth 20000 in
theorem gL_law_L_show : GoodIn wsL_law (va_wsS RL 144 yL_show wsL_show) := goodIn_app (goodIn_of _ (by decide +kernel)) ggL_law_L_show
set_option maxRecDepth 20000 in
theorem ggL_law_X7_show : GoodIn wsL_law wsX7_show := goodIn_r _ [501, 122, 295, 502, 95, 97, 123, 124, 5, 125, 126, 127, 128, 129, 503, 504, 505, 506, 639, 640, 641, 642, 643, 644, 645, 646, 647, 648, 649, 650, 651, 652, 653, 654, 655, 656, 657, 658, 659, 660, 661, 662, 663, 664, 665, 666, 667] (by decide +kernel) (by decide +kernel)
set_option maxRecDepth 20000 in
theorem gL_law_X7_show : GoodIn wsL_law (wsV RL 146 RX7 yX7_show wsX7_show) := goodIn_app (goodIn_of _ (by decide +kernel)) ggL_law_X7_show
set_option maxRecDepth 20000 in
theorem ggL_law_L_sell : GoodIn wsL_law wsL_sell := goodIn_ca (goodIn_ca (goodIn_ca (goodIn_r _ [509, 137, 111, 161, 510, 511, 512, 2, 513, 116, 117, 166, 167, 32, 488, 514, 36, 515, 20, 268, 269, 270, 146, 147, 169, 170, 171, 367, 368, 369, 19, 370, 51, 50, 516, 517, 518, 35, 519, 76, 520, 81, 77, 78, 79, 521, 631, 632, 633, 634, 635, 636, 637, 638, 681, 682, 683, 684, 685, 686, 687, 688, 689, 690, 691, 692, 671, 672] (by decide +kernel) (by decide +kernel)) (goodIn_sub (fun _ h => List.mem_append_left _ (List.mem_append_left _ (List.mem_append_right _ h))) (by decide +kernel))) (goodIn_sub (fun _ h => List.mem_append_right _ h) (by decide +kernel))) (goodIn_sub (fun _ h => List.mem_append_left _ (List.mem_append_right _ h)) (by decide +kernel))
set_option maxRecDepth 20000 in
theorem gL_law_L_sell : GoodIn wsL_law (va_wsS RL 147 yL_sell wsL_sell) := goodIn_app (goodIn_of _ (by decide +kernel)) ggL_law_L_sell
set_option maxRecDepth 20000 in
theorem ggL_law_X7_sell : GoodIn wsL_law wsX7_sell := goodIn_r _ [525, 122, 502, 96, 526, 90, 98, 99, 100, 101, 102, 89, 527, 123, 124, 5, 125, 189, 190, 191, 126, 127, 128, 129, 639, 640, 641, 642, 643, 644, 645, 646, 647, 648, 649, 650, 651, 652, 653, 654, 655, 656, 657, 658, 659, 660, 661, 662, 663, 664, 665, 666, 667] (by decide +kernel) (by decide +kernel)
set_option maxRecDepth 20000 in
theorem gL_law_X7_sell : GoodIn wsL_law (wsV RL 150 RX7 yX7_sell wsX7_sell) := goodIn_app (goodIn_of _ (by decide +kernel)) ggL_law_X7_sell
set_option maxRecDepth 20000 in
theorem ggL_law_L_play : GoodIn wsL_law wsL_play := goodIn_ca (goodIn_r _ [530, 161, 531, 532, 533, 2, 534, 166, 167, 38, 32, 489, 490, 491, 31, 492, 493, 72, 535, 536, 537, 538, 16, 303, 514, 37, 539, 354, 355, 356, 357, 28, 358, 359, 360, 361, 20, 24, 142, 362, 363, 364, 27, 365, 63, 366, 367, 368, 369, 19, 370, 51, 50, 319, 320, 321, 322, 168, 304, 289, 290, 323, 324, 325, 23, 326, 254, 56, 55, 327, 328, 329, 330, 58, 371, 372, 373, 374, 64, 375, 376, 377, 378, 379, 380, 381, 382, 383, 384, 385, 65, 386, 179, 180, 181, 182, 183, 184, 387, 388, 389, 390, 173, 174, 455, 456, 457, 458, 459, 460, 461, 540, 541, 542, 543, 544, 545, 546, 547, 548, 549, 550, 551, 36, 515, 552, 553, 554, 555, 556, 557, 558, 559, 391, 392, 393, 560, 561, 562, 35, 563, 81, 80, 521, 631, 632, 633, 634, 635, 636, 637, 638, 681, 682, 683, 684, 668, 669, 670, 677, 678, 679, 680, 671, 672, 673, 674, 675, 676, 685, 686, 687, 688, 689, 690, 691, 692] (by decide +kernel) (by decide +kernel)) (goodIn_sub (fun _ h => List.mem_append_right _ h) (by decide +kernel))
set_option maxRecDepth 20000 in
theorem gL_law_L_play : GoodIn wsL_law (va_wsS RL 151 yL_play wsL_play) := goodIn_app (goodIn_of _ (by decide +kernel)) ggL_law_L_play
set_option maxRecDepth 20000 in
theorem ggL_law_X7_play : GoodIn wsL_law wsX7_play := goodIn_r _ [567, 122, 295, 96, 527, 126, 127, 128, 5, 129, 503, 504, 505, 506, 502, 95, 399, 400, 401, 402, 398, 403, 105, 86, 404, 405, 406, 407, 90, 89, 104, 335, 336, 337, 338, 94, 223, 224, 225, 226, 192, 193, 194, 195, 88, 339, 340, 341, 342, 259, 91, 92, 87, 343, 344, 345, 346, 93, 408, 409, 410, 411, 412, 413, 414, 415, 568, 569, 570, 571, 526, 98, 103, 99, 572, 573, 574, 575, 101, 100, 102, 576, 577, 578, 579, 97, 639, 640, 641, 642, 643, 644, 645, 646, 647, 648, 649, 650, 651, 652, 653, 654, 655, 656, 657, 658, 659, 660, 661, 662, 663, 664, 665, 666, 667] (by decide +kernel) (by decide +kernel)
set_option maxRecDepth 20000 in
theorem gL_law_X7_play : GoodIn wsL_law (wsV RL 154 RX7 yX7_play wsX7_play) := goodIn_app (goodIn_of _ (by decide +kernel)) ggL_law_X7_play
set_option maxRecDepth 20000 in
theorem ggL_law_X6_day : GoodIn wsL_law wsX6_day := goodIn_r _ [583, 38, 631, 632, 633, 634, 635, 636, 637, 638] (by decide +kernel) (by decide +kernel)
set_option maxRecDepth 20000 in
theorem gL_law_X6_day : GoodIn wsL_law (wsV RL 155 RX6 yX6_day wsX6_day) := goodIn_app (goodIn_of _ (by decide +kernel)) ggL_law_X6_day
set_option maxRecDepth 20000 in
theorem ggL_law_X7_day : GoodIn wsL_law wsX7_day := goodIn_r _ [587, 122, 295, 639, 640, 641, 642, 643, 644, 645, 646, 647, 648, 649, 650, 651, 652, 653, 654, 655, 656, 657, 658, 659, 660, 661, 662, 663, 664, 665, 666, 667] (by decide +kernel) (by decide +kernel)
set_option maxRecDepth 20000 in
theorem gL_law_X7_day : GoodIn wsL_law (wsV RL 158 RX7 yX7_day wsX7_day) := goodIn_app (goodIn_of _ (by decide +kernel)) ggL_law_X7_day
set_option maxRecDepth 20000 in
theorem ggL_law_L_stateOf : GoodIn wsL_law wsL_stateOf := goodIn_ca (goodIn_r _ [590, 137, 591, 592, 593, 2, 594, 32, 488, 514, 268, 269, 270, 146, 147, 631, 632, 633, 634, 635, 636, 637, 638, 681, 682, 683, 684] (by decide +kernel) (by decide +kernel)) (goodIn_sub (fun _ h => List.mem_append_left _ (List.mem_append_right _ h)) (by decide +kernel))
set_option maxRecDepth 20000 in
theorem gL_law_L_stateOf : GoodIn wsL_law (va_wsS RL 159 yL_stateOf wsL_stateOf) := goodIn_app (goodIn_of _ (by decide +kernel)) ggL_law_L_stateOf
set_option maxRecDepth 20000 in
theorem ggL_law_X7_stateOf : GoodIn wsL_law wsX7_stateOf := goodIn_r _ [598, 122, 502, 96, 123, 124, 5, 125, 126, 127, 128, 129, 639, 640, 641, 642, 643, 644, 645, 646, 647, 648, 649, 650, 651, 652, 653, 654, 655, 656, 657, 658, 659, 660, 661, 662, 663, 664, 665, 666, 667] (by decide +kernel) (by decide +kernel)
set_option maxRecDepth 20000 in
theorem gL_law_X7_stateOf : GoodIn wsL_law (wsV RL 161 RX7 yX7_stateOf wsX7_stateOf) := goodIn_app (goodIn_of _ (by decide +kernel)) ggL_law_X7_stateOf
set_option maxRecDepth 20000 in
theorem ggL_law_L_played : GoodIn wsL_law wsL_played := goodIn_ca (goodIn_r _ [601, 137, 602, 603, 604, 2, 605, 32, 488, 539, 268, 269, 270, 146, 147, 169, 170, 171, 631, 632, 633, 634, 635, 636, 637, 638, 681, 682, 683, 684] (by decide +kernel) (by decide +kernel)) (goodIn_sub (fun _ h => List.mem_append_left _ (List.mem_append_right _ h)) (by decide +kernel))
set_option maxRecDepth 20000 in
theorem gL_law_L_played : GoodIn wsL_law (va_wsS RL 162 yL_played wsL_played) := goodIn_app (goodIn_of _ (by decide +kernel)) ggL_law_L_played
set_option maxRecDepth 20000 in
theorem ggL_law_X7_played : GoodIn wsL_law wsX7_played := goodIn_r _ [609, 122, 502, 97, 123, 124, 5, 125, 189, 190, 191, 126, 127, 128, 129, 639, 640, 641, 642, 643, 644, 645, 646, 647, 648, 649, 650, 651, 652, 653, 654, 655, 656, 657, 658, 659, 660, 661, 662, 663, 664, 665, 666, 667] (by decide +kernel) (by decide +kernel)
set_option maxRecDepth 20000 in
theorem gL_law_X7_played : GoodIn wsL_law (wsV RL 164 RX7 yX7_played wsX7_played) := goodIn_app (goodIn_of _ (by decide +kernel)) ggL_law_X7_played
set_option maxRecDepth 20000 in
theorem ggL_law_L_refund : GoodIn wsL_law wsL_refund := goodIn_ca (goodIn_r _ [612, 137, 613, 614, 615, 2, 616, 36, 515, 617, 268, 269, 270, 146, 147, 631, 632, 633, 634, 635, 636, 637, 638, 685, 686, 687, 688, 689, 690, 691, 692] (by decide +kernel) (by decide +kernel)) (goodIn_sub (fun _ h => List.mem_append_left _ (List.mem_append_right _ h)) (by decide +kernel))
set_option maxRecDepth 20000 in
theorem gL_law_L_refund : GoodIn wsL_law (va_wsS RL 165 yL_refund wsL_refund) := goodIn_app (goodIn_of _ (by decide +kernel)) ggL_law_L_refund
set_option maxRecDepth 20000 in
theorem ggL_law_X7_refund : GoodIn wsL_law wsX7_refund := goodIn_r _ [621, 122, 526, 103, 123, 124, 5, 125, 126, 127, 128, 129, 639, 640, 641, 642, 643, 644, 645, 646, 647, 648, 649, 650, 651, 652, 653, 654, 655, 656, 657, 658, 659, 660, 661, 662, 663, 664, 665, 666, 667] (by decide +kernel) (by decide +kernel)
set_option maxRecDepth 20000 in
theorem gL_law_X7_refund : GoodIn wsL_law (wsV RL 167 RX7 yX7_refund wsX7_refund) := goodIn_app (goodIn_of _ (by decide +kernel)) ggL_law_X7_refund
set_option maxRecDepth 20000 in
theorem ggL_law_X6_takings : GoodIn wsL_law wsX6_takings := goodIn_r _ [625, 36, 626, 631, 632, 633, 634, 635, 636, 637, 638, 685, 686, 687, 688, 689, 690, 691, 692] (by decide +kernel) (by decide +kernel)
set_option maxRecDepth 20000 in
theorem gL_law_X6_takings : GoodIn wsL_law (wsV RL 168 RX6 yX6_takings wsX6_takings) := goodIn_app (goodIn_of _ (by decide +kernel)) ggL_law_X6_takings
set_option maxRecDepth 20000 in
theorem ggL_law_X7_takings : GoodIn wsL_law wsX7_takings := goodIn_r _ [630, 122, 527, 639, 640, 641, 642, 643, 644, 645, 646, 647, 648, 649, 650, 651, 652, 653, 654, 655, 656, 657, 658, 659, 660, 661, 662, 663, 664, 665, 666, 667] (by decide +kernel) (by decide +kernel)
set_option maxRecDepth 20000 in
theorem gL_law_X7_takings : GoodIn wsL_law (wsV RL 171 RX7 yX7_takings wsX7_takings) := goodIn_app (goodIn_of _ (by decide +kernel)) ggL_law_X7_takings
