set_option maxRecDepth 20000 in
theorem ggL_law_X6_init : GoodIn wsL_law wsX6_init := goodIn_r _ [9, 10, 11, 12, 13, 14, 15, 16, 17, 18, 19, 20, 21, 22, 23, 24, 25, 26, 27, 28, 29, 30, 31, 32, 33, 34, 35, 36, 37, 38, 39, 40, 41, 42, 43, 44, 45, 46, 47, 48, 49, 50, 51, 52, 53, 54, 55, 56, 57, 58, 59, 60, 61, 62, 63, 64, 65, 66, 67, 68, 69, 70, 71, 72, 73, 74, 75, 76, 77, 78, 79, 80, 81, 668, 669, 670, 631, 632, 633, 634, 635, 636, 637, 638, 671, 672, 673, 674, 675, 676, 677, 678, 679, 680, 681, 682, 683, 684, 685, 686, 687, 688, 689, 690, 691, 692] (by decide +kernel) (by decide +kernel)
set_option maxRecDepth 20000 in
theorem gL_law_X6_init : GoodIn wsL_law (wsX6_init) := ggL_law_X6_init
set_option maxRecDepth 20000 in
theorem ggL_law_X7_init : GoodIn wsL_law wsX7_init := goodIn_r _ [84, 85, 11, 12, 86, 43, 87, 88, 89, 90, 91, 92, 93, 94, 95, 96, 97, 98, 99, 100, 101, 102, 103, 104, 105, 106, 639, 640, 641, 642, 643, 644, 645, 646, 647, 648, 649, 650, 651, 652, 653, 654, 655, 656, 657, 658, 659, 660, 661, 662, 663, 664, 665, 666, 667] (by decide +kernel) (by decide +kernel)
set_option maxRecDepth 20000 in
theorem gL_law_X7_init : GoodIn wsL_law (wsX7_init) := ggL_law_X7_init
set_option maxRecDepth 20000 in
theorem ggL_law_L_setParts : GoodIn wsL_law wsL_setParts := goodIn_ca (goodIn_r _ [110, 111, 112, 113, 114, 2, 115, 116, 117, 37, 631, 632, 633, 634, 635, 636, 637, 638] (by decide +kernel) (by decide +kernel)) (goodIn_sub (fun _ h => List.mem_append_left _ (List.mem_append_left _ (List.mem_append_right _ h))) (by decide +kernel))
set_option maxRecDepth 20000 in
theorem gL_law_L_setParts : GoodIn wsL_law (va_wsS RL 90 yL_setParts wsL_setParts) := goodIn_app (goodIn_of _ (by decide +kernel)) ggL_law_L_setParts
set_option maxRecDepth 20000 in
theorem ggL_law_X7_setParts : GoodIn wsL_law wsX7_setParts := goodIn_r _ [121, 122, 86, 123, 124, 5, 125, 126, 127, 128, 129, 639, 640, 641, 642, 643, 644, 645, 646, 647, 648, 649, 650, 651, 652, 653, 654, 655, 656, 657, 658, 659, 660, 661, 662, 663, 664, 665, 666, 667] (by decide +kernel) (by decide +kernel)
set_option maxRecDepth 20000 in
theorem gL_law_X7_setParts : GoodIn wsL_law (wsV RL 95 RX7 yX7_setParts wsX7_setParts) := goodIn_app (goodIn_of _ (by decide +kernel)) ggL_law_X7_setParts
set_option maxRecDepth 20000 in
theorem ggL_law_X7_thrown : GoodIn wsL_law wsX7_thrown := goodIn_r _ [133, 122, 639, 640, 641, 642, 643, 644, 645, 646, 647, 648, 649, 650, 651, 652, 653, 654, 655, 656, 657, 658, 659, 660, 661, 662, 663, 664, 665, 666, 667] (by decide +kernel) (by decide +kernel)
set_option maxRecDepth 20000 in
theorem gL_law_X7_thrown : GoodIn wsL_law (wsV RL 96 RX7 yX7_thrown wsX7_thrown) := goodIn_app (goodIn_of _ (by decide +kernel)) ggL_law_X7_thrown
set_option maxRecDepth 20000 in
theorem ggL_law_L_setSize : GoodIn wsL_law wsL_setSize := goodIn_ca (goodIn_ca (goodIn_r _ [136, 137, 111, 138, 139, 140, 2, 141, 16, 142, 143, 144, 145, 146, 147, 148, 149, 150, 116, 117, 631, 632, 633, 634, 635, 636, 637, 638, 668, 669, 670] (by decide +kernel) (by decide +kernel)) (goodIn_sub (fun _ h => List.mem_append_left _ (List.mem_append_right _ h)) (by decide +kernel))) (goodIn_sub (fun _ h => List.mem_append_left _ (List.mem_append_left _ (List.mem_append_right _ h))) (by decide +kernel))
set_option maxRecDepth 20000 in
theorem gL_law_L_setSize : GoodIn wsL_law (va_wsS RL 99 yL_setSize wsL_setSize) := goodIn_app (goodIn_of _ (by decide +kernel)) ggL_law_L_setSize
set_option maxRecDepth 20000 in
theorem ggL_law_X7_setSize : GoodIn wsL_law wsX7_setSize := goodIn_r _ [154, 122, 87, 155, 156, 5, 157, 123, 124, 125, 126, 127, 128, 129, 639, 640, 641, 642, 643, 644, 645, 646, 647, 648, 649, 650, 651, 652, 653, 654, 655, 656, 657, 658, 659, 660, 661, 662, 663, 664, 665, 666, 667] (by decide +kernel) (by decide +kernel)
set_option maxRecDepth 20000 in
theorem gL_law_X7_setSize : GoodIn wsL_law (wsV RL 102 RX7 yX7_setSize wsX7_setSize) := goodIn_app (goodIn_of _ (by decide +kernel)) ggL_law_X7_setSize
set_option maxRecDepth 20000 in
theorem ggL_law_L_learn : GoodIn wsL_law wsL_learn := goodIn_ca (goodIn_ca (goodIn_r _ [160, 137, 161, 162, 163, 164, 2, 165, 166, 167, 16, 168, 143, 144, 145, 146, 147, 169, 170, 171, 172, 173, 174, 175, 176, 177, 178, 179, 180, 181, 182, 183, 184, 631, 632, 633, 634, 635, 636, 637, 638, 668, 669, 670] (by decide +kernel) (by decide +kernel)) (goodIn_sub (fun _ h => List.mem_append_right _ h) (by decide +kernel))) (goodIn_sub (fun _ h => List.mem_append_left _ (List.mem_append_right _ h)) (by decide +kernel))
set_option maxRecDepth 20000 in
theorem gL_law_L_learn : GoodIn wsL_law (va_wsS RL 103 yL_learn wsL_learn) := goodIn_app (goodIn_of _ (by decide +kernel)) ggL_law_L_learn
set_option maxRecDepth 20000 in
theorem ggL_law_X7_learn : GoodIn wsL_law wsX7_learn := goodIn_r _ [188, 122, 88, 155, 156, 5, 157, 123, 124, 125, 189, 190, 191, 126, 127, 128, 129, 192, 193, 194, 195, 196, 197, 198, 199, 639, 640, 641, 642, 643, 644, 645, 646, 647, 648, 649, 650, 651, 652, 653, 654, 655, 656, 657, 658, 659, 660, 661, 662, 663, 664, 665, 666, 667] (by decide +kernel) (by decide +kernel)
set_option maxRecDepth 20000 in
theorem gL_law_X7_learn : GoodIn wsL_law (wsV RL 106 RX7 yX7_learn wsX7_learn) := goodIn_app (goodIn_of _ (by decide +kernel)) ggL_law_X7_learn
set_option maxRecDepth 20000 in
theorem ggL_law_L_put : GoodIn wsL_law wsL_put := goodIn_ca (goodIn_ca (goodIn_r _ [202, 137, 161, 203, 204, 205, 2, 206, 166, 167, 20, 169, 170, 171, 146, 147, 143, 144, 145, 207, 208, 209, 19, 210, 51, 50, 211, 212, 213, 214, 215, 216, 217, 218, 631, 632, 633, 634, 635, 636, 637, 638, 671, 672] (by decide +kernel) (by decide +kernel)) (goodIn_sub (fun _ h => List.mem_append_right _ h) (by decide +kernel))) (goodIn_sub (fun _ h => List.mem_append_left _ (List.mem_append_right _ h)) (by decide +kernel))
set_option maxRecDepth 20000 in
theorem gL_law_L_put : GoodIn wsL_law (va_wsS RL 107 yL_put wsL_put) := goodIn_app (goodIn_of _ (by decide +kernel)) ggL_law_L_put
set_option maxRecDepth 20000 in
theorem ggL_law_X7_put : GoodIn wsL_law wsX7_put := goodIn_r _ [222, 122, 90, 89, 189, 190, 5, 191, 123, 124, 125, 155, 156, 157, 126, 127, 128, 129, 223, 224, 225, 226, 639, 640, 641, 642, 643, 644, 645, 646, 647, 648, 649, 650, 651, 652, 653, 654, 655, 656, 657, 658, 659, 660, 661, 662, 663, 664, 665, 666, 667] (by decide +kernel) (by decide +kernel)
set_option maxRecDepth 20000 in
theorem gL_law_X7_put : GoodIn wsL_law (wsV RL 109 RX7 yX7_put wsX7_put) := goodIn_app (goodIn_of _ (by decide +kernel)) ggL_law_X7_put
set_option maxRecDepth 20000 in
theorem ggL_law_L_take : GoodIn wsL_law wsL_take := goodIn_ca (goodIn_ca (goodIn_r _ [229, 137, 161, 230, 231, 232, 2, 233, 166, 167, 20, 169, 170, 171, 146, 147, 143, 144, 145, 207, 208, 209, 19, 210, 51, 50, 234, 235, 236, 237, 631, 632, 633, 634, 635, 636, 637, 638, 671, 672] (by decide +kernel) (by decide +kernel)) (goodIn_sub (fun _ h => List.mem_append_right _ h) (by decide +kernel))) (goodIn_sub (fun _ h => List.mem_append_left _ (List.mem_append_right _ h)) (by decide +kernel))
set_option maxRecDepth 20000 in
theorem gL_law_L_take : GoodIn wsL_law (va_wsS RL 110 yL_take wsL_take) := goodIn_app (goodIn_of _ (by decide +kernel)) ggL_law_L_take
set_option maxRecDepth 20000 in
theorem ggL_law_X7_take : GoodIn wsL_law wsX7_take := goodIn_r _ [241, 122, 90, 89, 189, 190, 5, 191, 123, 124, 125, 155, 156, 157, 126, 127, 128, 129, 223, 224, 225, 226, 639, 640, 641, 642, 643, 644, 645, 646, 647, 648, 649, 650, 651, 652, 653, 654, 655, 656, 657, 658, 659, 660, 661, 662, 663, 664, 665, 666, 667] (by decide +kernel) (by decide +kernel)
set_option maxRecDepth 20000 in
theorem gL_law_X7_take : GoodIn wsL_law (wsV RL 112 RX7 yX7_take wsX7_take) := goodIn_app (goodIn_of _ (by decide +kernel)) ggL_law_X7_take
set_option maxRecDepth 20000 in
theorem ggL_law_L_costume : GoodIn wsL_law wsL_costume := goodIn_ca (goodIn_ca (goodIn_ca (goodIn_r _ [244, 137, 111, 161, 245, 246, 247, 2, 248, 166, 167, 24, 249, 169, 170, 171, 146, 147, 148, 149, 150, 116, 117, 250, 251, 252, 23, 253, 56, 254, 55, 631, 632, 633, 634, 635, 636, 637, 638, 673, 674, 675, 676] (by decide +kernel) (by decide +kernel)) (goodIn_sub (fun _ h => List.mem_append_right _ h) (by decide +kernel))) (goodIn_sub (fun _ h => List.mem_append_left _ (List.mem_append_right _ h)) (by decide +kernel))) (goodIn_sub (fun _ h => List.mem_append_left _ (List.mem_append_left _ (List.mem_append_right _ h))) (by decide +kernel))
set_option maxRecDepth 20000 in
theorem gL_law_L_costume : GoodIn wsL_law (va_wsS RL 113 yL_costume wsL_costume) := goodIn_app (goodIn_of _ (by decide +kernel)) ggL_law_L_costume
set_option maxRecDepth 20000 in
theorem ggL_law_X7_costume : GoodIn wsL_law wsX7_costume := goodIn_r _ [258, 122, 259, 91, 92, 189, 190, 5, 191, 123, 124, 125, 126, 127, 128, 129, 639, 640, 641, 642, 643, 644, 645, 646, 647, 648, 649, 650, 651, 652, 653, 654, 655, 656, 657, 658, 659, 660, 661, 662, 663, 664, 665, 666, 667] (by decide +kernel) (by decide +kernel)
set_option maxRecDepth 20000 in
theorem gL_law_X7_costume : GoodIn wsL_law (wsV RL 115 RX7 yX7_costume wsX7_costume) := goodIn_app (goodIn_of _ (by decide +kernel)) ggL_law_X7_costume
set_option maxRecDepth 20000 in
theorem ggL_law_L_sizeOf : GoodIn wsL_law wsL_sizeOf := goodIn_ca (goodIn_r _ [262, 137, 263, 264, 265, 2, 266, 24, 249, 267, 268, 269, 270, 146, 147, 631, 632, 633, 634, 635, 636, 637, 638, 673, 674, 675, 676] (by decide +kernel) (by decide +kernel)) (goodIn_sub (fun _ h => List.mem_append_left _ (List.mem_append_right _ h)) (by decide +kernel))
set_option maxRecDepth 20000 in
theorem gL_law_L_sizeOf : GoodIn wsL_law (va_wsS RL 116 yL_sizeOf wsL_sizeOf) := goodIn_app (goodIn_of _ (by decide +kernel)) ggL_law_L_sizeOf
set_option maxRecDepth 20000 in
theorem ggL_law_X7_sizeOf : GoodIn wsL_law wsX7_sizeOf := goodIn_r _ [274, 122, 259, 92, 123, 124, 5, 125, 126, 127, 128, 129, 639, 640, 641, 642, 643, 644, 645, 646, 647, 648, 649, 650, 651, 652, 653, 654, 655, 656, 657, 658, 659, 660, 661, 662, 663, 664, 665, 666, 667] (by decide +kernel) (by decide +kernel)
set_option maxRecDepth 20000 in
theorem gL_law_X7_sizeOf : GoodIn wsL_law (wsV RL 118 RX7 yX7_sizeOf wsX7_sizeOf) := goodIn_app (goodIn_of _ (by decide +kernel)) ggL_law_X7_sizeOf
set_option maxRecDepth 20000 in
theorem ggL_law_L_cold : GoodIn wsL_law wsL_cold := goodIn_ca (goodIn_ca (goodIn_r _ [277, 137, 111, 278, 279, 280, 2, 281, 38, 16, 143, 144, 145, 146, 147, 282, 283, 284, 116, 117, 285, 286, 287, 15, 288, 46, 289, 290, 173, 174, 631, 632, 633, 634, 635, 636, 637, 638, 668, 669, 670] (by decide +kernel) (by decide +kernel)) (goodIn_sub (fun _ h => List.mem_append_left _ (List.mem_append_right _ h)) (by decide +kernel))) (goodIn_sub (fun _ h => List.mem_append_left _ (List.mem_append_left _ (List.mem_append_right _ h))) (by decide +kernel))
set_option maxRecDepth 20000 in
theorem gL_law_L_cold : GoodIn wsL_law (va_wsS RL 119 yL_cold wsL_cold) := goodIn_app (goodIn_of _ (by decide +kernel)) ggL_law_L_cold
set_option maxRecDepth 20000 in
theorem ggL_law_X7_cold : GoodIn wsL_law wsX7_cold := goodIn_r _ [294, 122, 295, 94, 155, 156, 5, 157, 123, 124, 125, 126, 127, 128, 129, 639, 640, 641, 642, 643, 644, 645, 646, 647, 648, 649, 650, 651, 652, 653, 654, 655, 656, 657, 658, 659, 660, 661, 662, 663, 664, 665, 666, 667] (by decide +kernel) (by decide +kernel)
set_option maxRecDepth 20000 in
theorem gL_law_X7_cold : GoodIn wsL_law (wsV RL 122 RX7 yX7_cold wsX7_cold) := goodIn_app (goodIn_of _ (by decide +kernel)) ggL_law_X7_cold
set_option maxRecDepth 20000 in
theorem ggL_law_L_isIll : GoodIn wsL_law wsL_isIll := goodIn_ca (goodIn_ca (goodIn_r _ [298, 137, 111, 299, 300, 301, 2, 302, 16, 303, 143, 144, 145, 146, 147, 282, 283, 284, 116, 117, 304, 289, 290, 631, 632, 633, 634, 635, 636, 637, 638, 668, 669, 670] (by decide +kernel) (by decide +kernel)) (goodIn_sub (fun _ h => List.mem_append_left _ (List.mem_append_right _ h)) (by decide +kernel))) (goodIn_sub (fun _ h => List.mem_append_left _ (List.mem_append_left _ (List.mem_append_right _ h))) (by decide +kernel))
set_option maxRecDepth 20000 in
theorem gL_law_L_isIll : GoodIn wsL_law (va_wsS RL 123 yL_isIll wsL_isIll) := goodIn_app (goodIn_of _ (by decide +kernel)) ggL_law_L_isIll
set_option maxRecDepth 20000 in
theorem ggL_law_X7_isIll : GoodIn wsL_law wsX7_isIll := goodIn_r _ [308, 122, 94, 155, 156, 5, 157, 123, 124, 125, 126, 127, 128, 129, 309, 310, 311, 639, 640, 641, 642, 643, 644, 645, 646, 647, 648, 649, 650, 651, 652, 653, 654, 655, 656, 657, 658, 659, 660, 661, 662, 663, 664, 665, 666, 667] (by decide +kernel) (by decide +kernel)
set_option maxRecDepth 20000 in
theorem gL_law_X7_isIll : GoodIn wsL_law (wsV RL 125 RX7 yX7_isIll wsX7_isIll) := goodIn_app (goodIn_of _ (by decide +kernel)) ggL_law_X7_isIll
set_option maxRecDepth 20000 in
theorem ggL_law_L_canPlay : GoodIn wsL_law wsL_canPlay := goodIn_ca (goodIn_ca (goodIn_r _ [314, 137, 111, 315, 316, 317, 2, 318, 20, 16, 303, 143, 144, 145, 146, 147, 169, 170, 171, 282, 283, 284, 116, 117, 207, 208, 209, 19, 210, 51, 50, 319, 320, 321, 322, 142, 168, 24, 304, 289, 290, 323, 324, 325, 23, 326, 254, 56, 55, 327, 328, 329, 330, 58, 631, 632, 633, 634, 635, 636, 637, 638, 668, 669, 670, 671, 672, 673, 674, 675, 676] (by decide +kernel) (by decide +kernel)) (goodIn_sub (fun _ h => List.mem_append_left _ (List.mem_append_right _ h)) (by decide +kernel))) (goodIn_sub (fun _ h => List.mem_append_left _ (List.mem_append_left _ (List.mem_append_right _ h))) (by decide +kernel))
set_option maxRecDepth 20000 in
theorem gL_law_L_canPlay : GoodIn wsL_law (va_wsS RL 126 yL_canPlay wsL_canPlay) := goodIn_app (goodIn_of _ (by decide +kernel)) ggL_law_L_canPlay
set_option maxRecDepth 20000 in
theorem ggL_law_X7_canPlay : GoodIn wsL_law wsX7_canPlay := goodIn_r _ [334, 122, 155, 156, 5, 157, 123, 124, 125, 189, 190, 191, 126, 127, 128, 129, 309, 310, 311, 335, 336, 337, 338, 94, 223, 224, 225, 226, 90, 89, 192, 193, 194, 195, 88, 339, 340, 341, 342, 259, 91, 92, 87, 343, 344, 345, 346, 93, 639, 640, 641, 642, 643, 644, 645, 646, 647, 648, 649, 650, 651, 652, 653, 654, 655, 656, 657, 658, 659, 660, 661, 662, 663, 664, 665, 666, 667] (by decide +kernel) (by decide +kernel)
set_option maxRecDepth 20000 in
theorem gL_law_X7_canPlay : GoodIn wsL_law (wsV RL 128 RX7 yX7_canPlay wsX7_canPlay) := goodIn_app (goodIn_of _ (by decide +kernel)) ggL_law_X7_canPlay
set_option maxRecDepth 20000 in
theorem ggL_law_L_strain : GoodIn wsL_law wsL_strain := goodIn_ca (goodIn_r _ [349, 111, 350, 351, 352, 2, 353, 16, 303, 282, 283, 284, 116, 117, 354, 355, 356, 357, 28, 37, 358, 359, 360, 361, 20, 24, 142, 362, 363, 364, 27, 365, 63, 366, 367, 368, 369, 19, 370, 51, 50, 319, 320, 321, 322, 168, 304, 289, 290, 323, 324, 325, 23, 326, 254, 56, 55, 327, 328, 329, 330, 58, 371, 372, 373, 374, 64, 375, 376, 377, 378, 379, 380, 381, 382, 383, 384, 385, 65, 386, 179, 180, 181, 182, 183, 184, 387, 388, 389, 390, 173, 174, 391, 392, 393, 631, 632, 633, 634, 635, 636, 637, 638, 668, 669, 670, 677, 678, 679, 680, 671, 672, 673, 674, 675, 676] (by decide +kernel) (by decide +kernel)) (goodIn_sub (fun _ h => List.mem_append_left _ (List.mem_append_left _ (List.mem_append_right _ h))) (by decide +kernel))
set_option maxRecDepth 20000 in
theorem gL_law_L_strain : GoodIn wsL_law (va_wsS RL 129 yL_strain wsL_strain) := goodIn_app (goodIn_of _ (by decide +kernel)) ggL_law_L_strain
set_option maxRecDepth 20000 in
theorem ggL_law_X7_strain : GoodIn wsL_law wsX7_strain := goodIn_r _ [397, 122, 398, 309, 310, 5, 311, 123, 124, 125, 126, 127, 128, 129, 399, 400, 401, 402, 403, 105, 86, 404, 405, 406, 407, 90, 89, 104, 335, 336, 337, 338, 94, 223, 224, 225, 226, 192, 193, 194, 195, 88, 339, 340, 341, 342, 259, 91, 92, 87, 343, 344, 345, 346, 93, 408, 409, 410, 411, 412, 413, 414, 415, 639, 640, 641, 642, 643, 644, 645, 646, 647, 648, 649, 650, 651, 652, 653, 654, 655, 656, 657, 658, 659, 660, 661, 662, 663, 664, 665, 666, 667] (by decide +kernel) (by decide +kernel)
set_option maxRecDepth 20000 in
theorem gL_law_X7_strain : GoodIn wsL_law (wsV RL 131 RX7 yX7_strain wsX7_strain) := goodIn_app (goodIn_of _ (by decide +kernel)) ggL_law_X7_strain
set_option maxRecDepth 20000 in
theorem ggL_law_L_strainByAll : GoodIn wsL_law wsL_strainByAll := goodIn_ca (goodIn_r _ [418, 111, 419, 420, 421, 2, 422, 16, 303, 28, 37, 282, 283, 284, 116, 117, 358, 359, 360, 361, 20, 24, 142, 362, 363, 364, 27, 365, 63, 366, 367, 368, 369, 19, 370, 51, 50, 319, 320, 321, 322, 168, 304, 289, 290, 323, 324, 325, 23, 326, 254, 56, 55, 327, 328, 329, 330, 58, 371, 372, 373, 374, 64, 375, 376, 377, 378, 379, 380, 381, 423, 424, 425, 426, 427, 428, 429, 173, 174, 631, 632, 633, 634, 635, 636, 637, 638, 668, 669, 670, 677, 678, 679, 680, 671, 672, 673, 674, 675, 676] (by decide +kernel) (by decide +kernel)) (goodIn_sub (fun _ h => List.mem_append_left _ (List.mem_append_left _ (List.mem_append_right _ h))) (by decide +kernel))
set_option maxRecDepth 20000 in
theorem gL_law_L_strainByAll : GoodIn wsL_law (va_wsS RL 132 yL_strainByAll wsL_strainByAll) := goodIn_app (goodIn_of _ (by decide +kernel)) ggL_law_L_strainByAll
set_option maxRecDepth 20000 in
theorem ggL_law_X7_strainByAll : GoodIn wsL_law wsX7_strainByAll := goodIn_r _ [433, 122, 398, 309, 310, 5, 311, 123, 124, 125, 126, 127, 128, 129, 399, 400, 401, 402, 403, 105, 86, 404, 405, 406, 407, 90, 89, 104, 335, 336, 337, 338, 94, 223, 224, 225, 226, 192, 193, 194, 195, 88, 339, 340, 341, 342, 259, 91, 92, 87, 343, 344, 345, 346, 93, 408, 409, 410, 411, 412, 413, 414, 415, 639, 640, 641, 642, 643, 644, 645, 646, 647, 648, 649, 650, 651, 652, 653, 654, 655, 656, 657, 658, 659, 660, 661, 662, 663, 664, 665, 666, 667] (by decide +kernel) (by decide +kernel)
set_option maxRecDepth 20000 in
theorem gL_law_X7_strainByAll : GoodIn wsL_law (wsV RL 134 RX7 yX7_strainByAll wsX7_strainByAll) := goodIn_app (goodIn_of _ (by decide +kernel)) ggL_law_X7_strainByAll
set_option maxRecDepth 20000 in
theorem ggL_law_L_work : GoodIn wsL_law wsL_work := goodIn_ca (goodIn_r _ [436, 111, 437, 438, 439, 2, 440, 16, 303, 282, 283, 284, 116, 117, 354, 355, 356, 357, 28, 37, 358, 359, 360, 361, 20, 24, 142, 362, 363, 364, 27, 365, 63, 366, 367, 368, 369, 19, 370, 51, 50, 319, 320, 321, 322, 168, 304, 289, 290, 323, 324, 325, 23, 326, 254, 56, 55, 327, 328, 329, 330, 58, 371, 372, 373, 374, 64, 375, 376, 377, 378, 379, 380, 381, 382, 383, 384, 385, 65, 386, 179, 180, 181, 182, 183, 184, 387, 388, 389, 390, 173, 174, 441, 442, 443, 631, 632, 633, 634, 635, 636, 637, 638, 668, 669, 670, 677, 678, 679, 680, 671, 672, 673, 674, 675, 676] (by decide +kernel) (by decide +kernel)) (goodIn_sub (fun _ h => List.mem_append_left _ (List.mem_append_left _ (List.mem_append_right _ h))) (by decide +kernel))
set_option maxRecDepth 20000 in
theorem gL_law_L_work : GoodIn wsL_law (va_wsS RL 135 yL_work wsL_work) := goodIn_app (goodIn_of _ (by decide +kernel)) ggL_law_L_work
set_option maxRecDepth 20000 in
theorem ggL_law_X7_work : GoodIn wsL_law wsX7_work := goodIn_r _ [447, 122, 403, 309, 310, 5, 311, 123, 124, 125, 126, 127, 128, 129, 399, 400, 401, 402, 398, 105, 86, 404, 405, 406, 407, 90, 89, 104, 335, 336, 337, 338, 94, 223, 224, 225, 226, 192, 193, 194, 195, 88, 339, 340, 341, 342, 259, 91, 92, 87, 343, 344, 345, 346, 93, 408, 409, 410, 411, 412, 413, 414, 415, 639, 640, 641, 642, 643, 644, 645, 646, 647, 648, 649, 650, 651, 652, 653, 654, 655, 656, 657, 658, 659, 660, 661, 662, 663, 664, 665, 666, 667] (by decide +kernel) (by decide +kernel)
set_option maxRecDepth 20000 in
theorem gL_law_X7_work : GoodIn wsL_law (wsV RL 137 RX7 yX7_work wsX7_work) := goodIn_app (goodIn_of _ (by decide +kernel)) ggL_law_X7_work
set_option maxRecDepth 20000 in
theorem ggL_law_L_actorFor : GoodIn wsL_law wsL_actorFor := goodIn_ca (goodIn_ca (goodIn_r _ [450, 137, 111, 451, 452, 453, 2, 454, 16, 303, 37, 169, 170, 171, 146, 147, 282, 283, 284, 116, 117, 354, 355, 356, 357, 28, 358, 359, 360, 361, 20, 24, 142, 362, 363, 364, 27, 365, 63, 366, 367, 368, 369, 19, 370, 51, 50, 319, 320, 321, 322, 168, 304, 289, 290, 323, 324, 325, 23, 326, 254, 56, 55, 327, 328, 329, 330, 58, 371, 372, 373, 374, 64, 375, 376, 377, 378, 379, 380, 381, 382, 383, 384, 385, 65, 386, 179, 180, 181, 182, 183, 184, 387, 388, 389, 390, 173, 174, 455, 456, 457, 458, 459, 460, 461, 631, 632, 633, 634, 635, 636, 637, 638, 668, 669, 670, 677, 678, 679, 680, 671, 672, 673, 674, 675, 676] (by decide +kernel) (by decide +kernel)) (goodIn_sub (fun _ h => List.mem_append_left _ (List.mem_append_right _ h)) (by decide +kernel))) (goodIn_sub (fun _ h => List.mem_append_left _ (List.mem_append_left _ (List.mem_append_right _ h))) (by decide +kernel))
set_option maxRecDepth 20000 in
theorem gL_law_L_actorFor : GoodIn wsL_law (va_wsS RL 138 yL_actorFor wsL_actorFor) := goodIn_app (goodIn_of _ (by decide +kernel)) ggL_law_L_actorFor
