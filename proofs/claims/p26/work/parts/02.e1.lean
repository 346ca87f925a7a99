set_option maxRecDepth 20000 in
theorem wsL_act_qc : GoodIn wsL_law [.code yL_act cL_act 13 (some .boolean)] := goodIn_r _ [155] (by decide +kernel) (by decide +kernel)
set_option maxRecDepth 20000 in
theorem wsL_act_r1_g : GoodIn wsL_law wsL_act_r1 := goodIn_r _ [84, 85, 81, 86, 93, 94, 95, 96, 97, 98, 2, 99, 100, 101, 18, 102, 103, 104, 105, 106, 107, 108, 109, 110] (by decide +kernel) (by decide +kernel)
set_option maxRecDepth 20000 in
theorem wsL_act_r2_g : GoodIn wsL_law wsL_act_r2 := goodIn_r _ [111, 112, 17, 113, 48, 47, 114, 115, 116, 117, 118, 119, 120, 121, 156, 157, 158, 159, 160, 161, 162, 163, 122, 123] (by decide +kernel) (by decide +kernel)
set_option maxRecDepth 20000 in
theorem wsL_act_r3_g : GoodIn wsL_law wsL_act_r3 := goodIn_r _ [124, 125, 14, 126, 127, 128, 129, 130, 131, 132, 133, 134, 135, 136, 137, 138, 139, 140, 141, 142, 143, 22, 144, 145] (by decide +kernel) (by decide +kernel)
set_option maxRecDepth 20000 in
theorem wsL_act_r4_g : GoodIn wsL_law wsL_act_r4 := goodIn_r _ [146, 147, 91, 92, 148, 149, 150, 21, 151, 53, 152, 52, 164, 165, 166, 167, 168, 169, 170, 171, 172, 173, 174, 175] (by decide +kernel) (by decide +kernel)
set_option maxRecDepth 20000 in
theorem wsL_act_r5_g : GoodIn wsL_law wsL_act_r5 := goodIn_r _ [176, 177, 178, 179, 180, 181, 182, 183, 184, 185, 186, 187, 188, 189, 190, 191, 26, 35, 192, 193, 194, 195, 196, 197] (by decide +kernel) (by decide +kernel)
set_option maxRecDepth 20000 in
theorem wsL_act_r6_g : GoodIn wsL_law wsL_act_r6 := goodIn_r _ [198, 25, 199, 60, 200, 201, 202, 203, 204, 205, 206, 207, 208, 209, 210, 211, 212, 213, 214, 215, 216, 217, 218, 219] (by decide +kernel) (by decide +kernel)
set_option maxRecDepth 20000 in
theorem wsL_act_r7_g : GoodIn wsL_law wsL_act_r7 := goodIn_r _ [55, 220, 221, 222, 223, 61, 224, 225, 226, 227, 228, 229, 230, 231, 232, 233, 234, 62, 235, 236, 237, 238, 239, 240] (by decide +kernel) (by decide +kernel)
set_option maxRecDepth 20000 in
theorem wsL_act_r8_g : GoodIn wsL_law wsL_act_r8 := goodIn_r _ [241, 242, 243, 244, 245, 246, 247, 248, 249, 250, 251, 252, 253, 254, 255, 256, 257, 258, 259, 260, 261, 262, 263, 264] (by decide +kernel) (by decide +kernel)
set_option maxRecDepth 20000 in
theorem wsL_act_r9_g : GoodIn wsL_law wsL_act_r9 := goodIn_r _ [265, 266, 267, 268, 269, 36, 270, 271, 272, 13, 273, 43, 274, 275, 276, 277, 278, 279, 280, 281, 282, 283, 284, 285] (by decide +kernel) (by decide +kernel)
set_option maxRecDepth 20000 in
theorem wsL_act_r10_g : GoodIn wsL_law wsL_act_r10 := goodIn_r _ [286, 287, 288, 289, 290, 291, 292, 293, 294, 295, 296, 297, 298, 299, 300, 301, 302, 303, 304] (by decide +kernel) (by decide +kernel)
theorem ggL_law_L_act : GoodIn wsL_law wsL_act := goodIn_ca (a := []) wsL_act_qc (goodIn_app (goodIn_app (goodIn_app (goodIn_app (goodIn_app (goodIn_app (goodIn_app (goodIn_app (goodIn_app wsL_act_r1_g (goodIn_app wsL_act_r2_g (goodIn_app wsL_act_r3_g (goodIn_app wsL_act_r4_g (goodIn_app wsL_act_r5_g (goodIn_app wsL_act_r6_g (goodIn_app wsL_act_r7_g (goodIn_app wsL_act_r8_g (goodIn_app wsL_act_r9_g wsL_act_r10_g))))))))) (goodIn_sub inlX6 (by decide +kernel))) (goodIn_sub inlX3 (by decide +kernel))) (goodIn_sub inlX4 (by decide +kernel))) (goodIn_sub inlX5 (by decide +kernel))) (goodIn_sub inlX1 (by decide +kernel))) (goodIn_sub (fun _ h => List.mem_append_left _ (List.mem_append_right _ h)) (by decide +kernel))) (goodIn_sub (fun _ h => List.mem_append_right _ h) (by decide +kernel))) (goodIn_sub (fun _ h => List.mem_append_left _ (List.mem_append_left _ (List.mem_append_right _ h))) (by decide +kernel)))
set_option maxRecDepth 20000 in
theorem gL_law_L_act : GoodIn wsL_law (va_wsS RL 90 yL_act wsL_act) := goodIn_app (goodIn_of _ (by decide +kernel)) ggL_law_L_act
set_option maxRecDepth 20000 in
theorem ggL_law_L_good : GoodIn wsL_law wsL_good := goodIn_ca (goodIn_ca (goodIn_r _ [279, 251, 252, 253, 2, 254, 14, 184, 185, 186, 187, 91, 92, 188, 189, 190, 191, 26, 35, 192, 193, 194, 195, 18, 22, 176, 196, 197, 198, 25, 199, 60, 200, 201, 202, 203, 17, 204, 48, 47, 205, 206, 207, 208, 126, 209, 210, 211, 212, 213, 214, 21, 215, 152, 53, 52, 216, 217, 218, 219, 55, 220, 221, 222, 223, 61, 224, 225, 226, 227, 228, 229, 230, 231, 232, 233, 234, 62, 235, 134, 135, 136, 137, 138, 139, 236, 237, 238, 239, 128, 129, 255, 256, 257, 280, 281, 282, 283, 284, 285, 286, 287, 288, 289, 290, 291, 292, 293, 294, 295, 296, 297, 258, 259, 260, 261, 102, 103, 104, 105, 106, 244, 245, 246, 247, 248, 249, 250, 298, 299, 300, 301, 107, 108, 109, 110, 111, 112, 113, 93, 94, 81, 95, 305, 306, 307, 308, 309, 310, 311, 312, 313, 314, 315, 322, 323, 324, 325, 316, 317, 318, 319, 320, 321] (by decide +kernel) (by decide +kernel)) (goodIn_sub (fun _ h => List.mem_append_left _ (List.mem_append_left _ (List.mem_append_right _ h))) (by decide +kernel))) (goodIn_sub (fun _ h => List.mem_append_right _ h) (by decide +kernel))
set_option maxRecDepth 20000 in
theorem gL_law_L_good : GoodIn wsL_law (va_wsS RL 74 yL_good wsL_good) := goodIn_app (goodIn_of _ (by decide +kernel)) ggL_law_L_good
