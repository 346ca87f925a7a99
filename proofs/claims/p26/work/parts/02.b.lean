theorem mem_r {big ws : List Cond} (ps : List Nat) (hp : ws = ps.filterMap (fun i => big[i]?)) : ∀ w ∈ ws, w ∈ big := by
  intro w hw
  rw [hp] at hw
  obtain ⟨i, -, hi⟩ := List.mem_filterMap.mp hw
  exact List.mem_of_getElem? hi
set_option maxRecDepth 20000 in
theorem wsL_law0_r1_q : ∀ w ∈ wsL_law0_r1, w ∈ lw_tbl := mem_r [23, 24, 8, 50, 499, 25, 26, 27, 28, 29, 30, 31, 32, 9, 152, 51, 52, 10, 153, 64, 65, 11, 154, 86] (by decide +kernel)
set_option maxRecDepth 20000 in
theorem wsL_law0_r2_q : ∀ w ∈ wsL_law0_r2, w ∈ lw_tbl := mem_r [87, 12, 155, 105, 106, 13, 156, 123, 124, 14, 157, 158, 159, 33, 34, 35, 36, 37, 39, 41, 54, 55, 56, 57] (by decide +kernel)
set_option maxRecDepth 20000 in
theorem wsL_law0_r3_q : ∀ w ∈ wsL_law0_r3, w ∈ lw_tbl := mem_r [58, 67, 68, 69, 70, 72, 85, 73, 88, 89, 90, 91, 92, 93, 94, 107, 108, 109, 110, 111, 112, 113, 126, 127] (by decide +kernel)
set_option maxRecDepth 20000 in
theorem wsL_law0_r4_q : ∀ w ∈ wsL_law0_r4, w ∈ lw_tbl := mem_r [128, 129, 130, 131, 132, 133, 134, 335, 336, 7, 337, 338, 339, 340, 341, 177, 178, 179, 180, 181, 18, 342, 343, 344] (by decide +kernel)
set_option maxRecDepth 20000 in
theorem wsL_law0_r5_q : ∀ w ∈ wsL_law0_r5, w ∈ lw_tbl := mem_r [304, 305, 306, 307, 288, 20, 272, 273, 274, 256, 19, 253, 254, 255, 308, 309, 310, 311, 313, 314, 315, 316, 318, 319] (by decide +kernel)
set_option maxRecDepth 20000 in
theorem wsL_law0_r6_q : ∀ w ∈ wsL_law0_r6, w ∈ lw_tbl := mem_r [320, 321, 249, 250, 251, 252, 40, 276, 277, 278, 279, 280, 281, 282, 283, 21, 284, 285, 286, 287, 322, 323, 324, 325] (by decide +kernel)
set_option maxRecDepth 20000 in
theorem wsL_law0_r7_q : ∀ w ∈ wsL_law0_r7, w ∈ lw_tbl := mem_r [75, 326, 327, 328, 331, 332, 333, 334, 74, 444, 445, 446, 447, 448, 449, 450, 452, 453, 454, 455, 456, 457, 458, 459] (by decide +kernel)
set_option maxRecDepth 20000 in
theorem wsL_law0_r8_q : ∀ w ∈ wsL_law0_r8, w ∈ lw_tbl := mem_r [71, 460, 461, 462, 464, 465, 466, 467, 38, 468, 469, 470, 471, 472, 473, 474, 42, 352, 353, 354, 356, 358, 1, 359] (by decide +kernel)
set_option maxRecDepth 20000 in
theorem wsL_law0_r9_q : ∀ w ∈ wsL_law0_r9, w ∈ lw_tbl := mem_r [360, 362, 2, 363, 364, 365, 366, 367, 95, 368, 369, 370, 371, 372, 374, 3, 375, 376, 377, 378, 379, 380, 381, 382] (by decide +kernel)
set_option maxRecDepth 20000 in
theorem wsL_law0_r10_q : ∀ w ∈ wsL_law0_r10, w ∈ lw_tbl := mem_r [383, 384, 385, 386, 387, 388, 389, 390, 394, 395, 22, 396, 391, 392, 393, 397, 398, 399, 400, 401, 402, 404, 4, 405] (by decide +kernel)
set_option maxRecDepth 20000 in
theorem wsL_law0_r11_q : ∀ w ∈ wsL_law0_r11, w ∈ lw_tbl := mem_r [475, 477, 6, 478, 433, 435, 5, 436, 437, 438, 439, 348, 349, 350, 351, 408, 409, 410, 429, 430, 431, 432, 479, 480] (by decide +kernel)
set_option maxRecDepth 20000 in
theorem wsL_law0_r12_q : ∀ w ∈ wsL_law0_r12, w ∈ lw_tbl := mem_r [481, 482, 483, 484, 485, 486, 487, 488, 489, 490, 493, 494, 495, 345, 346, 347, 411, 412, 413, 414, 415, 416, 417, 418] (by decide +kernel)
set_option maxRecDepth 20000 in
theorem wsL_law0_r13_q : ∀ w ∈ wsL_law0_r13, w ∈ lw_tbl := mem_r [419, 420, 421, 422, 423, 424, 425, 426, 427, 428, 440, 441, 442, 443, 496, 497, 498] (by decide +kernel)
set_option maxRecDepth 20000 in
theorem wsX60_q : ∀ w ∈ wsX60, w ∈ lw_tbl := mem_r [160, 162, 164, 166, 168, 170, 172, 174] (by decide +kernel)
set_option maxRecDepth 20000 in
theorem wsX40_q : ∀ w ∈ wsX40, w ∈ lw_tbl := mem_r [43, 45, 47] (by decide +kernel)
set_option maxRecDepth 20000 in
theorem wsX30_q : ∀ w ∈ wsX30, w ∈ lw_tbl := mem_r [59, 61] (by decide +kernel)
set_option maxRecDepth 20000 in
theorem wsX50_q : ∀ w ∈ wsX50, w ∈ lw_tbl := mem_r [76, 78, 80, 82] (by decide +kernel)
set_option maxRecDepth 20000 in
theorem wsX10_q : ∀ w ∈ wsX10, w ∈ lw_tbl := mem_r [96, 98, 100, 102] (by decide +kernel)
set_option maxRecDepth 20000 in
theorem wsX20_q : ∀ w ∈ wsX20, w ∈ lw_tbl := mem_r [114, 116, 118, 120] (by decide +kernel)
set_option maxRecDepth 20000 in
theorem wsX00_q : ∀ w ∈ wsX00, w ∈ lw_tbl := mem_r [135, 137, 139, 141, 143, 145, 147, 149] (by decide +kernel)
theorem wsL_law_in0 : ∀ w ∈ wsL_law0, w ∈ lw_tbl := by
  show ∀ w ∈ (wsL_law0_r1 ++ (wsL_law0_r2 ++ (wsL_law0_r3 ++ (wsL_law0_r4 ++ (wsL_law0_r5 ++ (wsL_law0_r6 ++ (wsL_law0_r7 ++ (wsL_law0_r8 ++ (wsL_law0_r9 ++ (wsL_law0_r10 ++ (wsL_law0_r11 ++ (wsL_law0_r12 ++ (wsL_law0_r13))))))))))))) ++ wsX60 ++ wsX40 ++ wsX30 ++ wsX50 ++ wsX10 ++ wsX20 ++ wsX00 ++ ([] : List Cond), w ∈ lw_tbl
  exact List.forall_mem_append.mpr ⟨List.forall_mem_append.mpr ⟨List.forall_mem_append.mpr ⟨List.forall_mem_append.mpr ⟨List.forall_mem_append.mpr ⟨List.forall_mem_append.mpr ⟨List.forall_mem_append.mpr ⟨List.forall_mem_append.mpr ⟨List.forall_mem_append.mpr ⟨wsL_law0_r1_q, List.forall_mem_append.mpr ⟨wsL_law0_r2_q, List.forall_mem_append.mpr ⟨wsL_law0_r3_q, List.forall_mem_append.mpr ⟨wsL_law0_r4_q, List.forall_mem_append.mpr ⟨wsL_law0_r5_q, List.forall_mem_append.mpr ⟨wsL_law0_r6_q, List.forall_mem_append.mpr ⟨wsL_law0_r7_q, List.forall_mem_append.mpr ⟨wsL_law0_r8_q, List.forall_mem_append.mpr ⟨wsL_law0_r9_q, List.forall_mem_append.mpr ⟨wsL_law0_r10_q, List.forall_mem_append.mpr ⟨wsL_law0_r11_q, List.forall_mem_append.mpr ⟨wsL_law0_r12_q, wsL_law0_r13_q⟩⟩⟩⟩⟩⟩⟩⟩⟩⟩⟩⟩, wsX60_q⟩, wsX40_q⟩, wsX30_q⟩, wsX50_q⟩, wsX10_q⟩, wsX20_q⟩, wsX00_q⟩, fun _ h => absurd h List.not_mem_nil⟩
theorem wsL_law_x0 : ∀ w ∈ (vx_atS RX6 62 "java/lang/IllegalArgumentException" ["java/lang/RuntimeException", "java/lang/Exception"]).filter goodWord, w ∈ lw_tbl := by decide +kernel
theorem wsL_law_x1 : ∀ w ∈ (vx_atS RX6 99 "java/lang/IllegalStateException" ["java/lang/RuntimeException", "java/lang/Exception"]).filter goodWord, w ∈ lw_tbl := by decide +kernel
theorem wsL_law_x2 : ∀ w ∈ (vx_atS RX6 219 "java/lang/IndexOutOfBoundsException" ["java/lang/RuntimeException", "java/lang/Exception"]).filter goodWord, w ∈ lw_tbl := by decide +kernel
theorem wsL_law_in : ∀ w ∈ wsL_law, w ∈ lw_tbl := fun w h => (List.mem_append.mp h).elim (fun h => (List.mem_append.mp h).elim (fun h => (List.mem_append.mp h).elim (fun h => wsL_law_in0 w h) (fun h => wsL_law_x0 w h)) (fun h => wsL_law_x1 w h)) (fun h => wsL_law_x2 w h)
theorem inlX0 : ∀ w ∈ wsX00, w ∈ wsL_law := fun _ h => List.mem_append_left _ (List.mem_append_left _ (List.mem_append_left _ (List.mem_append_left _ (List.mem_append_right _ h))))
theorem inX0 : ∀ w ∈ wsX00, w ∈ lw_tbl := fun w h => wsL_law_in w (inlX0 w h)
theorem inlX1 : ∀ w ∈ wsX10, w ∈ wsL_law := fun _ h => List.mem_append_left _ (List.mem_append_left _ (List.mem_append_left _ (List.mem_append_left _ (List.mem_append_left _ (List.mem_append_left _ (List.mem_append_right _ h))))))
theorem inX1 : ∀ w ∈ wsX10, w ∈ lw_tbl := fun w h => wsL_law_in w (inlX1 w h)
theorem inlX2 : ∀ w ∈ wsX20, w ∈ wsL_law := fun _ h => List.mem_append_left _ (List.mem_append_left _ (List.mem_append_left _ (List.mem_append_left _ (List.mem_append_left _ (List.mem_append_right _ h)))))
theorem inX2 : ∀ w ∈ wsX20, w ∈ lw_tbl := fun w h => wsL_law_in w (inlX2 w h)
theorem inlX3 : ∀ w ∈ wsX30, w ∈ wsL_law := fun _ h => List.mem_append_left _ (List.mem_append_left _ (List.mem_append_left _ (List.mem_append_left _ (List.mem_append_left _ (List.mem_append_left _ (List.mem_append_left _ (List.mem_append_left _ (List.mem_append_right _ h))))))))
theorem inX3 : ∀ w ∈ wsX30, w ∈ lw_tbl := fun w h => wsL_law_in w (inlX3 w h)
theorem inlX4 : ∀ w ∈ wsX40, w ∈ wsL_law := fun _ h => List.mem_append_left _ (List.mem_append_left _ (List.mem_append_left _ (List.mem_append_left _ (List.mem_append_left _ (List.mem_append_left _ (List.mem_append_left _ (List.mem_append_left _ (List.mem_append_left _ (List.mem_append_right _ h)))))))))
theorem inX4 : ∀ w ∈ wsX40, w ∈ lw_tbl := fun w h => wsL_law_in w (inlX4 w h)
theorem inlX5 : ∀ w ∈ wsX50, w ∈ wsL_law := fun _ h => List.mem_append_left _ (List.mem_append_left _ (List.mem_append_left _ (List.mem_append_left _ (List.mem_append_left _ (List.mem_append_left _ (List.mem_append_left _ (List.mem_append_right _ h)))))))
theorem inX5 : ∀ w ∈ wsX50, w ∈ lw_tbl := fun w h => wsL_law_in w (inlX5 w h)
theorem inlX6 : ∀ w ∈ wsX60, w ∈ wsL_law := fun _ h => List.mem_append_left _ (List.mem_append_left _ (List.mem_append_left _ (List.mem_append_left _ (List.mem_append_left _ (List.mem_append_left _ (List.mem_append_left _ (List.mem_append_left _ (List.mem_append_left _ (List.mem_append_left _ (List.mem_append_right _ h))))))))))
theorem inX6 : ∀ w ∈ wsX60, w ∈ lw_tbl := fun w h => wsL_law_in w (inlX6 w h)
theorem inX7 : ∀ w ∈ wsX70, w ∈ lw_tbl := by decide +kernel
theorem inJ6 : ∀ w ∈ wsJ60, w ∈ lw_tbl := by decide +kernel
theorem inJ9 : ∀ w ∈ wsJ90, w ∈ lw_tbl := by decide +kernel
theorem inJ0 : ∀ w ∈ wsJ00, w ∈ lw_tbl := by decide +kernel
