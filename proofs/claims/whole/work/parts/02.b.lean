theorem mem_r {big ws : List Cond} (ps : List Nat) (hp : ws = ps.filterMap (fun i => big[i]?)) : ∀ w ∈ ws, w ∈ big := by
  intro w hw
  rw [hp] at hw
  obtain ⟨i, -, hi⟩ := List.mem_filterMap.mp hw
  exact List.mem_of_getElem? hi
set_option maxRecDepth 20000 in
theorem wsL_law0_r1_q : ∀ w ∈ wsL_law0_r1, w ∈ lw_tbl := mem_r [43, 44, 27, 649, 650, 34, 911, 45, 46, 47, 48, 49, 50, 51, 52, 28, 185, 71, 72, 29, 186, 84, 85, 30] (by decide +kernel)
set_option maxRecDepth 20000 in
theorem wsL_law0_r2_q : ∀ w ∈ wsL_law0_r2, w ∈ lw_tbl := mem_r [187, 106, 107, 31, 188, 125, 126, 32, 189, 147, 148, 33, 190, 191, 192, 53, 54, 55, 56, 70, 57, 59, 61, 74] (by decide +kernel)
set_option maxRecDepth 20000 in
theorem wsL_law0_r3_q : ∀ w ∈ wsL_law0_r3, w ∈ lw_tbl := mem_r [75, 76, 77, 78, 87, 88, 89, 90, 92, 105, 93, 108, 109, 110, 111, 112, 113, 114, 127, 128, 129, 130, 131, 133] (by decide +kernel)
set_option maxRecDepth 20000 in
theorem wsL_law0_r4_q : ∀ w ∈ wsL_law0_r4, w ∈ lw_tbl := mem_r [135, 150, 151, 152, 153, 155, 157, 159, 161, 163, 651, 652, 653, 654, 655, 656, 657, 658, 659, 660, 661, 662, 664, 665] (by decide +kernel)
set_option maxRecDepth 20000 in
theorem wsL_law0_r5_q : ∀ w ∈ wsL_law0_r5, w ∈ lw_tbl := mem_r [666, 667, 669, 670, 671, 672, 673, 674, 678, 679, 680, 218, 219, 26, 220, 221, 222, 223, 224, 225, 226, 38, 747, 748] (by decide +kernel)
set_option maxRecDepth 20000 in
theorem wsL_law0_r6_q : ∀ w ∈ wsL_law0_r6, w ∈ lw_tbl := mem_r [749, 750, 683, 751, 752, 753, 754, 756, 11, 757, 743, 744, 745, 746, 294, 295, 296, 297, 298, 299, 300, 301, 58, 302] (by decide +kernel)
set_option maxRecDepth 20000 in
theorem wsL_law0_r7_q : ∀ w ∈ wsL_law0_r7, w ∈ lw_tbl := mem_r [303, 304, 305, 39, 321, 322, 323, 758, 759, 760, 761, 762, 763, 764, 325, 326, 327, 328, 329, 330, 331, 332, 349, 41] (by decide +kernel)
set_option maxRecDepth 20000 in
theorem wsL_law0_r8_q : ∀ w ∈ wsL_law0_r8, w ∈ lw_tbl := mem_r [60, 333, 334, 335, 337, 338, 339, 340, 341, 342, 343, 344, 40, 345, 346, 347, 348, 765, 766, 767, 768, 769, 770, 771] (by decide +kernel)
set_option maxRecDepth 20000 in
theorem wsL_law0_r9_q : ∀ w ∈ wsL_law0_r9, w ∈ lw_tbl := mem_r [772, 774, 12, 775, 776, 778, 13, 779, 365, 366, 367, 368, 369, 370, 371, 372, 373, 374, 375, 377, 378, 379, 380, 382] (by decide +kernel)
set_option maxRecDepth 20000 in
theorem wsL_law0_r10_q : ∀ w ∈ wsL_law0_r10, w ∈ lw_tbl := mem_r [383, 384, 385, 780, 781, 782, 783, 784, 786, 14, 787, 386, 387, 388, 389, 390, 391, 392, 394, 395, 396, 397, 788, 789] (by decide +kernel)
set_option maxRecDepth 20000 in
theorem wsL_law0_r11_q : ∀ w ∈ wsL_law0_r11, w ∈ lw_tbl := mem_r [790, 791, 398, 399, 400, 401, 402, 403, 404, 95, 406, 407, 408, 409, 94, 792, 793, 794, 795, 663, 410, 411, 412, 413] (by decide +kernel)
set_option maxRecDepth 20000 in
theorem wsL_law0_r12_q : ∀ w ∈ wsL_law0_r12, w ∈ lw_tbl := mem_r [414, 415, 416, 91, 417, 418, 419, 796, 797, 798, 799, 421, 422, 423, 424, 425, 426, 427, 428, 429, 430, 432, 433, 434] (by decide +kernel)
set_option maxRecDepth 20000 in
theorem wsL_law0_r13_q : ∀ w ∈ wsL_law0_r13, w ∈ lw_tbl := mem_r [435, 437, 438, 800, 801, 802, 803, 676, 440, 441, 442, 443, 444, 445, 446, 62, 447, 804, 805, 806, 807, 808, 809, 810] (by decide +kernel)
set_option maxRecDepth 20000 in
theorem wsL_law0_r14_q : ∀ w ∈ wsL_law0_r14, w ∈ lw_tbl := mem_r [448, 449, 450, 451, 452, 453, 454, 455, 457, 1, 458, 459, 460, 461, 462, 463, 464, 465, 466, 811, 812, 813, 814, 815] (by decide +kernel)
set_option maxRecDepth 20000 in
theorem wsL_law0_r15_q : ∀ w ∈ wsL_law0_r15, w ∈ lw_tbl := mem_r [817, 15, 818, 819, 821, 16, 822, 823, 825, 17, 826, 467, 468, 469, 470, 471, 472, 473, 474, 476, 2, 477, 478, 480] (by decide +kernel)
set_option maxRecDepth 20000 in
theorem wsL_law0_r16_q : ∀ w ∈ wsL_law0_r16, w ∈ lw_tbl := mem_r [3, 481, 482, 483, 484, 485, 115, 486, 487, 488, 489, 490, 491, 492, 493, 497, 498, 42, 499, 494, 495, 496, 500, 501] (by decide +kernel)
set_option maxRecDepth 20000 in
theorem wsL_law0_r17_q : ∀ w ∈ wsL_law0_r17, w ∈ lw_tbl := mem_r [502, 503, 504, 505, 507, 4, 508, 511, 512, 513, 827, 828, 829, 830, 681, 831, 833, 18, 834, 682, 835, 837, 19, 838] (by decide +kernel)
set_option maxRecDepth 20000 in
theorem wsL_law0_r18_q : ∀ w ∈ wsL_law0_r18, w ∈ lw_tbl := mem_r [839, 841, 20, 842, 843, 845, 21, 846, 514, 515, 516, 517, 518, 519, 520, 521, 522, 523, 524, 525, 526, 527, 847, 848] (by decide +kernel)
set_option maxRecDepth 20000 in
theorem wsL_law0_r19_q : ∀ w ∈ wsL_law0_r19, w ∈ lw_tbl := mem_r [849, 850, 528, 529, 530, 531, 532, 533, 534, 535, 536, 537, 851, 852, 853, 854, 538, 539, 540, 541, 542, 543, 544, 545] (by decide +kernel)
set_option maxRecDepth 20000 in
theorem wsL_law0_r20_q : ∀ w ∈ wsL_law0_r20, w ∈ lw_tbl := mem_r [547, 5, 548, 549, 550, 551, 855, 856, 857, 858, 552, 553, 554, 555, 556, 557, 558, 559, 561, 6, 562, 859, 860, 861] (by decide +kernel)
set_option maxRecDepth 20000 in
theorem wsL_law0_r21_q : ∀ w ∈ wsL_law0_r21, w ∈ lw_tbl := mem_r [862, 563, 564, 565, 566, 567, 568, 569, 137, 570, 571, 572, 573, 136, 576, 577, 578, 579, 863, 864, 865, 866, 668, 867] (by decide +kernel)
set_option maxRecDepth 20000 in
theorem wsL_law0_r22_q : ∀ w ∈ wsL_law0_r22, w ∈ lw_tbl := mem_r [869, 22, 870, 580, 581, 582, 583, 584, 585, 586, 132, 165, 592, 593, 594, 595, 164, 166, 871, 872, 873, 874, 675, 677] (by decide +kernel)
set_option maxRecDepth 20000 in
theorem wsL_law0_r23_q : ∀ w ∈ wsL_law0_r23, w ∈ lw_tbl := mem_r [596, 597, 598, 599, 600, 601, 602, 604, 606, 7, 607, 134, 608, 610, 8, 611, 612, 613, 614, 615, 616, 618, 9, 619] (by decide +kernel)
set_option maxRecDepth 20000 in
theorem wsL_law0_r24_q : ∀ w ∈ wsL_law0_r24, w ∈ lw_tbl := mem_r [154, 620, 622, 10, 623, 158, 156, 160, 624, 625, 626, 627, 875, 876, 877, 878, 879, 881, 23, 882, 883, 885, 24, 886] (by decide +kernel)
set_option maxRecDepth 20000 in
theorem wsL_law0_r25_q : ∀ w ∈ wsL_law0_r25, w ∈ lw_tbl := mem_r [887, 889, 25, 890, 210, 211, 212, 213, 891, 892, 893, 894, 628, 629, 630, 631, 632, 633, 634, 895, 896, 897, 898, 635] (by decide +kernel)
set_option maxRecDepth 20000 in
theorem wsL_law0_r26_q : ∀ w ∈ wsL_law0_r26, w ∈ lw_tbl := mem_r [636, 637, 638, 639, 640, 641, 899, 900, 901, 902, 642, 643, 644, 645, 646, 647, 648, 162, 903, 904, 905, 906, 214, 215] (by decide +kernel)
set_option maxRecDepth 20000 in
theorem wsL_law0_r27_q : ∀ w ∈ wsL_law0_r27, w ∈ lw_tbl := mem_r [216, 217, 167, 907, 908, 909, 910] (by decide +kernel)
set_option maxRecDepth 20000 in
theorem wsX60_q : ∀ w ∈ wsX60, w ∈ lw_tbl := mem_r [193, 195, 197, 199, 201, 203, 205, 207] (by decide +kernel)
set_option maxRecDepth 20000 in
theorem wsX70_q : ∀ w ∈ wsX70, w ∈ lw_tbl := mem_r [684, 686, 688, 690, 692, 694, 696, 698, 700, 702, 704, 706, 708, 710, 712, 714, 716, 718, 720, 722, 724, 726, 728, 730, 732, 734, 736, 738, 740] (by decide +kernel)
set_option maxRecDepth 20000 in
theorem wsX40_q : ∀ w ∈ wsX40, w ∈ lw_tbl := mem_r [63, 65, 67] (by decide +kernel)
set_option maxRecDepth 20000 in
theorem wsX30_q : ∀ w ∈ wsX30, w ∈ lw_tbl := mem_r [79, 81] (by decide +kernel)
set_option maxRecDepth 20000 in
theorem wsX50_q : ∀ w ∈ wsX50, w ∈ lw_tbl := mem_r [96, 98, 100, 102] (by decide +kernel)
set_option maxRecDepth 20000 in
theorem wsX10_q : ∀ w ∈ wsX10, w ∈ lw_tbl := mem_r [116, 118, 120, 122] (by decide +kernel)
set_option maxRecDepth 20000 in
theorem wsX20_q : ∀ w ∈ wsX20, w ∈ lw_tbl := mem_r [138, 140, 142, 144] (by decide +kernel)
set_option maxRecDepth 20000 in
theorem wsX00_q : ∀ w ∈ wsX00, w ∈ lw_tbl := mem_r [168, 170, 172, 174, 176, 178, 180, 182] (by decide +kernel)
theorem wsL_law_in0 : ∀ w ∈ wsL_law0, w ∈ lw_tbl := by
  show ∀ w ∈ (wsL_law0_r1 ++ (wsL_law0_r2 ++ (wsL_law0_r3 ++ (wsL_law0_r4 ++ (wsL_law0_r5 ++ (wsL_law0_r6 ++ (wsL_law0_r7 ++ (wsL_law0_r8 ++ (wsL_law0_r9 ++ (wsL_law0_r10 ++ (wsL_law0_r11 ++ (wsL_law0_r12 ++ (wsL_law0_r13 ++ (wsL_law0_r14 ++ (wsL_law0_r15 ++ (wsL_law0_r16 ++ (wsL_law0_r17 ++ (wsL_law0_r18 ++ (wsL_law0_r19 ++ (wsL_law0_r20 ++ (wsL_law0_r21 ++ (wsL_law0_r22 ++ (wsL_law0_r23 ++ (wsL_law0_r24 ++ (wsL_law0_r25 ++ (wsL_law0_r26 ++ (wsL_law0_r27))))))))))))))))))))))))))) ++ wsX60 ++ wsX70 ++ wsX40 ++ wsX30 ++ wsX50 ++ wsX10 ++ wsX20 ++ wsX00 ++ ([] : List Cond), w ∈ lw_tbl
  exact List.forall_mem_append.mpr ⟨List.forall_mem_append.mpr ⟨List.forall_mem_append.mpr ⟨List.forall_mem_append.mpr ⟨List.forall_mem_append.mpr ⟨List.forall_mem_append.mpr ⟨List.forall_mem_append.mpr ⟨List.forall_mem_append.mpr ⟨List.forall_mem_append.mpr ⟨List.forall_mem_append.mpr ⟨wsL_law0_r1_q, List.forall_mem_append.mpr ⟨wsL_law0_r2_q, List.forall_mem_append.mpr ⟨wsL_law0_r3_q, List.forall_mem_append.mpr ⟨wsL_law0_r4_q, List.forall_mem_append.mpr ⟨wsL_law0_r5_q, List.forall_mem_append.mpr ⟨wsL_law0_r6_q, List.forall_mem_append.mpr ⟨wsL_law0_r7_q, List.forall_mem_append.mpr ⟨wsL_law0_r8_q, List.forall_mem_append.mpr ⟨wsL_law0_r9_q, List.forall_mem_append.mpr ⟨wsL_law0_r10_q, List.forall_mem_append.mpr ⟨wsL_law0_r11_q, List.forall_mem_append.mpr ⟨wsL_law0_r12_q, List.forall_mem_append.mpr ⟨wsL_law0_r13_q, List.forall_mem_append.mpr ⟨wsL_law0_r14_q, List.forall_mem_append.mpr ⟨wsL_law0_r15_q, List.forall_mem_append.mpr ⟨wsL_law0_r16_q, List.forall_mem_append.mpr ⟨wsL_law0_r17_q, List.forall_mem_append.mpr ⟨wsL_law0_r18_q, List.forall_mem_append.mpr ⟨wsL_law0_r19_q, List.forall_mem_append.mpr ⟨wsL_law0_r20_q, List.forall_mem_append.mpr ⟨wsL_law0_r21_q, List.forall_mem_append.mpr ⟨wsL_law0_r22_q, List.forall_mem_append.mpr ⟨wsL_law0_r23_q, List.forall_mem_append.mpr ⟨wsL_law0_r24_q, List.forall_mem_append.mpr ⟨wsL_law0_r25_q, List.forall_mem_append.mpr ⟨wsL_law0_r26_q, wsL_law0_r27_q⟩⟩⟩⟩⟩⟩⟩⟩⟩⟩⟩⟩⟩⟩⟩⟩⟩⟩⟩⟩⟩⟩⟩⟩⟩⟩, wsX60_q⟩, wsX70_q⟩, wsX40_q⟩, wsX30_q⟩, wsX50_q⟩, wsX10_q⟩, wsX20_q⟩, wsX00_q⟩, fun _ h => absurd h List.not_mem_nil⟩
theorem wsL_law_x0 : ∀ w ∈ (vx_atS RX6 62 "java/lang/IllegalArgumentException" ["java/lang/RuntimeException", "java/lang/Exception"]).filter goodWord, w ∈ lw_tbl := by decide +kernel
theorem wsL_law_x1 : ∀ w ∈ (vx_atS RX6 219 "java/lang/IndexOutOfBoundsException" ["java/lang/RuntimeException", "java/lang/Exception"]).filter goodWord, w ∈ lw_tbl := by decide +kernel
theorem wsL_law_x2 : ∀ w ∈ (vx_atS RX6 99 "java/lang/IllegalStateException" ["java/lang/RuntimeException", "java/lang/Exception"]).filter goodWord, w ∈ lw_tbl := by decide +kernel
theorem wsL_law_in : ∀ w ∈ wsL_law, w ∈ lw_tbl := fun w h => (List.mem_append.mp h).elim (fun h => (List.mem_append.mp h).elim (fun h => (List.mem_append.mp h).elim (fun h => wsL_law_in0 w h) (fun h => wsL_law_x0 w h)) (fun h => wsL_law_x1 w h)) (fun h => wsL_law_x2 w h)
theorem inlX0 : ∀ w ∈ wsX00, w ∈ wsL_law := fun _ h => List.mem_append_left _ (List.mem_append_left _ (List.mem_append_left _ (List.mem_append_left _ (List.mem_append_right _ h))))
theorem inX0 : ∀ w ∈ wsX00, w ∈ lw_tbl := fun w h => wsL_law_in w (inlX0 w h)
theorem inlX1 : ∀ w ∈ wsX10, w ∈ wsL_law := fun _ h => List.mem_append_left _ (List.mem_append_left _ (List.mem_append_left _ (List.mem_append_left _ (List.mem_append_left _ (List.mem_append_left _ (List.mem_append_right _ h))))))
theorem inX1 : ∀ w ∈ wsX10, w ∈ lw_tbl := fun w h => wsL_law_in w (inlX1 w h)
theorem inlX2 : ∀ w ∈ wsX20, w ∈ wsL_law := fun _ h => List.mem_append_left _ (List.mem_append_left _ (List.mem_append_left _ (List.mem_append_left _ (List.mem_append_left _ (List.mem_append_right _ h)))))
theorem inX2 : ∀ w ∈ wsX20, w ∈ lw_tbl := fun w h => wsL_law_in w (inlX2 w h)
theorem inlX3 : ∀ w ∈ wsX30, w ∈ wsL_law := fun _ h => List.mem_append_left _ (List.mem_append_left _ (List.mem_append_left _ (List.mem_append_left _ (List.mem_append_left _ (List.mem_append_left _ (List.mem_append_left _ (List.mem_append_left _ (List.mem_append_right _ h))))))))
theorem inX3 : ∀ w ∈ wsX30, w ∈ lw_tbl := fun w h => wsL_law_in w (inlX3 w h)
theorem inlX4 : ∀ w ∈ wsX40, w ∈ wsL_law := fun _ h => List.mem_append_left _ (List.mem_append_left _ (List.mem_append_left _ (List.mem_append_left _ (List.mem_append_left _ (List.mem_append_left _ (List.mem_append_left _ (List.mem_append_left _ (List.mem_append_left _ (List.mem_append_right _ h)))))))))
theorem inX4 : ∀ w ∈ wsX40, w ∈ lw_tbl := fun w h => wsL_law_in w (inlX4 w h)
theorem inlX5 : ∀ w ∈ wsX50, w ∈ wsL_law := fun _ h => List.mem_append_left _ (List.mem_append_left _ (List.mem_append_left _ (List.mem_append_left _ (List.mem_append_left _ (List.mem_append_left _ (List.mem_append_left _ (List.mem_append_right _ h)))))))
theorem inX5 : ∀ w ∈ wsX50, w ∈ lw_tbl := fun w h => wsL_law_in w (inlX5 w h)
theorem inlX6 : ∀ w ∈ wsX60, w ∈ wsL_law := fun _ h => List.mem_append_left _ (List.mem_append_left _ (List.mem_append_left _ (List.mem_append_left _ (List.mem_append_left _ (List.mem_append_left _ (List.mem_append_left _ (List.mem_append_left _ (List.mem_append_left _ (List.mem_append_left _ (List.mem_append_left _ (List.mem_append_right _ h)))))))))))
theorem inX6 : ∀ w ∈ wsX60, w ∈ lw_tbl := fun w h => wsL_law_in w (inlX6 w h)
theorem inlX7 : ∀ w ∈ wsX70, w ∈ wsL_law := fun _ h => List.mem_append_left _ (List.mem_append_left _ (List.mem_append_left _ (List.mem_append_left _ (List.mem_append_left _ (List.mem_append_left _ (List.mem_append_left _ (List.mem_append_left _ (List.mem_append_left _ (List.mem_append_left _ (List.mem_append_right _ h))))))))))
theorem inX7 : ∀ w ∈ wsX70, w ∈ lw_tbl := fun w h => wsL_law_in w (inlX7 w h)
theorem inJ6 : ∀ w ∈ wsJ60, w ∈ lw_tbl := by decide +kernel
theorem inJ9 : ∀ w ∈ wsJ90, w ∈ lw_tbl := by decide +kernel
theorem inJ0 : ∀ w ∈ wsJ00, w ∈ lw_tbl := by decide +kernel
