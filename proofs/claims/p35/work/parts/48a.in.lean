theorem zz_by {big : List Cond} (ws : List Cond) (ps : List Nat) (hp : ws = ps.filterMap (fun i => big[i]?)) : ∀ w ∈ ws, w ∈ big := by
  intro w hw
  rw [hp] at hw
  obtain ⟨i, -, hi⟩ := List.mem_filterMap.mp hw
  first | exact List.mem_of_getElem? hi | exact List.getElem?_mem hi
theorem zz_ap {big a b : List Cond} (ha : ∀ w ∈ a, w ∈ big) (hb : ∀ w ∈ b, w ∈ big) : ∀ w ∈ a ++ b, w ∈ big := fun w h => (List.mem_append.mp h).elim (ha w) (hb w)
set_option maxRecDepth 100000 in
theorem zz_r1 : ∀ w ∈ wsL_law0_r1, w ∈ lw_tbl := zz_by _ [59, 60, 45, 751, 752, 51, 1070, 1071, 1069, 61, 62, 63, 64, 65, 66, 67, 68, 46, 175, 176, 177, 84, 85, 48] (by decide +kernel)
set_option maxRecDepth 100000 in
theorem zz_r2 : ∀ w ∈ wsL_law0_r2, w ∈ lw_tbl := zz_by _ [178, 111, 112, 49, 179, 142, 143, 50, 180, 181, 69, 70, 71, 72, 73, 74, 47, 75, 83, 76, 77, 86, 87, 88] (by decide +kernel)
set_option maxRecDepth 100000 in
theorem zz_r3 : ∀ w ∈ wsL_law0_r3, w ∈ lw_tbl := zz_by _ [89, 90, 92, 93, 94, 95, 96, 97, 91, 113, 114, 115, 116, 117, 118, 119, 120, 121, 122, 123, 124, 144, 145, 146] (by decide +kernel)
set_option maxRecDepth 100000 in
theorem zz_r4 : ∀ w ∈ wsL_law0_r4, w ∈ lw_tbl := zz_by _ [147, 148, 150, 151, 152, 153, 154, 155, 156, 157, 149, 753, 754, 755, 756, 758, 760, 762, 765, 766, 767, 768, 771, 773] (by decide +kernel)
set_option maxRecDepth 100000 in
theorem zz_r5 : ∀ w ∈ wsL_law0_r5, w ∈ lw_tbl := zz_by _ [774, 775, 776, 777, 778, 779, 407, 408, 44, 409, 410, 411, 412, 413, 417, 418, 419, 420, 55, 488, 489] (by decide +kernel)
set_option maxRecDepth 100000 in
theorem zz_r6 : ∀ w ∈ wsL_law0_r6, w ∈ lw_tbl := zz_by _ [490, 491, 56, 507, 509, 16, 510, 511, 512, 513, 515, 57, 514, 336, 337, 338, 531, 284, 285, 286, 205, 206, 207, 208] (by decide +kernel)
set_option maxRecDepth 100000 in
theorem zz_r7 : ∀ w ∈ wsL_law0_r7, w ∈ lw_tbl := zz_by _ [209, 210, 211, 212, 833, 757, 837, 838, 839, 840, 842, 25, 843, 844, 845, 846, 847, 849, 26, 850] (by decide +kernel)
set_option maxRecDepth 100000 in
theorem zz_r8 : ∀ w ∈ wsL_law0_r8, w ∈ lw_tbl := zz_by _ [759, 761, 851, 853, 27, 854, 856, 858, 28, 859, 763, 532, 533, 534, 535, 536, 537, 538, 860, 861, 862, 863, 539, 540] (by decide +kernel)
set_option maxRecDepth 100000 in
theorem zz_r9 : ∀ w ∈ wsL_law0_r9, w ∈ lw_tbl := zz_by _ [541, 542, 864, 550, 551, 552, 553] (by decide +kernel)
set_option maxRecDepth 100000 in
theorem zz_r10 : ∀ w ∈ wsL_law0_r10, w ∈ lw_tbl := zz_by _ [245, 246, 247, 241, 242, 243, 244, 868, 565, 566, 567, 568, 872] (by decide +kernel)
set_option maxRecDepth 100000 in
theorem zz_r11 : ∀ w ∈ wsL_law0_r11, w ∈ lw_tbl := zz_by _ [572, 573, 574, 575, 876, 197, 880] (by decide +kernel)
set_option maxRecDepth 100000 in
theorem zz_r12 : ∀ w ∈ wsL_law0_r12, w ∈ lw_tbl := zz_by _ [213, 218, 219, 220, 884, 579, 580, 581, 582] (by decide +kernel)
set_option maxRecDepth 100000 in
theorem zz_r13 : ∀ w ∈ wsL_law0_r13, w ∈ lw_tbl := zz_by _ [888, 588, 589, 590, 591, 235] (by decide +kernel)
set_option maxRecDepth 100000 in
theorem zz_r14 : ∀ w ∈ wsL_law0_r14, w ∈ lw_tbl := zz_by _ [236, 895, 907, 909, 31, 910, 911, 913, 32, 914, 604, 605] (by decide +kernel)
set_option maxRecDepth 100000 in
theorem zz_r15 : ∀ w ∈ wsL_law0_r15, w ∈ lw_tbl := zz_by _ [606, 607, 916, 611, 612, 613, 614, 920] (by decide +kernel)
set_option maxRecDepth 100000 in
theorem zz_r16 : ∀ w ∈ wsL_law0_r16, w ∈ lw_tbl := zz_by _ [622, 623, 624, 625, 626, 627, 628, 928, 929, 930, 931, 221, 222, 223, 224, 225, 226, 227, 228] (by decide +kernel)
set_option maxRecDepth 100000 in
theorem zz_r17 : ∀ w ∈ wsL_law0_r17, w ∈ lw_tbl := zz_by _ [229, 230, 231, 232, 234, 251, 233, 237, 238, 58, 239, 240, 248, 249, 250, 252, 254, 1, 255, 256, 258, 2, 259, 260] (by decide +kernel)
set_option maxRecDepth 100000 in
theorem zz_r18 : ∀ w ∈ wsL_law0_r18, w ∈ lw_tbl := zz_by _ [261, 262, 263, 264, 265, 266, 268, 3, 269, 270, 272, 4, 273, 274, 275, 276, 277, 278, 279, 280, 281, 282, 283, 287] (by decide +kernel)
set_option maxRecDepth 100000 in
theorem zz_r19 : ∀ w ∈ wsL_law0_r19, w ∈ lw_tbl := zz_by _ [288, 289, 290, 291, 932, 933, 934, 935, 764, 769, 936, 938, 34, 939, 940, 941, 942, 943, 944, 945, 946, 948, 35, 949] (by decide +kernel)
set_option maxRecDepth 100000 in
theorem zz_r20 : ∀ w ∈ wsL_law0_r20, w ∈ lw_tbl := zz_by _ [950, 952, 36, 953, 292, 954, 629, 630, 631, 632] (by decide +kernel)
set_option maxRecDepth 100000 in
theorem zz_r21 : ∀ w ∈ wsL_law0_r21, w ∈ lw_tbl := zz_by _ [958, 645, 646, 647, 648, 962] (by decide +kernel)
set_option maxRecDepth 100000 in
theorem zz_r22 : ∀ w ∈ wsL_law0_r22, w ∈ lw_tbl := zz_by _ [657, 658, 659, 660, 970, 664, 665] (by decide +kernel)
set_option maxRecDepth 100000 in
theorem zz_r23 : ∀ w ∈ wsL_law0_r23, w ∈ lw_tbl := zz_by _ [666, 667, 974, 671, 672, 673, 674] (by decide +kernel)
set_option maxRecDepth 100000 in
theorem zz_r24 : ∀ w ∈ wsL_law0_r24, w ∈ lw_tbl := zz_by _ [978, 682, 683, 684, 685, 982, 690, 691, 692, 693, 986] (by decide +kernel)
set_option maxRecDepth 100000 in
theorem zz_r25 : ∀ w ∈ wsL_law0_r25, w ∈ lw_tbl := zz_by _ [697, 698, 699, 700, 991] (by decide +kernel)
set_option maxRecDepth 100000 in
theorem zz_r26 : ∀ w ∈ wsL_law0_r26, w ∈ lw_tbl := zz_by _ [296, 1004, 716, 717, 718, 719] (by decide +kernel)
set_option maxRecDepth 100000 in
theorem zz_r27 : ∀ w ∈ wsL_law0_r27, w ∈ lw_tbl := zz_by _ [1008, 723, 724, 725, 726, 1012, 730, 731, 732, 733] (by decide +kernel)
set_option maxRecDepth 100000 in
theorem zz_r28 : ∀ w ∈ wsL_law0_r28, w ∈ lw_tbl := zz_by _ [1016, 737, 738, 739, 740, 1020, 300] (by decide +kernel)
set_option maxRecDepth 100000 in
theorem zz_r29 : ∀ w ∈ wsL_law0_r29, w ∈ lw_tbl := zz_by _ [] (by decide +kernel)
set_option maxRecDepth 100000 in
theorem zz_r30 : ∀ w ∈ wsL_law0_r30, w ∈ lw_tbl := zz_by _ [1024] (by decide +kernel)
set_option maxRecDepth 100000 in
theorem zz_r31 : ∀ w ∈ wsL_law0_r31, w ∈ lw_tbl := zz_by _ [356] (by decide +kernel)
set_option maxRecDepth 100000 in
theorem zz_r32 : ∀ w ∈ wsL_law0_r32, w ∈ lw_tbl := zz_by _ [1044, 364, 1048, 744, 745, 746, 747, 1052] (by decide +kernel)
set_option maxRecDepth 100000 in
theorem zz_r33 : ∀ w ∈ wsL_law0_r33, w ∈ lw_tbl := zz_by _ [372, 1056, 378] (by decide +kernel)
set_option maxRecDepth 100000 in
theorem zz_r34 : ∀ w ∈ wsL_law0_r34, w ∈ lw_tbl := zz_by _ [1063] (by decide +kernel)
set_option maxRecDepth 100000 in
theorem zz_uX0 : ∀ w ∈ wsX00, w ∈ lw_tbl := zz_by _ [158, 160, 162, 164, 166, 168, 170, 172] (by decide +kernel)
set_option maxRecDepth 100000 in
theorem zz_uX1 : ∀ w ∈ wsX10, w ∈ lw_tbl := zz_by _ [98, 100, 102, 104, 106, 108] (by decide +kernel)
set_option maxRecDepth 100000 in
theorem zz_uX2 : ∀ w ∈ wsX20, w ∈ lw_tbl := zz_by _ [125, 127, 129, 131, 133, 135, 137, 139] (by decide +kernel)
set_option maxRecDepth 100000 in
theorem zz_uX3 : ∀ w ∈ wsX30, w ∈ lw_tbl := zz_by _ [78, 80] (by decide +kernel)
set_option maxRecDepth 100000 in
theorem zz_uX4 : ∀ w ∈ wsX40, w ∈ lw_tbl := zz_by _ [182, 184, 186, 188, 190, 192, 194] (by decide +kernel)
set_option maxRecDepth 100000 in
theorem zz_uX5 : ∀ w ∈ wsX50, w ∈ lw_tbl := zz_by _ [782, 784, 786, 788, 790, 792, 794, 796, 798, 800, 802, 804, 806, 808, 810, 812, 814, 816, 818, 820, 822, 824, 826, 828, 830] (by decide +kernel)
theorem wsL_law_in0 : ∀ w ∈ wsL_law0, w ∈ lw_tbl := zz_ap (zz_ap (zz_ap (zz_ap (zz_ap (zz_ap (zz_ap (zz_ap zz_r1 (zz_ap zz_r2 (zz_ap zz_r3 (zz_ap zz_r4 (zz_ap zz_r5 (zz_ap zz_r6 (zz_ap zz_r7 (zz_ap zz_r8 (zz_ap zz_r9 (zz_ap zz_r10 (zz_ap zz_r11 (zz_ap zz_r12 (zz_ap zz_r13 (zz_ap zz_r14 (zz_ap zz_r15 (zz_ap zz_r16 (zz_ap zz_r17 (zz_ap zz_r18 (zz_ap zz_r19 (zz_ap zz_r20 (zz_ap zz_r21 (zz_ap zz_r22 (zz_ap zz_r23 (zz_ap zz_r24 (zz_ap zz_r25 (zz_ap zz_r26 (zz_ap zz_r27 (zz_ap zz_r28 (zz_ap zz_r29 (zz_ap zz_r30 (zz_ap zz_r31 (zz_ap zz_r32 (zz_ap zz_r33 (zz_r34)))))))))))))))))))))))))))))))))) zz_uX4) zz_uX5) zz_uX3) zz_uX1) zz_uX2) zz_uX0) (fun _ h => absurd h List.not_mem_nil)
theorem wsL_law_x0 : ∀ w ∈ (vx_atS RX4 98 "java/lang/IndexOutOfBoundsException" ["java/lang/RuntimeException", "java/lang/Exception"]).filter goodWord, w ∈ lw_tbl := by decide +kernel
theorem wsL_law_x1 : ∀ w ∈ (vx_atS RX4 191 "java/lang/IllegalArgumentException" ["java/lang/RuntimeException", "java/lang/Exception"]).filter goodWord, w ∈ lw_tbl := by decide +kernel
theorem wsL_law_x2 : ∀ w ∈ (vx_atS RX4 201 "java/lang/IllegalStateException" ["java/lang/RuntimeException", "java/lang/Exception"]).filter goodWord, w ∈ lw_tbl := by decide +kernel
theorem wsL_law_in : ∀ w ∈ wsL_law, w ∈ lw_tbl := fun w h => (List.mem_append.mp h).elim (fun h => (List.mem_append.mp h).elim (fun h => (List.mem_append.mp h).elim (fun h => wsL_law_in0 w h) (fun h => wsL_law_x0 w h)) (fun h => wsL_law_x1 w h)) (fun h => wsL_law_x2 w h)
theorem inlX0 : ∀ w ∈ wsX00, w ∈ wsL_law := fun _ h => List.mem_append_left _ (List.mem_append_left _ (List.mem_append_left _ (List.mem_append_left _ (List.mem_append_right _ h))))
theorem inlX1 : ∀ w ∈ wsX10, w ∈ wsL_law := fun _ h => List.mem_append_left _ (List.mem_append_left _ (List.mem_append_left _ (List.mem_append_left _ (List.mem_append_left _ (List.mem_append_left _ (List.mem_append_right _ h))))))
theorem inlX2 : ∀ w ∈ wsX20, w ∈ wsL_law := fun _ h => List.mem_append_left _ (List.mem_append_left _ (List.mem_append_left _ (List.mem_append_left _ (List.mem_append_left _ (List.mem_append_right _ h)))))
theorem inlX3 : ∀ w ∈ wsX30, w ∈ wsL_law := fun _ h => List.mem_append_left _ (List.mem_append_left _ (List.mem_append_left _ (List.mem_append_left _ (List.mem_append_left _ (List.mem_append_left _ (List.mem_append_left _ (List.mem_append_right _ h)))))))
theorem inlX4 : ∀ w ∈ wsX40, w ∈ wsL_law := fun _ h => List.mem_append_left _ (List.mem_append_left _ (List.mem_append_left _ (List.mem_append_left _ (List.mem_append_left _ (List.mem_append_left _ (List.mem_append_left _ (List.mem_append_left _ (List.mem_append_left _ (List.mem_append_right _ h)))))))))
theorem inlX5 : ∀ w ∈ wsX50, w ∈ wsL_law := fun _ h => List.mem_append_left _ (List.mem_append_left _ (List.mem_append_left _ (List.mem_append_left _ (List.mem_append_left _ (List.mem_append_left _ (List.mem_append_left _ (List.mem_append_left _ (List.mem_append_right _ h))))))))
