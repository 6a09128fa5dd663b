theorem zz_by {big : List Cond} (ws : List Cond) (ps : List Nat) (hp : ws = ps.filterMap (fun i => big[i]?)) : ∀ w ∈ ws, w ∈ big := by
  intro w hw
  rw [hp] at hw
  obtain ⟨i, -, hi⟩ := List.mem_filterMap.mp hw
  first | exact List.mem_of_getElem? hi | exact List.getElem?_mem hi
theorem zz_ap {big a b : List Cond} (ha : ∀ w ∈ a, w ∈ big) (hb : ∀ w ∈ b, w ∈ big) : ∀ w ∈ a ++ b, w ∈ big := fun w h => (List.mem_append.mp h).elim (ha w) (hb w)
set_option maxRecDepth 100000 in
theorem zz_r1 : ∀ w ∈ wsL_law0_r1, w ∈ lw_tbl := zz_by _ [59, 60, 45, 751, 752, 51, 1074, 1075, 1073, 61, 62, 63, 64, 65, 66, 67, 68, 46, 175, 176, 177, 84, 85, 48] (by decide +kernel)
set_option maxRecDepth 100000 in
theorem zz_r2 : ∀ w ∈ wsL_law0_r2, w ∈ lw_tbl := zz_by _ [178, 111, 112, 49, 179, 142, 143, 50, 180, 181, 69, 70, 71, 72, 73, 74, 47, 75, 83, 76, 77, 86, 87, 88] (by decide +kernel)
set_option maxRecDepth 100000 in
theorem zz_r3 : ∀ w ∈ wsL_law0_r3, w ∈ lw_tbl := zz_by _ [89, 90, 92, 93, 94, 95, 96, 97, 91, 113, 114, 115, 116, 117, 118, 119, 120, 121, 122, 123, 124, 144, 145, 146] (by decide +kernel)
set_option maxRecDepth 100000 in
theorem zz_r4 : ∀ w ∈ wsL_law0_r4, w ∈ lw_tbl := zz_by _ [147, 148, 150, 151, 152, 153, 154, 155, 156, 157, 149, 753, 754, 755, 756, 758, 760, 762, 765, 766, 767, 768, 771, 773] (by decide +kernel)
set_option maxRecDepth 100000 in
theorem zz_r5 : ∀ w ∈ wsL_law0_r5, w ∈ lw_tbl := zz_by _ [774, 775, 776, 777, 778, 779, 407, 408, 44, 409, 410, 411, 412, 413, 414, 415, 416, 417, 418, 419, 420, 55, 488, 489] (by decide +kernel)
set_option maxRecDepth 100000 in
theorem zz_r6 : ∀ w ∈ wsL_law0_r6, w ∈ lw_tbl := zz_by _ [490, 491, 56, 507, 509, 16, 510, 511, 512, 513, 515, 57, 514, 336, 337, 338, 531, 284, 285, 286, 205, 206, 207, 208] (by decide +kernel)
set_option maxRecDepth 100000 in
theorem zz_r7 : ∀ w ∈ wsL_law0_r7, w ∈ lw_tbl := zz_by _ [209, 210, 211, 212, 837, 838, 839, 840, 757, 859, 841, 842, 843, 844, 846, 25, 847, 848, 849, 850, 851, 853, 26, 854] (by decide +kernel)
set_option maxRecDepth 100000 in
theorem zz_r8 : ∀ w ∈ wsL_law0_r8, w ∈ lw_tbl := zz_by _ [759, 761, 855, 857, 27, 858, 860, 862, 28, 863, 763, 532, 533, 534, 535, 536, 537, 538, 864, 865, 866, 867, 539, 540] (by decide +kernel)
set_option maxRecDepth 100000 in
theorem zz_r9 : ∀ w ∈ wsL_law0_r9, w ∈ lw_tbl := zz_by _ [541, 542, 543, 544, 545, 546, 547, 548, 549, 868, 869, 870, 871, 550, 551, 552, 553, 554, 555, 556, 557, 558, 559, 377] (by decide +kernel)
set_option maxRecDepth 100000 in
theorem zz_r10 : ∀ w ∈ wsL_law0_r10, w ∈ lw_tbl := zz_by _ [245, 246, 247, 355, 241, 242, 243, 244, 561, 562, 563, 564, 872, 873, 874, 875, 565, 566, 567, 568, 569, 570, 571, 876] (by decide +kernel)
set_option maxRecDepth 100000 in
theorem zz_r11 : ∀ w ∈ wsL_law0_r11, w ∈ lw_tbl := zz_by _ [877, 878, 879, 833, 834, 835, 836, 572, 573, 574, 575, 576, 577, 578, 880, 881, 882, 883, 197, 198, 199, 200, 201, 203] (by decide +kernel)
set_option maxRecDepth 100000 in
theorem zz_r12 : ∀ w ∈ wsL_law0_r12, w ∈ lw_tbl := zz_by _ [0, 204, 884, 885, 886, 887, 213, 214, 215, 216, 217, 218, 219, 220, 888, 889, 890, 891, 579, 580, 581, 582, 583, 584] (by decide +kernel)
set_option maxRecDepth 100000 in
theorem zz_r13 : ∀ w ∈ wsL_law0_r13, w ∈ lw_tbl := zz_by _ [585, 587, 353, 354, 892, 893, 894, 895, 896, 897, 898, 588, 589, 590, 591, 592, 593, 594, 595, 597, 17, 598, 599, 601] (by decide +kernel)
set_option maxRecDepth 100000 in
theorem zz_r14 : ∀ w ∈ wsL_law0_r14, w ∈ lw_tbl := zz_by _ [18, 602, 603, 235, 236, 899, 900, 901, 902, 903, 905, 29, 906, 907, 909, 30, 910, 919, 911, 913, 31, 914, 915, 917] (by decide +kernel)
set_option maxRecDepth 100000 in
theorem zz_r15 : ∀ w ∈ wsL_law0_r15, w ∈ lw_tbl := zz_by _ [32, 918, 604, 605, 606, 607, 608, 609, 610, 920, 921, 922, 923, 611, 612, 613, 614, 615, 616, 617, 618, 620, 19, 621] (by decide +kernel)
set_option maxRecDepth 100000 in
theorem zz_r16 : ∀ w ∈ wsL_law0_r16, w ∈ lw_tbl := zz_by _ [376, 924, 925, 926, 927, 928, 930, 33, 931, 622, 623, 624, 625, 626, 627, 628, 932, 933, 934, 935, 221, 222, 223, 224] (by decide +kernel)
set_option maxRecDepth 100000 in
theorem zz_r17 : ∀ w ∈ wsL_law0_r17, w ∈ lw_tbl := zz_by _ [225, 226, 227, 228, 229, 230, 231, 232, 234, 251, 233, 237, 238, 58, 239, 240, 248, 249, 250, 252, 254, 1, 255, 256] (by decide +kernel)
set_option maxRecDepth 100000 in
theorem zz_r18 : ∀ w ∈ wsL_law0_r18, w ∈ lw_tbl := zz_by _ [258, 2, 259, 260, 261, 262, 263, 264, 265, 266, 268, 3, 269, 270, 272, 4, 273, 274, 275, 276, 277, 278, 279, 280] (by decide +kernel)
set_option maxRecDepth 100000 in
theorem zz_r19 : ∀ w ∈ wsL_law0_r19, w ∈ lw_tbl := zz_by _ [281, 282, 283, 287, 288, 289, 290, 291, 936, 937, 938, 939, 764, 769, 940, 942, 34, 943, 944, 945, 946, 947, 948, 949] (by decide +kernel)
set_option maxRecDepth 100000 in
theorem zz_r20 : ∀ w ∈ wsL_law0_r20, w ∈ lw_tbl := zz_by _ [950, 952, 35, 953, 954, 956, 36, 957, 292, 293, 294, 295, 958, 959, 960, 961, 629, 630, 631, 632, 633, 634, 635, 636] (by decide +kernel)
set_option maxRecDepth 100000 in
theorem zz_r21 : ∀ w ∈ wsL_law0_r21, w ∈ lw_tbl := zz_by _ [638, 20, 639, 641, 642, 643, 644, 962, 963, 964, 965, 645, 646, 647, 648, 649, 650, 651, 652, 654, 21, 655, 394, 395] (by decide +kernel)
set_option maxRecDepth 100000 in
theorem zz_r22 : ∀ w ∈ wsL_law0_r22, w ∈ lw_tbl := zz_by _ [396, 397, 398, 966, 967, 968, 969, 970, 972, 37, 973, 657, 658, 659, 660, 661, 662, 663, 399, 400, 401, 402, 974, 975] (by decide +kernel)
set_option maxRecDepth 100000 in
theorem zz_r23 : ∀ w ∈ wsL_law0_r23, w ∈ lw_tbl := zz_by _ [976, 977, 664, 665, 666, 667, 668, 669, 670, 403, 404, 405, 406, 978, 979, 980, 981, 671, 672, 673, 674, 675, 676, 677] (by decide +kernel)
set_option maxRecDepth 100000 in
theorem zz_r24 : ∀ w ∈ wsL_law0_r24, w ∈ lw_tbl := zz_by _ [678, 679, 680, 681, 982, 983, 984, 985, 682, 683, 684, 685, 686, 687, 688, 986, 987, 988, 989, 690, 691, 692, 693, 694] (by decide +kernel)
set_option maxRecDepth 100000 in
theorem zz_r25 : ∀ w ∈ wsL_law0_r25, w ∈ lw_tbl := zz_by _ [695, 696, 990, 991, 992, 993, 994, 697, 698, 699, 700, 701, 702, 703, 704, 706, 22, 707, 708, 710, 23, 711, 712, 714] (by decide +kernel)
set_option maxRecDepth 100000 in
theorem zz_r26 : ∀ w ∈ wsL_law0_r26, w ∈ lw_tbl := zz_by _ [24, 715, 995, 996, 997, 998, 770, 999, 1000, 1002, 38, 1003, 1004, 1006, 39, 1007, 296, 297, 298, 299, 1008, 1009, 1010, 1011] (by decide +kernel)
set_option maxRecDepth 100000 in
theorem zz_r27 : ∀ w ∈ wsL_law0_r27, w ∈ lw_tbl := zz_by _ [716, 717, 718, 719, 720, 721, 722, 1012, 1013, 1014, 1015, 723, 724, 725, 726, 727, 728, 729, 1016, 1017, 1018, 1019, 730, 731] (by decide +kernel)
set_option maxRecDepth 100000 in
theorem zz_r28 : ∀ w ∈ wsL_law0_r28, w ∈ lw_tbl := zz_by _ [732, 733, 734, 735, 736, 1020, 1021, 1022, 1023, 737, 738, 739, 740, 741, 742, 743, 1024, 1025, 1026, 1027, 300, 301, 302, 303] (by decide +kernel)
set_option maxRecDepth 100000 in
theorem zz_r29 : ∀ w ∈ wsL_law0_r29, w ∈ lw_tbl := zz_by _ [304, 305, 306, 307, 308, 309, 310, 312, 5, 313, 314, 316, 6, 317, 318, 320, 7, 321, 322, 324, 8, 325, 326, 327] (by decide +kernel)
set_option maxRecDepth 100000 in
theorem zz_r30 : ∀ w ∈ wsL_law0_r30, w ∈ lw_tbl := zz_by _ [329, 9, 330, 331, 333, 10, 334, 335, 339, 341, 11, 342, 343, 345, 12, 346, 347, 348, 350, 13, 351, 1028, 1029, 1030] (by decide +kernel)
set_option maxRecDepth 100000 in
theorem zz_r31 : ∀ w ∈ wsL_law0_r31, w ∈ lw_tbl := zz_by _ [1031, 772, 780, 781, 1032, 1034, 40, 1035, 1036, 1038, 41, 1039, 1040, 1042, 42, 1043, 1044, 1046, 43, 1047, 356, 357, 358, 359] (by decide +kernel)
set_option maxRecDepth 100000 in
theorem zz_r32 : ∀ w ∈ wsL_law0_r32, w ∈ lw_tbl := zz_by _ [360, 361, 362, 363, 1048, 1049, 1050, 1051, 364, 365, 366, 367, 368, 369, 370, 371, 1052, 1053, 1054, 1055, 744, 745, 746, 747] (by decide +kernel)
set_option maxRecDepth 100000 in
theorem zz_r33 : ∀ w ∈ wsL_law0_r33, w ∈ lw_tbl := zz_by _ [748, 749, 750, 1056, 1057, 1058, 1059, 372, 373, 374, 375, 1060, 1061, 1062, 1063, 1064, 1065, 1066, 378, 379, 380, 381, 382, 383] (by decide +kernel)
set_option maxRecDepth 100000 in
theorem zz_r34 : ∀ w ∈ wsL_law0_r34, w ∈ lw_tbl := zz_by _ [384, 385, 386, 387, 388, 389, 390, 392, 14, 393, 1067, 1068, 1069, 1070, 1071, 1072] (by decide +kernel)
set_option maxRecDepth 100000 in
theorem zz_uX0 : ∀ w ∈ wsX00, w ∈ lw_tbl := zz_by _ [158, 160, 162, 164, 166, 168, 170, 172] (by decide +kernel)
set_option maxRecDepth 100000 in
theorem zz_uX1 : ∀ w ∈ wsX10, w ∈ lw_tbl := zz_by _ [98, 100, 102, 104, 106, 108] (by decide +kernel)
set_option maxRecDepth 100000 in
theorem zz_uX2 : ∀ w ∈ wsX20, w ∈ lw_tbl := zz_by _ [125, 127, 129, 131, 133, 135, 137, 139] (by decide +kernel)
set_option maxRecDepth 100000 in
theorem zz_uX3 : ∀ w ∈ wsX30, w ∈ lw_tbl := zz_by _ [78, 80] (by decide +kernel)
set_option maxRecDepth 100000 in
theorem zz_uX4 : ∀ w ∈ wsX40, w ∈ lw_tbl := zz_by _ [182, 184, 186, 188, 190, 192, 194] (by decide +kernel)
set_option maxRecDepth 100000 in
theorem zz_uX5 : ∀ w ∈ wsX50, w ∈ lw_tbl := zz_by _ [782, 784, 786, 788, 790, 792, 794, 796, 798, 800, 802, 804, 806, 808, 810, 812, 814, 816, 818, 820, 822, 824, 826, 828, 830] (by decide +kernel)
theorem wsL_law_in0 : ∀ w ∈ wsL_law0, w ∈ lw_tbl := zz_ap (zz_ap (zz_ap (zz_ap (zz_ap (zz_ap (zz_ap (zz_ap zz_r1 (zz_ap zz_r2 (zz_ap zz_r3 (zz_ap zz_r4 (zz_ap zz_r5 (zz_ap zz_r6 (zz_ap zz_r7 (zz_ap zz_r8 (zz_ap zz_r9 (zz_ap zz_r10 (zz_ap zz_r11 (zz_ap zz_r12 (zz_ap zz_r13 (zz_ap zz_r14 (zz_ap zz_r15 (zz_ap zz_r16 (zz_ap zz_r17 (zz_ap zz_r18 (zz_ap zz_r19 (zz_ap zz_r20 (zz_ap zz_r21 (zz_ap zz_r22 (zz_ap zz_r23 (zz_ap zz_r24 (zz_ap zz_r25 (zz_ap zz_r26 (zz_ap zz_r27 (zz_ap zz_r28 (zz_ap zz_r29 (zz_ap zz_r30 (zz_ap zz_r31 (zz_ap zz_r32 (zz_ap zz_r33 (zz_r34)))))))))))))))))))))))))))))))))) zz_uX4) zz_uX5) zz_uX3) zz_uX1) zz_uX2) zz_uX0) (fun _ h => absurd h List.not_mem_nil)
theorem wsL_law_x0 : ∀ w ∈ (vx_atS RX4 98 "java/lang/IndexOutOfBoundsException" ["java/lang/RuntimeException", "java/lang/Exception"]).filter goodWord, w ∈ lw_tbl := by decide +kernel
theorem wsL_law_x1 : ∀ w ∈ (vx_atS RX4 191 "java/lang/IllegalArgumentException" ["java/lang/RuntimeException", "java/lang/Exception"]).filter goodWord, w ∈ lw_tbl := by decide +kernel
theorem wsL_law_x2 : ∀ w ∈ (vx_atS RX4 201 "java/lang/IllegalStateException" ["java/lang/RuntimeException", "java/lang/Exception"]).filter goodWord, w ∈ lw_tbl := by decide +kernel
theorem wsL_law_in : ∀ w ∈ wsL_law, w ∈ lw_tbl := fun w h => (List.mem_append.mp h).elim (fun h => (List.mem_append.mp h).elim (fun h => (List.mem_append.mp h).elim (fun h => wsL_law_in0 w h) (fun h => wsL_law_x0 w h)) (fun h => wsL_law_x1 w h)) (fun h => wsL_law_x2 w h)
theorem inlX0 : ∀ w ∈ wsX00, w ∈ wsL_law := fun _ h => List.mem_append_left _ (List.mem_append_left _ (List.mem_append_left _ (List.mem_append_left _ (List.mem_append_right _ h))))
theorem inlX1 : ∀ w ∈ wsX10, w ∈ wsL_law := fun _ h => List.mem_append_left _ (List.mem_append_left _ (List.mem_append_left _ (List.mem_append_left _ (List.mem_append_left _ (List.mem_append_left _ (List.mem_append_right _ h))))))
theorem inlX2 : ∀ w ∈ wsX20, w ∈ wsL_law := fun _ h => List.mem_append_left _ (List.mem_append_left _ (List.mem_append_left _ (List.mem_append_left _ (List.mem_append_left _ (List.mem_append_right _ h)))))
theorem inlX3 : ∀ w ∈ wsX30, w ∈ wsL_law := fun _ h => List.mem_append_left _ (List.mem_append_left _ (List.mem_append_left _ (List.mem_append_left _ (List.mem_append_left _ (List.mem_append_left _ (List.mem_append_left _ (List.mem_append_right _ h)))))))
theorem inlX4 : ∀ w ∈ wsX40, w ∈ wsL_law := fun _ h => List.mem_append_left _ (List.mem_append_left _ (List.mem_append_left _ (List.mem_append_left _ (List.mem_append_left _ (List.mem_append_left _ (List.mem_append_left _ (List.mem_append_left _ (List.mem_append_left _ (List.mem_append_right _ h)))))))))
theorem inlX5 : ∀ w ∈ wsX50, w ∈ wsL_law := fun _ h => List.mem_append_left _ (List.mem_append_left _ (List.mem_append_left _ (List.mem_append_left _ (List.mem_append_left _ (List.mem_append_left _ (List.mem_append_left _ (List.mem_append_left _ (List.mem_append_right _ h))))))))
