set_option maxRecDepth 20000 in
theorem gL_encode_X4_encode : GoodIn wsL_encode (wsV RL 75 RX4 yX4_encode wsX4_encode) := goodIn_app (goodIn_of _ (by decide +kernel)) ggL_encode_X4_encode
theorem dL_encode_0 : decode cL_encode 0 = .ok (.aload_n 1, 1) := by decide +kernel
theorem dL_encode_1 : decode cL_encode 1 = .ok (.iconst 0, 1) := by decide +kernel
theorem dL_encode_2 : decode cL_encode 2 = .ok (.aload_n 0, 1) := by decide +kernel
theorem dL_encode_3 : decode cL_encode 3 = .ok (.invokevirtual 75, 3) := by decide +kernel
theorem dL_encode_6 : decode cL_encode 6 = .ok (.i2l, 1) := by decide +kernel
theorem dL_encode_7 : decode cL_encode 7 = .ok (.lastore, 1) := by decide +kernel
theorem dL_encode_8 : decode cL_encode 8 = .ok (.goto 6, 3) := by decide +kernel
theorem dL_encode_11 : decode cL_encode 11 = .ok (.astore_n 2, 1) := by decide +kernel
theorem dL_encode_12 : decode cL_encode 12 = .ok (.iconst 1, 1) := by decide +kernel
theorem dL_encode_13 : decode cL_encode 13 = .ok (.ireturn, 1) := by decide +kernel
theorem dL_encode_14 : decode cL_encode 14 = .ok (.iconst 0, 1) := by decide +kernel
theorem dL_encode_15 : decode cL_encode 15 = .ok (.ireturn, 1) := by decide +kernel
set_option maxRecDepth 20000 in
theorem ggL_code_X4_code : GoodIn wsL_code wsX4_code := goodIn_ca (goodIn_r _ [6, 7, 8, 9, 5, 10, 11, 12, 13, 14, 15, 16, 17, 18, 19, 20, 21, 22, 23, 24, 25, 26, 27, 28, 29, 30, 31, 32, 33] (by decide +kernel) (by decide +kernel)) (goodIn_sub (fun _ h => List.mem_cons_of_mem _ (List.mem_append_right _ h)) (by decide +kernel))
set_option maxRecDepth 20000 in
theorem gL_code_X4_code : GoodIn wsL_code (wsV RL 78 RX4 yX4_code wsX4_code) := goodIn_app (goodIn_of _ (by decide +kernel)) ggL_code_X4_code
theorem dL_code_0 : decode cL_code 0 = .ok (.aload_n 2, 1) := by decide +kernel
theorem dL_code_1 : decode cL_code 1 = .ok (.iconst 0, 1) := by decide +kernel
theorem dL_code_2 : decode cL_code 2 = .ok (.aload_n 0, 1) := by decide +kernel
theorem dL_code_3 : decode cL_code 3 = .ok (.iload_n 1, 1) := by decide +kernel
theorem dL_code_4 : decode cL_code 4 = .ok (.invokevirtual 78, 3) := by decide +kernel
theorem dL_code_7 : decode cL_code 7 = .ok (.i2l, 1) := by decide +kernel
theorem dL_code_8 : decode cL_code 8 = .ok (.lastore, 1) := by decide +kernel
theorem dL_code_9 : decode cL_code 9 = .ok (.goto 6, 3) := by decide +kernel
theorem dL_code_12 : decode cL_code 12 = .ok (.astore_n 3, 1) := by decide +kernel
theorem dL_code_13 : decode cL_code 13 = .ok (.iconst 1, 1) := by decide +kernel
theorem dL_code_14 : decode cL_code 14 = .ok (.ireturn, 1) := by decide +kernel
theorem dL_code_15 : decode cL_code 15 = .ok (.iconst 0, 1) := by decide +kernel
theorem dL_code_16 : decode cL_code 16 = .ok (.ireturn, 1) := by decide +kernel
set_option maxRecDepth 20000 in
theorem ggL_setCode_X4_setCode : GoodIn wsL_setCode wsX4_setCode := goodIn_ca (goodIn_ca (goodIn_r _ [7, 8, 9, 10, 6, 11, 12, 13, 14, 15, 16, 17, 18, 19, 20, 21, 22, 23, 24, 25, 26, 27, 28, 29, 30, 31, 32, 33, 34, 35, 36, 37, 38, 39, 40, 41, 42, 43] (by decide +kernel) (by decide +kernel)) (goodIn_sub (fun _ h => List.mem_cons_of_mem _ (List.mem_append_left _ (List.mem_append_right _ h))) (by decide +kernel))) (goodIn_sub (fun _ h => List.mem_cons_of_mem _ (List.mem_append_right _ h)) (by decide +kernel))
set_option maxRecDepth 20000 in
theorem gL_setCode_X4_setCode : GoodIn wsL_setCode (wsV RL 81 RX4 yX4_setCode wsX4_setCode) := goodIn_app (goodIn_of _ (by decide +kernel)) ggL_setCode_X4_setCode
theorem dL_setCode_0 : decode cL_setCode 0 = .ok (.aload_n 3, 1) := by decide +kernel
theorem dL_setCode_1 : decode cL_setCode 1 = .ok (.iconst 0, 1) := by decide +kernel
theorem dL_setCode_2 : decode cL_setCode 2 = .ok (.aload_n 0, 1) := by decide +kernel
theorem dL_setCode_3 : decode cL_setCode 3 = .ok (.iload_n 1, 1) := by decide +kernel
theorem dL_setCode_4 : decode cL_setCode 4 = .ok (.iload_n 2, 1) := by decide +kernel
theorem dL_setCode_5 : decode cL_setCode 5 = .ok (.invokevirtual 81, 3) := by decide +kernel
theorem dL_setCode_8 : decode cL_setCode 8 = .ok (.i2l, 1) := by decide +kernel
theorem dL_setCode_9 : decode cL_setCode 9 = .ok (.lastore, 1) := by decide +kernel
theorem dL_setCode_10 : decode cL_setCode 10 = .ok (.goto 11, 3) := by decide +kernel
theorem dL_setCode_13 : decode cL_setCode 13 = .ok (.astore 4, 2) := by decide +kernel
theorem dL_setCode_15 : decode cL_setCode 15 = .ok (.iconst 1, 1) := by decide +kernel
theorem dL_setCode_16 : decode cL_setCode 16 = .ok (.ireturn, 1) := by decide +kernel
theorem dL_setCode_17 : decode cL_setCode 17 = .ok (.astore 4, 2) := by decide +kernel
theorem dL_setCode_19 : decode cL_setCode 19 = .ok (.iconst 2, 1) := by decide +kernel
theorem dL_setCode_20 : decode cL_setCode 20 = .ok (.ireturn, 1) := by decide +kernel
theorem dL_setCode_21 : decode cL_setCode 21 = .ok (.iconst 0, 1) := by decide +kernel
theorem dL_setCode_22 : decode cL_setCode 22 = .ok (.ireturn, 1) := by decide +kernel
set_option maxRecDepth 20000 in
theorem ggL_cutCode_X4_cutCode : GoodIn wsL_cutCode wsX4_cutCode := goodIn_ca (goodIn_r _ [6, 7, 8, 9, 10, 11, 12, 13, 14, 15, 5, 16, 17, 18, 19, 20, 21, 22, 23, 24, 25, 26, 27, 28, 29, 30, 31] (by decide +kernel) (by decide +kernel)) (goodIn_sub (fun _ h => List.mem_cons_of_mem _ (List.mem_append_right _ h)) (by decide +kernel))
set_option maxRecDepth 20000 in
theorem gL_cutCode_X4_cutCode : GoodIn wsL_cutCode (wsV RL 84 RX4 yX4_cutCode wsX4_cutCode) := goodIn_app (goodIn_of _ (by decide +kernel)) ggL_cutCode_X4_cutCode
theorem dL_cutCode_0 : decode cL_cutCode 0 = .ok (.aload_n 2, 1) := by decide +kernel
theorem dL_cutCode_1 : decode cL_cutCode 1 = .ok (.iconst 0, 1) := by decide +kernel
theorem dL_cutCode_2 : decode cL_cutCode 2 = .ok (.aload_n 0, 1) := by decide +kernel
theorem dL_cutCode_3 : decode cL_cutCode 3 = .ok (.iload_n 1, 1) := by decide +kernel
theorem dL_cutCode_4 : decode cL_cutCode 4 = .ok (.invokevirtual 84, 3) := by decide +kernel
theorem dL_cutCode_7 : decode cL_cutCode 7 = .ok (.i2l, 1) := by decide +kernel
theorem dL_cutCode_8 : decode cL_cutCode 8 = .ok (.lastore, 1) := by decide +kernel
theorem dL_cutCode_9 : decode cL_cutCode 9 = .ok (.goto 6, 3) := by decide +kernel
theorem dL_cutCode_12 : decode cL_cutCode 12 = .ok (.astore_n 3, 1) := by decide +kernel
theorem dL_cutCode_13 : decode cL_cutCode 13 = .ok (.iconst 1, 1) := by decide +kernel
theorem dL_cutCode_14 : decode cL_cutCode 14 = .ok (.ireturn, 1) := by decide +kernel
theorem dL_cutCode_15 : decode cL_cutCode 15 = .ok (.iconst 0, 1) := by decide +kernel
theorem dL_cutCode_16 : decode cL_cutCode 16 = .ok (.ireturn, 1) := by decide +kernel
set_option maxRecDepth 20000 in
theorem ggL_appendCode_X4_appendCode : GoodIn wsL_appendCode wsX4_appendCode := goodIn_ca (goodIn_ca (goodIn_r _ [7, 8, 9, 10, 6, 11, 12, 13, 14, 15, 16, 17, 18, 19, 20, 21, 22, 23, 24, 25, 26, 27, 28, 29, 30, 31, 32, 33, 34, 35, 36, 37, 38, 39, 40, 41, 42] (by decide +kernel) (by decide +kernel)) (goodIn_sub (fun _ h => List.mem_cons_of_mem _ (List.mem_append_left _ (List.mem_append_right _ h))) (by decide +kernel))) (goodIn_sub (fun _ h => List.mem_cons_of_mem _ (List.mem_append_right _ h)) (by decide +kernel))
set_option maxRecDepth 20000 in
theorem gL_appendCode_X4_appendCode : GoodIn wsL_appendCode (wsV RL 87 RX4 yX4_appendCode wsX4_appendCode) := goodIn_app (goodIn_of _ (by decide +kernel)) ggL_appendCode_X4_appendCode
theorem dL_appendCode_0 : decode cL_appendCode 0 = .ok (.aload_n 2, 1) := by decide +kernel
theorem dL_appendCode_1 : decode cL_appendCode 1 = .ok (.iconst 0, 1) := by decide +kernel
theorem dL_appendCode_2 : decode cL_appendCode 2 = .ok (.aload_n 0, 1) := by decide +kernel
theorem dL_appendCode_3 : decode cL_appendCode 3 = .ok (.iload_n 1, 1) := by decide +kernel
theorem dL_appendCode_4 : decode cL_appendCode 4 = .ok (.invokevirtual 87, 3) := by decide +kernel
theorem dL_appendCode_7 : decode cL_appendCode 7 = .ok (.i2l, 1) := by decide +kernel
theorem dL_appendCode_8 : decode cL_appendCode 8 = .ok (.lastore, 1) := by decide +kernel
theorem dL_appendCode_9 : decode cL_appendCode 9 = .ok (.goto 9, 3) := by decide +kernel
theorem dL_appendCode_12 : decode cL_appendCode 12 = .ok (.astore_n 3, 1) := by decide +kernel
theorem dL_appendCode_13 : decode cL_appendCode 13 = .ok (.iconst 1, 1) := by decide +kernel
theorem dL_appendCode_14 : decode cL_appendCode 14 = .ok (.ireturn, 1) := by decide +kernel
theorem dL_appendCode_15 : decode cL_appendCode 15 = .ok (.astore_n 3, 1) := by decide +kernel
theorem dL_appendCode_16 : decode cL_appendCode 16 = .ok (.iconst 2, 1) := by decide +kernel
theorem dL_appendCode_17 : decode cL_appendCode 17 = .ok (.ireturn, 1) := by decide +kernel
theorem dL_appendCode_18 : decode cL_appendCode 18 = .ok (.iconst 0, 1) := by decide +kernel
theorem dL_appendCode_19 : decode cL_appendCode 19 = .ok (.ireturn, 1) := by decide +kernel
set_option maxRecDepth 20000 in
theorem ggL_output_X4_output : GoodIn wsL_output wsX4_output := goodIn_ca (goodIn_r _ [6, 7, 8, 9, 10, 11, 12, 13, 14, 15, 5, 16, 17, 18, 19, 20, 21, 22, 23, 24, 25, 26, 27, 28, 29, 30, 31, 32, 33, 34, 35, 36, 37, 38, 39, 40, 41, 42, 43, 44, 45, 46, 47] (by decide +kernel) (by decide +kernel)) (goodIn_sub (fun _ h => List.mem_cons_of_mem _ (List.mem_append_right _ h)) (by decide +kernel))
set_option maxRecDepth 20000 in
theorem gL_output_X4_output : GoodIn wsL_output (wsV RL 90 RX4 yX4_output wsX4_output) := goodIn_app (goodIn_of _ (by decide +kernel)) ggL_output_X4_output
theorem dL_output_0 : decode cL_output 0 = .ok (.aload_n 2, 1) := by decide +kernel
theorem dL_output_1 : decode cL_output 1 = .ok (.iconst 0, 1) := by decide +kernel
theorem dL_output_2 : decode cL_output 2 = .ok (.aload_n 0, 1) := by decide +kernel
theorem dL_output_3 : decode cL_output 3 = .ok (.iload_n 1, 1) := by decide +kernel
theorem dL_output_4 : decode cL_output 4 = .ok (.invokevirtual 90, 3) := by decide +kernel
theorem dL_output_7 : decode cL_output 7 = .ok (.i2l, 1) := by decide +kernel
theorem dL_output_8 : decode cL_output 8 = .ok (.lastore, 1) := by decide +kernel
theorem dL_output_9 : decode cL_output 9 = .ok (.goto 6, 3) := by decide +kernel
theorem dL_output_12 : decode cL_output 12 = .ok (.astore_n 3, 1) := by decide +kernel
theorem dL_output_13 : decode cL_output 13 = .ok (.iconst 1, 1) := by decide +kernel
theorem dL_output_14 : decode cL_output 14 = .ok (.ireturn, 1) := by decide +kernel
theorem dL_output_15 : decode cL_output 15 = .ok (.iconst 0, 1) := by decide +kernel
theorem dL_output_16 : decode cL_output 16 = .ok (.ireturn, 1) := by decide +kernel
set_option maxRecDepth 20000 in
theorem ggL_law_X4_init : GoodIn wsL_law wsX4_init := goodIn_r _ [11, 12, 13, 14, 15, 16, 17, 18, 19, 20, 21, 22, 23, 24, 25, 26, 27, 28, 29, 30, 31, 32, 33, 34, 35, 36, 37, 38, 39, 40, 41, 42, 43, 44, 45, 46, 47, 48, 49, 50, 51, 52, 53, 54, 55, 56, 57, 58, 59, 60, 61, 62, 63, 64, 65, 66, 67, 68, 69, 70, 71, 72, 73, 74, 75, 76, 77, 78, 79, 80, 81, 82, 840, 841, 808, 809, 810, 811, 812, 813, 814, 842, 843, 844, 845, 846, 847, 848, 849, 850, 851, 852, 853, 854, 855, 856, 857, 858, 859, 860, 861, 862, 863] (by decide +kernel) (by decide +kernel)
set_option maxRecDepth 20000 in
theorem gL_law_X4_init : GoodIn wsL_law (wsX4_init) := ggL_law_X4_init
set_option maxRecDepth 20000 in
theorem ggL_law_X5_init : GoodIn wsL_law wsX5_init := goodIn_r _ [85, 86, 13, 14, 42, 87, 88, 89, 90, 91, 92, 93, 94, 95, 96, 97, 98, 99, 100, 101, 815, 816, 817, 818, 819, 820, 821, 822, 823, 824, 825, 826, 827, 828, 829, 830, 831, 832, 833, 834, 835, 836, 837, 838, 839] (by decide +kernel) (by decide +kernel)
set_option maxRecDepth 20000 in
theorem gL_law_X5_init : GoodIn wsL_law (wsX5_init) := ggL_law_X5_init
set_option maxRecDepth 20000 in
theorem ggL_law_L_feed : GoodIn wsL_law wsL_feed := goodIn_ca (goodIn_ca (goodIn_ca (goodIn_r _ [105, 106, 107, 108, 109, 110, 111, 2, 112, 24, 113, 114, 115, 116, 117, 118, 119, 120, 121, 122, 123, 124, 125, 126, 18, 19, 127, 128, 129, 130, 131, 132, 133, 134, 17, 135, 43, 44, 136, 137, 138, 139, 140, 141, 142, 23, 143, 55, 144, 145, 146, 147, 808, 809, 810, 811, 812, 813, 814, 840, 841, 842, 843, 844, 845, 846, 847] (by decide +kernel) (by decide +kernel)) (goodIn_sub (fun _ h => List.mem_append_left _ (List.mem_append_left _ (List.mem_append_right _ h))) (by decide +kernel))) (goodIn_sub (fun _ h => List.mem_append_left _ (List.mem_append_right _ h)) (by decide +kernel))) (goodIn_sub (fun _ h => List.mem_append_right _ h) (by decide +kernel))
set_option maxRecDepth 20000 in
theorem gL_law_L_feed : GoodIn wsL_law (va_wsS RL 99 yL_feed wsL_feed) := goodIn_app (goodIn_of _ (by decide +kernel)) ggL_law_L_feed
set_option maxRecDepth 20000 in
theorem ggL_law_X5_feed : GoodIn wsL_law wsX5_feed := goodIn_r _ [151, 152, 153, 154, 155, 5, 156, 157, 158, 159, 160, 161, 162, 163, 164, 165, 166, 167, 168, 169, 170, 171, 172, 173, 87, 88, 174, 175, 176, 177, 178, 815, 816, 817, 818, 819, 820, 821, 822, 823, 824, 825, 826, 827, 828, 829, 830, 831, 832, 833, 834, 835, 836, 837, 838, 839] (by decide +kernel) (by decide +kernel)
set_option maxRecDepth 20000 in
theorem gL_law_X5_feed : GoodIn wsL_law (wsV RL 104 RX5 yX5_feed wsX5_feed) := goodIn_app (goodIn_of _ (by decide +kernel)) ggL_law_X5_feed
set_option maxRecDepth 20000 in
theorem ggL_law_X5_thrown : GoodIn wsL_law wsX5_thrown := goodIn_r _ [182, 152, 815, 816, 817, 818, 819, 820, 821, 822, 823, 824, 825, 826, 827, 828, 829, 830, 831, 832, 833, 834, 835, 836, 837, 838, 839] (by decide +kernel) (by decide +kernel)
set_option maxRecDepth 20000 in
theorem gL_law_X5_thrown : GoodIn wsL_law (wsV RL 105 RX5 yX5_thrown wsX5_thrown) := goodIn_app (goodIn_of _ (by decide +kernel)) ggL_law_X5_thrown
set_option maxRecDepth 20000 in
theorem ggL_law_L_fill : GoodIn wsL_law wsL_fill := goodIn_ca (goodIn_ca (goodIn_ca (goodIn_r _ [185, 106, 107, 108, 186, 187, 188, 2, 189, 24, 113, 114, 115, 116, 117, 118, 119, 120, 121, 122, 123, 124, 125, 126, 18, 19, 127, 128, 129, 130, 131, 132, 133, 134, 17, 135, 43, 44, 136, 137, 138, 139, 140, 141, 142, 23, 143, 55, 144, 145, 146, 147, 808, 809, 810, 811, 812, 813, 814, 840, 841, 842, 843, 844, 845, 846, 847] (by decide +kernel) (by decide +kernel)) (goodIn_sub (fun _ h => List.mem_append_left _ (List.mem_append_left _ (List.mem_append_right _ h))) (by decide +kernel))) (goodIn_sub (fun _ h => List.mem_append_left _ (List.mem_append_right _ h)) (by decide +kernel))) (goodIn_sub (fun _ h => List.mem_append_right _ h) (by decide +kernel))
set_option maxRecDepth 20000 in
theorem gL_law_L_fill : GoodIn wsL_law (va_wsS RL 108 yL_fill wsL_fill) := goodIn_app (goodIn_of _ (by decide +kernel)) ggL_law_L_fill
set_option maxRecDepth 20000 in
theorem ggL_law_X5_fill : GoodIn wsL_law wsX5_fill := goodIn_r _ [193, 152, 154, 155, 5, 156, 157, 158, 159, 160, 161, 162, 163, 164, 165, 166, 167, 168, 169, 170, 171, 172, 173, 87, 88, 174, 175, 176, 177, 178, 815, 816, 817, 818, 819, 820, 821, 822, 823, 824, 825, 826, 827, 828, 829, 830, 831, 832, 833, 834, 835, 836, 837, 838, 839] (by decide +kernel) (by decide +kernel)
set_option maxRecDepth 20000 in
theorem gL_law_X5_fill : GoodIn wsL_law (wsV RL 111 RX5 yX5_fill wsX5_fill) := goodIn_app (goodIn_of _ (by decide +kernel)) ggL_law_X5_fill
set_option maxRecDepth 20000 in
theorem ggL_law_L_cut : GoodIn wsL_law wsL_cut := goodIn_ca (goodIn_ca (goodIn_r _ [196, 106, 107, 197, 198, 199, 2, 200, 24, 113, 114, 115, 116, 117, 123, 124, 125, 126, 18, 19, 144, 145, 146, 17, 147, 44, 118, 119, 120, 121, 122, 201, 202, 203, 204, 140, 141, 142, 23, 143, 55, 808, 809, 810, 811, 812, 813, 814, 840, 841, 842, 843, 844, 845, 846, 847] (by decide +kernel) (by decide +kernel)) (goodIn_sub (fun _ h => List.mem_append_left _ (List.mem_append_left _ (List.mem_append_right _ h))) (by decide +kernel))) (goodIn_sub (fun _ h => List.mem_append_left _ (List.mem_append_right _ h)) (by decide +kernel))
set_option maxRecDepth 20000 in
theorem gL_law_L_cut : GoodIn wsL_law (va_wsS RL 112 yL_cut wsL_cut) := goodIn_app (goodIn_of _ (by decide +kernel)) ggL_law_L_cut
set_option maxRecDepth 20000 in
theorem ggL_law_X5_cut : GoodIn wsL_law wsX5_cut := goodIn_r _ [208, 152, 154, 155, 5, 156, 157, 158, 159, 160, 164, 165, 166, 167, 168, 169, 161, 162, 163, 174, 175, 176, 177, 178, 815, 816, 817, 818, 819, 820, 821, 822, 823, 824, 825, 826, 827, 828, 829, 830, 831, 832, 833, 834, 835, 836, 837, 838, 839] (by decide +kernel) (by decide +kernel)
set_option maxRecDepth 20000 in
theorem gL_law_X5_cut : GoodIn wsL_law (wsV RL 115 RX5 yX5_cut wsX5_cut) := goodIn_app (goodIn_of _ (by decide +kernel)) ggL_law_X5_cut
set_option maxRecDepth 20000 in
theorem ggL_law_L_set : GoodIn wsL_law wsL_set := goodIn_ca (goodIn_ca (goodIn_r _ [211, 106, 107, 212, 213, 214, 2, 215, 24, 113, 114, 115, 116, 117, 123, 124, 125, 126, 18, 19, 216, 217, 218, 219, 220, 221, 17, 222, 44, 43, 118, 119, 120, 121, 122, 223, 224, 225, 226, 227, 228, 229, 230, 231, 140, 141, 142, 23, 143, 55, 808, 809, 810, 811, 812, 813, 814, 840, 841, 842, 843, 844, 845, 846, 847] (by decide +kernel) (by decide +kernel)) (goodIn_sub (fun _ h => List.mem_append_left _ (List.mem_append_left _ (List.mem_append_right _ h))) (by decide +kernel))) (goodIn_sub (fun _ h => List.mem_append_left _ (List.mem_append_right _ h)) (by decide +kernel))
set_option maxRecDepth 20000 in
theorem gL_law_L_set : GoodIn wsL_law (va_wsS RL 116 yL_set wsL_set) := goodIn_app (goodIn_of _ (by decide +kernel)) ggL_law_L_set
set_option maxRecDepth 20000 in
theorem ggL_law_X5_set : GoodIn wsL_law wsX5_set := goodIn_r _ [235, 152, 178, 154, 155, 5, 156, 164, 165, 166, 167, 168, 169, 157, 158, 159, 160, 161, 162, 163, 170, 171, 172, 173, 87, 88, 815, 816, 817, 818, 819, 820, 821, 822, 823, 824, 825, 826, 827, 828, 829, 830, 831, 832, 833, 834, 835, 836, 837, 838, 839] (by decide +kernel) (by decide +kernel)
set_option maxRecDepth 20000 in
theorem gL_law_X5_set : GoodIn wsL_law (wsV RL 118 RX5 yX5_set wsX5_set) := goodIn_app (goodIn_of _ (by decide +kernel)) ggL_law_X5_set
set_option maxRecDepth 20000 in
theorem ggL_law_L_size : GoodIn wsL_law wsL_size := goodIn_ca (goodIn_r _ [238, 106, 239, 240, 241, 2, 242, 113, 114, 115, 116, 117, 123, 124, 125, 126, 18, 19, 144, 145, 146, 17, 147, 44, 808, 809, 810, 811, 812, 813, 814, 840, 841] (by decide +kernel) (by decide +kernel)) (goodIn_sub (fun _ h => List.mem_append_left _ (List.mem_append_left _ (List.mem_append_right _ h))) (by decide +kernel))
set_option maxRecDepth 20000 in
theorem gL_law_L_size : GoodIn wsL_law (va_wsS RL 119 yL_size wsL_size) := goodIn_app (goodIn_of _ (by decide +kernel)) ggL_law_L_size
set_option maxRecDepth 20000 in
theorem ggL_law_X5_size : GoodIn wsL_law wsX5_size := goodIn_r _ [246, 152, 154, 155, 5, 156, 164, 165, 166, 167, 168, 169, 157, 158, 159, 160, 815, 816, 817, 818, 819, 820, 821, 822, 823, 824, 825, 826, 827, 828, 829, 830, 831, 832, 833, 834, 835, 836, 837, 838, 839] (by decide +kernel) (by decide +kernel)
set_option maxRecDepth 20000 in
theorem gL_law_X5_size : GoodIn wsL_law (wsV RL 122 RX5 yX5_size wsX5_size) := goodIn_app (goodIn_of _ (by decide +kernel)) ggL_law_X5_size
set_option maxRecDepth 20000 in
theorem ggL_law_L_byteAt : GoodIn wsL_law wsL_byteAt := goodIn_ca (goodIn_r _ [249, 106, 250, 251, 252, 2, 253, 113, 114, 115, 116, 117, 123, 124, 125, 126, 18, 19, 216, 217, 218, 219, 220, 221, 17, 222, 44, 43, 223, 224, 225, 226, 227, 808, 809, 810, 811, 812, 813, 814, 840, 841] (by decide +kernel) (by decide +kernel)) (goodIn_sub (fun _ h => List.mem_append_left _ (List.mem_append_left _ (List.mem_append_right _ h))) (by decide +kernel))
set_option maxRecDepth 20000 in
theorem gL_law_L_byteAt : GoodIn wsL_law (va_wsS RL 123 yL_byteAt wsL_byteAt) := goodIn_app (goodIn_of _ (by decide +kernel)) ggL_law_L_byteAt
set_option maxRecDepth 20000 in
theorem ggL_law_X5_byteAt : GoodIn wsL_law wsX5_byteAt := goodIn_r _ [257, 152, 154, 155, 5, 156, 164, 165, 166, 167, 168, 169, 170, 171, 172, 173, 87, 88, 157, 158, 159, 160, 815, 816, 817, 818, 819, 820, 821, 822, 823, 824, 825, 826, 827, 828, 829, 830, 831, 832, 833, 834, 835, 836, 837, 838, 839] (by decide +kernel) (by decide +kernel)
set_option maxRecDepth 20000 in
theorem gL_law_X5_byteAt : GoodIn wsL_law (wsV RL 125 RX5 yX5_byteAt wsX5_byteAt) := goodIn_app (goodIn_of _ (by decide +kernel)) ggL_law_X5_byteAt
set_option maxRecDepth 20000 in
theorem ggL_law_X4_turn : GoodIn wsL_law wsX4_turn := goodIn_r _ [261, 24, 19, 262, 263, 264, 2, 265, 18, 140, 141, 142, 23, 143, 55, 144, 145, 146, 17, 147, 44, 808, 809, 810, 811, 812, 813, 814, 842, 843, 844, 845, 846, 847, 840, 841] (by decide +kernel) (by decide +kernel)
set_option maxRecDepth 20000 in
theorem gL_law_X4_turn : GoodIn wsL_law (wsV RL 126 RX4 yX4_turn wsX4_turn) := goodIn_app (goodIn_of _ (by decide +kernel)) ggL_law_X4_turn
set_option maxRecDepth 20000 in
theorem ggL_law_X5_turn : GoodIn wsL_law wsX5_turn := goodIn_r _ [269, 152, 87, 88, 168, 169, 178, 815, 816, 817, 818, 819, 820, 821, 822, 823, 824, 825, 826, 827, 828, 829, 830, 831, 832, 833, 834, 835, 836, 837, 838, 839] (by decide +kernel) (by decide +kernel)
set_option maxRecDepth 20000 in
theorem gL_law_X5_turn : GoodIn wsL_law (wsV RL 129 RX5 yX5_turn wsX5_turn) := goodIn_app (goodIn_of _ (by decide +kernel)) ggL_law_X5_turn
set_option maxRecDepth 20000 in
theorem ggL_law_X4_advance : GoodIn wsL_law wsX4_advance := goodIn_r _ [273, 19, 24, 18, 262, 263, 264, 2, 265, 274, 275, 276, 17, 277, 44, 140, 141, 142, 23, 143, 55, 144, 145, 146, 147, 808, 809, 810, 811, 812, 813, 814, 840, 841, 842, 843, 844, 845, 846, 847] (by decide +kernel) (by decide +kernel)
set_option maxRecDepth 20000 in
theorem gL_law_X4_advance : GoodIn wsL_law (wsV RL 130 RX4 yX4_advance wsX4_advance) := goodIn_app (goodIn_of _ (by decide +kernel)) ggL_law_X4_advance
set_option maxRecDepth 20000 in
theorem ggL_law_X5_advance : GoodIn wsL_law wsX5_advance := goodIn_r _ [281, 152, 87, 88, 169, 168, 178, 815, 816, 817, 818, 819, 820, 821, 822, 823, 824, 825, 826, 827, 828, 829, 830, 831, 832, 833, 834, 835, 836, 837, 838, 839] (by decide +kernel) (by decide +kernel)
set_option maxRecDepth 20000 in
theorem gL_law_X5_advance : GoodIn wsL_law (wsV RL 133 RX5 yX5_advance wsX5_advance) := goodIn_app (goodIn_of _ (by decide +kernel)) ggL_law_X5_advance
set_option maxRecDepth 20000 in
theorem ggL_law_L_check : GoodIn wsL_law wsL_check := goodIn_ca (goodIn_r _ [284, 106, 285, 286, 287, 2, 288, 116, 117, 113, 114, 115, 123, 124, 125, 126, 18, 19, 144, 145, 146, 17, 147, 44, 289, 290, 291, 223, 224, 225, 226, 43, 227, 220, 221, 222, 808, 809, 810, 811, 812, 813, 814, 840, 841] (by decide +kernel) (by decide +kernel)) (goodIn_sub (fun _ h => List.mem_append_left _ (List.mem_append_left _ (List.mem_append_right _ h))) (by decide +kernel))
set_option maxRecDepth 20000 in
theorem gL_law_L_check : GoodIn wsL_law (va_wsS RL 134 yL_check wsL_check) := goodIn_app (goodIn_of _ (by decide +kernel)) ggL_law_L_check
set_option maxRecDepth 20000 in
theorem ggL_law_X5_check : GoodIn wsL_law wsX5_check := goodIn_r _ [295, 152, 154, 155, 5, 156, 164, 165, 166, 167, 168, 169, 157, 158, 159, 160, 170, 171, 172, 173, 87, 88, 296, 297, 298, 815, 816, 817, 818, 819, 820, 821, 822, 823, 824, 825, 826, 827, 828, 829, 830, 831, 832, 833, 834, 835, 836, 837, 838, 839] (by decide +kernel) (by decide +kernel)
set_option maxRecDepth 20000 in
theorem gL_law_X5_check : GoodIn wsL_law (wsV RL 136 RX5 yX5_check wsX5_check) := goodIn_app (goodIn_of _ (by decide +kernel)) ggL_law_X5_check
set_option maxRecDepth 20000 in
theorem ggL_law_L_match : GoodIn wsL_law wsL_match := goodIn_ca (goodIn_r _ [301, 106, 302, 303, 304, 2, 305, 19, 216, 217, 218, 116, 117, 219, 220, 221, 17, 222, 44, 43, 113, 114, 115, 306, 307, 308, 309, 18, 144, 145, 146, 147, 123, 124, 125, 126, 310, 311, 312, 313, 314, 315, 40, 316, 223, 224, 225, 226, 227, 808, 809, 810, 811, 812, 813, 814, 840, 841] (by decide +kernel) (by decide +kernel)) (goodIn_sub (fun _ h => List.mem_append_left _ (List.mem_append_left _ (List.mem_append_right _ h))) (by decide +kernel))
set_option maxRecDepth 20000 in
theorem gL_law_L_match : GoodIn wsL_law (va_wsS RL 137 yL_match wsL_match) := goodIn_app (goodIn_of _ (by decide +kernel)) ggL_law_L_match
set_option maxRecDepth 20000 in
theorem ggL_law_X5_match : GoodIn wsL_law wsX5_match := goodIn_r _ [320, 321, 322, 323, 5, 324, 169, 152, 154, 155, 156, 325, 326, 327, 328, 329, 39, 40, 41, 330, 331, 332, 333, 168, 334, 335, 336, 337, 88, 87, 815, 816, 817, 818, 819, 820, 821, 822, 823, 824, 825, 826, 827, 828, 829, 830, 831, 832, 833, 834, 835, 836, 837, 838, 839] (by decide +kernel) (by decide +kernel)
set_option maxRecDepth 20000 in
theorem gL_law_X5_match : GoodIn wsL_law (wsV RL 139 RX5 yX5_match wsX5_match) := goodIn_app (goodIn_of _ (by decide +kernel)) ggL_law_X5_match
set_option maxRecDepth 20000 in
theorem ggL_law_L_matchPlace : GoodIn wsL_law wsL_matchPlace := goodIn_ca (goodIn_r _ [340, 106, 341, 342, 343, 2, 344, 19, 216, 217, 218, 116, 117, 219, 220, 221, 17, 222, 44, 43, 113, 114, 115, 306, 307, 308, 309, 18, 144, 145, 146, 147, 123, 124, 125, 126, 310, 311, 312, 313, 314, 315, 40, 316, 223, 224, 225, 226, 227, 808, 809, 810, 811, 812, 813, 814, 840, 841] (by decide +kernel) (by decide +kernel)) (goodIn_sub (fun _ h => List.mem_append_left _ (List.mem_append_left _ (List.mem_append_right _ h))) (by decide +kernel))
set_option maxRecDepth 20000 in
theorem gL_law_L_matchPlace : GoodIn wsL_law (va_wsS RL 140 yL_matchPlace wsL_matchPlace) := goodIn_app (goodIn_of _ (by decide +kernel)) ggL_law_L_matchPlace
set_option maxRecDepth 20000 in
theorem ggL_law_X5_matchPlace : GoodIn wsL_law wsX5_matchPlace := goodIn_r _ [348, 321, 322, 323, 5, 324, 169, 152, 154, 155, 156, 325, 326, 327, 328, 329, 39, 40, 41, 330, 331, 332, 333, 168, 334, 335, 336, 337, 88, 87, 815, 816, 817, 818, 819, 820, 821, 822, 823, 824, 825, 826, 827, 828, 829, 830, 831, 832, 833, 834, 835, 836, 837, 838, 839] (by decide +kernel) (by decide +kernel)
set_option maxRecDepth 20000 in
theorem gL_law_X5_matchPlace : GoodIn wsL_law (wsV RL 142 RX5 yX5_matchPlace wsX5_matchPlace) := goodIn_app (goodIn_of _ (by decide +kernel)) ggL_law_X5_matchPlace
set_option maxRecDepth 20000 in
theorem ggL_law_L_blocks : GoodIn wsL_law wsL_blocks := goodIn_ca (goodIn_r _ [351, 107, 352, 353, 354, 2, 355, 19, 118, 119, 120, 121, 122, 144, 145, 146, 17, 147, 44, 356, 357, 358, 359, 18, 360, 39, 40, 41, 310, 311, 312, 313, 314, 315, 316, 223, 224, 225, 226, 43, 227, 220, 221, 222, 808, 809, 810, 811, 812, 813, 814, 840, 841] (by decide +kernel) (by decide +kernel)) (goodIn_sub (fun _ h => List.mem_append_left _ (List.mem_append_right _ h)) (by decide +kernel))
set_option maxRecDepth 20000 in
theorem gL_law_L_blocks : GoodIn wsL_law (va_wsS RL 143 yL_blocks wsL_blocks) := goodIn_app (goodIn_of _ (by decide +kernel)) ggL_law_L_blocks
set_option maxRecDepth 20000 in
theorem ggL_law_X5_blocks : GoodIn wsL_law wsX5_blocks := goodIn_r _ [364, 152, 169, 168, 161, 162, 5, 163, 157, 158, 159, 160, 365, 366, 367, 368, 88, 87, 815, 816, 817, 818, 819, 820, 821, 822, 823, 824, 825, 826, 827, 828, 829, 830, 831, 832, 833, 834, 835, 836, 837, 838, 839] (by decide +kernel) (by decide +kernel)
set_option maxRecDepth 20000 in
theorem gL_law_X5_blocks : GoodIn wsL_law (wsV RL 145 RX5 yX5_blocks wsX5_blocks) := goodIn_app (goodIn_of _ (by decide +kernel)) ggL_law_X5_blocks
set_option maxRecDepth 20000 in
theorem ggL_law_L_setLeast : GoodIn wsL_law wsL_setLeast := goodIn_ca (goodIn_r _ [371, 107, 372, 373, 374, 2, 375, 33, 24, 118, 119, 120, 121, 122, 140, 141, 142, 23, 143, 55, 808, 809, 810, 811, 812, 813, 814, 842, 843, 844, 845, 846, 847] (by decide +kernel) (by decide +kernel)) (goodIn_sub (fun _ h => List.mem_append_left _ (List.mem_append_right _ h)) (by decide +kernel))
set_option maxRecDepth 20000 in
theorem gL_law_L_setLeast : GoodIn wsL_law (va_wsS RL 146 yL_setLeast wsL_setLeast) := goodIn_app (goodIn_of _ (by decide +kernel)) ggL_law_L_setLeast
set_option maxRecDepth 20000 in
theorem ggL_law_X5_setLeast : GoodIn wsL_law wsX5_setLeast := goodIn_r _ [379, 152, 89, 178, 161, 162, 5, 163, 157, 158, 159, 160, 815, 816, 817, 818, 819, 820, 821, 822, 823, 824, 825, 826, 827, 828, 829, 830, 831, 832, 833, 834, 835, 836, 837, 838, 839] (by decide +kernel) (by decide +kernel)
set_option maxRecDepth 20000 in
theorem gL_law_X5_setLeast : GoodIn wsL_law (wsV RL 148 RX5 yX5_setLeast wsX5_setLeast) := goodIn_app (goodIn_of _ (by decide +kernel)) ggL_law_X5_setLeast
set_option maxRecDepth 20000 in
theorem ggL_law_X4_plan : GoodIn wsL_law wsX4_plan := goodIn_r _ [383, 24, 28, 18, 19, 33, 384, 385, 386, 23, 387, 55, 388, 389, 390, 27, 391, 392, 315, 40, 316, 66, 67, 61, 62, 393, 394, 145, 146, 17, 147, 44, 395, 396, 397, 398, 399, 224, 225, 226, 43, 227, 220, 221, 222, 400, 401, 402, 403, 404, 405, 406, 407, 408, 409, 410, 63, 64, 65, 411, 412, 413, 414, 415, 416, 417, 418, 419, 420, 68, 421, 422, 423, 424, 425, 426, 427, 428, 50, 51, 52, 53, 54, 429, 275, 276, 277, 430, 431, 432, 433, 434, 137, 138, 139, 435, 436, 437, 438, 439, 808, 809, 810, 811, 812, 813, 814, 842, 843, 844, 845, 846, 847, 848, 849, 850, 851, 852, 853, 854, 855, 840, 841] (by decide +kernel) (by decide +kernel)
set_option maxRecDepth 20000 in
theorem gL_law_X4_plan : GoodIn wsL_law (wsV RL 149 RX4 yX4_plan wsX4_plan) := goodIn_app (goodIn_of _ (by decide +kernel)) ggL_law_X4_plan
set_option maxRecDepth 20000 in
theorem ggL_law_X5_plan : GoodIn wsL_law wsX5_plan := goodIn_r _ [443, 152, 178, 444, 97, 169, 98, 90, 99, 91, 100, 92, 101, 93, 445, 446, 447, 448, 5, 449, 88, 89, 450, 451, 452, 453, 454, 455, 456, 457, 458, 459, 460, 461, 462, 463, 42, 330, 331, 332, 333, 168, 334, 335, 336, 337, 87, 815, 816, 817, 818, 819, 820, 821, 822, 823, 824, 825, 826, 827, 828, 829, 830, 831, 832, 833, 834, 835, 836, 837, 838, 839] (by decide +kernel) (by decide +kernel)
set_option maxRecDepth 20000 in
theorem gL_law_X5_plan : GoodIn wsL_law (wsV RL 152 RX5 yX5_plan wsX5_plan) := goodIn_app (goodIn_of _ (by decide +kernel)) ggL_law_X5_plan
set_option maxRecDepth 20000 in
theorem ggL_law_X4_hasPlan : GoodIn wsL_law wsX4_hasPlan := goodIn_r _ [467, 24, 384, 385, 386, 23, 387, 55, 808, 809, 810, 811, 812, 813, 814, 842, 843, 844, 845, 846, 847] (by decide +kernel) (by decide +kernel)
set_option maxRecDepth 20000 in
theorem gL_law_X4_hasPlan : GoodIn wsL_law (wsV RL 153 RX4 yX4_hasPlan wsX4_hasPlan) := goodIn_app (goodIn_of _ (by decide +kernel)) ggL_law_X4_hasPlan
set_option maxRecDepth 20000 in
theorem ggL_law_X5_hasPlan : GoodIn wsL_law wsX5_hasPlan := goodIn_r _ [471, 152, 178, 815, 816, 817, 818, 819, 820, 821, 822, 823, 824, 825, 826, 827, 828, 829, 830, 831, 832, 833, 834, 835, 836, 837, 838, 839] (by decide +kernel) (by decide +kernel)
set_option maxRecDepth 20000 in
theorem gL_law_X5_hasPlan : GoodIn wsL_law (wsV RL 157 RX5 yX5_hasPlan wsX5_hasPlan) := goodIn_app (goodIn_of _ (by decide +kernel)) ggL_law_X5_hasPlan
set_option maxRecDepth 20000 in
theorem ggL_law_L_cost : GoodIn wsL_law wsL_cost := goodIn_ca (goodIn_r _ [474, 108, 475, 476, 477, 2, 478, 24, 479, 480, 481, 482, 130, 131, 384, 385, 386, 23, 387, 55, 483, 484, 485, 486, 54, 808, 809, 810, 811, 812, 813, 814, 842, 843, 844, 845, 846, 847] (by decide +kernel) (by decide +kernel)) (goodIn_sub (fun _ h => List.mem_append_right _ h) (by decide +kernel))
set_option maxRecDepth 20000 in
theorem gL_law_L_cost : GoodIn wsL_law (va_wsS RL 158 yL_cost wsL_cost) := goodIn_app (goodIn_of _ (by decide +kernel)) ggL_law_L_cost
set_option maxRecDepth 20000 in
theorem ggL_law_X5_cost : GoodIn wsL_law wsX5_cost := goodIn_r _ [490, 152, 178, 445, 157, 158, 159, 5, 160, 815, 816, 817, 818, 819, 820, 821, 822, 823, 824, 825, 826, 827, 828, 829, 830, 831, 832, 833, 834, 835, 836, 837, 838, 839] (by decide +kernel) (by decide +kernel)
set_option maxRecDepth 20000 in
theorem gL_law_X5_cost : GoodIn wsL_law (wsV RL 161 RX5 yX5_cost wsX5_cost) := goodIn_app (goodIn_of _ (by decide +kernel)) ggL_law_X5_cost
set_option maxRecDepth 20000 in
theorem ggL_law_L_kind : GoodIn wsL_law wsL_kind := goodIn_ca (goodIn_ca (goodIn_r _ [493, 108, 106, 494, 495, 496, 2, 497, 24, 498, 499, 500, 501, 116, 117, 479, 480, 481, 482, 130, 131, 384, 385, 386, 23, 387, 55, 435, 436, 437, 438, 50, 439, 145, 146, 17, 147, 44, 502, 503, 504, 505, 506, 224, 225, 226, 43, 227, 220, 221, 222, 808, 809, 810, 811, 812, 813, 814, 842, 843, 844, 845, 846, 847, 840, 841] (by decide +kernel) (by decide +kernel)) (goodIn_sub (fun _ h => List.mem_append_left _ (List.mem_append_left _ (List.mem_append_right _ h))) (by decide +kernel))) (goodIn_sub (fun _ h => List.mem_append_right _ h) (by decide +kernel))
set_option maxRecDepth 20000 in
theorem gL_law_L_kind : GoodIn wsL_law (va_wsS RL 162 yL_kind wsL_kind) := goodIn_app (goodIn_of _ (by decide +kernel)) ggL_law_L_kind
set_option maxRecDepth 20000 in
theorem ggL_law_X5_kind : GoodIn wsL_law wsX5_kind := goodIn_r _ [510, 90, 511, 512, 513, 5, 514, 178, 444, 152, 815, 816, 817, 818, 819, 820, 821, 822, 823, 824, 825, 826, 827, 828, 829, 830, 831, 832, 833, 834, 835, 836, 837, 838, 839] (by decide +kernel) (by decide +kernel)
set_option maxRecDepth 20000 in
theorem gL_law_X5_kind : GoodIn wsL_law (wsV RL 164 RX5 yX5_kind wsX5_kind) := goodIn_app (goodIn_of _ (by decide +kernel)) ggL_law_X5_kind
set_option maxRecDepth 20000 in
theorem ggL_law_L_length : GoodIn wsL_law wsL_length := goodIn_ca (goodIn_ca (goodIn_r _ [517, 108, 106, 518, 519, 520, 2, 521, 24, 498, 499, 500, 501, 116, 117, 479, 480, 481, 482, 130, 131, 384, 385, 386, 23, 387, 55, 435, 436, 437, 438, 50, 439, 145, 146, 17, 147, 44, 522, 523, 524, 525, 51, 506, 224, 225, 226, 43, 227, 220, 221, 222, 808, 809, 810, 811, 812, 813, 814, 842, 843, 844, 845, 846, 847, 840, 841] (by decide +kernel) (by decide +kernel)) (goodIn_sub (fun _ h => List.mem_append_left _ (List.mem_append_left _ (List.mem_append_right _ h))) (by decide +kernel))) (goodIn_sub (fun _ h => List.mem_append_right _ h) (by decide +kernel))
set_option maxRecDepth 20000 in
theorem gL_law_L_length : GoodIn wsL_law (va_wsS RL 165 yL_length wsL_length) := goodIn_app (goodIn_of _ (by decide +kernel)) ggL_law_L_length
set_option maxRecDepth 20000 in
theorem ggL_law_X5_length : GoodIn wsL_law wsX5_length := goodIn_r _ [529, 91, 511, 512, 513, 5, 514, 178, 444, 152, 815, 816, 817, 818, 819, 820, 821, 822, 823, 824, 825, 826, 827, 828, 829, 830, 831, 832, 833, 834, 835, 836, 837, 838, 839] (by decide +kernel) (by decide +kernel)
set_option maxRecDepth 20000 in
theorem gL_law_X5_length : GoodIn wsL_law (wsV RL 167 RX5 yX5_length wsX5_length) := goodIn_app (goodIn_of _ (by decide +kernel)) ggL_law_X5_length
set_option maxRecDepth 20000 in
theorem ggL_law_L_operand : GoodIn wsL_law wsL_operand := goodIn_ca (goodIn_ca (goodIn_r _ [532, 108, 106, 533, 534, 535, 2, 536, 24, 498, 499, 500, 501, 116, 117, 479, 480, 481, 482, 130, 131, 384, 385, 386, 23, 387, 55, 435, 436, 437, 438, 50, 439, 145, 146, 17, 147, 44, 537, 538, 539, 540, 52, 506, 224, 225, 226, 43, 227, 220, 221, 222, 808, 809, 810, 811, 812, 813, 814, 842, 843, 844, 845, 846, 847, 840, 841] (by decide +kernel) (by decide +kernel)) (goodIn_sub (fun _ h => List.mem_append_left _ (List.mem_append_left _ (List.mem_append_right _ h))) (by decide +kernel))) (goodIn_sub (fun _ h => List.mem_append_right _ h) (by decide +kernel))
set_option maxRecDepth 20000 in
theorem gL_law_L_operand : GoodIn wsL_law (va_wsS RL 168 yL_operand wsL_operand) := goodIn_app (goodIn_of _ (by decide +kernel)) ggL_law_L_operand
set_option maxRecDepth 20000 in
theorem ggL_law_X5_operand : GoodIn wsL_law wsX5_operand := goodIn_r _ [544, 92, 511, 512, 513, 5, 514, 178, 444, 152, 815, 816, 817, 818, 819, 820, 821, 822, 823, 824, 825, 826, 827, 828, 829, 830, 831, 832, 833, 834, 835, 836, 837, 838, 839] (by decide +kernel) (by decide +kernel)
set_option maxRecDepth 20000 in
theorem gL_law_X5_operand : GoodIn wsL_law (wsV RL 170 RX5 yX5_operand wsX5_operand) := goodIn_app (goodIn_of _ (by decide +kernel)) ggL_law_X5_operand
set_option maxRecDepth 20000 in
theorem ggL_law_L_start : GoodIn wsL_law wsL_start := goodIn_ca (goodIn_ca (goodIn_r _ [547, 108, 106, 548, 549, 550, 2, 551, 24, 498, 499, 500, 501, 116, 117, 479, 480, 481, 482, 130, 131, 384, 385, 386, 23, 387, 55, 435, 436, 437, 438, 50, 439, 145, 146, 17, 147, 44, 552, 553, 554, 555, 53, 506, 224, 225, 226, 43, 227, 220, 221, 222, 808, 809, 810, 811, 812, 813, 814, 842, 843, 844, 845, 846, 847, 840, 841] (by decide +kernel) (by decide +kernel)) (goodIn_sub (fun _ h => List.mem_append_left _ (List.mem_append_left _ (List.mem_append_right _ h))) (by decide +kernel))) (goodIn_sub (fun _ h => List.mem_append_right _ h) (by decide +kernel))
set_option maxRecDepth 20000 in
theorem gL_law_L_start : GoodIn wsL_law (va_wsS RL 171 yL_start wsL_start) := goodIn_app (goodIn_of _ (by decide +kernel)) ggL_law_L_start
set_option maxRecDepth 20000 in
theorem ggL_law_X5_start : GoodIn wsL_law wsX5_start := goodIn_r _ [559, 93, 511, 512, 513, 5, 514, 178, 444, 152, 815, 816, 817, 818, 819, 820, 821, 822, 823, 824, 825, 826, 827, 828, 829, 830, 831, 832, 833, 834, 835, 836, 837, 838, 839] (by decide +kernel) (by decide +kernel)
set_option maxRecDepth 20000 in
theorem gL_law_X5_start : GoodIn wsL_law (wsV RL 173 RX5 yX5_start wsX5_start) := goodIn_app (goodIn_of _ (by decide +kernel)) ggL_law_X5_start
set_option maxRecDepth 20000 in
theorem ggL_law_L_made : GoodIn wsL_law wsL_made := goodIn_ca (goodIn_ca (goodIn_r _ [562, 108, 106, 563, 564, 565, 2, 566, 116, 117, 24, 479, 480, 481, 482, 130, 131, 384, 385, 386, 23, 387, 55, 435, 436, 437, 438, 50, 439, 145, 146, 17, 147, 44, 502, 503, 504, 505, 506, 224, 225, 226, 43, 227, 220, 221, 222, 522, 523, 524, 525, 51, 808, 809, 810, 811, 812, 813, 814, 842, 843, 844, 845, 846, 847, 840, 841] (by decide +kernel) (by decide +kernel)) (goodIn_sub (fun _ h => List.mem_append_left _ (List.mem_append_left _ (List.mem_append_right _ h))) (by decide +kernel))) (goodIn_sub (fun _ h => List.mem_append_right _ h) (by decide +kernel))
set_option maxRecDepth 20000 in
theorem gL_law_L_made : GoodIn wsL_law (va_wsS RL 174 yL_made wsL_made) := goodIn_app (goodIn_of _ (by decide +kernel)) ggL_law_L_made
set_option maxRecDepth 20000 in
theorem ggL_law_X5_made : GoodIn wsL_law wsX5_made := goodIn_r _ [570, 178, 152, 444, 90, 91, 161, 162, 5, 163, 815, 816, 817, 818, 819, 820, 821, 822, 823, 824, 825, 826, 827, 828, 829, 830, 831, 832, 833, 834, 835, 836, 837, 838, 839] (by decide +kernel) (by decide +kernel)
set_option maxRecDepth 20000 in
theorem gL_law_X5_made : GoodIn wsL_law (wsV RL 176 RX5 yX5_made wsX5_made) := goodIn_app (goodIn_of _ (by decide +kernel)) ggL_law_X5_made
set_option maxRecDepth 20000 in
theorem ggL_law_L_ratio : GoodIn wsL_law wsL_ratio := goodIn_ca (goodIn_r _ [573, 108, 574, 575, 576, 2, 577, 19, 24, 479, 480, 481, 482, 130, 131, 384, 385, 386, 23, 387, 55, 144, 145, 146, 17, 147, 44, 483, 484, 485, 486, 54, 808, 809, 810, 811, 812, 813, 814, 842, 843, 844, 845, 846, 847, 840, 841] (by decide +kernel) (by decide +kernel)) (goodIn_sub (fun _ h => List.mem_append_right _ h) (by decide +kernel))
set_option maxRecDepth 20000 in
theorem gL_law_L_ratio : GoodIn wsL_law (va_wsS RL 177 yL_ratio wsL_ratio) := goodIn_app (goodIn_of _ (by decide +kernel)) ggL_law_L_ratio
set_option maxRecDepth 20000 in
theorem ggL_law_X5_ratio : GoodIn wsL_law wsX5_ratio := goodIn_r _ [581, 178, 152, 169, 445, 582, 815, 816, 817, 818, 819, 820, 821, 822, 823, 824, 825, 826, 827, 828, 829, 830, 831, 832, 833, 834, 835, 836, 837, 838, 839] (by decide +kernel) (by decide +kernel)
set_option maxRecDepth 20000 in
theorem gL_law_X5_ratio : GoodIn wsL_law (wsV RL 180 RX5 yX5_ratio wsX5_ratio) := goodIn_app (goodIn_of _ (by decide +kernel)) ggL_law_X5_ratio
set_option maxRecDepth 20000 in
theorem ggL_law_L_encode : GoodIn wsL_law wsL_encode := goodIn_ca (goodIn_r _ [585, 108, 586, 587, 588, 2, 589, 20, 24, 19, 479, 480, 481, 482, 130, 131, 384, 385, 386, 23, 387, 55, 274, 275, 276, 17, 277, 44, 435, 436, 437, 438, 50, 439, 145, 146, 147, 590, 591, 592, 593, 314, 315, 40, 316, 502, 503, 504, 505, 506, 224, 225, 226, 43, 227, 220, 221, 222, 522, 523, 524, 525, 51, 136, 137, 138, 139, 594, 595, 596, 597, 552, 553, 554, 555, 53, 598, 599, 600, 601, 223, 537, 538, 539, 540, 52, 144, 289, 290, 291, 808, 809, 810, 811, 812, 813, 814, 842, 843, 844, 845, 846, 847, 840, 841] (by decide +kernel) (by decide +kernel)) (goodIn_sub (fun _ h => List.mem_append_right _ h) (by decide +kernel))
set_option maxRecDepth 20000 in
theorem gL_law_L_encode : GoodIn wsL_law (va_wsS RL 181 yL_encode wsL_encode) := goodIn_app (goodIn_of _ (by decide +kernel)) ggL_law_L_encode
set_option maxRecDepth 20000 in
theorem ggL_law_X5_encode : GoodIn wsL_law wsX5_encode := goodIn_r _ [605, 152, 178, 606, 444, 90, 91, 607, 315, 40, 316, 88, 93, 92, 169, 157, 158, 159, 5, 160, 608, 609, 610, 611, 94, 612, 613, 614, 615, 296, 297, 298, 815, 816, 817, 818, 819, 820, 821, 822, 823, 824, 825, 826, 827, 828, 829, 830, 831, 832, 833, 834, 835, 836, 837, 838, 839] (by decide +kernel) (by decide +kernel)
set_option maxRecDepth 20000 in
theorem gL_law_X5_encode : GoodIn wsL_law (wsV RL 183 RX5 yX5_encode wsX5_encode) := goodIn_app (goodIn_of _ (by decide +kernel)) ggL_law_X5_encode
set_option maxRecDepth 20000 in
theorem ggL_law_X4_codeSize : GoodIn wsL_law wsX4_codeSize := goodIn_r _ [619, 20, 144, 145, 146, 17, 147, 44, 808, 809, 810, 811, 812, 813, 814, 840, 841] (by decide +kernel) (by decide +kernel)
set_option maxRecDepth 20000 in
theorem gL_law_X4_codeSize : GoodIn wsL_law (wsV RL 184 RX4 yX4_codeSize wsX4_codeSize) := goodIn_app (goodIn_of _ (by decide +kernel)) ggL_law_X4_codeSize
set_option maxRecDepth 20000 in
theorem ggL_law_X5_codeSize : GoodIn wsL_law wsX5_codeSize := goodIn_r _ [623, 152, 606, 815, 816, 817, 818, 819, 820, 821, 822, 823, 824, 825, 826, 827, 828, 829, 830, 831, 832, 833, 834, 835, 836, 837, 838, 839] (by decide +kernel) (by decide +kernel)
set_option maxRecDepth 20000 in
theorem gL_law_X5_codeSize : GoodIn wsL_law (wsV RL 187 RX5 yX5_codeSize wsX5_codeSize) := goodIn_app (goodIn_of _ (by decide +kernel)) ggL_law_X5_codeSize
set_option maxRecDepth 20000 in
theorem ggL_law_L_code : GoodIn wsL_law wsL_code := goodIn_ca (goodIn_r _ [626, 106, 627, 628, 629, 2, 630, 20, 216, 217, 218, 116, 117, 219, 220, 221, 17, 222, 44, 43, 223, 224, 225, 226, 227, 808, 809, 810, 811, 812, 813, 814, 840, 841] (by decide +kernel) (by decide +kernel)) (goodIn_sub (fun _ h => List.mem_append_left _ (List.mem_append_left _ (List.mem_append_right _ h))) (by decide +kernel))
set_option maxRecDepth 20000 in
theorem gL_law_L_code : GoodIn wsL_law (va_wsS RL 188 yL_code wsL_code) := goodIn_app (goodIn_of _ (by decide +kernel)) ggL_law_L_code
set_option maxRecDepth 20000 in
theorem ggL_law_X5_code : GoodIn wsL_law wsX5_code := goodIn_r _ [634, 152, 606, 94, 157, 158, 159, 5, 160, 815, 816, 817, 818, 819, 820, 821, 822, 823, 824, 825, 826, 827, 828, 829, 830, 831, 832, 833, 834, 835, 836, 837, 838, 839] (by decide +kernel) (by decide +kernel)
set_option maxRecDepth 20000 in
theorem gL_law_X5_code : GoodIn wsL_law (wsV RL 190 RX5 yX5_code wsX5_code) := goodIn_app (goodIn_of _ (by decide +kernel)) ggL_law_X5_code
set_option maxRecDepth 20000 in
theorem ggL_law_L_setCode : GoodIn wsL_law wsL_setCode := goodIn_ca (goodIn_ca (goodIn_r _ [637, 106, 107, 638, 639, 640, 2, 641, 20, 216, 217, 218, 116, 117, 219, 220, 221, 17, 222, 44, 43, 118, 119, 120, 121, 122, 223, 224, 225, 226, 227, 228, 229, 230, 231, 808, 809, 810, 811, 812, 813, 814, 840, 841] (by decide +kernel) (by decide +kernel)) (goodIn_sub (fun _ h => List.mem_append_left _ (List.mem_append_left _ (List.mem_append_right _ h))) (by decide +kernel))) (goodIn_sub (fun _ h => List.mem_append_left _ (List.mem_append_right _ h)) (by decide +kernel))
set_option maxRecDepth 20000 in
theorem gL_law_L_setCode : GoodIn wsL_law (va_wsS RL 191 yL_setCode wsL_setCode) := goodIn_app (goodIn_of _ (by decide +kernel)) ggL_law_L_setCode
set_option maxRecDepth 20000 in
theorem ggL_law_X5_setCode : GoodIn wsL_law wsX5_setCode := goodIn_r _ [645, 152, 606, 94, 157, 158, 159, 5, 160, 161, 162, 163, 815, 816, 817, 818, 819, 820, 821, 822, 823, 824, 825, 826, 827, 828, 829, 830, 831, 832, 833, 834, 835, 836, 837, 838, 839] (by decide +kernel) (by decide +kernel)
set_option maxRecDepth 20000 in
theorem gL_law_X5_setCode : GoodIn wsL_law (wsV RL 193 RX5 yX5_setCode wsX5_setCode) := goodIn_app (goodIn_of _ (by decide +kernel)) ggL_law_X5_setCode
set_option maxRecDepth 20000 in
theorem ggL_law_L_cutCode : GoodIn wsL_law wsL_cutCode := goodIn_ca (goodIn_r _ [648, 107, 649, 650, 651, 2, 652, 20, 144, 145, 146, 17, 147, 44, 118, 119, 120, 121, 122, 201, 202, 203, 204, 808, 809, 810, 811, 812, 813, 814, 840, 841] (by decide +kernel) (by decide +kernel)) (goodIn_sub (fun _ h => List.mem_append_left _ (List.mem_append_right _ h)) (by decide +kernel))
set_option maxRecDepth 20000 in
theorem gL_law_L_cutCode : GoodIn wsL_law (va_wsS RL 194 yL_cutCode wsL_cutCode) := goodIn_app (goodIn_of _ (by decide +kernel)) ggL_law_L_cutCode
set_option maxRecDepth 20000 in
theorem ggL_law_X5_cutCode : GoodIn wsL_law wsX5_cutCode := goodIn_r _ [656, 152, 606, 161, 162, 5, 163, 157, 158, 159, 160, 815, 816, 817, 818, 819, 820, 821, 822, 823, 824, 825, 826, 827, 828, 829, 830, 831, 832, 833, 834, 835, 836, 837, 838, 839] (by decide +kernel) (by decide +kernel)
set_option maxRecDepth 20000 in
theorem gL_law_X5_cutCode : GoodIn wsL_law (wsV RL 196 RX5 yX5_cutCode wsX5_cutCode) := goodIn_app (goodIn_of _ (by decide +kernel)) ggL_law_X5_cutCode
set_option maxRecDepth 20000 in
theorem ggL_law_L_appendCode : GoodIn wsL_law wsL_appendCode := goodIn_ca (goodIn_ca (goodIn_r _ [659, 107, 108, 660, 661, 662, 2, 663, 20, 118, 119, 120, 121, 122, 127, 128, 129, 130, 131, 132, 133, 134, 17, 135, 43, 44, 136, 137, 138, 139, 144, 145, 146, 147, 808, 809, 810, 811, 812, 813, 814, 840, 841] (by decide +kernel) (by decide +kernel)) (goodIn_sub (fun _ h => List.mem_append_left _ (List.mem_append_right _ h)) (by decide +kernel))) (goodIn_sub (fun _ h => List.mem_append_right _ h) (by decide +kernel))
set_option maxRecDepth 20000 in
theorem gL_law_L_appendCode : GoodIn wsL_law (va_wsS RL 197 yL_appendCode wsL_appendCode) := goodIn_app (goodIn_of _ (by decide +kernel)) ggL_law_L_appendCode
set_option maxRecDepth 20000 in
theorem ggL_law_X5_appendCode : GoodIn wsL_law wsX5_appendCode := goodIn_r _ [667, 152, 606, 161, 162, 5, 163, 157, 158, 159, 160, 608, 609, 610, 611, 94, 815, 816, 817, 818, 819, 820, 821, 822, 823, 824, 825, 826, 827, 828, 829, 830, 831, 832, 833, 834, 835, 836, 837, 838, 839] (by decide +kernel) (by decide +kernel)
set_option maxRecDepth 20000 in
theorem gL_law_X5_appendCode : GoodIn wsL_law (wsV RL 199 RX5 yX5_appendCode wsX5_appendCode) := goodIn_app (goodIn_of _ (by decide +kernel)) ggL_law_X5_appendCode
set_option maxRecDepth 20000 in
theorem ggL_law_X4_decode : GoodIn wsL_law wsX4_decode := goodIn_r _ [671, 32, 20, 18, 672, 673, 674, 31, 675, 74, 75, 76, 77, 78, 676, 275, 276, 17, 277, 44, 677, 145, 146, 147, 678, 679, 680, 681, 682, 683, 684, 685, 79, 80, 81, 686, 687, 688, 689, 690, 691, 692, 693, 694, 224, 225, 226, 43, 227, 220, 221, 222, 695, 696, 697, 698, 699, 700, 701, 702, 703, 133, 134, 135, 704, 705, 706, 707, 708, 709, 710, 711, 712, 137, 138, 139, 713, 714, 715, 716, 290, 2, 291, 223, 808, 809, 810, 811, 812, 813, 814, 856, 857, 858, 859, 860, 861, 862, 863, 840, 841] (by decide +kernel) (by decide +kernel)
set_option maxRecDepth 20000 in
theorem gL_law_X4_decode : GoodIn wsL_law (wsV RL 200 RX4 yX4_decode wsX4_decode) := goodIn_app (goodIn_of _ (by decide +kernel)) ggL_law_X4_decode
set_option maxRecDepth 20000 in
theorem ggL_law_X5_decode : GoodIn wsL_law wsX5_decode := goodIn_r _ [720, 152, 721, 722, 723, 96, 606, 94, 95, 724, 725, 726, 5, 727, 728, 729, 730, 731, 168, 87, 732, 733, 734, 735, 736, 737, 738, 739, 296, 297, 298, 815, 816, 817, 818, 819, 820, 821, 822, 823, 824, 825, 826, 827, 828, 829, 830, 831, 832, 833, 834, 835, 836, 837, 838, 839] (by decide +kernel) (by decide +kernel)
set_option maxRecDepth 20000 in
theorem gL_law_X5_decode : GoodIn wsL_law (wsV RL 203 RX5 yX5_decode wsX5_decode) := goodIn_app (goodIn_of _ (by decide +kernel)) ggL_law_X5_decode
