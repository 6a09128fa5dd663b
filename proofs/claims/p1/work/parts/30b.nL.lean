set_option maxRecDepth 20000 in
theorem ggL_feed_X4_feed : GoodIn wsL_feed wsX4_feed := goodIn_ca (goodIn_ca (goodIn_ca (goodIn_r _ [8, 9, 10, 11, 7, 12, 13, 14, 15, 16, 17, 18, 19, 20, 21, 22, 23, 24, 25, 26, 27, 28, 29, 30, 31, 32, 33, 34, 35, 36, 37, 38, 39, 40, 41, 42, 43, 44, 45, 46, 47, 48, 49, 50, 51, 52, 53, 54, 55, 56, 57, 58, 59, 60, 61, 62, 63, 64, 65, 66] (by decide +kernel) (by decide +kernel)) (goodIn_sub (fun _ h => List.mem_cons_of_mem _ (List.mem_append_left _ (List.mem_append_left _ (List.mem_append_right _ h)))) (by decide +kernel))) (goodIn_sub (fun _ h => List.mem_cons_of_mem _ (List.mem_append_left _ (List.mem_append_right _ h))) (by decide +kernel))) (goodIn_sub (fun _ h => List.mem_cons_of_mem _ (List.mem_append_right _ h)) (by decide +kernel))
set_option maxRecDepth 20000 in
theorem gL_feed_X4_feed : GoodIn wsL_feed (wsV RL 7 RX4 yX4_feed wsX4_feed) := goodIn_app (goodIn_of _ (by decide +kernel)) ggL_feed_X4_feed
theorem dL_feed_0 : decode cL_feed 0 = .ok (.aload 5, 2) := by decide +kernel
theorem dL_feed_2 : decode cL_feed 2 = .ok (.iconst 0, 1) := by decide +kernel
theorem dL_feed_3 : decode cL_feed 3 = .ok (.aload_n 0, 1) := by decide +kernel
theorem dL_feed_4 : decode cL_feed 4 = .ok (.iload_n 1, 1) := by decide +kernel
theorem dL_feed_5 : decode cL_feed 5 = .ok (.lload_n 2, 1) := by decide +kernel
theorem dL_feed_6 : decode cL_feed 6 = .ok (.iload 4, 2) := by decide +kernel
theorem dL_feed_8 : decode cL_feed 8 = .ok (.invokevirtual 7, 3) := by decide +kernel
theorem dL_feed_11 : decode cL_feed 11 = .ok (.i2l, 1) := by decide +kernel
theorem dL_feed_12 : decode cL_feed 12 = .ok (.lastore, 1) := by decide +kernel
theorem dL_feed_13 : decode cL_feed 13 = .ok (.goto 15, 3) := by decide +kernel
theorem dL_feed_16 : decode cL_feed 16 = .ok (.astore 6, 2) := by decide +kernel
theorem dL_feed_18 : decode cL_feed 18 = .ok (.iconst 1, 1) := by decide +kernel
theorem dL_feed_19 : decode cL_feed 19 = .ok (.ireturn, 1) := by decide +kernel
theorem dL_feed_20 : decode cL_feed 20 = .ok (.astore 6, 2) := by decide +kernel
theorem dL_feed_22 : decode cL_feed 22 = .ok (.iconst 2, 1) := by decide +kernel
theorem dL_feed_23 : decode cL_feed 23 = .ok (.ireturn, 1) := by decide +kernel
theorem dL_feed_24 : decode cL_feed 24 = .ok (.astore 6, 2) := by decide +kernel
theorem dL_feed_26 : decode cL_feed 26 = .ok (.iconst 3, 1) := by decide +kernel
theorem dL_feed_27 : decode cL_feed 27 = .ok (.ireturn, 1) := by decide +kernel
theorem dL_feed_28 : decode cL_feed 28 = .ok (.iconst 0, 1) := by decide +kernel
theorem dL_feed_29 : decode cL_feed 29 = .ok (.ireturn, 1) := by decide +kernel
set_option maxRecDepth 20000 in
theorem ggL_fill_X4_fill : GoodIn wsL_fill wsX4_fill := goodIn_ca (goodIn_ca (goodIn_ca (goodIn_r _ [8, 9, 10, 11, 7, 12, 13, 14, 15, 16, 17, 18, 19, 20, 21, 22, 23, 24, 25, 26, 27, 28, 29, 30, 31, 32, 33, 34, 35, 36, 37, 38, 39, 40, 41, 42, 43, 44, 45, 46, 47, 48, 49, 50, 51, 52, 53, 54, 55, 56, 57, 58, 59, 60, 61, 62, 63, 64, 65, 66] (by decide +kernel) (by decide +kernel)) (goodIn_sub (fun _ h => List.mem_cons_of_mem _ (List.mem_append_left _ (List.mem_append_left _ (List.mem_append_right _ h)))) (by decide +kernel))) (goodIn_sub (fun _ h => List.mem_cons_of_mem _ (List.mem_append_left _ (List.mem_append_right _ h))) (by decide +kernel))) (goodIn_sub (fun _ h => List.mem_cons_of_mem _ (List.mem_append_right _ h)) (by decide +kernel))
set_option maxRecDepth 20000 in
theorem gL_fill_X4_fill : GoodIn wsL_fill (wsV RL 19 RX4 yX4_fill wsX4_fill) := goodIn_app (goodIn_of _ (by decide +kernel)) ggL_fill_X4_fill
theorem dL_fill_0 : decode cL_fill 0 = .ok (.aload 4, 2) := by decide +kernel
theorem dL_fill_2 : decode cL_fill 2 = .ok (.iconst 0, 1) := by decide +kernel
theorem dL_fill_3 : decode cL_fill 3 = .ok (.aload_n 0, 1) := by decide +kernel
theorem dL_fill_4 : decode cL_fill 4 = .ok (.iload_n 1, 1) := by decide +kernel
theorem dL_fill_5 : decode cL_fill 5 = .ok (.iload_n 2, 1) := by decide +kernel
theorem dL_fill_6 : decode cL_fill 6 = .ok (.iload_n 3, 1) := by decide +kernel
theorem dL_fill_7 : decode cL_fill 7 = .ok (.invokevirtual 19, 3) := by decide +kernel
theorem dL_fill_10 : decode cL_fill 10 = .ok (.i2l, 1) := by decide +kernel
theorem dL_fill_11 : decode cL_fill 11 = .ok (.lastore, 1) := by decide +kernel
theorem dL_fill_12 : decode cL_fill 12 = .ok (.goto 15, 3) := by decide +kernel
theorem dL_fill_15 : decode cL_fill 15 = .ok (.astore 5, 2) := by decide +kernel
theorem dL_fill_17 : decode cL_fill 17 = .ok (.iconst 1, 1) := by decide +kernel
theorem dL_fill_18 : decode cL_fill 18 = .ok (.ireturn, 1) := by decide +kernel
theorem dL_fill_19 : decode cL_fill 19 = .ok (.astore 5, 2) := by decide +kernel
theorem dL_fill_21 : decode cL_fill 21 = .ok (.iconst 2, 1) := by decide +kernel
theorem dL_fill_22 : decode cL_fill 22 = .ok (.ireturn, 1) := by decide +kernel
theorem dL_fill_23 : decode cL_fill 23 = .ok (.astore 5, 2) := by decide +kernel
theorem dL_fill_25 : decode cL_fill 25 = .ok (.iconst 3, 1) := by decide +kernel
theorem dL_fill_26 : decode cL_fill 26 = .ok (.ireturn, 1) := by decide +kernel
theorem dL_fill_27 : decode cL_fill 27 = .ok (.iconst 0, 1) := by decide +kernel
theorem dL_fill_28 : decode cL_fill 28 = .ok (.ireturn, 1) := by decide +kernel
set_option maxRecDepth 20000 in
theorem ggL_cut_X4_cut : GoodIn wsL_cut wsX4_cut := goodIn_ca (goodIn_ca (goodIn_r _ [7, 8, 9, 10, 6, 11, 12, 13, 14, 15, 16, 17, 18, 19, 20, 21, 22, 23, 24, 25, 26, 27, 28, 29, 30, 31, 32, 33, 34, 35, 36, 37, 38, 39, 40, 41, 42, 43, 44, 45, 46, 47, 48, 49, 50, 51, 52, 53, 54, 55] (by decide +kernel) (by decide +kernel)) (goodIn_sub (fun _ h => List.mem_cons_of_mem _ (List.mem_append_left _ (List.mem_append_right _ h))) (by decide +kernel))) (goodIn_sub (fun _ h => List.mem_cons_of_mem _ (List.mem_append_right _ h)) (by decide +kernel))
set_option maxRecDepth 20000 in
theorem gL_cut_X4_cut : GoodIn wsL_cut (wsV RL 23 RX4 yX4_cut wsX4_cut) := goodIn_app (goodIn_of _ (by decide +kernel)) ggL_cut_X4_cut
theorem dL_cut_0 : decode cL_cut 0 = .ok (.aload_n 3, 1) := by decide +kernel
theorem dL_cut_1 : decode cL_cut 1 = .ok (.iconst 0, 1) := by decide +kernel
theorem dL_cut_2 : decode cL_cut 2 = .ok (.aload_n 0, 1) := by decide +kernel
theorem dL_cut_3 : decode cL_cut 3 = .ok (.iload_n 1, 1) := by decide +kernel
theorem dL_cut_4 : decode cL_cut 4 = .ok (.iload_n 2, 1) := by decide +kernel
theorem dL_cut_5 : decode cL_cut 5 = .ok (.invokevirtual 23, 3) := by decide +kernel
theorem dL_cut_8 : decode cL_cut 8 = .ok (.i2l, 1) := by decide +kernel
theorem dL_cut_9 : decode cL_cut 9 = .ok (.lastore, 1) := by decide +kernel
theorem dL_cut_10 : decode cL_cut 10 = .ok (.goto 11, 3) := by decide +kernel
theorem dL_cut_13 : decode cL_cut 13 = .ok (.astore 4, 2) := by decide +kernel
theorem dL_cut_15 : decode cL_cut 15 = .ok (.iconst 1, 1) := by decide +kernel
theorem dL_cut_16 : decode cL_cut 16 = .ok (.ireturn, 1) := by decide +kernel
theorem dL_cut_17 : decode cL_cut 17 = .ok (.astore 4, 2) := by decide +kernel
theorem dL_cut_19 : decode cL_cut 19 = .ok (.iconst 2, 1) := by decide +kernel
theorem dL_cut_20 : decode cL_cut 20 = .ok (.ireturn, 1) := by decide +kernel
theorem dL_cut_21 : decode cL_cut 21 = .ok (.iconst 0, 1) := by decide +kernel
theorem dL_cut_22 : decode cL_cut 22 = .ok (.ireturn, 1) := by decide +kernel
set_option maxRecDepth 20000 in
theorem ggL_set_X4_set : GoodIn wsL_set wsX4_set := goodIn_ca (goodIn_ca (goodIn_r _ [7, 8, 9, 10, 6, 11, 12, 13, 14, 15, 16, 17, 18, 19, 20, 21, 22, 23, 24, 25, 26, 27, 28, 29, 30, 31, 32, 33, 34, 35, 36, 37, 38, 39, 40, 41, 42, 43, 44, 45, 46, 47, 48, 49, 50, 51, 52, 53, 54, 55, 56, 57, 58, 59, 60, 61, 62, 63, 64] (by decide +kernel) (by decide +kernel)) (goodIn_sub (fun _ h => List.mem_cons_of_mem _ (List.mem_append_left _ (List.mem_append_right _ h))) (by decide +kernel))) (goodIn_sub (fun _ h => List.mem_cons_of_mem _ (List.mem_append_right _ h)) (by decide +kernel))
set_option maxRecDepth 20000 in
theorem gL_set_X4_set : GoodIn wsL_set (wsV RL 27 RX4 yX4_set wsX4_set) := goodIn_app (goodIn_of _ (by decide +kernel)) ggL_set_X4_set
theorem dL_set_0 : decode cL_set 0 = .ok (.aload 4, 2) := by decide +kernel
theorem dL_set_2 : decode cL_set 2 = .ok (.iconst 0, 1) := by decide +kernel
theorem dL_set_3 : decode cL_set 3 = .ok (.aload_n 0, 1) := by decide +kernel
theorem dL_set_4 : decode cL_set 4 = .ok (.iload_n 1, 1) := by decide +kernel
theorem dL_set_5 : decode cL_set 5 = .ok (.iload_n 2, 1) := by decide +kernel
theorem dL_set_6 : decode cL_set 6 = .ok (.iload_n 3, 1) := by decide +kernel
theorem dL_set_7 : decode cL_set 7 = .ok (.invokevirtual 27, 3) := by decide +kernel
theorem dL_set_10 : decode cL_set 10 = .ok (.i2l, 1) := by decide +kernel
theorem dL_set_11 : decode cL_set 11 = .ok (.lastore, 1) := by decide +kernel
theorem dL_set_12 : decode cL_set 12 = .ok (.goto 11, 3) := by decide +kernel
theorem dL_set_15 : decode cL_set 15 = .ok (.astore 5, 2) := by decide +kernel
theorem dL_set_17 : decode cL_set 17 = .ok (.iconst 1, 1) := by decide +kernel
theorem dL_set_18 : decode cL_set 18 = .ok (.ireturn, 1) := by decide +kernel
theorem dL_set_19 : decode cL_set 19 = .ok (.astore 5, 2) := by decide +kernel
theorem dL_set_21 : decode cL_set 21 = .ok (.iconst 2, 1) := by decide +kernel
theorem dL_set_22 : decode cL_set 22 = .ok (.ireturn, 1) := by decide +kernel
theorem dL_set_23 : decode cL_set 23 = .ok (.iconst 0, 1) := by decide +kernel
theorem dL_set_24 : decode cL_set 24 = .ok (.ireturn, 1) := by decide +kernel
set_option maxRecDepth 20000 in
theorem ggL_size_X4_size : GoodIn wsL_size wsX4_size := goodIn_ca (goodIn_r _ [6, 7, 8, 5, 9, 10, 11, 12, 13, 14, 15, 16, 17, 18, 19, 20, 21, 22, 23, 24, 25, 26, 27, 28, 29, 30, 31, 32] (by decide +kernel) (by decide +kernel)) (goodIn_sub (fun _ h => List.mem_cons_of_mem _ (List.mem_append_right _ h)) (by decide +kernel))
set_option maxRecDepth 20000 in
theorem gL_size_X4_size : GoodIn wsL_size (wsV RL 30 RX4 yX4_size wsX4_size) := goodIn_app (goodIn_of _ (by decide +kernel)) ggL_size_X4_size
theorem dL_size_0 : decode cL_size 0 = .ok (.aload_n 2, 1) := by decide +kernel
theorem dL_size_1 : decode cL_size 1 = .ok (.iconst 0, 1) := by decide +kernel
theorem dL_size_2 : decode cL_size 2 = .ok (.aload_n 0, 1) := by decide +kernel
theorem dL_size_3 : decode cL_size 3 = .ok (.iload_n 1, 1) := by decide +kernel
theorem dL_size_4 : decode cL_size 4 = .ok (.invokevirtual 30, 3) := by decide +kernel
theorem dL_size_7 : decode cL_size 7 = .ok (.i2l, 1) := by decide +kernel
theorem dL_size_8 : decode cL_size 8 = .ok (.lastore, 1) := by decide +kernel
theorem dL_size_9 : decode cL_size 9 = .ok (.goto 6, 3) := by decide +kernel
theorem dL_size_12 : decode cL_size 12 = .ok (.astore_n 3, 1) := by decide +kernel
theorem dL_size_13 : decode cL_size 13 = .ok (.iconst 1, 1) := by decide +kernel
theorem dL_size_14 : decode cL_size 14 = .ok (.ireturn, 1) := by decide +kernel
theorem dL_size_15 : decode cL_size 15 = .ok (.iconst 0, 1) := by decide +kernel
theorem dL_size_16 : decode cL_size 16 = .ok (.ireturn, 1) := by decide +kernel
set_option maxRecDepth 20000 in
theorem ggL_byteAt_X4_byteAt : GoodIn wsL_byteAt wsX4_byteAt := goodIn_ca (goodIn_r _ [6, 7, 8, 5, 9, 10, 11, 12, 13, 14, 15, 16, 17, 18, 19, 20, 21, 22, 23, 24, 25, 26, 27, 28, 29, 30, 31, 32, 33, 34, 35, 36, 37, 38, 39, 40, 41] (by decide +kernel) (by decide +kernel)) (goodIn_sub (fun _ h => List.mem_cons_of_mem _ (List.mem_append_right _ h)) (by decide +kernel))
set_option maxRecDepth 20000 in
theorem gL_byteAt_X4_byteAt : GoodIn wsL_byteAt (wsV RL 34 RX4 yX4_byteAt wsX4_byteAt) := goodIn_app (goodIn_of _ (by decide +kernel)) ggL_byteAt_X4_byteAt
theorem dL_byteAt_0 : decode cL_byteAt 0 = .ok (.aload_n 3, 1) := by decide +kernel
theorem dL_byteAt_1 : decode cL_byteAt 1 = .ok (.iconst 0, 1) := by decide +kernel
theorem dL_byteAt_2 : decode cL_byteAt 2 = .ok (.aload_n 0, 1) := by decide +kernel
theorem dL_byteAt_3 : decode cL_byteAt 3 = .ok (.iload_n 1, 1) := by decide +kernel
theorem dL_byteAt_4 : decode cL_byteAt 4 = .ok (.iload_n 2, 1) := by decide +kernel
theorem dL_byteAt_5 : decode cL_byteAt 5 = .ok (.invokevirtual 34, 3) := by decide +kernel
theorem dL_byteAt_8 : decode cL_byteAt 8 = .ok (.i2l, 1) := by decide +kernel
theorem dL_byteAt_9 : decode cL_byteAt 9 = .ok (.lastore, 1) := by decide +kernel
theorem dL_byteAt_10 : decode cL_byteAt 10 = .ok (.goto 7, 3) := by decide +kernel
theorem dL_byteAt_13 : decode cL_byteAt 13 = .ok (.astore 4, 2) := by decide +kernel
theorem dL_byteAt_15 : decode cL_byteAt 15 = .ok (.iconst 1, 1) := by decide +kernel
theorem dL_byteAt_16 : decode cL_byteAt 16 = .ok (.ireturn, 1) := by decide +kernel
theorem dL_byteAt_17 : decode cL_byteAt 17 = .ok (.iconst 0, 1) := by decide +kernel
theorem dL_byteAt_18 : decode cL_byteAt 18 = .ok (.ireturn, 1) := by decide +kernel
set_option maxRecDepth 20000 in
theorem ggL_check_X4_check : GoodIn wsL_check wsX4_check := goodIn_ca (goodIn_r _ [6, 7, 8, 9, 10, 5, 11, 12, 13, 14, 15, 16, 17, 18, 19, 20, 21, 22, 23, 24, 25, 26, 27, 28, 29, 30, 31, 32, 33, 34, 35, 36, 37, 38, 39, 40, 41, 42, 43, 44] (by decide +kernel) (by decide +kernel)) (goodIn_sub (fun _ h => List.mem_cons_of_mem _ (List.mem_append_right _ h)) (by decide +kernel))
set_option maxRecDepth 20000 in
theorem gL_check_X4_check : GoodIn wsL_check (wsV RL 37 RX4 yX4_check wsX4_check) := goodIn_app (goodIn_of _ (by decide +kernel)) ggL_check_X4_check
theorem dL_check_0 : decode cL_check 0 = .ok (.aload 4, 2) := by decide +kernel
theorem dL_check_2 : decode cL_check 2 = .ok (.iconst 0, 1) := by decide +kernel
theorem dL_check_3 : decode cL_check 3 = .ok (.aload_n 0, 1) := by decide +kernel
theorem dL_check_4 : decode cL_check 4 = .ok (.iload_n 1, 1) := by decide +kernel
theorem dL_check_5 : decode cL_check 5 = .ok (.iload_n 2, 1) := by decide +kernel
theorem dL_check_6 : decode cL_check 6 = .ok (.iload_n 3, 1) := by decide +kernel
theorem dL_check_7 : decode cL_check 7 = .ok (.invokevirtual 37, 3) := by decide +kernel
theorem dL_check_10 : decode cL_check 10 = .ok (.i2l, 1) := by decide +kernel
theorem dL_check_11 : decode cL_check 11 = .ok (.lastore, 1) := by decide +kernel
theorem dL_check_12 : decode cL_check 12 = .ok (.goto 7, 3) := by decide +kernel
theorem dL_check_15 : decode cL_check 15 = .ok (.astore 5, 2) := by decide +kernel
theorem dL_check_17 : decode cL_check 17 = .ok (.iconst 1, 1) := by decide +kernel
theorem dL_check_18 : decode cL_check 18 = .ok (.ireturn, 1) := by decide +kernel
theorem dL_check_19 : decode cL_check 19 = .ok (.iconst 0, 1) := by decide +kernel
theorem dL_check_20 : decode cL_check 20 = .ok (.ireturn, 1) := by decide +kernel
set_option maxRecDepth 20000 in
theorem ggL_match_X4_match : GoodIn wsL_match wsX4_match := goodIn_ca (goodIn_r _ [6, 7, 8, 9, 5, 10, 11, 12, 13, 14, 15, 16, 17, 18, 19, 20, 21, 22, 23, 24, 25, 26, 27, 28, 29, 30, 31, 32, 33, 34, 35, 36, 37, 38, 39, 40, 41, 42, 43, 44, 45, 46, 47, 48, 49, 50, 51, 52, 53, 54, 55, 56, 57] (by decide +kernel) (by decide +kernel)) (goodIn_sub (fun _ h => List.mem_cons_of_mem _ (List.mem_append_right _ h)) (by decide +kernel))
set_option maxRecDepth 20000 in
theorem gL_match_X4_match : GoodIn wsL_match (wsV RL 40 RX4 yX4_match wsX4_match) := goodIn_app (goodIn_of _ (by decide +kernel)) ggL_match_X4_match
theorem dL_match_0 : decode cL_match 0 = .ok (.aload_n 3, 1) := by decide +kernel
theorem dL_match_1 : decode cL_match 1 = .ok (.iconst 0, 1) := by decide +kernel
theorem dL_match_2 : decode cL_match 2 = .ok (.aload_n 0, 1) := by decide +kernel
theorem dL_match_3 : decode cL_match 3 = .ok (.iload_n 1, 1) := by decide +kernel
theorem dL_match_4 : decode cL_match 4 = .ok (.iload_n 2, 1) := by decide +kernel
theorem dL_match_5 : decode cL_match 5 = .ok (.invokevirtual 40, 3) := by decide +kernel
theorem dL_match_8 : decode cL_match 8 = .ok (.i2l, 1) := by decide +kernel
theorem dL_match_9 : decode cL_match 9 = .ok (.lastore, 1) := by decide +kernel
theorem dL_match_10 : decode cL_match 10 = .ok (.goto 7, 3) := by decide +kernel
theorem dL_match_13 : decode cL_match 13 = .ok (.astore 4, 2) := by decide +kernel
theorem dL_match_15 : decode cL_match 15 = .ok (.iconst 1, 1) := by decide +kernel
theorem dL_match_16 : decode cL_match 16 = .ok (.ireturn, 1) := by decide +kernel
theorem dL_match_17 : decode cL_match 17 = .ok (.iconst 0, 1) := by decide +kernel
theorem dL_match_18 : decode cL_match 18 = .ok (.ireturn, 1) := by decide +kernel
set_option maxRecDepth 20000 in
theorem ggL_matchPlace_X4_matchPlace : GoodIn wsL_matchPlace wsX4_matchPlace := goodIn_ca (goodIn_r _ [6, 7, 8, 9, 5, 10, 11, 12, 13, 14, 15, 16, 17, 18, 19, 20, 21, 22, 23, 24, 25, 26, 27, 28, 29, 30, 31, 32, 33, 34, 35, 36, 37, 38, 39, 40, 41, 42, 43, 44, 45, 46, 47, 48, 49, 50, 51, 52, 53, 54, 55, 56, 57] (by decide +kernel) (by decide +kernel)) (goodIn_sub (fun _ h => List.mem_cons_of_mem _ (List.mem_append_right _ h)) (by decide +kernel))
set_option maxRecDepth 20000 in
theorem gL_matchPlace_X4_matchPlace : GoodIn wsL_matchPlace (wsV RL 43 RX4 yX4_matchPlace wsX4_matchPlace) := goodIn_app (goodIn_of _ (by decide +kernel)) ggL_matchPlace_X4_matchPlace
theorem dL_matchPlace_0 : decode cL_matchPlace 0 = .ok (.aload_n 3, 1) := by decide +kernel
theorem dL_matchPlace_1 : decode cL_matchPlace 1 = .ok (.iconst 0, 1) := by decide +kernel
theorem dL_matchPlace_2 : decode cL_matchPlace 2 = .ok (.aload_n 0, 1) := by decide +kernel
theorem dL_matchPlace_3 : decode cL_matchPlace 3 = .ok (.iload_n 1, 1) := by decide +kernel
theorem dL_matchPlace_4 : decode cL_matchPlace 4 = .ok (.iload_n 2, 1) := by decide +kernel
theorem dL_matchPlace_5 : decode cL_matchPlace 5 = .ok (.invokevirtual 43, 3) := by decide +kernel
theorem dL_matchPlace_8 : decode cL_matchPlace 8 = .ok (.i2l, 1) := by decide +kernel
theorem dL_matchPlace_9 : decode cL_matchPlace 9 = .ok (.lastore, 1) := by decide +kernel
theorem dL_matchPlace_10 : decode cL_matchPlace 10 = .ok (.goto 7, 3) := by decide +kernel
theorem dL_matchPlace_13 : decode cL_matchPlace 13 = .ok (.astore 4, 2) := by decide +kernel
theorem dL_matchPlace_15 : decode cL_matchPlace 15 = .ok (.iconst 1, 1) := by decide +kernel
theorem dL_matchPlace_16 : decode cL_matchPlace 16 = .ok (.ireturn, 1) := by decide +kernel
theorem dL_matchPlace_17 : decode cL_matchPlace 17 = .ok (.iconst 0, 1) := by decide +kernel
theorem dL_matchPlace_18 : decode cL_matchPlace 18 = .ok (.ireturn, 1) := by decide +kernel
set_option maxRecDepth 20000 in
theorem ggL_blocks_X4_blocks : GoodIn wsL_blocks wsX4_blocks := goodIn_ca (goodIn_r _ [6, 7, 8, 9, 5, 10, 11, 12, 13, 14, 15, 16, 17, 18, 19, 20, 21, 22, 23, 24, 25, 26, 27, 28, 29, 30, 31, 32, 33, 34, 35, 36, 37, 38, 39, 40, 41, 42, 43, 44, 45, 46, 47, 48, 49, 50, 51, 52] (by decide +kernel) (by decide +kernel)) (goodIn_sub (fun _ h => List.mem_cons_of_mem _ (List.mem_append_right _ h)) (by decide +kernel))
set_option maxRecDepth 20000 in
theorem gL_blocks_X4_blocks : GoodIn wsL_blocks (wsV RL 46 RX4 yX4_blocks wsX4_blocks) := goodIn_app (goodIn_of _ (by decide +kernel)) ggL_blocks_X4_blocks
theorem dL_blocks_0 : decode cL_blocks 0 = .ok (.aload_n 2, 1) := by decide +kernel
theorem dL_blocks_1 : decode cL_blocks 1 = .ok (.iconst 0, 1) := by decide +kernel
theorem dL_blocks_2 : decode cL_blocks 2 = .ok (.aload_n 0, 1) := by decide +kernel
theorem dL_blocks_3 : decode cL_blocks 3 = .ok (.iload_n 1, 1) := by decide +kernel
theorem dL_blocks_4 : decode cL_blocks 4 = .ok (.invokevirtual 46, 3) := by decide +kernel
theorem dL_blocks_7 : decode cL_blocks 7 = .ok (.i2l, 1) := by decide +kernel
theorem dL_blocks_8 : decode cL_blocks 8 = .ok (.lastore, 1) := by decide +kernel
theorem dL_blocks_9 : decode cL_blocks 9 = .ok (.goto 6, 3) := by decide +kernel
theorem dL_blocks_12 : decode cL_blocks 12 = .ok (.astore_n 3, 1) := by decide +kernel
theorem dL_blocks_13 : decode cL_blocks 13 = .ok (.iconst 1, 1) := by decide +kernel
theorem dL_blocks_14 : decode cL_blocks 14 = .ok (.ireturn, 1) := by decide +kernel
theorem dL_blocks_15 : decode cL_blocks 15 = .ok (.iconst 0, 1) := by decide +kernel
theorem dL_blocks_16 : decode cL_blocks 16 = .ok (.ireturn, 1) := by decide +kernel
set_option maxRecDepth 20000 in
theorem ggL_setLeast_X4_setLeast : GoodIn wsL_setLeast wsX4_setLeast := goodIn_ca (goodIn_r _ [6, 7, 8, 9, 10, 5, 11, 12, 13, 14, 15, 16, 17, 18, 19, 20, 21, 22, 23, 24, 25, 26, 27, 28, 29, 30, 31, 32] (by decide +kernel) (by decide +kernel)) (goodIn_sub (fun _ h => List.mem_cons_of_mem _ (List.mem_append_right _ h)) (by decide +kernel))
set_option maxRecDepth 20000 in
theorem gL_setLeast_X4_setLeast : GoodIn wsL_setLeast (wsV RL 49 RX4 yX4_setLeast wsX4_setLeast) := goodIn_app (goodIn_of _ (by decide +kernel)) ggL_setLeast_X4_setLeast
theorem dL_setLeast_0 : decode cL_setLeast 0 = .ok (.aload_n 2, 1) := by decide +kernel
theorem dL_setLeast_1 : decode cL_setLeast 1 = .ok (.iconst 0, 1) := by decide +kernel
theorem dL_setLeast_2 : decode cL_setLeast 2 = .ok (.aload_n 0, 1) := by decide +kernel
theorem dL_setLeast_3 : decode cL_setLeast 3 = .ok (.iload_n 1, 1) := by decide +kernel
theorem dL_setLeast_4 : decode cL_setLeast 4 = .ok (.invokevirtual 49, 3) := by decide +kernel
theorem dL_setLeast_7 : decode cL_setLeast 7 = .ok (.i2l, 1) := by decide +kernel
theorem dL_setLeast_8 : decode cL_setLeast 8 = .ok (.lastore, 1) := by decide +kernel
theorem dL_setLeast_9 : decode cL_setLeast 9 = .ok (.goto 6, 3) := by decide +kernel
theorem dL_setLeast_12 : decode cL_setLeast 12 = .ok (.astore_n 3, 1) := by decide +kernel
theorem dL_setLeast_13 : decode cL_setLeast 13 = .ok (.iconst 1, 1) := by decide +kernel
theorem dL_setLeast_14 : decode cL_setLeast 14 = .ok (.ireturn, 1) := by decide +kernel
theorem dL_setLeast_15 : decode cL_setLeast 15 = .ok (.iconst 0, 1) := by decide +kernel
theorem dL_setLeast_16 : decode cL_setLeast 16 = .ok (.ireturn, 1) := by decide +kernel
set_option maxRecDepth 20000 in
theorem ggL_cost_X4_cost : GoodIn wsL_cost wsX4_cost := goodIn_ca (goodIn_r _ [6, 7, 8, 9, 10, 5, 11, 12, 13, 14, 15, 16, 17, 18, 19, 20, 21, 22, 23, 24, 25, 26, 27, 28, 29, 30, 31, 32, 33, 34, 35, 36, 37] (by decide +kernel) (by decide +kernel)) (goodIn_sub (fun _ h => List.mem_cons_of_mem _ (List.mem_append_right _ h)) (by decide +kernel))
set_option maxRecDepth 20000 in
theorem gL_cost_X4_cost : GoodIn wsL_cost (wsV RL 52 RX4 yX4_cost wsX4_cost) := goodIn_app (goodIn_of _ (by decide +kernel)) ggL_cost_X4_cost
theorem dL_cost_0 : decode cL_cost 0 = .ok (.aload_n 1, 1) := by decide +kernel
theorem dL_cost_1 : decode cL_cost 1 = .ok (.iconst 0, 1) := by decide +kernel
theorem dL_cost_2 : decode cL_cost 2 = .ok (.aload_n 0, 1) := by decide +kernel
theorem dL_cost_3 : decode cL_cost 3 = .ok (.invokevirtual 52, 3) := by decide +kernel
theorem dL_cost_6 : decode cL_cost 6 = .ok (.i2l, 1) := by decide +kernel
theorem dL_cost_7 : decode cL_cost 7 = .ok (.lastore, 1) := by decide +kernel
theorem dL_cost_8 : decode cL_cost 8 = .ok (.goto 6, 3) := by decide +kernel
theorem dL_cost_11 : decode cL_cost 11 = .ok (.astore_n 2, 1) := by decide +kernel
theorem dL_cost_12 : decode cL_cost 12 = .ok (.iconst 1, 1) := by decide +kernel
theorem dL_cost_13 : decode cL_cost 13 = .ok (.ireturn, 1) := by decide +kernel
theorem dL_cost_14 : decode cL_cost 14 = .ok (.iconst 0, 1) := by decide +kernel
theorem dL_cost_15 : decode cL_cost 15 = .ok (.ireturn, 1) := by decide +kernel
set_option maxRecDepth 20000 in
theorem ggL_kind_X4_kind : GoodIn wsL_kind wsX4_kind := goodIn_ca (goodIn_ca (goodIn_r _ [7, 8, 9, 10, 11, 6, 12, 13, 14, 15, 16, 17, 18, 19, 20, 21, 22, 23, 24, 25, 26, 27, 28, 29, 30, 31, 32, 33, 34, 35, 36, 37, 38, 39, 40, 41, 42, 43, 44, 45, 46, 47, 48, 49, 50, 51, 52, 53, 54, 55, 56, 57, 58, 59, 60, 61, 62, 63, 64, 65] (by decide +kernel) (by decide +kernel)) (goodIn_sub (fun _ h => List.mem_cons_of_mem _ (List.mem_append_left _ (List.mem_append_right _ h))) (by decide +kernel))) (goodIn_sub (fun _ h => List.mem_cons_of_mem _ (List.mem_append_right _ h)) (by decide +kernel))
set_option maxRecDepth 20000 in
theorem gL_kind_X4_kind : GoodIn wsL_kind (wsV RL 56 RX4 yX4_kind wsX4_kind) := goodIn_app (goodIn_of _ (by decide +kernel)) ggL_kind_X4_kind
theorem dL_kind_0 : decode cL_kind 0 = .ok (.aload_n 2, 1) := by decide +kernel
theorem dL_kind_1 : decode cL_kind 1 = .ok (.iconst 0, 1) := by decide +kernel
theorem dL_kind_2 : decode cL_kind 2 = .ok (.aload_n 0, 1) := by decide +kernel
theorem dL_kind_3 : decode cL_kind 3 = .ok (.iload_n 1, 1) := by decide +kernel
theorem dL_kind_4 : decode cL_kind 4 = .ok (.invokevirtual 56, 3) := by decide +kernel
theorem dL_kind_7 : decode cL_kind 7 = .ok (.i2l, 1) := by decide +kernel
theorem dL_kind_8 : decode cL_kind 8 = .ok (.lastore, 1) := by decide +kernel
theorem dL_kind_9 : decode cL_kind 9 = .ok (.goto 9, 3) := by decide +kernel
theorem dL_kind_12 : decode cL_kind 12 = .ok (.astore_n 3, 1) := by decide +kernel
theorem dL_kind_13 : decode cL_kind 13 = .ok (.iconst 1, 1) := by decide +kernel
theorem dL_kind_14 : decode cL_kind 14 = .ok (.ireturn, 1) := by decide +kernel
theorem dL_kind_15 : decode cL_kind 15 = .ok (.astore_n 3, 1) := by decide +kernel
theorem dL_kind_16 : decode cL_kind 16 = .ok (.iconst 2, 1) := by decide +kernel
theorem dL_kind_17 : decode cL_kind 17 = .ok (.ireturn, 1) := by decide +kernel
theorem dL_kind_18 : decode cL_kind 18 = .ok (.iconst 0, 1) := by decide +kernel
theorem dL_kind_19 : decode cL_kind 19 = .ok (.ireturn, 1) := by decide +kernel
set_option maxRecDepth 20000 in
theorem ggL_length_X4_length : GoodIn wsL_length wsX4_length := goodIn_ca (goodIn_ca (goodIn_r _ [7, 8, 9, 10, 11, 6, 12, 13, 14, 15, 16, 17, 18, 19, 20, 21, 22, 23, 24, 25, 26, 27, 28, 29, 30, 31, 32, 33, 34, 35, 36, 37, 38, 39, 40, 41, 42, 43, 44, 45, 46, 47, 48, 49, 50, 51, 52, 53, 54, 55, 56, 57, 58, 59, 60, 61, 62, 63, 64, 65, 66] (by decide +kernel) (by decide +kernel)) (goodIn_sub (fun _ h => List.mem_cons_of_mem _ (List.mem_append_left _ (List.mem_append_right _ h))) (by decide +kernel))) (goodIn_sub (fun _ h => List.mem_cons_of_mem _ (List.mem_append_right _ h)) (by decide +kernel))
set_option maxRecDepth 20000 in
theorem gL_length_X4_length : GoodIn wsL_length (wsV RL 59 RX4 yX4_length wsX4_length) := goodIn_app (goodIn_of _ (by decide +kernel)) ggL_length_X4_length
theorem dL_length_0 : decode cL_length 0 = .ok (.aload_n 2, 1) := by decide +kernel
theorem dL_length_1 : decode cL_length 1 = .ok (.iconst 0, 1) := by decide +kernel
theorem dL_length_2 : decode cL_length 2 = .ok (.aload_n 0, 1) := by decide +kernel
theorem dL_length_3 : decode cL_length 3 = .ok (.iload_n 1, 1) := by decide +kernel
theorem dL_length_4 : decode cL_length 4 = .ok (.invokevirtual 59, 3) := by decide +kernel
theorem dL_length_7 : decode cL_length 7 = .ok (.i2l, 1) := by decide +kernel
theorem dL_length_8 : decode cL_length 8 = .ok (.lastore, 1) := by decide +kernel
theorem dL_length_9 : decode cL_length 9 = .ok (.goto 9, 3) := by decide +kernel
theorem dL_length_12 : decode cL_length 12 = .ok (.astore_n 3, 1) := by decide +kernel
theorem dL_length_13 : decode cL_length 13 = .ok (.iconst 1, 1) := by decide +kernel
theorem dL_length_14 : decode cL_length 14 = .ok (.ireturn, 1) := by decide +kernel
theorem dL_length_15 : decode cL_length 15 = .ok (.astore_n 3, 1) := by decide +kernel
theorem dL_length_16 : decode cL_length 16 = .ok (.iconst 2, 1) := by decide +kernel
theorem dL_length_17 : decode cL_length 17 = .ok (.ireturn, 1) := by decide +kernel
theorem dL_length_18 : decode cL_length 18 = .ok (.iconst 0, 1) := by decide +kernel
theorem dL_length_19 : decode cL_length 19 = .ok (.ireturn, 1) := by decide +kernel
set_option maxRecDepth 20000 in
theorem ggL_operand_X4_operand : GoodIn wsL_operand wsX4_operand := goodIn_ca (goodIn_ca (goodIn_r _ [7, 8, 9, 10, 11, 6, 12, 13, 14, 15, 16, 17, 18, 19, 20, 21, 22, 23, 24, 25, 26, 27, 28, 29, 30, 31, 32, 33, 34, 35, 36, 37, 38, 39, 40, 41, 42, 43, 44, 45, 46, 47, 48, 49, 50, 51, 52, 53, 54, 55, 56, 57, 58, 59, 60, 61, 62, 63, 64, 65, 66] (by decide +kernel) (by decide +kernel)) (goodIn_sub (fun _ h => List.mem_cons_of_mem _ (List.mem_append_left _ (List.mem_append_right _ h))) (by decide +kernel))) (goodIn_sub (fun _ h => List.mem_cons_of_mem _ (List.mem_append_right _ h)) (by decide +kernel))
set_option maxRecDepth 20000 in
theorem gL_operand_X4_operand : GoodIn wsL_operand (wsV RL 62 RX4 yX4_operand wsX4_operand) := goodIn_app (goodIn_of _ (by decide +kernel)) ggL_operand_X4_operand
theorem dL_operand_0 : decode cL_operand 0 = .ok (.aload_n 2, 1) := by decide +kernel
theorem dL_operand_1 : decode cL_operand 1 = .ok (.iconst 0, 1) := by decide +kernel
theorem dL_operand_2 : decode cL_operand 2 = .ok (.aload_n 0, 1) := by decide +kernel
theorem dL_operand_3 : decode cL_operand 3 = .ok (.iload_n 1, 1) := by decide +kernel
theorem dL_operand_4 : decode cL_operand 4 = .ok (.invokevirtual 62, 3) := by decide +kernel
theorem dL_operand_7 : decode cL_operand 7 = .ok (.i2l, 1) := by decide +kernel
theorem dL_operand_8 : decode cL_operand 8 = .ok (.lastore, 1) := by decide +kernel
theorem dL_operand_9 : decode cL_operand 9 = .ok (.goto 9, 3) := by decide +kernel
theorem dL_operand_12 : decode cL_operand 12 = .ok (.astore_n 3, 1) := by decide +kernel
theorem dL_operand_13 : decode cL_operand 13 = .ok (.iconst 1, 1) := by decide +kernel
theorem dL_operand_14 : decode cL_operand 14 = .ok (.ireturn, 1) := by decide +kernel
theorem dL_operand_15 : decode cL_operand 15 = .ok (.astore_n 3, 1) := by decide +kernel
theorem dL_operand_16 : decode cL_operand 16 = .ok (.iconst 2, 1) := by decide +kernel
theorem dL_operand_17 : decode cL_operand 17 = .ok (.ireturn, 1) := by decide +kernel
theorem dL_operand_18 : decode cL_operand 18 = .ok (.iconst 0, 1) := by decide +kernel
theorem dL_operand_19 : decode cL_operand 19 = .ok (.ireturn, 1) := by decide +kernel
set_option maxRecDepth 20000 in
theorem ggL_start_X4_start : GoodIn wsL_start wsX4_start := goodIn_ca (goodIn_ca (goodIn_r _ [7, 8, 9, 10, 11, 6, 12, 13, 14, 15, 16, 17, 18, 19, 20, 21, 22, 23, 24, 25, 26, 27, 28, 29, 30, 31, 32, 33, 34, 35, 36, 37, 38, 39, 40, 41, 42, 43, 44, 45, 46, 47, 48, 49, 50, 51, 52, 53, 54, 55, 56, 57, 58, 59, 60, 61, 62, 63, 64, 65, 66] (by decide +kernel) (by decide +kernel)) (goodIn_sub (fun _ h => List.mem_cons_of_mem _ (List.mem_append_left _ (List.mem_append_right _ h))) (by decide +kernel))) (goodIn_sub (fun _ h => List.mem_cons_of_mem _ (List.mem_append_right _ h)) (by decide +kernel))
set_option maxRecDepth 20000 in
theorem gL_start_X4_start : GoodIn wsL_start (wsV RL 65 RX4 yX4_start wsX4_start) := goodIn_app (goodIn_of _ (by decide +kernel)) ggL_start_X4_start
theorem dL_start_0 : decode cL_start 0 = .ok (.aload_n 2, 1) := by decide +kernel
theorem dL_start_1 : decode cL_start 1 = .ok (.iconst 0, 1) := by decide +kernel
theorem dL_start_2 : decode cL_start 2 = .ok (.aload_n 0, 1) := by decide +kernel
theorem dL_start_3 : decode cL_start 3 = .ok (.iload_n 1, 1) := by decide +kernel
theorem dL_start_4 : decode cL_start 4 = .ok (.invokevirtual 65, 3) := by decide +kernel
theorem dL_start_7 : decode cL_start 7 = .ok (.i2l, 1) := by decide +kernel
theorem dL_start_8 : decode cL_start 8 = .ok (.lastore, 1) := by decide +kernel
theorem dL_start_9 : decode cL_start 9 = .ok (.goto 9, 3) := by decide +kernel
theorem dL_start_12 : decode cL_start 12 = .ok (.astore_n 3, 1) := by decide +kernel
theorem dL_start_13 : decode cL_start 13 = .ok (.iconst 1, 1) := by decide +kernel
theorem dL_start_14 : decode cL_start 14 = .ok (.ireturn, 1) := by decide +kernel
theorem dL_start_15 : decode cL_start 15 = .ok (.astore_n 3, 1) := by decide +kernel
theorem dL_start_16 : decode cL_start 16 = .ok (.iconst 2, 1) := by decide +kernel
theorem dL_start_17 : decode cL_start 17 = .ok (.ireturn, 1) := by decide +kernel
theorem dL_start_18 : decode cL_start 18 = .ok (.iconst 0, 1) := by decide +kernel
theorem dL_start_19 : decode cL_start 19 = .ok (.ireturn, 1) := by decide +kernel
set_option maxRecDepth 20000 in
theorem ggL_made_X4_made : GoodIn wsL_made wsX4_made := goodIn_ca (goodIn_ca (goodIn_r _ [7, 8, 9, 10, 11, 12, 13, 6, 14, 15, 16, 17, 18, 19, 20, 21, 22, 23, 24, 25, 26, 27, 28, 29, 30, 31, 32, 33, 34, 35, 36, 37, 38, 39, 40, 41, 42, 43, 44, 45, 46, 47, 48, 49, 50, 51, 52, 53, 54, 55, 56, 57, 58, 59, 60, 61, 62, 63, 64, 65, 66] (by decide +kernel) (by decide +kernel)) (goodIn_sub (fun _ h => List.mem_cons_of_mem _ (List.mem_append_left _ (List.mem_append_right _ h))) (by decide +kernel))) (goodIn_sub (fun _ h => List.mem_cons_of_mem _ (List.mem_append_right _ h)) (by decide +kernel))
set_option maxRecDepth 20000 in
theorem gL_made_X4_made : GoodIn wsL_made (wsV RL 68 RX4 yX4_made wsX4_made) := goodIn_app (goodIn_of _ (by decide +kernel)) ggL_made_X4_made
theorem dL_made_0 : decode cL_made 0 = .ok (.aload_n 2, 1) := by decide +kernel
theorem dL_made_1 : decode cL_made 1 = .ok (.iconst 0, 1) := by decide +kernel
theorem dL_made_2 : decode cL_made 2 = .ok (.aload_n 0, 1) := by decide +kernel
theorem dL_made_3 : decode cL_made 3 = .ok (.iload_n 1, 1) := by decide +kernel
theorem dL_made_4 : decode cL_made 4 = .ok (.invokevirtual 68, 3) := by decide +kernel
theorem dL_made_7 : decode cL_made 7 = .ok (.i2l, 1) := by decide +kernel
theorem dL_made_8 : decode cL_made 8 = .ok (.lastore, 1) := by decide +kernel
theorem dL_made_9 : decode cL_made 9 = .ok (.goto 9, 3) := by decide +kernel
theorem dL_made_12 : decode cL_made 12 = .ok (.astore_n 3, 1) := by decide +kernel
theorem dL_made_13 : decode cL_made 13 = .ok (.iconst 1, 1) := by decide +kernel
theorem dL_made_14 : decode cL_made 14 = .ok (.ireturn, 1) := by decide +kernel
theorem dL_made_15 : decode cL_made 15 = .ok (.astore_n 3, 1) := by decide +kernel
theorem dL_made_16 : decode cL_made 16 = .ok (.iconst 2, 1) := by decide +kernel
theorem dL_made_17 : decode cL_made 17 = .ok (.ireturn, 1) := by decide +kernel
theorem dL_made_18 : decode cL_made 18 = .ok (.iconst 0, 1) := by decide +kernel
theorem dL_made_19 : decode cL_made 19 = .ok (.ireturn, 1) := by decide +kernel
set_option maxRecDepth 20000 in
theorem ggL_ratio_X4_ratio : GoodIn wsL_ratio wsX4_ratio := goodIn_ca (goodIn_r _ [6, 7, 8, 9, 10, 11, 5, 12, 13, 14, 15, 16, 17, 18, 19, 20, 21, 22, 23, 24, 25, 26, 27, 28, 29, 30, 31, 32, 33, 34, 35, 36, 37, 38, 39, 40, 41, 42, 43, 44, 45, 46] (by decide +kernel) (by decide +kernel)) (goodIn_sub (fun _ h => List.mem_cons_of_mem _ (List.mem_append_right _ h)) (by decide +kernel))
set_option maxRecDepth 20000 in
theorem gL_ratio_X4_ratio : GoodIn wsL_ratio (wsV RL 71 RX4 yX4_ratio wsX4_ratio) := goodIn_app (goodIn_of _ (by decide +kernel)) ggL_ratio_X4_ratio
theorem dL_ratio_0 : decode cL_ratio 0 = .ok (.aload_n 1, 1) := by decide +kernel
theorem dL_ratio_1 : decode cL_ratio 1 = .ok (.iconst 0, 1) := by decide +kernel
theorem dL_ratio_2 : decode cL_ratio 2 = .ok (.aload_n 0, 1) := by decide +kernel
theorem dL_ratio_3 : decode cL_ratio 3 = .ok (.invokevirtual 71, 3) := by decide +kernel
theorem dL_ratio_6 : decode cL_ratio 6 = .ok (.dastore, 1) := by decide +kernel
theorem dL_ratio_7 : decode cL_ratio 7 = .ok (.goto 6, 3) := by decide +kernel
theorem dL_ratio_10 : decode cL_ratio 10 = .ok (.astore_n 2, 1) := by decide +kernel
theorem dL_ratio_11 : decode cL_ratio 11 = .ok (.iconst 1, 1) := by decide +kernel
theorem dL_ratio_12 : decode cL_ratio 12 = .ok (.ireturn, 1) := by decide +kernel
theorem dL_ratio_13 : decode cL_ratio 13 = .ok (.iconst 0, 1) := by decide +kernel
theorem dL_ratio_14 : decode cL_ratio 14 = .ok (.ireturn, 1) := by decide +kernel
set_option maxRecDepth 20000 in
theorem ggL_encode_X4_encode : GoodIn wsL_encode wsX4_encode := goodIn_ca (goodIn_r _ [6, 7, 8, 9, 10, 11, 12, 5, 13, 14, 15, 16, 17, 18, 19, 20, 21, 22, 23, 24, 25, 26, 27, 28, 29, 30, 31, 32, 33, 34, 35, 36, 37, 38, 39, 40, 41, 42, 43, 44, 45, 46, 47, 48, 49, 50, 51, 52, 53, 54, 55, 56, 57, 58, 59, 60, 61, 62, 63, 64, 65, 66, 67, 68, 69, 70, 71, 72, 73, 74, 75, 76, 77, 78, 79, 80, 81, 82, 83, 84, 85, 86, 87, 88, 89, 90, 91, 92, 93, 94, 95, 96, 97, 98, 99, 100, 101, 102, 103, 104] (by decide +kernel) (by decide +kernel)) (goodIn_sub (fun _ h => List.mem_cons_of_mem _ (List.mem_append_right _ h)) (by decide +kernel))
set_option maxRecDepth 20000 in
theorem gL_encode_X4_encode : GoodIn wsL_encode (wsV RL 75 RX4 yX4_encode wsX4_encode) := goodIn_app (goodIn_of _ (by decide +kernel)) ggL_encode_X4_encode
theorem dL_encode_0 : decode cL_encode 0 = .ok (.aload_n 1, 1) := by decide +kernel
theorem dL_encode_1 : decode cL_encode 1 = .ok (.iconst 0, 1) := by decide +kernel
theorem dL_encode_2 : decode cL_encode 2 = .ok (.aload_n 0, 1) := by decide +kernel
theorem dL_encode_3 : decode cL_encode 3 = .ok (.invokevirtual 75, 3) := by decide +kernel
theorem dL_encode_6 : decode cL_encode 6 = .ok (.i2l, 1) := by decide +kernel
theorem dL_encode_7 : decode cL_encode 7 = .ok (.lastore, 1) := by decide +kernel
theorem dL_encode_8 : decode cL_encode 8 = .ok (.goto 6, 3) := by decide +kernel
theorem dL_encode_11 : decode cL_encode 11 = .ok (.astore_n 2, 1) := by decide +kernel
theorem dL_encode_12 : decode cL_encode 12 = .ok (.iconst 1, 1) := by decide +kernel
theorem dL_encode_13 : decode cL_encode 13 = .ok (.ireturn, 1) := by decide +kernel
theorem dL_encode_14 : decode cL_encode 14 = .ok (.iconst 0, 1) := by decide +kernel
theorem dL_encode_15 : decode cL_encode 15 = .ok (.ireturn, 1) := by decide +kernel
set_option maxRecDepth 20000 in
theorem ggL_code_X4_code : GoodIn wsL_code wsX4_code := goodIn_ca (goodIn_r _ [6, 7, 8, 9, 5, 10, 11, 12, 13, 14, 15, 16, 17, 18, 19, 20, 21, 22, 23, 24, 25, 26, 27, 28, 29, 30, 31, 32, 33] (by decide +kernel) (by decide +kernel)) (goodIn_sub (fun _ h => List.mem_cons_of_mem _ (List.mem_append_right _ h)) (by decide +kernel))
set_option maxRecDepth 20000 in
theorem gL_code_X4_code : GoodIn wsL_code (wsV RL 78 RX4 yX4_code wsX4_code) := goodIn_app (goodIn_of _ (by decide +kernel)) ggL_code_X4_code
theorem dL_code_0 : decode cL_code 0 = .ok (.aload_n 2, 1) := by decide +kernel
theorem dL_code_1 : decode cL_code 1 = .ok (.iconst 0, 1) := by decide +kernel
theorem dL_code_2 : decode cL_code 2 = .ok (.aload_n 0, 1) := by decide +kernel
theorem dL_code_3 : decode cL_code 3 = .ok (.iload_n 1, 1) := by decide +kernel
theorem dL_code_4 : decode cL_code 4 = .ok (.invokevirtual 78, 3) := by decide +kernel
theorem dL_code_7 : decode cL_code 7 = .ok (.i2l, 1) := by decide +kernel
theorem dL_code_8 : decode cL_code 8 = .ok (.lastore, 1) := by decide +kernel
theorem dL_code_9 : decode cL_code 9 = .ok (.goto 6, 3) := by decide +kernel
theorem dL_code_12 : decode cL_code 12 = .ok (.astore_n 3, 1) := by decide +kernel
theorem dL_code_13 : decode cL_code 13 = .ok (.iconst 1, 1) := by decide +kernel
theorem dL_code_14 : decode cL_code 14 = .ok (.ireturn, 1) := by decide +kernel
theorem dL_code_15 : decode cL_code 15 = .ok (.iconst 0, 1) := by decide +kernel
theorem dL_code_16 : decode cL_code 16 = .ok (.ireturn, 1) := by decide +kernel
set_option maxRecDepth 20000 in
theorem ggL_setCode_X4_setCode : GoodIn wsL_setCode wsX4_setCode := goodIn_ca (goodIn_ca (goodIn_r _ [7, 8, 9, 10, 6, 11, 12, 13, 14, 15, 16, 17, 18, 19, 20, 21, 22, 23, 24, 25, 26, 27, 28, 29, 30, 31, 32, 33, 34, 35, 36, 37, 38, 39, 40, 41, 42, 43] (by decide +kernel) (by decide +kernel)) (goodIn_sub (fun _ h => List.mem_cons_of_mem _ (List.mem_append_left _ (List.mem_append_right _ h))) (by decide +kernel))) (goodIn_sub (fun _ h => List.mem_cons_of_mem _ (List.mem_append_right _ h)) (by decide +kernel))
set_option maxRecDepth 20000 in
theorem gL_setCode_X4_setCode : GoodIn wsL_setCode (wsV RL 81 RX4 yX4_setCode wsX4_setCode) := goodIn_app (goodIn_of _ (by decide +kernel)) ggL_setCode_X4_setCode
theorem dL_setCode_0 : decode cL_setCode 0 = .ok (.aload_n 3, 1) := by decide +kernel
theorem dL_setCode_1 : decode cL_setCode 1 = .ok (.iconst 0, 1) := by decide +kernel
theorem dL_setCode_2 : decode cL_setCode 2 = .ok (.aload_n 0, 1) := by decide +kernel
theorem dL_setCode_3 : decode cL_setCode 3 = .ok (.iload_n 1, 1) := by decide +kernel
theorem dL_setCode_4 : decode cL_setCode 4 = .ok (.iload_n 2, 1) := by decide +kernel
theorem dL_setCode_5 : decode cL_setCode 5 = .ok (.invokevirtual 81, 3) := by decide +kernel
theorem dL_setCode_8 : decode cL_setCode 8 = .ok (.i2l, 1) := by decide +kernel
theorem dL_setCode_9 : decode cL_setCode 9 = .ok (.lastore, 1) := by decide +kernel
theorem dL_setCode_10 : decode cL_setCode 10 = .ok (.goto 11, 3) := by decide +kernel
theorem dL_setCode_13 : decode cL_setCode 13 = .ok (.astore 4, 2) := by decide +kernel
theorem dL_setCode_15 : decode cL_setCode 15 = .ok (.iconst 1, 1) := by decide +kernel
theorem dL_setCode_16 : decode cL_setCode 16 = .ok (.ireturn, 1) := by decide +kernel
theorem dL_setCode_17 : decode cL_setCode 17 = .ok (.astore 4, 2) := by decide +kernel
theorem dL_setCode_19 : decode cL_setCode 19 = .ok (.iconst 2, 1) := by decide +kernel
theorem dL_setCode_20 : decode cL_setCode 20 = .ok (.ireturn, 1) := by decide +kernel
theorem dL_setCode_21 : decode cL_setCode 21 = .ok (.iconst 0, 1) := by decide +kernel
theorem dL_setCode_22 : decode cL_setCode 22 = .ok (.ireturn, 1) := by decide +kernel
set_option maxRecDepth 20000 in
theorem ggL_cutCode_X4_cutCode : GoodIn wsL_cutCode wsX4_cutCode := goodIn_ca (goodIn_r _ [6, 7, 8, 9, 10, 11, 12, 13, 14, 15, 5, 16, 17, 18, 19, 20, 21, 22, 23, 24, 25, 26, 27, 28, 29, 30, 31] (by decide +kernel) (by decide +kernel)) (goodIn_sub (fun _ h => List.mem_cons_of_mem _ (List.mem_append_right _ h)) (by decide +kernel))
set_option maxRecDepth 20000 in
theorem gL_cutCode_X4_cutCode : GoodIn wsL_cutCode (wsV RL 84 RX4 yX4_cutCode wsX4_cutCode) := goodIn_app (goodIn_of _ (by decide +kernel)) ggL_cutCode_X4_cutCode
theorem dL_cutCode_0 : decode cL_cutCode 0 = .ok (.aload_n 2, 1) := by decide +kernel
theorem dL_cutCode_1 : decode cL_cutCode 1 = .ok (.iconst 0, 1) := by decide +kernel
theorem dL_cutCode_2 : decode cL_cutCode 2 = .ok (.aload_n 0, 1) := by decide +kernel
theorem dL_cutCode_3 : decode cL_cutCode 3 = .ok (.iload_n 1, 1) := by decide +kernel
theorem dL_cutCode_4 : decode cL_cutCode 4 = .ok (.invokevirtual 84, 3) := by decide +kernel
theorem dL_cutCode_7 : decode cL_cutCode 7 = .ok (.i2l, 1) := by decide +kernel
theorem dL_cutCode_8 : decode cL_cutCode 8 = .ok (.lastore, 1) := by decide +kernel
theorem dL_cutCode_9 : decode cL_cutCode 9 = .ok (.goto 6, 3) := by decide +kernel
theorem dL_cutCode_12 : decode cL_cutCode 12 = .ok (.astore_n 3, 1) := by decide +kernel
theorem dL_cutCode_13 : decode cL_cutCode 13 = .ok (.iconst 1, 1) := by decide +kernel
theorem dL_cutCode_14 : decode cL_cutCode 14 = .ok (.ireturn, 1) := by decide +kernel
theorem dL_cutCode_15 : decode cL_cutCode 15 = .ok (.iconst 0, 1) := by decide +kernel
theorem dL_cutCode_16 : decode cL_cutCode 16 = .ok (.ireturn, 1) := by decide +kernel
set_option maxRecDepth 20000 in
theorem ggL_appendCode_X4_appendCode : GoodIn wsL_appendCode wsX4_appendCode := goodIn_ca (goodIn_ca (goodIn_r _ [7, 8, 9, 10, 6, 11, 12, 13, 14, 15, 16, 17, 18, 19, 20, 21, 22, 23, 24, 25, 26, 27, 28, 29, 30, 31, 32, 33, 34, 35, 36, 37, 38, 39, 40, 41, 42] (by decide +kernel) (by decide +kernel)) (goodIn_sub (fun _ h => List.mem_cons_of_mem _ (List.mem_append_left _ (List.mem_append_right _ h))) (by decide +kernel))) (goodIn_sub (fun _ h => List.mem_cons_of_mem _ (List.mem_append_right _ h)) (by decide +kernel))
set_option maxRecDepth 20000 in
theorem gL_appendCode_X4_appendCode : GoodIn wsL_appendCode (wsV RL 87 RX4 yX4_appendCode wsX4_appendCode) := goodIn_app (goodIn_of _ (by decide +kernel)) ggL_appendCode_X4_appendCode
theorem dL_appendCode_0 : decode cL_appendCode 0 = .ok (.aload_n 2, 1) := by decide +kernel
theorem dL_appendCode_1 : decode cL_appendCode 1 = .ok (.iconst 0, 1) := by decide +kernel
theorem dL_appendCode_2 : decode cL_appendCode 2 = .ok (.aload_n 0, 1) := by decide +kernel
theorem dL_appendCode_3 : decode cL_appendCode 3 = .ok (.iload_n 1, 1) := by decide +kernel
theorem dL_appendCode_4 : decode cL_appendCode 4 = .ok (.invokevirtual 87, 3) := by decide +kernel
theorem dL_appendCode_7 : decode cL_appendCode 7 = .ok (.i2l, 1) := by decide +kernel
theorem dL_appendCode_8 : decode cL_appendCode 8 = .ok (.lastore, 1) := by decide +kernel
theorem dL_appendCode_9 : decode cL_appendCode 9 = .ok (.goto 9, 3) := by decide +kernel
theorem dL_appendCode_12 : decode cL_appendCode 12 = .ok (.astore_n 3, 1) := by decide +kernel
theorem dL_appendCode_13 : decode cL_appendCode 13 = .ok (.iconst 1, 1) := by decide +kernel
theorem dL_appendCode_14 : decode cL_appendCode 14 = .ok (.ireturn, 1) := by decide +kernel
theorem dL_appendCode_15 : decode cL_appendCode 15 = .ok (.astore_n 3, 1) := by decide +kernel
theorem dL_appendCode_16 : decode cL_appendCode 16 = .ok (.iconst 2, 1) := by decide +kernel
theorem dL_appendCode_17 : decode cL_appendCode 17 = .ok (.ireturn, 1) := by decide +kernel
theorem dL_appendCode_18 : decode cL_appendCode 18 = .ok (.iconst 0, 1) := by decide +kernel
theorem dL_appendCode_19 : decode cL_appendCode 19 = .ok (.ireturn, 1) := by decide +kernel
set_option maxRecDepth 20000 in
theorem ggL_output_X4_output : GoodIn wsL_output wsX4_output := goodIn_ca (goodIn_r _ [6, 7, 8, 9, 10, 11, 12, 13, 14, 15, 5, 16, 17, 18, 19, 20, 21, 22, 23, 24, 25, 26, 27, 28, 29, 30, 31, 32, 33, 34, 35, 36, 37, 38, 39, 40, 41, 42, 43, 44, 45, 46, 47] (by decide +kernel) (by decide +kernel)) (goodIn_sub (fun _ h => List.mem_cons_of_mem _ (List.mem_append_right _ h)) (by decide +kernel))
set_option maxRecDepth 20000 in
theorem gL_output_X4_output : GoodIn wsL_output (wsV RL 90 RX4 yX4_output wsX4_output) := goodIn_app (goodIn_of _ (by decide +kernel)) ggL_output_X4_output
theorem dL_output_0 : decode cL_output 0 = .ok (.aload_n 2, 1) := by decide +kernel
theorem dL_output_1 : decode cL_output 1 = .ok (.iconst 0, 1) := by decide +kernel
theorem dL_output_2 : decode cL_output 2 = .ok (.aload_n 0, 1) := by decide +kernel
theorem dL_output_3 : decode cL_output 3 = .ok (.iload_n 1, 1) := by decide +kernel
theorem dL_output_4 : decode cL_output 4 = .ok (.invokevirtual 90, 3) := by decide +kernel
theorem dL_output_7 : decode cL_output 7 = .ok (.i2l, 1) := by decide +kernel
theorem dL_output_8 : decode cL_output 8 = .ok (.lastore, 1) := by decide +kernel
theorem dL_output_9 : decode cL_output 9 = .ok (.goto 6, 3) := by decide +kernel
theorem dL_output_12 : decode cL_output 12 = .ok (.astore_n 3, 1) := by decide +kernel
theorem dL_output_13 : decode cL_output 13 = .ok (.iconst 1, 1) := by decide +kernel
theorem dL_output_14 : decode cL_output 14 = .ok (.ireturn, 1) := by decide +kernel
theorem dL_output_15 : decode cL_output 15 = .ok (.iconst 0, 1) := by decide +kernel
theorem dL_output_16 : decode cL_output 16 = .ok (.ireturn, 1) := by decide +kernel
set_option maxRecDepth 20000 in
theorem ggL_law_X4_init : GoodIn wsL_law wsX4_init := goodIn_r _ [11, 12, 13, 14, 15, 16, 17, 18, 19, 20, 21, 22, 23, 24, 25, 26, 27, 28, 29, 30, 31, 32, 33, 34, 35, 36, 37, 38, 39, 40, 41, 42, 43, 44, 45, 46, 47, 48, 49, 50, 51, 52, 53, 54, 55, 56, 57, 58, 59, 60, 61, 62, 63, 64, 65, 66, 67, 68, 69, 70, 71, 72, 73, 74, 75, 76, 77, 78, 79, 80, 81, 82, 840, 841, 808, 809, 810, 811, 812, 813, 814, 842, 843, 844, 845, 846, 847, 848, 849, 850, 851, 852, 853, 854, 855, 856, 857, 858, 859, 860, 861, 862, 863] (by decide +kernel) (by decide +kernel)
set_option maxRecDepth 20000 in
theorem gL_law_X4_init : GoodIn wsL_law (wsX4_init) := ggL_law_X4_init
set_option maxRecDepth 20000 in
theorem ggL_law_X5_init : GoodIn wsL_law wsX5_init := goodIn_r _ [85, 86, 13, 14, 42, 87, 88, 89, 90, 91, 92, 93, 94, 95, 96, 97, 98, 99, 100, 101, 815, 816, 817, 818, 819, 820, 821, 822, 823, 824, 825, 826, 827, 828, 829, 830, 831, 832, 833, 834, 835, 836, 837, 838, 839] (by decide +kernel) (by decide +kernel)
set_option maxRecDepth 20000 in
theorem gL_law_X5_init : GoodIn wsL_law (wsX5_init) := ggL_law_X5_init
set_option maxRecDepth 20000 in
theorem ggL_law_L_feed : GoodIn wsL_law wsL_feed := goodIn_ca (goodIn_ca (goodIn_ca (goodIn_r _ [105, 106, 107, 108, 109, 110, 111, 2, 112, 24, 113, 114, 115, 116, 117, 118, 119, 120, 121, 122, 123, 124, 125, 126, 18, 19, 127, 128, 129, 130, 131, 132, 133, 134, 17, 135, 43, 44, 136, 137, 138, 139, 140, 141, 142, 23, 143, 55, 144, 145, 146, 147, 808, 809, 810, 811, 812, 813, 814, 840, 841, 842, 843, 844, 845, 846, 847] (by decide +kernel) (by decide +kernel)) (goodIn_sub (fun _ h => List.mem_append_left _ (List.mem_append_left _ (List.mem_append_right _ h))) (by decide +kernel))) (goodIn_sub (fun _ h => List.mem_append_left _ (List.mem_append_right _ h)) (by decide +kernel))) (goodIn_sub (fun _ h => List.mem_append_right _ h) (by decide +kernel))
set_option maxRecDepth 20000 in
theorem gL_law_L_feed : GoodIn wsL_law (va_wsS RL 99 yL_feed wsL_feed) := goodIn_app (goodIn_of _ (by decide +kernel)) ggL_law_L_feed
set_option maxRecDepth 20000 in
theorem ggL_law_X5_feed : GoodIn wsL_law wsX5_feed := goodIn_r _ [151, 152, 153, 154, 155, 5, 156, 157, 158, 159, 160, 161, 162, 163, 164, 165, 166, 167, 168, 169, 170, 171, 172, 173, 87, 88, 174, 175, 176, 177, 178, 815, 816, 817, 818, 819, 820, 821, 822, 823, 824, 825, 826, 827, 828, 829, 830, 831, 832, 833, 834, 835, 836, 837, 838, 839] (by decide +kernel) (by decide +kernel)
set_option maxRecDepth 20000 in
theorem gL_law_X5_feed : GoodIn wsL_law (wsV RL 104 RX5 yX5_feed wsX5_feed) := goodIn_app (goodIn_of _ (by decide +kernel)) ggL_law_X5_feed
set_option maxRecDepth 20000 in
theorem ggL_law_X5_thrown : GoodIn wsL_law wsX5_thrown := goodIn_r _ [182, 152, 815, 816, 817, 818, 819, 820, 821, 822, 823, 824, 825, 826, 827, 828, 829, 830, 831, 832, 833, 834, 835, 836, 837, 838, 839] (by decide +kernel) (by decide +kernel)
set_option maxRecDepth 20000 in
theorem gL_law_X5_thrown : GoodIn wsL_law (wsV RL 105 RX5 yX5_thrown wsX5_thrown) := goodIn_app (goodIn_of _ (by decide +kernel)) ggL_law_X5_thrown
set_option maxRecDepth 20000 in
theorem ggL_law_L_fill : GoodIn wsL_law wsL_fill := goodIn_ca (goodIn_ca (goodIn_ca (goodIn_r _ [185, 106, 107, 108, 186, 187, 188, 2, 189, 24, 113, 114, 115, 116, 117, 118, 119, 120, 121, 122, 123, 124, 125, 126, 18, 19, 127, 128, 129, 130, 131, 132, 133, 134, 17, 135, 43, 44, 136, 137, 138, 139, 140, 141, 142, 23, 143, 55, 144, 145, 146, 147, 808, 809, 810, 811, 812, 813, 814, 840, 841, 842, 843, 844, 845, 846, 847] (by decide +kernel) (by decide +kernel)) (goodIn_sub (fun _ h => List.mem_append_left _ (List.mem_append_left _ (List.mem_append_right _ h))) (by decide +kernel))) (goodIn_sub (fun _ h => List.mem_append_left _ (List.mem_append_right _ h)) (by decide +kernel))) (goodIn_sub (fun _ h => List.mem_append_right _ h) (by decide +kernel))
set_option maxRecDepth 20000 in
theorem gL_law_L_fill : GoodIn wsL_law (va_wsS RL 108 yL_fill wsL_fill) := goodIn_app (goodIn_of _ (by decide +kernel)) ggL_law_L_fill
set_option maxRecDepth 20000 in
theorem ggL_law_X5_fill : GoodIn wsL_law wsX5_fill := goodIn_r _ [193, 152, 154, 155, 5, 156, 157, 158, 159, 160, 161, 162, 163, 164, 165, 166, 167, 168, 169, 170, 171, 172, 173, 87, 88, 174, 175, 176, 177, 178, 815, 816, 817, 818, 819, 820, 821, 822, 823, 824, 825, 826, 827, 828, 829, 830, 831, 832, 833, 834, 835, 836, 837, 838, 839] (by decide +kernel) (by decide +kernel)
set_option maxRecDepth 20000 in
theorem gL_law_X5_fill : GoodIn wsL_law (wsV RL 111 RX5 yX5_fill wsX5_fill) := goodIn_app (goodIn_of _ (by decide +kernel)) ggL_law_X5_fill
set_option maxRecDepth 20000 in
theorem ggL_law_L_cut : GoodIn wsL_law wsL_cut := goodIn_ca (goodIn_ca (goodIn_r _ [196, 106, 107, 197, 198, 199, 2, 200, 24, 113, 114, 115, 116, 117, 123, 124, 125, 126, 18, 19, 144, 145, 146, 17, 147, 44, 118, 119, 120, 121, 122, 201, 202, 203, 204, 140, 141, 142, 23, 143, 55, 808, 809, 810, 811, 812, 813, 814, 840, 841, 842, 843, 844, 845, 846, 847] (by decide +kernel) (by decide +kernel)) (goodIn_sub (fun _ h => List.mem_append_left _ (List.mem_append_left _ (List.mem_append_right _ h))) (by decide +kernel))) (goodIn_sub (fun _ h => List.mem_append_left _ (List.mem_append_right _ h)) (by decide +kernel))
set_option maxRecDepth 20000 in
theorem gL_law_L_cut : GoodIn wsL_law (va_wsS RL 112 yL_cut wsL_cut) := goodIn_app (goodIn_of _ (by decide +kernel)) ggL_law_L_cut
set_option maxRecDepth 20000 in
theorem ggL_law_X5_cut : GoodIn wsL_law wsX5_cut := goodIn_r _ [208, 152, 154, 155, 5, 156, 157, 158, 159, 160, 164, 165, 166, 167, 168, 169, 161, 162, 163, 174, 175, 176, 177, 178, 815, 816, 817, 818, 819, 820, 821, 822, 823, 824, 825, 826, 827, 828, 829, 830, 831, 832, 833, 834, 835, 836, 837, 838, 839] (by decide +kernel) (by decide +kernel)
set_option maxRecDepth 20000 in
theorem gL_law_X5_cut : GoodIn wsL_law (wsV RL 115 RX5 yX5_cut wsX5_cut) := goodIn_app (goodIn_of _ (by decide +kernel)) ggL_law_X5_cut
set_option maxRecDepth 20000 in
theorem ggL_law_L_set : GoodIn wsL_law wsL_set := goodIn_ca (goodIn_ca (goodIn_r _ [211, 106, 107, 212, 213, 214, 2, 215, 24, 113, 114, 115, 116, 117, 123, 124, 125, 126, 18, 19, 216, 217, 218, 219, 220, 221, 17, 222, 44, 43, 118, 119, 120, 121, 122, 223, 224, 225, 226, 227, 228, 229, 230, 231, 140, 141, 142, 23, 143, 55, 808, 809, 810, 811, 812, 813, 814, 840, 841, 842, 843, 844, 845, 846, 847] (by decide +kernel) (by decide +kernel)) (goodIn_sub (fun _ h => List.mem_append_left _ (List.mem_append_left _ (List.mem_append_right _ h))) (by decide +kernel))) (goodIn_sub (fun _ h => List.mem_append_left _ (List.mem_append_right _ h)) (by decide +kernel))
set_option maxRecDepth 20000 in
theorem gL_law_L_set : GoodIn wsL_law (va_wsS RL 116 yL_set wsL_set) := goodIn_app (goodIn_of _ (by decide +kernel)) ggL_law_L_set
set_option maxRecDepth 20000 in
theorem ggL_law_X5_set : GoodIn wsL_law wsX5_set := goodIn_r _ [235, 152, 178, 154, 155, 5, 156, 164, 165, 166, 167, 168, 169, 157, 158, 159, 160, 161, 162, 163, 170, 171, 172, 173, 87, 88, 815, 816, 817, 818, 819, 820, 821, 822, 823, 824, 825, 826, 827, 828, 829, 830, 831, 832, 833, 834, 835, 836, 837, 838, 839] (by decide +kernel) (by decide +kernel)
set_option maxRecDepth 20000 in
theorem gL_law_X5_set : GoodIn wsL_law (wsV RL 118 RX5 yX5_set wsX5_set) := goodIn_app (goodIn_of _ (by decide +kernel)) ggL_law_X5_set
set_option maxRecDepth 20000 in
theorem ggL_law_L_size : GoodIn wsL_law wsL_size := goodIn_ca (goodIn_r _ [238, 106, 239, 240, 241, 2, 242, 113, 114, 115, 116, 117, 123, 124, 125, 126, 18, 19, 144, 145, 146, 17, 147, 44, 808, 809, 810, 811, 812, 813, 814, 840, 841] (by decide +kernel) (by decide +kernel)) (goodIn_sub (fun _ h => List.mem_append_left _ (List.mem_append_left _ (List.mem_append_right _ h))) (by decide +kernel))
set_option maxRecDepth 20000 in
theorem gL_law_L_size : GoodIn wsL_law (va_wsS RL 119 yL_size wsL_size) := goodIn_app (goodIn_of _ (by decide +kernel)) ggL_law_L_size
set_option maxRecDepth 20000 in
theorem ggL_law_X5_size : GoodIn wsL_law wsX5_size := goodIn_r _ [246, 152, 154, 155, 5, 156, 164, 165, 166, 167, 168, 169, 157, 158, 159, 160, 815, 816, 817, 818, 819, 820, 821, 822, 823, 824, 825, 826, 827, 828, 829, 830, 831, 832, 833, 834, 835, 836, 837, 838, 839] (by decide +kernel) (by decide +kernel)
set_option maxRecDepth 20000 in
theorem gL_law_X5_size : GoodIn wsL_law (wsV RL 122 RX5 yX5_size wsX5_size) := goodIn_app (goodIn_of _ (by decide +kernel)) ggL_law_X5_size
set_option maxRecDepth 20000 in
theorem ggL_law_L_byteAt : GoodIn wsL_law wsL_byteAt := goodIn_ca (goodIn_r _ [249, 106, 250, 251, 252, 2, 253, 113, 114, 115, 116, 117, 123, 124, 125, 126, 18, 19, 216, 217, 218, 219, 220, 221, 17, 222, 44, 43, 223, 224, 225, 226, 227, 808, 809, 810, 811, 812, 813, 814, 840, 841] (by decide +kernel) (by decide +kernel)) (goodIn_sub (fun _ h => List.mem_append_left _ (List.mem_append_left _ (List.mem_append_right _ h))) (by decide +kernel))
set_option maxRecDepth 20000 in
theorem gL_law_L_byteAt : GoodIn wsL_law (va_wsS RL 123 yL_byteAt wsL_byteAt) := goodIn_app (goodIn_of _ (by decide +kernel)) ggL_law_L_byteAt
set_option maxRecDepth 20000 in
theorem ggL_law_X5_byteAt : GoodIn wsL_law wsX5_byteAt := goodIn_r _ [257, 152, 154, 155, 5, 156, 164, 165, 166, 167, 168, 169, 170, 171, 172, 173, 87, 88, 157, 158, 159, 160, 815, 816, 817, 818, 819, 820, 821, 822, 823, 824, 825, 826, 827, 828, 829, 830, 831, 832, 833, 834, 835, 836, 837, 838, 839] (by decide +kernel) (by decide +kernel)
set_option maxRecDepth 20000 in
theorem gL_law_X5_byteAt : GoodIn wsL_law (wsV RL 125 RX5 yX5_byteAt wsX5_byteAt) := goodIn_app (goodIn_of _ (by decide +kernel)) ggL_law_X5_byteAt
set_option maxRecDepth 20000 in
theorem ggL_law_X4_turn : GoodIn wsL_law wsX4_turn := goodIn_r _ [261, 24, 19, 262, 263, 264, 2, 265, 18, 140, 141, 142, 23, 143, 55, 144, 145, 146, 17, 147, 44, 808, 809, 810, 811, 812, 813, 814, 842, 843, 844, 845, 846, 847, 840, 841] (by decide +kernel) (by decide +kernel)
set_option maxRecDepth 20000 in
theorem gL_law_X4_turn : GoodIn wsL_law (wsV RL 126 RX4 yX4_turn wsX4_turn) := goodIn_app (goodIn_of _ (by decide +kernel)) ggL_law_X4_turn
set_option maxRecDepth 20000 in
theorem ggL_law_X5_turn : GoodIn wsL_law wsX5_turn := goodIn_r _ [269, 152, 87, 88, 168, 169, 178, 815, 816, 817, 818, 819, 820, 821, 822, 823, 824, 825, 826, 827, 828, 829, 830, 831, 832, 833, 834, 835, 836, 837, 838, 839] (by decide +kernel) (by decide +kernel)
set_option maxRecDepth 20000 in
theorem gL_law_X5_turn : GoodIn wsL_law (wsV RL 129 RX5 yX5_turn wsX5_turn) := goodIn_app (goodIn_of _ (by decide +kernel)) ggL_law_X5_turn
set_option maxRecDepth 20000 in
theorem ggL_law_X4_advance : GoodIn wsL_law wsX4_advance := goodIn_r _ [273, 19, 24, 18, 262, 263, 264, 2, 265, 274, 275, 276, 17, 277, 44, 140, 141, 142, 23, 143, 55, 144, 145, 146, 147, 808, 809, 810, 811, 812, 813, 814, 840, 841, 842, 843, 844, 845, 846, 847] (by decide +kernel) (by decide +kernel)
set_option maxRecDepth 20000 in
theorem gL_law_X4_advance : GoodIn wsL_law (wsV RL 130 RX4 yX4_advance wsX4_advance) := goodIn_app (goodIn_of _ (by decide +kernel)) ggL_law_X4_advance
set_option maxRecDepth 20000 in
theorem ggL_law_X5_advance : GoodIn wsL_law wsX5_advance := goodIn_r _ [281, 152, 87, 88, 169, 168, 178, 815, 816, 817, 818, 819, 820, 821, 822, 823, 824, 825, 826, 827, 828, 829, 830, 831, 832, 833, 834, 835, 836, 837, 838, 839] (by decide +kernel) (by decide +kernel)
set_option maxRecDepth 20000 in
theorem gL_law_X5_advance : GoodIn wsL_law (wsV RL 133 RX5 yX5_advance wsX5_advance) := goodIn_app (goodIn_of _ (by decide +kernel)) ggL_law_X5_advance
set_option maxRecDepth 20000 in
theorem ggL_law_L_check : GoodIn wsL_law wsL_check := goodIn_ca (goodIn_r _ [284, 106, 285, 286, 287, 2, 288, 116, 117, 113, 114, 115, 123, 124, 125, 126, 18, 19, 144, 145, 146, 17, 147, 44, 289, 290, 291, 223, 224, 225, 226, 43, 227, 220, 221, 222, 808, 809, 810, 811, 812, 813, 814, 840, 841] (by decide +kernel) (by decide +kernel)) (goodIn_sub (fun _ h => List.mem_append_left _ (List.mem_append_left _ (List.mem_append_right _ h))) (by decide +kernel))
set_option maxRecDepth 20000 in
theorem gL_law_L_check : GoodIn wsL_law (va_wsS RL 134 yL_check wsL_check) := goodIn_app (goodIn_of _ (by decide +kernel)) ggL_law_L_check
set_option maxRecDepth 20000 in
theorem ggL_law_X5_check : GoodIn wsL_law wsX5_check := goodIn_r _ [295, 152, 154, 155, 5, 156, 164, 165, 166, 167, 168, 169, 157, 158, 159, 160, 170, 171, 172, 173, 87, 88, 296, 297, 298, 815, 816, 817, 818, 819, 820, 821, 822, 823, 824, 825, 826, 827, 828, 829, 830, 831, 832, 833, 834, 835, 836, 837, 838, 839] (by decide +kernel) (by decide +kernel)
set_option maxRecDepth 20000 in
theorem gL_law_X5_check : GoodIn wsL_law (wsV RL 136 RX5 yX5_check wsX5_check) := goodIn_app (goodIn_of _ (by decide +kernel)) ggL_law_X5_check
set_option maxRecDepth 20000 in
theorem ggL_law_L_match : GoodIn wsL_law wsL_match := goodIn_ca (goodIn_r _ [301, 106, 302, 303, 304, 2, 305, 19, 216, 217, 218, 116, 117, 219, 220, 221, 17, 222, 44, 43, 113, 114, 115, 306, 307, 308, 309, 18, 144, 145, 146, 147, 123, 124, 125, 126, 310, 311, 312, 313, 314, 315, 40, 316, 223, 224, 225, 226, 227, 808, 809, 810, 811, 812, 813, 814, 840, 841] (by decide +kernel) (by decide +kernel)) (goodIn_sub (fun _ h => List.mem_append_left _ (List.mem_append_left _ (List.mem_append_right _ h))) (by decide +kernel))
set_option maxRecDepth 20000 in
theorem gL_law_L_match : GoodIn wsL_law (va_wsS RL 137 yL_match wsL_match) := goodIn_app (goodIn_of _ (by decide +kernel)) ggL_law_L_match
set_option maxRecDepth 20000 in
theorem ggL_law_X5_match : GoodIn wsL_law wsX5_match := goodIn_r _ [320, 321, 322, 323, 5, 324, 169, 152, 154, 155, 156, 325, 326, 327, 328, 329, 39, 40, 41, 330, 331, 332, 333, 168, 334, 335, 336, 337, 88, 87, 815, 816, 817, 818, 819, 820, 821, 822, 823, 824, 825, 826, 827, 828, 829, 830, 831, 832, 833, 834, 835, 836, 837, 838, 839] (by decide +kernel) (by decide +kernel)
set_option maxRecDepth 20000 in
theorem gL_law_X5_match : GoodIn wsL_law (wsV RL 139 RX5 yX5_match wsX5_match) := goodIn_app (goodIn_of _ (by decide +kernel)) ggL_law_X5_match
set_option maxRecDepth 20000 in
theorem ggL_law_L_matchPlace : GoodIn wsL_law wsL_matchPlace := goodIn_ca (goodIn_r _ [340, 106, 341, 342, 343, 2, 344, 19, 216, 217, 218, 116, 117, 219, 220, 221, 17, 222, 44, 43, 113, 114, 115, 306, 307, 308, 309, 18, 144, 145, 146, 147, 123, 124, 125, 126, 310, 311, 312, 313, 314, 315, 40, 316, 223, 224, 225, 226, 227, 808, 809, 810, 811, 812, 813, 814, 840, 841] (by decide +kernel) (by decide +kernel)) (goodIn_sub (fun _ h => List.mem_append_left _ (List.mem_append_left _ (List.mem_append_right _ h))) (by decide +kernel))
set_option maxRecDepth 20000 in
theorem gL_law_L_matchPlace : GoodIn wsL_law (va_wsS RL 140 yL_matchPlace wsL_matchPlace) := goodIn_app (goodIn_of _ (by decide +kernel)) ggL_law_L_matchPlace
set_option maxRecDepth 20000 in
theorem ggL_law_X5_matchPlace : GoodIn wsL_law wsX5_matchPlace := goodIn_r _ [348, 321, 322, 323, 5, 324, 169, 152, 154, 155, 156, 325, 326, 327, 328, 329, 39, 40, 41, 330, 331, 332, 333, 168, 334, 335, 336, 337, 88, 87, 815, 816, 817, 818, 819, 820, 821, 822, 823, 824, 825, 826, 827, 828, 829, 830, 831, 832, 833, 834, 835, 836, 837, 838, 839] (by decide +kernel) (by decide +kernel)
set_option maxRecDepth 20000 in
theorem gL_law_X5_matchPlace : GoodIn wsL_law (wsV RL 142 RX5 yX5_matchPlace wsX5_matchPlace) := goodIn_app (goodIn_of _ (by decide +kernel)) ggL_law_X5_matchPlace
set_option maxRecDepth 20000 in
theorem ggL_law_L_blocks : GoodIn wsL_law wsL_blocks := goodIn_ca (goodIn_r _ [351, 107, 352, 353, 354, 2, 355, 19, 118, 119, 120, 121, 122, 144, 145, 146, 17, 147, 44, 356, 357, 358, 359, 18, 360, 39, 40, 41, 310, 311, 312, 313, 314, 315, 316, 223, 224, 225, 226, 43, 227, 220, 221, 222, 808, 809, 810, 811, 812, 813, 814, 840, 841] (by decide +kernel) (by decide +kernel)) (goodIn_sub (fun _ h => List.mem_append_left _ (List.mem_append_right _ h)) (by decide +kernel))
set_option maxRecDepth 20000 in
theorem gL_law_L_blocks : GoodIn wsL_law (va_wsS RL 143 yL_blocks wsL_blocks) := goodIn_app (goodIn_of _ (by decide +kernel)) ggL_law_L_blocks
set_option maxRecDepth 20000 in
theorem ggL_law_X5_blocks : GoodIn wsL_law wsX5_blocks := goodIn_r _ [364, 152, 169, 168, 161, 162, 5, 163, 157, 158, 159, 160, 365, 366, 367, 368, 88, 87, 815, 816, 817, 818, 819, 820, 821, 822, 823, 824, 825, 826, 827, 828, 829, 830, 831, 832, 833, 834, 835, 836, 837, 838, 839] (by decide +kernel) (by decide +kernel)
set_option maxRecDepth 20000 in
theorem gL_law_X5_blocks : GoodIn wsL_law (wsV RL 145 RX5 yX5_blocks wsX5_blocks) := goodIn_app (goodIn_of _ (by decide +kernel)) ggL_law_X5_blocks
set_option maxRecDepth 20000 in
theorem ggL_law_L_setLeast : GoodIn wsL_law wsL_setLeast := goodIn_ca (goodIn_r _ [371, 107, 372, 373, 374, 2, 375, 33, 24, 118, 119, 120, 121, 122, 140, 141, 142, 23, 143, 55, 808, 809, 810, 811, 812, 813, 814, 842, 843, 844, 845, 846, 847] (by decide +kernel) (by decide +kernel)) (goodIn_sub (fun _ h => List.mem_append_left _ (List.mem_append_right _ h)) (by decide +kernel))
set_option maxRecDepth 20000 in
theorem gL_law_L_setLeast : GoodIn wsL_law (va_wsS RL 146 yL_setLeast wsL_setLeast) := goodIn_app (goodIn_of _ (by decide +kernel)) ggL_law_L_setLeast
set_option maxRecDepth 20000 in
theorem ggL_law_X5_setLeast : GoodIn wsL_law wsX5_setLeast := goodIn_r _ [379, 152, 89, 178, 161, 162, 5, 163, 157, 158, 159, 160, 815, 816, 817, 818, 819, 820, 821, 822, 823, 824, 825, 826, 827, 828, 829, 830, 831, 832, 833, 834, 835, 836, 837, 838, 839] (by decide +kernel) (by decide +kernel)
set_option maxRecDepth 20000 in
theorem gL_law_X5_setLeast : GoodIn wsL_law (wsV RL 148 RX5 yX5_setLeast wsX5_setLeast) := goodIn_app (goodIn_of _ (by decide +kernel)) ggL_law_X5_setLeast
set_option maxRecDepth 20000 in
theorem ggL_law_X4_plan : GoodIn wsL_law wsX4_plan := goodIn_r _ [383, 24, 28, 18, 19, 33, 384, 385, 386, 23, 387, 55, 388, 389, 390, 27, 391, 392, 315, 40, 316, 66, 67, 61, 62, 393, 394, 145, 146, 17, 147, 44, 395, 396, 397, 398, 399, 224, 225, 226, 43, 227, 220, 221, 222, 400, 401, 402, 403, 404, 405, 406, 407, 408, 409, 410, 63, 64, 65, 411, 412, 413, 414, 415, 416, 417, 418, 419, 420, 68, 421, 422, 423, 424, 425, 426, 427, 428, 50, 51, 52, 53, 54, 429, 275, 276, 277, 430, 431, 432, 433, 434, 137, 138, 139, 435, 436, 437, 438, 439, 808, 809, 810, 811, 812, 813, 814, 842, 843, 844, 845, 846, 847, 848, 849, 850, 851, 852, 853, 854, 855, 840, 841] (by decide +kernel) (by decide +kernel)
set_option maxRecDepth 20000 in
theorem gL_law_X4_plan : GoodIn wsL_law (wsV RL 149 RX4 yX4_plan wsX4_plan) := goodIn_app (goodIn_of _ (by decide +kernel)) ggL_law_X4_plan
set_option maxRecDepth 20000 in
theorem ggL_law_X5_plan : GoodIn wsL_law wsX5_plan := goodIn_r _ [443, 152, 178, 444, 97, 169, 98, 90, 99, 91, 100, 92, 101, 93, 445, 446, 447, 448, 5, 449, 88, 89, 450, 451, 452, 453, 454, 455, 456, 457, 458, 459, 460, 461, 462, 463, 42, 330, 331, 332, 333, 168, 334, 335, 336, 337, 87, 815, 816, 817, 818, 819, 820, 821, 822, 823, 824, 825, 826, 827, 828, 829, 830, 831, 832, 833, 834, 835, 836, 837, 838, 839] (by decide +kernel) (by decide +kernel)
set_option maxRecDepth 20000 in
theorem gL_law_X5_plan : GoodIn wsL_law (wsV RL 152 RX5 yX5_plan wsX5_plan) := goodIn_app (goodIn_of _ (by decide +kernel)) ggL_law_X5_plan
set_option maxRecDepth 20000 in
theorem ggL_law_X4_hasPlan : GoodIn wsL_law wsX4_hasPlan := goodIn_r _ [467, 24, 384, 385, 386, 23, 387, 55, 808, 809, 810, 811, 812, 813, 814, 842, 843, 844, 845, 846, 847] (by decide +kernel) (by decide +kernel)
set_option maxRecDepth 20000 in
theorem gL_law_X4_hasPlan : GoodIn wsL_law (wsV RL 153 RX4 yX4_hasPlan wsX4_hasPlan) := goodIn_app (goodIn_of _ (by decide +kernel)) ggL_law_X4_hasPlan
set_option maxRecDepth 20000 in
theorem ggL_law_X5_hasPlan : GoodIn wsL_law wsX5_hasPlan := goodIn_r _ [471, 152, 178, 815, 816, 817, 818, 819, 820, 821, 822, 823, 824, 825, 826, 827, 828, 829, 830, 831, 832, 833, 834, 835, 836, 837, 838, 839] (by decide +kernel) (by decide +kernel)
set_option maxRecDepth 20000 in
theorem gL_law_X5_hasPlan : GoodIn wsL_law (wsV RL 157 RX5 yX5_hasPlan wsX5_hasPlan) := goodIn_app (goodIn_of _ (by decide +kernel)) ggL_law_X5_hasPlan
set_option maxRecDepth 20000 in
theorem ggL_law_L_cost : GoodIn wsL_law wsL_cost := goodIn_ca (goodIn_r _ [474, 108, 475, 476, 477, 2, 478, 24, 479, 480, 481, 482, 130, 131, 384, 385, 386, 23, 387, 55, 483, 484, 485, 486, 54, 808, 809, 810, 811, 812, 813, 814, 842, 843, 844, 845, 846, 847] (by decide +kernel) (by decide +kernel)) (goodIn_sub (fun _ h => List.mem_append_right _ h) (by decide +kernel))
set_option maxRecDepth 20000 in
theorem gL_law_L_cost : GoodIn wsL_law (va_wsS RL 158 yL_cost wsL_cost) := goodIn_app (goodIn_of _ (by decide +kernel)) ggL_law_L_cost
set_option maxRecDepth 20000 in
theorem ggL_law_X5_cost : GoodIn wsL_law wsX5_cost := goodIn_r _ [490, 152, 178, 445, 157, 158, 159, 5, 160, 815, 816, 817, 818, 819, 820, 821, 822, 823, 824, 825, 826, 827, 828, 829, 830, 831, 832, 833, 834, 835, 836, 837, 838, 839] (by decide +kernel) (by decide +kernel)
set_option maxRecDepth 20000 in
theorem gL_law_X5_cost : GoodIn wsL_law (wsV RL 161 RX5 yX5_cost wsX5_cost) := goodIn_app (goodIn_of _ (by decide +kernel)) ggL_law_X5_cost
set_option maxRecDepth 20000 in
theorem ggL_law_L_kind : GoodIn wsL_law wsL_kind := goodIn_ca (goodIn_ca (goodIn_r _ [493, 108, 106, 494, 495, 496, 2, 497, 24, 498, 499, 500, 501, 116, 117, 479, 480, 481, 482, 130, 131, 384, 385, 386, 23, 387, 55, 435, 436, 437, 438, 50, 439, 145, 146, 17, 147, 44, 502, 503, 504, 505, 506, 224, 225, 226, 43, 227, 220, 221, 222, 808, 809, 810, 811, 812, 813, 814, 842, 843, 844, 845, 846, 847, 840, 841] (by decide +kernel) (by decide +kernel)) (goodIn_sub (fun _ h => List.mem_append_left _ (List.mem_append_left _ (List.mem_append_right _ h))) (by decide +kernel))) (goodIn_sub (fun _ h => List.mem_append_right _ h) (by decide +kernel))
set_option maxRecDepth 20000 in
theorem gL_law_L_kind : GoodIn wsL_law (va_wsS RL 162 yL_kind wsL_kind) := goodIn_app (goodIn_of _ (by decide +kernel)) ggL_law_L_kind
set_option maxRecDepth 20000 in
theorem ggL_law_X5_kind : GoodIn wsL_law wsX5_kind := goodIn_r _ [510, 90, 511, 512, 513, 5, 514, 178, 444, 152, 815, 816, 817, 818, 819, 820, 821, 822, 823, 824, 825, 826, 827, 828, 829, 830, 831, 832, 833, 834, 835, 836, 837, 838, 839] (by decide +kernel) (by decide +kernel)
set_option maxRecDepth 20000 in
theorem gL_law_X5_kind : GoodIn wsL_law (wsV RL 164 RX5 yX5_kind wsX5_kind) := goodIn_app (goodIn_of _ (by decide +kernel)) ggL_law_X5_kind
set_option maxRecDepth 20000 in
theorem ggL_law_L_length : GoodIn wsL_law wsL_length := goodIn_ca (goodIn_ca (goodIn_r _ [517, 108, 106, 518, 519, 520, 2, 521, 24, 498, 499, 500, 501, 116, 117, 479, 480, 481, 482, 130, 131, 384, 385, 386, 23, 387, 55, 435, 436, 437, 438, 50, 439, 145, 146, 17, 147, 44, 522, 523, 524, 525, 51, 506, 224, 225, 226, 43, 227, 220, 221, 222, 808, 809, 810, 811, 812, 813, 814, 842, 843, 844, 845, 846, 847, 840, 841] (by decide +kernel) (by decide +kernel)) (goodIn_sub (fun _ h => List.mem_append_left _ (List.mem_append_left _ (List.mem_append_right _ h))) (by decide +kernel))) (goodIn_sub (fun _ h => List.mem_append_right _ h) (by decide +kernel))
set_option maxRecDepth 20000 in
theorem gL_law_L_length : GoodIn wsL_law (va_wsS RL 165 yL_length wsL_length) := goodIn_app (goodIn_of _ (by decide +kernel)) ggL_law_L_length
set_option maxRecDepth 20000 in
theorem ggL_law_X5_length : GoodIn wsL_law wsX5_length := goodIn_r _ [529, 91, 511, 512, 513, 5, 514, 178, 444, 152, 815, 816, 817, 818, 819, 820, 821, 822, 823, 824, 825, 826, 827, 828, 829, 830, 831, 832, 833, 834, 835, 836, 837, 838, 839] (by decide +kernel) (by decide +kernel)
set_option maxRecDepth 20000 in
theorem gL_law_X5_length : GoodIn wsL_law (wsV RL 167 RX5 yX5_length wsX5_length) := goodIn_app (goodIn_of _ (by decide +kernel)) ggL_law_X5_length
set_option maxRecDepth 20000 in
theorem ggL_law_L_operand : GoodIn wsL_law wsL_operand := goodIn_ca (goodIn_ca (goodIn_r _ [532, 108, 106, 533, 534, 535, 2, 536, 24, 498, 499, 500, 501, 116, 117, 479, 480, 481, 482, 130, 131, 384, 385, 386, 23, 387, 55, 435, 436, 437, 438, 50, 439, 145, 146, 17, 147, 44, 537, 538, 539, 540, 52, 506, 224, 225, 226, 43, 227, 220, 221, 222, 808, 809, 810, 811, 812, 813, 814, 842, 843, 844, 845, 846, 847, 840, 841] (by decide +kernel) (by decide +kernel)) (goodIn_sub (fun _ h => List.mem_append_left _ (List.mem_append_left _ (List.mem_append_right _ h))) (by decide +kernel))) (goodIn_sub (fun _ h => List.mem_append_right _ h) (by decide +kernel))
set_option maxRecDepth 20000 in
theorem gL_law_L_operand : GoodIn wsL_law (va_wsS RL 168 yL_operand wsL_operand) := goodIn_app (goodIn_of _ (by decide +kernel)) ggL_law_L_operand
set_option maxRecDepth 20000 in
theorem ggL_law_X5_operand : GoodIn wsL_law wsX5_operand := goodIn_r _ [544, 92, 511, 512, 513, 5, 514, 178, 444, 152, 815, 816, 817, 818, 819, 820, 821, 822, 823, 824, 825, 826, 827, 828, 829, 830, 831, 832, 833, 834, 835, 836, 837, 838, 839] (by decide +kernel) (by decide +kernel)
set_option maxRecDepth 20000 in
theorem gL_law_X5_operand : GoodIn wsL_law (wsV RL 170 RX5 yX5_operand wsX5_operand) := goodIn_app (goodIn_of _ (by decide +kernel)) ggL_law_X5_operand
set_option maxRecDepth 20000 in
theorem ggL_law_L_start : GoodIn wsL_law wsL_start := goodIn_ca (goodIn_ca (goodIn_r _ [547, 108, 106, 548, 549, 550, 2, 551, 24, 498, 499, 500, 501, 116, 117, 479, 480, 481, 482, 130, 131, 384, 385, 386, 23, 387, 55, 435, 436, 437, 438, 50, 439, 145, 146, 17, 147, 44, 552, 553, 554, 555, 53, 506, 224, 225, 226, 43, 227, 220, 221, 222, 808, 809, 810, 811, 812, 813, 814, 842, 843, 844, 845, 846, 847, 840, 841] (by decide +kernel) (by decide +kernel)) (goodIn_sub (fun _ h => List.mem_append_left _ (List.mem_append_left _ (List.mem_append_right _ h))) (by decide +kernel))) (goodIn_sub (fun _ h => List.mem_append_right _ h) (by decide +kernel))
set_option maxRecDepth 20000 in
theorem gL_law_L_start : GoodIn wsL_law (va_wsS RL 171 yL_start wsL_start) := goodIn_app (goodIn_of _ (by decide +kernel)) ggL_law_L_start
set_option maxRecDepth 20000 in
theorem ggL_law_X5_start : GoodIn wsL_law wsX5_start := goodIn_r _ [559, 93, 511, 512, 513, 5, 514, 178, 444, 152, 815, 816, 817, 818, 819, 820, 821, 822, 823, 824, 825, 826, 827, 828, 829, 830, 831, 832, 833, 834, 835, 836, 837, 838, 839] (by decide +kernel) (by decide +kernel)
set_option maxRecDepth 20000 in
theorem gL_law_X5_start : GoodIn wsL_law (wsV RL 173 RX5 yX5_start wsX5_start) := goodIn_app (goodIn_of _ (by decide +kernel)) ggL_law_X5_start
set_option maxRecDepth 20000 in
theorem ggL_law_L_made : GoodIn wsL_law wsL_made := goodIn_ca (goodIn_ca (goodIn_r _ [562, 108, 106, 563, 564, 565, 2, 566, 116, 117, 24, 479, 480, 481, 482, 130, 131, 384, 385, 386, 23, 387, 55, 435, 436, 437, 438, 50, 439, 145, 146, 17, 147, 44, 502, 503, 504, 505, 506, 224, 225, 226, 43, 227, 220, 221, 222, 522, 523, 524, 525, 51, 808, 809, 810, 811, 812, 813, 814, 842, 843, 844, 845, 846, 847, 840, 841] (by decide +kernel) (by decide +kernel)) (goodIn_sub (fun _ h => List.mem_append_left _ (List.mem_append_left _ (List.mem_append_right _ h))) (by decide +kernel))) (goodIn_sub (fun _ h => List.mem_append_right _ h) (by decide +kernel))
set_option maxRecDepth 20000 in
theorem gL_law_L_made : GoodIn wsL_law (va_wsS RL 174 yL_made wsL_made) := goodIn_app (goodIn_of _ (by decide +kernel)) ggL_law_L_made
set_option maxRecDepth 20000 in
theorem ggL_law_X5_made : GoodIn wsL_law wsX5_made := goodIn_r _ [570, 178, 152, 444, 90, 91, 161, 162, 5, 163, 815, 816, 817, 818, 819, 820, 821, 822, 823, 824, 825, 826, 827, 828, 829, 830, 831, 832, 833, 834, 835, 836, 837, 838, 839] (by decide +kernel) (by decide +kernel)
set_option maxRecDepth 20000 in
theorem gL_law_X5_made : GoodIn wsL_law (wsV RL 176 RX5 yX5_made wsX5_made) := goodIn_app (goodIn_of _ (by decide +kernel)) ggL_law_X5_made
set_option maxRecDepth 20000 in
theorem ggL_law_L_ratio : GoodIn wsL_law wsL_ratio := goodIn_ca (goodIn_r _ [573, 108, 574, 575, 576, 2, 577, 19, 24, 479, 480, 481, 482, 130, 131, 384, 385, 386, 23, 387, 55, 144, 145, 146, 17, 147, 44, 483, 484, 485, 486, 54, 808, 809, 810, 811, 812, 813, 814, 842, 843, 844, 845, 846, 847, 840, 841] (by decide +kernel) (by decide +kernel)) (goodIn_sub (fun _ h => List.mem_append_right _ h) (by decide +kernel))
set_option maxRecDepth 20000 in
theorem gL_law_L_ratio : GoodIn wsL_law (va_wsS RL 177 yL_ratio wsL_ratio) := goodIn_app (goodIn_of _ (by decide +kernel)) ggL_law_L_ratio
set_option maxRecDepth 20000 in
theorem ggL_law_X5_ratio : GoodIn wsL_law wsX5_ratio := goodIn_r _ [581, 178, 152, 169, 445, 582, 815, 816, 817, 818, 819, 820, 821, 822, 823, 824, 825, 826, 827, 828, 829, 830, 831, 832, 833, 834, 835, 836, 837, 838, 839] (by decide +kernel) (by decide +kernel)
set_option maxRecDepth 20000 in
theorem gL_law_X5_ratio : GoodIn wsL_law (wsV RL 180 RX5 yX5_ratio wsX5_ratio) := goodIn_app (goodIn_of _ (by decide +kernel)) ggL_law_X5_ratio
set_option maxRecDepth 20000 in
theorem ggL_law_L_encode : GoodIn wsL_law wsL_encode := goodIn_ca (goodIn_r _ [585, 108, 586, 587, 588, 2, 589, 20, 24, 19, 479, 480, 481, 482, 130, 131, 384, 385, 386, 23, 387, 55, 274, 275, 276, 17, 277, 44, 435, 436, 437, 438, 50, 439, 145, 146, 147, 590, 591, 592, 593, 314, 315, 40, 316, 502, 503, 504, 505, 506, 224, 225, 226, 43, 227, 220, 221, 222, 522, 523, 524, 525, 51, 136, 137, 138, 139, 594, 595, 596, 597, 552, 553, 554, 555, 53, 598, 599, 600, 601, 223, 537, 538, 539, 540, 52, 144, 289, 290, 291, 808, 809, 810, 811, 812, 813, 814, 842, 843, 844, 845, 846, 847, 840, 841] (by decide +kernel) (by decide +kernel)) (goodIn_sub (fun _ h => List.mem_append_right _ h) (by decide +kernel))
set_option maxRecDepth 20000 in
theorem gL_law_L_encode : GoodIn wsL_law (va_wsS RL 181 yL_encode wsL_encode) := goodIn_app (goodIn_of _ (by decide +kernel)) ggL_law_L_encode
set_option maxRecDepth 20000 in
theorem ggL_law_X5_encode : GoodIn wsL_law wsX5_encode := goodIn_r _ [605, 152, 178, 606, 444, 90, 91, 607, 315, 40, 316, 88, 93, 92, 169, 157, 158, 159, 5, 160, 608, 609, 610, 611, 94, 612, 613, 614, 615, 296, 297, 298, 815, 816, 817, 818, 819, 820, 821, 822, 823, 824, 825, 826, 827, 828, 829, 830, 831, 832, 833, 834, 835, 836, 837, 838, 839] (by decide +kernel) (by decide +kernel)
set_option maxRecDepth 20000 in
theorem gL_law_X5_encode : GoodIn wsL_law (wsV RL 183 RX5 yX5_encode wsX5_encode) := goodIn_app (goodIn_of _ (by decide +kernel)) ggL_law_X5_encode
set_option maxRecDepth 20000 in
theorem ggL_law_X4_codeSize : GoodIn wsL_law wsX4_codeSize := goodIn_r _ [619, 20, 144, 145, 146, 17, 147, 44, 808, 809, 810, 811, 812, 813, 814, 840, 841] (by decide +kernel) (by decide +kernel)
set_option maxRecDepth 20000 in
theorem gL_law_X4_codeSize : GoodIn wsL_law (wsV RL 184 RX4 yX4_codeSize wsX4_codeSize) := goodIn_app (goodIn_of _ (by decide +kernel)) ggL_law_X4_codeSize
set_option maxRecDepth 20000 in
theorem ggL_law_X5_codeSize : GoodIn wsL_law wsX5_codeSize := goodIn_r _ [623, 152, 606, 815, 816, 817, 818, 819, 820, 821, 822, 823, 824, 825, 826, 827, 828, 829, 830, 831, 832, 833, 834, 835, 836, 837, 838, 839] (by decide +kernel) (by decide +kernel)
set_option maxRecDepth 20000 in
theorem gL_law_X5_codeSize : GoodIn wsL_law (wsV RL 187 RX5 yX5_codeSize wsX5_codeSize) := goodIn_app (goodIn_of _ (by decide +kernel)) ggL_law_X5_codeSize
set_option maxRecDepth 20000 in
theorem ggL_law_L_code : GoodIn wsL_law wsL_code := goodIn_ca (goodIn_r _ [626, 106, 627, 628, 629, 2, 630, 20, 216, 217, 218, 116, 117, 219, 220, 221, 17, 222, 44, 43, 223, 224, 225, 226, 227, 808, 809, 810, 811, 812, 813, 814, 840, 841] (by decide +kernel) (by decide +kernel)) (goodIn_sub (fun _ h => List.mem_append_left _ (List.mem_append_left _ (List.mem_append_right _ h))) (by decide +kernel))
set_option maxRecDepth 20000 in
theorem gL_law_L_code : GoodIn wsL_law (va_wsS RL 188 yL_code wsL_code) := goodIn_app (goodIn_of _ (by decide +kernel)) ggL_law_L_code
set_option maxRecDepth 20000 in
theorem ggL_law_X5_code : GoodIn wsL_law wsX5_code := goodIn_r _ [634, 152, 606, 94, 157, 158, 159, 5, 160, 815, 816, 817, 818, 819, 820, 821, 822, 823, 824, 825, 826, 827, 828, 829, 830, 831, 832, 833, 834, 835, 836, 837, 838, 839] (by decide +kernel) (by decide +kernel)
set_option maxRecDepth 20000 in
theorem gL_law_X5_code : GoodIn wsL_law (wsV RL 190 RX5 yX5_code wsX5_code) := goodIn_app (goodIn_of _ (by decide +kernel)) ggL_law_X5_code
set_option maxRecDepth 20000 in
theorem ggL_law_L_setCode : GoodIn wsL_law wsL_setCode := goodIn_ca (goodIn_ca (goodIn_r _ [637, 106, 107, 638, 639, 640, 2, 641, 20, 216, 217, 218, 116, 117, 219, 220, 221, 17, 222, 44, 43, 118, 119, 120, 121, 122, 223, 224, 225, 226, 227, 228, 229, 230, 231, 808, 809, 810, 811, 812, 813, 814, 840, 841] (by decide +kernel) (by decide +kernel)) (goodIn_sub (fun _ h => List.mem_append_left _ (List.mem_append_left _ (List.mem_append_right _ h))) (by decide +kernel))) (goodIn_sub (fun _ h => List.mem_append_left _ (List.mem_append_right _ h)) (by decide +kernel))
set_option maxRecDepth 20000 in
theorem gL_law_L_setCode : GoodIn wsL_law (va_wsS RL 191 yL_setCode wsL_setCode) := goodIn_app (goodIn_of _ (by decide +kernel)) ggL_law_L_setCode
set_option maxRecDepth 20000 in
theorem ggL_law_X5_setCode : GoodIn wsL_law wsX5_setCode := goodIn_r _ [645, 152, 606, 94, 157, 158, 159, 5, 160, 161, 162, 163, 815, 816, 817, 818, 819, 820, 821, 822, 823, 824, 825, 826, 827, 828, 829, 830, 831, 832, 833, 834, 835, 836, 837, 838, 839] (by decide +kernel) (by decide +kernel)
set_option maxRecDepth 20000 in
theorem gL_law_X5_setCode : GoodIn wsL_law (wsV RL 193 RX5 yX5_setCode wsX5_setCode) := goodIn_app (goodIn_of _ (by decide +kernel)) ggL_law_X5_setCode
set_option maxRecDepth 20000 in
theorem ggL_law_L_cutCode : GoodIn wsL_law wsL_cutCode := goodIn_ca (goodIn_r _ [648, 107, 649, 650, 651, 2, 652, 20, 144, 145, 146, 17, 147, 44, 118, 119, 120, 121, 122, 201, 202, 203, 204, 808, 809, 810, 811, 812, 813, 814, 840, 841] (by decide +kernel) (by decide +kernel)) (goodIn_sub (fun _ h => List.mem_append_left _ (List.mem_append_right _ h)) (by decide +kernel))
set_option maxRecDepth 20000 in
theorem gL_law_L_cutCode : GoodIn wsL_law (va_wsS RL 194 yL_cutCode wsL_cutCode) := goodIn_app (goodIn_of _ (by decide +kernel)) ggL_law_L_cutCode
set_option maxRecDepth 20000 in
theorem ggL_law_X5_cutCode : GoodIn wsL_law wsX5_cutCode := goodIn_r _ [656, 152, 606, 161, 162, 5, 163, 157, 158, 159, 160, 815, 816, 817, 818, 819, 820, 821, 822, 823, 824, 825, 826, 827, 828, 829, 830, 831, 832, 833, 834, 835, 836, 837, 838, 839] (by decide +kernel) (by decide +kernel)
set_option maxRecDepth 20000 in
theorem gL_law_X5_cutCode : GoodIn wsL_law (wsV RL 196 RX5 yX5_cutCode wsX5_cutCode) := goodIn_app (goodIn_of _ (by decide +kernel)) ggL_law_X5_cutCode
set_option maxRecDepth 20000 in
theorem ggL_law_L_appendCode : GoodIn wsL_law wsL_appendCode := goodIn_ca (goodIn_ca (goodIn_r _ [659, 107, 108, 660, 661, 662, 2, 663, 20, 118, 119, 120, 121, 122, 127, 128, 129, 130, 131, 132, 133, 134, 17, 135, 43, 44, 136, 137, 138, 139, 144, 145, 146, 147, 808, 809, 810, 811, 812, 813, 814, 840, 841] (by decide +kernel) (by decide +kernel)) (goodIn_sub (fun _ h => List.mem_append_left _ (List.mem_append_right _ h)) (by decide +kernel))) (goodIn_sub (fun _ h => List.mem_append_right _ h) (by decide +kernel))
set_option maxRecDepth 20000 in
theorem gL_law_L_appendCode : GoodIn wsL_law (va_wsS RL 197 yL_appendCode wsL_appendCode) := goodIn_app (goodIn_of _ (by decide +kernel)) ggL_law_L_appendCode
set_option maxRecDepth 20000 in
theorem ggL_law_X5_appendCode : GoodIn wsL_law wsX5_appendCode := goodIn_r _ [667, 152, 606, 161, 162, 5, 163, 157, 158, 159, 160, 608, 609, 610, 611, 94, 815, 816, 817, 818, 819, 820, 821, 822, 823, 824, 825, 826, 827, 828, 829, 830, 831, 832, 833, 834, 835, 836, 837, 838, 839] (by decide +kernel) (by decide +kernel)
set_option maxRecDepth 20000 in
theorem gL_law_X5_appendCode : GoodIn wsL_law (wsV RL 199 RX5 yX5_appendCode wsX5_appendCode) := goodIn_app (goodIn_of _ (by decide +kernel)) ggL_law_X5_appendCode
set_option maxRecDepth 20000 in
theorem ggL_law_X4_decode : GoodIn wsL_law wsX4_decode := goodIn_r _ [671, 32, 20, 18, 672, 673, 674, 31, 675, 74, 75, 76, 77, 78, 676, 275, 276, 17, 277, 44, 677, 145, 146, 147, 678, 679, 680, 681, 682, 683, 684, 685, 79, 80, 81, 686, 687, 688, 689, 690, 691, 692, 693, 694, 224, 225, 226, 43, 227, 220, 221, 222, 695, 696, 697, 698, 699, 700, 701, 702, 703, 133, 134, 135, 704, 705, 706, 707, 708, 709, 710, 711, 712, 137, 138, 139, 713, 714, 715, 716, 290, 2, 291, 223, 808, 809, 810, 811, 812, 813, 814, 856, 857, 858, 859, 860, 861, 862, 863, 840, 841] (by decide +kernel) (by decide +kernel)
set_option maxRecDepth 20000 in
theorem gL_law_X4_decode : GoodIn wsL_law (wsV RL 200 RX4 yX4_decode wsX4_decode) := goodIn_app (goodIn_of _ (by decide +kernel)) ggL_law_X4_decode
set_option maxRecDepth 20000 in
theorem ggL_law_X5_decode : GoodIn wsL_law wsX5_decode := goodIn_r _ [720, 152, 721, 722, 723, 96, 606, 94, 95, 724, 725, 726, 5, 727, 728, 729, 730, 731, 168, 87, 732, 733, 734, 735, 736, 737, 738, 739, 296, 297, 298, 815, 816, 817, 818, 819, 820, 821, 822, 823, 824, 825, 826, 827, 828, 829, 830, 831, 832, 833, 834, 835, 836, 837, 838, 839] (by decide +kernel) (by decide +kernel)
set_option maxRecDepth 20000 in
theorem gL_law_X5_decode : GoodIn wsL_law (wsV RL 203 RX5 yX5_decode wsX5_decode) := goodIn_app (goodIn_of _ (by decide +kernel)) ggL_law_X5_decode
set_option maxRecDepth 20000 in
theorem ggL_law_X4_errorPosition : GoodIn wsL_law wsX4_errorPosition := goodIn_r _ [743, 32, 744, 745, 746, 31, 747, 78, 808, 809, 810, 811, 812, 813, 814, 856, 857, 858, 859, 860, 861, 862, 863] (by decide +kernel) (by decide +kernel)
set_option maxRecDepth 20000 in
theorem gL_law_X4_errorPosition : GoodIn wsL_law (wsV RL 204 RX4 yX4_errorPosition wsX4_errorPosition) := goodIn_app (goodIn_of _ (by decide +kernel)) ggL_law_X4_errorPosition
set_option maxRecDepth 20000 in
theorem ggL_law_X5_errorPosition : GoodIn wsL_law wsX5_errorPosition := goodIn_r _ [751, 152, 96, 815, 816, 817, 818, 819, 820, 821, 822, 823, 824, 825, 826, 827, 828, 829, 830, 831, 832, 833, 834, 835, 836, 837, 838, 839] (by decide +kernel) (by decide +kernel)
set_option maxRecDepth 20000 in
theorem gL_law_X5_errorPosition : GoodIn wsL_law (wsV RL 207 RX5 yX5_errorPosition wsX5_errorPosition) := goodIn_app (goodIn_of _ (by decide +kernel)) ggL_law_X5_errorPosition
set_option maxRecDepth 20000 in
theorem ggL_law_X4_outputSize : GoodIn wsL_law wsX4_outputSize := goodIn_r _ [755, 32, 756, 757, 758, 31, 759, 74, 144, 145, 146, 17, 147, 44, 808, 809, 810, 811, 812, 813, 814, 856, 857, 858, 859, 860, 861, 862, 863, 840, 841] (by decide +kernel) (by decide +kernel)
set_option maxRecDepth 20000 in
theorem gL_law_X4_outputSize : GoodIn wsL_law (wsV RL 208 RX4 yX4_outputSize wsX4_outputSize) := goodIn_app (goodIn_of _ (by decide +kernel)) ggL_law_X4_outputSize
set_option maxRecDepth 20000 in
theorem ggL_law_X5_outputSize : GoodIn wsL_law wsX5_outputSize := goodIn_r _ [763, 152, 721, 815, 816, 817, 818, 819, 820, 821, 822, 823, 824, 825, 826, 827, 828, 829, 830, 831, 832, 833, 834, 835, 836, 837, 838, 839] (by decide +kernel) (by decide +kernel)
set_option maxRecDepth 20000 in
theorem gL_law_X5_outputSize : GoodIn wsL_law (wsV RL 211 RX5 yX5_outputSize wsX5_outputSize) := goodIn_app (goodIn_of _ (by decide +kernel)) ggL_law_X5_outputSize
set_option maxRecDepth 20000 in
theorem ggL_law_L_output : GoodIn wsL_law wsL_output := goodIn_ca (goodIn_r _ [766, 106, 767, 768, 769, 2, 770, 32, 756, 757, 758, 31, 759, 74, 216, 217, 218, 116, 117, 219, 220, 221, 17, 222, 44, 43, 223, 224, 225, 226, 227, 808, 809, 810, 811, 812, 813, 814, 856, 857, 858, 859, 860, 861, 862, 863, 840, 841] (by decide +kernel) (by decide +kernel)) (goodIn_sub (fun _ h => List.mem_append_left _ (List.mem_append_left _ (List.mem_append_right _ h))) (by decide +kernel))
set_option maxRecDepth 20000 in
theorem gL_law_L_output : GoodIn wsL_law (va_wsS RL 212 yL_output wsL_output) := goodIn_app (goodIn_of _ (by decide +kernel)) ggL_law_L_output
set_option maxRecDepth 20000 in
theorem ggL_law_X5_output : GoodIn wsL_law wsX5_output := goodIn_r _ [774, 152, 721, 95, 157, 158, 159, 5, 160, 815, 816, 817, 818, 819, 820, 821, 822, 823, 824, 825, 826, 827, 828, 829, 830, 831, 832, 833, 834, 835, 836, 837, 838, 839] (by decide +kernel) (by decide +kernel)
set_option maxRecDepth 20000 in
theorem gL_law_X5_output : GoodIn wsL_law (wsV RL 214 RX5 yX5_output wsX5_output) := goodIn_app (goodIn_of _ (by decide +kernel)) ggL_law_X5_output
set_option maxRecDepth 20000 in
theorem ggL_law_X4_differences : GoodIn wsL_law wsX4_differences := goodIn_r _ [778, 32, 19, 360, 39, 40, 41, 756, 757, 758, 31, 759, 74, 144, 145, 146, 17, 147, 44, 219, 220, 221, 222, 43, 223, 224, 225, 226, 227, 808, 809, 810, 811, 812, 813, 814, 856, 857, 858, 859, 860, 861, 862, 863, 840, 841] (by decide +kernel) (by decide +kernel)
set_option maxRecDepth 20000 in
theorem gL_law_X4_differences : GoodIn wsL_law (wsV RL 215 RX4 yX4_differences wsX4_differences) := goodIn_app (goodIn_of _ (by decide +kernel)) ggL_law_X4_differences
set_option maxRecDepth 20000 in
theorem ggL_law_X5_differences : GoodIn wsL_law wsX5_differences := goodIn_r _ [782, 152, 169, 721, 783, 784, 40, 785, 88, 95, 815, 816, 817, 818, 819, 820, 821, 822, 823, 824, 825, 826, 827, 828, 829, 830, 831, 832, 833, 834, 835, 836, 837, 838, 839] (by decide +kernel) (by decide +kernel)
set_option maxRecDepth 20000 in
theorem gL_law_X5_differences : GoodIn wsL_law (wsV RL 218 RX5 yX5_differences wsX5_differences) := goodIn_app (goodIn_of _ (by decide +kernel)) ggL_law_X5_differences
set_option maxRecDepth 20000 in
theorem ggL_law_X4_digest : GoodIn wsL_law wsX4_digest := goodIn_r _ [789, 790, 18, 19, 33, 24, 20, 32, 791, 792, 2, 793, 144, 145, 146, 17, 147, 44, 794, 795, 796, 797, 223, 224, 225, 226, 43, 227, 220, 221, 222, 384, 385, 386, 23, 387, 55, 798, 799, 800, 801, 435, 436, 437, 438, 50, 439, 502, 503, 504, 505, 506, 522, 523, 524, 525, 51, 537, 538, 539, 540, 52, 756, 757, 758, 31, 759, 74, 808, 809, 810, 811, 812, 813, 814, 840, 841, 842, 843, 844, 845, 846, 847, 856, 857, 858, 859, 860, 861, 862, 863] (by decide +kernel) (by decide +kernel)
set_option maxRecDepth 20000 in
theorem gL_law_X4_digest : GoodIn wsL_law (wsV RL 219 RX4 yX4_digest wsX4_digest) := goodIn_app (goodIn_of _ (by decide +kernel)) ggL_law_X4_digest
set_option maxRecDepth 20000 in
theorem ggL_law_X5_digest : GoodIn wsL_law wsX5_digest := goodIn_r _ [805, 152, 806, 807, 89, 178, 444, 90, 91, 92, 606, 94, 721, 164, 165, 166, 5, 167, 168, 169, 170, 171, 172, 173, 87, 88, 815, 816, 817, 818, 819, 820, 821, 822, 823, 824, 825, 826, 827, 828, 829, 830, 831, 832, 833, 834, 835, 836, 837, 838, 839] (by decide +kernel) (by decide +kernel)
set_option maxRecDepth 20000 in
theorem gL_law_X5_digest : GoodIn wsL_law (wsV RL 223 RX5 yX5_digest wsX5_digest) := goodIn_app (goodIn_of _ (by decide +kernel)) ggL_law_X5_digest
theorem dL_law_0 : decode cL_law 0 = .ok (.new 8, 3) := by decide +kernel
theorem dL_law_3 : decode cL_law 3 = .ok (.dup, 1) := by decide +kernel
theorem dL_law_4 : decode cL_law 4 = .ok (.invokespecial 93, 3) := by decide +kernel
theorem dL_law_7 : decode cL_law 7 = .ok (.astore_n 1, 1) := by decide +kernel
theorem dL_law_8 : decode cL_law 8 = .ok (.new 94, 3) := by decide +kernel
theorem dL_law_11 : decode cL_law 11 = .ok (.dup, 1) := by decide +kernel
theorem dL_law_12 : decode cL_law 12 = .ok (.invokespecial 96, 3) := by decide +kernel
theorem dL_law_15 : decode cL_law 15 = .ok (.astore_n 2, 1) := by decide +kernel
theorem dL_law_16 : decode cL_law 16 = .ok (.iconst 1, 1) := by decide +kernel
theorem dL_law_17 : decode cL_law 17 = .ok (.newarray .long, 2) := by decide +kernel
theorem dL_law_19 : decode cL_law 19 = .ok (.astore_n 3, 1) := by decide +kernel
theorem dL_law_20 : decode cL_law 20 = .ok (.iconst 1, 1) := by decide +kernel
theorem dL_law_21 : decode cL_law 21 = .ok (.newarray .double, 2) := by decide +kernel
theorem dL_law_23 : decode cL_law 23 = .ok (.astore 4, 2) := by decide +kernel
theorem dL_law_25 : decode cL_law 25 = .ok (.iconst 0, 1) := by decide +kernel
theorem dL_law_26 : decode cL_law 26 = .ok (.istore 5, 2) := by decide +kernel
theorem dL_law_28 : decode cL_law 28 = .ok (.iload 5, 2) := by decide +kernel
theorem dL_law_30 : decode cL_law 30 = .ok (.aload_n 0, 1) := by decide +kernel
theorem dL_law_31 : decode cL_law 31 = .ok (.arraylength, 1) := by decide +kernel
theorem dL_law_32 : decode cL_law 32 = .ok (.iconst 5, 1) := by decide +kernel
theorem dL_law_33 : decode cL_law 33 = .ok (.isub, 1) := by decide +kernel
theorem dL_law_34 : decode cL_law 34 = .ok (.if_icmp .gt 1816, 3) := by decide +kernel
theorem dL_law_37 : decode cL_law 37 = .ok (.aload_n 0, 1) := by decide +kernel
theorem dL_law_38 : decode cL_law 38 = .ok (.iload 5, 2) := by decide +kernel
theorem dL_law_40 : decode cL_law 40 = .ok (.iaload, 1) := by decide +kernel
theorem dL_law_41 : decode cL_law 41 = .ok (.bipush 63, 2) := by decide +kernel
theorem dL_law_43 : decode cL_law 43 = .ok (.iand, 1) := by decide +kernel
theorem dL_law_44 : decode cL_law 44 = .ok (.tableswitch 1800 0 33 #[152, 264, 344, 412, 492, 548, 616, 629, 642, 722, 790, 858, 914, 970, 983, 996, 1040, 1096, 1152, 1208, 1264, 1320, 1385, 1429, 1442, 1498, 1566, 1622, 1678, 1691, 1704, 1717, 1773, 1786], 152) := by decide +kernel
theorem dL_law_196 : decode cL_law 196 = .ok (.aload_n 1, 1) := by decide +kernel
theorem dL_law_197 : decode cL_law 197 = .ok (.aload_n 0, 1) := by decide +kernel
theorem dL_law_198 : decode cL_law 198 = .ok (.iload 5, 2) := by decide +kernel
theorem dL_law_200 : decode cL_law 200 = .ok (.iconst 1, 1) := by decide +kernel
theorem dL_law_201 : decode cL_law 201 = .ok (.iadd, 1) := by decide +kernel
theorem dL_law_202 : decode cL_law 202 = .ok (.iaload, 1) := by decide +kernel
theorem dL_law_203 : decode cL_law 203 = .ok (.aload_n 0, 1) := by decide +kernel
theorem dL_law_204 : decode cL_law 204 = .ok (.iload 5, 2) := by decide +kernel
theorem dL_law_206 : decode cL_law 206 = .ok (.iconst 2, 1) := by decide +kernel
theorem dL_law_207 : decode cL_law 207 = .ok (.iadd, 1) := by decide +kernel
theorem dL_law_208 : decode cL_law 208 = .ok (.iaload, 1) := by decide +kernel
theorem dL_law_209 : decode cL_law 209 = .ok (.i2l, 1) := by decide +kernel
theorem dL_law_210 : decode cL_law 210 = .ok (.bipush 32, 2) := by decide +kernel
theorem dL_law_212 : decode cL_law 212 = .ok (.lshl, 1) := by decide +kernel
theorem dL_law_213 : decode cL_law 213 = .ok (.aload_n 0, 1) := by decide +kernel
theorem dL_law_214 : decode cL_law 214 = .ok (.iload 5, 2) := by decide +kernel
theorem dL_law_216 : decode cL_law 216 = .ok (.iconst 3, 1) := by decide +kernel
theorem dL_law_217 : decode cL_law 217 = .ok (.iadd, 1) := by decide +kernel
theorem dL_law_218 : decode cL_law 218 = .ok (.iaload, 1) := by decide +kernel
theorem dL_law_219 : decode cL_law 219 = .ok (.i2l, 1) := by decide +kernel
theorem dL_law_220 : decode cL_law 220 = .ok (.ldc2_w 97, 3) := by decide +kernel
theorem dL_law_223 : decode cL_law 223 = .ok (.land, 1) := by decide +kernel
theorem dL_law_224 : decode cL_law 224 = .ok (.lor, 1) := by decide +kernel
theorem dL_law_225 : decode cL_law 225 = .ok (.aload_n 0, 1) := by decide +kernel
theorem dL_law_226 : decode cL_law 226 = .ok (.iload 5, 2) := by decide +kernel
theorem dL_law_228 : decode cL_law 228 = .ok (.iconst 4, 1) := by decide +kernel
theorem dL_law_229 : decode cL_law 229 = .ok (.iadd, 1) := by decide +kernel
theorem dL_law_230 : decode cL_law 230 = .ok (.iaload, 1) := by decide +kernel
theorem dL_law_231 : decode cL_law 231 = .ok (.aload_n 3, 1) := by decide +kernel
theorem dL_law_232 : decode cL_law 232 = .ok (.invokestatic 99, 3) := by decide +kernel
theorem dL_law_235 : decode cL_law 235 = .ok (.istore 6, 2) := by decide +kernel
theorem dL_law_237 : decode cL_law 237 = .ok (.aload_n 2, 1) := by decide +kernel
theorem dL_law_238 : decode cL_law 238 = .ok (.aload_n 0, 1) := by decide +kernel
theorem dL_law_239 : decode cL_law 239 = .ok (.iload 5, 2) := by decide +kernel
theorem dL_law_241 : decode cL_law 241 = .ok (.iconst 1, 1) := by decide +kernel
theorem dL_law_242 : decode cL_law 242 = .ok (.iadd, 1) := by decide +kernel
theorem dL_law_243 : decode cL_law 243 = .ok (.iaload, 1) := by decide +kernel
theorem dL_law_244 : decode cL_law 244 = .ok (.aload_n 0, 1) := by decide +kernel
theorem dL_law_245 : decode cL_law 245 = .ok (.iload 5, 2) := by decide +kernel
theorem dL_law_247 : decode cL_law 247 = .ok (.iconst 2, 1) := by decide +kernel
theorem dL_law_248 : decode cL_law 248 = .ok (.iadd, 1) := by decide +kernel
theorem dL_law_249 : decode cL_law 249 = .ok (.iaload, 1) := by decide +kernel
theorem dL_law_250 : decode cL_law 250 = .ok (.i2l, 1) := by decide +kernel
theorem dL_law_251 : decode cL_law 251 = .ok (.bipush 32, 2) := by decide +kernel
theorem dL_law_253 : decode cL_law 253 = .ok (.lshl, 1) := by decide +kernel
theorem dL_law_254 : decode cL_law 254 = .ok (.aload_n 0, 1) := by decide +kernel
theorem dL_law_255 : decode cL_law 255 = .ok (.iload 5, 2) := by decide +kernel
theorem dL_law_257 : decode cL_law 257 = .ok (.iconst 3, 1) := by decide +kernel
theorem dL_law_258 : decode cL_law 258 = .ok (.iadd, 1) := by decide +kernel
theorem dL_law_259 : decode cL_law 259 = .ok (.iaload, 1) := by decide +kernel
theorem dL_law_260 : decode cL_law 260 = .ok (.i2l, 1) := by decide +kernel
theorem dL_law_261 : decode cL_law 261 = .ok (.ldc2_w 97, 3) := by decide +kernel
theorem dL_law_264 : decode cL_law 264 = .ok (.land, 1) := by decide +kernel
theorem dL_law_265 : decode cL_law 265 = .ok (.lor, 1) := by decide +kernel
theorem dL_law_266 : decode cL_law 266 = .ok (.aload_n 0, 1) := by decide +kernel
theorem dL_law_267 : decode cL_law 267 = .ok (.iload 5, 2) := by decide +kernel
theorem dL_law_269 : decode cL_law 269 = .ok (.iconst 4, 1) := by decide +kernel
theorem dL_law_270 : decode cL_law 270 = .ok (.iadd, 1) := by decide +kernel
theorem dL_law_271 : decode cL_law 271 = .ok (.iaload, 1) := by decide +kernel
theorem dL_law_272 : decode cL_law 272 = .ok (.invokevirtual 104, 3) := by decide +kernel
theorem dL_law_275 : decode cL_law 275 = .ok (.istore 7, 2) := by decide +kernel
theorem dL_law_277 : decode cL_law 277 = .ok (.aload_n 2, 1) := by decide +kernel
theorem dL_law_278 : decode cL_law 278 = .ok (.invokevirtual 105, 3) := by decide +kernel
theorem dL_law_281 : decode cL_law 281 = .ok (.iload 6, 2) := by decide +kernel
theorem dL_law_283 : decode cL_law 283 = .ok (.if_icmp .eq 5, 3) := by decide +kernel
theorem dL_law_286 : decode cL_law 286 = .ok (.iconst 0, 1) := by decide +kernel
theorem dL_law_287 : decode cL_law 287 = .ok (.ireturn, 1) := by decide +kernel
theorem dL_law_288 : decode cL_law 288 = .ok (.iload 6, 2) := by decide +kernel
theorem dL_law_290 : decode cL_law 290 = .ok (.ifCond .ne 15, 3) := by decide +kernel
theorem dL_law_293 : decode cL_law 293 = .ok (.aload_n 3, 1) := by decide +kernel
theorem dL_law_294 : decode cL_law 294 = .ok (.iconst 0, 1) := by decide +kernel
theorem dL_law_295 : decode cL_law 295 = .ok (.laload, 1) := by decide +kernel
theorem dL_law_296 : decode cL_law 296 = .ok (.iload 7, 2) := by decide +kernel
theorem dL_law_298 : decode cL_law 298 = .ok (.i2l, 1) := by decide +kernel
theorem dL_law_299 : decode cL_law 299 = .ok (.lcmp, 1) := by decide +kernel
theorem dL_law_300 : decode cL_law 300 = .ok (.ifCond .eq 5, 3) := by decide +kernel
theorem dL_law_303 : decode cL_law 303 = .ok (.iconst 0, 1) := by decide +kernel
theorem dL_law_304 : decode cL_law 304 = .ok (.ireturn, 1) := by decide +kernel
theorem dL_law_305 : decode cL_law 305 = .ok (.goto 1539, 3) := by decide +kernel
theorem dL_law_308 : decode cL_law 308 = .ok (.aload_n 1, 1) := by decide +kernel
theorem dL_law_309 : decode cL_law 309 = .ok (.aload_n 0, 1) := by decide +kernel
theorem dL_law_310 : decode cL_law 310 = .ok (.iload 5, 2) := by decide +kernel
theorem dL_law_312 : decode cL_law 312 = .ok (.iconst 1, 1) := by decide +kernel
theorem dL_law_313 : decode cL_law 313 = .ok (.iadd, 1) := by decide +kernel
theorem dL_law_314 : decode cL_law 314 = .ok (.iaload, 1) := by decide +kernel
theorem dL_law_315 : decode cL_law 315 = .ok (.aload_n 0, 1) := by decide +kernel
theorem dL_law_316 : decode cL_law 316 = .ok (.iload 5, 2) := by decide +kernel
theorem dL_law_318 : decode cL_law 318 = .ok (.iconst 2, 1) := by decide +kernel
theorem dL_law_319 : decode cL_law 319 = .ok (.iadd, 1) := by decide +kernel
theorem dL_law_320 : decode cL_law 320 = .ok (.iaload, 1) := by decide +kernel
theorem dL_law_321 : decode cL_law 321 = .ok (.aload_n 0, 1) := by decide +kernel
theorem dL_law_322 : decode cL_law 322 = .ok (.iload 5, 2) := by decide +kernel
theorem dL_law_324 : decode cL_law 324 = .ok (.iconst 3, 1) := by decide +kernel
theorem dL_law_325 : decode cL_law 325 = .ok (.iadd, 1) := by decide +kernel
theorem dL_law_326 : decode cL_law 326 = .ok (.iaload, 1) := by decide +kernel
theorem dL_law_327 : decode cL_law 327 = .ok (.aload_n 3, 1) := by decide +kernel
theorem dL_law_328 : decode cL_law 328 = .ok (.invokestatic 108, 3) := by decide +kernel
theorem dL_law_331 : decode cL_law 331 = .ok (.istore 6, 2) := by decide +kernel
theorem dL_law_333 : decode cL_law 333 = .ok (.aload_n 2, 1) := by decide +kernel
theorem dL_law_334 : decode cL_law 334 = .ok (.aload_n 0, 1) := by decide +kernel
theorem dL_law_335 : decode cL_law 335 = .ok (.iload 5, 2) := by decide +kernel
theorem dL_law_337 : decode cL_law 337 = .ok (.iconst 1, 1) := by decide +kernel
theorem dL_law_338 : decode cL_law 338 = .ok (.iadd, 1) := by decide +kernel
theorem dL_law_339 : decode cL_law 339 = .ok (.iaload, 1) := by decide +kernel
theorem dL_law_340 : decode cL_law 340 = .ok (.aload_n 0, 1) := by decide +kernel
theorem dL_law_341 : decode cL_law 341 = .ok (.iload 5, 2) := by decide +kernel
theorem dL_law_343 : decode cL_law 343 = .ok (.iconst 2, 1) := by decide +kernel
theorem dL_law_344 : decode cL_law 344 = .ok (.iadd, 1) := by decide +kernel
theorem dL_law_345 : decode cL_law 345 = .ok (.iaload, 1) := by decide +kernel
theorem dL_law_346 : decode cL_law 346 = .ok (.aload_n 0, 1) := by decide +kernel
theorem dL_law_347 : decode cL_law 347 = .ok (.iload 5, 2) := by decide +kernel
theorem dL_law_349 : decode cL_law 349 = .ok (.iconst 3, 1) := by decide +kernel
theorem dL_law_350 : decode cL_law 350 = .ok (.iadd, 1) := by decide +kernel
theorem dL_law_351 : decode cL_law 351 = .ok (.iaload, 1) := by decide +kernel
theorem dL_law_352 : decode cL_law 352 = .ok (.invokevirtual 111, 3) := by decide +kernel
theorem dL_law_355 : decode cL_law 355 = .ok (.istore 7, 2) := by decide +kernel
theorem dL_law_357 : decode cL_law 357 = .ok (.aload_n 2, 1) := by decide +kernel
theorem dL_law_358 : decode cL_law 358 = .ok (.invokevirtual 105, 3) := by decide +kernel
theorem dL_law_361 : decode cL_law 361 = .ok (.iload 6, 2) := by decide +kernel
theorem dL_law_363 : decode cL_law 363 = .ok (.if_icmp .eq 5, 3) := by decide +kernel
theorem dL_law_366 : decode cL_law 366 = .ok (.iconst 0, 1) := by decide +kernel
theorem dL_law_367 : decode cL_law 367 = .ok (.ireturn, 1) := by decide +kernel
theorem dL_law_368 : decode cL_law 368 = .ok (.iload 6, 2) := by decide +kernel
theorem dL_law_370 : decode cL_law 370 = .ok (.ifCond .ne 15, 3) := by decide +kernel
theorem dL_law_373 : decode cL_law 373 = .ok (.aload_n 3, 1) := by decide +kernel
theorem dL_law_374 : decode cL_law 374 = .ok (.iconst 0, 1) := by decide +kernel
theorem dL_law_375 : decode cL_law 375 = .ok (.laload, 1) := by decide +kernel
theorem dL_law_376 : decode cL_law 376 = .ok (.iload 7, 2) := by decide +kernel
theorem dL_law_378 : decode cL_law 378 = .ok (.i2l, 1) := by decide +kernel
theorem dL_law_379 : decode cL_law 379 = .ok (.lcmp, 1) := by decide +kernel
theorem dL_law_380 : decode cL_law 380 = .ok (.ifCond .eq 5, 3) := by decide +kernel
theorem dL_law_383 : decode cL_law 383 = .ok (.iconst 0, 1) := by decide +kernel
theorem dL_law_384 : decode cL_law 384 = .ok (.ireturn, 1) := by decide +kernel
theorem dL_law_385 : decode cL_law 385 = .ok (.goto 1459, 3) := by decide +kernel
theorem dL_law_388 : decode cL_law 388 = .ok (.aload_n 1, 1) := by decide +kernel
theorem dL_law_389 : decode cL_law 389 = .ok (.aload_n 0, 1) := by decide +kernel
theorem dL_law_390 : decode cL_law 390 = .ok (.iload 5, 2) := by decide +kernel
theorem dL_law_392 : decode cL_law 392 = .ok (.iconst 1, 1) := by decide +kernel
theorem dL_law_393 : decode cL_law 393 = .ok (.iadd, 1) := by decide +kernel
theorem dL_law_394 : decode cL_law 394 = .ok (.iaload, 1) := by decide +kernel
theorem dL_law_395 : decode cL_law 395 = .ok (.aload_n 0, 1) := by decide +kernel
theorem dL_law_396 : decode cL_law 396 = .ok (.iload 5, 2) := by decide +kernel
theorem dL_law_398 : decode cL_law 398 = .ok (.iconst 2, 1) := by decide +kernel
theorem dL_law_399 : decode cL_law 399 = .ok (.iadd, 1) := by decide +kernel
theorem dL_law_400 : decode cL_law 400 = .ok (.iaload, 1) := by decide +kernel
theorem dL_law_401 : decode cL_law 401 = .ok (.aload_n 3, 1) := by decide +kernel
theorem dL_law_402 : decode cL_law 402 = .ok (.invokestatic 112, 3) := by decide +kernel
theorem dL_law_405 : decode cL_law 405 = .ok (.istore 6, 2) := by decide +kernel
theorem dL_law_407 : decode cL_law 407 = .ok (.aload_n 2, 1) := by decide +kernel
theorem dL_law_408 : decode cL_law 408 = .ok (.aload_n 0, 1) := by decide +kernel
theorem dL_law_409 : decode cL_law 409 = .ok (.iload 5, 2) := by decide +kernel
theorem dL_law_411 : decode cL_law 411 = .ok (.iconst 1, 1) := by decide +kernel
theorem dL_law_412 : decode cL_law 412 = .ok (.iadd, 1) := by decide +kernel
theorem dL_law_413 : decode cL_law 413 = .ok (.iaload, 1) := by decide +kernel
theorem dL_law_414 : decode cL_law 414 = .ok (.aload_n 0, 1) := by decide +kernel
theorem dL_law_415 : decode cL_law 415 = .ok (.iload 5, 2) := by decide +kernel
theorem dL_law_417 : decode cL_law 417 = .ok (.iconst 2, 1) := by decide +kernel
theorem dL_law_418 : decode cL_law 418 = .ok (.iadd, 1) := by decide +kernel
theorem dL_law_419 : decode cL_law 419 = .ok (.iaload, 1) := by decide +kernel
theorem dL_law_420 : decode cL_law 420 = .ok (.invokevirtual 115, 3) := by decide +kernel
theorem dL_law_423 : decode cL_law 423 = .ok (.istore 7, 2) := by decide +kernel
theorem dL_law_425 : decode cL_law 425 = .ok (.aload_n 2, 1) := by decide +kernel
theorem dL_law_426 : decode cL_law 426 = .ok (.invokevirtual 105, 3) := by decide +kernel
theorem dL_law_429 : decode cL_law 429 = .ok (.iload 6, 2) := by decide +kernel
theorem dL_law_431 : decode cL_law 431 = .ok (.if_icmp .eq 5, 3) := by decide +kernel
theorem dL_law_434 : decode cL_law 434 = .ok (.iconst 0, 1) := by decide +kernel
theorem dL_law_435 : decode cL_law 435 = .ok (.ireturn, 1) := by decide +kernel
theorem dL_law_436 : decode cL_law 436 = .ok (.iload 6, 2) := by decide +kernel
theorem dL_law_438 : decode cL_law 438 = .ok (.ifCond .ne 15, 3) := by decide +kernel
theorem dL_law_441 : decode cL_law 441 = .ok (.aload_n 3, 1) := by decide +kernel
theorem dL_law_442 : decode cL_law 442 = .ok (.iconst 0, 1) := by decide +kernel
theorem dL_law_443 : decode cL_law 443 = .ok (.laload, 1) := by decide +kernel
theorem dL_law_444 : decode cL_law 444 = .ok (.iload 7, 2) := by decide +kernel
theorem dL_law_446 : decode cL_law 446 = .ok (.i2l, 1) := by decide +kernel
theorem dL_law_447 : decode cL_law 447 = .ok (.lcmp, 1) := by decide +kernel
theorem dL_law_448 : decode cL_law 448 = .ok (.ifCond .eq 5, 3) := by decide +kernel
theorem dL_law_451 : decode cL_law 451 = .ok (.iconst 0, 1) := by decide +kernel
theorem dL_law_452 : decode cL_law 452 = .ok (.ireturn, 1) := by decide +kernel
theorem dL_law_453 : decode cL_law 453 = .ok (.goto 1391, 3) := by decide +kernel
theorem dL_law_456 : decode cL_law 456 = .ok (.aload_n 1, 1) := by decide +kernel
theorem dL_law_457 : decode cL_law 457 = .ok (.aload_n 0, 1) := by decide +kernel
theorem dL_law_458 : decode cL_law 458 = .ok (.iload 5, 2) := by decide +kernel
theorem dL_law_460 : decode cL_law 460 = .ok (.iconst 1, 1) := by decide +kernel
theorem dL_law_461 : decode cL_law 461 = .ok (.iadd, 1) := by decide +kernel
theorem dL_law_462 : decode cL_law 462 = .ok (.iaload, 1) := by decide +kernel
theorem dL_law_463 : decode cL_law 463 = .ok (.aload_n 0, 1) := by decide +kernel
theorem dL_law_464 : decode cL_law 464 = .ok (.iload 5, 2) := by decide +kernel
theorem dL_law_466 : decode cL_law 466 = .ok (.iconst 2, 1) := by decide +kernel
theorem dL_law_467 : decode cL_law 467 = .ok (.iadd, 1) := by decide +kernel
theorem dL_law_468 : decode cL_law 468 = .ok (.iaload, 1) := by decide +kernel
theorem dL_law_469 : decode cL_law 469 = .ok (.aload_n 0, 1) := by decide +kernel
theorem dL_law_470 : decode cL_law 470 = .ok (.iload 5, 2) := by decide +kernel
theorem dL_law_472 : decode cL_law 472 = .ok (.iconst 3, 1) := by decide +kernel
theorem dL_law_473 : decode cL_law 473 = .ok (.iadd, 1) := by decide +kernel
theorem dL_law_474 : decode cL_law 474 = .ok (.iaload, 1) := by decide +kernel
theorem dL_law_475 : decode cL_law 475 = .ok (.aload_n 3, 1) := by decide +kernel
theorem dL_law_476 : decode cL_law 476 = .ok (.invokestatic 116, 3) := by decide +kernel
theorem dL_law_479 : decode cL_law 479 = .ok (.istore 6, 2) := by decide +kernel
theorem dL_law_481 : decode cL_law 481 = .ok (.aload_n 2, 1) := by decide +kernel
theorem dL_law_482 : decode cL_law 482 = .ok (.aload_n 0, 1) := by decide +kernel
theorem dL_law_483 : decode cL_law 483 = .ok (.iload 5, 2) := by decide +kernel
theorem dL_law_485 : decode cL_law 485 = .ok (.iconst 1, 1) := by decide +kernel
theorem dL_law_486 : decode cL_law 486 = .ok (.iadd, 1) := by decide +kernel
theorem dL_law_487 : decode cL_law 487 = .ok (.iaload, 1) := by decide +kernel
theorem dL_law_488 : decode cL_law 488 = .ok (.aload_n 0, 1) := by decide +kernel
theorem dL_law_489 : decode cL_law 489 = .ok (.iload 5, 2) := by decide +kernel
theorem dL_law_491 : decode cL_law 491 = .ok (.iconst 2, 1) := by decide +kernel
theorem dL_law_492 : decode cL_law 492 = .ok (.iadd, 1) := by decide +kernel
theorem dL_law_493 : decode cL_law 493 = .ok (.iaload, 1) := by decide +kernel
theorem dL_law_494 : decode cL_law 494 = .ok (.aload_n 0, 1) := by decide +kernel
theorem dL_law_495 : decode cL_law 495 = .ok (.iload 5, 2) := by decide +kernel
theorem dL_law_497 : decode cL_law 497 = .ok (.iconst 3, 1) := by decide +kernel
theorem dL_law_498 : decode cL_law 498 = .ok (.iadd, 1) := by decide +kernel
theorem dL_law_499 : decode cL_law 499 = .ok (.iaload, 1) := by decide +kernel
theorem dL_law_500 : decode cL_law 500 = .ok (.invokevirtual 118, 3) := by decide +kernel
theorem dL_law_503 : decode cL_law 503 = .ok (.istore 7, 2) := by decide +kernel
theorem dL_law_505 : decode cL_law 505 = .ok (.aload_n 2, 1) := by decide +kernel
theorem dL_law_506 : decode cL_law 506 = .ok (.invokevirtual 105, 3) := by decide +kernel
theorem dL_law_509 : decode cL_law 509 = .ok (.iload 6, 2) := by decide +kernel
theorem dL_law_511 : decode cL_law 511 = .ok (.if_icmp .eq 5, 3) := by decide +kernel
theorem dL_law_514 : decode cL_law 514 = .ok (.iconst 0, 1) := by decide +kernel
theorem dL_law_515 : decode cL_law 515 = .ok (.ireturn, 1) := by decide +kernel
theorem dL_law_516 : decode cL_law 516 = .ok (.iload 6, 2) := by decide +kernel
theorem dL_law_518 : decode cL_law 518 = .ok (.ifCond .ne 15, 3) := by decide +kernel
theorem dL_law_521 : decode cL_law 521 = .ok (.aload_n 3, 1) := by decide +kernel
theorem dL_law_522 : decode cL_law 522 = .ok (.iconst 0, 1) := by decide +kernel
theorem dL_law_523 : decode cL_law 523 = .ok (.laload, 1) := by decide +kernel
theorem dL_law_524 : decode cL_law 524 = .ok (.iload 7, 2) := by decide +kernel
theorem dL_law_526 : decode cL_law 526 = .ok (.i2l, 1) := by decide +kernel
theorem dL_law_527 : decode cL_law 527 = .ok (.lcmp, 1) := by decide +kernel
theorem dL_law_528 : decode cL_law 528 = .ok (.ifCond .eq 5, 3) := by decide +kernel
theorem dL_law_531 : decode cL_law 531 = .ok (.iconst 0, 1) := by decide +kernel
theorem dL_law_532 : decode cL_law 532 = .ok (.ireturn, 1) := by decide +kernel
theorem dL_law_533 : decode cL_law 533 = .ok (.goto 1311, 3) := by decide +kernel
theorem dL_law_536 : decode cL_law 536 = .ok (.aload_n 1, 1) := by decide +kernel
theorem dL_law_537 : decode cL_law 537 = .ok (.aload_n 0, 1) := by decide +kernel
theorem dL_law_538 : decode cL_law 538 = .ok (.iload 5, 2) := by decide +kernel
theorem dL_law_540 : decode cL_law 540 = .ok (.iconst 1, 1) := by decide +kernel
theorem dL_law_541 : decode cL_law 541 = .ok (.iadd, 1) := by decide +kernel
theorem dL_law_542 : decode cL_law 542 = .ok (.iaload, 1) := by decide +kernel
theorem dL_law_543 : decode cL_law 543 = .ok (.aload_n 3, 1) := by decide +kernel
theorem dL_law_544 : decode cL_law 544 = .ok (.invokestatic 119, 3) := by decide +kernel
theorem dL_law_547 : decode cL_law 547 = .ok (.istore 6, 2) := by decide +kernel
theorem dL_law_549 : decode cL_law 549 = .ok (.aload_n 2, 1) := by decide +kernel
theorem dL_law_550 : decode cL_law 550 = .ok (.aload_n 0, 1) := by decide +kernel
theorem dL_law_551 : decode cL_law 551 = .ok (.iload 5, 2) := by decide +kernel
theorem dL_law_553 : decode cL_law 553 = .ok (.iconst 1, 1) := by decide +kernel
theorem dL_law_554 : decode cL_law 554 = .ok (.iadd, 1) := by decide +kernel
theorem dL_law_555 : decode cL_law 555 = .ok (.iaload, 1) := by decide +kernel
theorem dL_law_556 : decode cL_law 556 = .ok (.invokevirtual 122, 3) := by decide +kernel
theorem dL_law_559 : decode cL_law 559 = .ok (.istore 7, 2) := by decide +kernel
theorem dL_law_561 : decode cL_law 561 = .ok (.aload_n 2, 1) := by decide +kernel
theorem dL_law_562 : decode cL_law 562 = .ok (.invokevirtual 105, 3) := by decide +kernel
theorem dL_law_565 : decode cL_law 565 = .ok (.iload 6, 2) := by decide +kernel
theorem dL_law_567 : decode cL_law 567 = .ok (.if_icmp .eq 5, 3) := by decide +kernel
theorem dL_law_570 : decode cL_law 570 = .ok (.iconst 0, 1) := by decide +kernel
theorem dL_law_571 : decode cL_law 571 = .ok (.ireturn, 1) := by decide +kernel
theorem dL_law_572 : decode cL_law 572 = .ok (.iload 6, 2) := by decide +kernel
theorem dL_law_574 : decode cL_law 574 = .ok (.ifCond .ne 15, 3) := by decide +kernel
theorem dL_law_577 : decode cL_law 577 = .ok (.aload_n 3, 1) := by decide +kernel
theorem dL_law_578 : decode cL_law 578 = .ok (.iconst 0, 1) := by decide +kernel
theorem dL_law_579 : decode cL_law 579 = .ok (.laload, 1) := by decide +kernel
theorem dL_law_580 : decode cL_law 580 = .ok (.iload 7, 2) := by decide +kernel
theorem dL_law_582 : decode cL_law 582 = .ok (.i2l, 1) := by decide +kernel
theorem dL_law_583 : decode cL_law 583 = .ok (.lcmp, 1) := by decide +kernel
theorem dL_law_584 : decode cL_law 584 = .ok (.ifCond .eq 5, 3) := by decide +kernel
theorem dL_law_587 : decode cL_law 587 = .ok (.iconst 0, 1) := by decide +kernel
theorem dL_law_588 : decode cL_law 588 = .ok (.ireturn, 1) := by decide +kernel
theorem dL_law_589 : decode cL_law 589 = .ok (.goto 1255, 3) := by decide +kernel
theorem dL_law_592 : decode cL_law 592 = .ok (.aload_n 1, 1) := by decide +kernel
theorem dL_law_593 : decode cL_law 593 = .ok (.aload_n 0, 1) := by decide +kernel
theorem dL_law_594 : decode cL_law 594 = .ok (.iload 5, 2) := by decide +kernel
theorem dL_law_596 : decode cL_law 596 = .ok (.iconst 1, 1) := by decide +kernel
theorem dL_law_597 : decode cL_law 597 = .ok (.iadd, 1) := by decide +kernel
theorem dL_law_598 : decode cL_law 598 = .ok (.iaload, 1) := by decide +kernel
theorem dL_law_599 : decode cL_law 599 = .ok (.aload_n 0, 1) := by decide +kernel
theorem dL_law_600 : decode cL_law 600 = .ok (.iload 5, 2) := by decide +kernel
theorem dL_law_602 : decode cL_law 602 = .ok (.iconst 2, 1) := by decide +kernel
theorem dL_law_603 : decode cL_law 603 = .ok (.iadd, 1) := by decide +kernel
theorem dL_law_604 : decode cL_law 604 = .ok (.iaload, 1) := by decide +kernel
theorem dL_law_605 : decode cL_law 605 = .ok (.aload_n 3, 1) := by decide +kernel
theorem dL_law_606 : decode cL_law 606 = .ok (.invokestatic 123, 3) := by decide +kernel
theorem dL_law_609 : decode cL_law 609 = .ok (.istore 6, 2) := by decide +kernel
theorem dL_law_611 : decode cL_law 611 = .ok (.aload_n 2, 1) := by decide +kernel
theorem dL_law_612 : decode cL_law 612 = .ok (.aload_n 0, 1) := by decide +kernel
theorem dL_law_613 : decode cL_law 613 = .ok (.iload 5, 2) := by decide +kernel
theorem dL_law_615 : decode cL_law 615 = .ok (.iconst 1, 1) := by decide +kernel
theorem dL_law_616 : decode cL_law 616 = .ok (.iadd, 1) := by decide +kernel
theorem dL_law_617 : decode cL_law 617 = .ok (.iaload, 1) := by decide +kernel
theorem dL_law_618 : decode cL_law 618 = .ok (.aload_n 0, 1) := by decide +kernel
theorem dL_law_619 : decode cL_law 619 = .ok (.iload 5, 2) := by decide +kernel
theorem dL_law_621 : decode cL_law 621 = .ok (.iconst 2, 1) := by decide +kernel
theorem dL_law_622 : decode cL_law 622 = .ok (.iadd, 1) := by decide +kernel
theorem dL_law_623 : decode cL_law 623 = .ok (.iaload, 1) := by decide +kernel
theorem dL_law_624 : decode cL_law 624 = .ok (.invokevirtual 125, 3) := by decide +kernel
theorem dL_law_627 : decode cL_law 627 = .ok (.istore 7, 2) := by decide +kernel
theorem dL_law_629 : decode cL_law 629 = .ok (.aload_n 2, 1) := by decide +kernel
theorem dL_law_630 : decode cL_law 630 = .ok (.invokevirtual 105, 3) := by decide +kernel
theorem dL_law_633 : decode cL_law 633 = .ok (.iload 6, 2) := by decide +kernel
theorem dL_law_635 : decode cL_law 635 = .ok (.if_icmp .eq 5, 3) := by decide +kernel
theorem dL_law_638 : decode cL_law 638 = .ok (.iconst 0, 1) := by decide +kernel
theorem dL_law_639 : decode cL_law 639 = .ok (.ireturn, 1) := by decide +kernel
theorem dL_law_640 : decode cL_law 640 = .ok (.iload 6, 2) := by decide +kernel
theorem dL_law_642 : decode cL_law 642 = .ok (.ifCond .ne 15, 3) := by decide +kernel
theorem dL_law_645 : decode cL_law 645 = .ok (.aload_n 3, 1) := by decide +kernel
theorem dL_law_646 : decode cL_law 646 = .ok (.iconst 0, 1) := by decide +kernel
theorem dL_law_647 : decode cL_law 647 = .ok (.laload, 1) := by decide +kernel
theorem dL_law_648 : decode cL_law 648 = .ok (.iload 7, 2) := by decide +kernel
theorem dL_law_650 : decode cL_law 650 = .ok (.i2l, 1) := by decide +kernel
theorem dL_law_651 : decode cL_law 651 = .ok (.lcmp, 1) := by decide +kernel
theorem dL_law_652 : decode cL_law 652 = .ok (.ifCond .eq 5, 3) := by decide +kernel
theorem dL_law_655 : decode cL_law 655 = .ok (.iconst 0, 1) := by decide +kernel
theorem dL_law_656 : decode cL_law 656 = .ok (.ireturn, 1) := by decide +kernel
theorem dL_law_657 : decode cL_law 657 = .ok (.goto 1187, 3) := by decide +kernel
theorem dL_law_660 : decode cL_law 660 = .ok (.aload_n 1, 1) := by decide +kernel
theorem dL_law_661 : decode cL_law 661 = .ok (.invokevirtual 126, 3) := by decide +kernel
theorem dL_law_664 : decode cL_law 664 = .ok (.aload_n 2, 1) := by decide +kernel
theorem dL_law_665 : decode cL_law 665 = .ok (.invokevirtual 129, 3) := by decide +kernel
theorem dL_law_668 : decode cL_law 668 = .ok (.if_icmp .eq 1176, 3) := by decide +kernel
theorem dL_law_671 : decode cL_law 671 = .ok (.iconst 0, 1) := by decide +kernel
theorem dL_law_672 : decode cL_law 672 = .ok (.ireturn, 1) := by decide +kernel
theorem dL_law_673 : decode cL_law 673 = .ok (.aload_n 1, 1) := by decide +kernel
theorem dL_law_674 : decode cL_law 674 = .ok (.invokevirtual 130, 3) := by decide +kernel
theorem dL_law_677 : decode cL_law 677 = .ok (.aload_n 2, 1) := by decide +kernel
theorem dL_law_678 : decode cL_law 678 = .ok (.invokevirtual 133, 3) := by decide +kernel
theorem dL_law_681 : decode cL_law 681 = .ok (.if_icmp .eq 1163, 3) := by decide +kernel
theorem dL_law_684 : decode cL_law 684 = .ok (.iconst 0, 1) := by decide +kernel
theorem dL_law_685 : decode cL_law 685 = .ok (.ireturn, 1) := by decide +kernel
theorem dL_law_686 : decode cL_law 686 = .ok (.aload_n 1, 1) := by decide +kernel
theorem dL_law_687 : decode cL_law 687 = .ok (.aload_n 0, 1) := by decide +kernel
theorem dL_law_688 : decode cL_law 688 = .ok (.iload 5, 2) := by decide +kernel
theorem dL_law_690 : decode cL_law 690 = .ok (.iconst 1, 1) := by decide +kernel
theorem dL_law_691 : decode cL_law 691 = .ok (.iadd, 1) := by decide +kernel
theorem dL_law_692 : decode cL_law 692 = .ok (.iaload, 1) := by decide +kernel
theorem dL_law_693 : decode cL_law 693 = .ok (.aload_n 0, 1) := by decide +kernel
theorem dL_law_694 : decode cL_law 694 = .ok (.iload 5, 2) := by decide +kernel
theorem dL_law_696 : decode cL_law 696 = .ok (.iconst 2, 1) := by decide +kernel
theorem dL_law_697 : decode cL_law 697 = .ok (.iadd, 1) := by decide +kernel
theorem dL_law_698 : decode cL_law 698 = .ok (.iaload, 1) := by decide +kernel
theorem dL_law_699 : decode cL_law 699 = .ok (.aload_n 0, 1) := by decide +kernel
theorem dL_law_700 : decode cL_law 700 = .ok (.iload 5, 2) := by decide +kernel
theorem dL_law_702 : decode cL_law 702 = .ok (.iconst 3, 1) := by decide +kernel
theorem dL_law_703 : decode cL_law 703 = .ok (.iadd, 1) := by decide +kernel
theorem dL_law_704 : decode cL_law 704 = .ok (.iaload, 1) := by decide +kernel
theorem dL_law_705 : decode cL_law 705 = .ok (.aload_n 3, 1) := by decide +kernel
theorem dL_law_706 : decode cL_law 706 = .ok (.invokestatic 134, 3) := by decide +kernel
theorem dL_law_709 : decode cL_law 709 = .ok (.istore 6, 2) := by decide +kernel
theorem dL_law_711 : decode cL_law 711 = .ok (.aload_n 2, 1) := by decide +kernel
theorem dL_law_712 : decode cL_law 712 = .ok (.aload_n 0, 1) := by decide +kernel
theorem dL_law_713 : decode cL_law 713 = .ok (.iload 5, 2) := by decide +kernel
theorem dL_law_715 : decode cL_law 715 = .ok (.iconst 1, 1) := by decide +kernel
theorem dL_law_716 : decode cL_law 716 = .ok (.iadd, 1) := by decide +kernel
theorem dL_law_717 : decode cL_law 717 = .ok (.iaload, 1) := by decide +kernel
theorem dL_law_718 : decode cL_law 718 = .ok (.aload_n 0, 1) := by decide +kernel
theorem dL_law_719 : decode cL_law 719 = .ok (.iload 5, 2) := by decide +kernel
theorem dL_law_721 : decode cL_law 721 = .ok (.iconst 2, 1) := by decide +kernel
theorem dL_law_722 : decode cL_law 722 = .ok (.iadd, 1) := by decide +kernel
theorem dL_law_723 : decode cL_law 723 = .ok (.iaload, 1) := by decide +kernel
theorem dL_law_724 : decode cL_law 724 = .ok (.aload_n 0, 1) := by decide +kernel
theorem dL_law_725 : decode cL_law 725 = .ok (.iload 5, 2) := by decide +kernel
theorem dL_law_727 : decode cL_law 727 = .ok (.iconst 3, 1) := by decide +kernel
theorem dL_law_728 : decode cL_law 728 = .ok (.iadd, 1) := by decide +kernel
theorem dL_law_729 : decode cL_law 729 = .ok (.iaload, 1) := by decide +kernel
theorem dL_law_730 : decode cL_law 730 = .ok (.invokevirtual 136, 3) := by decide +kernel
theorem dL_law_733 : decode cL_law 733 = .ok (.istore 7, 2) := by decide +kernel
theorem dL_law_735 : decode cL_law 735 = .ok (.aload_n 2, 1) := by decide +kernel
theorem dL_law_736 : decode cL_law 736 = .ok (.invokevirtual 105, 3) := by decide +kernel
theorem dL_law_739 : decode cL_law 739 = .ok (.iload 6, 2) := by decide +kernel
theorem dL_law_741 : decode cL_law 741 = .ok (.if_icmp .eq 5, 3) := by decide +kernel
theorem dL_law_744 : decode cL_law 744 = .ok (.iconst 0, 1) := by decide +kernel
theorem dL_law_745 : decode cL_law 745 = .ok (.ireturn, 1) := by decide +kernel
theorem dL_law_746 : decode cL_law 746 = .ok (.iload 6, 2) := by decide +kernel
theorem dL_law_748 : decode cL_law 748 = .ok (.ifCond .ne 15, 3) := by decide +kernel
theorem dL_law_751 : decode cL_law 751 = .ok (.aload_n 3, 1) := by decide +kernel
theorem dL_law_752 : decode cL_law 752 = .ok (.iconst 0, 1) := by decide +kernel
theorem dL_law_753 : decode cL_law 753 = .ok (.laload, 1) := by decide +kernel
theorem dL_law_754 : decode cL_law 754 = .ok (.iload 7, 2) := by decide +kernel
theorem dL_law_756 : decode cL_law 756 = .ok (.i2l, 1) := by decide +kernel
theorem dL_law_757 : decode cL_law 757 = .ok (.lcmp, 1) := by decide +kernel
theorem dL_law_758 : decode cL_law 758 = .ok (.ifCond .eq 5, 3) := by decide +kernel
theorem dL_law_761 : decode cL_law 761 = .ok (.iconst 0, 1) := by decide +kernel
theorem dL_law_762 : decode cL_law 762 = .ok (.ireturn, 1) := by decide +kernel
theorem dL_law_763 : decode cL_law 763 = .ok (.goto 1081, 3) := by decide +kernel
theorem dL_law_766 : decode cL_law 766 = .ok (.aload_n 1, 1) := by decide +kernel
theorem dL_law_767 : decode cL_law 767 = .ok (.aload_n 0, 1) := by decide +kernel
theorem dL_law_768 : decode cL_law 768 = .ok (.iload 5, 2) := by decide +kernel
theorem dL_law_770 : decode cL_law 770 = .ok (.iconst 1, 1) := by decide +kernel
theorem dL_law_771 : decode cL_law 771 = .ok (.iadd, 1) := by decide +kernel
theorem dL_law_772 : decode cL_law 772 = .ok (.iaload, 1) := by decide +kernel
theorem dL_law_773 : decode cL_law 773 = .ok (.aload_n 0, 1) := by decide +kernel
theorem dL_law_774 : decode cL_law 774 = .ok (.iload 5, 2) := by decide +kernel
theorem dL_law_776 : decode cL_law 776 = .ok (.iconst 2, 1) := by decide +kernel
theorem dL_law_777 : decode cL_law 777 = .ok (.iadd, 1) := by decide +kernel
theorem dL_law_778 : decode cL_law 778 = .ok (.iaload, 1) := by decide +kernel
theorem dL_law_779 : decode cL_law 779 = .ok (.aload_n 3, 1) := by decide +kernel
theorem dL_law_780 : decode cL_law 780 = .ok (.invokestatic 137, 3) := by decide +kernel
theorem dL_law_783 : decode cL_law 783 = .ok (.istore 6, 2) := by decide +kernel
theorem dL_law_785 : decode cL_law 785 = .ok (.aload_n 2, 1) := by decide +kernel
theorem dL_law_786 : decode cL_law 786 = .ok (.aload_n 0, 1) := by decide +kernel
theorem dL_law_787 : decode cL_law 787 = .ok (.iload 5, 2) := by decide +kernel
theorem dL_law_789 : decode cL_law 789 = .ok (.iconst 1, 1) := by decide +kernel
theorem dL_law_790 : decode cL_law 790 = .ok (.iadd, 1) := by decide +kernel
theorem dL_law_791 : decode cL_law 791 = .ok (.iaload, 1) := by decide +kernel
theorem dL_law_792 : decode cL_law 792 = .ok (.aload_n 0, 1) := by decide +kernel
theorem dL_law_793 : decode cL_law 793 = .ok (.iload 5, 2) := by decide +kernel
theorem dL_law_795 : decode cL_law 795 = .ok (.iconst 2, 1) := by decide +kernel
theorem dL_law_796 : decode cL_law 796 = .ok (.iadd, 1) := by decide +kernel
theorem dL_law_797 : decode cL_law 797 = .ok (.iaload, 1) := by decide +kernel
theorem dL_law_798 : decode cL_law 798 = .ok (.invokevirtual 139, 3) := by decide +kernel
theorem dL_law_801 : decode cL_law 801 = .ok (.istore 7, 2) := by decide +kernel
theorem dL_law_803 : decode cL_law 803 = .ok (.aload_n 2, 1) := by decide +kernel
theorem dL_law_804 : decode cL_law 804 = .ok (.invokevirtual 105, 3) := by decide +kernel
theorem dL_law_807 : decode cL_law 807 = .ok (.iload 6, 2) := by decide +kernel
theorem dL_law_809 : decode cL_law 809 = .ok (.if_icmp .eq 5, 3) := by decide +kernel
theorem dL_law_812 : decode cL_law 812 = .ok (.iconst 0, 1) := by decide +kernel
theorem dL_law_813 : decode cL_law 813 = .ok (.ireturn, 1) := by decide +kernel
theorem dL_law_814 : decode cL_law 814 = .ok (.iload 6, 2) := by decide +kernel
theorem dL_law_816 : decode cL_law 816 = .ok (.ifCond .ne 15, 3) := by decide +kernel
theorem dL_law_819 : decode cL_law 819 = .ok (.aload_n 3, 1) := by decide +kernel
theorem dL_law_820 : decode cL_law 820 = .ok (.iconst 0, 1) := by decide +kernel
theorem dL_law_821 : decode cL_law 821 = .ok (.laload, 1) := by decide +kernel
theorem dL_law_822 : decode cL_law 822 = .ok (.iload 7, 2) := by decide +kernel
theorem dL_law_824 : decode cL_law 824 = .ok (.i2l, 1) := by decide +kernel
theorem dL_law_825 : decode cL_law 825 = .ok (.lcmp, 1) := by decide +kernel
theorem dL_law_826 : decode cL_law 826 = .ok (.ifCond .eq 5, 3) := by decide +kernel
theorem dL_law_829 : decode cL_law 829 = .ok (.iconst 0, 1) := by decide +kernel
theorem dL_law_830 : decode cL_law 830 = .ok (.ireturn, 1) := by decide +kernel
theorem dL_law_831 : decode cL_law 831 = .ok (.goto 1013, 3) := by decide +kernel
theorem dL_law_834 : decode cL_law 834 = .ok (.aload_n 1, 1) := by decide +kernel
theorem dL_law_835 : decode cL_law 835 = .ok (.aload_n 0, 1) := by decide +kernel
theorem dL_law_836 : decode cL_law 836 = .ok (.iload 5, 2) := by decide +kernel
theorem dL_law_838 : decode cL_law 838 = .ok (.iconst 1, 1) := by decide +kernel
theorem dL_law_839 : decode cL_law 839 = .ok (.iadd, 1) := by decide +kernel
theorem dL_law_840 : decode cL_law 840 = .ok (.iaload, 1) := by decide +kernel
theorem dL_law_841 : decode cL_law 841 = .ok (.aload_n 0, 1) := by decide +kernel
theorem dL_law_842 : decode cL_law 842 = .ok (.iload 5, 2) := by decide +kernel
theorem dL_law_844 : decode cL_law 844 = .ok (.iconst 2, 1) := by decide +kernel
theorem dL_law_845 : decode cL_law 845 = .ok (.iadd, 1) := by decide +kernel
theorem dL_law_846 : decode cL_law 846 = .ok (.iaload, 1) := by decide +kernel
theorem dL_law_847 : decode cL_law 847 = .ok (.aload_n 3, 1) := by decide +kernel
theorem dL_law_848 : decode cL_law 848 = .ok (.invokestatic 140, 3) := by decide +kernel
theorem dL_law_851 : decode cL_law 851 = .ok (.istore 6, 2) := by decide +kernel
theorem dL_law_853 : decode cL_law 853 = .ok (.aload_n 2, 1) := by decide +kernel
theorem dL_law_854 : decode cL_law 854 = .ok (.aload_n 0, 1) := by decide +kernel
theorem dL_law_855 : decode cL_law 855 = .ok (.iload 5, 2) := by decide +kernel
theorem dL_law_857 : decode cL_law 857 = .ok (.iconst 1, 1) := by decide +kernel
theorem dL_law_858 : decode cL_law 858 = .ok (.iadd, 1) := by decide +kernel
theorem dL_law_859 : decode cL_law 859 = .ok (.iaload, 1) := by decide +kernel
theorem dL_law_860 : decode cL_law 860 = .ok (.aload_n 0, 1) := by decide +kernel
theorem dL_law_861 : decode cL_law 861 = .ok (.iload 5, 2) := by decide +kernel
theorem dL_law_863 : decode cL_law 863 = .ok (.iconst 2, 1) := by decide +kernel
theorem dL_law_864 : decode cL_law 864 = .ok (.iadd, 1) := by decide +kernel
theorem dL_law_865 : decode cL_law 865 = .ok (.iaload, 1) := by decide +kernel
theorem dL_law_866 : decode cL_law 866 = .ok (.invokevirtual 142, 3) := by decide +kernel
theorem dL_law_869 : decode cL_law 869 = .ok (.istore 7, 2) := by decide +kernel
theorem dL_law_871 : decode cL_law 871 = .ok (.aload_n 2, 1) := by decide +kernel
theorem dL_law_872 : decode cL_law 872 = .ok (.invokevirtual 105, 3) := by decide +kernel
theorem dL_law_875 : decode cL_law 875 = .ok (.iload 6, 2) := by decide +kernel
theorem dL_law_877 : decode cL_law 877 = .ok (.if_icmp .eq 5, 3) := by decide +kernel
theorem dL_law_880 : decode cL_law 880 = .ok (.iconst 0, 1) := by decide +kernel
theorem dL_law_881 : decode cL_law 881 = .ok (.ireturn, 1) := by decide +kernel
theorem dL_law_882 : decode cL_law 882 = .ok (.iload 6, 2) := by decide +kernel
theorem dL_law_884 : decode cL_law 884 = .ok (.ifCond .ne 15, 3) := by decide +kernel
theorem dL_law_887 : decode cL_law 887 = .ok (.aload_n 3, 1) := by decide +kernel
theorem dL_law_888 : decode cL_law 888 = .ok (.iconst 0, 1) := by decide +kernel
theorem dL_law_889 : decode cL_law 889 = .ok (.laload, 1) := by decide +kernel
theorem dL_law_890 : decode cL_law 890 = .ok (.iload 7, 2) := by decide +kernel
theorem dL_law_892 : decode cL_law 892 = .ok (.i2l, 1) := by decide +kernel
theorem dL_law_893 : decode cL_law 893 = .ok (.lcmp, 1) := by decide +kernel
theorem dL_law_894 : decode cL_law 894 = .ok (.ifCond .eq 5, 3) := by decide +kernel
theorem dL_law_897 : decode cL_law 897 = .ok (.iconst 0, 1) := by decide +kernel
theorem dL_law_898 : decode cL_law 898 = .ok (.ireturn, 1) := by decide +kernel
theorem dL_law_899 : decode cL_law 899 = .ok (.goto 945, 3) := by decide +kernel
theorem dL_law_902 : decode cL_law 902 = .ok (.aload_n 1, 1) := by decide +kernel
theorem dL_law_903 : decode cL_law 903 = .ok (.aload_n 0, 1) := by decide +kernel
theorem dL_law_904 : decode cL_law 904 = .ok (.iload 5, 2) := by decide +kernel
theorem dL_law_906 : decode cL_law 906 = .ok (.iconst 1, 1) := by decide +kernel
theorem dL_law_907 : decode cL_law 907 = .ok (.iadd, 1) := by decide +kernel
theorem dL_law_908 : decode cL_law 908 = .ok (.iaload, 1) := by decide +kernel
theorem dL_law_909 : decode cL_law 909 = .ok (.aload_n 3, 1) := by decide +kernel
theorem dL_law_910 : decode cL_law 910 = .ok (.invokestatic 143, 3) := by decide +kernel
theorem dL_law_913 : decode cL_law 913 = .ok (.istore 6, 2) := by decide +kernel
theorem dL_law_915 : decode cL_law 915 = .ok (.aload_n 2, 1) := by decide +kernel
theorem dL_law_916 : decode cL_law 916 = .ok (.aload_n 0, 1) := by decide +kernel
theorem dL_law_917 : decode cL_law 917 = .ok (.iload 5, 2) := by decide +kernel
theorem dL_law_919 : decode cL_law 919 = .ok (.iconst 1, 1) := by decide +kernel
theorem dL_law_920 : decode cL_law 920 = .ok (.iadd, 1) := by decide +kernel
theorem dL_law_921 : decode cL_law 921 = .ok (.iaload, 1) := by decide +kernel
theorem dL_law_922 : decode cL_law 922 = .ok (.invokevirtual 145, 3) := by decide +kernel
theorem dL_law_925 : decode cL_law 925 = .ok (.istore 7, 2) := by decide +kernel
theorem dL_law_927 : decode cL_law 927 = .ok (.aload_n 2, 1) := by decide +kernel
theorem dL_law_928 : decode cL_law 928 = .ok (.invokevirtual 105, 3) := by decide +kernel
theorem dL_law_931 : decode cL_law 931 = .ok (.iload 6, 2) := by decide +kernel
theorem dL_law_933 : decode cL_law 933 = .ok (.if_icmp .eq 5, 3) := by decide +kernel
theorem dL_law_936 : decode cL_law 936 = .ok (.iconst 0, 1) := by decide +kernel
theorem dL_law_937 : decode cL_law 937 = .ok (.ireturn, 1) := by decide +kernel
theorem dL_law_938 : decode cL_law 938 = .ok (.iload 6, 2) := by decide +kernel
theorem dL_law_940 : decode cL_law 940 = .ok (.ifCond .ne 15, 3) := by decide +kernel
theorem dL_law_943 : decode cL_law 943 = .ok (.aload_n 3, 1) := by decide +kernel
theorem dL_law_944 : decode cL_law 944 = .ok (.iconst 0, 1) := by decide +kernel
theorem dL_law_945 : decode cL_law 945 = .ok (.laload, 1) := by decide +kernel
theorem dL_law_946 : decode cL_law 946 = .ok (.iload 7, 2) := by decide +kernel
theorem dL_law_948 : decode cL_law 948 = .ok (.i2l, 1) := by decide +kernel
theorem dL_law_949 : decode cL_law 949 = .ok (.lcmp, 1) := by decide +kernel
theorem dL_law_950 : decode cL_law 950 = .ok (.ifCond .eq 5, 3) := by decide +kernel
theorem dL_law_953 : decode cL_law 953 = .ok (.iconst 0, 1) := by decide +kernel
theorem dL_law_954 : decode cL_law 954 = .ok (.ireturn, 1) := by decide +kernel
theorem dL_law_955 : decode cL_law 955 = .ok (.goto 889, 3) := by decide +kernel
theorem dL_law_958 : decode cL_law 958 = .ok (.aload_n 1, 1) := by decide +kernel
theorem dL_law_959 : decode cL_law 959 = .ok (.aload_n 0, 1) := by decide +kernel
theorem dL_law_960 : decode cL_law 960 = .ok (.iload 5, 2) := by decide +kernel
theorem dL_law_962 : decode cL_law 962 = .ok (.iconst 1, 1) := by decide +kernel
theorem dL_law_963 : decode cL_law 963 = .ok (.iadd, 1) := by decide +kernel
theorem dL_law_964 : decode cL_law 964 = .ok (.iaload, 1) := by decide +kernel
theorem dL_law_965 : decode cL_law 965 = .ok (.aload_n 3, 1) := by decide +kernel
theorem dL_law_966 : decode cL_law 966 = .ok (.invokestatic 146, 3) := by decide +kernel
theorem dL_law_969 : decode cL_law 969 = .ok (.istore 6, 2) := by decide +kernel
theorem dL_law_971 : decode cL_law 971 = .ok (.aload_n 2, 1) := by decide +kernel
theorem dL_law_972 : decode cL_law 972 = .ok (.aload_n 0, 1) := by decide +kernel
theorem dL_law_973 : decode cL_law 973 = .ok (.iload 5, 2) := by decide +kernel
theorem dL_law_975 : decode cL_law 975 = .ok (.iconst 1, 1) := by decide +kernel
theorem dL_law_976 : decode cL_law 976 = .ok (.iadd, 1) := by decide +kernel
theorem dL_law_977 : decode cL_law 977 = .ok (.iaload, 1) := by decide +kernel
theorem dL_law_978 : decode cL_law 978 = .ok (.invokevirtual 148, 3) := by decide +kernel
theorem dL_law_981 : decode cL_law 981 = .ok (.istore 7, 2) := by decide +kernel
theorem dL_law_983 : decode cL_law 983 = .ok (.aload_n 2, 1) := by decide +kernel
theorem dL_law_984 : decode cL_law 984 = .ok (.invokevirtual 105, 3) := by decide +kernel
theorem dL_law_987 : decode cL_law 987 = .ok (.iload 6, 2) := by decide +kernel
theorem dL_law_989 : decode cL_law 989 = .ok (.if_icmp .eq 5, 3) := by decide +kernel
theorem dL_law_992 : decode cL_law 992 = .ok (.iconst 0, 1) := by decide +kernel
theorem dL_law_993 : decode cL_law 993 = .ok (.ireturn, 1) := by decide +kernel
theorem dL_law_994 : decode cL_law 994 = .ok (.iload 6, 2) := by decide +kernel
theorem dL_law_996 : decode cL_law 996 = .ok (.ifCond .ne 15, 3) := by decide +kernel
theorem dL_law_999 : decode cL_law 999 = .ok (.aload_n 3, 1) := by decide +kernel
theorem dL_law_1000 : decode cL_law 1000 = .ok (.iconst 0, 1) := by decide +kernel
theorem dL_law_1001 : decode cL_law 1001 = .ok (.laload, 1) := by decide +kernel
theorem dL_law_1002 : decode cL_law 1002 = .ok (.iload 7, 2) := by decide +kernel
theorem dL_law_1004 : decode cL_law 1004 = .ok (.i2l, 1) := by decide +kernel
theorem dL_law_1005 : decode cL_law 1005 = .ok (.lcmp, 1) := by decide +kernel
theorem dL_law_1006 : decode cL_law 1006 = .ok (.ifCond .eq 5, 3) := by decide +kernel
theorem dL_law_1009 : decode cL_law 1009 = .ok (.iconst 0, 1) := by decide +kernel
theorem dL_law_1010 : decode cL_law 1010 = .ok (.ireturn, 1) := by decide +kernel
theorem dL_law_1011 : decode cL_law 1011 = .ok (.goto 833, 3) := by decide +kernel
theorem dL_law_1014 : decode cL_law 1014 = .ok (.aload_n 1, 1) := by decide +kernel
theorem dL_law_1015 : decode cL_law 1015 = .ok (.invokevirtual 149, 3) := by decide +kernel
theorem dL_law_1018 : decode cL_law 1018 = .ok (.aload_n 2, 1) := by decide +kernel
theorem dL_law_1019 : decode cL_law 1019 = .ok (.invokevirtual 152, 3) := by decide +kernel
theorem dL_law_1022 : decode cL_law 1022 = .ok (.if_icmp .eq 822, 3) := by decide +kernel
theorem dL_law_1025 : decode cL_law 1025 = .ok (.iconst 0, 1) := by decide +kernel
theorem dL_law_1026 : decode cL_law 1026 = .ok (.ireturn, 1) := by decide +kernel
theorem dL_law_1027 : decode cL_law 1027 = .ok (.aload_n 1, 1) := by decide +kernel
theorem dL_law_1028 : decode cL_law 1028 = .ok (.invokevirtual 153, 3) := by decide +kernel
theorem dL_law_1031 : decode cL_law 1031 = .ok (.aload_n 2, 1) := by decide +kernel
theorem dL_law_1032 : decode cL_law 1032 = .ok (.invokevirtual 157, 3) := by decide +kernel
theorem dL_law_1035 : decode cL_law 1035 = .ok (.if_icmp .eq 809, 3) := by decide +kernel
theorem dL_law_1038 : decode cL_law 1038 = .ok (.iconst 0, 1) := by decide +kernel
theorem dL_law_1039 : decode cL_law 1039 = .ok (.ireturn, 1) := by decide +kernel
theorem dL_law_1040 : decode cL_law 1040 = .ok (.aload_n 1, 1) := by decide +kernel
theorem dL_law_1041 : decode cL_law 1041 = .ok (.aload_n 3, 1) := by decide +kernel
theorem dL_law_1042 : decode cL_law 1042 = .ok (.invokestatic 158, 3) := by decide +kernel
theorem dL_law_1045 : decode cL_law 1045 = .ok (.istore 6, 2) := by decide +kernel
theorem dL_law_1047 : decode cL_law 1047 = .ok (.aload_n 2, 1) := by decide +kernel
theorem dL_law_1048 : decode cL_law 1048 = .ok (.invokevirtual 161, 3) := by decide +kernel
theorem dL_law_1051 : decode cL_law 1051 = .ok (.istore 7, 2) := by decide +kernel
theorem dL_law_1053 : decode cL_law 1053 = .ok (.aload_n 2, 1) := by decide +kernel
theorem dL_law_1054 : decode cL_law 1054 = .ok (.invokevirtual 105, 3) := by decide +kernel
theorem dL_law_1057 : decode cL_law 1057 = .ok (.iload 6, 2) := by decide +kernel
theorem dL_law_1059 : decode cL_law 1059 = .ok (.if_icmp .eq 5, 3) := by decide +kernel
theorem dL_law_1062 : decode cL_law 1062 = .ok (.iconst 0, 1) := by decide +kernel
theorem dL_law_1063 : decode cL_law 1063 = .ok (.ireturn, 1) := by decide +kernel
theorem dL_law_1064 : decode cL_law 1064 = .ok (.iload 6, 2) := by decide +kernel
theorem dL_law_1066 : decode cL_law 1066 = .ok (.ifCond .ne 15, 3) := by decide +kernel
theorem dL_law_1069 : decode cL_law 1069 = .ok (.aload_n 3, 1) := by decide +kernel
theorem dL_law_1070 : decode cL_law 1070 = .ok (.iconst 0, 1) := by decide +kernel
theorem dL_law_1071 : decode cL_law 1071 = .ok (.laload, 1) := by decide +kernel
theorem dL_law_1072 : decode cL_law 1072 = .ok (.iload 7, 2) := by decide +kernel
theorem dL_law_1074 : decode cL_law 1074 = .ok (.i2l, 1) := by decide +kernel
theorem dL_law_1075 : decode cL_law 1075 = .ok (.lcmp, 1) := by decide +kernel
theorem dL_law_1076 : decode cL_law 1076 = .ok (.ifCond .eq 5, 3) := by decide +kernel
theorem dL_law_1079 : decode cL_law 1079 = .ok (.iconst 0, 1) := by decide +kernel
theorem dL_law_1080 : decode cL_law 1080 = .ok (.ireturn, 1) := by decide +kernel
theorem dL_law_1081 : decode cL_law 1081 = .ok (.goto 763, 3) := by decide +kernel
theorem dL_law_1084 : decode cL_law 1084 = .ok (.aload_n 1, 1) := by decide +kernel
theorem dL_law_1085 : decode cL_law 1085 = .ok (.aload_n 0, 1) := by decide +kernel
theorem dL_law_1086 : decode cL_law 1086 = .ok (.iload 5, 2) := by decide +kernel
theorem dL_law_1088 : decode cL_law 1088 = .ok (.iconst 1, 1) := by decide +kernel
theorem dL_law_1089 : decode cL_law 1089 = .ok (.iadd, 1) := by decide +kernel
theorem dL_law_1090 : decode cL_law 1090 = .ok (.iaload, 1) := by decide +kernel
theorem dL_law_1091 : decode cL_law 1091 = .ok (.aload_n 3, 1) := by decide +kernel
theorem dL_law_1092 : decode cL_law 1092 = .ok (.invokestatic 162, 3) := by decide +kernel
theorem dL_law_1095 : decode cL_law 1095 = .ok (.istore 6, 2) := by decide +kernel
theorem dL_law_1097 : decode cL_law 1097 = .ok (.aload_n 2, 1) := by decide +kernel
theorem dL_law_1098 : decode cL_law 1098 = .ok (.aload_n 0, 1) := by decide +kernel
theorem dL_law_1099 : decode cL_law 1099 = .ok (.iload 5, 2) := by decide +kernel
theorem dL_law_1101 : decode cL_law 1101 = .ok (.iconst 1, 1) := by decide +kernel
theorem dL_law_1102 : decode cL_law 1102 = .ok (.iadd, 1) := by decide +kernel
theorem dL_law_1103 : decode cL_law 1103 = .ok (.iaload, 1) := by decide +kernel
theorem dL_law_1104 : decode cL_law 1104 = .ok (.invokevirtual 164, 3) := by decide +kernel
theorem dL_law_1107 : decode cL_law 1107 = .ok (.istore 7, 2) := by decide +kernel
theorem dL_law_1109 : decode cL_law 1109 = .ok (.aload_n 2, 1) := by decide +kernel
theorem dL_law_1110 : decode cL_law 1110 = .ok (.invokevirtual 105, 3) := by decide +kernel
theorem dL_law_1113 : decode cL_law 1113 = .ok (.iload 6, 2) := by decide +kernel
theorem dL_law_1115 : decode cL_law 1115 = .ok (.if_icmp .eq 5, 3) := by decide +kernel
theorem dL_law_1118 : decode cL_law 1118 = .ok (.iconst 0, 1) := by decide +kernel
theorem dL_law_1119 : decode cL_law 1119 = .ok (.ireturn, 1) := by decide +kernel
theorem dL_law_1120 : decode cL_law 1120 = .ok (.iload 6, 2) := by decide +kernel
theorem dL_law_1122 : decode cL_law 1122 = .ok (.ifCond .ne 15, 3) := by decide +kernel
theorem dL_law_1125 : decode cL_law 1125 = .ok (.aload_n 3, 1) := by decide +kernel
theorem dL_law_1126 : decode cL_law 1126 = .ok (.iconst 0, 1) := by decide +kernel
theorem dL_law_1127 : decode cL_law 1127 = .ok (.laload, 1) := by decide +kernel
theorem dL_law_1128 : decode cL_law 1128 = .ok (.iload 7, 2) := by decide +kernel
theorem dL_law_1130 : decode cL_law 1130 = .ok (.i2l, 1) := by decide +kernel
theorem dL_law_1131 : decode cL_law 1131 = .ok (.lcmp, 1) := by decide +kernel
theorem dL_law_1132 : decode cL_law 1132 = .ok (.ifCond .eq 5, 3) := by decide +kernel
theorem dL_law_1135 : decode cL_law 1135 = .ok (.iconst 0, 1) := by decide +kernel
theorem dL_law_1136 : decode cL_law 1136 = .ok (.ireturn, 1) := by decide +kernel
theorem dL_law_1137 : decode cL_law 1137 = .ok (.goto 707, 3) := by decide +kernel
theorem dL_law_1140 : decode cL_law 1140 = .ok (.aload_n 1, 1) := by decide +kernel
theorem dL_law_1141 : decode cL_law 1141 = .ok (.aload_n 0, 1) := by decide +kernel
theorem dL_law_1142 : decode cL_law 1142 = .ok (.iload 5, 2) := by decide +kernel
theorem dL_law_1144 : decode cL_law 1144 = .ok (.iconst 1, 1) := by decide +kernel
theorem dL_law_1145 : decode cL_law 1145 = .ok (.iadd, 1) := by decide +kernel
theorem dL_law_1146 : decode cL_law 1146 = .ok (.iaload, 1) := by decide +kernel
theorem dL_law_1147 : decode cL_law 1147 = .ok (.aload_n 3, 1) := by decide +kernel
theorem dL_law_1148 : decode cL_law 1148 = .ok (.invokestatic 165, 3) := by decide +kernel
theorem dL_law_1151 : decode cL_law 1151 = .ok (.istore 6, 2) := by decide +kernel
theorem dL_law_1153 : decode cL_law 1153 = .ok (.aload_n 2, 1) := by decide +kernel
theorem dL_law_1154 : decode cL_law 1154 = .ok (.aload_n 0, 1) := by decide +kernel
theorem dL_law_1155 : decode cL_law 1155 = .ok (.iload 5, 2) := by decide +kernel
theorem dL_law_1157 : decode cL_law 1157 = .ok (.iconst 1, 1) := by decide +kernel
theorem dL_law_1158 : decode cL_law 1158 = .ok (.iadd, 1) := by decide +kernel
theorem dL_law_1159 : decode cL_law 1159 = .ok (.iaload, 1) := by decide +kernel
theorem dL_law_1160 : decode cL_law 1160 = .ok (.invokevirtual 167, 3) := by decide +kernel
theorem dL_law_1163 : decode cL_law 1163 = .ok (.istore 7, 2) := by decide +kernel
theorem dL_law_1165 : decode cL_law 1165 = .ok (.aload_n 2, 1) := by decide +kernel
theorem dL_law_1166 : decode cL_law 1166 = .ok (.invokevirtual 105, 3) := by decide +kernel
theorem dL_law_1169 : decode cL_law 1169 = .ok (.iload 6, 2) := by decide +kernel
theorem dL_law_1171 : decode cL_law 1171 = .ok (.if_icmp .eq 5, 3) := by decide +kernel
theorem dL_law_1174 : decode cL_law 1174 = .ok (.iconst 0, 1) := by decide +kernel
theorem dL_law_1175 : decode cL_law 1175 = .ok (.ireturn, 1) := by decide +kernel
theorem dL_law_1176 : decode cL_law 1176 = .ok (.iload 6, 2) := by decide +kernel
theorem dL_law_1178 : decode cL_law 1178 = .ok (.ifCond .ne 15, 3) := by decide +kernel
theorem dL_law_1181 : decode cL_law 1181 = .ok (.aload_n 3, 1) := by decide +kernel
theorem dL_law_1182 : decode cL_law 1182 = .ok (.iconst 0, 1) := by decide +kernel
theorem dL_law_1183 : decode cL_law 1183 = .ok (.laload, 1) := by decide +kernel
theorem dL_law_1184 : decode cL_law 1184 = .ok (.iload 7, 2) := by decide +kernel
theorem dL_law_1186 : decode cL_law 1186 = .ok (.i2l, 1) := by decide +kernel
theorem dL_law_1187 : decode cL_law 1187 = .ok (.lcmp, 1) := by decide +kernel
theorem dL_law_1188 : decode cL_law 1188 = .ok (.ifCond .eq 5, 3) := by decide +kernel
theorem dL_law_1191 : decode cL_law 1191 = .ok (.iconst 0, 1) := by decide +kernel
theorem dL_law_1192 : decode cL_law 1192 = .ok (.ireturn, 1) := by decide +kernel
theorem dL_law_1193 : decode cL_law 1193 = .ok (.goto 651, 3) := by decide +kernel
theorem dL_law_1196 : decode cL_law 1196 = .ok (.aload_n 1, 1) := by decide +kernel
theorem dL_law_1197 : decode cL_law 1197 = .ok (.aload_n 0, 1) := by decide +kernel
theorem dL_law_1198 : decode cL_law 1198 = .ok (.iload 5, 2) := by decide +kernel
theorem dL_law_1200 : decode cL_law 1200 = .ok (.iconst 1, 1) := by decide +kernel
theorem dL_law_1201 : decode cL_law 1201 = .ok (.iadd, 1) := by decide +kernel
theorem dL_law_1202 : decode cL_law 1202 = .ok (.iaload, 1) := by decide +kernel
theorem dL_law_1203 : decode cL_law 1203 = .ok (.aload_n 3, 1) := by decide +kernel
theorem dL_law_1204 : decode cL_law 1204 = .ok (.invokestatic 168, 3) := by decide +kernel
theorem dL_law_1207 : decode cL_law 1207 = .ok (.istore 6, 2) := by decide +kernel
theorem dL_law_1209 : decode cL_law 1209 = .ok (.aload_n 2, 1) := by decide +kernel
theorem dL_law_1210 : decode cL_law 1210 = .ok (.aload_n 0, 1) := by decide +kernel
theorem dL_law_1211 : decode cL_law 1211 = .ok (.iload 5, 2) := by decide +kernel
theorem dL_law_1213 : decode cL_law 1213 = .ok (.iconst 1, 1) := by decide +kernel
theorem dL_law_1214 : decode cL_law 1214 = .ok (.iadd, 1) := by decide +kernel
theorem dL_law_1215 : decode cL_law 1215 = .ok (.iaload, 1) := by decide +kernel
theorem dL_law_1216 : decode cL_law 1216 = .ok (.invokevirtual 170, 3) := by decide +kernel
theorem dL_law_1219 : decode cL_law 1219 = .ok (.istore 7, 2) := by decide +kernel
theorem dL_law_1221 : decode cL_law 1221 = .ok (.aload_n 2, 1) := by decide +kernel
theorem dL_law_1222 : decode cL_law 1222 = .ok (.invokevirtual 105, 3) := by decide +kernel
theorem dL_law_1225 : decode cL_law 1225 = .ok (.iload 6, 2) := by decide +kernel
theorem dL_law_1227 : decode cL_law 1227 = .ok (.if_icmp .eq 5, 3) := by decide +kernel
theorem dL_law_1230 : decode cL_law 1230 = .ok (.iconst 0, 1) := by decide +kernel
theorem dL_law_1231 : decode cL_law 1231 = .ok (.ireturn, 1) := by decide +kernel
theorem dL_law_1232 : decode cL_law 1232 = .ok (.iload 6, 2) := by decide +kernel
theorem dL_law_1234 : decode cL_law 1234 = .ok (.ifCond .ne 15, 3) := by decide +kernel
theorem dL_law_1237 : decode cL_law 1237 = .ok (.aload_n 3, 1) := by decide +kernel
theorem dL_law_1238 : decode cL_law 1238 = .ok (.iconst 0, 1) := by decide +kernel
theorem dL_law_1239 : decode cL_law 1239 = .ok (.laload, 1) := by decide +kernel
theorem dL_law_1240 : decode cL_law 1240 = .ok (.iload 7, 2) := by decide +kernel
theorem dL_law_1242 : decode cL_law 1242 = .ok (.i2l, 1) := by decide +kernel
theorem dL_law_1243 : decode cL_law 1243 = .ok (.lcmp, 1) := by decide +kernel
theorem dL_law_1244 : decode cL_law 1244 = .ok (.ifCond .eq 5, 3) := by decide +kernel
theorem dL_law_1247 : decode cL_law 1247 = .ok (.iconst 0, 1) := by decide +kernel
theorem dL_law_1248 : decode cL_law 1248 = .ok (.ireturn, 1) := by decide +kernel
theorem dL_law_1249 : decode cL_law 1249 = .ok (.goto 595, 3) := by decide +kernel
theorem dL_law_1252 : decode cL_law 1252 = .ok (.aload_n 1, 1) := by decide +kernel
theorem dL_law_1253 : decode cL_law 1253 = .ok (.aload_n 0, 1) := by decide +kernel
theorem dL_law_1254 : decode cL_law 1254 = .ok (.iload 5, 2) := by decide +kernel
theorem dL_law_1256 : decode cL_law 1256 = .ok (.iconst 1, 1) := by decide +kernel
theorem dL_law_1257 : decode cL_law 1257 = .ok (.iadd, 1) := by decide +kernel
theorem dL_law_1258 : decode cL_law 1258 = .ok (.iaload, 1) := by decide +kernel
theorem dL_law_1259 : decode cL_law 1259 = .ok (.aload_n 3, 1) := by decide +kernel
theorem dL_law_1260 : decode cL_law 1260 = .ok (.invokestatic 171, 3) := by decide +kernel
theorem dL_law_1263 : decode cL_law 1263 = .ok (.istore 6, 2) := by decide +kernel
theorem dL_law_1265 : decode cL_law 1265 = .ok (.aload_n 2, 1) := by decide +kernel
theorem dL_law_1266 : decode cL_law 1266 = .ok (.aload_n 0, 1) := by decide +kernel
theorem dL_law_1267 : decode cL_law 1267 = .ok (.iload 5, 2) := by decide +kernel
theorem dL_law_1269 : decode cL_law 1269 = .ok (.iconst 1, 1) := by decide +kernel
theorem dL_law_1270 : decode cL_law 1270 = .ok (.iadd, 1) := by decide +kernel
theorem dL_law_1271 : decode cL_law 1271 = .ok (.iaload, 1) := by decide +kernel
theorem dL_law_1272 : decode cL_law 1272 = .ok (.invokevirtual 173, 3) := by decide +kernel
theorem dL_law_1275 : decode cL_law 1275 = .ok (.istore 7, 2) := by decide +kernel
theorem dL_law_1277 : decode cL_law 1277 = .ok (.aload_n 2, 1) := by decide +kernel
theorem dL_law_1278 : decode cL_law 1278 = .ok (.invokevirtual 105, 3) := by decide +kernel
theorem dL_law_1281 : decode cL_law 1281 = .ok (.iload 6, 2) := by decide +kernel
theorem dL_law_1283 : decode cL_law 1283 = .ok (.if_icmp .eq 5, 3) := by decide +kernel
theorem dL_law_1286 : decode cL_law 1286 = .ok (.iconst 0, 1) := by decide +kernel
theorem dL_law_1287 : decode cL_law 1287 = .ok (.ireturn, 1) := by decide +kernel
theorem dL_law_1288 : decode cL_law 1288 = .ok (.iload 6, 2) := by decide +kernel
theorem dL_law_1290 : decode cL_law 1290 = .ok (.ifCond .ne 15, 3) := by decide +kernel
theorem dL_law_1293 : decode cL_law 1293 = .ok (.aload_n 3, 1) := by decide +kernel
theorem dL_law_1294 : decode cL_law 1294 = .ok (.iconst 0, 1) := by decide +kernel
theorem dL_law_1295 : decode cL_law 1295 = .ok (.laload, 1) := by decide +kernel
theorem dL_law_1296 : decode cL_law 1296 = .ok (.iload 7, 2) := by decide +kernel
theorem dL_law_1298 : decode cL_law 1298 = .ok (.i2l, 1) := by decide +kernel
theorem dL_law_1299 : decode cL_law 1299 = .ok (.lcmp, 1) := by decide +kernel
theorem dL_law_1300 : decode cL_law 1300 = .ok (.ifCond .eq 5, 3) := by decide +kernel
theorem dL_law_1303 : decode cL_law 1303 = .ok (.iconst 0, 1) := by decide +kernel
theorem dL_law_1304 : decode cL_law 1304 = .ok (.ireturn, 1) := by decide +kernel
theorem dL_law_1305 : decode cL_law 1305 = .ok (.goto 539, 3) := by decide +kernel
theorem dL_law_1308 : decode cL_law 1308 = .ok (.aload_n 1, 1) := by decide +kernel
theorem dL_law_1309 : decode cL_law 1309 = .ok (.aload_n 0, 1) := by decide +kernel
theorem dL_law_1310 : decode cL_law 1310 = .ok (.iload 5, 2) := by decide +kernel
theorem dL_law_1312 : decode cL_law 1312 = .ok (.iconst 1, 1) := by decide +kernel
theorem dL_law_1313 : decode cL_law 1313 = .ok (.iadd, 1) := by decide +kernel
theorem dL_law_1314 : decode cL_law 1314 = .ok (.iaload, 1) := by decide +kernel
theorem dL_law_1315 : decode cL_law 1315 = .ok (.aload_n 3, 1) := by decide +kernel
theorem dL_law_1316 : decode cL_law 1316 = .ok (.invokestatic 174, 3) := by decide +kernel
theorem dL_law_1319 : decode cL_law 1319 = .ok (.istore 6, 2) := by decide +kernel
theorem dL_law_1321 : decode cL_law 1321 = .ok (.aload_n 2, 1) := by decide +kernel
theorem dL_law_1322 : decode cL_law 1322 = .ok (.aload_n 0, 1) := by decide +kernel
theorem dL_law_1323 : decode cL_law 1323 = .ok (.iload 5, 2) := by decide +kernel
theorem dL_law_1325 : decode cL_law 1325 = .ok (.iconst 1, 1) := by decide +kernel
theorem dL_law_1326 : decode cL_law 1326 = .ok (.iadd, 1) := by decide +kernel
theorem dL_law_1327 : decode cL_law 1327 = .ok (.iaload, 1) := by decide +kernel
theorem dL_law_1328 : decode cL_law 1328 = .ok (.invokevirtual 176, 3) := by decide +kernel
theorem dL_law_1331 : decode cL_law 1331 = .ok (.istore 7, 2) := by decide +kernel
theorem dL_law_1333 : decode cL_law 1333 = .ok (.aload_n 2, 1) := by decide +kernel
theorem dL_law_1334 : decode cL_law 1334 = .ok (.invokevirtual 105, 3) := by decide +kernel
theorem dL_law_1337 : decode cL_law 1337 = .ok (.iload 6, 2) := by decide +kernel
theorem dL_law_1339 : decode cL_law 1339 = .ok (.if_icmp .eq 5, 3) := by decide +kernel
theorem dL_law_1342 : decode cL_law 1342 = .ok (.iconst 0, 1) := by decide +kernel
theorem dL_law_1343 : decode cL_law 1343 = .ok (.ireturn, 1) := by decide +kernel
theorem dL_law_1344 : decode cL_law 1344 = .ok (.iload 6, 2) := by decide +kernel
theorem dL_law_1346 : decode cL_law 1346 = .ok (.ifCond .ne 15, 3) := by decide +kernel
theorem dL_law_1349 : decode cL_law 1349 = .ok (.aload_n 3, 1) := by decide +kernel
theorem dL_law_1350 : decode cL_law 1350 = .ok (.iconst 0, 1) := by decide +kernel
theorem dL_law_1351 : decode cL_law 1351 = .ok (.laload, 1) := by decide +kernel
theorem dL_law_1352 : decode cL_law 1352 = .ok (.iload 7, 2) := by decide +kernel
theorem dL_law_1354 : decode cL_law 1354 = .ok (.i2l, 1) := by decide +kernel
theorem dL_law_1355 : decode cL_law 1355 = .ok (.lcmp, 1) := by decide +kernel
theorem dL_law_1356 : decode cL_law 1356 = .ok (.ifCond .eq 5, 3) := by decide +kernel
theorem dL_law_1359 : decode cL_law 1359 = .ok (.iconst 0, 1) := by decide +kernel
theorem dL_law_1360 : decode cL_law 1360 = .ok (.ireturn, 1) := by decide +kernel
theorem dL_law_1361 : decode cL_law 1361 = .ok (.goto 483, 3) := by decide +kernel
theorem dL_law_1364 : decode cL_law 1364 = .ok (.aload_n 1, 1) := by decide +kernel
theorem dL_law_1365 : decode cL_law 1365 = .ok (.aload 4, 2) := by decide +kernel
theorem dL_law_1367 : decode cL_law 1367 = .ok (.invokestatic 177, 3) := by decide +kernel
theorem dL_law_1370 : decode cL_law 1370 = .ok (.istore 6, 2) := by decide +kernel
theorem dL_law_1372 : decode cL_law 1372 = .ok (.aload_n 2, 1) := by decide +kernel
theorem dL_law_1373 : decode cL_law 1373 = .ok (.invokevirtual 180, 3) := by decide +kernel
theorem dL_law_1376 : decode cL_law 1376 = .ok (.dstore 7, 2) := by decide +kernel
theorem dL_law_1378 : decode cL_law 1378 = .ok (.aload_n 2, 1) := by decide +kernel
theorem dL_law_1379 : decode cL_law 1379 = .ok (.invokevirtual 105, 3) := by decide +kernel
theorem dL_law_1382 : decode cL_law 1382 = .ok (.iload 6, 2) := by decide +kernel
theorem dL_law_1384 : decode cL_law 1384 = .ok (.if_icmp .eq 5, 3) := by decide +kernel
theorem dL_law_1387 : decode cL_law 1387 = .ok (.iconst 0, 1) := by decide +kernel
theorem dL_law_1388 : decode cL_law 1388 = .ok (.ireturn, 1) := by decide +kernel
theorem dL_law_1389 : decode cL_law 1389 = .ok (.iload 6, 2) := by decide +kernel
theorem dL_law_1391 : decode cL_law 1391 = .ok (.ifCond .ne 35, 3) := by decide +kernel
theorem dL_law_1394 : decode cL_law 1394 = .ok (.aload 4, 2) := by decide +kernel
theorem dL_law_1396 : decode cL_law 1396 = .ok (.iconst 0, 1) := by decide +kernel
theorem dL_law_1397 : decode cL_law 1397 = .ok (.daload, 1) := by decide +kernel
theorem dL_law_1398 : decode cL_law 1398 = .ok (.dload 7, 2) := by decide +kernel
theorem dL_law_1400 : decode cL_law 1400 = .ok (.dcmp .l, 1) := by decide +kernel
theorem dL_law_1401 : decode cL_law 1401 = .ok (.ifCond .eq 25, 3) := by decide +kernel
theorem dL_law_1404 : decode cL_law 1404 = .ok (.aload 4, 2) := by decide +kernel
theorem dL_law_1406 : decode cL_law 1406 = .ok (.iconst 0, 1) := by decide +kernel
theorem dL_law_1407 : decode cL_law 1407 = .ok (.daload, 1) := by decide +kernel
theorem dL_law_1408 : decode cL_law 1408 = .ok (.aload 4, 2) := by decide +kernel
theorem dL_law_1410 : decode cL_law 1410 = .ok (.iconst 0, 1) := by decide +kernel
theorem dL_law_1411 : decode cL_law 1411 = .ok (.daload, 1) := by decide +kernel
theorem dL_law_1412 : decode cL_law 1412 = .ok (.dcmp .l, 1) := by decide +kernel
theorem dL_law_1413 : decode cL_law 1413 = .ok (.ifCond .eq 11, 3) := by decide +kernel
theorem dL_law_1416 : decode cL_law 1416 = .ok (.dload 7, 2) := by decide +kernel
theorem dL_law_1418 : decode cL_law 1418 = .ok (.dload 7, 2) := by decide +kernel
theorem dL_law_1420 : decode cL_law 1420 = .ok (.dcmp .l, 1) := by decide +kernel
theorem dL_law_1421 : decode cL_law 1421 = .ok (.ifCond .ne 5, 3) := by decide +kernel
theorem dL_law_1424 : decode cL_law 1424 = .ok (.iconst 0, 1) := by decide +kernel
theorem dL_law_1425 : decode cL_law 1425 = .ok (.ireturn, 1) := by decide +kernel
theorem dL_law_1426 : decode cL_law 1426 = .ok (.goto 418, 3) := by decide +kernel
theorem dL_law_1429 : decode cL_law 1429 = .ok (.aload_n 1, 1) := by decide +kernel
theorem dL_law_1430 : decode cL_law 1430 = .ok (.aload_n 3, 1) := by decide +kernel
theorem dL_law_1431 : decode cL_law 1431 = .ok (.invokestatic 181, 3) := by decide +kernel
theorem dL_law_1434 : decode cL_law 1434 = .ok (.istore 6, 2) := by decide +kernel
theorem dL_law_1436 : decode cL_law 1436 = .ok (.aload_n 2, 1) := by decide +kernel
theorem dL_law_1437 : decode cL_law 1437 = .ok (.invokevirtual 183, 3) := by decide +kernel
theorem dL_law_1440 : decode cL_law 1440 = .ok (.istore 7, 2) := by decide +kernel
theorem dL_law_1442 : decode cL_law 1442 = .ok (.aload_n 2, 1) := by decide +kernel
theorem dL_law_1443 : decode cL_law 1443 = .ok (.invokevirtual 105, 3) := by decide +kernel
theorem dL_law_1446 : decode cL_law 1446 = .ok (.iload 6, 2) := by decide +kernel
theorem dL_law_1448 : decode cL_law 1448 = .ok (.if_icmp .eq 5, 3) := by decide +kernel
theorem dL_law_1451 : decode cL_law 1451 = .ok (.iconst 0, 1) := by decide +kernel
theorem dL_law_1452 : decode cL_law 1452 = .ok (.ireturn, 1) := by decide +kernel
theorem dL_law_1453 : decode cL_law 1453 = .ok (.iload 6, 2) := by decide +kernel
theorem dL_law_1455 : decode cL_law 1455 = .ok (.ifCond .ne 15, 3) := by decide +kernel
theorem dL_law_1458 : decode cL_law 1458 = .ok (.aload_n 3, 1) := by decide +kernel
theorem dL_law_1459 : decode cL_law 1459 = .ok (.iconst 0, 1) := by decide +kernel
theorem dL_law_1460 : decode cL_law 1460 = .ok (.laload, 1) := by decide +kernel
theorem dL_law_1461 : decode cL_law 1461 = .ok (.iload 7, 2) := by decide +kernel
theorem dL_law_1463 : decode cL_law 1463 = .ok (.i2l, 1) := by decide +kernel
theorem dL_law_1464 : decode cL_law 1464 = .ok (.lcmp, 1) := by decide +kernel
theorem dL_law_1465 : decode cL_law 1465 = .ok (.ifCond .eq 5, 3) := by decide +kernel
theorem dL_law_1468 : decode cL_law 1468 = .ok (.iconst 0, 1) := by decide +kernel
theorem dL_law_1469 : decode cL_law 1469 = .ok (.ireturn, 1) := by decide +kernel
theorem dL_law_1470 : decode cL_law 1470 = .ok (.goto 374, 3) := by decide +kernel
theorem dL_law_1473 : decode cL_law 1473 = .ok (.aload_n 1, 1) := by decide +kernel
theorem dL_law_1474 : decode cL_law 1474 = .ok (.invokevirtual 184, 3) := by decide +kernel
theorem dL_law_1477 : decode cL_law 1477 = .ok (.aload_n 2, 1) := by decide +kernel
theorem dL_law_1478 : decode cL_law 1478 = .ok (.invokevirtual 187, 3) := by decide +kernel
theorem dL_law_1481 : decode cL_law 1481 = .ok (.if_icmp .eq 363, 3) := by decide +kernel
theorem dL_law_1484 : decode cL_law 1484 = .ok (.iconst 0, 1) := by decide +kernel
theorem dL_law_1485 : decode cL_law 1485 = .ok (.ireturn, 1) := by decide +kernel
theorem dL_law_1486 : decode cL_law 1486 = .ok (.aload_n 1, 1) := by decide +kernel
theorem dL_law_1487 : decode cL_law 1487 = .ok (.aload_n 0, 1) := by decide +kernel
theorem dL_law_1488 : decode cL_law 1488 = .ok (.iload 5, 2) := by decide +kernel
theorem dL_law_1490 : decode cL_law 1490 = .ok (.iconst 1, 1) := by decide +kernel
theorem dL_law_1491 : decode cL_law 1491 = .ok (.iadd, 1) := by decide +kernel
theorem dL_law_1492 : decode cL_law 1492 = .ok (.iaload, 1) := by decide +kernel
theorem dL_law_1493 : decode cL_law 1493 = .ok (.aload_n 3, 1) := by decide +kernel
theorem dL_law_1494 : decode cL_law 1494 = .ok (.invokestatic 188, 3) := by decide +kernel
theorem dL_law_1497 : decode cL_law 1497 = .ok (.istore 6, 2) := by decide +kernel
theorem dL_law_1499 : decode cL_law 1499 = .ok (.aload_n 2, 1) := by decide +kernel
theorem dL_law_1500 : decode cL_law 1500 = .ok (.aload_n 0, 1) := by decide +kernel
theorem dL_law_1501 : decode cL_law 1501 = .ok (.iload 5, 2) := by decide +kernel
theorem dL_law_1503 : decode cL_law 1503 = .ok (.iconst 1, 1) := by decide +kernel
theorem dL_law_1504 : decode cL_law 1504 = .ok (.iadd, 1) := by decide +kernel
theorem dL_law_1505 : decode cL_law 1505 = .ok (.iaload, 1) := by decide +kernel
theorem dL_law_1506 : decode cL_law 1506 = .ok (.invokevirtual 190, 3) := by decide +kernel
theorem dL_law_1509 : decode cL_law 1509 = .ok (.istore 7, 2) := by decide +kernel
theorem dL_law_1511 : decode cL_law 1511 = .ok (.aload_n 2, 1) := by decide +kernel
theorem dL_law_1512 : decode cL_law 1512 = .ok (.invokevirtual 105, 3) := by decide +kernel
theorem dL_law_1515 : decode cL_law 1515 = .ok (.iload 6, 2) := by decide +kernel
theorem dL_law_1517 : decode cL_law 1517 = .ok (.if_icmp .eq 5, 3) := by decide +kernel
theorem dL_law_1520 : decode cL_law 1520 = .ok (.iconst 0, 1) := by decide +kernel
theorem dL_law_1521 : decode cL_law 1521 = .ok (.ireturn, 1) := by decide +kernel
theorem dL_law_1522 : decode cL_law 1522 = .ok (.iload 6, 2) := by decide +kernel
theorem dL_law_1524 : decode cL_law 1524 = .ok (.ifCond .ne 15, 3) := by decide +kernel
theorem dL_law_1527 : decode cL_law 1527 = .ok (.aload_n 3, 1) := by decide +kernel
theorem dL_law_1528 : decode cL_law 1528 = .ok (.iconst 0, 1) := by decide +kernel
theorem dL_law_1529 : decode cL_law 1529 = .ok (.laload, 1) := by decide +kernel
theorem dL_law_1530 : decode cL_law 1530 = .ok (.iload 7, 2) := by decide +kernel
theorem dL_law_1532 : decode cL_law 1532 = .ok (.i2l, 1) := by decide +kernel
theorem dL_law_1533 : decode cL_law 1533 = .ok (.lcmp, 1) := by decide +kernel
theorem dL_law_1534 : decode cL_law 1534 = .ok (.ifCond .eq 5, 3) := by decide +kernel
theorem dL_law_1537 : decode cL_law 1537 = .ok (.iconst 0, 1) := by decide +kernel
theorem dL_law_1538 : decode cL_law 1538 = .ok (.ireturn, 1) := by decide +kernel
theorem dL_law_1539 : decode cL_law 1539 = .ok (.goto 305, 3) := by decide +kernel
theorem dL_law_1542 : decode cL_law 1542 = .ok (.aload_n 1, 1) := by decide +kernel
theorem dL_law_1543 : decode cL_law 1543 = .ok (.aload_n 0, 1) := by decide +kernel
theorem dL_law_1544 : decode cL_law 1544 = .ok (.iload 5, 2) := by decide +kernel
theorem dL_law_1546 : decode cL_law 1546 = .ok (.iconst 1, 1) := by decide +kernel
theorem dL_law_1547 : decode cL_law 1547 = .ok (.iadd, 1) := by decide +kernel
theorem dL_law_1548 : decode cL_law 1548 = .ok (.iaload, 1) := by decide +kernel
theorem dL_law_1549 : decode cL_law 1549 = .ok (.aload_n 0, 1) := by decide +kernel
theorem dL_law_1550 : decode cL_law 1550 = .ok (.iload 5, 2) := by decide +kernel
theorem dL_law_1552 : decode cL_law 1552 = .ok (.iconst 2, 1) := by decide +kernel
theorem dL_law_1553 : decode cL_law 1553 = .ok (.iadd, 1) := by decide +kernel
theorem dL_law_1554 : decode cL_law 1554 = .ok (.iaload, 1) := by decide +kernel
theorem dL_law_1555 : decode cL_law 1555 = .ok (.aload_n 3, 1) := by decide +kernel
theorem dL_law_1556 : decode cL_law 1556 = .ok (.invokestatic 191, 3) := by decide +kernel
theorem dL_law_1559 : decode cL_law 1559 = .ok (.istore 6, 2) := by decide +kernel
theorem dL_law_1561 : decode cL_law 1561 = .ok (.aload_n 2, 1) := by decide +kernel
theorem dL_law_1562 : decode cL_law 1562 = .ok (.aload_n 0, 1) := by decide +kernel
theorem dL_law_1563 : decode cL_law 1563 = .ok (.iload 5, 2) := by decide +kernel
theorem dL_law_1565 : decode cL_law 1565 = .ok (.iconst 1, 1) := by decide +kernel
theorem dL_law_1566 : decode cL_law 1566 = .ok (.iadd, 1) := by decide +kernel
theorem dL_law_1567 : decode cL_law 1567 = .ok (.iaload, 1) := by decide +kernel
theorem dL_law_1568 : decode cL_law 1568 = .ok (.aload_n 0, 1) := by decide +kernel
theorem dL_law_1569 : decode cL_law 1569 = .ok (.iload 5, 2) := by decide +kernel
theorem dL_law_1571 : decode cL_law 1571 = .ok (.iconst 2, 1) := by decide +kernel
theorem dL_law_1572 : decode cL_law 1572 = .ok (.iadd, 1) := by decide +kernel
theorem dL_law_1573 : decode cL_law 1573 = .ok (.iaload, 1) := by decide +kernel
theorem dL_law_1574 : decode cL_law 1574 = .ok (.invokevirtual 193, 3) := by decide +kernel
theorem dL_law_1577 : decode cL_law 1577 = .ok (.istore 7, 2) := by decide +kernel
theorem dL_law_1579 : decode cL_law 1579 = .ok (.aload_n 2, 1) := by decide +kernel
theorem dL_law_1580 : decode cL_law 1580 = .ok (.invokevirtual 105, 3) := by decide +kernel
theorem dL_law_1583 : decode cL_law 1583 = .ok (.iload 6, 2) := by decide +kernel
theorem dL_law_1585 : decode cL_law 1585 = .ok (.if_icmp .eq 5, 3) := by decide +kernel
theorem dL_law_1588 : decode cL_law 1588 = .ok (.iconst 0, 1) := by decide +kernel
theorem dL_law_1589 : decode cL_law 1589 = .ok (.ireturn, 1) := by decide +kernel
theorem dL_law_1590 : decode cL_law 1590 = .ok (.iload 6, 2) := by decide +kernel
theorem dL_law_1592 : decode cL_law 1592 = .ok (.ifCond .ne 15, 3) := by decide +kernel
theorem dL_law_1595 : decode cL_law 1595 = .ok (.aload_n 3, 1) := by decide +kernel
theorem dL_law_1596 : decode cL_law 1596 = .ok (.iconst 0, 1) := by decide +kernel
theorem dL_law_1597 : decode cL_law 1597 = .ok (.laload, 1) := by decide +kernel
theorem dL_law_1598 : decode cL_law 1598 = .ok (.iload 7, 2) := by decide +kernel
theorem dL_law_1600 : decode cL_law 1600 = .ok (.i2l, 1) := by decide +kernel
theorem dL_law_1601 : decode cL_law 1601 = .ok (.lcmp, 1) := by decide +kernel
theorem dL_law_1602 : decode cL_law 1602 = .ok (.ifCond .eq 5, 3) := by decide +kernel
theorem dL_law_1605 : decode cL_law 1605 = .ok (.iconst 0, 1) := by decide +kernel
theorem dL_law_1606 : decode cL_law 1606 = .ok (.ireturn, 1) := by decide +kernel
theorem dL_law_1607 : decode cL_law 1607 = .ok (.goto 237, 3) := by decide +kernel
theorem dL_law_1610 : decode cL_law 1610 = .ok (.aload_n 1, 1) := by decide +kernel
theorem dL_law_1611 : decode cL_law 1611 = .ok (.aload_n 0, 1) := by decide +kernel
theorem dL_law_1612 : decode cL_law 1612 = .ok (.iload 5, 2) := by decide +kernel
theorem dL_law_1614 : decode cL_law 1614 = .ok (.iconst 1, 1) := by decide +kernel
theorem dL_law_1615 : decode cL_law 1615 = .ok (.iadd, 1) := by decide +kernel
theorem dL_law_1616 : decode cL_law 1616 = .ok (.iaload, 1) := by decide +kernel
theorem dL_law_1617 : decode cL_law 1617 = .ok (.aload_n 3, 1) := by decide +kernel
theorem dL_law_1618 : decode cL_law 1618 = .ok (.invokestatic 194, 3) := by decide +kernel
theorem dL_law_1621 : decode cL_law 1621 = .ok (.istore 6, 2) := by decide +kernel
theorem dL_law_1623 : decode cL_law 1623 = .ok (.aload_n 2, 1) := by decide +kernel
theorem dL_law_1624 : decode cL_law 1624 = .ok (.aload_n 0, 1) := by decide +kernel
theorem dL_law_1625 : decode cL_law 1625 = .ok (.iload 5, 2) := by decide +kernel
theorem dL_law_1627 : decode cL_law 1627 = .ok (.iconst 1, 1) := by decide +kernel
theorem dL_law_1628 : decode cL_law 1628 = .ok (.iadd, 1) := by decide +kernel
theorem dL_law_1629 : decode cL_law 1629 = .ok (.iaload, 1) := by decide +kernel
theorem dL_law_1630 : decode cL_law 1630 = .ok (.invokevirtual 196, 3) := by decide +kernel
theorem dL_law_1633 : decode cL_law 1633 = .ok (.istore 7, 2) := by decide +kernel
theorem dL_law_1635 : decode cL_law 1635 = .ok (.aload_n 2, 1) := by decide +kernel
theorem dL_law_1636 : decode cL_law 1636 = .ok (.invokevirtual 105, 3) := by decide +kernel
theorem dL_law_1639 : decode cL_law 1639 = .ok (.iload 6, 2) := by decide +kernel
theorem dL_law_1641 : decode cL_law 1641 = .ok (.if_icmp .eq 5, 3) := by decide +kernel
theorem dL_law_1644 : decode cL_law 1644 = .ok (.iconst 0, 1) := by decide +kernel
theorem dL_law_1645 : decode cL_law 1645 = .ok (.ireturn, 1) := by decide +kernel
theorem dL_law_1646 : decode cL_law 1646 = .ok (.iload 6, 2) := by decide +kernel
theorem dL_law_1648 : decode cL_law 1648 = .ok (.ifCond .ne 15, 3) := by decide +kernel
theorem dL_law_1651 : decode cL_law 1651 = .ok (.aload_n 3, 1) := by decide +kernel
theorem dL_law_1652 : decode cL_law 1652 = .ok (.iconst 0, 1) := by decide +kernel
theorem dL_law_1653 : decode cL_law 1653 = .ok (.laload, 1) := by decide +kernel
theorem dL_law_1654 : decode cL_law 1654 = .ok (.iload 7, 2) := by decide +kernel
theorem dL_law_1656 : decode cL_law 1656 = .ok (.i2l, 1) := by decide +kernel
theorem dL_law_1657 : decode cL_law 1657 = .ok (.lcmp, 1) := by decide +kernel
theorem dL_law_1658 : decode cL_law 1658 = .ok (.ifCond .eq 5, 3) := by decide +kernel
theorem dL_law_1661 : decode cL_law 1661 = .ok (.iconst 0, 1) := by decide +kernel
theorem dL_law_1662 : decode cL_law 1662 = .ok (.ireturn, 1) := by decide +kernel
theorem dL_law_1663 : decode cL_law 1663 = .ok (.goto 181, 3) := by decide +kernel
theorem dL_law_1666 : decode cL_law 1666 = .ok (.aload_n 1, 1) := by decide +kernel
theorem dL_law_1667 : decode cL_law 1667 = .ok (.aload_n 0, 1) := by decide +kernel
theorem dL_law_1668 : decode cL_law 1668 = .ok (.iload 5, 2) := by decide +kernel
theorem dL_law_1670 : decode cL_law 1670 = .ok (.iconst 1, 1) := by decide +kernel
theorem dL_law_1671 : decode cL_law 1671 = .ok (.iadd, 1) := by decide +kernel
theorem dL_law_1672 : decode cL_law 1672 = .ok (.iaload, 1) := by decide +kernel
theorem dL_law_1673 : decode cL_law 1673 = .ok (.aload_n 3, 1) := by decide +kernel
theorem dL_law_1674 : decode cL_law 1674 = .ok (.invokestatic 197, 3) := by decide +kernel
theorem dL_law_1677 : decode cL_law 1677 = .ok (.istore 6, 2) := by decide +kernel
theorem dL_law_1679 : decode cL_law 1679 = .ok (.aload_n 2, 1) := by decide +kernel
theorem dL_law_1680 : decode cL_law 1680 = .ok (.aload_n 0, 1) := by decide +kernel
theorem dL_law_1681 : decode cL_law 1681 = .ok (.iload 5, 2) := by decide +kernel
theorem dL_law_1683 : decode cL_law 1683 = .ok (.iconst 1, 1) := by decide +kernel
theorem dL_law_1684 : decode cL_law 1684 = .ok (.iadd, 1) := by decide +kernel
theorem dL_law_1685 : decode cL_law 1685 = .ok (.iaload, 1) := by decide +kernel
theorem dL_law_1686 : decode cL_law 1686 = .ok (.invokevirtual 199, 3) := by decide +kernel
theorem dL_law_1689 : decode cL_law 1689 = .ok (.istore 7, 2) := by decide +kernel
theorem dL_law_1691 : decode cL_law 1691 = .ok (.aload_n 2, 1) := by decide +kernel
theorem dL_law_1692 : decode cL_law 1692 = .ok (.invokevirtual 105, 3) := by decide +kernel
theorem dL_law_1695 : decode cL_law 1695 = .ok (.iload 6, 2) := by decide +kernel
theorem dL_law_1697 : decode cL_law 1697 = .ok (.if_icmp .eq 5, 3) := by decide +kernel
theorem dL_law_1700 : decode cL_law 1700 = .ok (.iconst 0, 1) := by decide +kernel
theorem dL_law_1701 : decode cL_law 1701 = .ok (.ireturn, 1) := by decide +kernel
theorem dL_law_1702 : decode cL_law 1702 = .ok (.iload 6, 2) := by decide +kernel
theorem dL_law_1704 : decode cL_law 1704 = .ok (.ifCond .ne 15, 3) := by decide +kernel
theorem dL_law_1707 : decode cL_law 1707 = .ok (.aload_n 3, 1) := by decide +kernel
theorem dL_law_1708 : decode cL_law 1708 = .ok (.iconst 0, 1) := by decide +kernel
theorem dL_law_1709 : decode cL_law 1709 = .ok (.laload, 1) := by decide +kernel
theorem dL_law_1710 : decode cL_law 1710 = .ok (.iload 7, 2) := by decide +kernel
theorem dL_law_1712 : decode cL_law 1712 = .ok (.i2l, 1) := by decide +kernel
theorem dL_law_1713 : decode cL_law 1713 = .ok (.lcmp, 1) := by decide +kernel
theorem dL_law_1714 : decode cL_law 1714 = .ok (.ifCond .eq 5, 3) := by decide +kernel
theorem dL_law_1717 : decode cL_law 1717 = .ok (.iconst 0, 1) := by decide +kernel
theorem dL_law_1718 : decode cL_law 1718 = .ok (.ireturn, 1) := by decide +kernel
theorem dL_law_1719 : decode cL_law 1719 = .ok (.goto 125, 3) := by decide +kernel
theorem dL_law_1722 : decode cL_law 1722 = .ok (.aload_n 1, 1) := by decide +kernel
theorem dL_law_1723 : decode cL_law 1723 = .ok (.invokevirtual 200, 3) := by decide +kernel
theorem dL_law_1726 : decode cL_law 1726 = .ok (.aload_n 2, 1) := by decide +kernel
theorem dL_law_1727 : decode cL_law 1727 = .ok (.invokevirtual 203, 3) := by decide +kernel
theorem dL_law_1730 : decode cL_law 1730 = .ok (.if_icmp .eq 114, 3) := by decide +kernel
theorem dL_law_1733 : decode cL_law 1733 = .ok (.iconst 0, 1) := by decide +kernel
theorem dL_law_1734 : decode cL_law 1734 = .ok (.ireturn, 1) := by decide +kernel
theorem dL_law_1735 : decode cL_law 1735 = .ok (.aload_n 1, 1) := by decide +kernel
theorem dL_law_1736 : decode cL_law 1736 = .ok (.invokevirtual 204, 3) := by decide +kernel
theorem dL_law_1739 : decode cL_law 1739 = .ok (.aload_n 2, 1) := by decide +kernel
theorem dL_law_1740 : decode cL_law 1740 = .ok (.invokevirtual 207, 3) := by decide +kernel
theorem dL_law_1743 : decode cL_law 1743 = .ok (.if_icmp .eq 101, 3) := by decide +kernel
theorem dL_law_1746 : decode cL_law 1746 = .ok (.iconst 0, 1) := by decide +kernel
theorem dL_law_1747 : decode cL_law 1747 = .ok (.ireturn, 1) := by decide +kernel
theorem dL_law_1748 : decode cL_law 1748 = .ok (.aload_n 1, 1) := by decide +kernel
theorem dL_law_1749 : decode cL_law 1749 = .ok (.invokevirtual 208, 3) := by decide +kernel
theorem dL_law_1752 : decode cL_law 1752 = .ok (.aload_n 2, 1) := by decide +kernel
theorem dL_law_1753 : decode cL_law 1753 = .ok (.invokevirtual 211, 3) := by decide +kernel
theorem dL_law_1756 : decode cL_law 1756 = .ok (.if_icmp .eq 88, 3) := by decide +kernel
theorem dL_law_1759 : decode cL_law 1759 = .ok (.iconst 0, 1) := by decide +kernel
theorem dL_law_1760 : decode cL_law 1760 = .ok (.ireturn, 1) := by decide +kernel
theorem dL_law_1761 : decode cL_law 1761 = .ok (.aload_n 1, 1) := by decide +kernel
theorem dL_law_1762 : decode cL_law 1762 = .ok (.aload_n 0, 1) := by decide +kernel
theorem dL_law_1763 : decode cL_law 1763 = .ok (.iload 5, 2) := by decide +kernel
theorem dL_law_1765 : decode cL_law 1765 = .ok (.iconst 1, 1) := by decide +kernel
theorem dL_law_1766 : decode cL_law 1766 = .ok (.iadd, 1) := by decide +kernel
theorem dL_law_1767 : decode cL_law 1767 = .ok (.iaload, 1) := by decide +kernel
theorem dL_law_1768 : decode cL_law 1768 = .ok (.aload_n 3, 1) := by decide +kernel
theorem dL_law_1769 : decode cL_law 1769 = .ok (.invokestatic 212, 3) := by decide +kernel
theorem dL_law_1772 : decode cL_law 1772 = .ok (.istore 6, 2) := by decide +kernel
theorem dL_law_1774 : decode cL_law 1774 = .ok (.aload_n 2, 1) := by decide +kernel
theorem dL_law_1775 : decode cL_law 1775 = .ok (.aload_n 0, 1) := by decide +kernel
theorem dL_law_1776 : decode cL_law 1776 = .ok (.iload 5, 2) := by decide +kernel
theorem dL_law_1778 : decode cL_law 1778 = .ok (.iconst 1, 1) := by decide +kernel
theorem dL_law_1779 : decode cL_law 1779 = .ok (.iadd, 1) := by decide +kernel
theorem dL_law_1780 : decode cL_law 1780 = .ok (.iaload, 1) := by decide +kernel
theorem dL_law_1781 : decode cL_law 1781 = .ok (.invokevirtual 214, 3) := by decide +kernel
theorem dL_law_1784 : decode cL_law 1784 = .ok (.istore 7, 2) := by decide +kernel
theorem dL_law_1786 : decode cL_law 1786 = .ok (.aload_n 2, 1) := by decide +kernel
theorem dL_law_1787 : decode cL_law 1787 = .ok (.invokevirtual 105, 3) := by decide +kernel
theorem dL_law_1790 : decode cL_law 1790 = .ok (.iload 6, 2) := by decide +kernel
theorem dL_law_1792 : decode cL_law 1792 = .ok (.if_icmp .eq 5, 3) := by decide +kernel
theorem dL_law_1795 : decode cL_law 1795 = .ok (.iconst 0, 1) := by decide +kernel
theorem dL_law_1796 : decode cL_law 1796 = .ok (.ireturn, 1) := by decide +kernel
theorem dL_law_1797 : decode cL_law 1797 = .ok (.iload 6, 2) := by decide +kernel
theorem dL_law_1799 : decode cL_law 1799 = .ok (.ifCond .ne 15, 3) := by decide +kernel
theorem dL_law_1802 : decode cL_law 1802 = .ok (.aload_n 3, 1) := by decide +kernel
theorem dL_law_1803 : decode cL_law 1803 = .ok (.iconst 0, 1) := by decide +kernel
theorem dL_law_1804 : decode cL_law 1804 = .ok (.laload, 1) := by decide +kernel
theorem dL_law_1805 : decode cL_law 1805 = .ok (.iload 7, 2) := by decide +kernel
theorem dL_law_1807 : decode cL_law 1807 = .ok (.i2l, 1) := by decide +kernel
theorem dL_law_1808 : decode cL_law 1808 = .ok (.lcmp, 1) := by decide +kernel
theorem dL_law_1809 : decode cL_law 1809 = .ok (.ifCond .eq 5, 3) := by decide +kernel
theorem dL_law_1812 : decode cL_law 1812 = .ok (.iconst 0, 1) := by decide +kernel
theorem dL_law_1813 : decode cL_law 1813 = .ok (.ireturn, 1) := by decide +kernel
theorem dL_law_1814 : decode cL_law 1814 = .ok (.goto 30, 3) := by decide +kernel
theorem dL_law_1817 : decode cL_law 1817 = .ok (.aload_n 1, 1) := by decide +kernel
theorem dL_law_1818 : decode cL_law 1818 = .ok (.invokevirtual 215, 3) := by decide +kernel
theorem dL_law_1821 : decode cL_law 1821 = .ok (.aload_n 2, 1) := by decide +kernel
theorem dL_law_1822 : decode cL_law 1822 = .ok (.invokevirtual 218, 3) := by decide +kernel
theorem dL_law_1825 : decode cL_law 1825 = .ok (.if_icmp .eq 19, 3) := by decide +kernel
theorem dL_law_1828 : decode cL_law 1828 = .ok (.iconst 0, 1) := by decide +kernel
theorem dL_law_1829 : decode cL_law 1829 = .ok (.ireturn, 1) := by decide +kernel
theorem dL_law_1830 : decode cL_law 1830 = .ok (.aload_n 1, 1) := by decide +kernel
theorem dL_law_1831 : decode cL_law 1831 = .ok (.invokevirtual 219, 3) := by decide +kernel
theorem dL_law_1834 : decode cL_law 1834 = .ok (.aload_n 2, 1) := by decide +kernel
theorem dL_law_1835 : decode cL_law 1835 = .ok (.invokevirtual 223, 3) := by decide +kernel
theorem dL_law_1838 : decode cL_law 1838 = .ok (.lcmp, 1) := by decide +kernel
theorem dL_law_1839 : decode cL_law 1839 = .ok (.ifCond .eq 5, 3) := by decide +kernel
theorem dL_law_1842 : decode cL_law 1842 = .ok (.iconst 0, 1) := by decide +kernel
theorem dL_law_1843 : decode cL_law 1843 = .ok (.ireturn, 1) := by decide +kernel
theorem dL_law_1844 : decode cL_law 1844 = .ok (.iinc 5 5, 3) := by decide +kernel
theorem dL_law_1847 : decode cL_law 1847 = .ok (.goto (-1819), 3) := by decide +kernel
theorem dL_law_1850 : decode cL_law 1850 = .ok (.iconst 1, 1) := by decide +kernel
theorem dL_law_1851 : decode cL_law 1851 = .ok (.ireturn, 1) := by decide +kernel
