set_option maxRecDepth 20000 in
theorem ggX4_init_X3_init : GoodIn wsX4_init wsX3_init := goodIn_r _ [25, 26, 2, 3, 27, 28, 29, 30, 31, 32, 33, 72, 73] (by decide +kernel) (by decide +kernel)
set_option maxRecDepth 20000 in
theorem gX4_init_X3_init : GoodIn wsX4_init (wsX3_init) := ggX4_init_X3_init
set_option maxRecDepth 20000 in
theorem ggX4_init_X1_init : GoodIn wsX4_init wsX1_init := goodIn_r _ [36, 37, 2, 3, 38, 5, 6, 39, 40, 41, 42, 43, 44, 45, 24, 25, 26, 27, 28, 29, 30, 31, 32, 33, 72, 73, 81, 82, 83, 84, 85, 86] (by decide +kernel) (by decide +kernel)
set_option maxRecDepth 20000 in
theorem gX4_init_X1_init : GoodIn wsX4_init (wsX1_init) := ggX4_init_X1_init
set_option maxRecDepth 20000 in
theorem ggX4_init_X2_init : GoodIn wsX4_init wsX2_init := goodIn_r _ [48, 49, 2, 3, 31, 50, 51, 52, 53, 54, 55, 56, 57, 87, 88, 89, 90, 91, 92, 93, 94] (by decide +kernel) (by decide +kernel)
set_option maxRecDepth 20000 in
theorem gX4_init_X2_init : GoodIn wsX4_init (wsX2_init) := ggX4_init_X2_init
set_option maxRecDepth 20000 in
theorem ggX4_init_X0_init : GoodIn wsX4_init wsX0_init := goodIn_r _ [60, 61, 2, 3, 62, 5, 6, 63, 64, 65, 66, 67, 68, 69, 70, 71, 24, 25, 26, 27, 28, 29, 30, 31, 32, 33, 72, 73, 95, 96, 97, 98, 99, 100, 101, 102] (by decide +kernel) (by decide +kernel)
set_option maxRecDepth 20000 in
theorem gX4_init_X0_init : GoodIn wsX4_init (wsX0_init) := ggX4_init_X0_init
theorem dX4_init_0 : decode cX4_init 0 = .ok (.aload_n 0, 1) := by decide +kernel
theorem dX4_init_1 : decode cX4_init 1 = .ok (.invokespecial 1, 3) := by decide +kernel
theorem dX4_init_4 : decode cX4_init 4 = .ok (.aload_n 0, 1) := by decide +kernel
theorem dX4_init_5 : decode cX4_init 5 = .ok (.new 7, 3) := by decide +kernel
theorem dX4_init_8 : decode cX4_init 8 = .ok (.dup, 1) := by decide +kernel
theorem dX4_init_9 : decode cX4_init 9 = .ok (.sipush 150, 3) := by decide +kernel
theorem dX4_init_12 : decode cX4_init 12 = .ok (.invokespecial 11, 3) := by decide +kernel
theorem dX4_init_15 : decode cX4_init 15 = .ok (.putfield 14, 3) := by decide +kernel
theorem dX4_init_18 : decode cX4_init 18 = .ok (.aload_n 0, 1) := by decide +kernel
theorem dX4_init_19 : decode cX4_init 19 = .ok (.new 7, 3) := by decide +kernel
theorem dX4_init_22 : decode cX4_init 22 = .ok (.dup, 1) := by decide +kernel
theorem dX4_init_23 : decode cX4_init 23 = .ok (.sipush 150, 3) := by decide +kernel
theorem dX4_init_26 : decode cX4_init 26 = .ok (.invokespecial 11, 3) := by decide +kernel
theorem dX4_init_29 : decode cX4_init 29 = .ok (.putfield 18, 3) := by decide +kernel
theorem dX4_init_32 : decode cX4_init 32 = .ok (.aload_n 0, 1) := by decide +kernel
theorem dX4_init_33 : decode cX4_init 33 = .ok (.new 7, 3) := by decide +kernel
theorem dX4_init_36 : decode cX4_init 36 = .ok (.dup, 1) := by decide +kernel
theorem dX4_init_37 : decode cX4_init 37 = .ok (.sipush 400, 3) := by decide +kernel
theorem dX4_init_40 : decode cX4_init 40 = .ok (.invokespecial 11, 3) := by decide +kernel
theorem dX4_init_43 : decode cX4_init 43 = .ok (.putfield 21, 3) := by decide +kernel
theorem dX4_init_46 : decode cX4_init 46 = .ok (.aload_n 0, 1) := by decide +kernel
theorem dX4_init_47 : decode cX4_init 47 = .ok (.new 24, 3) := by decide +kernel
theorem dX4_init_50 : decode cX4_init 50 = .ok (.dup, 1) := by decide +kernel
theorem dX4_init_51 : decode cX4_init 51 = .ok (.invokespecial 26, 3) := by decide +kernel
theorem dX4_init_54 : decode cX4_init 54 = .ok (.putfield 27, 3) := by decide +kernel
theorem dX4_init_57 : decode cX4_init 57 = .ok (.aload_n 0, 1) := by decide +kernel
theorem dX4_init_58 : decode cX4_init 58 = .ok (.new 31, 3) := by decide +kernel
theorem dX4_init_61 : decode cX4_init 61 = .ok (.dup, 1) := by decide +kernel
theorem dX4_init_62 : decode cX4_init 62 = .ok (.invokespecial 33, 3) := by decide +kernel
theorem dX4_init_65 : decode cX4_init 65 = .ok (.putfield 34, 3) := by decide +kernel
theorem dX4_init_68 : decode cX4_init 68 = .ok (.aload_n 0, 1) := by decide +kernel
theorem dX4_init_69 : decode cX4_init 69 = .ok (.new 38, 3) := by decide +kernel
theorem dX4_init_72 : decode cX4_init 72 = .ok (.dup, 1) := by decide +kernel
theorem dX4_init_73 : decode cX4_init 73 = .ok (.invokespecial 40, 3) := by decide +kernel
theorem dX4_init_76 : decode cX4_init 76 = .ok (.putfield 41, 3) := by decide +kernel
theorem dX4_init_79 : decode cX4_init 79 = .ok (.aload_n 0, 1) := by decide +kernel
theorem dX4_init_80 : decode cX4_init 80 = .ok (.iconst 3, 1) := by decide +kernel
theorem dX4_init_81 : decode cX4_init 81 = .ok (.putfield 45, 3) := by decide +kernel
theorem dX4_init_84 : decode cX4_init 84 = .ok (.return_, 1) := by decide +kernel
set_option maxRecDepth 20000 in
theorem ggX4_feed_X4_needSide : GoodIn wsX4_feed wsX4_needSide := goodIn_ca (goodIn_r _ [5, 6, 7] (by decide +kernel) (by decide +kernel)) (goodIn_sub (fun _ h => List.mem_cons_of_mem _ (List.mem_append_left _ (List.mem_append_left _ (List.mem_append_right _ h)))) (by decide +kernel))
set_option maxRecDepth 20000 in
theorem gX4_feed_X4_needSide : GoodIn wsX4_feed (va_wsS RX4 49 yX4_needSide wsX4_needSide) := goodIn_app (goodIn_of _ (by decide +kernel)) ggX4_feed_X4_needSide
set_option maxRecDepth 20000 in
theorem ggX4_feed_X4_needWithin : GoodIn wsX4_feed wsX4_needWithin := goodIn_ca (goodIn_r _ [10, 11, 12] (by decide +kernel) (by decide +kernel)) (goodIn_sub (fun _ h => List.mem_cons_of_mem _ (List.mem_append_left _ (List.mem_append_right _ h))) (by decide +kernel))
set_option maxRecDepth 20000 in
theorem gX4_feed_X4_needWithin : GoodIn wsX4_feed (va_wsS RX4 52 yX4_needWithin wsX4_needWithin) := goodIn_app (goodIn_of _ (by decide +kernel)) ggX4_feed_X4_needWithin
set_option maxRecDepth 20000 in
theorem ggX4_feed_X4_rowOf : GoodIn wsX4_feed wsX4_rowOf := goodIn_r _ [16, 17, 18, 45, 46, 47, 48, 49, 50, 51] (by decide +kernel) (by decide +kernel)
set_option maxRecDepth 20000 in
theorem gX4_feed_X4_rowOf : GoodIn wsX4_feed (wsV RX4 56 RX4 yX4_rowOf wsX4_rowOf) := goodIn_app (goodIn_of _ (by decide +kernel)) ggX4_feed_X4_rowOf
set_option maxRecDepth 20000 in
theorem ggX4_feed_X4_needRoom : GoodIn wsX4_feed wsX4_needRoom := goodIn_ca (goodIn_r _ [21, 22, 23, 24, 25, 26, 27, 28, 29, 30, 52, 53] (by decide +kernel) (by decide +kernel)) (goodIn_sub (fun _ h => List.mem_cons_of_mem _ (List.mem_append_right _ h)) (by decide +kernel))
set_option maxRecDepth 20000 in
theorem gX4_feed_X4_needRoom : GoodIn wsX4_feed (va_wsS RX4 60 yX4_needRoom wsX4_needRoom) := goodIn_app (goodIn_of _ (by decide +kernel)) ggX4_feed_X4_needRoom
set_option maxRecDepth 20000 in
theorem ggX4_feed_X3_append : GoodIn wsX4_feed wsX3_append := goodIn_r _ [34, 30, 29, 52, 53] (by decide +kernel) (by decide +kernel)
set_option maxRecDepth 20000 in
theorem gX4_feed_X3_append : GoodIn wsX4_feed (wsV RX4 64 RX3 yX3_append wsX3_append) := goodIn_app (goodIn_of _ (by decide +kernel)) ggX4_feed_X3_append
set_option maxRecDepth 20000 in
theorem ggX4_feed_X1_forget : GoodIn wsX4_feed wsX1_forget := goodIn_r _ [39, 40, 54, 55, 56, 57, 58, 59] (by decide +kernel) (by decide +kernel)
set_option maxRecDepth 20000 in
theorem gX4_feed_X1_forget : GoodIn wsX4_feed (wsV RX4 67 RX1 yX1_forget wsX1_forget) := goodIn_app (goodIn_of _ (by decide +kernel)) ggX4_feed_X1_forget
set_option maxRecDepth 20000 in
theorem ggX4_feed_X3_count : GoodIn wsX4_feed wsX3_count := goodIn_r _ [44, 30, 52, 53] (by decide +kernel) (by decide +kernel)
set_option maxRecDepth 20000 in
theorem gX4_feed_X3_count : GoodIn wsX4_feed (wsV RX4 70 RX3 yX3_count wsX3_count) := goodIn_app (goodIn_of _ (by decide +kernel)) ggX4_feed_X3_count
theorem dX4_feed_0 : decode cX4_feed 0 = .ok (.iload_n 1, 1) := by decide +kernel
theorem dX4_feed_1 : decode cX4_feed 1 = .ok (.invokestatic 49, 3) := by decide +kernel
theorem dX4_feed_4 : decode cX4_feed 4 = .ok (.iload 4, 2) := by decide +kernel
theorem dX4_feed_6 : decode cX4_feed 6 = .ok (.iconst 1, 1) := by decide +kernel
theorem dX4_feed_7 : decode cX4_feed 7 = .ok (.bipush 8, 2) := by decide +kernel
theorem dX4_feed_9 : decode cX4_feed 9 = .ok (.invokestatic 52, 3) := by decide +kernel
theorem dX4_feed_12 : decode cX4_feed 12 = .ok (.aload_n 0, 1) := by decide +kernel
theorem dX4_feed_13 : decode cX4_feed 13 = .ok (.iload_n 1, 1) := by decide +kernel
theorem dX4_feed_14 : decode cX4_feed 14 = .ok (.invokevirtual 56, 3) := by decide +kernel
theorem dX4_feed_17 : decode cX4_feed 17 = .ok (.astore 5, 2) := by decide +kernel
theorem dX4_feed_19 : decode cX4_feed 19 = .ok (.aload 5, 2) := by decide +kernel
theorem dX4_feed_21 : decode cX4_feed 21 = .ok (.iload 4, 2) := by decide +kernel
theorem dX4_feed_23 : decode cX4_feed 23 = .ok (.invokestatic 60, 3) := by decide +kernel
theorem dX4_feed_26 : decode cX4_feed 26 = .ok (.iload 4, 2) := by decide +kernel
theorem dX4_feed_28 : decode cX4_feed 28 = .ok (.iconst 1, 1) := by decide +kernel
theorem dX4_feed_29 : decode cX4_feed 29 = .ok (.isub, 1) := by decide +kernel
theorem dX4_feed_30 : decode cX4_feed 30 = .ok (.istore 6, 2) := by decide +kernel
theorem dX4_feed_32 : decode cX4_feed 32 = .ok (.iload 6, 2) := by decide +kernel
theorem dX4_feed_34 : decode cX4_feed 34 = .ok (.ifCond .lt 26, 3) := by decide +kernel
theorem dX4_feed_37 : decode cX4_feed 37 = .ok (.aload 5, 2) := by decide +kernel
theorem dX4_feed_39 : decode cX4_feed 39 = .ok (.lload_n 2, 1) := by decide +kernel
theorem dX4_feed_40 : decode cX4_feed 40 = .ok (.bipush 8, 2) := by decide +kernel
theorem dX4_feed_42 : decode cX4_feed 42 = .ok (.iload 6, 2) := by decide +kernel
theorem dX4_feed_44 : decode cX4_feed 44 = .ok (.imul, 1) := by decide +kernel
theorem dX4_feed_45 : decode cX4_feed 45 = .ok (.lushr, 1) := by decide +kernel
theorem dX4_feed_46 : decode cX4_feed 46 = .ok (.l2i, 1) := by decide +kernel
theorem dX4_feed_47 : decode cX4_feed 47 = .ok (.sipush 255, 3) := by decide +kernel
theorem dX4_feed_50 : decode cX4_feed 50 = .ok (.iand, 1) := by decide +kernel
theorem dX4_feed_51 : decode cX4_feed 51 = .ok (.invokevirtual 64, 3) := by decide +kernel
theorem dX4_feed_54 : decode cX4_feed 54 = .ok (.iinc 6 (-1), 3) := by decide +kernel
theorem dX4_feed_57 : decode cX4_feed 57 = .ok (.goto (-25), 3) := by decide +kernel
theorem dX4_feed_60 : decode cX4_feed 60 = .ok (.aload_n 0, 1) := by decide +kernel
theorem dX4_feed_61 : decode cX4_feed 61 = .ok (.getfield 27, 3) := by decide +kernel
theorem dX4_feed_64 : decode cX4_feed 64 = .ok (.invokevirtual 67, 3) := by decide +kernel
theorem dX4_feed_67 : decode cX4_feed 67 = .ok (.aload 5, 2) := by decide +kernel
theorem dX4_feed_69 : decode cX4_feed 69 = .ok (.invokevirtual 70, 3) := by decide +kernel
theorem dX4_feed_72 : decode cX4_feed 72 = .ok (.ireturn, 1) := by decide +kernel
set_option maxRecDepth 20000 in
theorem ggX4_fill_X4_needSide : GoodIn wsX4_fill wsX4_needSide := goodIn_ca (goodIn_r _ [5, 6, 7] (by decide +kernel) (by decide +kernel)) (goodIn_sub (fun _ h => List.mem_cons_of_mem _ (List.mem_append_left _ (List.mem_append_left _ (List.mem_append_right _ h)))) (by decide +kernel))
set_option maxRecDepth 20000 in
theorem gX4_fill_X4_needSide : GoodIn wsX4_fill (va_wsS RX4 49 yX4_needSide wsX4_needSide) := goodIn_app (goodIn_of _ (by decide +kernel)) ggX4_fill_X4_needSide
set_option maxRecDepth 20000 in
theorem ggX4_fill_X4_needWithin : GoodIn wsX4_fill wsX4_needWithin := goodIn_ca (goodIn_r _ [10, 11, 12] (by decide +kernel) (by decide +kernel)) (goodIn_sub (fun _ h => List.mem_cons_of_mem _ (List.mem_append_left _ (List.mem_append_right _ h))) (by decide +kernel))
set_option maxRecDepth 20000 in
theorem gX4_fill_X4_needWithin : GoodIn wsX4_fill (va_wsS RX4 52 yX4_needWithin wsX4_needWithin) := goodIn_app (goodIn_of _ (by decide +kernel)) ggX4_fill_X4_needWithin
set_option maxRecDepth 20000 in
theorem ggX4_fill_X4_rowOf : GoodIn wsX4_fill wsX4_rowOf := goodIn_r _ [16, 17, 18, 45, 46, 47, 48, 49, 50, 51] (by decide +kernel) (by decide +kernel)
set_option maxRecDepth 20000 in
theorem gX4_fill_X4_rowOf : GoodIn wsX4_fill (wsV RX4 56 RX4 yX4_rowOf wsX4_rowOf) := goodIn_app (goodIn_of _ (by decide +kernel)) ggX4_fill_X4_rowOf
set_option maxRecDepth 20000 in
theorem ggX4_fill_X4_needRoom : GoodIn wsX4_fill wsX4_needRoom := goodIn_ca (goodIn_r _ [21, 22, 23, 24, 25, 26, 27, 28, 29, 30, 52, 53] (by decide +kernel) (by decide +kernel)) (goodIn_sub (fun _ h => List.mem_cons_of_mem _ (List.mem_append_right _ h)) (by decide +kernel))
set_option maxRecDepth 20000 in
theorem gX4_fill_X4_needRoom : GoodIn wsX4_fill (va_wsS RX4 60 yX4_needRoom wsX4_needRoom) := goodIn_app (goodIn_of _ (by decide +kernel)) ggX4_fill_X4_needRoom
set_option maxRecDepth 20000 in
theorem ggX4_fill_X3_append : GoodIn wsX4_fill wsX3_append := goodIn_r _ [34, 30, 29, 52, 53] (by decide +kernel) (by decide +kernel)
set_option maxRecDepth 20000 in
theorem gX4_fill_X3_append : GoodIn wsX4_fill (wsV RX4 64 RX3 yX3_append wsX3_append) := goodIn_app (goodIn_of _ (by decide +kernel)) ggX4_fill_X3_append
set_option maxRecDepth 20000 in
theorem ggX4_fill_X1_forget : GoodIn wsX4_fill wsX1_forget := goodIn_r _ [39, 40, 54, 55, 56, 57, 58, 59] (by decide +kernel) (by decide +kernel)
set_option maxRecDepth 20000 in
theorem gX4_fill_X1_forget : GoodIn wsX4_fill (wsV RX4 67 RX1 yX1_forget wsX1_forget) := goodIn_app (goodIn_of _ (by decide +kernel)) ggX4_fill_X1_forget
set_option maxRecDepth 20000 in
theorem ggX4_fill_X3_count : GoodIn wsX4_fill wsX3_count := goodIn_r _ [44, 30, 52, 53] (by decide +kernel) (by decide +kernel)
set_option maxRecDepth 20000 in
theorem gX4_fill_X3_count : GoodIn wsX4_fill (wsV RX4 70 RX3 yX3_count wsX3_count) := goodIn_app (goodIn_of _ (by decide +kernel)) ggX4_fill_X3_count
theorem dX4_fill_0 : decode cX4_fill 0 = .ok (.iload_n 1, 1) := by decide +kernel
theorem dX4_fill_1 : decode cX4_fill 1 = .ok (.invokestatic 49, 3) := by decide +kernel
theorem dX4_fill_4 : decode cX4_fill 4 = .ok (.iload_n 2, 1) := by decide +kernel
theorem dX4_fill_5 : decode cX4_fill 5 = .ok (.iconst 0, 1) := by decide +kernel
theorem dX4_fill_6 : decode cX4_fill 6 = .ok (.sipush 255, 3) := by decide +kernel
theorem dX4_fill_9 : decode cX4_fill 9 = .ok (.invokestatic 52, 3) := by decide +kernel
theorem dX4_fill_12 : decode cX4_fill 12 = .ok (.iload_n 3, 1) := by decide +kernel
theorem dX4_fill_13 : decode cX4_fill 13 = .ok (.iconst 1, 1) := by decide +kernel
theorem dX4_fill_14 : decode cX4_fill 14 = .ok (.sipush 150, 3) := by decide +kernel
theorem dX4_fill_17 : decode cX4_fill 17 = .ok (.invokestatic 52, 3) := by decide +kernel
theorem dX4_fill_20 : decode cX4_fill 20 = .ok (.aload_n 0, 1) := by decide +kernel
theorem dX4_fill_21 : decode cX4_fill 21 = .ok (.iload_n 1, 1) := by decide +kernel
theorem dX4_fill_22 : decode cX4_fill 22 = .ok (.invokevirtual 56, 3) := by decide +kernel
theorem dX4_fill_25 : decode cX4_fill 25 = .ok (.astore 4, 2) := by decide +kernel
theorem dX4_fill_27 : decode cX4_fill 27 = .ok (.aload 4, 2) := by decide +kernel
theorem dX4_fill_29 : decode cX4_fill 29 = .ok (.iload_n 3, 1) := by decide +kernel
theorem dX4_fill_30 : decode cX4_fill 30 = .ok (.invokestatic 60, 3) := by decide +kernel
theorem dX4_fill_33 : decode cX4_fill 33 = .ok (.iconst 0, 1) := by decide +kernel
theorem dX4_fill_34 : decode cX4_fill 34 = .ok (.istore 5, 2) := by decide +kernel
theorem dX4_fill_36 : decode cX4_fill 36 = .ok (.iload 5, 2) := by decide +kernel
theorem dX4_fill_38 : decode cX4_fill 38 = .ok (.iload_n 3, 1) := by decide +kernel
theorem dX4_fill_39 : decode cX4_fill 39 = .ok (.if_icmp .ge 15, 3) := by decide +kernel
theorem dX4_fill_42 : decode cX4_fill 42 = .ok (.aload 4, 2) := by decide +kernel
theorem dX4_fill_44 : decode cX4_fill 44 = .ok (.iload_n 2, 1) := by decide +kernel
theorem dX4_fill_45 : decode cX4_fill 45 = .ok (.invokevirtual 64, 3) := by decide +kernel
theorem dX4_fill_48 : decode cX4_fill 48 = .ok (.iinc 5 1, 3) := by decide +kernel
theorem dX4_fill_51 : decode cX4_fill 51 = .ok (.goto (-15), 3) := by decide +kernel
theorem dX4_fill_54 : decode cX4_fill 54 = .ok (.aload_n 0, 1) := by decide +kernel
theorem dX4_fill_55 : decode cX4_fill 55 = .ok (.getfield 27, 3) := by decide +kernel
theorem dX4_fill_58 : decode cX4_fill 58 = .ok (.invokevirtual 67, 3) := by decide +kernel
theorem dX4_fill_61 : decode cX4_fill 61 = .ok (.aload 4, 2) := by decide +kernel
theorem dX4_fill_63 : decode cX4_fill 63 = .ok (.invokevirtual 70, 3) := by decide +kernel
theorem dX4_fill_66 : decode cX4_fill 66 = .ok (.ireturn, 1) := by decide +kernel
set_option maxRecDepth 20000 in
theorem ggX4_cut_X4_needSide : GoodIn wsX4_cut wsX4_needSide := goodIn_ca (goodIn_r _ [5, 6, 7] (by decide +kernel) (by decide +kernel)) (goodIn_sub (fun _ h => List.mem_cons_of_mem _ (List.mem_append_left _ (List.mem_append_right _ h))) (by decide +kernel))
set_option maxRecDepth 20000 in
theorem gX4_cut_X4_needSide : GoodIn wsX4_cut (va_wsS RX4 49 yX4_needSide wsX4_needSide) := goodIn_app (goodIn_of _ (by decide +kernel)) ggX4_cut_X4_needSide
set_option maxRecDepth 20000 in
theorem ggX4_cut_X4_rowOf : GoodIn wsX4_cut wsX4_rowOf := goodIn_r _ [11, 12, 13, 35, 36, 37, 38, 39, 40, 41] (by decide +kernel) (by decide +kernel)
set_option maxRecDepth 20000 in
theorem gX4_cut_X4_rowOf : GoodIn wsX4_cut (wsV RX4 56 RX4 yX4_rowOf wsX4_rowOf) := goodIn_app (goodIn_of _ (by decide +kernel)) ggX4_cut_X4_rowOf
set_option maxRecDepth 20000 in
theorem ggX4_cut_X3_count : GoodIn wsX4_cut wsX3_count := goodIn_r _ [18, 19, 42, 43] (by decide +kernel) (by decide +kernel)
set_option maxRecDepth 20000 in
theorem gX4_cut_X3_count : GoodIn wsX4_cut (wsV RX4 70 RX3 yX3_count wsX3_count) := goodIn_app (goodIn_of _ (by decide +kernel)) ggX4_cut_X3_count
set_option maxRecDepth 20000 in
theorem ggX4_cut_X4_needWithin : GoodIn wsX4_cut wsX4_needWithin := goodIn_ca (goodIn_r _ [22, 23, 24] (by decide +kernel) (by decide +kernel)) (goodIn_sub (fun _ h => List.mem_cons_of_mem _ (List.mem_append_right _ h)) (by decide +kernel))
set_option maxRecDepth 20000 in
theorem gX4_cut_X4_needWithin : GoodIn wsX4_cut (va_wsS RX4 52 yX4_needWithin wsX4_needWithin) := goodIn_app (goodIn_of _ (by decide +kernel)) ggX4_cut_X4_needWithin
set_option maxRecDepth 20000 in
theorem ggX4_cut_X3_drop : GoodIn wsX4_cut wsX3_drop := goodIn_r _ [28, 19, 42, 43] (by decide +kernel) (by decide +kernel)
set_option maxRecDepth 20000 in
theorem gX4_cut_X3_drop : GoodIn wsX4_cut (wsV RX4 74 RX3 yX3_drop wsX3_drop) := goodIn_app (goodIn_of _ (by decide +kernel)) ggX4_cut_X3_drop
set_option maxRecDepth 20000 in
theorem ggX4_cut_X1_forget : GoodIn wsX4_cut wsX1_forget := goodIn_r _ [33, 34, 44, 45, 46, 47, 48, 49] (by decide +kernel) (by decide +kernel)
set_option maxRecDepth 20000 in
theorem gX4_cut_X1_forget : GoodIn wsX4_cut (wsV RX4 67 RX1 yX1_forget wsX1_forget) := goodIn_app (goodIn_of _ (by decide +kernel)) ggX4_cut_X1_forget
theorem dX4_cut_0 : decode cX4_cut 0 = .ok (.iload_n 1, 1) := by decide +kernel
theorem dX4_cut_1 : decode cX4_cut 1 = .ok (.invokestatic 49, 3) := by decide +kernel
theorem dX4_cut_4 : decode cX4_cut 4 = .ok (.aload_n 0, 1) := by decide +kernel
theorem dX4_cut_5 : decode cX4_cut 5 = .ok (.iload_n 1, 1) := by decide +kernel
theorem dX4_cut_6 : decode cX4_cut 6 = .ok (.invokevirtual 56, 3) := by decide +kernel
theorem dX4_cut_9 : decode cX4_cut 9 = .ok (.astore_n 3, 1) := by decide +kernel
theorem dX4_cut_10 : decode cX4_cut 10 = .ok (.iload_n 2, 1) := by decide +kernel
theorem dX4_cut_11 : decode cX4_cut 11 = .ok (.iconst 0, 1) := by decide +kernel
theorem dX4_cut_12 : decode cX4_cut 12 = .ok (.aload_n 3, 1) := by decide +kernel
theorem dX4_cut_13 : decode cX4_cut 13 = .ok (.invokevirtual 70, 3) := by decide +kernel
theorem dX4_cut_16 : decode cX4_cut 16 = .ok (.invokestatic 52, 3) := by decide +kernel
theorem dX4_cut_19 : decode cX4_cut 19 = .ok (.aload_n 3, 1) := by decide +kernel
theorem dX4_cut_20 : decode cX4_cut 20 = .ok (.iload_n 2, 1) := by decide +kernel
theorem dX4_cut_21 : decode cX4_cut 21 = .ok (.invokevirtual 74, 3) := by decide +kernel
theorem dX4_cut_24 : decode cX4_cut 24 = .ok (.aload_n 0, 1) := by decide +kernel
theorem dX4_cut_25 : decode cX4_cut 25 = .ok (.getfield 27, 3) := by decide +kernel
theorem dX4_cut_28 : decode cX4_cut 28 = .ok (.invokevirtual 67, 3) := by decide +kernel
theorem dX4_cut_31 : decode cX4_cut 31 = .ok (.aload_n 3, 1) := by decide +kernel
theorem dX4_cut_32 : decode cX4_cut 32 = .ok (.invokevirtual 70, 3) := by decide +kernel
theorem dX4_cut_35 : decode cX4_cut 35 = .ok (.ireturn, 1) := by decide +kernel
set_option maxRecDepth 20000 in
theorem ggX4_set_X4_needSide : GoodIn wsX4_set wsX4_needSide := goodIn_ca (goodIn_r _ [5, 6, 7] (by decide +kernel) (by decide +kernel)) (goodIn_sub (fun _ h => List.mem_cons_of_mem _ (List.mem_append_left _ (List.mem_append_right _ h))) (by decide +kernel))
set_option maxRecDepth 20000 in
theorem gX4_set_X4_needSide : GoodIn wsX4_set (va_wsS RX4 49 yX4_needSide wsX4_needSide) := goodIn_app (goodIn_of _ (by decide +kernel)) ggX4_set_X4_needSide
set_option maxRecDepth 20000 in
theorem ggX4_set_X4_rowOf : GoodIn wsX4_set wsX4_rowOf := goodIn_r _ [11, 12, 13, 44, 45, 46, 47, 48, 49, 50] (by decide +kernel) (by decide +kernel)
set_option maxRecDepth 20000 in
theorem gX4_set_X4_rowOf : GoodIn wsX4_set (wsV RX4 56 RX4 yX4_rowOf wsX4_rowOf) := goodIn_app (goodIn_of _ (by decide +kernel)) ggX4_set_X4_rowOf
set_option maxRecDepth 20000 in
theorem ggX4_set_X4_needPlace : GoodIn wsX4_set wsX4_needPlace := goodIn_ca (goodIn_r _ [16, 6, 7, 17, 18, 19, 20, 21, 22, 23, 51, 52] (by decide +kernel) (by decide +kernel)) (goodIn_sub (fun _ h => List.mem_cons_of_mem _ (List.mem_append_left _ (List.mem_append_right _ h))) (by decide +kernel))
set_option maxRecDepth 20000 in
theorem gX4_set_X4_needPlace : GoodIn wsX4_set (va_wsS RX4 77 yX4_needPlace wsX4_needPlace) := goodIn_app (goodIn_of _ (by decide +kernel)) ggX4_set_X4_needPlace
set_option maxRecDepth 20000 in
theorem ggX4_set_X4_needWithin : GoodIn wsX4_set wsX4_needWithin := goodIn_ca (goodIn_r _ [26, 27, 28] (by decide +kernel) (by decide +kernel)) (goodIn_sub (fun _ h => List.mem_cons_of_mem _ (List.mem_append_right _ h)) (by decide +kernel))
set_option maxRecDepth 20000 in
theorem gX4_set_X4_needWithin : GoodIn wsX4_set (va_wsS RX4 52 yX4_needWithin wsX4_needWithin) := goodIn_app (goodIn_of _ (by decide +kernel)) ggX4_set_X4_needWithin
set_option maxRecDepth 20000 in
theorem ggX4_set_X3_at : GoodIn wsX4_set wsX3_at := goodIn_r _ [32, 23, 33, 18, 19, 20, 21, 22, 51, 52] (by decide +kernel) (by decide +kernel)
set_option maxRecDepth 20000 in
theorem gX4_set_X3_at : GoodIn wsX4_set (wsV RX4 80 RX3 yX3_at wsX3_at) := goodIn_app (goodIn_of _ (by decide +kernel)) ggX4_set_X3_at
set_option maxRecDepth 20000 in
theorem ggX4_set_X3_put : GoodIn wsX4_set wsX3_put := goodIn_r _ [37, 23, 33, 18, 19, 20, 21, 22, 51, 52] (by decide +kernel) (by decide +kernel)
set_option maxRecDepth 20000 in
theorem gX4_set_X3_put : GoodIn wsX4_set (wsV RX4 84 RX3 yX3_put wsX3_put) := goodIn_app (goodIn_of _ (by decide +kernel)) ggX4_set_X3_put
set_option maxRecDepth 20000 in
theorem ggX4_set_X1_forget : GoodIn wsX4_set wsX1_forget := goodIn_r _ [42, 43, 53, 54, 55, 56, 57, 58] (by decide +kernel) (by decide +kernel)
set_option maxRecDepth 20000 in
theorem gX4_set_X1_forget : GoodIn wsX4_set (wsV RX4 67 RX1 yX1_forget wsX1_forget) := goodIn_app (goodIn_of _ (by decide +kernel)) ggX4_set_X1_forget
theorem dX4_set_0 : decode cX4_set 0 = .ok (.iload_n 1, 1) := by decide +kernel
theorem dX4_set_1 : decode cX4_set 1 = .ok (.invokestatic 49, 3) := by decide +kernel
theorem dX4_set_4 : decode cX4_set 4 = .ok (.aload_n 0, 1) := by decide +kernel
theorem dX4_set_5 : decode cX4_set 5 = .ok (.iload_n 1, 1) := by decide +kernel
theorem dX4_set_6 : decode cX4_set 6 = .ok (.invokevirtual 56, 3) := by decide +kernel
theorem dX4_set_9 : decode cX4_set 9 = .ok (.astore 4, 2) := by decide +kernel
theorem dX4_set_11 : decode cX4_set 11 = .ok (.aload 4, 2) := by decide +kernel
theorem dX4_set_13 : decode cX4_set 13 = .ok (.iload_n 2, 1) := by decide +kernel
theorem dX4_set_14 : decode cX4_set 14 = .ok (.invokestatic 77, 3) := by decide +kernel
theorem dX4_set_17 : decode cX4_set 17 = .ok (.iload_n 3, 1) := by decide +kernel
theorem dX4_set_18 : decode cX4_set 18 = .ok (.iconst 0, 1) := by decide +kernel
theorem dX4_set_19 : decode cX4_set 19 = .ok (.sipush 255, 3) := by decide +kernel
theorem dX4_set_22 : decode cX4_set 22 = .ok (.invokestatic 52, 3) := by decide +kernel
theorem dX4_set_25 : decode cX4_set 25 = .ok (.aload 4, 2) := by decide +kernel
theorem dX4_set_27 : decode cX4_set 27 = .ok (.iload_n 2, 1) := by decide +kernel
theorem dX4_set_28 : decode cX4_set 28 = .ok (.invokevirtual 80, 3) := by decide +kernel
theorem dX4_set_31 : decode cX4_set 31 = .ok (.istore 5, 2) := by decide +kernel
theorem dX4_set_33 : decode cX4_set 33 = .ok (.aload 4, 2) := by decide +kernel
theorem dX4_set_35 : decode cX4_set 35 = .ok (.iload_n 2, 1) := by decide +kernel
theorem dX4_set_36 : decode cX4_set 36 = .ok (.iload_n 3, 1) := by decide +kernel
theorem dX4_set_37 : decode cX4_set 37 = .ok (.invokevirtual 84, 3) := by decide +kernel
theorem dX4_set_40 : decode cX4_set 40 = .ok (.aload_n 0, 1) := by decide +kernel
theorem dX4_set_41 : decode cX4_set 41 = .ok (.getfield 27, 3) := by decide +kernel
theorem dX4_set_44 : decode cX4_set 44 = .ok (.invokevirtual 67, 3) := by decide +kernel
theorem dX4_set_47 : decode cX4_set 47 = .ok (.iload 5, 2) := by decide +kernel
theorem dX4_set_49 : decode cX4_set 49 = .ok (.ireturn, 1) := by decide +kernel
set_option maxRecDepth 20000 in
theorem ggX4_size_X4_needSide : GoodIn wsX4_size wsX4_needSide := goodIn_ca (goodIn_r _ [4, 5, 6] (by decide +kernel) (by decide +kernel)) (goodIn_sub (fun _ h => List.mem_cons_of_mem _ (List.mem_append_right _ h)) (by decide +kernel))
set_option maxRecDepth 20000 in
theorem gX4_size_X4_needSide : GoodIn wsX4_size (va_wsS RX4 49 yX4_needSide wsX4_needSide) := goodIn_app (goodIn_of _ (by decide +kernel)) ggX4_size_X4_needSide
set_option maxRecDepth 20000 in
theorem ggX4_size_X4_rowOf : GoodIn wsX4_size wsX4_rowOf := goodIn_r _ [10, 11, 12, 19, 20, 21, 22, 23, 24, 25] (by decide +kernel) (by decide +kernel)
set_option maxRecDepth 20000 in
theorem gX4_size_X4_rowOf : GoodIn wsX4_size (wsV RX4 56 RX4 yX4_rowOf wsX4_rowOf) := goodIn_app (goodIn_of _ (by decide +kernel)) ggX4_size_X4_rowOf
set_option maxRecDepth 20000 in
theorem ggX4_size_X3_count : GoodIn wsX4_size wsX3_count := goodIn_r _ [17, 18, 26, 27] (by decide +kernel) (by decide +kernel)
set_option maxRecDepth 20000 in
theorem gX4_size_X3_count : GoodIn wsX4_size (wsV RX4 70 RX3 yX3_count wsX3_count) := goodIn_app (goodIn_of _ (by decide +kernel)) ggX4_size_X3_count
theorem dX4_size_0 : decode cX4_size 0 = .ok (.iload_n 1, 1) := by decide +kernel
theorem dX4_size_1 : decode cX4_size 1 = .ok (.invokestatic 49, 3) := by decide +kernel
theorem dX4_size_4 : decode cX4_size 4 = .ok (.aload_n 0, 1) := by decide +kernel
theorem dX4_size_5 : decode cX4_size 5 = .ok (.iload_n 1, 1) := by decide +kernel
theorem dX4_size_6 : decode cX4_size 6 = .ok (.invokevirtual 56, 3) := by decide +kernel
theorem dX4_size_9 : decode cX4_size 9 = .ok (.invokevirtual 70, 3) := by decide +kernel
theorem dX4_size_12 : decode cX4_size 12 = .ok (.ireturn, 1) := by decide +kernel
set_option maxRecDepth 20000 in
theorem ggX4_byteAt_X4_needSide : GoodIn wsX4_byteAt wsX4_needSide := goodIn_ca (goodIn_r _ [4, 5, 6] (by decide +kernel) (by decide +kernel)) (goodIn_sub (fun _ h => List.mem_cons_of_mem _ (List.mem_append_right _ h)) (by decide +kernel))
set_option maxRecDepth 20000 in
theorem gX4_byteAt_X4_needSide : GoodIn wsX4_byteAt (va_wsS RX4 49 yX4_needSide wsX4_needSide) := goodIn_app (goodIn_of _ (by decide +kernel)) ggX4_byteAt_X4_needSide
set_option maxRecDepth 20000 in
theorem ggX4_byteAt_X4_rowOf : GoodIn wsX4_byteAt wsX4_rowOf := goodIn_r _ [10, 11, 12, 28, 29, 30, 31, 32, 33, 34] (by decide +kernel) (by decide +kernel)
set_option maxRecDepth 20000 in
theorem gX4_byteAt_X4_rowOf : GoodIn wsX4_byteAt (wsV RX4 56 RX4 yX4_rowOf wsX4_rowOf) := goodIn_app (goodIn_of _ (by decide +kernel)) ggX4_byteAt_X4_rowOf
set_option maxRecDepth 20000 in
theorem ggX4_byteAt_X4_needPlace : GoodIn wsX4_byteAt wsX4_needPlace := goodIn_ca (goodIn_r _ [15, 5, 6, 16, 17, 18, 19, 20, 21, 22, 35, 36] (by decide +kernel) (by decide +kernel)) (goodIn_sub (fun _ h => List.mem_cons_of_mem _ (List.mem_append_right _ h)) (by decide +kernel))
set_option maxRecDepth 20000 in
theorem gX4_byteAt_X4_needPlace : GoodIn wsX4_byteAt (va_wsS RX4 77 yX4_needPlace wsX4_needPlace) := goodIn_app (goodIn_of _ (by decide +kernel)) ggX4_byteAt_X4_needPlace
set_option maxRecDepth 20000 in
theorem ggX4_byteAt_X3_at : GoodIn wsX4_byteAt wsX3_at := goodIn_r _ [26, 22, 27, 17, 18, 19, 20, 21, 35, 36] (by decide +kernel) (by decide +kernel)
set_option maxRecDepth 20000 in
theorem gX4_byteAt_X3_at : GoodIn wsX4_byteAt (wsV RX4 80 RX3 yX3_at wsX3_at) := goodIn_app (goodIn_of _ (by decide +kernel)) ggX4_byteAt_X3_at
theorem dX4_byteAt_0 : decode cX4_byteAt 0 = .ok (.iload_n 1, 1) := by decide +kernel
theorem dX4_byteAt_1 : decode cX4_byteAt 1 = .ok (.invokestatic 49, 3) := by decide +kernel
theorem dX4_byteAt_4 : decode cX4_byteAt 4 = .ok (.aload_n 0, 1) := by decide +kernel
theorem dX4_byteAt_5 : decode cX4_byteAt 5 = .ok (.iload_n 1, 1) := by decide +kernel
theorem dX4_byteAt_6 : decode cX4_byteAt 6 = .ok (.invokevirtual 56, 3) := by decide +kernel
theorem dX4_byteAt_9 : decode cX4_byteAt 9 = .ok (.astore_n 3, 1) := by decide +kernel
theorem dX4_byteAt_10 : decode cX4_byteAt 10 = .ok (.aload_n 3, 1) := by decide +kernel
theorem dX4_byteAt_11 : decode cX4_byteAt 11 = .ok (.iload_n 2, 1) := by decide +kernel
theorem dX4_byteAt_12 : decode cX4_byteAt 12 = .ok (.invokestatic 77, 3) := by decide +kernel
theorem dX4_byteAt_15 : decode cX4_byteAt 15 = .ok (.aload_n 3, 1) := by decide +kernel
theorem dX4_byteAt_16 : decode cX4_byteAt 16 = .ok (.iload_n 2, 1) := by decide +kernel
theorem dX4_byteAt_17 : decode cX4_byteAt 17 = .ok (.invokevirtual 80, 3) := by decide +kernel
theorem dX4_byteAt_20 : decode cX4_byteAt 20 = .ok (.ireturn, 1) := by decide +kernel
set_option maxRecDepth 20000 in
theorem ggX4_turn_X4_exchangeRows : GoodIn wsX4_turn wsX4_exchangeRows := goodIn_r _ [7, 8, 2, 21, 22, 23, 24, 25, 26, 27] (by decide +kernel) (by decide +kernel)
set_option maxRecDepth 20000 in
theorem gX4_turn_X4_exchangeRows : GoodIn wsX4_turn (wsV RX4 88 RX4 yX4_exchangeRows wsX4_exchangeRows) := goodIn_app (goodIn_of _ (by decide +kernel)) ggX4_turn_X4_exchangeRows
set_option maxRecDepth 20000 in
theorem ggX4_turn_X1_forget : GoodIn wsX4_turn wsX1_forget := goodIn_r _ [13, 14, 28, 29, 30, 31, 32, 33] (by decide +kernel) (by decide +kernel)
set_option maxRecDepth 20000 in
theorem gX4_turn_X1_forget : GoodIn wsX4_turn (wsV RX4 67 RX1 yX1_forget wsX1_forget) := goodIn_app (goodIn_of _ (by decide +kernel)) ggX4_turn_X1_forget
set_option maxRecDepth 20000 in
theorem ggX4_turn_X3_count : GoodIn wsX4_turn wsX3_count := goodIn_r _ [19, 20, 34, 35] (by decide +kernel) (by decide +kernel)
set_option maxRecDepth 20000 in
theorem gX4_turn_X3_count : GoodIn wsX4_turn (wsV RX4 70 RX3 yX3_count wsX3_count) := goodIn_app (goodIn_of _ (by decide +kernel)) ggX4_turn_X3_count
theorem dX4_turn_0 : decode cX4_turn 0 = .ok (.aload_n 0, 1) := by decide +kernel
theorem dX4_turn_1 : decode cX4_turn 1 = .ok (.invokevirtual 88, 3) := by decide +kernel
theorem dX4_turn_4 : decode cX4_turn 4 = .ok (.aload_n 0, 1) := by decide +kernel
theorem dX4_turn_5 : decode cX4_turn 5 = .ok (.getfield 27, 3) := by decide +kernel
theorem dX4_turn_8 : decode cX4_turn 8 = .ok (.invokevirtual 67, 3) := by decide +kernel
theorem dX4_turn_11 : decode cX4_turn 11 = .ok (.aload_n 0, 1) := by decide +kernel
theorem dX4_turn_12 : decode cX4_turn 12 = .ok (.getfield 18, 3) := by decide +kernel
theorem dX4_turn_15 : decode cX4_turn 15 = .ok (.invokevirtual 70, 3) := by decide +kernel
theorem dX4_turn_18 : decode cX4_turn 18 = .ok (.ireturn, 1) := by decide +kernel
set_option maxRecDepth 20000 in
theorem ggX4_advance_X4_exchangeRows : GoodIn wsX4_advance wsX4_exchangeRows := goodIn_r _ [8, 3, 1, 25, 26, 27, 28, 29, 30, 31] (by decide +kernel) (by decide +kernel)
set_option maxRecDepth 20000 in
theorem gX4_advance_X4_exchangeRows : GoodIn wsX4_advance (wsV RX4 88 RX4 yX4_exchangeRows wsX4_exchangeRows) := goodIn_app (goodIn_of _ (by decide +kernel)) ggX4_advance_X4_exchangeRows
set_option maxRecDepth 20000 in
theorem ggX4_advance_X3_clear : GoodIn wsX4_advance wsX3_clear := goodIn_r _ [13, 14, 32, 33] (by decide +kernel) (by decide +kernel)
set_option maxRecDepth 20000 in
theorem gX4_advance_X3_clear : GoodIn wsX4_advance (wsV RX4 91 RX3 yX3_clear wsX3_clear) := goodIn_app (goodIn_of _ (by decide +kernel)) ggX4_advance_X3_clear
set_option maxRecDepth 20000 in
theorem ggX4_advance_X1_forget : GoodIn wsX4_advance wsX1_forget := goodIn_r _ [19, 20, 34, 35, 36, 37, 38, 39] (by decide +kernel) (by decide +kernel)
set_option maxRecDepth 20000 in
theorem gX4_advance_X1_forget : GoodIn wsX4_advance (wsV RX4 67 RX1 yX1_forget wsX1_forget) := goodIn_app (goodIn_of _ (by decide +kernel)) ggX4_advance_X1_forget
set_option maxRecDepth 20000 in
theorem ggX4_advance_X3_count : GoodIn wsX4_advance wsX3_count := goodIn_r _ [24, 14, 32, 33] (by decide +kernel) (by decide +kernel)
set_option maxRecDepth 20000 in
theorem gX4_advance_X3_count : GoodIn wsX4_advance (wsV RX4 70 RX3 yX3_count wsX3_count) := goodIn_app (goodIn_of _ (by decide +kernel)) ggX4_advance_X3_count
theorem dX4_advance_0 : decode cX4_advance 0 = .ok (.aload_n 0, 1) := by decide +kernel
theorem dX4_advance_1 : decode cX4_advance 1 = .ok (.invokevirtual 88, 3) := by decide +kernel
theorem dX4_advance_4 : decode cX4_advance 4 = .ok (.aload_n 0, 1) := by decide +kernel
theorem dX4_advance_5 : decode cX4_advance 5 = .ok (.getfield 18, 3) := by decide +kernel
theorem dX4_advance_8 : decode cX4_advance 8 = .ok (.invokevirtual 91, 3) := by decide +kernel
theorem dX4_advance_11 : decode cX4_advance 11 = .ok (.aload_n 0, 1) := by decide +kernel
theorem dX4_advance_12 : decode cX4_advance 12 = .ok (.getfield 27, 3) := by decide +kernel
theorem dX4_advance_15 : decode cX4_advance 15 = .ok (.invokevirtual 67, 3) := by decide +kernel
theorem dX4_advance_18 : decode cX4_advance 18 = .ok (.aload_n 0, 1) := by decide +kernel
theorem dX4_advance_19 : decode cX4_advance 19 = .ok (.getfield 14, 3) := by decide +kernel
theorem dX4_advance_22 : decode cX4_advance 22 = .ok (.invokevirtual 70, 3) := by decide +kernel
theorem dX4_advance_25 : decode cX4_advance 25 = .ok (.ireturn, 1) := by decide +kernel
set_option maxRecDepth 20000 in
theorem ggX4_check_X4_needSide : GoodIn wsX4_check wsX4_needSide := goodIn_ca (goodIn_r _ [6, 1, 2] (by decide +kernel) (by decide +kernel)) (goodIn_sub (fun _ h => List.mem_cons_of_mem _ (List.mem_append_right _ h)) (by decide +kernel))
set_option maxRecDepth 20000 in
theorem gX4_check_X4_needSide : GoodIn wsX4_check (va_wsS RX4 49 yX4_needSide wsX4_needSide) := goodIn_app (goodIn_of _ (by decide +kernel)) ggX4_check_X4_needSide
set_option maxRecDepth 20000 in
theorem ggX4_check_X4_rowOf : GoodIn wsX4_check wsX4_rowOf := goodIn_r _ [10, 11, 12, 31, 32, 33, 34, 35, 36, 37] (by decide +kernel) (by decide +kernel)
set_option maxRecDepth 20000 in
theorem gX4_check_X4_rowOf : GoodIn wsX4_check (wsV RX4 56 RX4 yX4_rowOf wsX4_rowOf) := goodIn_app (goodIn_of _ (by decide +kernel)) ggX4_check_X4_rowOf
set_option maxRecDepth 20000 in
theorem ggX4_check_X3_count : GoodIn wsX4_check wsX3_count := goodIn_r _ [17, 18, 38, 39] (by decide +kernel) (by decide +kernel)
set_option maxRecDepth 20000 in
theorem gX4_check_X3_count : GoodIn wsX4_check (wsV RX4 70 RX3 yX3_count wsX3_count) := goodIn_app (goodIn_of _ (by decide +kernel)) ggX4_check_X3_count
set_option maxRecDepth 20000 in
theorem ggX4_check_X4_checkOf : GoodIn wsX4_check wsX4_checkOf := goodIn_r _ [21, 22, 23, 24, 16, 25, 26, 27, 28, 29, 30, 18, 38, 39] (by decide +kernel) (by decide +kernel)
set_option maxRecDepth 20000 in
theorem gX4_check_X4_checkOf : GoodIn wsX4_check (va_wsS RX4 101 yX4_checkOf wsX4_checkOf) := goodIn_app (goodIn_of _ (by decide +kernel)) ggX4_check_X4_checkOf
theorem dX4_check_0 : decode cX4_check 0 = .ok (.iload_n 1, 1) := by decide +kernel
theorem dX4_check_1 : decode cX4_check 1 = .ok (.invokestatic 49, 3) := by decide +kernel
theorem dX4_check_4 : decode cX4_check 4 = .ok (.aload_n 0, 1) := by decide +kernel
theorem dX4_check_5 : decode cX4_check 5 = .ok (.iload_n 1, 1) := by decide +kernel
theorem dX4_check_6 : decode cX4_check 6 = .ok (.invokevirtual 56, 3) := by decide +kernel
theorem dX4_check_9 : decode cX4_check 9 = .ok (.astore 4, 2) := by decide +kernel
theorem dX4_check_11 : decode cX4_check 11 = .ok (.iload_n 2, 1) := by decide +kernel
theorem dX4_check_12 : decode cX4_check 12 = .ok (.ifCond .lt 17, 3) := by decide +kernel
theorem dX4_check_15 : decode cX4_check 15 = .ok (.iload_n 3, 1) := by decide +kernel
theorem dX4_check_16 : decode cX4_check 16 = .ok (.aload 4, 2) := by decide +kernel
theorem dX4_check_18 : decode cX4_check 18 = .ok (.invokevirtual 70, 3) := by decide +kernel
theorem dX4_check_21 : decode cX4_check 21 = .ok (.if_icmp .gt 8, 3) := by decide +kernel
theorem dX4_check_24 : decode cX4_check 24 = .ok (.iload_n 2, 1) := by decide +kernel
theorem dX4_check_25 : decode cX4_check 25 = .ok (.iload_n 3, 1) := by decide +kernel
theorem dX4_check_26 : decode cX4_check 26 = .ok (.if_icmp .le 13, 3) := by decide +kernel
theorem dX4_check_29 : decode cX4_check 29 = .ok (.new 94, 3) := by decide +kernel
theorem dX4_check_32 : decode cX4_check 32 = .ok (.dup, 1) := by decide +kernel
theorem dX4_check_33 : decode cX4_check 33 = .ok (.ldc 96, 2) := by decide +kernel
theorem dX4_check_35 : decode cX4_check 35 = .ok (.invokespecial 98, 3) := by decide +kernel
theorem dX4_check_38 : decode cX4_check 38 = .ok (.athrow, 1) := by decide +kernel
theorem dX4_check_39 : decode cX4_check 39 = .ok (.aload 4, 2) := by decide +kernel
theorem dX4_check_41 : decode cX4_check 41 = .ok (.iload_n 2, 1) := by decide +kernel
theorem dX4_check_42 : decode cX4_check 42 = .ok (.iload_n 3, 1) := by decide +kernel
theorem dX4_check_43 : decode cX4_check 43 = .ok (.invokestatic 101, 3) := by decide +kernel
theorem dX4_check_46 : decode cX4_check 46 = .ok (.ireturn, 1) := by decide +kernel
set_option maxRecDepth 20000 in
theorem ggX4_match_X4_needPlace : GoodIn wsX4_match wsX4_needPlace := goodIn_ca (goodIn_r _ [5, 6, 7, 8, 9, 10, 11, 12, 13, 14, 51, 52] (by decide +kernel) (by decide +kernel)) (goodIn_sub (fun _ h => List.mem_cons_of_mem _ (List.mem_append_right _ h)) (by decide +kernel))
set_option maxRecDepth 20000 in
theorem gX4_match_X4_needPlace : GoodIn wsX4_match (va_wsS RX4 77 yX4_needPlace wsX4_needPlace) := goodIn_app (goodIn_of _ (by decide +kernel)) ggX4_match_X4_needPlace
set_option maxRecDepth 20000 in
theorem ggX4_match_X4_needSide : GoodIn wsX4_match wsX4_needSide := goodIn_ca (goodIn_r _ [17, 6, 7] (by decide +kernel) (by decide +kernel)) (goodIn_sub (fun _ h => List.mem_cons_of_mem _ (List.mem_append_right _ h)) (by decide +kernel))
set_option maxRecDepth 20000 in
theorem gX4_match_X4_needSide : GoodIn wsX4_match (va_wsS RX4 49 yX4_needSide wsX4_needSide) := goodIn_app (goodIn_of _ (by decide +kernel)) ggX4_match_X4_needSide
set_option maxRecDepth 20000 in
theorem ggX4_match_X4_bestMatchPlace : GoodIn wsX4_match wsX4_bestMatchPlace := goodIn_r _ [21, 22, 23, 24, 25, 11, 26, 13, 27, 28, 29, 4, 30, 1, 31, 32, 33, 34, 35, 36, 37, 38, 39, 40, 41, 42, 14, 43, 9, 10, 12, 44, 45, 46, 47, 48, 49, 50, 51, 52] (by decide +kernel) (by decide +kernel)
set_option maxRecDepth 20000 in
theorem gX4_match_X4_bestMatchPlace : GoodIn wsX4_match (wsV RX4 105 RX4 yX4_bestMatchPlace wsX4_bestMatchPlace) := goodIn_app (goodIn_of _ (by decide +kernel)) ggX4_match_X4_bestMatchPlace
set_option maxRecDepth 20000 in
theorem ggX4_match_X4_rowOf : GoodIn wsX4_match wsX4_rowOf := goodIn_r _ [30, 22, 1, 44, 45, 46, 47, 48, 49, 50] (by decide +kernel) (by decide +kernel)
set_option maxRecDepth 20000 in
theorem gX4_match_X4_rowOf : GoodIn wsX4_match (wsV RX4 56 RX4 yX4_rowOf wsX4_rowOf) := goodIn_app (goodIn_of _ (by decide +kernel)) ggX4_match_X4_rowOf
set_option maxRecDepth 20000 in
theorem ggX4_match_X4_commonLength : GoodIn wsX4_match wsX4_commonLength := goodIn_r _ [34, 1, 35, 36, 37, 38, 23, 24, 25, 11, 26, 13, 39, 40, 41, 42, 14, 43, 9, 10, 12, 44, 45, 46, 47, 48, 49, 50, 51, 52] (by decide +kernel) (by decide +kernel)
set_option maxRecDepth 20000 in
theorem gX4_match_X4_commonLength : GoodIn wsX4_match (wsV RX4 109 RX4 yX4_commonLength wsX4_commonLength) := goodIn_app (goodIn_of _ (by decide +kernel)) ggX4_match_X4_commonLength
theorem dX4_match_0 : decode cX4_match 0 = .ok (.aload_n 0, 1) := by decide +kernel
theorem dX4_match_1 : decode cX4_match 1 = .ok (.getfield 18, 3) := by decide +kernel
theorem dX4_match_4 : decode cX4_match 4 = .ok (.iload_n 1, 1) := by decide +kernel
theorem dX4_match_5 : decode cX4_match 5 = .ok (.invokestatic 77, 3) := by decide +kernel
theorem dX4_match_8 : decode cX4_match 8 = .ok (.iload_n 2, 1) := by decide +kernel
theorem dX4_match_9 : decode cX4_match 9 = .ok (.invokestatic 49, 3) := by decide +kernel
theorem dX4_match_12 : decode cX4_match 12 = .ok (.aload_n 0, 1) := by decide +kernel
theorem dX4_match_13 : decode cX4_match 13 = .ok (.iload_n 1, 1) := by decide +kernel
theorem dX4_match_14 : decode cX4_match 14 = .ok (.iload_n 2, 1) := by decide +kernel
theorem dX4_match_15 : decode cX4_match 15 = .ok (.invokevirtual 105, 3) := by decide +kernel
theorem dX4_match_18 : decode cX4_match 18 = .ok (.istore_n 3, 1) := by decide +kernel
theorem dX4_match_19 : decode cX4_match 19 = .ok (.iload_n 3, 1) := by decide +kernel
theorem dX4_match_20 : decode cX4_match 20 = .ok (.ifCond .ge 7, 3) := by decide +kernel
theorem dX4_match_23 : decode cX4_match 23 = .ok (.iconst 0, 1) := by decide +kernel
theorem dX4_match_24 : decode cX4_match 24 = .ok (.goto 14, 3) := by decide +kernel
theorem dX4_match_27 : decode cX4_match 27 = .ok (.aload_n 0, 1) := by decide +kernel
theorem dX4_match_28 : decode cX4_match 28 = .ok (.aload_n 0, 1) := by decide +kernel
theorem dX4_match_29 : decode cX4_match 29 = .ok (.iload_n 2, 1) := by decide +kernel
theorem dX4_match_30 : decode cX4_match 30 = .ok (.invokevirtual 56, 3) := by decide +kernel
theorem dX4_match_33 : decode cX4_match 33 = .ok (.iload_n 3, 1) := by decide +kernel
theorem dX4_match_34 : decode cX4_match 34 = .ok (.iload_n 1, 1) := by decide +kernel
theorem dX4_match_35 : decode cX4_match 35 = .ok (.invokevirtual 109, 3) := by decide +kernel
theorem dX4_match_38 : decode cX4_match 38 = .ok (.ireturn, 1) := by decide +kernel
set_option maxRecDepth 20000 in
theorem ggX4_matchPlace_X4_needPlace : GoodIn wsX4_matchPlace wsX4_needPlace := goodIn_ca (goodIn_r _ [5, 6, 7, 8, 9, 10, 11, 12, 13, 14, 51, 52] (by decide +kernel) (by decide +kernel)) (goodIn_sub (fun _ h => List.mem_cons_of_mem _ (List.mem_append_right _ h)) (by decide +kernel))
set_option maxRecDepth 20000 in
theorem gX4_matchPlace_X4_needPlace : GoodIn wsX4_matchPlace (va_wsS RX4 77 yX4_needPlace wsX4_needPlace) := goodIn_app (goodIn_of _ (by decide +kernel)) ggX4_matchPlace_X4_needPlace
set_option maxRecDepth 20000 in
theorem ggX4_matchPlace_X4_needSide : GoodIn wsX4_matchPlace wsX4_needSide := goodIn_ca (goodIn_r _ [17, 6, 7] (by decide +kernel) (by decide +kernel)) (goodIn_sub (fun _ h => List.mem_cons_of_mem _ (List.mem_append_right _ h)) (by decide +kernel))
set_option maxRecDepth 20000 in
theorem gX4_matchPlace_X4_needSide : GoodIn wsX4_matchPlace (va_wsS RX4 49 yX4_needSide wsX4_needSide) := goodIn_app (goodIn_of _ (by decide +kernel)) ggX4_matchPlace_X4_needSide
set_option maxRecDepth 20000 in
theorem ggX4_matchPlace_X4_bestMatchPlace : GoodIn wsX4_matchPlace wsX4_bestMatchPlace := goodIn_r _ [21, 22, 23, 24, 25, 11, 26, 13, 27, 28, 29, 4, 30, 1, 31, 32, 33, 34, 35, 36, 37, 38, 39, 40, 41, 42, 14, 43, 9, 10, 12, 44, 45, 46, 47, 48, 49, 50, 51, 52] (by decide +kernel) (by decide +kernel)
set_option maxRecDepth 20000 in
theorem gX4_matchPlace_X4_bestMatchPlace : GoodIn wsX4_matchPlace (wsV RX4 105 RX4 yX4_bestMatchPlace wsX4_bestMatchPlace) := goodIn_app (goodIn_of _ (by decide +kernel)) ggX4_matchPlace_X4_bestMatchPlace
theorem dX4_matchPlace_0 : decode cX4_matchPlace 0 = .ok (.aload_n 0, 1) := by decide +kernel
theorem dX4_matchPlace_1 : decode cX4_matchPlace 1 = .ok (.getfield 18, 3) := by decide +kernel
theorem dX4_matchPlace_4 : decode cX4_matchPlace 4 = .ok (.iload_n 1, 1) := by decide +kernel
theorem dX4_matchPlace_5 : decode cX4_matchPlace 5 = .ok (.invokestatic 77, 3) := by decide +kernel
theorem dX4_matchPlace_8 : decode cX4_matchPlace 8 = .ok (.iload_n 2, 1) := by decide +kernel
theorem dX4_matchPlace_9 : decode cX4_matchPlace 9 = .ok (.invokestatic 49, 3) := by decide +kernel
theorem dX4_matchPlace_12 : decode cX4_matchPlace 12 = .ok (.aload_n 0, 1) := by decide +kernel
theorem dX4_matchPlace_13 : decode cX4_matchPlace 13 = .ok (.iload_n 1, 1) := by decide +kernel
theorem dX4_matchPlace_14 : decode cX4_matchPlace 14 = .ok (.iload_n 2, 1) := by decide +kernel
theorem dX4_matchPlace_15 : decode cX4_matchPlace 15 = .ok (.invokevirtual 105, 3) := by decide +kernel
theorem dX4_matchPlace_18 : decode cX4_matchPlace 18 = .ok (.ireturn, 1) := by decide +kernel
set_option maxRecDepth 20000 in
theorem ggX4_blocks_X4_needWithin : GoodIn wsX4_blocks wsX4_needWithin := goodIn_ca (goodIn_r _ [5, 6, 7] (by decide +kernel) (by decide +kernel)) (goodIn_sub (fun _ h => List.mem_cons_of_mem _ (List.mem_append_right _ h)) (by decide +kernel))
set_option maxRecDepth 20000 in
theorem gX4_blocks_X4_needWithin : GoodIn wsX4_blocks (va_wsS RX4 52 yX4_needWithin wsX4_needWithin) := goodIn_app (goodIn_of _ (by decide +kernel)) ggX4_blocks_X4_needWithin
set_option maxRecDepth 20000 in
theorem ggX4_blocks_X3_count : GoodIn wsX4_blocks wsX3_count := goodIn_r _ [12, 13, 46, 47] (by decide +kernel) (by decide +kernel)
set_option maxRecDepth 20000 in
theorem gX4_blocks_X3_count : GoodIn wsX4_blocks (wsV RX4 70 RX3 yX3_count wsX3_count) := goodIn_app (goodIn_of _ (by decide +kernel)) ggX4_blocks_X3_count
set_option maxRecDepth 20000 in
theorem ggX4_blocks_X4_isBlockAt : GoodIn wsX4_blocks wsX4_isBlockAt := goodIn_r _ [17, 18, 19, 20, 21, 22, 8, 9, 10, 11, 12, 13, 23, 24, 25, 4, 26, 1, 27, 28, 29, 30, 31, 32, 33, 34, 35, 36, 37, 38, 39, 40, 41, 42, 43, 44, 45, 46, 47] (by decide +kernel) (by decide +kernel)
set_option maxRecDepth 20000 in
theorem gX4_blocks_X4_isBlockAt : GoodIn wsX4_blocks (wsV RX4 112 RX4 yX4_isBlockAt wsX4_isBlockAt) := goodIn_app (goodIn_of _ (by decide +kernel)) ggX4_blocks_X4_isBlockAt
theorem dX4_blocks_0 : decode cX4_blocks 0 = .ok (.iload_n 1, 1) := by decide +kernel
theorem dX4_blocks_1 : decode cX4_blocks 1 = .ok (.iconst 1, 1) := by decide +kernel
theorem dX4_blocks_2 : decode cX4_blocks 2 = .ok (.bipush 50, 2) := by decide +kernel
theorem dX4_blocks_4 : decode cX4_blocks 4 = .ok (.invokestatic 52, 3) := by decide +kernel
theorem dX4_blocks_7 : decode cX4_blocks 7 = .ok (.iconst 0, 1) := by decide +kernel
theorem dX4_blocks_8 : decode cX4_blocks 8 = .ok (.istore_n 2, 1) := by decide +kernel
theorem dX4_blocks_9 : decode cX4_blocks 9 = .ok (.iconst 0, 1) := by decide +kernel
theorem dX4_blocks_10 : decode cX4_blocks 10 = .ok (.istore_n 3, 1) := by decide +kernel
theorem dX4_blocks_11 : decode cX4_blocks 11 = .ok (.iconst 0, 1) := by decide +kernel
theorem dX4_blocks_12 : decode cX4_blocks 12 = .ok (.istore 4, 2) := by decide +kernel
theorem dX4_blocks_14 : decode cX4_blocks 14 = .ok (.iload 4, 2) := by decide +kernel
theorem dX4_blocks_16 : decode cX4_blocks 16 = .ok (.aload_n 0, 1) := by decide +kernel
theorem dX4_blocks_17 : decode cX4_blocks 17 = .ok (.getfield 18, 3) := by decide +kernel
theorem dX4_blocks_20 : decode cX4_blocks 20 = .ok (.invokevirtual 70, 3) := by decide +kernel
theorem dX4_blocks_23 : decode cX4_blocks 23 = .ok (.iload_n 1, 1) := by decide +kernel
theorem dX4_blocks_24 : decode cX4_blocks 24 = .ok (.isub, 1) := by decide +kernel
theorem dX4_blocks_25 : decode cX4_blocks 25 = .ok (.if_icmp .gt 33, 3) := by decide +kernel
theorem dX4_blocks_28 : decode cX4_blocks 28 = .ok (.iload 4, 2) := by decide +kernel
theorem dX4_blocks_30 : decode cX4_blocks 30 = .ok (.iload_n 3, 1) := by decide +kernel
theorem dX4_blocks_31 : decode cX4_blocks 31 = .ok (.if_icmp .lt 21, 3) := by decide +kernel
theorem dX4_blocks_34 : decode cX4_blocks 34 = .ok (.aload_n 0, 1) := by decide +kernel
theorem dX4_blocks_35 : decode cX4_blocks 35 = .ok (.iload 4, 2) := by decide +kernel
theorem dX4_blocks_37 : decode cX4_blocks 37 = .ok (.iload_n 1, 1) := by decide +kernel
theorem dX4_blocks_38 : decode cX4_blocks 38 = .ok (.invokevirtual 112, 3) := by decide +kernel
theorem dX4_blocks_41 : decode cX4_blocks 41 = .ok (.ifCond .eq 11, 3) := by decide +kernel
theorem dX4_blocks_44 : decode cX4_blocks 44 = .ok (.iinc 2 1, 3) := by decide +kernel
theorem dX4_blocks_47 : decode cX4_blocks 47 = .ok (.iload 4, 2) := by decide +kernel
theorem dX4_blocks_49 : decode cX4_blocks 49 = .ok (.iload_n 1, 1) := by decide +kernel
theorem dX4_blocks_50 : decode cX4_blocks 50 = .ok (.iadd, 1) := by decide +kernel
theorem dX4_blocks_51 : decode cX4_blocks 51 = .ok (.istore_n 3, 1) := by decide +kernel
theorem dX4_blocks_52 : decode cX4_blocks 52 = .ok (.iinc 4 1, 3) := by decide +kernel
theorem dX4_blocks_55 : decode cX4_blocks 55 = .ok (.goto (-41), 3) := by decide +kernel
theorem dX4_blocks_58 : decode cX4_blocks 58 = .ok (.iload_n 2, 1) := by decide +kernel
theorem dX4_blocks_59 : decode cX4_blocks 59 = .ok (.ireturn, 1) := by decide +kernel
set_option maxRecDepth 20000 in
theorem ggX4_setLeast_X4_needWithin : GoodIn wsX4_setLeast wsX4_needWithin := goodIn_ca (goodIn_r _ [6, 7, 8] (by decide +kernel) (by decide +kernel)) (goodIn_sub (fun _ h => List.mem_cons_of_mem _ (List.mem_append_right _ h)) (by decide +kernel))
set_option maxRecDepth 20000 in
theorem gX4_setLeast_X4_needWithin : GoodIn wsX4_setLeast (va_wsS RX4 52 yX4_needWithin wsX4_needWithin) := goodIn_app (goodIn_of _ (by decide +kernel)) ggX4_setLeast_X4_needWithin
set_option maxRecDepth 20000 in
theorem ggX4_setLeast_X1_forget : GoodIn wsX4_setLeast wsX1_forget := goodIn_r _ [13, 14, 22, 23, 24, 25, 26, 27] (by decide +kernel) (by decide +kernel)
set_option maxRecDepth 20000 in
theorem gX4_setLeast_X1_forget : GoodIn wsX4_setLeast (wsV RX4 67 RX1 yX1_forget wsX1_forget) := goodIn_app (goodIn_of _ (by decide +kernel)) ggX4_setLeast_X1_forget
theorem dX4_setLeast_0 : decode cX4_setLeast 0 = .ok (.iload_n 1, 1) := by decide +kernel
theorem dX4_setLeast_1 : decode cX4_setLeast 1 = .ok (.iconst 1, 1) := by decide +kernel
theorem dX4_setLeast_2 : decode cX4_setLeast 2 = .ok (.bipush 20, 2) := by decide +kernel
theorem dX4_setLeast_4 : decode cX4_setLeast 4 = .ok (.invokestatic 52, 3) := by decide +kernel
theorem dX4_setLeast_7 : decode cX4_setLeast 7 = .ok (.aload_n 0, 1) := by decide +kernel
theorem dX4_setLeast_8 : decode cX4_setLeast 8 = .ok (.getfield 45, 3) := by decide +kernel
theorem dX4_setLeast_11 : decode cX4_setLeast 11 = .ok (.istore_n 2, 1) := by decide +kernel
theorem dX4_setLeast_12 : decode cX4_setLeast 12 = .ok (.aload_n 0, 1) := by decide +kernel
theorem dX4_setLeast_13 : decode cX4_setLeast 13 = .ok (.iload_n 1, 1) := by decide +kernel
theorem dX4_setLeast_14 : decode cX4_setLeast 14 = .ok (.putfield 45, 3) := by decide +kernel
theorem dX4_setLeast_17 : decode cX4_setLeast 17 = .ok (.aload_n 0, 1) := by decide +kernel
theorem dX4_setLeast_18 : decode cX4_setLeast 18 = .ok (.getfield 27, 3) := by decide +kernel
theorem dX4_setLeast_21 : decode cX4_setLeast 21 = .ok (.invokevirtual 67, 3) := by decide +kernel
theorem dX4_setLeast_24 : decode cX4_setLeast 24 = .ok (.iload_n 2, 1) := by decide +kernel
theorem dX4_setLeast_25 : decode cX4_setLeast 25 = .ok (.ireturn, 1) := by decide +kernel
set_option maxRecDepth 20000 in
theorem ggX4_plan_X1_isMade : GoodIn wsX4_plan wsX1_isMade := goodIn_r _ [10, 11, 107, 108, 109, 110, 111, 112] (by decide +kernel) (by decide +kernel)
set_option maxRecDepth 20000 in
theorem gX4_plan_X1_isMade : GoodIn wsX4_plan (wsV RX4 116 RX1 yX1_isMade wsX1_isMade) := goodIn_app (goodIn_of _ (by decide +kernel)) ggX4_plan_X1_isMade
set_option maxRecDepth 20000 in
theorem ggX4_plan_X2_makePlan : GoodIn wsX4_plan wsX2_makePlan := goodIn_r _ [16, 17, 18, 19, 20, 21, 22, 23, 24, 25, 26, 27, 28, 29, 30, 31, 32, 33, 34, 35, 36, 37, 38, 39, 40, 41, 42, 43, 44, 45, 46, 15, 47, 48, 49, 50, 51, 52, 53, 54, 55, 56, 57, 58, 59, 60, 61, 62, 63, 64, 65, 66, 67, 68, 69, 70, 71, 72, 73, 74, 75, 76, 9, 77, 78, 79, 80, 81, 82, 11, 83, 84, 85, 86, 87, 88, 89, 90, 91, 92, 93, 94, 113, 114, 115, 116, 117, 118, 119, 120, 121, 122, 107, 108, 109, 110, 111, 112] (by decide +kernel) (by decide +kernel)
set_option maxRecDepth 20000 in
theorem gX4_plan_X2_makePlan : GoodIn wsX4_plan (wsV RX4 120 RX2 yX2_makePlan wsX2_makePlan) := goodIn_app (goodIn_of _ (by decide +kernel)) ggX4_plan_X2_makePlan
set_option maxRecDepth 20000 in
theorem ggX4_plan_X1_count : GoodIn wsX4_plan wsX1_count := goodIn_r _ [98, 78, 99, 27, 28, 29, 30, 31, 107, 108, 109, 110, 111, 112, 121, 122] (by decide +kernel) (by decide +kernel)
set_option maxRecDepth 20000 in
theorem gX4_plan_X1_count : GoodIn wsX4_plan (wsV RX4 124 RX1 yX1_count wsX1_count) := goodIn_app (goodIn_of _ (by decide +kernel)) ggX4_plan_X1_count
theorem dX4_plan_0 : decode cX4_plan 0 = .ok (.aload_n 0, 1) := by decide +kernel
theorem dX4_plan_1 : decode cX4_plan 1 = .ok (.getfield 27, 3) := by decide +kernel
theorem dX4_plan_4 : decode cX4_plan 4 = .ok (.invokevirtual 116, 3) := by decide +kernel
theorem dX4_plan_7 : decode cX4_plan 7 = .ok (.ifCond .ne 26, 3) := by decide +kernel
theorem dX4_plan_10 : decode cX4_plan 10 = .ok (.aload_n 0, 1) := by decide +kernel
theorem dX4_plan_11 : decode cX4_plan 11 = .ok (.getfield 34, 3) := by decide +kernel
theorem dX4_plan_14 : decode cX4_plan 14 = .ok (.aload_n 0, 1) := by decide +kernel
theorem dX4_plan_15 : decode cX4_plan 15 = .ok (.getfield 14, 3) := by decide +kernel
theorem dX4_plan_18 : decode cX4_plan 18 = .ok (.aload_n 0, 1) := by decide +kernel
theorem dX4_plan_19 : decode cX4_plan 19 = .ok (.getfield 18, 3) := by decide +kernel
theorem dX4_plan_22 : decode cX4_plan 22 = .ok (.aload_n 0, 1) := by decide +kernel
theorem dX4_plan_23 : decode cX4_plan 23 = .ok (.getfield 45, 3) := by decide +kernel
theorem dX4_plan_26 : decode cX4_plan 26 = .ok (.aload_n 0, 1) := by decide +kernel
theorem dX4_plan_27 : decode cX4_plan 27 = .ok (.getfield 27, 3) := by decide +kernel
theorem dX4_plan_30 : decode cX4_plan 30 = .ok (.invokevirtual 120, 3) := by decide +kernel
theorem dX4_plan_33 : decode cX4_plan 33 = .ok (.aload_n 0, 1) := by decide +kernel
theorem dX4_plan_34 : decode cX4_plan 34 = .ok (.getfield 27, 3) := by decide +kernel
theorem dX4_plan_37 : decode cX4_plan 37 = .ok (.invokevirtual 124, 3) := by decide +kernel
theorem dX4_plan_40 : decode cX4_plan 40 = .ok (.ireturn, 1) := by decide +kernel
set_option maxRecDepth 20000 in
theorem ggX4_hasPlan_X1_isMade : GoodIn wsX4_hasPlan wsX1_isMade := goodIn_r _ [6, 7, 15, 16, 17, 18, 19, 20] (by decide +kernel) (by decide +kernel)
set_option maxRecDepth 20000 in
theorem gX4_hasPlan_X1_isMade : GoodIn wsX4_hasPlan (wsV RX4 116 RX1 yX1_isMade wsX1_isMade) := goodIn_app (goodIn_of _ (by decide +kernel)) ggX4_hasPlan_X1_isMade
theorem dX4_hasPlan_0 : decode cX4_hasPlan 0 = .ok (.aload_n 0, 1) := by decide +kernel
theorem dX4_hasPlan_1 : decode cX4_hasPlan 1 = .ok (.getfield 27, 3) := by decide +kernel
theorem dX4_hasPlan_4 : decode cX4_hasPlan 4 = .ok (.invokevirtual 116, 3) := by decide +kernel
theorem dX4_hasPlan_7 : decode cX4_hasPlan 7 = .ok (.ireturn, 1) := by decide +kernel
set_option maxRecDepth 20000 in
theorem ggX4_cost_X4_needPlan : GoodIn wsX4_cost wsX4_needPlan := goodIn_ca (goodIn_r _ [6, 7, 8, 1, 9, 10, 11, 12, 13, 14, 20, 21, 22, 23, 24, 25, 26, 27, 28, 29, 30, 31, 32] (by decide +kernel) (by decide +kernel)) (goodIn_sub (fun _ h => List.mem_cons_of_mem _ (List.mem_append_right _ h)) (by decide +kernel))
set_option maxRecDepth 20000 in
theorem gX4_cost_X4_needPlan : GoodIn wsX4_cost (wsV RX4 125 RX4 yX4_needPlan wsX4_needPlan) := goodIn_app (goodIn_of _ (by decide +kernel)) ggX4_cost_X4_needPlan
set_option maxRecDepth 20000 in
theorem ggX4_cost_X1_codeBytes : GoodIn wsX4_cost wsX1_codeBytes := goodIn_r _ [18, 19, 27, 28, 29, 30, 31, 32] (by decide +kernel) (by decide +kernel)
set_option maxRecDepth 20000 in
theorem gX4_cost_X1_codeBytes : GoodIn wsX4_cost (wsV RX4 128 RX1 yX1_codeBytes wsX1_codeBytes) := goodIn_app (goodIn_of _ (by decide +kernel)) ggX4_cost_X1_codeBytes
theorem dX4_cost_0 : decode cX4_cost 0 = .ok (.aload_n 0, 1) := by decide +kernel
theorem dX4_cost_1 : decode cX4_cost 1 = .ok (.invokevirtual 125, 3) := by decide +kernel
theorem dX4_cost_4 : decode cX4_cost 4 = .ok (.aload_n 0, 1) := by decide +kernel
theorem dX4_cost_5 : decode cX4_cost 5 = .ok (.getfield 27, 3) := by decide +kernel
theorem dX4_cost_8 : decode cX4_cost 8 = .ok (.invokevirtual 128, 3) := by decide +kernel
theorem dX4_cost_11 : decode cX4_cost 11 = .ok (.ireturn, 1) := by decide +kernel
set_option maxRecDepth 20000 in
theorem ggX4_kind_X4_needInstruction : GoodIn wsX4_kind wsX4_needInstruction := goodIn_ca (goodIn_ca (goodIn_r _ [6, 7, 8, 1, 9, 10, 11, 5, 12, 13, 14, 15, 16, 17, 18, 19, 20, 21, 22, 23, 24, 25, 26, 27, 28, 29, 30, 31, 45, 46, 47, 48, 49, 50, 51, 52, 53, 54, 55, 56, 57, 58, 59] (by decide +kernel) (by decide +kernel)) (goodIn_sub (fun _ h => List.mem_cons_of_mem _ (List.mem_append_left _ (List.mem_append_right _ h))) (by decide +kernel))) (goodIn_sub (fun _ h => List.mem_cons_of_mem _ (List.mem_append_right _ h)) (by decide +kernel))
set_option maxRecDepth 20000 in
theorem gX4_kind_X4_needInstruction : GoodIn wsX4_kind (wsV RX4 131 RX4 yX4_needInstruction wsX4_needInstruction) := goodIn_app (goodIn_of _ (by decide +kernel)) ggX4_kind_X4_needInstruction
set_option maxRecDepth 20000 in
theorem ggX4_kind_X1_kindOf : GoodIn wsX4_kind wsX1_kindOf := goodIn_r _ [35, 25, 36, 37, 38, 29, 39, 40, 41, 42, 43, 44, 31, 52, 53, 54, 55, 56, 57, 58, 59] (by decide +kernel) (by decide +kernel)
set_option maxRecDepth 20000 in
theorem gX4_kind_X1_kindOf : GoodIn wsX4_kind (wsV RX4 134 RX1 yX1_kindOf wsX1_kindOf) := goodIn_app (goodIn_of _ (by decide +kernel)) ggX4_kind_X1_kindOf
theorem dX4_kind_0 : decode cX4_kind 0 = .ok (.aload_n 0, 1) := by decide +kernel
theorem dX4_kind_1 : decode cX4_kind 1 = .ok (.iload_n 1, 1) := by decide +kernel
theorem dX4_kind_2 : decode cX4_kind 2 = .ok (.invokevirtual 131, 3) := by decide +kernel
theorem dX4_kind_5 : decode cX4_kind 5 = .ok (.aload_n 0, 1) := by decide +kernel
theorem dX4_kind_6 : decode cX4_kind 6 = .ok (.getfield 27, 3) := by decide +kernel
theorem dX4_kind_9 : decode cX4_kind 9 = .ok (.iload_n 1, 1) := by decide +kernel
theorem dX4_kind_10 : decode cX4_kind 10 = .ok (.invokevirtual 134, 3) := by decide +kernel
theorem dX4_kind_13 : decode cX4_kind 13 = .ok (.ireturn, 1) := by decide +kernel
set_option maxRecDepth 20000 in
theorem ggX4_length_X4_needInstruction : GoodIn wsX4_length wsX4_needInstruction := goodIn_ca (goodIn_ca (goodIn_r _ [6, 7, 8, 1, 9, 10, 11, 5, 12, 13, 14, 15, 16, 17, 18, 19, 20, 21, 22, 23, 24, 25, 26, 27, 28, 29, 30, 31, 46, 47, 48, 49, 50, 51, 52, 53, 54, 55, 56, 57, 58, 59, 60] (by decide +kernel) (by decide +kernel)) (goodIn_sub (fun _ h => List.mem_cons_of_mem _ (List.mem_append_left _ (List.mem_append_right _ h))) (by decide +kernel))) (goodIn_sub (fun _ h => List.mem_cons_of_mem _ (List.mem_append_right _ h)) (by decide +kernel))
set_option maxRecDepth 20000 in
theorem gX4_length_X4_needInstruction : GoodIn wsX4_length (wsV RX4 131 RX4 yX4_needInstruction wsX4_needInstruction) := goodIn_app (goodIn_of _ (by decide +kernel)) ggX4_length_X4_needInstruction
set_option maxRecDepth 20000 in
theorem ggX4_length_X1_lengthOf : GoodIn wsX4_length wsX1_lengthOf := goodIn_r _ [35, 36, 37, 38, 39, 29, 40, 41, 42, 43, 44, 45, 31, 53, 54, 55, 56, 57, 58, 59, 60] (by decide +kernel) (by decide +kernel)
set_option maxRecDepth 20000 in
theorem gX4_length_X1_lengthOf : GoodIn wsX4_length (wsV RX4 137 RX1 yX1_lengthOf wsX1_lengthOf) := goodIn_app (goodIn_of _ (by decide +kernel)) ggX4_length_X1_lengthOf
theorem dX4_length_0 : decode cX4_length 0 = .ok (.aload_n 0, 1) := by decide +kernel
theorem dX4_length_1 : decode cX4_length 1 = .ok (.iload_n 1, 1) := by decide +kernel
theorem dX4_length_2 : decode cX4_length 2 = .ok (.invokevirtual 131, 3) := by decide +kernel
theorem dX4_length_5 : decode cX4_length 5 = .ok (.aload_n 0, 1) := by decide +kernel
theorem dX4_length_6 : decode cX4_length 6 = .ok (.getfield 27, 3) := by decide +kernel
theorem dX4_length_9 : decode cX4_length 9 = .ok (.iload_n 1, 1) := by decide +kernel
theorem dX4_length_10 : decode cX4_length 10 = .ok (.invokevirtual 137, 3) := by decide +kernel
theorem dX4_length_13 : decode cX4_length 13 = .ok (.ireturn, 1) := by decide +kernel
set_option maxRecDepth 20000 in
theorem ggX4_operand_X4_needInstruction : GoodIn wsX4_operand wsX4_needInstruction := goodIn_ca (goodIn_ca (goodIn_r _ [6, 7, 8, 1, 9, 10, 11, 5, 12, 13, 14, 15, 16, 17, 18, 19, 20, 21, 22, 23, 24, 25, 26, 27, 28, 29, 30, 31, 46, 47, 48, 49, 50, 51, 52, 53, 54, 55, 56, 57, 58, 59, 60] (by decide +kernel) (by decide +kernel)) (goodIn_sub (fun _ h => List.mem_cons_of_mem _ (List.mem_append_left _ (List.mem_append_right _ h))) (by decide +kernel))) (goodIn_sub (fun _ h => List.mem_cons_of_mem _ (List.mem_append_right _ h)) (by decide +kernel))
set_option maxRecDepth 20000 in
theorem gX4_operand_X4_needInstruction : GoodIn wsX4_operand (wsV RX4 131 RX4 yX4_needInstruction wsX4_needInstruction) := goodIn_app (goodIn_of _ (by decide +kernel)) ggX4_operand_X4_needInstruction
set_option maxRecDepth 20000 in
theorem ggX4_operand_X1_operandOf : GoodIn wsX4_operand wsX1_operandOf := goodIn_r _ [35, 36, 37, 38, 39, 29, 40, 41, 42, 43, 44, 45, 31, 53, 54, 55, 56, 57, 58, 59, 60] (by decide +kernel) (by decide +kernel)
set_option maxRecDepth 20000 in
theorem gX4_operand_X1_operandOf : GoodIn wsX4_operand (wsV RX4 140 RX1 yX1_operandOf wsX1_operandOf) := goodIn_app (goodIn_of _ (by decide +kernel)) ggX4_operand_X1_operandOf
theorem dX4_operand_0 : decode cX4_operand 0 = .ok (.aload_n 0, 1) := by decide +kernel
theorem dX4_operand_1 : decode cX4_operand 1 = .ok (.iload_n 1, 1) := by decide +kernel
theorem dX4_operand_2 : decode cX4_operand 2 = .ok (.invokevirtual 131, 3) := by decide +kernel
theorem dX4_operand_5 : decode cX4_operand 5 = .ok (.aload_n 0, 1) := by decide +kernel
theorem dX4_operand_6 : decode cX4_operand 6 = .ok (.getfield 27, 3) := by decide +kernel
theorem dX4_operand_9 : decode cX4_operand 9 = .ok (.iload_n 1, 1) := by decide +kernel
theorem dX4_operand_10 : decode cX4_operand 10 = .ok (.invokevirtual 140, 3) := by decide +kernel
theorem dX4_operand_13 : decode cX4_operand 13 = .ok (.ireturn, 1) := by decide +kernel
set_option maxRecDepth 20000 in
theorem ggX4_start_X4_needInstruction : GoodIn wsX4_start wsX4_needInstruction := goodIn_ca (goodIn_ca (goodIn_r _ [6, 7, 8, 1, 9, 10, 11, 5, 12, 13, 14, 15, 16, 17, 18, 19, 20, 21, 22, 23, 24, 25, 26, 27, 28, 29, 30, 31, 46, 47, 48, 49, 50, 51, 52, 53, 54, 55, 56, 57, 58, 59, 60] (by decide +kernel) (by decide +kernel)) (goodIn_sub (fun _ h => List.mem_cons_of_mem _ (List.mem_append_left _ (List.mem_append_right _ h))) (by decide +kernel))) (goodIn_sub (fun _ h => List.mem_cons_of_mem _ (List.mem_append_right _ h)) (by decide +kernel))
set_option maxRecDepth 20000 in
theorem gX4_start_X4_needInstruction : GoodIn wsX4_start (wsV RX4 131 RX4 yX4_needInstruction wsX4_needInstruction) := goodIn_app (goodIn_of _ (by decide +kernel)) ggX4_start_X4_needInstruction
set_option maxRecDepth 20000 in
theorem ggX4_start_X1_startOf : GoodIn wsX4_start wsX1_startOf := goodIn_r _ [35, 36, 37, 38, 39, 29, 40, 41, 42, 43, 44, 45, 31, 53, 54, 55, 56, 57, 58, 59, 60] (by decide +kernel) (by decide +kernel)
set_option maxRecDepth 20000 in
theorem gX4_start_X1_startOf : GoodIn wsX4_start (wsV RX4 143 RX1 yX1_startOf wsX1_startOf) := goodIn_app (goodIn_of _ (by decide +kernel)) ggX4_start_X1_startOf
theorem dX4_start_0 : decode cX4_start 0 = .ok (.aload_n 0, 1) := by decide +kernel
theorem dX4_start_1 : decode cX4_start 1 = .ok (.iload_n 1, 1) := by decide +kernel
theorem dX4_start_2 : decode cX4_start 2 = .ok (.invokevirtual 131, 3) := by decide +kernel
theorem dX4_start_5 : decode cX4_start 5 = .ok (.aload_n 0, 1) := by decide +kernel
theorem dX4_start_6 : decode cX4_start 6 = .ok (.getfield 27, 3) := by decide +kernel
theorem dX4_start_9 : decode cX4_start 9 = .ok (.iload_n 1, 1) := by decide +kernel
theorem dX4_start_10 : decode cX4_start 10 = .ok (.invokevirtual 143, 3) := by decide +kernel
theorem dX4_start_13 : decode cX4_start 13 = .ok (.ireturn, 1) := by decide +kernel
set_option maxRecDepth 20000 in
theorem ggX4_made_X4_needPlan : GoodIn wsX4_made wsX4_needPlan := goodIn_ca (goodIn_r _ [8, 9, 10, 3, 11, 12, 13, 14, 15, 16, 46, 47, 48, 49, 50, 51, 52, 53, 54, 55, 56, 57, 58] (by decide +kernel) (by decide +kernel)) (goodIn_sub (fun _ h => List.mem_cons_of_mem _ (List.mem_append_right _ h)) (by decide +kernel))
set_option maxRecDepth 20000 in
theorem gX4_made_X4_needPlan : GoodIn wsX4_made (wsV RX4 125 RX4 yX4_needPlan wsX4_needPlan) := goodIn_app (goodIn_of _ (by decide +kernel)) ggX4_made_X4_needPlan
set_option maxRecDepth 20000 in
theorem ggX4_made_X1_count : GoodIn wsX4_made wsX1_count := goodIn_r _ [20, 21, 22, 23, 24, 25, 26, 27, 53, 54, 55, 56, 57, 58, 59, 60] (by decide +kernel) (by decide +kernel)
set_option maxRecDepth 20000 in
theorem gX4_made_X1_count : GoodIn wsX4_made (wsV RX4 124 RX1 yX1_count wsX1_count) := goodIn_app (goodIn_of _ (by decide +kernel)) ggX4_made_X1_count
set_option maxRecDepth 20000 in
theorem ggX4_made_X1_kindOf : GoodIn wsX4_made wsX1_kindOf := goodIn_r _ [31, 21, 32, 33, 34, 25, 35, 36, 37, 38, 39, 40, 27, 53, 54, 55, 56, 57, 58, 59, 60] (by decide +kernel) (by decide +kernel)
set_option maxRecDepth 20000 in
theorem gX4_made_X1_kindOf : GoodIn wsX4_made (wsV RX4 134 RX1 yX1_kindOf wsX1_kindOf) := goodIn_app (goodIn_of _ (by decide +kernel)) ggX4_made_X1_kindOf
set_option maxRecDepth 20000 in
theorem ggX4_made_X1_lengthOf : GoodIn wsX4_made wsX1_lengthOf := goodIn_r _ [44, 45, 32, 33, 34, 25, 35, 36, 37, 38, 39, 40, 27, 53, 54, 55, 56, 57, 58, 59, 60] (by decide +kernel) (by decide +kernel)
set_option maxRecDepth 20000 in
theorem gX4_made_X1_lengthOf : GoodIn wsX4_made (wsV RX4 137 RX1 yX1_lengthOf wsX1_lengthOf) := goodIn_app (goodIn_of _ (by decide +kernel)) ggX4_made_X1_lengthOf
theorem dX4_made_0 : decode cX4_made 0 = .ok (.aload_n 0, 1) := by decide +kernel
theorem dX4_made_1 : decode cX4_made 1 = .ok (.invokevirtual 125, 3) := by decide +kernel
theorem dX4_made_4 : decode cX4_made 4 = .ok (.iload_n 1, 1) := by decide +kernel
theorem dX4_made_5 : decode cX4_made 5 = .ok (.ifCond .lt 8, 3) := by decide +kernel
theorem dX4_made_8 : decode cX4_made 8 = .ok (.iload_n 1, 1) := by decide +kernel
theorem dX4_made_9 : decode cX4_made 9 = .ok (.iconst 3, 1) := by decide +kernel
theorem dX4_made_10 : decode cX4_made 10 = .ok (.if_icmp .le 13, 3) := by decide +kernel
theorem dX4_made_13 : decode cX4_made 13 = .ok (.new 94, 3) := by decide +kernel
theorem dX4_made_16 : decode cX4_made 16 = .ok (.dup, 1) := by decide +kernel
theorem dX4_made_17 : decode cX4_made 17 = .ok (.ldc 146, 2) := by decide +kernel
theorem dX4_made_19 : decode cX4_made 19 = .ok (.invokespecial 98, 3) := by decide +kernel
theorem dX4_made_22 : decode cX4_made 22 = .ok (.athrow, 1) := by decide +kernel
theorem dX4_made_23 : decode cX4_made 23 = .ok (.iconst 0, 1) := by decide +kernel
theorem dX4_made_24 : decode cX4_made 24 = .ok (.istore_n 2, 1) := by decide +kernel
theorem dX4_made_25 : decode cX4_made 25 = .ok (.iconst 0, 1) := by decide +kernel
theorem dX4_made_26 : decode cX4_made 26 = .ok (.istore_n 3, 1) := by decide +kernel
theorem dX4_made_27 : decode cX4_made 27 = .ok (.iload_n 3, 1) := by decide +kernel
theorem dX4_made_28 : decode cX4_made 28 = .ok (.aload_n 0, 1) := by decide +kernel
theorem dX4_made_29 : decode cX4_made 29 = .ok (.getfield 27, 3) := by decide +kernel
theorem dX4_made_32 : decode cX4_made 32 = .ok (.invokevirtual 124, 3) := by decide +kernel
theorem dX4_made_35 : decode cX4_made 35 = .ok (.if_icmp .ge 32, 3) := by decide +kernel
theorem dX4_made_38 : decode cX4_made 38 = .ok (.aload_n 0, 1) := by decide +kernel
theorem dX4_made_39 : decode cX4_made 39 = .ok (.getfield 27, 3) := by decide +kernel
theorem dX4_made_42 : decode cX4_made 42 = .ok (.iload_n 3, 1) := by decide +kernel
theorem dX4_made_43 : decode cX4_made 43 = .ok (.invokevirtual 134, 3) := by decide +kernel
theorem dX4_made_46 : decode cX4_made 46 = .ok (.iload_n 1, 1) := by decide +kernel
theorem dX4_made_47 : decode cX4_made 47 = .ok (.if_icmp .ne 14, 3) := by decide +kernel
theorem dX4_made_50 : decode cX4_made 50 = .ok (.iload_n 2, 1) := by decide +kernel
theorem dX4_made_51 : decode cX4_made 51 = .ok (.aload_n 0, 1) := by decide +kernel
theorem dX4_made_52 : decode cX4_made 52 = .ok (.getfield 27, 3) := by decide +kernel
theorem dX4_made_55 : decode cX4_made 55 = .ok (.iload_n 3, 1) := by decide +kernel
theorem dX4_made_56 : decode cX4_made 56 = .ok (.invokevirtual 137, 3) := by decide +kernel
theorem dX4_made_59 : decode cX4_made 59 = .ok (.iadd, 1) := by decide +kernel
theorem dX4_made_60 : decode cX4_made 60 = .ok (.istore_n 2, 1) := by decide +kernel
theorem dX4_made_61 : decode cX4_made 61 = .ok (.iinc 3 1, 3) := by decide +kernel
theorem dX4_made_64 : decode cX4_made 64 = .ok (.goto (-37), 3) := by decide +kernel
theorem dX4_made_67 : decode cX4_made 67 = .ok (.iload_n 2, 1) := by decide +kernel
theorem dX4_made_68 : decode cX4_made 68 = .ok (.ireturn, 1) := by decide +kernel
set_option maxRecDepth 20000 in
theorem ggX4_ratio_X4_needPlan : GoodIn wsX4_ratio wsX4_needPlan := goodIn_ca (goodIn_r _ [7, 8, 9, 2, 10, 11, 12, 13, 14, 15, 27, 28, 29, 30, 31, 32, 33, 34, 35, 36, 37, 38, 39] (by decide +kernel) (by decide +kernel)) (goodIn_sub (fun _ h => List.mem_cons_of_mem _ (List.mem_append_right _ h)) (by decide +kernel))
set_option maxRecDepth 20000 in
theorem gX4_ratio_X4_needPlan : GoodIn wsX4_ratio (wsV RX4 125 RX4 yX4_needPlan wsX4_needPlan) := goodIn_app (goodIn_of _ (by decide +kernel)) ggX4_ratio_X4_needPlan
set_option maxRecDepth 20000 in
theorem ggX4_ratio_X3_count : GoodIn wsX4_ratio wsX3_count := goodIn_r _ [20, 21, 40, 41] (by decide +kernel) (by decide +kernel)
set_option maxRecDepth 20000 in
theorem gX4_ratio_X3_count : GoodIn wsX4_ratio (wsV RX4 70 RX3 yX3_count wsX3_count) := goodIn_app (goodIn_of _ (by decide +kernel)) ggX4_ratio_X3_count
set_option maxRecDepth 20000 in
theorem ggX4_ratio_X1_codeBytes : GoodIn wsX4_ratio wsX1_codeBytes := goodIn_r _ [25, 26, 34, 35, 36, 37, 38, 39] (by decide +kernel) (by decide +kernel)
set_option maxRecDepth 20000 in
theorem gX4_ratio_X1_codeBytes : GoodIn wsX4_ratio (wsV RX4 128 RX1 yX1_codeBytes wsX1_codeBytes) := goodIn_app (goodIn_of _ (by decide +kernel)) ggX4_ratio_X1_codeBytes
theorem dX4_ratio_0 : decode cX4_ratio 0 = .ok (.aload_n 0, 1) := by decide +kernel
theorem dX4_ratio_1 : decode cX4_ratio 1 = .ok (.invokevirtual 125, 3) := by decide +kernel
theorem dX4_ratio_4 : decode cX4_ratio 4 = .ok (.aload_n 0, 1) := by decide +kernel
theorem dX4_ratio_5 : decode cX4_ratio 5 = .ok (.getfield 18, 3) := by decide +kernel
theorem dX4_ratio_8 : decode cX4_ratio 8 = .ok (.invokevirtual 70, 3) := by decide +kernel
theorem dX4_ratio_11 : decode cX4_ratio 11 = .ok (.istore_n 1, 1) := by decide +kernel
theorem dX4_ratio_12 : decode cX4_ratio 12 = .ok (.iload_n 1, 1) := by decide +kernel
theorem dX4_ratio_13 : decode cX4_ratio 13 = .ok (.ifCond .ne 7, 3) := by decide +kernel
theorem dX4_ratio_16 : decode cX4_ratio 16 = .ok (.dconst 0, 1) := by decide +kernel
theorem dX4_ratio_17 : decode cX4_ratio 17 = .ok (.goto 16, 3) := by decide +kernel
theorem dX4_ratio_20 : decode cX4_ratio 20 = .ok (.aload_n 0, 1) := by decide +kernel
theorem dX4_ratio_21 : decode cX4_ratio 21 = .ok (.getfield 27, 3) := by decide +kernel
theorem dX4_ratio_24 : decode cX4_ratio 24 = .ok (.invokevirtual 128, 3) := by decide +kernel
theorem dX4_ratio_27 : decode cX4_ratio 27 = .ok (.iconst 2, 1) := by decide +kernel
theorem dX4_ratio_28 : decode cX4_ratio 28 = .ok (.iadd, 1) := by decide +kernel
theorem dX4_ratio_29 : decode cX4_ratio 29 = .ok (.i2d, 1) := by decide +kernel
theorem dX4_ratio_30 : decode cX4_ratio 30 = .ok (.iload_n 1, 1) := by decide +kernel
theorem dX4_ratio_31 : decode cX4_ratio 31 = .ok (.i2d, 1) := by decide +kernel
theorem dX4_ratio_32 : decode cX4_ratio 32 = .ok (.ddiv, 1) := by decide +kernel
theorem dX4_ratio_33 : decode cX4_ratio 33 = .ok (.dreturn, 1) := by decide +kernel
set_option maxRecDepth 20000 in
theorem ggX4_encode_X4_needPlan : GoodIn wsX4_encode wsX4_needPlan := goodIn_ca (goodIn_r _ [8, 9, 10, 2, 11, 12, 13, 14, 15, 16, 85, 86, 87, 88, 89, 90, 91, 92, 93, 94, 95, 96, 97] (by decide +kernel) (by decide +kernel)) (goodIn_sub (fun _ h => List.mem_cons_of_mem _ (List.mem_append_right _ h)) (by decide +kernel))
set_option maxRecDepth 20000 in
theorem gX4_encode_X4_needPlan : GoodIn wsX4_encode (wsV RX4 125 RX4 yX4_needPlan wsX4_needPlan) := goodIn_app (goodIn_of _ (by decide +kernel)) ggX4_encode_X4_needPlan
set_option maxRecDepth 20000 in
theorem ggX4_encode_X3_clear : GoodIn wsX4_encode wsX3_clear := goodIn_r _ [21, 22, 98, 99] (by decide +kernel) (by decide +kernel)
set_option maxRecDepth 20000 in
theorem gX4_encode_X3_clear : GoodIn wsX4_encode (wsV RX4 91 RX3 yX3_clear wsX3_clear) := goodIn_app (goodIn_of _ (by decide +kernel)) ggX4_encode_X3_clear
set_option maxRecDepth 20000 in
theorem ggX4_encode_X1_count : GoodIn wsX4_encode wsX1_count := goodIn_r _ [26, 27, 28, 29, 30, 20, 31, 22, 92, 93, 94, 95, 96, 97, 98, 99] (by decide +kernel) (by decide +kernel)
set_option maxRecDepth 20000 in
theorem gX4_encode_X1_count : GoodIn wsX4_encode (wsV RX4 124 RX1 yX1_count wsX1_count) := goodIn_app (goodIn_of _ (by decide +kernel)) ggX4_encode_X1_count
set_option maxRecDepth 20000 in
theorem ggX4_encode_X4_writeInstruction : GoodIn wsX4_encode wsX4_writeInstruction := goodIn_r _ [35, 2, 1, 36, 37, 38, 39, 40, 41, 42, 14, 43, 27, 44, 45, 46, 20, 47, 48, 49, 50, 51, 52, 22, 53, 54, 55, 56, 57, 58, 59, 60, 61, 62, 63, 64, 7, 65, 66, 67, 68, 69, 70, 71, 72, 73, 74, 3, 75, 76, 77, 78, 79, 80, 85, 86, 87, 88, 89, 90, 91, 92, 93, 94, 95, 96, 97, 98, 99] (by decide +kernel) (by decide +kernel)
set_option maxRecDepth 20000 in
theorem gX4_encode_X4_writeInstruction : GoodIn wsX4_encode (wsV RX4 148 RX4 yX4_writeInstruction wsX4_writeInstruction) := goodIn_app (goodIn_of _ (by decide +kernel)) ggX4_encode_X4_writeInstruction
set_option maxRecDepth 20000 in
theorem ggX4_encode_X3_count : GoodIn wsX4_encode wsX3_count := goodIn_r _ [31, 22, 98, 99] (by decide +kernel) (by decide +kernel)
set_option maxRecDepth 20000 in
theorem gX4_encode_X3_count : GoodIn wsX4_encode (wsV RX4 70 RX3 yX3_count wsX3_count) := goodIn_app (goodIn_of _ (by decide +kernel)) ggX4_encode_X3_count
set_option maxRecDepth 20000 in
theorem ggX4_encode_X4_checkOf : GoodIn wsX4_encode wsX4_checkOf := goodIn_r _ [84, 75, 45, 46, 20, 47, 48, 49, 50, 51, 52, 22, 98, 99] (by decide +kernel) (by decide +kernel)
set_option maxRecDepth 20000 in
theorem gX4_encode_X4_checkOf : GoodIn wsX4_encode (va_wsS RX4 101 yX4_checkOf wsX4_checkOf) := goodIn_app (goodIn_of _ (by decide +kernel)) ggX4_encode_X4_checkOf
set_option maxRecDepth 20000 in
theorem ggX4_encode_X3_append : GoodIn wsX4_encode wsX3_append := goodIn_r _ [61, 22, 48, 98, 99] (by decide +kernel) (by decide +kernel)
set_option maxRecDepth 20000 in
theorem gX4_encode_X3_append : GoodIn wsX4_encode (wsV RX4 64 RX3 yX3_append wsX3_append) := goodIn_app (goodIn_of _ (by decide +kernel)) ggX4_encode_X3_append
theorem dX4_encode_0 : decode cX4_encode 0 = .ok (.aload_n 0, 1) := by decide +kernel
theorem dX4_encode_1 : decode cX4_encode 1 = .ok (.invokevirtual 125, 3) := by decide +kernel
theorem dX4_encode_4 : decode cX4_encode 4 = .ok (.aload_n 0, 1) := by decide +kernel
theorem dX4_encode_5 : decode cX4_encode 5 = .ok (.getfield 21, 3) := by decide +kernel
theorem dX4_encode_8 : decode cX4_encode 8 = .ok (.invokevirtual 91, 3) := by decide +kernel
theorem dX4_encode_11 : decode cX4_encode 11 = .ok (.iconst 0, 1) := by decide +kernel
theorem dX4_encode_12 : decode cX4_encode 12 = .ok (.istore_n 1, 1) := by decide +kernel
theorem dX4_encode_13 : decode cX4_encode 13 = .ok (.iload_n 1, 1) := by decide +kernel
theorem dX4_encode_14 : decode cX4_encode 14 = .ok (.aload_n 0, 1) := by decide +kernel
theorem dX4_encode_15 : decode cX4_encode 15 = .ok (.getfield 27, 3) := by decide +kernel
theorem dX4_encode_18 : decode cX4_encode 18 = .ok (.invokevirtual 124, 3) := by decide +kernel
theorem dX4_encode_21 : decode cX4_encode 21 = .ok (.if_icmp .ge 14, 3) := by decide +kernel
theorem dX4_encode_24 : decode cX4_encode 24 = .ok (.aload_n 0, 1) := by decide +kernel
theorem dX4_encode_25 : decode cX4_encode 25 = .ok (.iload_n 1, 1) := by decide +kernel
theorem dX4_encode_26 : decode cX4_encode 26 = .ok (.invokevirtual 148, 3) := by decide +kernel
theorem dX4_encode_29 : decode cX4_encode 29 = .ok (.iinc 1 1, 3) := by decide +kernel
theorem dX4_encode_32 : decode cX4_encode 32 = .ok (.goto (-19), 3) := by decide +kernel
theorem dX4_encode_35 : decode cX4_encode 35 = .ok (.aload_n 0, 1) := by decide +kernel
theorem dX4_encode_36 : decode cX4_encode 36 = .ok (.getfield 18, 3) := by decide +kernel
theorem dX4_encode_39 : decode cX4_encode 39 = .ok (.iconst 0, 1) := by decide +kernel
theorem dX4_encode_40 : decode cX4_encode 40 = .ok (.aload_n 0, 1) := by decide +kernel
theorem dX4_encode_41 : decode cX4_encode 41 = .ok (.getfield 18, 3) := by decide +kernel
theorem dX4_encode_44 : decode cX4_encode 44 = .ok (.invokevirtual 70, 3) := by decide +kernel
theorem dX4_encode_47 : decode cX4_encode 47 = .ok (.invokestatic 101, 3) := by decide +kernel
theorem dX4_encode_50 : decode cX4_encode 50 = .ok (.istore_n 1, 1) := by decide +kernel
theorem dX4_encode_51 : decode cX4_encode 51 = .ok (.aload_n 0, 1) := by decide +kernel
theorem dX4_encode_52 : decode cX4_encode 52 = .ok (.getfield 21, 3) := by decide +kernel
theorem dX4_encode_55 : decode cX4_encode 55 = .ok (.iload_n 1, 1) := by decide +kernel
theorem dX4_encode_56 : decode cX4_encode 56 = .ok (.sipush 256, 3) := by decide +kernel
theorem dX4_encode_59 : decode cX4_encode 59 = .ok (.irem, 1) := by decide +kernel
theorem dX4_encode_60 : decode cX4_encode 60 = .ok (.invokevirtual 64, 3) := by decide +kernel
theorem dX4_encode_63 : decode cX4_encode 63 = .ok (.aload_n 0, 1) := by decide +kernel
theorem dX4_encode_64 : decode cX4_encode 64 = .ok (.getfield 21, 3) := by decide +kernel
theorem dX4_encode_67 : decode cX4_encode 67 = .ok (.iload_n 1, 1) := by decide +kernel
theorem dX4_encode_68 : decode cX4_encode 68 = .ok (.sipush 256, 3) := by decide +kernel
theorem dX4_encode_71 : decode cX4_encode 71 = .ok (.idiv, 1) := by decide +kernel
theorem dX4_encode_72 : decode cX4_encode 72 = .ok (.invokevirtual 64, 3) := by decide +kernel
theorem dX4_encode_75 : decode cX4_encode 75 = .ok (.aload_n 0, 1) := by decide +kernel
theorem dX4_encode_76 : decode cX4_encode 76 = .ok (.getfield 21, 3) := by decide +kernel
theorem dX4_encode_79 : decode cX4_encode 79 = .ok (.invokevirtual 70, 3) := by decide +kernel
theorem dX4_encode_82 : decode cX4_encode 82 = .ok (.ireturn, 1) := by decide +kernel
set_option maxRecDepth 20000 in
theorem ggX4_codeSize_X3_count : GoodIn wsX4_codeSize wsX3_count := goodIn_r _ [6, 7, 15, 16] (by decide +kernel) (by decide +kernel)
set_option maxRecDepth 20000 in
theorem gX4_codeSize_X3_count : GoodIn wsX4_codeSize (wsV RX4 70 RX3 yX3_count wsX3_count) := goodIn_app (goodIn_of _ (by decide +kernel)) ggX4_codeSize_X3_count
theorem dX4_codeSize_0 : decode cX4_codeSize 0 = .ok (.aload_n 0, 1) := by decide +kernel
theorem dX4_codeSize_1 : decode cX4_codeSize 1 = .ok (.getfield 21, 3) := by decide +kernel
theorem dX4_codeSize_4 : decode cX4_codeSize 4 = .ok (.invokevirtual 70, 3) := by decide +kernel
theorem dX4_codeSize_7 : decode cX4_codeSize 7 = .ok (.ireturn, 1) := by decide +kernel
set_option maxRecDepth 20000 in
theorem ggX4_code_X4_needPlace : GoodIn wsX4_code wsX4_needPlace := goodIn_ca (goodIn_r _ [5, 6, 7, 8, 9, 10, 11, 12, 13, 14, 27, 28] (by decide +kernel) (by decide +kernel)) (goodIn_sub (fun _ h => List.mem_cons_of_mem _ (List.mem_append_right _ h)) (by decide +kernel))
set_option maxRecDepth 20000 in
theorem gX4_code_X4_needPlace : GoodIn wsX4_code (va_wsS RX4 77 yX4_needPlace wsX4_needPlace) := goodIn_app (goodIn_of _ (by decide +kernel)) ggX4_code_X4_needPlace
set_option maxRecDepth 20000 in
theorem ggX4_code_X3_at : GoodIn wsX4_code wsX3_at := goodIn_r _ [18, 14, 19, 9, 10, 11, 12, 13, 27, 28] (by decide +kernel) (by decide +kernel)
set_option maxRecDepth 20000 in
theorem gX4_code_X3_at : GoodIn wsX4_code (wsV RX4 80 RX3 yX3_at wsX3_at) := goodIn_app (goodIn_of _ (by decide +kernel)) ggX4_code_X3_at
theorem dX4_code_0 : decode cX4_code 0 = .ok (.aload_n 0, 1) := by decide +kernel
theorem dX4_code_1 : decode cX4_code 1 = .ok (.getfield 21, 3) := by decide +kernel
theorem dX4_code_4 : decode cX4_code 4 = .ok (.iload_n 1, 1) := by decide +kernel
theorem dX4_code_5 : decode cX4_code 5 = .ok (.invokestatic 77, 3) := by decide +kernel
theorem dX4_code_8 : decode cX4_code 8 = .ok (.aload_n 0, 1) := by decide +kernel
theorem dX4_code_9 : decode cX4_code 9 = .ok (.getfield 21, 3) := by decide +kernel
theorem dX4_code_12 : decode cX4_code 12 = .ok (.iload_n 1, 1) := by decide +kernel
theorem dX4_code_13 : decode cX4_code 13 = .ok (.invokevirtual 80, 3) := by decide +kernel
theorem dX4_code_16 : decode cX4_code 16 = .ok (.ireturn, 1) := by decide +kernel
set_option maxRecDepth 20000 in
theorem ggX4_setCode_X4_needPlace : GoodIn wsX4_setCode wsX4_needPlace := goodIn_ca (goodIn_r _ [5, 6, 7, 8, 9, 10, 11, 12, 13, 14, 36, 37] (by decide +kernel) (by decide +kernel)) (goodIn_sub (fun _ h => List.mem_cons_of_mem _ (List.mem_append_left _ (List.mem_append_right _ h))) (by decide +kernel))
set_option maxRecDepth 20000 in
theorem gX4_setCode_X4_needPlace : GoodIn wsX4_setCode (va_wsS RX4 77 yX4_needPlace wsX4_needPlace) := goodIn_app (goodIn_of _ (by decide +kernel)) ggX4_setCode_X4_needPlace
set_option maxRecDepth 20000 in
theorem ggX4_setCode_X4_needWithin : GoodIn wsX4_setCode wsX4_needWithin := goodIn_ca (goodIn_r _ [17, 18, 19] (by decide +kernel) (by decide +kernel)) (goodIn_sub (fun _ h => List.mem_cons_of_mem _ (List.mem_append_right _ h)) (by decide +kernel))
set_option maxRecDepth 20000 in
theorem gX4_setCode_X4_needWithin : GoodIn wsX4_setCode (va_wsS RX4 52 yX4_needWithin wsX4_needWithin) := goodIn_app (goodIn_of _ (by decide +kernel)) ggX4_setCode_X4_needWithin
set_option maxRecDepth 20000 in
theorem ggX4_setCode_X3_at : GoodIn wsX4_setCode wsX3_at := goodIn_r _ [23, 14, 24, 9, 10, 11, 12, 13, 36, 37] (by decide +kernel) (by decide +kernel)
set_option maxRecDepth 20000 in
theorem gX4_setCode_X3_at : GoodIn wsX4_setCode (wsV RX4 80 RX3 yX3_at wsX3_at) := goodIn_app (goodIn_of _ (by decide +kernel)) ggX4_setCode_X3_at
set_option maxRecDepth 20000 in
theorem ggX4_setCode_X3_put : GoodIn wsX4_setCode wsX3_put := goodIn_r _ [28, 14, 24, 9, 10, 11, 12, 13, 36, 37] (by decide +kernel) (by decide +kernel)
set_option maxRecDepth 20000 in
theorem gX4_setCode_X3_put : GoodIn wsX4_setCode (wsV RX4 84 RX3 yX3_put wsX3_put) := goodIn_app (goodIn_of _ (by decide +kernel)) ggX4_setCode_X3_put
theorem dX4_setCode_0 : decode cX4_setCode 0 = .ok (.aload_n 0, 1) := by decide +kernel
theorem dX4_setCode_1 : decode cX4_setCode 1 = .ok (.getfield 21, 3) := by decide +kernel
theorem dX4_setCode_4 : decode cX4_setCode 4 = .ok (.iload_n 1, 1) := by decide +kernel
theorem dX4_setCode_5 : decode cX4_setCode 5 = .ok (.invokestatic 77, 3) := by decide +kernel
theorem dX4_setCode_8 : decode cX4_setCode 8 = .ok (.iload_n 2, 1) := by decide +kernel
theorem dX4_setCode_9 : decode cX4_setCode 9 = .ok (.iconst 0, 1) := by decide +kernel
theorem dX4_setCode_10 : decode cX4_setCode 10 = .ok (.sipush 255, 3) := by decide +kernel
theorem dX4_setCode_13 : decode cX4_setCode 13 = .ok (.invokestatic 52, 3) := by decide +kernel
theorem dX4_setCode_16 : decode cX4_setCode 16 = .ok (.aload_n 0, 1) := by decide +kernel
theorem dX4_setCode_17 : decode cX4_setCode 17 = .ok (.getfield 21, 3) := by decide +kernel
theorem dX4_setCode_20 : decode cX4_setCode 20 = .ok (.iload_n 1, 1) := by decide +kernel
theorem dX4_setCode_21 : decode cX4_setCode 21 = .ok (.invokevirtual 80, 3) := by decide +kernel
theorem dX4_setCode_24 : decode cX4_setCode 24 = .ok (.istore_n 3, 1) := by decide +kernel
theorem dX4_setCode_25 : decode cX4_setCode 25 = .ok (.aload_n 0, 1) := by decide +kernel
theorem dX4_setCode_26 : decode cX4_setCode 26 = .ok (.getfield 21, 3) := by decide +kernel
theorem dX4_setCode_29 : decode cX4_setCode 29 = .ok (.iload_n 1, 1) := by decide +kernel
theorem dX4_setCode_30 : decode cX4_setCode 30 = .ok (.iload_n 2, 1) := by decide +kernel
theorem dX4_setCode_31 : decode cX4_setCode 31 = .ok (.invokevirtual 84, 3) := by decide +kernel
theorem dX4_setCode_34 : decode cX4_setCode 34 = .ok (.iload_n 3, 1) := by decide +kernel
theorem dX4_setCode_35 : decode cX4_setCode 35 = .ok (.ireturn, 1) := by decide +kernel
set_option maxRecDepth 20000 in
theorem ggX4_cutCode_X3_count : GoodIn wsX4_cutCode wsX3_count := goodIn_r _ [6, 7, 25, 26] (by decide +kernel) (by decide +kernel)
set_option maxRecDepth 20000 in
theorem gX4_cutCode_X3_count : GoodIn wsX4_cutCode (wsV RX4 70 RX3 yX3_count wsX3_count) := goodIn_app (goodIn_of _ (by decide +kernel)) ggX4_cutCode_X3_count
set_option maxRecDepth 20000 in
theorem ggX4_cutCode_X4_needWithin : GoodIn wsX4_cutCode wsX4_needWithin := goodIn_ca (goodIn_r _ [11, 12, 13] (by decide +kernel) (by decide +kernel)) (goodIn_sub (fun _ h => List.mem_cons_of_mem _ (List.mem_append_right _ h)) (by decide +kernel))
set_option maxRecDepth 20000 in
theorem gX4_cutCode_X4_needWithin : GoodIn wsX4_cutCode (va_wsS RX4 52 yX4_needWithin wsX4_needWithin) := goodIn_app (goodIn_of _ (by decide +kernel)) ggX4_cutCode_X4_needWithin
set_option maxRecDepth 20000 in
theorem ggX4_cutCode_X3_drop : GoodIn wsX4_cutCode wsX3_drop := goodIn_r _ [17, 7, 25, 26] (by decide +kernel) (by decide +kernel)
set_option maxRecDepth 20000 in
theorem gX4_cutCode_X3_drop : GoodIn wsX4_cutCode (wsV RX4 74 RX3 yX3_drop wsX3_drop) := goodIn_app (goodIn_of _ (by decide +kernel)) ggX4_cutCode_X3_drop
theorem dX4_cutCode_0 : decode cX4_cutCode 0 = .ok (.iload_n 1, 1) := by decide +kernel
theorem dX4_cutCode_1 : decode cX4_cutCode 1 = .ok (.iconst 0, 1) := by decide +kernel
theorem dX4_cutCode_2 : decode cX4_cutCode 2 = .ok (.aload_n 0, 1) := by decide +kernel
theorem dX4_cutCode_3 : decode cX4_cutCode 3 = .ok (.getfield 21, 3) := by decide +kernel
theorem dX4_cutCode_6 : decode cX4_cutCode 6 = .ok (.invokevirtual 70, 3) := by decide +kernel
theorem dX4_cutCode_9 : decode cX4_cutCode 9 = .ok (.invokestatic 52, 3) := by decide +kernel
theorem dX4_cutCode_12 : decode cX4_cutCode 12 = .ok (.aload_n 0, 1) := by decide +kernel
theorem dX4_cutCode_13 : decode cX4_cutCode 13 = .ok (.getfield 21, 3) := by decide +kernel
theorem dX4_cutCode_16 : decode cX4_cutCode 16 = .ok (.iload_n 1, 1) := by decide +kernel
theorem dX4_cutCode_17 : decode cX4_cutCode 17 = .ok (.invokevirtual 74, 3) := by decide +kernel
theorem dX4_cutCode_20 : decode cX4_cutCode 20 = .ok (.aload_n 0, 1) := by decide +kernel
theorem dX4_cutCode_21 : decode cX4_cutCode 21 = .ok (.getfield 21, 3) := by decide +kernel
theorem dX4_cutCode_24 : decode cX4_cutCode 24 = .ok (.invokevirtual 70, 3) := by decide +kernel
theorem dX4_cutCode_27 : decode cX4_cutCode 27 = .ok (.ireturn, 1) := by decide +kernel
set_option maxRecDepth 20000 in
theorem ggX4_appendCode_X4_needWithin : GoodIn wsX4_appendCode wsX4_needWithin := goodIn_ca (goodIn_r _ [5, 6, 7] (by decide +kernel) (by decide +kernel)) (goodIn_sub (fun _ h => List.mem_cons_of_mem _ (List.mem_append_left _ (List.mem_append_right _ h))) (by decide +kernel))
set_option maxRecDepth 20000 in
theorem gX4_appendCode_X4_needWithin : GoodIn wsX4_appendCode (va_wsS RX4 52 yX4_needWithin wsX4_needWithin) := goodIn_app (goodIn_of _ (by decide +kernel)) ggX4_appendCode_X4_needWithin
set_option maxRecDepth 20000 in
theorem ggX4_appendCode_X4_needRoom : GoodIn wsX4_appendCode wsX4_needRoom := goodIn_ca (goodIn_r _ [10, 11, 12, 13, 14, 15, 16, 17, 18, 19, 35, 36] (by decide +kernel) (by decide +kernel)) (goodIn_sub (fun _ h => List.mem_cons_of_mem _ (List.mem_append_right _ h)) (by decide +kernel))
set_option maxRecDepth 20000 in
theorem gX4_appendCode_X4_needRoom : GoodIn wsX4_appendCode (va_wsS RX4 60 yX4_needRoom wsX4_needRoom) := goodIn_app (goodIn_of _ (by decide +kernel)) ggX4_appendCode_X4_needRoom
set_option maxRecDepth 20000 in
theorem ggX4_appendCode_X3_append : GoodIn wsX4_appendCode wsX3_append := goodIn_r _ [23, 19, 18, 35, 36] (by decide +kernel) (by decide +kernel)
set_option maxRecDepth 20000 in
theorem gX4_appendCode_X3_append : GoodIn wsX4_appendCode (wsV RX4 64 RX3 yX3_append wsX3_append) := goodIn_app (goodIn_of _ (by decide +kernel)) ggX4_appendCode_X3_append
set_option maxRecDepth 20000 in
theorem ggX4_appendCode_X3_count : GoodIn wsX4_appendCode wsX3_count := goodIn_r _ [27, 19, 35, 36] (by decide +kernel) (by decide +kernel)
set_option maxRecDepth 20000 in
theorem gX4_appendCode_X3_count : GoodIn wsX4_appendCode (wsV RX4 70 RX3 yX3_count wsX3_count) := goodIn_app (goodIn_of _ (by decide +kernel)) ggX4_appendCode_X3_count
theorem dX4_appendCode_0 : decode cX4_appendCode 0 = .ok (.iload_n 1, 1) := by decide +kernel
theorem dX4_appendCode_1 : decode cX4_appendCode 1 = .ok (.iconst 0, 1) := by decide +kernel
theorem dX4_appendCode_2 : decode cX4_appendCode 2 = .ok (.sipush 255, 3) := by decide +kernel
theorem dX4_appendCode_5 : decode cX4_appendCode 5 = .ok (.invokestatic 52, 3) := by decide +kernel
theorem dX4_appendCode_8 : decode cX4_appendCode 8 = .ok (.aload_n 0, 1) := by decide +kernel
theorem dX4_appendCode_9 : decode cX4_appendCode 9 = .ok (.getfield 21, 3) := by decide +kernel
theorem dX4_appendCode_12 : decode cX4_appendCode 12 = .ok (.iconst 1, 1) := by decide +kernel
theorem dX4_appendCode_13 : decode cX4_appendCode 13 = .ok (.invokestatic 60, 3) := by decide +kernel
theorem dX4_appendCode_16 : decode cX4_appendCode 16 = .ok (.aload_n 0, 1) := by decide +kernel
theorem dX4_appendCode_17 : decode cX4_appendCode 17 = .ok (.getfield 21, 3) := by decide +kernel
theorem dX4_appendCode_20 : decode cX4_appendCode 20 = .ok (.iload_n 1, 1) := by decide +kernel
theorem dX4_appendCode_21 : decode cX4_appendCode 21 = .ok (.invokevirtual 64, 3) := by decide +kernel
theorem dX4_appendCode_24 : decode cX4_appendCode 24 = .ok (.aload_n 0, 1) := by decide +kernel
theorem dX4_appendCode_25 : decode cX4_appendCode 25 = .ok (.getfield 21, 3) := by decide +kernel
theorem dX4_appendCode_28 : decode cX4_appendCode 28 = .ok (.invokevirtual 70, 3) := by decide +kernel
theorem dX4_appendCode_31 : decode cX4_appendCode 31 = .ok (.ireturn, 1) := by decide +kernel
set_option maxRecDepth 20000 in
theorem ggX4_decode_X0_readCode : GoodIn wsX4_decode wsX0_readCode := goodIn_r _ [8, 9, 10, 11, 12, 13, 14, 15, 16, 17, 18, 19, 20, 21, 22, 23, 24, 25, 26, 7, 27, 28, 29, 30, 31, 32, 33, 34, 35, 36, 37, 38, 39, 40, 41, 42, 43, 44, 45, 46, 47, 48, 49, 50, 51, 52, 53, 54, 55, 56, 57, 58, 59, 60, 61, 62, 63, 64, 65, 66, 67, 68, 69, 70, 71, 72, 73, 74, 75, 76, 77, 78, 79, 80, 81, 82, 83, 91, 92, 93, 94, 95, 96, 97, 98, 99, 100] (by decide +kernel) (by decide +kernel)
set_option maxRecDepth 20000 in
theorem gX4_decode_X0_readCode : GoodIn wsX4_decode (wsV RX4 151 RX0 yX0_readCode wsX0_readCode) := goodIn_app (goodIn_of _ (by decide +kernel)) ggX4_decode_X0_readCode
theorem dX4_decode_0 : decode cX4_decode 0 = .ok (.aload_n 0, 1) := by decide +kernel
theorem dX4_decode_1 : decode cX4_decode 1 = .ok (.getfield 41, 3) := by decide +kernel
theorem dX4_decode_4 : decode cX4_decode 4 = .ok (.aload_n 0, 1) := by decide +kernel
theorem dX4_decode_5 : decode cX4_decode 5 = .ok (.getfield 21, 3) := by decide +kernel
theorem dX4_decode_8 : decode cX4_decode 8 = .ok (.aload_n 0, 1) := by decide +kernel
theorem dX4_decode_9 : decode cX4_decode 9 = .ok (.getfield 14, 3) := by decide +kernel
theorem dX4_decode_12 : decode cX4_decode 12 = .ok (.invokevirtual 151, 3) := by decide +kernel
theorem dX4_decode_15 : decode cX4_decode 15 = .ok (.ireturn, 1) := by decide +kernel
set_option maxRecDepth 20000 in
theorem ggX4_errorPosition_X0_errorAt : GoodIn wsX4_errorPosition wsX0_errorAt := goodIn_r _ [6, 7, 15, 16, 17, 18, 19, 20, 21, 22] (by decide +kernel) (by decide +kernel)
set_option maxRecDepth 20000 in
theorem gX4_errorPosition_X0_errorAt : GoodIn wsX4_errorPosition (wsV RX4 155 RX0 yX0_errorAt wsX0_errorAt) := goodIn_app (goodIn_of _ (by decide +kernel)) ggX4_errorPosition_X0_errorAt
theorem dX4_errorPosition_0 : decode cX4_errorPosition 0 = .ok (.aload_n 0, 1) := by decide +kernel
theorem dX4_errorPosition_1 : decode cX4_errorPosition 1 = .ok (.getfield 41, 3) := by decide +kernel
theorem dX4_errorPosition_4 : decode cX4_errorPosition 4 = .ok (.invokevirtual 155, 3) := by decide +kernel
theorem dX4_errorPosition_7 : decode cX4_errorPosition 7 = .ok (.ireturn, 1) := by decide +kernel
set_option maxRecDepth 20000 in
theorem ggX4_outputSize_X0_product : GoodIn wsX4_outputSize wsX0_product := goodIn_r _ [6, 7, 21, 22, 23, 24, 25, 26, 27, 28] (by decide +kernel) (by decide +kernel)
set_option maxRecDepth 20000 in
theorem gX4_outputSize_X0_product : GoodIn wsX4_outputSize (wsV RX4 158 RX0 yX0_product wsX0_product) := goodIn_app (goodIn_of _ (by decide +kernel)) ggX4_outputSize_X0_product
set_option maxRecDepth 20000 in
theorem ggX4_outputSize_X3_count : GoodIn wsX4_outputSize wsX3_count := goodIn_r _ [12, 13, 29, 30] (by decide +kernel) (by decide +kernel)
set_option maxRecDepth 20000 in
theorem gX4_outputSize_X3_count : GoodIn wsX4_outputSize (wsV RX4 70 RX3 yX3_count wsX3_count) := goodIn_app (goodIn_of _ (by decide +kernel)) ggX4_outputSize_X3_count
theorem dX4_outputSize_0 : decode cX4_outputSize 0 = .ok (.aload_n 0, 1) := by decide +kernel
theorem dX4_outputSize_1 : decode cX4_outputSize 1 = .ok (.getfield 41, 3) := by decide +kernel
theorem dX4_outputSize_4 : decode cX4_outputSize 4 = .ok (.invokevirtual 158, 3) := by decide +kernel
theorem dX4_outputSize_7 : decode cX4_outputSize 7 = .ok (.invokevirtual 70, 3) := by decide +kernel
theorem dX4_outputSize_10 : decode cX4_outputSize 10 = .ok (.ireturn, 1) := by decide +kernel
set_option maxRecDepth 20000 in
theorem ggX4_output_X0_product : GoodIn wsX4_output wsX0_product := goodIn_r _ [6, 7, 33, 34, 35, 36, 37, 38, 39, 40] (by decide +kernel) (by decide +kernel)
set_option maxRecDepth 20000 in
theorem gX4_output_X0_product : GoodIn wsX4_output (wsV RX4 158 RX0 yX0_product wsX0_product) := goodIn_app (goodIn_of _ (by decide +kernel)) ggX4_output_X0_product
set_option maxRecDepth 20000 in
theorem ggX4_output_X4_needPlace : GoodIn wsX4_output wsX4_needPlace := goodIn_ca (goodIn_r _ [11, 12, 13, 14, 15, 16, 17, 18, 19, 20, 41, 42] (by decide +kernel) (by decide +kernel)) (goodIn_sub (fun _ h => List.mem_cons_of_mem _ (List.mem_append_right _ h)) (by decide +kernel))
set_option maxRecDepth 20000 in
theorem gX4_output_X4_needPlace : GoodIn wsX4_output (va_wsS RX4 77 yX4_needPlace wsX4_needPlace) := goodIn_app (goodIn_of _ (by decide +kernel)) ggX4_output_X4_needPlace
set_option maxRecDepth 20000 in
theorem ggX4_output_X3_at : GoodIn wsX4_output wsX3_at := goodIn_r _ [24, 20, 25, 15, 16, 17, 18, 19, 41, 42] (by decide +kernel) (by decide +kernel)
set_option maxRecDepth 20000 in
theorem gX4_output_X3_at : GoodIn wsX4_output (wsV RX4 80 RX3 yX3_at wsX3_at) := goodIn_app (goodIn_of _ (by decide +kernel)) ggX4_output_X3_at
theorem dX4_output_0 : decode cX4_output 0 = .ok (.aload_n 0, 1) := by decide +kernel
theorem dX4_output_1 : decode cX4_output 1 = .ok (.getfield 41, 3) := by decide +kernel
theorem dX4_output_4 : decode cX4_output 4 = .ok (.invokevirtual 158, 3) := by decide +kernel
theorem dX4_output_7 : decode cX4_output 7 = .ok (.iload_n 1, 1) := by decide +kernel
theorem dX4_output_8 : decode cX4_output 8 = .ok (.invokestatic 77, 3) := by decide +kernel
theorem dX4_output_11 : decode cX4_output 11 = .ok (.aload_n 0, 1) := by decide +kernel
theorem dX4_output_12 : decode cX4_output 12 = .ok (.getfield 41, 3) := by decide +kernel
theorem dX4_output_15 : decode cX4_output 15 = .ok (.invokevirtual 158, 3) := by decide +kernel
theorem dX4_output_18 : decode cX4_output 18 = .ok (.iload_n 1, 1) := by decide +kernel
theorem dX4_output_19 : decode cX4_output 19 = .ok (.invokevirtual 80, 3) := by decide +kernel
theorem dX4_output_22 : decode cX4_output 22 = .ok (.ireturn, 1) := by decide +kernel
set_option maxRecDepth 20000 in
theorem ggX4_differences_X0_product : GoodIn wsX4_differences wsX0_product := goodIn_r _ [11, 12, 36, 37, 38, 39, 40, 41, 42, 43] (by decide +kernel) (by decide +kernel)
set_option maxRecDepth 20000 in
theorem gX4_differences_X0_product : GoodIn wsX4_differences (wsV RX4 158 RX0 yX0_product wsX0_product) := goodIn_app (goodIn_of _ (by decide +kernel)) ggX4_differences_X0_product
set_option maxRecDepth 20000 in
theorem ggX4_differences_X3_count : GoodIn wsX4_differences wsX3_count := goodIn_r _ [17, 18, 44, 45] (by decide +kernel) (by decide +kernel)
set_option maxRecDepth 20000 in
theorem gX4_differences_X3_count : GoodIn wsX4_differences (wsV RX4 70 RX3 yX3_count wsX3_count) := goodIn_app (goodIn_of _ (by decide +kernel)) ggX4_differences_X3_count
set_option maxRecDepth 20000 in
theorem ggX4_differences_X3_holds : GoodIn wsX4_differences wsX3_holds := goodIn_r _ [22, 18, 23, 44, 45] (by decide +kernel) (by decide +kernel)
set_option maxRecDepth 20000 in
theorem gX4_differences_X3_holds : GoodIn wsX4_differences (wsV RX4 167 RX3 yX3_holds wsX3_holds) := goodIn_app (goodIn_of _ (by decide +kernel)) ggX4_differences_X3_holds
set_option maxRecDepth 20000 in
theorem ggX4_differences_X3_at : GoodIn wsX4_differences wsX3_at := goodIn_r _ [27, 23, 28, 20, 21, 16, 22, 18, 44, 45] (by decide +kernel) (by decide +kernel)
set_option maxRecDepth 20000 in
theorem gX4_differences_X3_at : GoodIn wsX4_differences (wsV RX4 80 RX3 yX3_at wsX3_at) := goodIn_app (goodIn_of _ (by decide +kernel)) ggX4_differences_X3_at
theorem dX4_differences_0 : decode cX4_differences 0 = .ok (.aload_n 0, 1) := by decide +kernel
theorem dX4_differences_1 : decode cX4_differences 1 = .ok (.getfield 41, 3) := by decide +kernel
theorem dX4_differences_4 : decode cX4_differences 4 = .ok (.invokevirtual 158, 3) := by decide +kernel
theorem dX4_differences_7 : decode cX4_differences 7 = .ok (.astore_n 1, 1) := by decide +kernel
theorem dX4_differences_8 : decode cX4_differences 8 = .ok (.aload_n 0, 1) := by decide +kernel
theorem dX4_differences_9 : decode cX4_differences 9 = .ok (.getfield 18, 3) := by decide +kernel
theorem dX4_differences_12 : decode cX4_differences 12 = .ok (.invokevirtual 70, 3) := by decide +kernel
theorem dX4_differences_15 : decode cX4_differences 15 = .ok (.aload_n 1, 1) := by decide +kernel
theorem dX4_differences_16 : decode cX4_differences 16 = .ok (.invokevirtual 70, 3) := by decide +kernel
theorem dX4_differences_19 : decode cX4_differences 19 = .ok (.invokestatic 162, 3) := by decide +kernel
theorem dX4_differences_22 : decode cX4_differences 22 = .ok (.istore_n 2, 1) := by decide +kernel
theorem dX4_differences_23 : decode cX4_differences 23 = .ok (.iconst 0, 1) := by decide +kernel
theorem dX4_differences_24 : decode cX4_differences 24 = .ok (.istore_n 3, 1) := by decide +kernel
theorem dX4_differences_25 : decode cX4_differences 25 = .ok (.iconst 0, 1) := by decide +kernel
theorem dX4_differences_26 : decode cX4_differences 26 = .ok (.istore 4, 2) := by decide +kernel
theorem dX4_differences_28 : decode cX4_differences 28 = .ok (.iload 4, 2) := by decide +kernel
theorem dX4_differences_30 : decode cX4_differences 30 = .ok (.iload_n 2, 1) := by decide +kernel
theorem dX4_differences_31 : decode cX4_differences 31 = .ok (.if_icmp .ge 63, 3) := by decide +kernel
theorem dX4_differences_34 : decode cX4_differences 34 = .ok (.aload_n 0, 1) := by decide +kernel
theorem dX4_differences_35 : decode cX4_differences 35 = .ok (.getfield 18, 3) := by decide +kernel
theorem dX4_differences_38 : decode cX4_differences 38 = .ok (.iload 4, 2) := by decide +kernel
theorem dX4_differences_40 : decode cX4_differences 40 = .ok (.invokevirtual 167, 3) := by decide +kernel
theorem dX4_differences_43 : decode cX4_differences 43 = .ok (.ifCond .eq 16, 3) := by decide +kernel
theorem dX4_differences_46 : decode cX4_differences 46 = .ok (.aload_n 1, 1) := by decide +kernel
theorem dX4_differences_47 : decode cX4_differences 47 = .ok (.iload 4, 2) := by decide +kernel
theorem dX4_differences_49 : decode cX4_differences 49 = .ok (.invokevirtual 167, 3) := by decide +kernel
theorem dX4_differences_52 : decode cX4_differences 52 = .ok (.ifCond .eq 7, 3) := by decide +kernel
theorem dX4_differences_55 : decode cX4_differences 55 = .ok (.iconst 1, 1) := by decide +kernel
theorem dX4_differences_56 : decode cX4_differences 56 = .ok (.goto 4, 3) := by decide +kernel
theorem dX4_differences_59 : decode cX4_differences 59 = .ok (.iconst 0, 1) := by decide +kernel
theorem dX4_differences_60 : decode cX4_differences 60 = .ok (.istore 5, 2) := by decide +kernel
theorem dX4_differences_62 : decode cX4_differences 62 = .ok (.iload 5, 2) := by decide +kernel
theorem dX4_differences_64 : decode cX4_differences 64 = .ok (.ifCond .eq 21, 3) := by decide +kernel
theorem dX4_differences_67 : decode cX4_differences 67 = .ok (.aload_n 0, 1) := by decide +kernel
theorem dX4_differences_68 : decode cX4_differences 68 = .ok (.getfield 18, 3) := by decide +kernel
theorem dX4_differences_71 : decode cX4_differences 71 = .ok (.iload 4, 2) := by decide +kernel
theorem dX4_differences_73 : decode cX4_differences 73 = .ok (.invokevirtual 80, 3) := by decide +kernel
theorem dX4_differences_76 : decode cX4_differences 76 = .ok (.aload_n 1, 1) := by decide +kernel
theorem dX4_differences_77 : decode cX4_differences 77 = .ok (.iload 4, 2) := by decide +kernel
theorem dX4_differences_79 : decode cX4_differences 79 = .ok (.invokevirtual 80, 3) := by decide +kernel
theorem dX4_differences_82 : decode cX4_differences 82 = .ok (.if_icmp .eq 6, 3) := by decide +kernel
theorem dX4_differences_85 : decode cX4_differences 85 = .ok (.iinc 3 1, 3) := by decide +kernel
theorem dX4_differences_88 : decode cX4_differences 88 = .ok (.iinc 4 1, 3) := by decide +kernel
theorem dX4_differences_91 : decode cX4_differences 91 = .ok (.goto (-63), 3) := by decide +kernel
theorem dX4_differences_94 : decode cX4_differences 94 = .ok (.iload_n 3, 1) := by decide +kernel
theorem dX4_differences_95 : decode cX4_differences 95 = .ok (.ireturn, 1) := by decide +kernel
set_option maxRecDepth 20000 in
theorem ggX4_digest_X4_digestRow : GoodIn wsX4_digest wsX4_digestRow := goodIn_r _ [11, 12, 13, 14, 15, 16, 17, 18, 19, 10, 20, 21, 22, 23, 24, 25, 26, 27, 28, 29, 30, 75, 76] (by decide +kernel) (by decide +kernel)
set_option maxRecDepth 20000 in
theorem gX4_digest_X4_digestRow : GoodIn wsX4_digest (va_wsS RX4 173 yX4_digestRow wsX4_digestRow) := goodIn_app (goodIn_of _ (by decide +kernel)) ggX4_digest_X4_digestRow
set_option maxRecDepth 20000 in
theorem ggX4_digest_X4_digestStep : GoodIn wsX4_digest wsX4_digestStep := goodIn_r _ [20, 21] (by decide +kernel) (by decide +kernel)
set_option maxRecDepth 20000 in
theorem gX4_digest_X4_digestStep : GoodIn wsX4_digest (va_wsS RX4 177 yX4_digestStep wsX4_digestStep) := goodIn_app (goodIn_of _ (by decide +kernel)) ggX4_digest_X4_digestStep
set_option maxRecDepth 20000 in
theorem ggX4_digest_X1_isMade : GoodIn wsX4_digest wsX1_isMade := goodIn_r _ [35, 36, 77, 78, 79, 80, 81, 82] (by decide +kernel) (by decide +kernel)
set_option maxRecDepth 20000 in
theorem gX4_digest_X1_isMade : GoodIn wsX4_digest (wsV RX4 116 RX1 yX1_isMade wsX1_isMade) := goodIn_app (goodIn_of _ (by decide +kernel)) ggX4_digest_X1_isMade
set_option maxRecDepth 20000 in
theorem ggX4_digest_X4_digestPlan : GoodIn wsX4_digest wsX4_digestPlan := goodIn_r _ [40, 5, 41, 42, 43, 34, 44, 45, 46, 13, 14, 15, 16, 17, 18, 19, 10, 20, 21, 47, 48, 49, 50, 51, 23, 24, 25, 26, 27, 28, 29, 30, 52, 53, 54, 55, 56, 57, 58, 59, 60, 61, 68, 69, 70, 71, 72, 73, 74, 77, 78, 79, 80, 81, 82, 75, 76] (by decide +kernel) (by decide +kernel)
set_option maxRecDepth 20000 in
theorem gX4_digest_X4_digestPlan : GoodIn wsX4_digest (wsV RX4 181 RX4 yX4_digestPlan wsX4_digestPlan) := goodIn_app (goodIn_of _ (by decide +kernel)) ggX4_digest_X4_digestPlan
set_option maxRecDepth 20000 in
theorem ggX4_digest_X0_product : GoodIn wsX4_digest wsX0_product := goodIn_r _ [66, 67, 83, 84, 85, 86, 87, 88, 89, 90] (by decide +kernel) (by decide +kernel)
set_option maxRecDepth 20000 in
theorem gX4_digest_X0_product : GoodIn wsX4_digest (wsV RX4 158 RX0 yX0_product wsX0_product) := goodIn_app (goodIn_of _ (by decide +kernel)) ggX4_digest_X0_product
set_option maxRecDepth 20000 in
theorem ggX4_digest_X3_count : GoodIn wsX4_digest wsX3_count := goodIn_r _ [16, 17, 75, 76] (by decide +kernel) (by decide +kernel)
set_option maxRecDepth 20000 in
theorem gX4_digest_X3_count : GoodIn wsX4_digest (wsV RX4 70 RX3 yX3_count wsX3_count) := goodIn_app (goodIn_of _ (by decide +kernel)) ggX4_digest_X3_count
theorem dX4_digest_0 : decode cX4_digest 0 = .ok (.ldc2_w 171, 3) := by decide +kernel
theorem dX4_digest_3 : decode cX4_digest 3 = .ok (.lstore_n 1, 1) := by decide +kernel
theorem dX4_digest_4 : decode cX4_digest 4 = .ok (.lload_n 1, 1) := by decide +kernel
theorem dX4_digest_5 : decode cX4_digest 5 = .ok (.aload_n 0, 1) := by decide +kernel
theorem dX4_digest_6 : decode cX4_digest 6 = .ok (.getfield 14, 3) := by decide +kernel
theorem dX4_digest_9 : decode cX4_digest 9 = .ok (.invokestatic 173, 3) := by decide +kernel
theorem dX4_digest_12 : decode cX4_digest 12 = .ok (.lstore_n 1, 1) := by decide +kernel
theorem dX4_digest_13 : decode cX4_digest 13 = .ok (.lload_n 1, 1) := by decide +kernel
theorem dX4_digest_14 : decode cX4_digest 14 = .ok (.aload_n 0, 1) := by decide +kernel
theorem dX4_digest_15 : decode cX4_digest 15 = .ok (.getfield 18, 3) := by decide +kernel
theorem dX4_digest_18 : decode cX4_digest 18 = .ok (.invokestatic 173, 3) := by decide +kernel
theorem dX4_digest_21 : decode cX4_digest 21 = .ok (.lstore_n 1, 1) := by decide +kernel
theorem dX4_digest_22 : decode cX4_digest 22 = .ok (.lload_n 1, 1) := by decide +kernel
theorem dX4_digest_23 : decode cX4_digest 23 = .ok (.aload_n 0, 1) := by decide +kernel
theorem dX4_digest_24 : decode cX4_digest 24 = .ok (.getfield 45, 3) := by decide +kernel
theorem dX4_digest_27 : decode cX4_digest 27 = .ok (.invokestatic 177, 3) := by decide +kernel
theorem dX4_digest_30 : decode cX4_digest 30 = .ok (.lstore_n 1, 1) := by decide +kernel
theorem dX4_digest_31 : decode cX4_digest 31 = .ok (.aload_n 0, 1) := by decide +kernel
theorem dX4_digest_32 : decode cX4_digest 32 = .ok (.getfield 27, 3) := by decide +kernel
theorem dX4_digest_35 : decode cX4_digest 35 = .ok (.invokevirtual 116, 3) := by decide +kernel
theorem dX4_digest_38 : decode cX4_digest 38 = .ok (.ifCond .eq 9, 3) := by decide +kernel
theorem dX4_digest_41 : decode cX4_digest 41 = .ok (.aload_n 0, 1) := by decide +kernel
theorem dX4_digest_42 : decode cX4_digest 42 = .ok (.lload_n 1, 1) := by decide +kernel
theorem dX4_digest_43 : decode cX4_digest 43 = .ok (.invokevirtual 181, 3) := by decide +kernel
theorem dX4_digest_46 : decode cX4_digest 46 = .ok (.lstore_n 1, 1) := by decide +kernel
theorem dX4_digest_47 : decode cX4_digest 47 = .ok (.lload_n 1, 1) := by decide +kernel
theorem dX4_digest_48 : decode cX4_digest 48 = .ok (.aload_n 0, 1) := by decide +kernel
theorem dX4_digest_49 : decode cX4_digest 49 = .ok (.getfield 21, 3) := by decide +kernel
theorem dX4_digest_52 : decode cX4_digest 52 = .ok (.invokestatic 173, 3) := by decide +kernel
theorem dX4_digest_55 : decode cX4_digest 55 = .ok (.lstore_n 1, 1) := by decide +kernel
theorem dX4_digest_56 : decode cX4_digest 56 = .ok (.lload_n 1, 1) := by decide +kernel
theorem dX4_digest_57 : decode cX4_digest 57 = .ok (.aload_n 0, 1) := by decide +kernel
theorem dX4_digest_58 : decode cX4_digest 58 = .ok (.getfield 41, 3) := by decide +kernel
theorem dX4_digest_61 : decode cX4_digest 61 = .ok (.invokevirtual 158, 3) := by decide +kernel
theorem dX4_digest_64 : decode cX4_digest 64 = .ok (.invokevirtual 70, 3) := by decide +kernel
theorem dX4_digest_67 : decode cX4_digest 67 = .ok (.invokestatic 177, 3) := by decide +kernel
theorem dX4_digest_70 : decode cX4_digest 70 = .ok (.lreturn, 1) := by decide +kernel
theorem dX4_needSide_0 : decode cX4_needSide 0 = .ok (.iload_n 0, 1) := by decide +kernel
theorem dX4_needSide_1 : decode cX4_needSide 1 = .ok (.ifCond .eq 18, 3) := by decide +kernel
theorem dX4_needSide_4 : decode cX4_needSide 4 = .ok (.iload_n 0, 1) := by decide +kernel
theorem dX4_needSide_5 : decode cX4_needSide 5 = .ok (.iconst 1, 1) := by decide +kernel
theorem dX4_needSide_6 : decode cX4_needSide 6 = .ok (.if_icmp .eq 13, 3) := by decide +kernel
theorem dX4_needSide_9 : decode cX4_needSide 9 = .ok (.new 94, 3) := by decide +kernel
theorem dX4_needSide_12 : decode cX4_needSide 12 = .ok (.dup, 1) := by decide +kernel
theorem dX4_needSide_13 : decode cX4_needSide 13 = .ok (.ldc 185, 2) := by decide +kernel
theorem dX4_needSide_15 : decode cX4_needSide 15 = .ok (.invokespecial 98, 3) := by decide +kernel
theorem dX4_needSide_18 : decode cX4_needSide 18 = .ok (.athrow, 1) := by decide +kernel
theorem dX4_needSide_19 : decode cX4_needSide 19 = .ok (.return_, 1) := by decide +kernel
theorem dX4_needWithin_0 : decode cX4_needWithin 0 = .ok (.iload_n 0, 1) := by decide +kernel
theorem dX4_needWithin_1 : decode cX4_needWithin 1 = .ok (.iload_n 1, 1) := by decide +kernel
theorem dX4_needWithin_2 : decode cX4_needWithin 2 = .ok (.if_icmp .lt 8, 3) := by decide +kernel
theorem dX4_needWithin_5 : decode cX4_needWithin 5 = .ok (.iload_n 0, 1) := by decide +kernel
theorem dX4_needWithin_6 : decode cX4_needWithin 6 = .ok (.iload_n 2, 1) := by decide +kernel
theorem dX4_needWithin_7 : decode cX4_needWithin 7 = .ok (.if_icmp .le 13, 3) := by decide +kernel
theorem dX4_needWithin_10 : decode cX4_needWithin 10 = .ok (.new 187, 3) := by decide +kernel
theorem dX4_needWithin_13 : decode cX4_needWithin 13 = .ok (.dup, 1) := by decide +kernel
theorem dX4_needWithin_14 : decode cX4_needWithin 14 = .ok (.ldc 189, 2) := by decide +kernel
theorem dX4_needWithin_16 : decode cX4_needWithin 16 = .ok (.invokespecial 191, 3) := by decide +kernel
theorem dX4_needWithin_19 : decode cX4_needWithin 19 = .ok (.athrow, 1) := by decide +kernel
theorem dX4_needWithin_20 : decode cX4_needWithin 20 = .ok (.return_, 1) := by decide +kernel
set_option maxRecDepth 20000 in
theorem ggX4_needPlace_X3_holds : GoodIn wsX4_needPlace wsX3_holds := goodIn_r _ [7, 8, 9, 10, 11] (by decide +kernel) (by decide +kernel)
set_option maxRecDepth 20000 in
theorem gX4_needPlace_X3_holds : GoodIn wsX4_needPlace (wsV RX4 167 RX3 yX3_holds wsX3_holds) := goodIn_app (goodIn_of _ (by decide +kernel)) ggX4_needPlace_X3_holds
theorem dX4_needPlace_0 : decode cX4_needPlace 0 = .ok (.aload_n 0, 1) := by decide +kernel
theorem dX4_needPlace_1 : decode cX4_needPlace 1 = .ok (.iload_n 1, 1) := by decide +kernel
theorem dX4_needPlace_2 : decode cX4_needPlace 2 = .ok (.invokevirtual 167, 3) := by decide +kernel
theorem dX4_needPlace_5 : decode cX4_needPlace 5 = .ok (.ifCond .ne 13, 3) := by decide +kernel
theorem dX4_needPlace_8 : decode cX4_needPlace 8 = .ok (.new 94, 3) := by decide +kernel
theorem dX4_needPlace_11 : decode cX4_needPlace 11 = .ok (.dup, 1) := by decide +kernel
theorem dX4_needPlace_12 : decode cX4_needPlace 12 = .ok (.ldc 192, 2) := by decide +kernel
theorem dX4_needPlace_14 : decode cX4_needPlace 14 = .ok (.invokespecial 98, 3) := by decide +kernel
theorem dX4_needPlace_17 : decode cX4_needPlace 17 = .ok (.athrow, 1) := by decide +kernel
theorem dX4_needPlace_18 : decode cX4_needPlace 18 = .ok (.return_, 1) := by decide +kernel
set_option maxRecDepth 20000 in
theorem ggX4_needRoom_X3_hasRoom : GoodIn wsX4_needRoom wsX3_hasRoom := goodIn_r _ [7, 8, 9, 10, 11] (by decide +kernel) (by decide +kernel)
set_option maxRecDepth 20000 in
theorem gX4_needRoom_X3_hasRoom : GoodIn wsX4_needRoom (wsV RX4 194 RX3 yX3_hasRoom wsX3_hasRoom) := goodIn_app (goodIn_of _ (by decide +kernel)) ggX4_needRoom_X3_hasRoom
theorem dX4_needRoom_0 : decode cX4_needRoom 0 = .ok (.aload_n 0, 1) := by decide +kernel
theorem dX4_needRoom_1 : decode cX4_needRoom 1 = .ok (.iload_n 1, 1) := by decide +kernel
theorem dX4_needRoom_2 : decode cX4_needRoom 2 = .ok (.invokevirtual 194, 3) := by decide +kernel
theorem dX4_needRoom_5 : decode cX4_needRoom 5 = .ok (.ifCond .ne 13, 3) := by decide +kernel
theorem dX4_needRoom_8 : decode cX4_needRoom 8 = .ok (.new 197, 3) := by decide +kernel
theorem dX4_needRoom_11 : decode cX4_needRoom 11 = .ok (.dup, 1) := by decide +kernel
theorem dX4_needRoom_12 : decode cX4_needRoom 12 = .ok (.ldc 199, 2) := by decide +kernel
theorem dX4_needRoom_14 : decode cX4_needRoom 14 = .ok (.invokespecial 201, 3) := by decide +kernel
theorem dX4_needRoom_17 : decode cX4_needRoom 17 = .ok (.athrow, 1) := by decide +kernel
theorem dX4_needRoom_18 : decode cX4_needRoom 18 = .ok (.return_, 1) := by decide +kernel
set_option maxRecDepth 20000 in
theorem ggX4_needPlan_X1_isMade : GoodIn wsX4_needPlan wsX1_isMade := goodIn_r _ [8, 9, 17, 18, 19, 20, 21, 22] (by decide +kernel) (by decide +kernel)
set_option maxRecDepth 20000 in
theorem gX4_needPlan_X1_isMade : GoodIn wsX4_needPlan (wsV RX4 116 RX1 yX1_isMade wsX1_isMade) := goodIn_app (goodIn_of _ (by decide +kernel)) ggX4_needPlan_X1_isMade
theorem dX4_needPlan_0 : decode cX4_needPlan 0 = .ok (.aload_n 0, 1) := by decide +kernel
theorem dX4_needPlan_1 : decode cX4_needPlan 1 = .ok (.getfield 27, 3) := by decide +kernel
theorem dX4_needPlan_4 : decode cX4_needPlan 4 = .ok (.invokevirtual 116, 3) := by decide +kernel
theorem dX4_needPlan_7 : decode cX4_needPlan 7 = .ok (.ifCond .ne 13, 3) := by decide +kernel
theorem dX4_needPlan_10 : decode cX4_needPlan 10 = .ok (.new 197, 3) := by decide +kernel
theorem dX4_needPlan_13 : decode cX4_needPlan 13 = .ok (.dup, 1) := by decide +kernel
theorem dX4_needPlan_14 : decode cX4_needPlan 14 = .ok (.ldc 202, 2) := by decide +kernel
theorem dX4_needPlan_16 : decode cX4_needPlan 16 = .ok (.invokespecial 201, 3) := by decide +kernel
theorem dX4_needPlan_19 : decode cX4_needPlan 19 = .ok (.athrow, 1) := by decide +kernel
theorem dX4_needPlan_20 : decode cX4_needPlan 20 = .ok (.return_, 1) := by decide +kernel
set_option maxRecDepth 20000 in
theorem ggX4_needInstruction_X4_needPlan : GoodIn wsX4_needInstruction wsX4_needPlan := goodIn_ca (goodIn_r _ [8, 9, 10, 3, 11, 12, 13, 14, 15, 16, 28, 29, 30, 31, 32, 33, 34, 35, 36, 37, 38, 39, 40] (by decide +kernel) (by decide +kernel)) (goodIn_sub (fun _ h => List.mem_cons_of_mem _ (List.mem_append_right _ h)) (by decide +kernel))
set_option maxRecDepth 20000 in
theorem gX4_needInstruction_X4_needPlan : GoodIn wsX4_needInstruction (wsV RX4 125 RX4 yX4_needPlan wsX4_needPlan) := goodIn_app (goodIn_of _ (by decide +kernel)) ggX4_needInstruction_X4_needPlan
set_option maxRecDepth 20000 in
theorem ggX4_needInstruction_X1_count : GoodIn wsX4_needInstruction wsX1_count := goodIn_r _ [20, 21, 22, 23, 24, 25, 26, 27, 35, 36, 37, 38, 39, 40, 41, 42] (by decide +kernel) (by decide +kernel)
set_option maxRecDepth 20000 in
theorem gX4_needInstruction_X1_count : GoodIn wsX4_needInstruction (wsV RX4 124 RX1 yX1_count wsX1_count) := goodIn_app (goodIn_of _ (by decide +kernel)) ggX4_needInstruction_X1_count
theorem dX4_needInstruction_0 : decode cX4_needInstruction 0 = .ok (.aload_n 0, 1) := by decide +kernel
theorem dX4_needInstruction_1 : decode cX4_needInstruction 1 = .ok (.invokevirtual 125, 3) := by decide +kernel
theorem dX4_needInstruction_4 : decode cX4_needInstruction 4 = .ok (.iload_n 1, 1) := by decide +kernel
theorem dX4_needInstruction_5 : decode cX4_needInstruction 5 = .ok (.ifCond .lt 14, 3) := by decide +kernel
theorem dX4_needInstruction_8 : decode cX4_needInstruction 8 = .ok (.iload_n 1, 1) := by decide +kernel
theorem dX4_needInstruction_9 : decode cX4_needInstruction 9 = .ok (.aload_n 0, 1) := by decide +kernel
theorem dX4_needInstruction_10 : decode cX4_needInstruction 10 = .ok (.getfield 27, 3) := by decide +kernel
theorem dX4_needInstruction_13 : decode cX4_needInstruction 13 = .ok (.invokevirtual 124, 3) := by decide +kernel
theorem dX4_needInstruction_16 : decode cX4_needInstruction 16 = .ok (.if_icmp .lt 13, 3) := by decide +kernel
theorem dX4_needInstruction_19 : decode cX4_needInstruction 19 = .ok (.new 94, 3) := by decide +kernel
theorem dX4_needInstruction_22 : decode cX4_needInstruction 22 = .ok (.dup, 1) := by decide +kernel
theorem dX4_needInstruction_23 : decode cX4_needInstruction 23 = .ok (.ldc 204, 2) := by decide +kernel
theorem dX4_needInstruction_25 : decode cX4_needInstruction 25 = .ok (.invokespecial 98, 3) := by decide +kernel
theorem dX4_needInstruction_28 : decode cX4_needInstruction 28 = .ok (.athrow, 1) := by decide +kernel
theorem dX4_needInstruction_29 : decode cX4_needInstruction 29 = .ok (.return_, 1) := by decide +kernel
theorem dX4_rowOf_0 : decode cX4_rowOf 0 = .ok (.iload_n 1, 1) := by decide +kernel
theorem dX4_rowOf_1 : decode cX4_rowOf 1 = .ok (.ifCond .ne 10, 3) := by decide +kernel
theorem dX4_rowOf_4 : decode cX4_rowOf 4 = .ok (.aload_n 0, 1) := by decide +kernel
theorem dX4_rowOf_5 : decode cX4_rowOf 5 = .ok (.getfield 14, 3) := by decide +kernel
theorem dX4_rowOf_8 : decode cX4_rowOf 8 = .ok (.goto 7, 3) := by decide +kernel
theorem dX4_rowOf_11 : decode cX4_rowOf 11 = .ok (.aload_n 0, 1) := by decide +kernel
theorem dX4_rowOf_12 : decode cX4_rowOf 12 = .ok (.getfield 18, 3) := by decide +kernel
theorem dX4_rowOf_15 : decode cX4_rowOf 15 = .ok (.areturn, 1) := by decide +kernel
theorem dX4_exchangeRows_0 : decode cX4_exchangeRows 0 = .ok (.aload_n 0, 1) := by decide +kernel
theorem dX4_exchangeRows_1 : decode cX4_exchangeRows 1 = .ok (.getfield 14, 3) := by decide +kernel
theorem dX4_exchangeRows_4 : decode cX4_exchangeRows 4 = .ok (.astore_n 1, 1) := by decide +kernel
theorem dX4_exchangeRows_5 : decode cX4_exchangeRows 5 = .ok (.aload_n 0, 1) := by decide +kernel
theorem dX4_exchangeRows_6 : decode cX4_exchangeRows 6 = .ok (.aload_n 0, 1) := by decide +kernel
theorem dX4_exchangeRows_7 : decode cX4_exchangeRows 7 = .ok (.getfield 18, 3) := by decide +kernel
theorem dX4_exchangeRows_10 : decode cX4_exchangeRows 10 = .ok (.putfield 14, 3) := by decide +kernel
theorem dX4_exchangeRows_13 : decode cX4_exchangeRows 13 = .ok (.aload_n 0, 1) := by decide +kernel
theorem dX4_exchangeRows_14 : decode cX4_exchangeRows 14 = .ok (.aload_n 1, 1) := by decide +kernel
theorem dX4_exchangeRows_15 : decode cX4_exchangeRows 15 = .ok (.putfield 18, 3) := by decide +kernel
theorem dX4_exchangeRows_18 : decode cX4_exchangeRows 18 = .ok (.return_, 1) := by decide +kernel
set_option maxRecDepth 20000 in
theorem ggX4_checkOf_X3_at : GoodIn wsX4_checkOf wsX3_at := goodIn_r _ [5, 6, 7, 8, 9, 4, 10, 11, 12, 13] (by decide +kernel) (by decide +kernel)
set_option maxRecDepth 20000 in
theorem gX4_checkOf_X3_at : GoodIn wsX4_checkOf (wsV RX4 80 RX3 yX3_at wsX3_at) := goodIn_app (goodIn_of _ (by decide +kernel)) ggX4_checkOf_X3_at
theorem dX4_checkOf_0 : decode cX4_checkOf 0 = .ok (.iconst 0, 1) := by decide +kernel
theorem dX4_checkOf_1 : decode cX4_checkOf 1 = .ok (.istore_n 3, 1) := by decide +kernel
theorem dX4_checkOf_2 : decode cX4_checkOf 2 = .ok (.iconst 0, 1) := by decide +kernel
theorem dX4_checkOf_3 : decode cX4_checkOf 3 = .ok (.istore 4, 2) := by decide +kernel
theorem dX4_checkOf_5 : decode cX4_checkOf 5 = .ok (.iload_n 1, 1) := by decide +kernel
theorem dX4_checkOf_6 : decode cX4_checkOf 6 = .ok (.istore 5, 2) := by decide +kernel
theorem dX4_checkOf_8 : decode cX4_checkOf 8 = .ok (.iload 5, 2) := by decide +kernel
theorem dX4_checkOf_10 : decode cX4_checkOf 10 = .ok (.iload_n 2, 1) := by decide +kernel
theorem dX4_checkOf_11 : decode cX4_checkOf 11 = .ok (.if_icmp .ge 32, 3) := by decide +kernel
theorem dX4_checkOf_14 : decode cX4_checkOf 14 = .ok (.iload_n 3, 1) := by decide +kernel
theorem dX4_checkOf_15 : decode cX4_checkOf 15 = .ok (.aload_n 0, 1) := by decide +kernel
theorem dX4_checkOf_16 : decode cX4_checkOf 16 = .ok (.iload 5, 2) := by decide +kernel
theorem dX4_checkOf_18 : decode cX4_checkOf 18 = .ok (.invokevirtual 80, 3) := by decide +kernel
theorem dX4_checkOf_21 : decode cX4_checkOf 21 = .ok (.iadd, 1) := by decide +kernel
theorem dX4_checkOf_22 : decode cX4_checkOf 22 = .ok (.sipush 251, 3) := by decide +kernel
theorem dX4_checkOf_25 : decode cX4_checkOf 25 = .ok (.irem, 1) := by decide +kernel
theorem dX4_checkOf_26 : decode cX4_checkOf 26 = .ok (.istore_n 3, 1) := by decide +kernel
theorem dX4_checkOf_27 : decode cX4_checkOf 27 = .ok (.iload 4, 2) := by decide +kernel
theorem dX4_checkOf_29 : decode cX4_checkOf 29 = .ok (.iload_n 3, 1) := by decide +kernel
theorem dX4_checkOf_30 : decode cX4_checkOf 30 = .ok (.iadd, 1) := by decide +kernel
theorem dX4_checkOf_31 : decode cX4_checkOf 31 = .ok (.sipush 251, 3) := by decide +kernel
theorem dX4_checkOf_34 : decode cX4_checkOf 34 = .ok (.irem, 1) := by decide +kernel
theorem dX4_checkOf_35 : decode cX4_checkOf 35 = .ok (.istore 4, 2) := by decide +kernel
theorem dX4_checkOf_37 : decode cX4_checkOf 37 = .ok (.iinc 5 1, 3) := by decide +kernel
theorem dX4_checkOf_40 : decode cX4_checkOf 40 = .ok (.goto (-32), 3) := by decide +kernel
theorem dX4_checkOf_43 : decode cX4_checkOf 43 = .ok (.sipush 256, 3) := by decide +kernel
theorem dX4_checkOf_46 : decode cX4_checkOf 46 = .ok (.iload 4, 2) := by decide +kernel
theorem dX4_checkOf_48 : decode cX4_checkOf 48 = .ok (.imul, 1) := by decide +kernel
theorem dX4_checkOf_49 : decode cX4_checkOf 49 = .ok (.iload_n 3, 1) := by decide +kernel
theorem dX4_checkOf_50 : decode cX4_checkOf 50 = .ok (.iadd, 1) := by decide +kernel
theorem dX4_checkOf_51 : decode cX4_checkOf 51 = .ok (.ireturn, 1) := by decide +kernel
set_option maxRecDepth 20000 in
theorem ggX4_bestMatchPlace_X3_count : GoodIn wsX4_bestMatchPlace wsX3_count := goodIn_r _ [6, 7, 38, 39] (by decide +kernel) (by decide +kernel)
set_option maxRecDepth 20000 in
theorem gX4_bestMatchPlace_X3_count : GoodIn wsX4_bestMatchPlace (wsV RX4 70 RX3 yX3_count wsX3_count) := goodIn_app (goodIn_of _ (by decide +kernel)) ggX4_bestMatchPlace_X3_count
set_option maxRecDepth 20000 in
theorem ggX4_bestMatchPlace_X4_rowOf : GoodIn wsX4_bestMatchPlace wsX4_rowOf := goodIn_r _ [12, 1, 13, 31, 32, 33, 34, 35, 36, 37] (by decide +kernel) (by decide +kernel)
set_option maxRecDepth 20000 in
theorem gX4_bestMatchPlace_X4_rowOf : GoodIn wsX4_bestMatchPlace (wsV RX4 56 RX4 yX4_rowOf wsX4_rowOf) := goodIn_app (goodIn_of _ (by decide +kernel)) ggX4_bestMatchPlace_X4_rowOf
set_option maxRecDepth 20000 in
theorem ggX4_bestMatchPlace_X4_commonLength : GoodIn wsX4_bestMatchPlace wsX4_commonLength := goodIn_r _ [17, 13, 18, 19, 20, 21, 2, 3, 4, 5, 6, 7, 22, 23, 24, 25, 26, 27, 28, 29, 30, 31, 32, 33, 34, 35, 36, 37, 38, 39] (by decide +kernel) (by decide +kernel)
set_option maxRecDepth 20000 in
theorem gX4_bestMatchPlace_X4_commonLength : GoodIn wsX4_bestMatchPlace (wsV RX4 109 RX4 yX4_commonLength wsX4_commonLength) := goodIn_app (goodIn_of _ (by decide +kernel)) ggX4_bestMatchPlace_X4_commonLength
theorem dX4_bestMatchPlace_0 : decode cX4_bestMatchPlace 0 = .ok (.iload_n 2, 1) := by decide +kernel
theorem dX4_bestMatchPlace_1 : decode cX4_bestMatchPlace 1 = .ok (.ifCond .ne 13, 3) := by decide +kernel
theorem dX4_bestMatchPlace_4 : decode cX4_bestMatchPlace 4 = .ok (.aload_n 0, 1) := by decide +kernel
theorem dX4_bestMatchPlace_5 : decode cX4_bestMatchPlace 5 = .ok (.getfield 14, 3) := by decide +kernel
theorem dX4_bestMatchPlace_8 : decode cX4_bestMatchPlace 8 = .ok (.invokevirtual 70, 3) := by decide +kernel
theorem dX4_bestMatchPlace_11 : decode cX4_bestMatchPlace 11 = .ok (.goto 4, 3) := by decide +kernel
theorem dX4_bestMatchPlace_14 : decode cX4_bestMatchPlace 14 = .ok (.iload_n 1, 1) := by decide +kernel
theorem dX4_bestMatchPlace_15 : decode cX4_bestMatchPlace 15 = .ok (.istore_n 3, 1) := by decide +kernel
theorem dX4_bestMatchPlace_16 : decode cX4_bestMatchPlace 16 = .ok (.iconst 0, 1) := by decide +kernel
theorem dX4_bestMatchPlace_17 : decode cX4_bestMatchPlace 17 = .ok (.istore 4, 2) := by decide +kernel
theorem dX4_bestMatchPlace_19 : decode cX4_bestMatchPlace 19 = .ok (.iconst (-1), 1) := by decide +kernel
theorem dX4_bestMatchPlace_20 : decode cX4_bestMatchPlace 20 = .ok (.istore 5, 2) := by decide +kernel
theorem dX4_bestMatchPlace_22 : decode cX4_bestMatchPlace 22 = .ok (.iconst 0, 1) := by decide +kernel
theorem dX4_bestMatchPlace_23 : decode cX4_bestMatchPlace 23 = .ok (.istore 6, 2) := by decide +kernel
theorem dX4_bestMatchPlace_25 : decode cX4_bestMatchPlace 25 = .ok (.iload 6, 2) := by decide +kernel
theorem dX4_bestMatchPlace_27 : decode cX4_bestMatchPlace 27 = .ok (.iload_n 3, 1) := by decide +kernel
theorem dX4_bestMatchPlace_28 : decode cX4_bestMatchPlace 28 = .ok (.if_icmp .ge 38, 3) := by decide +kernel
theorem dX4_bestMatchPlace_31 : decode cX4_bestMatchPlace 31 = .ok (.aload_n 0, 1) := by decide +kernel
theorem dX4_bestMatchPlace_32 : decode cX4_bestMatchPlace 32 = .ok (.aload_n 0, 1) := by decide +kernel
theorem dX4_bestMatchPlace_33 : decode cX4_bestMatchPlace 33 = .ok (.iload_n 2, 1) := by decide +kernel
theorem dX4_bestMatchPlace_34 : decode cX4_bestMatchPlace 34 = .ok (.invokevirtual 56, 3) := by decide +kernel
theorem dX4_bestMatchPlace_37 : decode cX4_bestMatchPlace 37 = .ok (.iload 6, 2) := by decide +kernel
theorem dX4_bestMatchPlace_39 : decode cX4_bestMatchPlace 39 = .ok (.iload_n 1, 1) := by decide +kernel
theorem dX4_bestMatchPlace_40 : decode cX4_bestMatchPlace 40 = .ok (.invokevirtual 109, 3) := by decide +kernel
theorem dX4_bestMatchPlace_43 : decode cX4_bestMatchPlace 43 = .ok (.istore 7, 2) := by decide +kernel
theorem dX4_bestMatchPlace_45 : decode cX4_bestMatchPlace 45 = .ok (.iload 7, 2) := by decide +kernel
theorem dX4_bestMatchPlace_47 : decode cX4_bestMatchPlace 47 = .ok (.iload 4, 2) := by decide +kernel
theorem dX4_bestMatchPlace_49 : decode cX4_bestMatchPlace 49 = .ok (.if_icmp .le 11, 3) := by decide +kernel
theorem dX4_bestMatchPlace_52 : decode cX4_bestMatchPlace 52 = .ok (.iload 7, 2) := by decide +kernel
theorem dX4_bestMatchPlace_54 : decode cX4_bestMatchPlace 54 = .ok (.istore 4, 2) := by decide +kernel
theorem dX4_bestMatchPlace_56 : decode cX4_bestMatchPlace 56 = .ok (.iload 6, 2) := by decide +kernel
theorem dX4_bestMatchPlace_58 : decode cX4_bestMatchPlace 58 = .ok (.istore 5, 2) := by decide +kernel
theorem dX4_bestMatchPlace_60 : decode cX4_bestMatchPlace 60 = .ok (.iinc 6 1, 3) := by decide +kernel
theorem dX4_bestMatchPlace_63 : decode cX4_bestMatchPlace 63 = .ok (.goto (-38), 3) := by decide +kernel
theorem dX4_bestMatchPlace_66 : decode cX4_bestMatchPlace 66 = .ok (.iload 5, 2) := by decide +kernel
theorem dX4_bestMatchPlace_68 : decode cX4_bestMatchPlace 68 = .ok (.ireturn, 1) := by decide +kernel
set_option maxRecDepth 20000 in
theorem ggX4_commonLength_X3_count : GoodIn wsX4_commonLength wsX3_count := goodIn_r _ [10, 11, 28, 29] (by decide +kernel) (by decide +kernel)
set_option maxRecDepth 20000 in
theorem gX4_commonLength_X3_count : GoodIn wsX4_commonLength (wsV RX4 70 RX3 yX3_count wsX3_count) := goodIn_app (goodIn_of _ (by decide +kernel)) ggX4_commonLength_X3_count
set_option maxRecDepth 20000 in
theorem ggX4_commonLength_X3_at : GoodIn wsX4_commonLength wsX3_at := goodIn_r _ [15, 16, 17, 18, 19, 9, 20, 11, 28, 29] (by decide +kernel) (by decide +kernel)
set_option maxRecDepth 20000 in
theorem gX4_commonLength_X3_at : GoodIn wsX4_commonLength (wsV RX4 80 RX3 yX3_at wsX3_at) := goodIn_app (goodIn_of _ (by decide +kernel)) ggX4_commonLength_X3_at
theorem dX4_commonLength_0 : decode cX4_commonLength 0 = .ok (.aload_n 1, 1) := by decide +kernel
theorem dX4_commonLength_1 : decode cX4_commonLength 1 = .ok (.invokevirtual 70, 3) := by decide +kernel
theorem dX4_commonLength_4 : decode cX4_commonLength 4 = .ok (.iload_n 2, 1) := by decide +kernel
theorem dX4_commonLength_5 : decode cX4_commonLength 5 = .ok (.isub, 1) := by decide +kernel
theorem dX4_commonLength_6 : decode cX4_commonLength 6 = .ok (.aload_n 0, 1) := by decide +kernel
theorem dX4_commonLength_7 : decode cX4_commonLength 7 = .ok (.getfield 18, 3) := by decide +kernel
theorem dX4_commonLength_10 : decode cX4_commonLength 10 = .ok (.invokevirtual 70, 3) := by decide +kernel
theorem dX4_commonLength_13 : decode cX4_commonLength 13 = .ok (.iload_n 3, 1) := by decide +kernel
theorem dX4_commonLength_14 : decode cX4_commonLength 14 = .ok (.isub, 1) := by decide +kernel
theorem dX4_commonLength_15 : decode cX4_commonLength 15 = .ok (.invokestatic 206, 3) := by decide +kernel
theorem dX4_commonLength_18 : decode cX4_commonLength 18 = .ok (.istore 4, 2) := by decide +kernel
theorem dX4_commonLength_20 : decode cX4_commonLength 20 = .ok (.iconst 0, 1) := by decide +kernel
theorem dX4_commonLength_21 : decode cX4_commonLength 21 = .ok (.istore 5, 2) := by decide +kernel
theorem dX4_commonLength_23 : decode cX4_commonLength 23 = .ok (.iload 5, 2) := by decide +kernel
theorem dX4_commonLength_25 : decode cX4_commonLength 25 = .ok (.iload 4, 2) := by decide +kernel
theorem dX4_commonLength_27 : decode cX4_commonLength 27 = .ok (.if_icmp .ge 31, 3) := by decide +kernel
theorem dX4_commonLength_30 : decode cX4_commonLength 30 = .ok (.aload_n 1, 1) := by decide +kernel
theorem dX4_commonLength_31 : decode cX4_commonLength 31 = .ok (.iload_n 2, 1) := by decide +kernel
theorem dX4_commonLength_32 : decode cX4_commonLength 32 = .ok (.iload 5, 2) := by decide +kernel
theorem dX4_commonLength_34 : decode cX4_commonLength 34 = .ok (.iadd, 1) := by decide +kernel
theorem dX4_commonLength_35 : decode cX4_commonLength 35 = .ok (.invokevirtual 80, 3) := by decide +kernel
theorem dX4_commonLength_38 : decode cX4_commonLength 38 = .ok (.aload_n 0, 1) := by decide +kernel
theorem dX4_commonLength_39 : decode cX4_commonLength 39 = .ok (.getfield 18, 3) := by decide +kernel
theorem dX4_commonLength_42 : decode cX4_commonLength 42 = .ok (.iload_n 3, 1) := by decide +kernel
theorem dX4_commonLength_43 : decode cX4_commonLength 43 = .ok (.iload 5, 2) := by decide +kernel
theorem dX4_commonLength_45 : decode cX4_commonLength 45 = .ok (.iadd, 1) := by decide +kernel
theorem dX4_commonLength_46 : decode cX4_commonLength 46 = .ok (.invokevirtual 80, 3) := by decide +kernel
theorem dX4_commonLength_49 : decode cX4_commonLength 49 = .ok (.if_icmp .ne 9, 3) := by decide +kernel
theorem dX4_commonLength_52 : decode cX4_commonLength 52 = .ok (.iinc 5 1, 3) := by decide +kernel
theorem dX4_commonLength_55 : decode cX4_commonLength 55 = .ok (.goto (-32), 3) := by decide +kernel
theorem dX4_commonLength_58 : decode cX4_commonLength 58 = .ok (.iload 5, 2) := by decide +kernel
theorem dX4_commonLength_60 : decode cX4_commonLength 60 = .ok (.ireturn, 1) := by decide +kernel
set_option maxRecDepth 20000 in
theorem ggX4_isBlockAt_X3_count : GoodIn wsX4_isBlockAt wsX3_count := goodIn_r _ [10, 11, 37, 38] (by decide +kernel) (by decide +kernel)
set_option maxRecDepth 20000 in
theorem gX4_isBlockAt_X3_count : GoodIn wsX4_isBlockAt (wsV RX4 70 RX3 yX3_count wsX3_count) := goodIn_app (goodIn_of _ (by decide +kernel)) ggX4_isBlockAt_X3_count
set_option maxRecDepth 20000 in
theorem ggX4_isBlockAt_X4_commonLength : GoodIn wsX4_isBlockAt wsX4_commonLength := goodIn_r _ [16, 17, 18, 19, 4, 20, 6, 7, 8, 9, 10, 11, 21, 22, 23, 24, 25, 26, 27, 28, 29, 30, 31, 32, 33, 34, 35, 36, 37, 38] (by decide +kernel) (by decide +kernel)
set_option maxRecDepth 20000 in
theorem gX4_isBlockAt_X4_commonLength : GoodIn wsX4_isBlockAt (wsV RX4 109 RX4 yX4_commonLength wsX4_commonLength) := goodIn_app (goodIn_of _ (by decide +kernel)) ggX4_isBlockAt_X4_commonLength
theorem dX4_isBlockAt_0 : decode cX4_isBlockAt 0 = .ok (.iconst 0, 1) := by decide +kernel
theorem dX4_isBlockAt_1 : decode cX4_isBlockAt 1 = .ok (.istore_n 3, 1) := by decide +kernel
theorem dX4_isBlockAt_2 : decode cX4_isBlockAt 2 = .ok (.iload_n 3, 1) := by decide +kernel
theorem dX4_isBlockAt_3 : decode cX4_isBlockAt 3 = .ok (.aload_n 0, 1) := by decide +kernel
theorem dX4_isBlockAt_4 : decode cX4_isBlockAt 4 = .ok (.getfield 14, 3) := by decide +kernel
theorem dX4_isBlockAt_7 : decode cX4_isBlockAt 7 = .ok (.invokevirtual 70, 3) := by decide +kernel
theorem dX4_isBlockAt_10 : decode cX4_isBlockAt 10 = .ok (.iload_n 2, 1) := by decide +kernel
theorem dX4_isBlockAt_11 : decode cX4_isBlockAt 11 = .ok (.isub, 1) := by decide +kernel
theorem dX4_isBlockAt_12 : decode cX4_isBlockAt 12 = .ok (.if_icmp .gt 30, 3) := by decide +kernel
theorem dX4_isBlockAt_15 : decode cX4_isBlockAt 15 = .ok (.aload_n 0, 1) := by decide +kernel
theorem dX4_isBlockAt_16 : decode cX4_isBlockAt 16 = .ok (.aload_n 0, 1) := by decide +kernel
theorem dX4_isBlockAt_17 : decode cX4_isBlockAt 17 = .ok (.getfield 14, 3) := by decide +kernel
theorem dX4_isBlockAt_20 : decode cX4_isBlockAt 20 = .ok (.iload_n 3, 1) := by decide +kernel
theorem dX4_isBlockAt_21 : decode cX4_isBlockAt 21 = .ok (.iload_n 1, 1) := by decide +kernel
theorem dX4_isBlockAt_22 : decode cX4_isBlockAt 22 = .ok (.invokevirtual 109, 3) := by decide +kernel
theorem dX4_isBlockAt_25 : decode cX4_isBlockAt 25 = .ok (.iload_n 2, 1) := by decide +kernel
theorem dX4_isBlockAt_26 : decode cX4_isBlockAt 26 = .ok (.if_icmp .lt 5, 3) := by decide +kernel
theorem dX4_isBlockAt_29 : decode cX4_isBlockAt 29 = .ok (.iconst 1, 1) := by decide +kernel
theorem dX4_isBlockAt_30 : decode cX4_isBlockAt 30 = .ok (.ireturn, 1) := by decide +kernel
theorem dX4_isBlockAt_31 : decode cX4_isBlockAt 31 = .ok (.iload_n 3, 1) := by decide +kernel
theorem dX4_isBlockAt_32 : decode cX4_isBlockAt 32 = .ok (.iload_n 2, 1) := by decide +kernel
theorem dX4_isBlockAt_33 : decode cX4_isBlockAt 33 = .ok (.iconst 1, 1) := by decide +kernel
theorem dX4_isBlockAt_34 : decode cX4_isBlockAt 34 = .ok (.invokestatic 162, 3) := by decide +kernel
theorem dX4_isBlockAt_37 : decode cX4_isBlockAt 37 = .ok (.iadd, 1) := by decide +kernel
theorem dX4_isBlockAt_38 : decode cX4_isBlockAt 38 = .ok (.istore_n 3, 1) := by decide +kernel
theorem dX4_isBlockAt_39 : decode cX4_isBlockAt 39 = .ok (.goto (-37), 3) := by decide +kernel
theorem dX4_isBlockAt_42 : decode cX4_isBlockAt 42 = .ok (.iconst 0, 1) := by decide +kernel
theorem dX4_isBlockAt_43 : decode cX4_isBlockAt 43 = .ok (.ireturn, 1) := by decide +kernel
set_option maxRecDepth 20000 in
theorem ggX4_writeInstruction_X1_kindOf : GoodIn wsX4_writeInstruction wsX1_kindOf := goodIn_r _ [11, 12, 13, 14, 15, 16, 17, 18, 19, 20, 21, 22, 23, 61, 62, 63, 64, 65, 66, 67, 68] (by decide +kernel) (by decide +kernel)
set_option maxRecDepth 20000 in
theorem gX4_writeInstruction_X1_kindOf : GoodIn wsX4_writeInstruction (wsV RX4 134 RX1 yX1_kindOf wsX1_kindOf) := goodIn_app (goodIn_of _ (by decide +kernel)) ggX4_writeInstruction_X1_kindOf
set_option maxRecDepth 20000 in
theorem ggX4_writeInstruction_X1_lengthOf : GoodIn wsX4_writeInstruction wsX1_lengthOf := goodIn_r _ [27, 28, 13, 14, 15, 16, 17, 18, 19, 20, 21, 22, 23, 61, 62, 63, 64, 65, 66, 67, 68] (by decide +kernel) (by decide +kernel)
set_option maxRecDepth 20000 in
theorem gX4_writeInstruction_X1_lengthOf : GoodIn wsX4_writeInstruction (wsV RX4 137 RX1 yX1_lengthOf wsX1_lengthOf) := goodIn_app (goodIn_of _ (by decide +kernel)) ggX4_writeInstruction_X1_lengthOf
set_option maxRecDepth 20000 in
theorem ggX4_writeInstruction_X3_append : GoodIn wsX4_writeInstruction wsX3_append := goodIn_r _ [32, 23, 18, 67, 68] (by decide +kernel) (by decide +kernel)
set_option maxRecDepth 20000 in
theorem gX4_writeInstruction_X3_append : GoodIn wsX4_writeInstruction (wsV RX4 64 RX3 yX3_append wsX3_append) := goodIn_app (goodIn_of _ (by decide +kernel)) ggX4_writeInstruction_X3_append
set_option maxRecDepth 20000 in
theorem ggX4_writeInstruction_X4_writeNumber : GoodIn wsX4_writeInstruction wsX4_writeNumber := goodIn_r _ [37, 2, 29, 30, 31, 16, 32, 23, 18, 54, 55, 56, 57, 58, 59, 60, 67, 68] (by decide +kernel) (by decide +kernel)
set_option maxRecDepth 20000 in
theorem gX4_writeInstruction_X4_writeNumber : GoodIn wsX4_writeInstruction (wsV RX4 209 RX4 yX4_writeNumber wsX4_writeNumber) := goodIn_app (goodIn_of _ (by decide +kernel)) ggX4_writeInstruction_X4_writeNumber
set_option maxRecDepth 20000 in
theorem ggX4_writeInstruction_X1_startOf : GoodIn wsX4_writeInstruction wsX1_startOf := goodIn_r _ [41, 42, 13, 14, 15, 16, 17, 18, 19, 20, 21, 22, 23, 61, 62, 63, 64, 65, 66, 67, 68] (by decide +kernel) (by decide +kernel)
set_option maxRecDepth 20000 in
theorem gX4_writeInstruction_X1_startOf : GoodIn wsX4_writeInstruction (wsV RX4 143 RX1 yX1_startOf wsX1_startOf) := goodIn_app (goodIn_of _ (by decide +kernel)) ggX4_writeInstruction_X1_startOf
set_option maxRecDepth 20000 in
theorem ggX4_writeInstruction_X4_writeTargetBytes : GoodIn wsX4_writeInstruction wsX4_writeTargetBytes := goodIn_r _ [46, 2, 47, 48, 14, 15, 16, 17, 18, 19, 20, 21, 22, 23, 29, 30, 31, 32, 54, 55, 56, 57, 58, 59, 60, 67, 68] (by decide +kernel) (by decide +kernel)
set_option maxRecDepth 20000 in
theorem gX4_writeInstruction_X4_writeTargetBytes : GoodIn wsX4_writeInstruction (wsV RX4 212 RX4 yX4_writeTargetBytes wsX4_writeTargetBytes) := goodIn_app (goodIn_of _ (by decide +kernel)) ggX4_writeInstruction_X4_writeTargetBytes
set_option maxRecDepth 20000 in
theorem ggX4_writeInstruction_X1_operandOf : GoodIn wsX4_writeInstruction wsX1_operandOf := goodIn_r _ [52, 53, 13, 14, 15, 16, 17, 18, 19, 20, 21, 22, 23, 61, 62, 63, 64, 65, 66, 67, 68] (by decide +kernel) (by decide +kernel)
set_option maxRecDepth 20000 in
theorem gX4_writeInstruction_X1_operandOf : GoodIn wsX4_writeInstruction (wsV RX4 140 RX1 yX1_operandOf wsX1_operandOf) := goodIn_app (goodIn_of _ (by decide +kernel)) ggX4_writeInstruction_X1_operandOf
theorem dX4_writeInstruction_0 : decode cX4_writeInstruction 0 = .ok (.aload_n 0, 1) := by decide +kernel
theorem dX4_writeInstruction_1 : decode cX4_writeInstruction 1 = .ok (.getfield 27, 3) := by decide +kernel
theorem dX4_writeInstruction_4 : decode cX4_writeInstruction 4 = .ok (.iload_n 1, 1) := by decide +kernel
theorem dX4_writeInstruction_5 : decode cX4_writeInstruction 5 = .ok (.invokevirtual 134, 3) := by decide +kernel
theorem dX4_writeInstruction_8 : decode cX4_writeInstruction 8 = .ok (.istore_n 2, 1) := by decide +kernel
theorem dX4_writeInstruction_9 : decode cX4_writeInstruction 9 = .ok (.aload_n 0, 1) := by decide +kernel
theorem dX4_writeInstruction_10 : decode cX4_writeInstruction 10 = .ok (.getfield 27, 3) := by decide +kernel
theorem dX4_writeInstruction_13 : decode cX4_writeInstruction 13 = .ok (.iload_n 1, 1) := by decide +kernel
theorem dX4_writeInstruction_14 : decode cX4_writeInstruction 14 = .ok (.invokevirtual 137, 3) := by decide +kernel
theorem dX4_writeInstruction_17 : decode cX4_writeInstruction 17 = .ok (.istore_n 3, 1) := by decide +kernel
theorem dX4_writeInstruction_18 : decode cX4_writeInstruction 18 = .ok (.aload_n 0, 1) := by decide +kernel
theorem dX4_writeInstruction_19 : decode cX4_writeInstruction 19 = .ok (.getfield 21, 3) := by decide +kernel
theorem dX4_writeInstruction_22 : decode cX4_writeInstruction 22 = .ok (.bipush 64, 2) := by decide +kernel
theorem dX4_writeInstruction_24 : decode cX4_writeInstruction 24 = .ok (.iload_n 2, 1) := by decide +kernel
theorem dX4_writeInstruction_25 : decode cX4_writeInstruction 25 = .ok (.imul, 1) := by decide +kernel
theorem dX4_writeInstruction_26 : decode cX4_writeInstruction 26 = .ok (.iload_n 3, 1) := by decide +kernel
theorem dX4_writeInstruction_27 : decode cX4_writeInstruction 27 = .ok (.bipush 63, 2) := by decide +kernel
theorem dX4_writeInstruction_29 : decode cX4_writeInstruction 29 = .ok (.invokestatic 206, 3) := by decide +kernel
theorem dX4_writeInstruction_32 : decode cX4_writeInstruction 32 = .ok (.iadd, 1) := by decide +kernel
theorem dX4_writeInstruction_33 : decode cX4_writeInstruction 33 = .ok (.invokevirtual 64, 3) := by decide +kernel
theorem dX4_writeInstruction_36 : decode cX4_writeInstruction 36 = .ok (.iload_n 3, 1) := by decide +kernel
theorem dX4_writeInstruction_37 : decode cX4_writeInstruction 37 = .ok (.bipush 63, 2) := by decide +kernel
theorem dX4_writeInstruction_39 : decode cX4_writeInstruction 39 = .ok (.if_icmp .lt 11, 3) := by decide +kernel
theorem dX4_writeInstruction_42 : decode cX4_writeInstruction 42 = .ok (.aload_n 0, 1) := by decide +kernel
theorem dX4_writeInstruction_43 : decode cX4_writeInstruction 43 = .ok (.iload_n 3, 1) := by decide +kernel
theorem dX4_writeInstruction_44 : decode cX4_writeInstruction 44 = .ok (.bipush 63, 2) := by decide +kernel
theorem dX4_writeInstruction_46 : decode cX4_writeInstruction 46 = .ok (.isub, 1) := by decide +kernel
theorem dX4_writeInstruction_47 : decode cX4_writeInstruction 47 = .ok (.invokevirtual 209, 3) := by decide +kernel
theorem dX4_writeInstruction_50 : decode cX4_writeInstruction 50 = .ok (.iload_n 2, 1) := by decide +kernel
theorem dX4_writeInstruction_51 : decode cX4_writeInstruction 51 = .ok (.ifCond .ne 19, 3) := by decide +kernel
theorem dX4_writeInstruction_54 : decode cX4_writeInstruction 54 = .ok (.aload_n 0, 1) := by decide +kernel
theorem dX4_writeInstruction_55 : decode cX4_writeInstruction 55 = .ok (.aload_n 0, 1) := by decide +kernel
theorem dX4_writeInstruction_56 : decode cX4_writeInstruction 56 = .ok (.getfield 27, 3) := by decide +kernel
theorem dX4_writeInstruction_59 : decode cX4_writeInstruction 59 = .ok (.iload_n 1, 1) := by decide +kernel
theorem dX4_writeInstruction_60 : decode cX4_writeInstruction 60 = .ok (.invokevirtual 143, 3) := by decide +kernel
theorem dX4_writeInstruction_63 : decode cX4_writeInstruction 63 = .ok (.iload_n 3, 1) := by decide +kernel
theorem dX4_writeInstruction_64 : decode cX4_writeInstruction 64 = .ok (.invokevirtual 212, 3) := by decide +kernel
theorem dX4_writeInstruction_67 : decode cX4_writeInstruction 67 = .ok (.goto 38, 3) := by decide +kernel
theorem dX4_writeInstruction_70 : decode cX4_writeInstruction 70 = .ok (.iload_n 2, 1) := by decide +kernel
theorem dX4_writeInstruction_71 : decode cX4_writeInstruction 71 = .ok (.iconst 3, 1) := by decide +kernel
theorem dX4_writeInstruction_72 : decode cX4_writeInstruction 72 = .ok (.if_icmp .ne 21, 3) := by decide +kernel
theorem dX4_writeInstruction_75 : decode cX4_writeInstruction 75 = .ok (.aload_n 0, 1) := by decide +kernel
theorem dX4_writeInstruction_76 : decode cX4_writeInstruction 76 = .ok (.getfield 21, 3) := by decide +kernel
theorem dX4_writeInstruction_79 : decode cX4_writeInstruction 79 = .ok (.aload_n 0, 1) := by decide +kernel
theorem dX4_writeInstruction_80 : decode cX4_writeInstruction 80 = .ok (.getfield 27, 3) := by decide +kernel
theorem dX4_writeInstruction_83 : decode cX4_writeInstruction 83 = .ok (.iload_n 1, 1) := by decide +kernel
theorem dX4_writeInstruction_84 : decode cX4_writeInstruction 84 = .ok (.invokevirtual 140, 3) := by decide +kernel
theorem dX4_writeInstruction_87 : decode cX4_writeInstruction 87 = .ok (.invokevirtual 64, 3) := by decide +kernel
theorem dX4_writeInstruction_90 : decode cX4_writeInstruction 90 = .ok (.goto 15, 3) := by decide +kernel
theorem dX4_writeInstruction_93 : decode cX4_writeInstruction 93 = .ok (.aload_n 0, 1) := by decide +kernel
theorem dX4_writeInstruction_94 : decode cX4_writeInstruction 94 = .ok (.aload_n 0, 1) := by decide +kernel
theorem dX4_writeInstruction_95 : decode cX4_writeInstruction 95 = .ok (.getfield 27, 3) := by decide +kernel
theorem dX4_writeInstruction_98 : decode cX4_writeInstruction 98 = .ok (.iload_n 1, 1) := by decide +kernel
theorem dX4_writeInstruction_99 : decode cX4_writeInstruction 99 = .ok (.invokevirtual 140, 3) := by decide +kernel
theorem dX4_writeInstruction_102 : decode cX4_writeInstruction 102 = .ok (.invokevirtual 209, 3) := by decide +kernel
theorem dX4_writeInstruction_105 : decode cX4_writeInstruction 105 = .ok (.return_, 1) := by decide +kernel
set_option maxRecDepth 20000 in
theorem ggX4_writeTargetBytes_X3_at : GoodIn wsX4_writeTargetBytes wsX3_at := goodIn_r _ [7, 8, 9, 10, 11, 6, 12, 13, 25, 26] (by decide +kernel) (by decide +kernel)
set_option maxRecDepth 20000 in
theorem gX4_writeTargetBytes_X3_at : GoodIn wsX4_writeTargetBytes (wsV RX4 80 RX3 yX3_at wsX3_at) := goodIn_app (goodIn_of _ (by decide +kernel)) ggX4_writeTargetBytes_X3_at
set_option maxRecDepth 20000 in
theorem ggX4_writeTargetBytes_X3_append : GoodIn wsX4_writeTargetBytes wsX3_append := goodIn_r _ [17, 13, 8, 25, 26] (by decide +kernel) (by decide +kernel)
set_option maxRecDepth 20000 in
theorem gX4_writeTargetBytes_X3_append : GoodIn wsX4_writeTargetBytes (wsV RX4 64 RX3 yX3_append wsX3_append) := goodIn_app (goodIn_of _ (by decide +kernel)) ggX4_writeTargetBytes_X3_append
theorem dX4_writeTargetBytes_0 : decode cX4_writeTargetBytes 0 = .ok (.iconst 0, 1) := by decide +kernel
theorem dX4_writeTargetBytes_1 : decode cX4_writeTargetBytes 1 = .ok (.istore_n 3, 1) := by decide +kernel
theorem dX4_writeTargetBytes_2 : decode cX4_writeTargetBytes 2 = .ok (.iload_n 3, 1) := by decide +kernel
theorem dX4_writeTargetBytes_3 : decode cX4_writeTargetBytes 3 = .ok (.iload_n 2, 1) := by decide +kernel
theorem dX4_writeTargetBytes_4 : decode cX4_writeTargetBytes 4 = .ok (.if_icmp .ge 26, 3) := by decide +kernel
theorem dX4_writeTargetBytes_7 : decode cX4_writeTargetBytes 7 = .ok (.aload_n 0, 1) := by decide +kernel
theorem dX4_writeTargetBytes_8 : decode cX4_writeTargetBytes 8 = .ok (.getfield 21, 3) := by decide +kernel
theorem dX4_writeTargetBytes_11 : decode cX4_writeTargetBytes 11 = .ok (.aload_n 0, 1) := by decide +kernel
theorem dX4_writeTargetBytes_12 : decode cX4_writeTargetBytes 12 = .ok (.getfield 18, 3) := by decide +kernel
theorem dX4_writeTargetBytes_15 : decode cX4_writeTargetBytes 15 = .ok (.iload_n 1, 1) := by decide +kernel
theorem dX4_writeTargetBytes_16 : decode cX4_writeTargetBytes 16 = .ok (.iload_n 3, 1) := by decide +kernel
theorem dX4_writeTargetBytes_17 : decode cX4_writeTargetBytes 17 = .ok (.iadd, 1) := by decide +kernel
theorem dX4_writeTargetBytes_18 : decode cX4_writeTargetBytes 18 = .ok (.invokevirtual 80, 3) := by decide +kernel
theorem dX4_writeTargetBytes_21 : decode cX4_writeTargetBytes 21 = .ok (.invokevirtual 64, 3) := by decide +kernel
theorem dX4_writeTargetBytes_24 : decode cX4_writeTargetBytes 24 = .ok (.iinc 3 1, 3) := by decide +kernel
theorem dX4_writeTargetBytes_27 : decode cX4_writeTargetBytes 27 = .ok (.goto (-25), 3) := by decide +kernel
theorem dX4_writeTargetBytes_30 : decode cX4_writeTargetBytes 30 = .ok (.return_, 1) := by decide +kernel
set_option maxRecDepth 20000 in
theorem ggX4_writeNumber_X3_append : GoodIn wsX4_writeNumber wsX3_append := goodIn_r _ [6, 7, 8, 16, 17] (by decide +kernel) (by decide +kernel)
set_option maxRecDepth 20000 in
theorem gX4_writeNumber_X3_append : GoodIn wsX4_writeNumber (wsV RX4 64 RX3 yX3_append wsX3_append) := goodIn_app (goodIn_of _ (by decide +kernel)) ggX4_writeNumber_X3_append
theorem dX4_writeNumber_0 : decode cX4_writeNumber 0 = .ok (.iload_n 1, 1) := by decide +kernel
theorem dX4_writeNumber_1 : decode cX4_writeNumber 1 = .ok (.sipush 128, 3) := by decide +kernel
theorem dX4_writeNumber_4 : decode cX4_writeNumber 4 = .ok (.if_icmp .ge 14, 3) := by decide +kernel
theorem dX4_writeNumber_7 : decode cX4_writeNumber 7 = .ok (.aload_n 0, 1) := by decide +kernel
theorem dX4_writeNumber_8 : decode cX4_writeNumber 8 = .ok (.getfield 21, 3) := by decide +kernel
theorem dX4_writeNumber_11 : decode cX4_writeNumber 11 = .ok (.iload_n 1, 1) := by decide +kernel
theorem dX4_writeNumber_12 : decode cX4_writeNumber 12 = .ok (.invokevirtual 64, 3) := by decide +kernel
theorem dX4_writeNumber_15 : decode cX4_writeNumber 15 = .ok (.goto 31, 3) := by decide +kernel
theorem dX4_writeNumber_18 : decode cX4_writeNumber 18 = .ok (.aload_n 0, 1) := by decide +kernel
theorem dX4_writeNumber_19 : decode cX4_writeNumber 19 = .ok (.getfield 21, 3) := by decide +kernel
theorem dX4_writeNumber_22 : decode cX4_writeNumber 22 = .ok (.sipush 128, 3) := by decide +kernel
theorem dX4_writeNumber_25 : decode cX4_writeNumber 25 = .ok (.iload_n 1, 1) := by decide +kernel
theorem dX4_writeNumber_26 : decode cX4_writeNumber 26 = .ok (.sipush 128, 3) := by decide +kernel
theorem dX4_writeNumber_29 : decode cX4_writeNumber 29 = .ok (.irem, 1) := by decide +kernel
theorem dX4_writeNumber_30 : decode cX4_writeNumber 30 = .ok (.iadd, 1) := by decide +kernel
theorem dX4_writeNumber_31 : decode cX4_writeNumber 31 = .ok (.invokevirtual 64, 3) := by decide +kernel
theorem dX4_writeNumber_34 : decode cX4_writeNumber 34 = .ok (.aload_n 0, 1) := by decide +kernel
theorem dX4_writeNumber_35 : decode cX4_writeNumber 35 = .ok (.getfield 21, 3) := by decide +kernel
theorem dX4_writeNumber_38 : decode cX4_writeNumber 38 = .ok (.iload_n 1, 1) := by decide +kernel
theorem dX4_writeNumber_39 : decode cX4_writeNumber 39 = .ok (.sipush 128, 3) := by decide +kernel
theorem dX4_writeNumber_42 : decode cX4_writeNumber 42 = .ok (.idiv, 1) := by decide +kernel
theorem dX4_writeNumber_43 : decode cX4_writeNumber 43 = .ok (.invokevirtual 64, 3) := by decide +kernel
theorem dX4_writeNumber_46 : decode cX4_writeNumber 46 = .ok (.return_, 1) := by decide +kernel
theorem dX4_digestStep_0 : decode cX4_digestStep 0 = .ok (.lload_n 0, 1) := by decide +kernel
theorem dX4_digestStep_1 : decode cX4_digestStep 1 = .ok (.ldc2_w 215, 3) := by decide +kernel
theorem dX4_digestStep_4 : decode cX4_digestStep 4 = .ok (.lmul, 1) := by decide +kernel
theorem dX4_digestStep_5 : decode cX4_digestStep 5 = .ok (.iload_n 2, 1) := by decide +kernel
theorem dX4_digestStep_6 : decode cX4_digestStep 6 = .ok (.i2l, 1) := by decide +kernel
theorem dX4_digestStep_7 : decode cX4_digestStep 7 = .ok (.ladd, 1) := by decide +kernel
theorem dX4_digestStep_8 : decode cX4_digestStep 8 = .ok (.lreturn, 1) := by decide +kernel
set_option maxRecDepth 20000 in
theorem ggX4_digestRow_X3_count : GoodIn wsX4_digestRow wsX3_count := goodIn_r _ [5, 6, 21, 22] (by decide +kernel) (by decide +kernel)
set_option maxRecDepth 20000 in
theorem gX4_digestRow_X3_count : GoodIn wsX4_digestRow (wsV RX4 70 RX3 yX3_count wsX3_count) := goodIn_app (goodIn_of _ (by decide +kernel)) ggX4_digestRow_X3_count
set_option maxRecDepth 20000 in
theorem ggX4_digestRow_X4_digestStep : GoodIn wsX4_digestRow wsX4_digestStep := goodIn_r _ [10, 11] (by decide +kernel) (by decide +kernel)
set_option maxRecDepth 20000 in
theorem gX4_digestRow_X4_digestStep : GoodIn wsX4_digestRow (va_wsS RX4 177 yX4_digestStep wsX4_digestStep) := goodIn_app (goodIn_of _ (by decide +kernel)) ggX4_digestRow_X4_digestStep
set_option maxRecDepth 20000 in
theorem ggX4_digestRow_X3_at : GoodIn wsX4_digestRow wsX3_at := goodIn_r _ [15, 16, 17, 18, 19, 4, 20, 6, 21, 22] (by decide +kernel) (by decide +kernel)
set_option maxRecDepth 20000 in
theorem gX4_digestRow_X3_at : GoodIn wsX4_digestRow (wsV RX4 80 RX3 yX3_at wsX3_at) := goodIn_app (goodIn_of _ (by decide +kernel)) ggX4_digestRow_X3_at
theorem dX4_digestRow_0 : decode cX4_digestRow 0 = .ok (.lload_n 0, 1) := by decide +kernel
theorem dX4_digestRow_1 : decode cX4_digestRow 1 = .ok (.aload_n 2, 1) := by decide +kernel
theorem dX4_digestRow_2 : decode cX4_digestRow 2 = .ok (.invokevirtual 70, 3) := by decide +kernel
theorem dX4_digestRow_5 : decode cX4_digestRow 5 = .ok (.invokestatic 177, 3) := by decide +kernel
theorem dX4_digestRow_8 : decode cX4_digestRow 8 = .ok (.lstore_n 3, 1) := by decide +kernel
theorem dX4_digestRow_9 : decode cX4_digestRow 9 = .ok (.iconst 0, 1) := by decide +kernel
theorem dX4_digestRow_10 : decode cX4_digestRow 10 = .ok (.istore 5, 2) := by decide +kernel
theorem dX4_digestRow_12 : decode cX4_digestRow 12 = .ok (.iload 5, 2) := by decide +kernel
theorem dX4_digestRow_14 : decode cX4_digestRow 14 = .ok (.aload_n 2, 1) := by decide +kernel
theorem dX4_digestRow_15 : decode cX4_digestRow 15 = .ok (.invokevirtual 70, 3) := by decide +kernel
theorem dX4_digestRow_18 : decode cX4_digestRow 18 = .ok (.if_icmp .ge 20, 3) := by decide +kernel
theorem dX4_digestRow_21 : decode cX4_digestRow 21 = .ok (.lload_n 3, 1) := by decide +kernel
theorem dX4_digestRow_22 : decode cX4_digestRow 22 = .ok (.aload_n 2, 1) := by decide +kernel
theorem dX4_digestRow_23 : decode cX4_digestRow 23 = .ok (.iload 5, 2) := by decide +kernel
theorem dX4_digestRow_25 : decode cX4_digestRow 25 = .ok (.invokevirtual 80, 3) := by decide +kernel
theorem dX4_digestRow_28 : decode cX4_digestRow 28 = .ok (.invokestatic 177, 3) := by decide +kernel
theorem dX4_digestRow_31 : decode cX4_digestRow 31 = .ok (.lstore_n 3, 1) := by decide +kernel
theorem dX4_digestRow_32 : decode cX4_digestRow 32 = .ok (.iinc 5 1, 3) := by decide +kernel
theorem dX4_digestRow_35 : decode cX4_digestRow 35 = .ok (.goto (-23), 3) := by decide +kernel
theorem dX4_digestRow_38 : decode cX4_digestRow 38 = .ok (.lload_n 3, 1) := by decide +kernel
theorem dX4_digestRow_39 : decode cX4_digestRow 39 = .ok (.lreturn, 1) := by decide +kernel
set_option maxRecDepth 20000 in
theorem ggX4_digestPlan_X1_count : GoodIn wsX4_digestPlan wsX1_count := goodIn_r _ [6, 7, 8, 9, 10, 11, 12, 13, 49, 50, 51, 52, 53, 54, 55, 56] (by decide +kernel) (by decide +kernel)
set_option maxRecDepth 20000 in
theorem gX4_digestPlan_X1_count : GoodIn wsX4_digestPlan (wsV RX4 124 RX1 yX1_count wsX1_count) := goodIn_app (goodIn_of _ (by decide +kernel)) ggX4_digestPlan_X1_count
set_option maxRecDepth 20000 in
theorem ggX4_digestPlan_X4_digestStep : GoodIn wsX4_digestPlan wsX4_digestStep := goodIn_r _ [17, 18] (by decide +kernel) (by decide +kernel)
set_option maxRecDepth 20000 in
theorem gX4_digestPlan_X4_digestStep : GoodIn wsX4_digestPlan (va_wsS RX4 177 yX4_digestStep wsX4_digestStep) := goodIn_app (goodIn_of _ (by decide +kernel)) ggX4_digestPlan_X4_digestStep
set_option maxRecDepth 20000 in
theorem ggX4_digestPlan_X1_kindOf : GoodIn wsX4_digestPlan wsX1_kindOf := goodIn_r _ [22, 7, 23, 24, 25, 11, 26, 27, 28, 29, 30, 31, 13, 49, 50, 51, 52, 53, 54, 55, 56] (by decide +kernel) (by decide +kernel)
set_option maxRecDepth 20000 in
theorem gX4_digestPlan_X1_kindOf : GoodIn wsX4_digestPlan (wsV RX4 134 RX1 yX1_kindOf wsX1_kindOf) := goodIn_app (goodIn_of _ (by decide +kernel)) ggX4_digestPlan_X1_kindOf
set_option maxRecDepth 20000 in
theorem ggX4_digestPlan_X1_lengthOf : GoodIn wsX4_digestPlan wsX1_lengthOf := goodIn_r _ [35, 36, 23, 24, 25, 11, 26, 27, 28, 29, 30, 31, 13, 49, 50, 51, 52, 53, 54, 55, 56] (by decide +kernel) (by decide +kernel)
set_option maxRecDepth 20000 in
theorem gX4_digestPlan_X1_lengthOf : GoodIn wsX4_digestPlan (wsV RX4 137 RX1 yX1_lengthOf wsX1_lengthOf) := goodIn_app (goodIn_of _ (by decide +kernel)) ggX4_digestPlan_X1_lengthOf
set_option maxRecDepth 20000 in
theorem ggX4_digestPlan_X1_operandOf : GoodIn wsX4_digestPlan wsX1_operandOf := goodIn_r _ [40, 41, 23, 24, 25, 11, 26, 27, 28, 29, 30, 31, 13, 49, 50, 51, 52, 53, 54, 55, 56] (by decide +kernel) (by decide +kernel)
set_option maxRecDepth 20000 in
theorem gX4_digestPlan_X1_operandOf : GoodIn wsX4_digestPlan (wsV RX4 140 RX1 yX1_operandOf wsX1_operandOf) := goodIn_app (goodIn_of _ (by decide +kernel)) ggX4_digestPlan_X1_operandOf
theorem dX4_digestPlan_0 : decode cX4_digestPlan 0 = .ok (.lload_n 1, 1) := by decide +kernel
theorem dX4_digestPlan_1 : decode cX4_digestPlan 1 = .ok (.aload_n 0, 1) := by decide +kernel
theorem dX4_digestPlan_2 : decode cX4_digestPlan 2 = .ok (.getfield 27, 3) := by decide +kernel
theorem dX4_digestPlan_5 : decode cX4_digestPlan 5 = .ok (.invokevirtual 124, 3) := by decide +kernel
theorem dX4_digestPlan_8 : decode cX4_digestPlan 8 = .ok (.invokestatic 177, 3) := by decide +kernel
theorem dX4_digestPlan_11 : decode cX4_digestPlan 11 = .ok (.lstore_n 3, 1) := by decide +kernel
theorem dX4_digestPlan_12 : decode cX4_digestPlan 12 = .ok (.iconst 0, 1) := by decide +kernel
theorem dX4_digestPlan_13 : decode cX4_digestPlan 13 = .ok (.istore 5, 2) := by decide +kernel
theorem dX4_digestPlan_15 : decode cX4_digestPlan 15 = .ok (.iload 5, 2) := by decide +kernel
theorem dX4_digestPlan_17 : decode cX4_digestPlan 17 = .ok (.aload_n 0, 1) := by decide +kernel
theorem dX4_digestPlan_18 : decode cX4_digestPlan 18 = .ok (.getfield 27, 3) := by decide +kernel
theorem dX4_digestPlan_21 : decode cX4_digestPlan 21 = .ok (.invokevirtual 124, 3) := by decide +kernel
theorem dX4_digestPlan_24 : decode cX4_digestPlan 24 = .ok (.if_icmp .ge 51, 3) := by decide +kernel
theorem dX4_digestPlan_27 : decode cX4_digestPlan 27 = .ok (.lload_n 3, 1) := by decide +kernel
theorem dX4_digestPlan_28 : decode cX4_digestPlan 28 = .ok (.aload_n 0, 1) := by decide +kernel
theorem dX4_digestPlan_29 : decode cX4_digestPlan 29 = .ok (.getfield 27, 3) := by decide +kernel
theorem dX4_digestPlan_32 : decode cX4_digestPlan 32 = .ok (.iload 5, 2) := by decide +kernel
theorem dX4_digestPlan_34 : decode cX4_digestPlan 34 = .ok (.invokevirtual 134, 3) := by decide +kernel
theorem dX4_digestPlan_37 : decode cX4_digestPlan 37 = .ok (.invokestatic 177, 3) := by decide +kernel
theorem dX4_digestPlan_40 : decode cX4_digestPlan 40 = .ok (.lstore_n 3, 1) := by decide +kernel
theorem dX4_digestPlan_41 : decode cX4_digestPlan 41 = .ok (.lload_n 3, 1) := by decide +kernel
theorem dX4_digestPlan_42 : decode cX4_digestPlan 42 = .ok (.aload_n 0, 1) := by decide +kernel
theorem dX4_digestPlan_43 : decode cX4_digestPlan 43 = .ok (.getfield 27, 3) := by decide +kernel
theorem dX4_digestPlan_46 : decode cX4_digestPlan 46 = .ok (.iload 5, 2) := by decide +kernel
theorem dX4_digestPlan_48 : decode cX4_digestPlan 48 = .ok (.invokevirtual 137, 3) := by decide +kernel
theorem dX4_digestPlan_51 : decode cX4_digestPlan 51 = .ok (.invokestatic 177, 3) := by decide +kernel
theorem dX4_digestPlan_54 : decode cX4_digestPlan 54 = .ok (.lstore_n 3, 1) := by decide +kernel
theorem dX4_digestPlan_55 : decode cX4_digestPlan 55 = .ok (.lload_n 3, 1) := by decide +kernel
theorem dX4_digestPlan_56 : decode cX4_digestPlan 56 = .ok (.aload_n 0, 1) := by decide +kernel
theorem dX4_digestPlan_57 : decode cX4_digestPlan 57 = .ok (.getfield 27, 3) := by decide +kernel
theorem dX4_digestPlan_60 : decode cX4_digestPlan 60 = .ok (.iload 5, 2) := by decide +kernel
theorem dX4_digestPlan_62 : decode cX4_digestPlan 62 = .ok (.invokevirtual 140, 3) := by decide +kernel
theorem dX4_digestPlan_65 : decode cX4_digestPlan 65 = .ok (.invokestatic 177, 3) := by decide +kernel
theorem dX4_digestPlan_68 : decode cX4_digestPlan 68 = .ok (.lstore_n 3, 1) := by decide +kernel
theorem dX4_digestPlan_69 : decode cX4_digestPlan 69 = .ok (.iinc 5 1, 3) := by decide +kernel
theorem dX4_digestPlan_72 : decode cX4_digestPlan 72 = .ok (.goto (-57), 3) := by decide +kernel
theorem dX4_digestPlan_75 : decode cX4_digestPlan 75 = .ok (.lload_n 3, 1) := by decide +kernel
theorem dX4_digestPlan_76 : decode cX4_digestPlan 76 = .ok (.lreturn, 1) := by decide +kernel
