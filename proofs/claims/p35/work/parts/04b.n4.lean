set_option maxRecDepth 20000 in
theorem ggX4_init_X3_init : GoodIn wsX4_init wsX3_init := goodIn_r _ [25, 26, 2, 3, 27, 28, 29, 30, 31, 32, 33, 72, 73] (by decide +kernel) (by decide +kernel)
set_option maxRecDepth 20000 in
theorem gX4_init_X3_init : GoodIn wsX4_init (wsX3_init) := ggX4_init_X3_init
set_option maxRecDepth 20000 in
theorem ggX4_init_X1_init : GoodIn wsX4_init wsX1_init := goodIn_r _ [36, 37, 2, 3, 38, 5, 6, 39, 40, 41, 42, 43, 44, 45, 24, 25, 26, 27, 28, 29, 30, 31, 32, 33, 72, 73, 81, 82, 83, 84, 85, 86] (by decide +kernel) (by decide +kernel)
set_option maxRecDepth 20000 in
theorem gX4_init_X1_init : GoodIn wsX4_init (wsX1_init) := ggX4_init_X1_init
set_option maxRecDepth 20000 in
theorem ggX4_init_X2_init : GoodIn wsX4_init wsX2_init := goodIn_r _ [48, 49, 2, 3, 31, 50, 51, 52, 53, 54, 55, 56, 57, 87, 88, 89, 90, 91, 92, 93, 94] (by decide +kernel) (by decide +kernel)
set_option maxRecDepth 20000 in
theorem gX4_init_X2_init : GoodIn wsX4_init (wsX2_init) := ggX4_init_X2_init
set_option maxRecDepth 20000 in
theorem ggX4_init_X0_init : GoodIn wsX4_init wsX0_init := goodIn_r _ [60, 61, 2, 3, 62, 5, 6, 63, 64, 65, 66, 67, 68, 69, 70, 71, 24, 25, 26, 27, 28, 29, 30, 31, 32, 33, 72, 73, 95, 96, 97, 98, 99, 100, 101, 102] (by decide +kernel) (by decide +kernel)
set_option maxRecDepth 20000 in
theorem gX4_init_X0_init : GoodIn wsX4_init (wsX0_init) := ggX4_init_X0_init
theorem dX4_init_0 : decode cX4_init 0 = .ok (.aload_n 0, 1) := by decide +kernel
theorem dX4_init_1 : decode cX4_init 1 = .ok (.invokespecial 1, 3) := by decide +kernel
theorem dX4_init_4 : decode cX4_init 4 = .ok (.aload_n 0, 1) := by decide +kernel
theorem dX4_init_5 : decode cX4_init 5 = .ok (.new 7, 3) := by decide +kernel
theorem dX4_init_8 : decode cX4_init 8 = .ok (.dup, 1) := by decide +kernel
theorem dX4_init_9 : decode cX4_init 9 = .ok (.sipush 150, 3) := by decide +kernel
theorem dX4_init_12 : decode cX4_init 12 = .ok (.invokespecial 11, 3) := by decide +kernel
theorem dX4_init_15 : decode cX4_init 15 = .ok (.putfield 14, 3) := by decide +kernel
theorem dX4_init_18 : decode cX4_init 18 = .ok (.aload_n 0, 1) := by decide +kernel
theorem dX4_init_19 : decode cX4_init 19 = .ok (.new 7, 3) := by decide +kernel
theorem dX4_init_22 : decode cX4_init 22 = .ok (.dup, 1) := by decide +kernel
theorem dX4_init_23 : decode cX4_init 23 = .ok (.sipush 150, 3) := by decide +kernel
theorem dX4_init_26 : decode cX4_init 26 = .ok (.invokespecial 11, 3) := by decide +kernel
theorem dX4_init_29 : decode cX4_init 29 = .ok (.putfield 18, 3) := by decide +kernel
theorem dX4_init_32 : decode cX4_init 32 = .ok (.aload_n 0, 1) := by decide +kernel
theorem dX4_init_33 : decode cX4_init 33 = .ok (.new 7, 3) := by decide +kernel
theorem dX4_init_36 : decode cX4_init 36 = .ok (.dup, 1) := by decide +kernel
theorem dX4_init_37 : decode cX4_init 37 = .ok (.sipush 400, 3) := by decide +kernel
theorem dX4_init_40 : decode cX4_init 40 = .ok (.invokespecial 11, 3) := by decide +kernel
theorem dX4_init_43 : decode cX4_init 43 = .ok (.putfield 21, 3) := by decide +kernel
theorem dX4_init_46 : decode cX4_init 46 = .ok (.aload_n 0, 1) := by decide +kernel
theorem dX4_init_47 : decode cX4_init 47 = .ok (.new 24, 3) := by decide +kernel
theorem dX4_init_50 : decode cX4_init 50 = .ok (.dup, 1) := by decide +kernel
theorem dX4_init_51 : decode cX4_init 51 = .ok (.invokespecial 26, 3) := by decide +kernel
theorem dX4_init_54 : decode cX4_init 54 = .ok (.putfield 27, 3) := by decide +kernel
theorem dX4_init_57 : decode cX4_init 57 = .ok (.aload_n 0, 1) := by decide +kernel
theorem dX4_init_58 : decode cX4_init 58 = .ok (.new 31, 3) := by decide +kernel
theorem dX4_init_61 : decode cX4_init 61 = .ok (.dup, 1) := by decide +kernel
theorem dX4_init_62 : decode cX4_init 62 = .ok (.invokespecial 33, 3) := by decide +kernel
theorem dX4_init_65 : decode cX4_init 65 = .ok (.putfield 34, 3) := by decide +kernel
theorem dX4_init_68 : decode cX4_init 68 = .ok (.aload_n 0, 1) := by decide +kernel
theorem dX4_init_69 : decode cX4_init 69 = .ok (.new 38, 3) := by decide +kernel
theorem dX4_init_72 : decode cX4_init 72 = .ok (.dup, 1) := by decide +kernel
theorem dX4_init_73 : decode cX4_init 73 = .ok (.invokespecial 40, 3) := by decide +kernel
theorem dX4_init_76 : decode cX4_init 76 = .ok (.putfield 41, 3) := by decide +kernel
theorem dX4_init_79 : decode cX4_init 79 = .ok (.aload_n 0, 1) := by decide +kernel
theorem dX4_init_80 : decode cX4_init 80 = .ok (.iconst 3, 1) := by decide +kernel
theorem dX4_init_81 : decode cX4_init 81 = .ok (.putfield 45, 3) := by decide +kernel
theorem dX4_init_84 : decode cX4_init 84 = .ok (.return_, 1) := by decide +kernel
set_option maxRecDepth 20000 in
theorem ggX4_fill_X4_needSide : GoodIn wsX4_fill wsX4_needSide := goodIn_ca (goodIn_r _ [5, 6, 7] (by decide +kernel) (by decide +kernel)) (goodIn_sub (fun _ h => List.mem_cons_of_mem _ (List.mem_append_left _ (List.mem_append_left _ (List.mem_append_right _ h)))) (by decide +kernel))
set_option maxRecDepth 20000 in
theorem gX4_fill_X4_needSide : GoodIn wsX4_fill (va_wsS RX4 49 yX4_needSide wsX4_needSide) := goodIn_app (goodIn_of _ (by decide +kernel)) ggX4_fill_X4_needSide
set_option maxRecDepth 20000 in
theorem ggX4_fill_X4_needWithin : GoodIn wsX4_fill wsX4_needWithin := goodIn_ca (goodIn_r _ [10, 11, 12] (by decide +kernel) (by decide +kernel)) (goodIn_sub (fun _ h => List.mem_cons_of_mem _ (List.mem_append_left _ (List.mem_append_right _ h))) (by decide +kernel))
set_option maxRecDepth 20000 in
theorem gX4_fill_X4_needWithin : GoodIn wsX4_fill (va_wsS RX4 52 yX4_needWithin wsX4_needWithin) := goodIn_app (goodIn_of _ (by decide +kernel)) ggX4_fill_X4_needWithin
set_option maxRecDepth 20000 in
theorem ggX4_fill_X4_rowOf : GoodIn wsX4_fill wsX4_rowOf := goodIn_r _ [16, 17, 18, 45, 46, 47, 48, 49, 50, 51] (by decide +kernel) (by decide +kernel)
set_option maxRecDepth 20000 in
theorem gX4_fill_X4_rowOf : GoodIn wsX4_fill (wsV RX4 56 RX4 yX4_rowOf wsX4_rowOf) := goodIn_app (goodIn_of _ (by decide +kernel)) ggX4_fill_X4_rowOf
set_option maxRecDepth 20000 in
theorem ggX4_fill_X4_needRoom : GoodIn wsX4_fill wsX4_needRoom := goodIn_ca (goodIn_r _ [21, 22, 23, 24, 25, 26, 27, 28, 29, 30, 52, 53] (by decide +kernel) (by decide +kernel)) (goodIn_sub (fun _ h => List.mem_cons_of_mem _ (List.mem_append_right _ h)) (by decide +kernel))
set_option maxRecDepth 20000 in
theorem gX4_fill_X4_needRoom : GoodIn wsX4_fill (va_wsS RX4 60 yX4_needRoom wsX4_needRoom) := goodIn_app (goodIn_of _ (by decide +kernel)) ggX4_fill_X4_needRoom
set_option maxRecDepth 20000 in
theorem ggX4_fill_X3_append : GoodIn wsX4_fill wsX3_append := goodIn_r _ [34, 30, 29, 52, 53] (by decide +kernel) (by decide +kernel)
set_option maxRecDepth 20000 in
theorem gX4_fill_X3_append : GoodIn wsX4_fill (wsV RX4 64 RX3 yX3_append wsX3_append) := goodIn_app (goodIn_of _ (by decide +kernel)) ggX4_fill_X3_append
set_option maxRecDepth 20000 in
theorem ggX4_fill_X1_forget : GoodIn wsX4_fill wsX1_forget := goodIn_r _ [39, 40, 54, 55, 56, 57, 58, 59] (by decide +kernel) (by decide +kernel)
set_option maxRecDepth 20000 in
theorem gX4_fill_X1_forget : GoodIn wsX4_fill (wsV RX4 67 RX1 yX1_forget wsX1_forget) := goodIn_app (goodIn_of _ (by decide +kernel)) ggX4_fill_X1_forget
set_option maxRecDepth 20000 in
theorem ggX4_fill_X3_count : GoodIn wsX4_fill wsX3_count := goodIn_r _ [44, 30, 52, 53] (by decide +kernel) (by decide +kernel)
set_option maxRecDepth 20000 in
theorem gX4_fill_X3_count : GoodIn wsX4_fill (wsV RX4 70 RX3 yX3_count wsX3_count) := goodIn_app (goodIn_of _ (by decide +kernel)) ggX4_fill_X3_count
theorem dX4_fill_0 : decode cX4_fill 0 = .ok (.iload_n 1, 1) := by decide +kernel
theorem dX4_fill_1 : decode cX4_fill 1 = .ok (.invokestatic 49, 3) := by decide +kernel
theorem dX4_fill_4 : decode cX4_fill 4 = .ok (.iload_n 2, 1) := by decide +kernel
theorem dX4_fill_5 : decode cX4_fill 5 = .ok (.iconst 0, 1) := by decide +kernel
theorem dX4_fill_6 : decode cX4_fill 6 = .ok (.sipush 255, 3) := by decide +kernel
theorem dX4_fill_9 : decode cX4_fill 9 = .ok (.invokestatic 52, 3) := by decide +kernel
theorem dX4_fill_12 : decode cX4_fill 12 = .ok (.iload_n 3, 1) := by decide +kernel
theorem dX4_fill_13 : decode cX4_fill 13 = .ok (.iconst 1, 1) := by decide +kernel
theorem dX4_fill_14 : decode cX4_fill 14 = .ok (.sipush 150, 3) := by decide +kernel
theorem dX4_fill_17 : decode cX4_fill 17 = .ok (.invokestatic 52, 3) := by decide +kernel
theorem dX4_fill_20 : decode cX4_fill 20 = .ok (.aload_n 0, 1) := by decide +kernel
theorem dX4_fill_21 : decode cX4_fill 21 = .ok (.iload_n 1, 1) := by decide +kernel
theorem dX4_fill_22 : decode cX4_fill 22 = .ok (.invokevirtual 56, 3) := by decide +kernel
theorem dX4_fill_25 : decode cX4_fill 25 = .ok (.astore 4, 2) := by decide +kernel
theorem dX4_fill_27 : decode cX4_fill 27 = .ok (.aload 4, 2) := by decide +kernel
theorem dX4_fill_29 : decode cX4_fill 29 = .ok (.iload_n 3, 1) := by decide +kernel
theorem dX4_fill_30 : decode cX4_fill 30 = .ok (.invokestatic 60, 3) := by decide +kernel
theorem dX4_fill_33 : decode cX4_fill 33 = .ok (.iconst 0, 1) := by decide +kernel
theorem dX4_fill_34 : decode cX4_fill 34 = .ok (.istore 5, 2) := by decide +kernel
theorem dX4_fill_36 : decode cX4_fill 36 = .ok (.iload 5, 2) := by decide +kernel
theorem dX4_fill_38 : decode cX4_fill 38 = .ok (.iload_n 3, 1) := by decide +kernel
theorem dX4_fill_39 : decode cX4_fill 39 = .ok (.if_icmp .ge 15, 3) := by decide +kernel
theorem dX4_fill_42 : decode cX4_fill 42 = .ok (.aload 4, 2) := by decide +kernel
theorem dX4_fill_44 : decode cX4_fill 44 = .ok (.iload_n 2, 1) := by decide +kernel
theorem dX4_fill_45 : decode cX4_fill 45 = .ok (.invokevirtual 64, 3) := by decide +kernel
theorem dX4_fill_48 : decode cX4_fill 48 = .ok (.iinc 5 1, 3) := by decide +kernel
theorem dX4_fill_51 : decode cX4_fill 51 = .ok (.goto (-15), 3) := by decide +kernel
theorem dX4_fill_54 : decode cX4_fill 54 = .ok (.aload_n 0, 1) := by decide +kernel
theorem dX4_fill_55 : decode cX4_fill 55 = .ok (.getfield 27, 3) := by decide +kernel
theorem dX4_fill_58 : decode cX4_fill 58 = .ok (.invokevirtual 67, 3) := by decide +kernel
theorem dX4_fill_61 : decode cX4_fill 61 = .ok (.aload 4, 2) := by decide +kernel
theorem dX4_fill_63 : decode cX4_fill 63 = .ok (.invokevirtual 70, 3) := by decide +kernel
theorem dX4_fill_66 : decode cX4_fill 66 = .ok (.ireturn, 1) := by decide +kernel
set_option maxRecDepth 20000 in
theorem ggX4_setLeast_X4_needWithin : GoodIn wsX4_setLeast wsX4_needWithin := goodIn_ca (goodIn_r _ [6, 7, 8] (by decide +kernel) (by decide +kernel)) (goodIn_sub (fun _ h => List.mem_cons_of_mem _ (List.mem_append_right _ h)) (by decide +kernel))
set_option maxRecDepth 20000 in
theorem gX4_setLeast_X4_needWithin : GoodIn wsX4_setLeast (va_wsS RX4 52 yX4_needWithin wsX4_needWithin) := goodIn_app (goodIn_of _ (by decide +kernel)) ggX4_setLeast_X4_needWithin
set_option maxRecDepth 20000 in
theorem ggX4_setLeast_X1_forget : GoodIn wsX4_setLeast wsX1_forget := goodIn_r _ [13, 14, 22, 23, 24, 25, 26, 27] (by decide +kernel) (by decide +kernel)
set_option maxRecDepth 20000 in
theorem gX4_setLeast_X1_forget : GoodIn wsX4_setLeast (wsV RX4 67 RX1 yX1_forget wsX1_forget) := goodIn_app (goodIn_of _ (by decide +kernel)) ggX4_setLeast_X1_forget
theorem dX4_setLeast_0 : decode cX4_setLeast 0 = .ok (.iload_n 1, 1) := by decide +kernel
theorem dX4_setLeast_1 : decode cX4_setLeast 1 = .ok (.iconst 1, 1) := by decide +kernel
theorem dX4_setLeast_2 : decode cX4_setLeast 2 = .ok (.bipush 20, 2) := by decide +kernel
theorem dX4_setLeast_4 : decode cX4_setLeast 4 = .ok (.invokestatic 52, 3) := by decide +kernel
theorem dX4_setLeast_7 : decode cX4_setLeast 7 = .ok (.aload_n 0, 1) := by decide +kernel
theorem dX4_setLeast_8 : decode cX4_setLeast 8 = .ok (.getfield 45, 3) := by decide +kernel
theorem dX4_setLeast_11 : decode cX4_setLeast 11 = .ok (.istore_n 2, 1) := by decide +kernel
theorem dX4_setLeast_12 : decode cX4_setLeast 12 = .ok (.aload_n 0, 1) := by decide +kernel
theorem dX4_setLeast_13 : decode cX4_setLeast 13 = .ok (.iload_n 1, 1) := by decide +kernel
theorem dX4_setLeast_14 : decode cX4_setLeast 14 = .ok (.putfield 45, 3) := by decide +kernel
theorem dX4_setLeast_17 : decode cX4_setLeast 17 = .ok (.aload_n 0, 1) := by decide +kernel
theorem dX4_setLeast_18 : decode cX4_setLeast 18 = .ok (.getfield 27, 3) := by decide +kernel
theorem dX4_setLeast_21 : decode cX4_setLeast 21 = .ok (.invokevirtual 67, 3) := by decide +kernel
theorem dX4_setLeast_24 : decode cX4_setLeast 24 = .ok (.iload_n 2, 1) := by decide +kernel
theorem dX4_setLeast_25 : decode cX4_setLeast 25 = .ok (.ireturn, 1) := by decide +kernel
set_option maxRecDepth 20000 in
theorem ggX4_plan_X1_isMade : GoodIn wsX4_plan wsX1_isMade := goodIn_r _ [10, 11, 107, 108, 109, 110, 111, 112] (by decide +kernel) (by decide +kernel)
set_option maxRecDepth 20000 in
theorem gX4_plan_X1_isMade : GoodIn wsX4_plan (wsV RX4 116 RX1 yX1_isMade wsX1_isMade) := goodIn_app (goodIn_of _ (by decide +kernel)) ggX4_plan_X1_isMade
set_option maxRecDepth 20000 in
theorem ggX4_plan_X2_makePlan : GoodIn wsX4_plan wsX2_makePlan := goodIn_r _ [16, 17, 18, 19, 20, 21, 22, 23, 24, 25, 26, 27, 28, 29, 30, 31, 32, 33, 34, 35, 36, 37, 38, 39, 40, 41, 42, 43, 44, 45, 46, 15, 47, 48, 49, 50, 51, 52, 53, 54, 55, 56, 57, 58, 59, 60, 61, 62, 63, 64, 65, 66, 67, 68, 69, 70, 71, 72, 73, 74, 75, 76, 9, 77, 78, 79, 80, 81, 82, 11, 83, 84, 85, 86, 87, 88, 89, 90, 91, 92, 93, 94, 113, 114, 115, 116, 117, 118, 119, 120, 121, 122, 107, 108, 109, 110, 111, 112] (by decide +kernel) (by decide +kernel)
set_option maxRecDepth 20000 in
theorem gX4_plan_X2_makePlan : GoodIn wsX4_plan (wsV RX4 120 RX2 yX2_makePlan wsX2_makePlan) := goodIn_app (goodIn_of _ (by decide +kernel)) ggX4_plan_X2_makePlan
set_option maxRecDepth 20000 in
theorem ggX4_plan_X1_count : GoodIn wsX4_plan wsX1_count := goodIn_r _ [98, 78, 99, 27, 28, 29, 30, 31, 107, 108, 109, 110, 111, 112, 121, 122] (by decide +kernel) (by decide +kernel)
set_option maxRecDepth 20000 in
theorem gX4_plan_X1_count : GoodIn wsX4_plan (wsV RX4 124 RX1 yX1_count wsX1_count) := goodIn_app (goodIn_of _ (by decide +kernel)) ggX4_plan_X1_count
theorem dX4_plan_0 : decode cX4_plan 0 = .ok (.aload_n 0, 1) := by decide +kernel
theorem dX4_plan_1 : decode cX4_plan 1 = .ok (.getfield 27, 3) := by decide +kernel
theorem dX4_plan_4 : decode cX4_plan 4 = .ok (.invokevirtual 116, 3) := by decide +kernel
theorem dX4_plan_7 : decode cX4_plan 7 = .ok (.ifCond .ne 26, 3) := by decide +kernel
theorem dX4_plan_10 : decode cX4_plan 10 = .ok (.aload_n 0, 1) := by decide +kernel
theorem dX4_plan_11 : decode cX4_plan 11 = .ok (.getfield 34, 3) := by decide +kernel
theorem dX4_plan_14 : decode cX4_plan 14 = .ok (.aload_n 0, 1) := by decide +kernel
theorem dX4_plan_15 : decode cX4_plan 15 = .ok (.getfield 14, 3) := by decide +kernel
theorem dX4_plan_18 : decode cX4_plan 18 = .ok (.aload_n 0, 1) := by decide +kernel
theorem dX4_plan_19 : decode cX4_plan 19 = .ok (.getfield 18, 3) := by decide +kernel
theorem dX4_plan_22 : decode cX4_plan 22 = .ok (.aload_n 0, 1) := by decide +kernel
theorem dX4_plan_23 : decode cX4_plan 23 = .ok (.getfield 45, 3) := by decide +kernel
theorem dX4_plan_26 : decode cX4_plan 26 = .ok (.aload_n 0, 1) := by decide +kernel
theorem dX4_plan_27 : decode cX4_plan 27 = .ok (.getfield 27, 3) := by decide +kernel
theorem dX4_plan_30 : decode cX4_plan 30 = .ok (.invokevirtual 120, 3) := by decide +kernel
theorem dX4_plan_33 : decode cX4_plan 33 = .ok (.aload_n 0, 1) := by decide +kernel
theorem dX4_plan_34 : decode cX4_plan 34 = .ok (.getfield 27, 3) := by decide +kernel
theorem dX4_plan_37 : decode cX4_plan 37 = .ok (.invokevirtual 124, 3) := by decide +kernel
theorem dX4_plan_40 : decode cX4_plan 40 = .ok (.ireturn, 1) := by decide +kernel
theorem dX4_needSide_0 : decode cX4_needSide 0 = .ok (.iload_n 0, 1) := by decide +kernel
theorem dX4_needSide_1 : decode cX4_needSide 1 = .ok (.ifCond .eq 18, 3) := by decide +kernel
theorem dX4_needSide_4 : decode cX4_needSide 4 = .ok (.iload_n 0, 1) := by decide +kernel
theorem dX4_needSide_5 : decode cX4_needSide 5 = .ok (.iconst 1, 1) := by decide +kernel
theorem dX4_needSide_6 : decode cX4_needSide 6 = .ok (.if_icmp .eq 13, 3) := by decide +kernel
theorem dX4_needSide_9 : decode cX4_needSide 9 = .ok (.new 94, 3) := by decide +kernel
theorem dX4_needSide_12 : decode cX4_needSide 12 = .ok (.dup, 1) := by decide +kernel
theorem dX4_needSide_13 : decode cX4_needSide 13 = .ok (.ldc 185, 2) := by decide +kernel
theorem dX4_needSide_15 : decode cX4_needSide 15 = .ok (.invokespecial 98, 3) := by decide +kernel
theorem dX4_needSide_18 : decode cX4_needSide 18 = .ok (.athrow, 1) := by decide +kernel
theorem dX4_needSide_19 : decode cX4_needSide 19 = .ok (.return_, 1) := by decide +kernel
theorem dX4_needWithin_0 : decode cX4_needWithin 0 = .ok (.iload_n 0, 1) := by decide +kernel
theorem dX4_needWithin_1 : decode cX4_needWithin 1 = .ok (.iload_n 1, 1) := by decide +kernel
theorem dX4_needWithin_2 : decode cX4_needWithin 2 = .ok (.if_icmp .lt 8, 3) := by decide +kernel
theorem dX4_needWithin_5 : decode cX4_needWithin 5 = .ok (.iload_n 0, 1) := by decide +kernel
theorem dX4_needWithin_6 : decode cX4_needWithin 6 = .ok (.iload_n 2, 1) := by decide +kernel
theorem dX4_needWithin_7 : decode cX4_needWithin 7 = .ok (.if_icmp .le 13, 3) := by decide +kernel
theorem dX4_needWithin_10 : decode cX4_needWithin 10 = .ok (.new 187, 3) := by decide +kernel
theorem dX4_needWithin_13 : decode cX4_needWithin 13 = .ok (.dup, 1) := by decide +kernel
theorem dX4_needWithin_14 : decode cX4_needWithin 14 = .ok (.ldc 189, 2) := by decide +kernel
theorem dX4_needWithin_16 : decode cX4_needWithin 16 = .ok (.invokespecial 191, 3) := by decide +kernel
theorem dX4_needWithin_19 : decode cX4_needWithin 19 = .ok (.athrow, 1) := by decide +kernel
theorem dX4_needWithin_20 : decode cX4_needWithin 20 = .ok (.return_, 1) := by decide +kernel
set_option maxRecDepth 20000 in
theorem ggX4_needRoom_X3_hasRoom : GoodIn wsX4_needRoom wsX3_hasRoom := goodIn_r _ [7, 8, 9, 10, 11] (by decide +kernel) (by decide +kernel)
set_option maxRecDepth 20000 in
theorem gX4_needRoom_X3_hasRoom : GoodIn wsX4_needRoom (wsV RX4 194 RX3 yX3_hasRoom wsX3_hasRoom) := goodIn_app (goodIn_of _ (by decide +kernel)) ggX4_needRoom_X3_hasRoom
theorem dX4_needRoom_0 : decode cX4_needRoom 0 = .ok (.aload_n 0, 1) := by decide +kernel
theorem dX4_needRoom_1 : decode cX4_needRoom 1 = .ok (.iload_n 1, 1) := by decide +kernel
theorem dX4_needRoom_2 : decode cX4_needRoom 2 = .ok (.invokevirtual 194, 3) := by decide +kernel
theorem dX4_needRoom_5 : decode cX4_needRoom 5 = .ok (.ifCond .ne 13, 3) := by decide +kernel
theorem dX4_needRoom_18 : decode cX4_needRoom 18 = .ok (.return_, 1) := by decide +kernel
theorem dX4_rowOf_0 : decode cX4_rowOf 0 = .ok (.iload_n 1, 1) := by decide +kernel
theorem dX4_rowOf_1 : decode cX4_rowOf 1 = .ok (.ifCond .ne 10, 3) := by decide +kernel
theorem dX4_rowOf_11 : decode cX4_rowOf 11 = .ok (.aload_n 0, 1) := by decide +kernel
theorem dX4_rowOf_12 : decode cX4_rowOf 12 = .ok (.getfield 18, 3) := by decide +kernel
theorem dX4_rowOf_15 : decode cX4_rowOf 15 = .ok (.areturn, 1) := by decide +kernel
