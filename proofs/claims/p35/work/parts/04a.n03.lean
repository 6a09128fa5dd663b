set_option maxRecDepth 20000 in
theorem ggX0_init_X3_init : GoodIn wsX0_init wsX3_init := goodIn_r _ [17, 18, 2, 3, 19, 20, 21, 22, 23, 24, 25, 26, 27] (by decide +kernel) (by decide +kernel)
set_option maxRecDepth 20000 in
theorem gX0_init_X3_init : GoodIn wsX0_init (wsX3_init) := ggX0_init_X3_init
theorem dX0_init_0 : decode cX0_init 0 = .ok (.aload_n 0, 1) := by decide +kernel
theorem dX0_init_1 : decode cX0_init 1 = .ok (.invokespecial 3, 3) := by decide +kernel
theorem dX0_init_4 : decode cX0_init 4 = .ok (.aload_n 0, 1) := by decide +kernel
theorem dX0_init_5 : decode cX0_init 5 = .ok (.new 9, 3) := by decide +kernel
theorem dX0_init_8 : decode cX0_init 8 = .ok (.dup, 1) := by decide +kernel
theorem dX0_init_9 : decode cX0_init 9 = .ok (.sipush 300, 3) := by decide +kernel
theorem dX0_init_12 : decode cX0_init 12 = .ok (.invokespecial 11, 3) := by decide +kernel
theorem dX0_init_15 : decode cX0_init 15 = .ok (.putfield 14, 3) := by decide +kernel
theorem dX0_init_18 : decode cX0_init 18 = .ok (.aload_n 0, 1) := by decide +kernel
theorem dX0_init_19 : decode cX0_init 19 = .ok (.iconst 0, 1) := by decide +kernel
theorem dX0_init_20 : decode cX0_init 20 = .ok (.putfield 20, 3) := by decide +kernel
theorem dX0_init_23 : decode cX0_init 23 = .ok (.aload_n 0, 1) := by decide +kernel
theorem dX0_init_24 : decode cX0_init 24 = .ok (.iconst 0, 1) := by decide +kernel
theorem dX0_init_25 : decode cX0_init 25 = .ok (.putfield 24, 3) := by decide +kernel
theorem dX0_init_28 : decode cX0_init 28 = .ok (.aload_n 0, 1) := by decide +kernel
theorem dX0_init_29 : decode cX0_init 29 = .ok (.iconst 0, 1) := by decide +kernel
theorem dX0_init_30 : decode cX0_init 30 = .ok (.putfield 27, 3) := by decide +kernel
theorem dX0_init_33 : decode cX0_init 33 = .ok (.aload_n 0, 1) := by decide +kernel
theorem dX0_init_34 : decode cX0_init 34 = .ok (.iconst (-1), 1) := by decide +kernel
theorem dX0_init_35 : decode cX0_init 35 = .ok (.putfield 30, 3) := by decide +kernel
theorem dX0_init_38 : decode cX0_init 38 = .ok (.aload_n 0, 1) := by decide +kernel
theorem dX0_init_39 : decode cX0_init 39 = .ok (.iconst 0, 1) := by decide +kernel
theorem dX0_init_40 : decode cX0_init 40 = .ok (.putfield 33, 3) := by decide +kernel
theorem dX0_init_43 : decode cX0_init 43 = .ok (.aload_n 0, 1) := by decide +kernel
theorem dX0_init_44 : decode cX0_init 44 = .ok (.iconst 0, 1) := by decide +kernel
theorem dX0_init_45 : decode cX0_init 45 = .ok (.putfield 36, 3) := by decide +kernel
theorem dX0_init_48 : decode cX0_init 48 = .ok (.aload_n 0, 1) := by decide +kernel
theorem dX0_init_49 : decode cX0_init 49 = .ok (.iconst 0, 1) := by decide +kernel
theorem dX0_init_50 : decode cX0_init 50 = .ok (.putfield 39, 3) := by decide +kernel
theorem dX0_init_53 : decode cX0_init 53 = .ok (.return_, 1) := by decide +kernel
set_option maxRecDepth 20000 in
theorem ggX1_init_X3_init : GoodIn wsX1_init wsX3_init := goodIn_r _ [15, 16, 2, 3, 17, 18, 19, 20, 21, 22, 23, 24, 25] (by decide +kernel) (by decide +kernel)
set_option maxRecDepth 20000 in
theorem gX1_init_X3_init : GoodIn wsX1_init (wsX3_init) := ggX1_init_X3_init
theorem dX1_init_0 : decode cX1_init 0 = .ok (.aload_n 0, 1) := by decide +kernel
theorem dX1_init_1 : decode cX1_init 1 = .ok (.invokespecial 3, 3) := by decide +kernel
theorem dX1_init_4 : decode cX1_init 4 = .ok (.aload_n 0, 1) := by decide +kernel
theorem dX1_init_5 : decode cX1_init 5 = .ok (.new 9, 3) := by decide +kernel
theorem dX1_init_8 : decode cX1_init 8 = .ok (.dup, 1) := by decide +kernel
theorem dX1_init_9 : decode cX1_init 9 = .ok (.sipush 150, 3) := by decide +kernel
theorem dX1_init_12 : decode cX1_init 12 = .ok (.invokespecial 11, 3) := by decide +kernel
theorem dX1_init_15 : decode cX1_init 15 = .ok (.putfield 14, 3) := by decide +kernel
theorem dX1_init_18 : decode cX1_init 18 = .ok (.aload_n 0, 1) := by decide +kernel
theorem dX1_init_19 : decode cX1_init 19 = .ok (.new 9, 3) := by decide +kernel
theorem dX1_init_22 : decode cX1_init 22 = .ok (.dup, 1) := by decide +kernel
theorem dX1_init_23 : decode cX1_init 23 = .ok (.sipush 150, 3) := by decide +kernel
theorem dX1_init_26 : decode cX1_init 26 = .ok (.invokespecial 11, 3) := by decide +kernel
theorem dX1_init_29 : decode cX1_init 29 = .ok (.putfield 20, 3) := by decide +kernel
theorem dX1_init_32 : decode cX1_init 32 = .ok (.aload_n 0, 1) := by decide +kernel
theorem dX1_init_33 : decode cX1_init 33 = .ok (.new 9, 3) := by decide +kernel
theorem dX1_init_36 : decode cX1_init 36 = .ok (.dup, 1) := by decide +kernel
theorem dX1_init_37 : decode cX1_init 37 = .ok (.sipush 150, 3) := by decide +kernel
theorem dX1_init_40 : decode cX1_init 40 = .ok (.invokespecial 11, 3) := by decide +kernel
theorem dX1_init_43 : decode cX1_init 43 = .ok (.putfield 23, 3) := by decide +kernel
theorem dX1_init_46 : decode cX1_init 46 = .ok (.aload_n 0, 1) := by decide +kernel
theorem dX1_init_47 : decode cX1_init 47 = .ok (.new 9, 3) := by decide +kernel
theorem dX1_init_50 : decode cX1_init 50 = .ok (.dup, 1) := by decide +kernel
theorem dX1_init_51 : decode cX1_init 51 = .ok (.sipush 150, 3) := by decide +kernel
theorem dX1_init_54 : decode cX1_init 54 = .ok (.invokespecial 11, 3) := by decide +kernel
theorem dX1_init_57 : decode cX1_init 57 = .ok (.putfield 26, 3) := by decide +kernel
theorem dX1_init_60 : decode cX1_init 60 = .ok (.aload_n 0, 1) := by decide +kernel
theorem dX1_init_61 : decode cX1_init 61 = .ok (.iconst 0, 1) := by decide +kernel
theorem dX1_init_62 : decode cX1_init 62 = .ok (.putfield 29, 3) := by decide +kernel
theorem dX1_init_65 : decode cX1_init 65 = .ok (.aload_n 0, 1) := by decide +kernel
theorem dX1_init_66 : decode cX1_init 66 = .ok (.iconst 0, 1) := by decide +kernel
theorem dX1_init_67 : decode cX1_init 67 = .ok (.putfield 33, 3) := by decide +kernel
theorem dX1_init_70 : decode cX1_init 70 = .ok (.return_, 1) := by decide +kernel
set_option maxRecDepth 20000 in
theorem ggX1_begin_X3_clear : GoodIn wsX1_begin wsX3_clear := goodIn_r _ [11, 12, 19, 20] (by decide +kernel) (by decide +kernel)
set_option maxRecDepth 20000 in
theorem gX1_begin_X3_clear : GoodIn wsX1_begin (wsV RX1 37 RX3 yX3_clear wsX3_clear) := goodIn_app (goodIn_of _ (by decide +kernel)) ggX1_begin_X3_clear
theorem dX1_begin_0 : decode cX1_begin 0 = .ok (.aload_n 0, 1) := by decide +kernel
theorem dX1_begin_1 : decode cX1_begin 1 = .ok (.getfield 14, 3) := by decide +kernel
theorem dX1_begin_4 : decode cX1_begin 4 = .ok (.invokevirtual 37, 3) := by decide +kernel
theorem dX1_begin_7 : decode cX1_begin 7 = .ok (.aload_n 0, 1) := by decide +kernel
theorem dX1_begin_8 : decode cX1_begin 8 = .ok (.getfield 20, 3) := by decide +kernel
theorem dX1_begin_11 : decode cX1_begin 11 = .ok (.invokevirtual 37, 3) := by decide +kernel
theorem dX1_begin_14 : decode cX1_begin 14 = .ok (.aload_n 0, 1) := by decide +kernel
theorem dX1_begin_15 : decode cX1_begin 15 = .ok (.getfield 23, 3) := by decide +kernel
theorem dX1_begin_18 : decode cX1_begin 18 = .ok (.invokevirtual 37, 3) := by decide +kernel
theorem dX1_begin_21 : decode cX1_begin 21 = .ok (.aload_n 0, 1) := by decide +kernel
theorem dX1_begin_22 : decode cX1_begin 22 = .ok (.getfield 26, 3) := by decide +kernel
theorem dX1_begin_25 : decode cX1_begin 25 = .ok (.invokevirtual 37, 3) := by decide +kernel
theorem dX1_begin_28 : decode cX1_begin 28 = .ok (.aload_n 0, 1) := by decide +kernel
theorem dX1_begin_29 : decode cX1_begin 29 = .ok (.iload_n 1, 1) := by decide +kernel
theorem dX1_begin_30 : decode cX1_begin 30 = .ok (.putfield 29, 3) := by decide +kernel
theorem dX1_begin_33 : decode cX1_begin 33 = .ok (.aload_n 0, 1) := by decide +kernel
theorem dX1_begin_34 : decode cX1_begin 34 = .ok (.iconst 1, 1) := by decide +kernel
theorem dX1_begin_35 : decode cX1_begin 35 = .ok (.putfield 33, 3) := by decide +kernel
theorem dX1_begin_38 : decode cX1_begin 38 = .ok (.return_, 1) := by decide +kernel
set_option maxRecDepth 20000 in
theorem ggX1_add_X3_append : GoodIn wsX1_add wsX3_append := goodIn_r _ [9, 10, 11, 18, 19] (by decide +kernel) (by decide +kernel)
set_option maxRecDepth 20000 in
theorem gX1_add_X3_append : GoodIn wsX1_add (wsV RX1 40 RX3 yX3_append wsX3_append) := goodIn_app (goodIn_of _ (by decide +kernel)) ggX1_add_X3_append
theorem dX1_add_0 : decode cX1_add 0 = .ok (.aload_n 0, 1) := by decide +kernel
theorem dX1_add_1 : decode cX1_add 1 = .ok (.getfield 14, 3) := by decide +kernel
theorem dX1_add_4 : decode cX1_add 4 = .ok (.iload_n 1, 1) := by decide +kernel
theorem dX1_add_5 : decode cX1_add 5 = .ok (.invokevirtual 40, 3) := by decide +kernel
theorem dX1_add_8 : decode cX1_add 8 = .ok (.aload_n 0, 1) := by decide +kernel
theorem dX1_add_9 : decode cX1_add 9 = .ok (.getfield 20, 3) := by decide +kernel
theorem dX1_add_12 : decode cX1_add 12 = .ok (.iload_n 2, 1) := by decide +kernel
theorem dX1_add_13 : decode cX1_add 13 = .ok (.invokevirtual 40, 3) := by decide +kernel
theorem dX1_add_16 : decode cX1_add 16 = .ok (.aload_n 0, 1) := by decide +kernel
theorem dX1_add_17 : decode cX1_add 17 = .ok (.getfield 23, 3) := by decide +kernel
theorem dX1_add_20 : decode cX1_add 20 = .ok (.iload_n 3, 1) := by decide +kernel
theorem dX1_add_21 : decode cX1_add 21 = .ok (.invokevirtual 40, 3) := by decide +kernel
theorem dX1_add_24 : decode cX1_add 24 = .ok (.aload_n 0, 1) := by decide +kernel
theorem dX1_add_25 : decode cX1_add 25 = .ok (.getfield 26, 3) := by decide +kernel
theorem dX1_add_28 : decode cX1_add 28 = .ok (.iload 4, 2) := by decide +kernel
theorem dX1_add_30 : decode cX1_add 30 = .ok (.invokevirtual 40, 3) := by decide +kernel
theorem dX1_add_33 : decode cX1_add 33 = .ok (.return_, 1) := by decide +kernel
theorem dX1_forget_0 : decode cX1_forget 0 = .ok (.aload_n 0, 1) := by decide +kernel
theorem dX1_forget_1 : decode cX1_forget 1 = .ok (.iconst 0, 1) := by decide +kernel
theorem dX1_forget_2 : decode cX1_forget 2 = .ok (.putfield 33, 3) := by decide +kernel
theorem dX1_forget_5 : decode cX1_forget 5 = .ok (.return_, 1) := by decide +kernel
theorem dX1_isMade_0 : decode cX1_isMade 0 = .ok (.aload_n 0, 1) := by decide +kernel
theorem dX1_isMade_1 : decode cX1_isMade 1 = .ok (.getfield 33, 3) := by decide +kernel
theorem dX1_isMade_4 : decode cX1_isMade 4 = .ok (.ireturn, 1) := by decide +kernel
set_option maxRecDepth 20000 in
theorem ggX1_count_X3_count : GoodIn wsX1_count wsX3_count := goodIn_r _ [6, 7, 14, 15] (by decide +kernel) (by decide +kernel)
set_option maxRecDepth 20000 in
theorem gX1_count_X3_count : GoodIn wsX1_count (wsV RX1 43 RX3 yX3_count wsX3_count) := goodIn_app (goodIn_of _ (by decide +kernel)) ggX1_count_X3_count
theorem dX1_count_0 : decode cX1_count 0 = .ok (.aload_n 0, 1) := by decide +kernel
theorem dX1_count_1 : decode cX1_count 1 = .ok (.getfield 14, 3) := by decide +kernel
theorem dX1_count_4 : decode cX1_count 4 = .ok (.invokevirtual 43, 3) := by decide +kernel
theorem dX1_count_7 : decode cX1_count 7 = .ok (.ireturn, 1) := by decide +kernel
theorem dX2_init_0 : decode cX2_init 0 = .ok (.aload_n 0, 1) := by decide +kernel
theorem dX2_init_1 : decode cX2_init 1 = .ok (.invokespecial 3, 3) := by decide +kernel
theorem dX2_init_4 : decode cX2_init 4 = .ok (.aload_n 0, 1) := by decide +kernel
theorem dX2_init_5 : decode cX2_init 5 = .ok (.sipush 151, 3) := by decide +kernel
theorem dX2_init_8 : decode cX2_init 8 = .ok (.newarray .int, 2) := by decide +kernel
theorem dX2_init_10 : decode cX2_init 10 = .ok (.putfield 11, 3) := by decide +kernel
theorem dX2_init_13 : decode cX2_init 13 = .ok (.aload_n 0, 1) := by decide +kernel
theorem dX2_init_14 : decode cX2_init 14 = .ok (.sipush 151, 3) := by decide +kernel
theorem dX2_init_17 : decode cX2_init 17 = .ok (.newarray .int, 2) := by decide +kernel
theorem dX2_init_19 : decode cX2_init 19 = .ok (.putfield 15, 3) := by decide +kernel
theorem dX2_init_22 : decode cX2_init 22 = .ok (.aload_n 0, 1) := by decide +kernel
theorem dX2_init_23 : decode cX2_init 23 = .ok (.sipush 151, 3) := by decide +kernel
theorem dX2_init_26 : decode cX2_init 26 = .ok (.newarray .int, 2) := by decide +kernel
theorem dX2_init_28 : decode cX2_init 28 = .ok (.putfield 18, 3) := by decide +kernel
theorem dX2_init_31 : decode cX2_init 31 = .ok (.aload_n 0, 1) := by decide +kernel
theorem dX2_init_32 : decode cX2_init 32 = .ok (.sipush 151, 3) := by decide +kernel
theorem dX2_init_35 : decode cX2_init 35 = .ok (.newarray .int, 2) := by decide +kernel
theorem dX2_init_37 : decode cX2_init 37 = .ok (.putfield 21, 3) := by decide +kernel
theorem dX2_init_40 : decode cX2_init 40 = .ok (.aload_n 0, 1) := by decide +kernel
theorem dX2_init_41 : decode cX2_init 41 = .ok (.sipush 151, 3) := by decide +kernel
theorem dX2_init_44 : decode cX2_init 44 = .ok (.newarray .int, 2) := by decide +kernel
theorem dX2_init_46 : decode cX2_init 46 = .ok (.putfield 24, 3) := by decide +kernel
theorem dX2_init_49 : decode cX2_init 49 = .ok (.aload_n 0, 1) := by decide +kernel
theorem dX2_init_50 : decode cX2_init 50 = .ok (.sipush 151, 3) := by decide +kernel
theorem dX2_init_53 : decode cX2_init 53 = .ok (.newarray .int, 2) := by decide +kernel
theorem dX2_init_55 : decode cX2_init 55 = .ok (.putfield 27, 3) := by decide +kernel
theorem dX2_init_58 : decode cX2_init 58 = .ok (.aload_n 0, 1) := by decide +kernel
theorem dX2_init_59 : decode cX2_init 59 = .ok (.sipush 151, 3) := by decide +kernel
theorem dX2_init_62 : decode cX2_init 62 = .ok (.newarray .int, 2) := by decide +kernel
theorem dX2_init_64 : decode cX2_init 64 = .ok (.putfield 30, 3) := by decide +kernel
theorem dX2_init_67 : decode cX2_init 67 = .ok (.aload_n 0, 1) := by decide +kernel
theorem dX2_init_68 : decode cX2_init 68 = .ok (.sipush 151, 3) := by decide +kernel
theorem dX2_init_71 : decode cX2_init 71 = .ok (.newarray .int, 2) := by decide +kernel
theorem dX2_init_73 : decode cX2_init 73 = .ok (.putfield 33, 3) := by decide +kernel
theorem dX2_init_76 : decode cX2_init 76 = .ok (.return_, 1) := by decide +kernel
set_option maxRecDepth 20000 in
theorem ggX2_makePlan_X3_count : GoodIn wsX2_makePlan wsX3_count := goodIn_r _ [14, 15, 90, 91] (by decide +kernel) (by decide +kernel)
set_option maxRecDepth 20000 in
theorem gX2_makePlan_X3_count : GoodIn wsX2_makePlan (wsV RX2 36 RX3 yX3_count wsX3_count) := goodIn_app (goodIn_of _ (by decide +kernel)) ggX2_makePlan_X3_count
set_option maxRecDepth 20000 in
theorem ggX2_makePlan_J7_fill_53178 : GoodIn wsX2_makePlan wsJ7_fill_53178 := goodIn_r _ [19] (by decide +kernel) (by decide +kernel)
set_option maxRecDepth 20000 in
theorem gX2_makePlan_J7_fill_53178 : GoodIn wsX2_makePlan (va_wsS RX2 48 yJ7_fill_53178 wsJ7_fill_53178) := goodIn_app (goodIn_of _ (by decide +kernel)) ggX2_makePlan_J7_fill_53178
set_option maxRecDepth 20000 in
theorem ggX2_makePlan_X3_at : GoodIn wsX2_makePlan wsX3_at := goodIn_r _ [23, 24, 25, 26, 27, 13, 28, 15, 90, 91] (by decide +kernel) (by decide +kernel)
set_option maxRecDepth 20000 in
theorem gX2_makePlan_X3_at : GoodIn wsX2_makePlan (wsV RX2 54 RX3 yX3_at wsX3_at) := goodIn_app (goodIn_of _ (by decide +kernel)) ggX2_makePlan_X3_at
set_option maxRecDepth 20000 in
theorem ggX2_makePlan_X2_lengthenCommon : GoodIn wsX2_makePlan wsX2_lengthenCommon := goodIn_r _ [32, 20, 21, 22, 13, 23, 24, 25, 26, 27, 28, 15, 90, 91] (by decide +kernel) (by decide +kernel)
set_option maxRecDepth 20000 in
theorem gX2_makePlan_X2_lengthenCommon : GoodIn wsX2_makePlan (va_wsS RX2 58 yX2_lengthenCommon wsX2_lengthenCommon) := goodIn_app (goodIn_of _ (by decide +kernel)) ggX2_makePlan_X2_lengthenCommon
set_option maxRecDepth 20000 in
theorem ggX2_makePlan_X2_offerLengths : GoodIn wsX2_makePlan wsX2_offerLengths := goodIn_r _ [36, 37, 38, 39, 31, 40, 7, 8, 41, 42, 43, 44, 45, 46, 47, 48, 49, 82, 83, 84, 85, 86, 87, 88, 89] (by decide +kernel) (by decide +kernel)
set_option maxRecDepth 20000 in
theorem gX2_makePlan_X2_offerLengths : GoodIn wsX2_makePlan (wsV RX2 63 RX2 yX2_offerLengths wsX2_offerLengths) := goodIn_app (goodIn_of _ (by decide +kernel)) ggX2_makePlan_X2_offerLengths
set_option maxRecDepth 20000 in
theorem ggX2_makePlan_X2_offerPlaces : GoodIn wsX2_makePlan wsX2_offerPlaces := goodIn_r _ [53, 5, 6, 54, 37, 38, 39, 31, 40, 7, 8, 41, 42, 43, 44, 45, 46, 47, 48, 49, 82, 83, 84, 85, 86, 87, 88, 89] (by decide +kernel) (by decide +kernel)
set_option maxRecDepth 20000 in
theorem gX2_makePlan_X2_offerPlaces : GoodIn wsX2_makePlan (wsV RX2 67 RX2 yX2_offerPlaces wsX2_offerPlaces) := goodIn_app (goodIn_of _ (by decide +kernel)) ggX2_makePlan_X2_offerPlaces
set_option maxRecDepth 20000 in
theorem ggX2_makePlan_X2_listInstructions : GoodIn wsX2_makePlan wsX2_listInstructions := goodIn_r _ [58, 7, 41, 42, 43, 59, 60, 61, 62, 63, 64, 65, 66, 67, 68, 69, 70, 71, 72, 13, 73, 15, 74, 75, 76, 77, 78, 79, 80, 81, 24, 82, 83, 84, 85, 86, 87, 88, 89, 92, 93, 94, 95, 96, 97, 90, 91] (by decide +kernel) (by decide +kernel)
set_option maxRecDepth 20000 in
theorem gX2_makePlan_X2_listInstructions : GoodIn wsX2_makePlan (wsV RX2 70 RX2 yX2_listInstructions wsX2_listInstructions) := goodIn_app (goodIn_of _ (by decide +kernel)) ggX2_makePlan_X2_listInstructions
theorem dX2_makePlan_0 : decode cX2_makePlan 0 = .ok (.aload_n 2, 1) := by decide +kernel
theorem dX2_makePlan_1 : decode cX2_makePlan 1 = .ok (.invokevirtual 36, 3) := by decide +kernel
theorem dX2_makePlan_4 : decode cX2_makePlan 4 = .ok (.sipush 150, 3) := by decide +kernel
theorem dX2_makePlan_7 : decode cX2_makePlan 7 = .ok (.invokestatic 42, 3) := by decide +kernel
theorem dX2_makePlan_10 : decode cX2_makePlan 10 = .ok (.istore 5, 2) := by decide +kernel
theorem dX2_makePlan_12 : decode cX2_makePlan 12 = .ok (.aload_n 0, 1) := by decide +kernel
theorem dX2_makePlan_13 : decode cX2_makePlan 13 = .ok (.getfield 27, 3) := by decide +kernel
theorem dX2_makePlan_16 : decode cX2_makePlan 16 = .ok (.iconst 0, 1) := by decide +kernel
theorem dX2_makePlan_17 : decode cX2_makePlan 17 = .ok (.invokestatic 48, 3) := by decide +kernel
theorem dX2_makePlan_20 : decode cX2_makePlan 20 = .ok (.aload_n 0, 1) := by decide +kernel
theorem dX2_makePlan_21 : decode cX2_makePlan 21 = .ok (.getfield 30, 3) := by decide +kernel
theorem dX2_makePlan_24 : decode cX2_makePlan 24 = .ok (.iconst 0, 1) := by decide +kernel
theorem dX2_makePlan_25 : decode cX2_makePlan 25 = .ok (.invokestatic 48, 3) := by decide +kernel
theorem dX2_makePlan_28 : decode cX2_makePlan 28 = .ok (.aload_n 0, 1) := by decide +kernel
theorem dX2_makePlan_29 : decode cX2_makePlan 29 = .ok (.getfield 11, 3) := by decide +kernel
theorem dX2_makePlan_32 : decode cX2_makePlan 32 = .ok (.iload 5, 2) := by decide +kernel
theorem dX2_makePlan_34 : decode cX2_makePlan 34 = .ok (.iconst 0, 1) := by decide +kernel
theorem dX2_makePlan_35 : decode cX2_makePlan 35 = .ok (.iastore, 1) := by decide +kernel
theorem dX2_makePlan_36 : decode cX2_makePlan 36 = .ok (.aload_n 0, 1) := by decide +kernel
theorem dX2_makePlan_37 : decode cX2_makePlan 37 = .ok (.getfield 15, 3) := by decide +kernel
theorem dX2_makePlan_40 : decode cX2_makePlan 40 = .ok (.iload 5, 2) := by decide +kernel
theorem dX2_makePlan_42 : decode cX2_makePlan 42 = .ok (.iconst 0, 1) := by decide +kernel
theorem dX2_makePlan_43 : decode cX2_makePlan 43 = .ok (.iastore, 1) := by decide +kernel
theorem dX2_makePlan_44 : decode cX2_makePlan 44 = .ok (.iconst 0, 1) := by decide +kernel
theorem dX2_makePlan_45 : decode cX2_makePlan 45 = .ok (.istore 6, 2) := by decide +kernel
theorem dX2_makePlan_47 : decode cX2_makePlan 47 = .ok (.iload 5, 2) := by decide +kernel
theorem dX2_makePlan_49 : decode cX2_makePlan 49 = .ok (.iconst 1, 1) := by decide +kernel
theorem dX2_makePlan_50 : decode cX2_makePlan 50 = .ok (.isub, 1) := by decide +kernel
theorem dX2_makePlan_51 : decode cX2_makePlan 51 = .ok (.istore 7, 2) := by decide +kernel
theorem dX2_makePlan_53 : decode cX2_makePlan 53 = .ok (.iload 7, 2) := by decide +kernel
theorem dX2_makePlan_55 : decode cX2_makePlan 55 = .ok (.ifCond .lt 140, 3) := by decide +kernel
theorem dX2_makePlan_58 : decode cX2_makePlan 58 = .ok (.aload_n 2, 1) := by decide +kernel
theorem dX2_makePlan_59 : decode cX2_makePlan 59 = .ok (.iload 7, 2) := by decide +kernel
theorem dX2_makePlan_61 : decode cX2_makePlan 61 = .ok (.invokevirtual 54, 3) := by decide +kernel
theorem dX2_makePlan_64 : decode cX2_makePlan 64 = .ok (.istore 8, 2) := by decide +kernel
theorem dX2_makePlan_66 : decode cX2_makePlan 66 = .ok (.iload 7, 2) := by decide +kernel
theorem dX2_makePlan_68 : decode cX2_makePlan 68 = .ok (.iconst 1, 1) := by decide +kernel
theorem dX2_makePlan_69 : decode cX2_makePlan 69 = .ok (.iadd, 1) := by decide +kernel
theorem dX2_makePlan_70 : decode cX2_makePlan 70 = .ok (.iload 5, 2) := by decide +kernel
theorem dX2_makePlan_72 : decode cX2_makePlan 72 = .ok (.if_icmp .ge 23, 3) := by decide +kernel
theorem dX2_makePlan_75 : decode cX2_makePlan 75 = .ok (.aload_n 2, 1) := by decide +kernel
theorem dX2_makePlan_76 : decode cX2_makePlan 76 = .ok (.iload 7, 2) := by decide +kernel
theorem dX2_makePlan_78 : decode cX2_makePlan 78 = .ok (.iconst 1, 1) := by decide +kernel
theorem dX2_makePlan_79 : decode cX2_makePlan 79 = .ok (.iadd, 1) := by decide +kernel
theorem dX2_makePlan_80 : decode cX2_makePlan 80 = .ok (.invokevirtual 54, 3) := by decide +kernel
theorem dX2_makePlan_83 : decode cX2_makePlan 83 = .ok (.iload 8, 2) := by decide +kernel
theorem dX2_makePlan_85 : decode cX2_makePlan 85 = .ok (.if_icmp .ne 10, 3) := by decide +kernel
theorem dX2_makePlan_88 : decode cX2_makePlan 88 = .ok (.iload 6, 2) := by decide +kernel
theorem dX2_makePlan_90 : decode cX2_makePlan 90 = .ok (.iconst 1, 1) := by decide +kernel
theorem dX2_makePlan_91 : decode cX2_makePlan 91 = .ok (.iadd, 1) := by decide +kernel
theorem dX2_makePlan_92 : decode cX2_makePlan 92 = .ok (.goto 4, 3) := by decide +kernel
theorem dX2_makePlan_95 : decode cX2_makePlan 95 = .ok (.iconst 1, 1) := by decide +kernel
theorem dX2_makePlan_96 : decode cX2_makePlan 96 = .ok (.istore 6, 2) := by decide +kernel
theorem dX2_makePlan_98 : decode cX2_makePlan 98 = .ok (.aload_n 0, 1) := by decide +kernel
theorem dX2_makePlan_99 : decode cX2_makePlan 99 = .ok (.getfield 27, 3) := by decide +kernel
theorem dX2_makePlan_102 : decode cX2_makePlan 102 = .ok (.aload_n 1, 1) := by decide +kernel
theorem dX2_makePlan_103 : decode cX2_makePlan 103 = .ok (.aload_n 1, 1) := by decide +kernel
theorem dX2_makePlan_104 : decode cX2_makePlan 104 = .ok (.invokevirtual 36, 3) := by decide +kernel
theorem dX2_makePlan_107 : decode cX2_makePlan 107 = .ok (.iload 8, 2) := by decide +kernel
theorem dX2_makePlan_109 : decode cX2_makePlan 109 = .ok (.invokestatic 58, 3) := by decide +kernel
theorem dX2_makePlan_112 : decode cX2_makePlan 112 = .ok (.aload_n 0, 1) := by decide +kernel
theorem dX2_makePlan_113 : decode cX2_makePlan 113 = .ok (.getfield 30, 3) := by decide +kernel
theorem dX2_makePlan_116 : decode cX2_makePlan 116 = .ok (.aload_n 2, 1) := by decide +kernel
theorem dX2_makePlan_117 : decode cX2_makePlan 117 = .ok (.iload 7, 2) := by decide +kernel
theorem dX2_makePlan_119 : decode cX2_makePlan 119 = .ok (.iload 8, 2) := by decide +kernel
theorem dX2_makePlan_121 : decode cX2_makePlan 121 = .ok (.invokestatic 58, 3) := by decide +kernel
theorem dX2_makePlan_124 : decode cX2_makePlan 124 = .ok (.aload_n 0, 1) := by decide +kernel
theorem dX2_makePlan_125 : decode cX2_makePlan 125 = .ok (.getfield 11, 3) := by decide +kernel
theorem dX2_makePlan_128 : decode cX2_makePlan 128 = .ok (.iload 7, 2) := by decide +kernel
theorem dX2_makePlan_130 : decode cX2_makePlan 130 = .ok (.ldc 62, 2) := by decide +kernel
theorem dX2_makePlan_132 : decode cX2_makePlan 132 = .ok (.iastore, 1) := by decide +kernel
theorem dX2_makePlan_133 : decode cX2_makePlan 133 = .ok (.aload_n 0, 1) := by decide +kernel
theorem dX2_makePlan_134 : decode cX2_makePlan 134 = .ok (.getfield 15, 3) := by decide +kernel
theorem dX2_makePlan_137 : decode cX2_makePlan 137 = .ok (.iload 7, 2) := by decide +kernel
theorem dX2_makePlan_139 : decode cX2_makePlan 139 = .ok (.ldc 62, 2) := by decide +kernel
theorem dX2_makePlan_141 : decode cX2_makePlan 141 = .ok (.iastore, 1) := by decide +kernel
theorem dX2_makePlan_142 : decode cX2_makePlan 142 = .ok (.aload_n 0, 1) := by decide +kernel
theorem dX2_makePlan_143 : decode cX2_makePlan 143 = .ok (.iload 7, 2) := by decide +kernel
theorem dX2_makePlan_145 : decode cX2_makePlan 145 = .ok (.iconst 0, 1) := by decide +kernel
theorem dX2_makePlan_146 : decode cX2_makePlan 146 = .ok (.iload 5, 2) := by decide +kernel
theorem dX2_makePlan_148 : decode cX2_makePlan 148 = .ok (.iload 7, 2) := by decide +kernel
theorem dX2_makePlan_150 : decode cX2_makePlan 150 = .ok (.isub, 1) := by decide +kernel
theorem dX2_makePlan_151 : decode cX2_makePlan 151 = .ok (.iload 8, 2) := by decide +kernel
theorem dX2_makePlan_153 : decode cX2_makePlan 153 = .ok (.invokevirtual 63, 3) := by decide +kernel
theorem dX2_makePlan_156 : decode cX2_makePlan 156 = .ok (.aload_n 0, 1) := by decide +kernel
theorem dX2_makePlan_157 : decode cX2_makePlan 157 = .ok (.iload 7, 2) := by decide +kernel
theorem dX2_makePlan_159 : decode cX2_makePlan 159 = .ok (.iconst 1, 1) := by decide +kernel
theorem dX2_makePlan_160 : decode cX2_makePlan 160 = .ok (.aload_n 1, 1) := by decide +kernel
theorem dX2_makePlan_161 : decode cX2_makePlan 161 = .ok (.invokevirtual 36, 3) := by decide +kernel
theorem dX2_makePlan_164 : decode cX2_makePlan 164 = .ok (.iload_n 3, 1) := by decide +kernel
theorem dX2_makePlan_165 : decode cX2_makePlan 165 = .ok (.invokevirtual 67, 3) := by decide +kernel
theorem dX2_makePlan_168 : decode cX2_makePlan 168 = .ok (.aload_n 0, 1) := by decide +kernel
theorem dX2_makePlan_169 : decode cX2_makePlan 169 = .ok (.iload 7, 2) := by decide +kernel
theorem dX2_makePlan_171 : decode cX2_makePlan 171 = .ok (.iconst 2, 1) := by decide +kernel
theorem dX2_makePlan_172 : decode cX2_makePlan 172 = .ok (.iload 7, 2) := by decide +kernel
theorem dX2_makePlan_174 : decode cX2_makePlan 174 = .ok (.iload_n 3, 1) := by decide +kernel
theorem dX2_makePlan_175 : decode cX2_makePlan 175 = .ok (.invokevirtual 67, 3) := by decide +kernel
theorem dX2_makePlan_178 : decode cX2_makePlan 178 = .ok (.aload_n 0, 1) := by decide +kernel
theorem dX2_makePlan_179 : decode cX2_makePlan 179 = .ok (.iload 7, 2) := by decide +kernel
theorem dX2_makePlan_181 : decode cX2_makePlan 181 = .ok (.iconst 3, 1) := by decide +kernel
theorem dX2_makePlan_182 : decode cX2_makePlan 182 = .ok (.iload 6, 2) := by decide +kernel
theorem dX2_makePlan_184 : decode cX2_makePlan 184 = .ok (.iload 8, 2) := by decide +kernel
theorem dX2_makePlan_186 : decode cX2_makePlan 186 = .ok (.invokevirtual 63, 3) := by decide +kernel
theorem dX2_makePlan_189 : decode cX2_makePlan 189 = .ok (.iinc 7 (-1), 3) := by decide +kernel
theorem dX2_makePlan_192 : decode cX2_makePlan 192 = .ok (.goto (-139), 3) := by decide +kernel
theorem dX2_makePlan_195 : decode cX2_makePlan 195 = .ok (.aload_n 0, 1) := by decide +kernel
theorem dX2_makePlan_196 : decode cX2_makePlan 196 = .ok (.iload 5, 2) := by decide +kernel
theorem dX2_makePlan_198 : decode cX2_makePlan 198 = .ok (.aload 4, 2) := by decide +kernel
theorem dX2_makePlan_200 : decode cX2_makePlan 200 = .ok (.invokevirtual 70, 3) := by decide +kernel
theorem dX2_makePlan_203 : decode cX2_makePlan 203 = .ok (.return_, 1) := by decide +kernel
set_option maxRecDepth 20000 in
theorem ggX2_lengthenCommon_X3_at : GoodIn wsX2_lengthenCommon wsX3_at := goodIn_r _ [5, 6, 7, 8, 9, 4, 10, 11, 12, 13] (by decide +kernel) (by decide +kernel)
set_option maxRecDepth 20000 in
theorem gX2_lengthenCommon_X3_at : GoodIn wsX2_lengthenCommon (wsV RX2 54 RX3 yX3_at wsX3_at) := goodIn_app (goodIn_of _ (by decide +kernel)) ggX2_lengthenCommon_X3_at
theorem dX2_lengthenCommon_0 : decode cX2_lengthenCommon 0 = .ok (.iconst 0, 1) := by decide +kernel
theorem dX2_lengthenCommon_1 : decode cX2_lengthenCommon 1 = .ok (.istore 4, 2) := by decide +kernel
theorem dX2_lengthenCommon_3 : decode cX2_lengthenCommon 3 = .ok (.iload 4, 2) := by decide +kernel
theorem dX2_lengthenCommon_5 : decode cX2_lengthenCommon 5 = .ok (.iload_n 2, 1) := by decide +kernel
theorem dX2_lengthenCommon_6 : decode cX2_lengthenCommon 6 = .ok (.if_icmp .ge 44, 3) := by decide +kernel
theorem dX2_lengthenCommon_9 : decode cX2_lengthenCommon 9 = .ok (.iload 4, 2) := by decide +kernel
theorem dX2_lengthenCommon_11 : decode cX2_lengthenCommon 11 = .ok (.iconst 1, 1) := by decide +kernel
theorem dX2_lengthenCommon_12 : decode cX2_lengthenCommon 12 = .ok (.iadd, 1) := by decide +kernel
theorem dX2_lengthenCommon_13 : decode cX2_lengthenCommon 13 = .ok (.aload_n 0, 1) := by decide +kernel
theorem dX2_lengthenCommon_14 : decode cX2_lengthenCommon 14 = .ok (.arraylength, 1) := by decide +kernel
theorem dX2_lengthenCommon_15 : decode cX2_lengthenCommon 15 = .ok (.if_icmp .ge 35, 3) := by decide +kernel
theorem dX2_lengthenCommon_18 : decode cX2_lengthenCommon 18 = .ok (.aload_n 0, 1) := by decide +kernel
theorem dX2_lengthenCommon_19 : decode cX2_lengthenCommon 19 = .ok (.iload 4, 2) := by decide +kernel
theorem dX2_lengthenCommon_21 : decode cX2_lengthenCommon 21 = .ok (.aload_n 1, 1) := by decide +kernel
theorem dX2_lengthenCommon_22 : decode cX2_lengthenCommon 22 = .ok (.iload 4, 2) := by decide +kernel
theorem dX2_lengthenCommon_24 : decode cX2_lengthenCommon 24 = .ok (.invokevirtual 54, 3) := by decide +kernel
theorem dX2_lengthenCommon_27 : decode cX2_lengthenCommon 27 = .ok (.iload_n 3, 1) := by decide +kernel
theorem dX2_lengthenCommon_28 : decode cX2_lengthenCommon 28 = .ok (.if_icmp .ne 14, 3) := by decide +kernel
theorem dX2_lengthenCommon_31 : decode cX2_lengthenCommon 31 = .ok (.aload_n 0, 1) := by decide +kernel
theorem dX2_lengthenCommon_32 : decode cX2_lengthenCommon 32 = .ok (.iload 4, 2) := by decide +kernel
theorem dX2_lengthenCommon_34 : decode cX2_lengthenCommon 34 = .ok (.iconst 1, 1) := by decide +kernel
theorem dX2_lengthenCommon_35 : decode cX2_lengthenCommon 35 = .ok (.iadd, 1) := by decide +kernel
theorem dX2_lengthenCommon_36 : decode cX2_lengthenCommon 36 = .ok (.iaload, 1) := by decide +kernel
theorem dX2_lengthenCommon_37 : decode cX2_lengthenCommon 37 = .ok (.iconst 1, 1) := by decide +kernel
theorem dX2_lengthenCommon_38 : decode cX2_lengthenCommon 38 = .ok (.iadd, 1) := by decide +kernel
theorem dX2_lengthenCommon_39 : decode cX2_lengthenCommon 39 = .ok (.goto 4, 3) := by decide +kernel
theorem dX2_lengthenCommon_42 : decode cX2_lengthenCommon 42 = .ok (.iconst 0, 1) := by decide +kernel
theorem dX2_lengthenCommon_43 : decode cX2_lengthenCommon 43 = .ok (.iastore, 1) := by decide +kernel
theorem dX2_lengthenCommon_44 : decode cX2_lengthenCommon 44 = .ok (.iinc 4 1, 3) := by decide +kernel
theorem dX2_lengthenCommon_47 : decode cX2_lengthenCommon 47 = .ok (.goto (-44), 3) := by decide +kernel
theorem dX2_lengthenCommon_50 : decode cX2_lengthenCommon 50 = .ok (.return_, 1) := by decide +kernel
set_option maxRecDepth 20000 in
theorem ggX2_offerLengths_X2_offer : GoodIn wsX2_offerLengths wsX2_offer := goodIn_r _ [5, 6, 7, 8, 9, 10, 11, 12, 4, 13, 14, 15, 16, 17, 18, 19, 20, 21, 22, 23, 24] (by decide +kernel) (by decide +kernel)
set_option maxRecDepth 20000 in
theorem gX2_offerLengths_X2_offer : GoodIn wsX2_offerLengths (wsV RX2 74 RX2 yX2_offer wsX2_offer) := goodIn_app (goodIn_of _ (by decide +kernel)) ggX2_offerLengths_X2_offer
theorem dX2_offerLengths_0 : decode cX2_offerLengths 0 = .ok (.iload_n 3, 1) := by decide +kernel
theorem dX2_offerLengths_1 : decode cX2_offerLengths 1 = .ok (.istore 5, 2) := by decide +kernel
theorem dX2_offerLengths_3 : decode cX2_offerLengths 3 = .ok (.iload 5, 2) := by decide +kernel
theorem dX2_offerLengths_5 : decode cX2_offerLengths 5 = .ok (.iconst 1, 1) := by decide +kernel
theorem dX2_offerLengths_6 : decode cX2_offerLengths 6 = .ok (.if_icmp .lt 19, 3) := by decide +kernel
theorem dX2_offerLengths_9 : decode cX2_offerLengths 9 = .ok (.aload_n 0, 1) := by decide +kernel
theorem dX2_offerLengths_10 : decode cX2_offerLengths 10 = .ok (.iload_n 1, 1) := by decide +kernel
theorem dX2_offerLengths_11 : decode cX2_offerLengths 11 = .ok (.iload_n 2, 1) := by decide +kernel
theorem dX2_offerLengths_12 : decode cX2_offerLengths 12 = .ok (.iload 5, 2) := by decide +kernel
theorem dX2_offerLengths_14 : decode cX2_offerLengths 14 = .ok (.iload 4, 2) := by decide +kernel
theorem dX2_offerLengths_16 : decode cX2_offerLengths 16 = .ok (.invokevirtual 74, 3) := by decide +kernel
theorem dX2_offerLengths_19 : decode cX2_offerLengths 19 = .ok (.iinc 5 (-1), 3) := by decide +kernel
theorem dX2_offerLengths_22 : decode cX2_offerLengths 22 = .ok (.goto (-19), 3) := by decide +kernel
theorem dX2_offerLengths_25 : decode cX2_offerLengths 25 = .ok (.return_, 1) := by decide +kernel
set_option maxRecDepth 20000 in
theorem ggX2_offerPlaces_X2_offer : GoodIn wsX2_offerPlaces wsX2_offer := goodIn_r _ [8, 9, 10, 11, 12, 13, 14, 15, 7, 16, 17, 18, 19, 20, 21, 22, 23, 24, 25, 26, 27] (by decide +kernel) (by decide +kernel)
set_option maxRecDepth 20000 in
theorem gX2_offerPlaces_X2_offer : GoodIn wsX2_offerPlaces (wsV RX2 74 RX2 yX2_offer wsX2_offer) := goodIn_app (goodIn_of _ (by decide +kernel)) ggX2_offerPlaces_X2_offer
theorem dX2_offerPlaces_0 : decode cX2_offerPlaces 0 = .ok (.iload_n 2, 1) := by decide +kernel
theorem dX2_offerPlaces_1 : decode cX2_offerPlaces 1 = .ok (.iconst 1, 1) := by decide +kernel
theorem dX2_offerPlaces_2 : decode cX2_offerPlaces 2 = .ok (.if_icmp .ne 10, 3) := by decide +kernel
theorem dX2_offerPlaces_5 : decode cX2_offerPlaces 5 = .ok (.aload_n 0, 1) := by decide +kernel
theorem dX2_offerPlaces_6 : decode cX2_offerPlaces 6 = .ok (.getfield 27, 3) := by decide +kernel
theorem dX2_offerPlaces_9 : decode cX2_offerPlaces 9 = .ok (.goto 7, 3) := by decide +kernel
theorem dX2_offerPlaces_12 : decode cX2_offerPlaces 12 = .ok (.aload_n 0, 1) := by decide +kernel
theorem dX2_offerPlaces_13 : decode cX2_offerPlaces 13 = .ok (.getfield 30, 3) := by decide +kernel
theorem dX2_offerPlaces_16 : decode cX2_offerPlaces 16 = .ok (.astore 5, 2) := by decide +kernel
theorem dX2_offerPlaces_18 : decode cX2_offerPlaces 18 = .ok (.iconst 0, 1) := by decide +kernel
theorem dX2_offerPlaces_19 : decode cX2_offerPlaces 19 = .ok (.istore 6, 2) := by decide +kernel
theorem dX2_offerPlaces_21 : decode cX2_offerPlaces 21 = .ok (.iconst 0, 1) := by decide +kernel
theorem dX2_offerPlaces_22 : decode cX2_offerPlaces 22 = .ok (.istore 7, 2) := by decide +kernel
theorem dX2_offerPlaces_24 : decode cX2_offerPlaces 24 = .ok (.iload 7, 2) := by decide +kernel
theorem dX2_offerPlaces_26 : decode cX2_offerPlaces 26 = .ok (.iload_n 3, 1) := by decide +kernel
theorem dX2_offerPlaces_27 : decode cX2_offerPlaces 27 = .ok (.if_icmp .ge 60, 3) := by decide +kernel
theorem dX2_offerPlaces_30 : decode cX2_offerPlaces 30 = .ok (.iload 7, 2) := by decide +kernel
theorem dX2_offerPlaces_32 : decode cX2_offerPlaces 32 = .ok (.sipush 151, 3) := by decide +kernel
theorem dX2_offerPlaces_35 : decode cX2_offerPlaces 35 = .ok (.if_icmp .ge 52, 3) := by decide +kernel
theorem dX2_offerPlaces_38 : decode cX2_offerPlaces 38 = .ok (.iload 6, 2) := by decide +kernel
theorem dX2_offerPlaces_40 : decode cX2_offerPlaces 40 = .ok (.iconst 1, 1) := by decide +kernel
theorem dX2_offerPlaces_41 : decode cX2_offerPlaces 41 = .ok (.iadd, 1) := by decide +kernel
theorem dX2_offerPlaces_42 : decode cX2_offerPlaces 42 = .ok (.istore 8, 2) := by decide +kernel
theorem dX2_offerPlaces_44 : decode cX2_offerPlaces 44 = .ok (.iload 8, 2) := by decide +kernel
theorem dX2_offerPlaces_46 : decode cX2_offerPlaces 46 = .ok (.aload 5, 2) := by decide +kernel
theorem dX2_offerPlaces_48 : decode cX2_offerPlaces 48 = .ok (.iload 7, 2) := by decide +kernel
theorem dX2_offerPlaces_50 : decode cX2_offerPlaces 50 = .ok (.iaload, 1) := by decide +kernel
theorem dX2_offerPlaces_51 : decode cX2_offerPlaces 51 = .ok (.if_icmp .gt 30, 3) := by decide +kernel
theorem dX2_offerPlaces_54 : decode cX2_offerPlaces 54 = .ok (.iload 8, 2) := by decide +kernel
theorem dX2_offerPlaces_56 : decode cX2_offerPlaces 56 = .ok (.sipush 151, 3) := by decide +kernel
theorem dX2_offerPlaces_59 : decode cX2_offerPlaces 59 = .ok (.if_icmp .ge 22, 3) := by decide +kernel
theorem dX2_offerPlaces_62 : decode cX2_offerPlaces 62 = .ok (.aload_n 0, 1) := by decide +kernel
theorem dX2_offerPlaces_63 : decode cX2_offerPlaces 63 = .ok (.getfield 33, 3) := by decide +kernel
theorem dX2_offerPlaces_66 : decode cX2_offerPlaces 66 = .ok (.iload 8, 2) := by decide +kernel
theorem dX2_offerPlaces_68 : decode cX2_offerPlaces 68 = .ok (.iload 7, 2) := by decide +kernel
theorem dX2_offerPlaces_70 : decode cX2_offerPlaces 70 = .ok (.iastore, 1) := by decide +kernel
theorem dX2_offerPlaces_71 : decode cX2_offerPlaces 71 = .ok (.iload 8, 2) := by decide +kernel
theorem dX2_offerPlaces_73 : decode cX2_offerPlaces 73 = .ok (.istore 6, 2) := by decide +kernel
theorem dX2_offerPlaces_75 : decode cX2_offerPlaces 75 = .ok (.iinc 8 1, 3) := by decide +kernel
theorem dX2_offerPlaces_78 : decode cX2_offerPlaces 78 = .ok (.goto (-34), 3) := by decide +kernel
theorem dX2_offerPlaces_81 : decode cX2_offerPlaces 81 = .ok (.iinc 7 1, 3) := by decide +kernel
theorem dX2_offerPlaces_84 : decode cX2_offerPlaces 84 = .ok (.goto (-60), 3) := by decide +kernel
theorem dX2_offerPlaces_87 : decode cX2_offerPlaces 87 = .ok (.iload 6, 2) := by decide +kernel
theorem dX2_offerPlaces_89 : decode cX2_offerPlaces 89 = .ok (.istore 7, 2) := by decide +kernel
theorem dX2_offerPlaces_91 : decode cX2_offerPlaces 91 = .ok (.iload 7, 2) := by decide +kernel
theorem dX2_offerPlaces_93 : decode cX2_offerPlaces 93 = .ok (.iload 4, 2) := by decide +kernel
theorem dX2_offerPlaces_95 : decode cX2_offerPlaces 95 = .ok (.if_icmp .lt 30, 3) := by decide +kernel
theorem dX2_offerPlaces_98 : decode cX2_offerPlaces 98 = .ok (.iload 7, 2) := by decide +kernel
theorem dX2_offerPlaces_100 : decode cX2_offerPlaces 100 = .ok (.iconst 1, 1) := by decide +kernel
theorem dX2_offerPlaces_101 : decode cX2_offerPlaces 101 = .ok (.if_icmp .lt 24, 3) := by decide +kernel
theorem dX2_offerPlaces_104 : decode cX2_offerPlaces 104 = .ok (.aload_n 0, 1) := by decide +kernel
theorem dX2_offerPlaces_105 : decode cX2_offerPlaces 105 = .ok (.iload_n 1, 1) := by decide +kernel
theorem dX2_offerPlaces_106 : decode cX2_offerPlaces 106 = .ok (.iload_n 2, 1) := by decide +kernel
theorem dX2_offerPlaces_107 : decode cX2_offerPlaces 107 = .ok (.iload 7, 2) := by decide +kernel
theorem dX2_offerPlaces_109 : decode cX2_offerPlaces 109 = .ok (.aload_n 0, 1) := by decide +kernel
theorem dX2_offerPlaces_110 : decode cX2_offerPlaces 110 = .ok (.getfield 33, 3) := by decide +kernel
theorem dX2_offerPlaces_113 : decode cX2_offerPlaces 113 = .ok (.iload 7, 2) := by decide +kernel
theorem dX2_offerPlaces_115 : decode cX2_offerPlaces 115 = .ok (.iaload, 1) := by decide +kernel
theorem dX2_offerPlaces_116 : decode cX2_offerPlaces 116 = .ok (.invokevirtual 74, 3) := by decide +kernel
theorem dX2_offerPlaces_119 : decode cX2_offerPlaces 119 = .ok (.iinc 7 (-1), 3) := by decide +kernel
theorem dX2_offerPlaces_122 : decode cX2_offerPlaces 122 = .ok (.goto (-31), 3) := by decide +kernel
theorem dX2_offerPlaces_125 : decode cX2_offerPlaces 125 = .ok (.return_, 1) := by decide +kernel
set_option maxRecDepth 20000 in
theorem ggX2_offer_X2_bytesOf : GoodIn wsX2_offer wsX2_bytesOf := goodIn_r _ [9, 10, 11, 8, 12] (by decide +kernel) (by decide +kernel)
set_option maxRecDepth 20000 in
theorem gX2_offer_X2_bytesOf : GoodIn wsX2_offer (va_wsS RX2 77 yX2_bytesOf wsX2_bytesOf) := goodIn_app (goodIn_of _ (by decide +kernel)) ggX2_offer_X2_bytesOf
theorem dX2_offer_0 : decode cX2_offer 0 = .ok (.iload_n 1, 1) := by decide +kernel
theorem dX2_offer_1 : decode cX2_offer 1 = .ok (.iload_n 3, 1) := by decide +kernel
theorem dX2_offer_2 : decode cX2_offer 2 = .ok (.iadd, 1) := by decide +kernel
theorem dX2_offer_3 : decode cX2_offer 3 = .ok (.istore 5, 2) := by decide +kernel
theorem dX2_offer_5 : decode cX2_offer 5 = .ok (.iload_n 1, 1) := by decide +kernel
theorem dX2_offer_6 : decode cX2_offer 6 = .ok (.ifCond .lt 16, 3) := by decide +kernel
theorem dX2_offer_9 : decode cX2_offer 9 = .ok (.iload_n 3, 1) := by decide +kernel
theorem dX2_offer_10 : decode cX2_offer 10 = .ok (.iconst 1, 1) := by decide +kernel
theorem dX2_offer_11 : decode cX2_offer 11 = .ok (.if_icmp .lt 11, 3) := by decide +kernel
theorem dX2_offer_14 : decode cX2_offer 14 = .ok (.iload 5, 2) := by decide +kernel
theorem dX2_offer_16 : decode cX2_offer 16 = .ok (.sipush 151, 3) := by decide +kernel
theorem dX2_offer_19 : decode cX2_offer 19 = .ok (.if_icmp .lt 4, 3) := by decide +kernel
theorem dX2_offer_22 : decode cX2_offer 22 = .ok (.return_, 1) := by decide +kernel
theorem dX2_offer_23 : decode cX2_offer 23 = .ok (.iload_n 2, 1) := by decide +kernel
theorem dX2_offer_24 : decode cX2_offer 24 = .ok (.iload_n 3, 1) := by decide +kernel
theorem dX2_offer_25 : decode cX2_offer 25 = .ok (.iload 4, 2) := by decide +kernel
theorem dX2_offer_27 : decode cX2_offer 27 = .ok (.invokestatic 77, 3) := by decide +kernel
theorem dX2_offer_30 : decode cX2_offer 30 = .ok (.aload_n 0, 1) := by decide +kernel
theorem dX2_offer_31 : decode cX2_offer 31 = .ok (.getfield 11, 3) := by decide +kernel
theorem dX2_offer_34 : decode cX2_offer 34 = .ok (.iload 5, 2) := by decide +kernel
theorem dX2_offer_36 : decode cX2_offer 36 = .ok (.iaload, 1) := by decide +kernel
theorem dX2_offer_37 : decode cX2_offer 37 = .ok (.iadd, 1) := by decide +kernel
theorem dX2_offer_38 : decode cX2_offer 38 = .ok (.istore 6, 2) := by decide +kernel
theorem dX2_offer_40 : decode cX2_offer 40 = .ok (.iconst 1, 1) := by decide +kernel
theorem dX2_offer_41 : decode cX2_offer 41 = .ok (.aload_n 0, 1) := by decide +kernel
theorem dX2_offer_42 : decode cX2_offer 42 = .ok (.getfield 15, 3) := by decide +kernel
theorem dX2_offer_45 : decode cX2_offer 45 = .ok (.iload 5, 2) := by decide +kernel
theorem dX2_offer_47 : decode cX2_offer 47 = .ok (.iaload, 1) := by decide +kernel
theorem dX2_offer_48 : decode cX2_offer 48 = .ok (.iadd, 1) := by decide +kernel
theorem dX2_offer_49 : decode cX2_offer 49 = .ok (.istore 7, 2) := by decide +kernel
theorem dX2_offer_51 : decode cX2_offer 51 = .ok (.iload 6, 2) := by decide +kernel
theorem dX2_offer_53 : decode cX2_offer 53 = .ok (.aload_n 0, 1) := by decide +kernel
theorem dX2_offer_54 : decode cX2_offer 54 = .ok (.getfield 11, 3) := by decide +kernel
theorem dX2_offer_57 : decode cX2_offer 57 = .ok (.iload_n 1, 1) := by decide +kernel
theorem dX2_offer_58 : decode cX2_offer 58 = .ok (.iaload, 1) := by decide +kernel
theorem dX2_offer_59 : decode cX2_offer 59 = .ok (.if_icmp .ge 7, 3) := by decide +kernel
theorem dX2_offer_62 : decode cX2_offer 62 = .ok (.iconst 1, 1) := by decide +kernel
theorem dX2_offer_63 : decode cX2_offer 63 = .ok (.goto 4, 3) := by decide +kernel
theorem dX2_offer_66 : decode cX2_offer 66 = .ok (.iconst 0, 1) := by decide +kernel
theorem dX2_offer_67 : decode cX2_offer 67 = .ok (.istore 8, 2) := by decide +kernel
theorem dX2_offer_69 : decode cX2_offer 69 = .ok (.iload 6, 2) := by decide +kernel
theorem dX2_offer_71 : decode cX2_offer 71 = .ok (.aload_n 0, 1) := by decide +kernel
theorem dX2_offer_72 : decode cX2_offer 72 = .ok (.getfield 11, 3) := by decide +kernel
theorem dX2_offer_75 : decode cX2_offer 75 = .ok (.iload_n 1, 1) := by decide +kernel
theorem dX2_offer_76 : decode cX2_offer 76 = .ok (.iaload, 1) := by decide +kernel
theorem dX2_offer_77 : decode cX2_offer 77 = .ok (.if_icmp .ne 18, 3) := by decide +kernel
theorem dX2_offer_80 : decode cX2_offer 80 = .ok (.iload 7, 2) := by decide +kernel
theorem dX2_offer_82 : decode cX2_offer 82 = .ok (.aload_n 0, 1) := by decide +kernel
theorem dX2_offer_83 : decode cX2_offer 83 = .ok (.getfield 15, 3) := by decide +kernel
theorem dX2_offer_86 : decode cX2_offer 86 = .ok (.iload_n 1, 1) := by decide +kernel
theorem dX2_offer_87 : decode cX2_offer 87 = .ok (.iaload, 1) := by decide +kernel
theorem dX2_offer_88 : decode cX2_offer 88 = .ok (.if_icmp .ge 7, 3) := by decide +kernel
theorem dX2_offer_91 : decode cX2_offer 91 = .ok (.iconst 1, 1) := by decide +kernel
theorem dX2_offer_92 : decode cX2_offer 92 = .ok (.goto 4, 3) := by decide +kernel
theorem dX2_offer_95 : decode cX2_offer 95 = .ok (.iconst 0, 1) := by decide +kernel
theorem dX2_offer_96 : decode cX2_offer 96 = .ok (.istore 9, 2) := by decide +kernel
theorem dX2_offer_98 : decode cX2_offer 98 = .ok (.iload 8, 2) := by decide +kernel
theorem dX2_offer_100 : decode cX2_offer 100 = .ok (.ifCond .ne 8, 3) := by decide +kernel
theorem dX2_offer_103 : decode cX2_offer 103 = .ok (.iload 9, 2) := by decide +kernel
theorem dX2_offer_105 : decode cX2_offer 105 = .ok (.ifCond .eq 41, 3) := by decide +kernel
theorem dX2_offer_108 : decode cX2_offer 108 = .ok (.aload_n 0, 1) := by decide +kernel
theorem dX2_offer_109 : decode cX2_offer 109 = .ok (.getfield 11, 3) := by decide +kernel
theorem dX2_offer_112 : decode cX2_offer 112 = .ok (.iload_n 1, 1) := by decide +kernel
theorem dX2_offer_113 : decode cX2_offer 113 = .ok (.iload 6, 2) := by decide +kernel
theorem dX2_offer_115 : decode cX2_offer 115 = .ok (.iastore, 1) := by decide +kernel
theorem dX2_offer_116 : decode cX2_offer 116 = .ok (.aload_n 0, 1) := by decide +kernel
theorem dX2_offer_117 : decode cX2_offer 117 = .ok (.getfield 15, 3) := by decide +kernel
theorem dX2_offer_120 : decode cX2_offer 120 = .ok (.iload_n 1, 1) := by decide +kernel
theorem dX2_offer_121 : decode cX2_offer 121 = .ok (.iload 7, 2) := by decide +kernel
theorem dX2_offer_123 : decode cX2_offer 123 = .ok (.iastore, 1) := by decide +kernel
theorem dX2_offer_124 : decode cX2_offer 124 = .ok (.aload_n 0, 1) := by decide +kernel
theorem dX2_offer_125 : decode cX2_offer 125 = .ok (.getfield 18, 3) := by decide +kernel
theorem dX2_offer_128 : decode cX2_offer 128 = .ok (.iload_n 1, 1) := by decide +kernel
theorem dX2_offer_129 : decode cX2_offer 129 = .ok (.iload_n 2, 1) := by decide +kernel
theorem dX2_offer_130 : decode cX2_offer 130 = .ok (.iastore, 1) := by decide +kernel
theorem dX2_offer_131 : decode cX2_offer 131 = .ok (.aload_n 0, 1) := by decide +kernel
theorem dX2_offer_132 : decode cX2_offer 132 = .ok (.getfield 21, 3) := by decide +kernel
theorem dX2_offer_135 : decode cX2_offer 135 = .ok (.iload_n 1, 1) := by decide +kernel
theorem dX2_offer_136 : decode cX2_offer 136 = .ok (.iload_n 3, 1) := by decide +kernel
theorem dX2_offer_137 : decode cX2_offer 137 = .ok (.iastore, 1) := by decide +kernel
theorem dX2_offer_138 : decode cX2_offer 138 = .ok (.aload_n 0, 1) := by decide +kernel
theorem dX2_offer_139 : decode cX2_offer 139 = .ok (.getfield 24, 3) := by decide +kernel
theorem dX2_offer_142 : decode cX2_offer 142 = .ok (.iload_n 1, 1) := by decide +kernel
theorem dX2_offer_143 : decode cX2_offer 143 = .ok (.iload 4, 2) := by decide +kernel
theorem dX2_offer_145 : decode cX2_offer 145 = .ok (.iastore, 1) := by decide +kernel
theorem dX2_offer_146 : decode cX2_offer 146 = .ok (.return_, 1) := by decide +kernel
set_option maxRecDepth 20000 in
theorem ggX2_bytesOf_X2_bytesOfNumber : GoodIn wsX2_bytesOf wsX2_bytesOfNumber := goodIn_r _ [4] (by decide +kernel) (by decide +kernel)
set_option maxRecDepth 20000 in
theorem gX2_bytesOf_X2_bytesOfNumber : GoodIn wsX2_bytesOf (va_wsS RX2 81 yX2_bytesOfNumber wsX2_bytesOfNumber) := goodIn_app (goodIn_of _ (by decide +kernel)) ggX2_bytesOf_X2_bytesOfNumber
theorem dX2_bytesOf_0 : decode cX2_bytesOf 0 = .ok (.iload_n 1, 1) := by decide +kernel
theorem dX2_bytesOf_1 : decode cX2_bytesOf 1 = .ok (.bipush 63, 2) := by decide +kernel
theorem dX2_bytesOf_3 : decode cX2_bytesOf 3 = .ok (.if_icmp .ge 7, 3) := by decide +kernel
theorem dX2_bytesOf_6 : decode cX2_bytesOf 6 = .ok (.iconst 1, 1) := by decide +kernel
theorem dX2_bytesOf_7 : decode cX2_bytesOf 7 = .ok (.goto 12, 3) := by decide +kernel
theorem dX2_bytesOf_10 : decode cX2_bytesOf 10 = .ok (.iconst 1, 1) := by decide +kernel
theorem dX2_bytesOf_11 : decode cX2_bytesOf 11 = .ok (.iload_n 1, 1) := by decide +kernel
theorem dX2_bytesOf_12 : decode cX2_bytesOf 12 = .ok (.bipush 63, 2) := by decide +kernel
theorem dX2_bytesOf_14 : decode cX2_bytesOf 14 = .ok (.isub, 1) := by decide +kernel
theorem dX2_bytesOf_15 : decode cX2_bytesOf 15 = .ok (.invokestatic 81, 3) := by decide +kernel
theorem dX2_bytesOf_18 : decode cX2_bytesOf 18 = .ok (.iadd, 1) := by decide +kernel
theorem dX2_bytesOf_19 : decode cX2_bytesOf 19 = .ok (.istore_n 3, 1) := by decide +kernel
theorem dX2_bytesOf_20 : decode cX2_bytesOf 20 = .ok (.iload_n 0, 1) := by decide +kernel
theorem dX2_bytesOf_21 : decode cX2_bytesOf 21 = .ok (.ifCond .ne 7, 3) := by decide +kernel
theorem dX2_bytesOf_24 : decode cX2_bytesOf 24 = .ok (.iload_n 3, 1) := by decide +kernel
theorem dX2_bytesOf_25 : decode cX2_bytesOf 25 = .ok (.iload_n 1, 1) := by decide +kernel
theorem dX2_bytesOf_26 : decode cX2_bytesOf 26 = .ok (.iadd, 1) := by decide +kernel
theorem dX2_bytesOf_27 : decode cX2_bytesOf 27 = .ok (.ireturn, 1) := by decide +kernel
theorem dX2_bytesOf_28 : decode cX2_bytesOf 28 = .ok (.iload_n 0, 1) := by decide +kernel
theorem dX2_bytesOf_29 : decode cX2_bytesOf 29 = .ok (.iconst 3, 1) := by decide +kernel
theorem dX2_bytesOf_30 : decode cX2_bytesOf 30 = .ok (.if_icmp .ne 9, 3) := by decide +kernel
theorem dX2_bytesOf_33 : decode cX2_bytesOf 33 = .ok (.iload_n 3, 1) := by decide +kernel
theorem dX2_bytesOf_34 : decode cX2_bytesOf 34 = .ok (.iconst 1, 1) := by decide +kernel
theorem dX2_bytesOf_35 : decode cX2_bytesOf 35 = .ok (.iadd, 1) := by decide +kernel
theorem dX2_bytesOf_36 : decode cX2_bytesOf 36 = .ok (.goto 9, 3) := by decide +kernel
theorem dX2_bytesOf_39 : decode cX2_bytesOf 39 = .ok (.iload_n 3, 1) := by decide +kernel
theorem dX2_bytesOf_40 : decode cX2_bytesOf 40 = .ok (.iload_n 2, 1) := by decide +kernel
theorem dX2_bytesOf_41 : decode cX2_bytesOf 41 = .ok (.invokestatic 81, 3) := by decide +kernel
theorem dX2_bytesOf_44 : decode cX2_bytesOf 44 = .ok (.iadd, 1) := by decide +kernel
theorem dX2_bytesOf_45 : decode cX2_bytesOf 45 = .ok (.ireturn, 1) := by decide +kernel
theorem dX2_bytesOfNumber_0 : decode cX2_bytesOfNumber 0 = .ok (.iload_n 0, 1) := by decide +kernel
theorem dX2_bytesOfNumber_1 : decode cX2_bytesOfNumber 1 = .ok (.sipush 128, 3) := by decide +kernel
theorem dX2_bytesOfNumber_4 : decode cX2_bytesOfNumber 4 = .ok (.if_icmp .ge 7, 3) := by decide +kernel
theorem dX2_bytesOfNumber_7 : decode cX2_bytesOfNumber 7 = .ok (.iconst 1, 1) := by decide +kernel
theorem dX2_bytesOfNumber_8 : decode cX2_bytesOfNumber 8 = .ok (.goto 4, 3) := by decide +kernel
theorem dX2_bytesOfNumber_11 : decode cX2_bytesOfNumber 11 = .ok (.iconst 2, 1) := by decide +kernel
theorem dX2_bytesOfNumber_12 : decode cX2_bytesOfNumber 12 = .ok (.ireturn, 1) := by decide +kernel
set_option maxRecDepth 20000 in
theorem ggX2_listInstructions_X1_begin : GoodIn wsX2_listInstructions wsX1_begin := goodIn_r _ [9, 10, 11, 12, 13, 14, 15, 16, 17, 18, 19, 20, 21, 39, 40, 41, 42, 43, 44, 45, 46] (by decide +kernel) (by decide +kernel)
set_option maxRecDepth 20000 in
theorem gX2_listInstructions_X1_begin : GoodIn wsX2_listInstructions (wsV RX2 84 RX1 yX1_begin wsX1_begin) := goodIn_app (goodIn_of _ (by decide +kernel)) ggX2_listInstructions_X1_begin
set_option maxRecDepth 20000 in
theorem ggX2_listInstructions_X1_add : GoodIn wsX2_listInstructions wsX1_add := goodIn_r _ [25, 10, 11, 12, 13, 26, 27, 28, 19, 29, 21, 30, 39, 40, 41, 42, 43, 44, 45, 46] (by decide +kernel) (by decide +kernel)
set_option maxRecDepth 20000 in
theorem gX2_listInstructions_X1_add : GoodIn wsX2_listInstructions (wsV RX2 90 RX1 yX1_add wsX1_add) := goodIn_app (goodIn_of _ (by decide +kernel)) ggX2_listInstructions_X1_add
theorem dX2_listInstructions_0 : decode cX2_listInstructions 0 = .ok (.aload_n 2, 1) := by decide +kernel
theorem dX2_listInstructions_1 : decode cX2_listInstructions 1 = .ok (.aload_n 0, 1) := by decide +kernel
theorem dX2_listInstructions_2 : decode cX2_listInstructions 2 = .ok (.getfield 11, 3) := by decide +kernel
theorem dX2_listInstructions_5 : decode cX2_listInstructions 5 = .ok (.iconst 0, 1) := by decide +kernel
theorem dX2_listInstructions_6 : decode cX2_listInstructions 6 = .ok (.iaload, 1) := by decide +kernel
theorem dX2_listInstructions_7 : decode cX2_listInstructions 7 = .ok (.invokevirtual 84, 3) := by decide +kernel
theorem dX2_listInstructions_10 : decode cX2_listInstructions 10 = .ok (.iconst 0, 1) := by decide +kernel
theorem dX2_listInstructions_11 : decode cX2_listInstructions 11 = .ok (.istore_n 3, 1) := by decide +kernel
theorem dX2_listInstructions_12 : decode cX2_listInstructions 12 = .ok (.iconst 0, 1) := by decide +kernel
theorem dX2_listInstructions_13 : decode cX2_listInstructions 13 = .ok (.istore 4, 2) := by decide +kernel
theorem dX2_listInstructions_15 : decode cX2_listInstructions 15 = .ok (.iload 4, 2) := by decide +kernel
theorem dX2_listInstructions_17 : decode cX2_listInstructions 17 = .ok (.iload_n 1, 1) := by decide +kernel
theorem dX2_listInstructions_18 : decode cX2_listInstructions 18 = .ok (.if_icmp .ge 61, 3) := by decide +kernel
theorem dX2_listInstructions_21 : decode cX2_listInstructions 21 = .ok (.iload 4, 2) := by decide +kernel
theorem dX2_listInstructions_23 : decode cX2_listInstructions 23 = .ok (.sipush 151, 3) := by decide +kernel
theorem dX2_listInstructions_26 : decode cX2_listInstructions 26 = .ok (.if_icmp .ge 53, 3) := by decide +kernel
theorem dX2_listInstructions_29 : decode cX2_listInstructions 29 = .ok (.iload 4, 2) := by decide +kernel
theorem dX2_listInstructions_31 : decode cX2_listInstructions 31 = .ok (.iload_n 3, 1) := by decide +kernel
theorem dX2_listInstructions_32 : decode cX2_listInstructions 32 = .ok (.if_icmp .ne 41, 3) := by decide +kernel
theorem dX2_listInstructions_35 : decode cX2_listInstructions 35 = .ok (.aload_n 2, 1) := by decide +kernel
theorem dX2_listInstructions_36 : decode cX2_listInstructions 36 = .ok (.aload_n 0, 1) := by decide +kernel
theorem dX2_listInstructions_37 : decode cX2_listInstructions 37 = .ok (.getfield 18, 3) := by decide +kernel
theorem dX2_listInstructions_40 : decode cX2_listInstructions 40 = .ok (.iload 4, 2) := by decide +kernel
theorem dX2_listInstructions_42 : decode cX2_listInstructions 42 = .ok (.iaload, 1) := by decide +kernel
theorem dX2_listInstructions_43 : decode cX2_listInstructions 43 = .ok (.aload_n 0, 1) := by decide +kernel
theorem dX2_listInstructions_44 : decode cX2_listInstructions 44 = .ok (.getfield 21, 3) := by decide +kernel
theorem dX2_listInstructions_47 : decode cX2_listInstructions 47 = .ok (.iload 4, 2) := by decide +kernel
theorem dX2_listInstructions_49 : decode cX2_listInstructions 49 = .ok (.iaload, 1) := by decide +kernel
theorem dX2_listInstructions_50 : decode cX2_listInstructions 50 = .ok (.aload_n 0, 1) := by decide +kernel
theorem dX2_listInstructions_51 : decode cX2_listInstructions 51 = .ok (.getfield 24, 3) := by decide +kernel
theorem dX2_listInstructions_54 : decode cX2_listInstructions 54 = .ok (.iload 4, 2) := by decide +kernel
theorem dX2_listInstructions_56 : decode cX2_listInstructions 56 = .ok (.iaload, 1) := by decide +kernel
theorem dX2_listInstructions_57 : decode cX2_listInstructions 57 = .ok (.iload 4, 2) := by decide +kernel
theorem dX2_listInstructions_59 : decode cX2_listInstructions 59 = .ok (.invokevirtual 90, 3) := by decide +kernel
theorem dX2_listInstructions_62 : decode cX2_listInstructions 62 = .ok (.iload 4, 2) := by decide +kernel
theorem dX2_listInstructions_64 : decode cX2_listInstructions 64 = .ok (.aload_n 0, 1) := by decide +kernel
theorem dX2_listInstructions_65 : decode cX2_listInstructions 65 = .ok (.getfield 21, 3) := by decide +kernel
theorem dX2_listInstructions_68 : decode cX2_listInstructions 68 = .ok (.iload 4, 2) := by decide +kernel
theorem dX2_listInstructions_70 : decode cX2_listInstructions 70 = .ok (.iaload, 1) := by decide +kernel
theorem dX2_listInstructions_71 : decode cX2_listInstructions 71 = .ok (.iadd, 1) := by decide +kernel
theorem dX2_listInstructions_72 : decode cX2_listInstructions 72 = .ok (.istore_n 3, 1) := by decide +kernel
theorem dX2_listInstructions_73 : decode cX2_listInstructions 73 = .ok (.iinc 4 1, 3) := by decide +kernel
theorem dX2_listInstructions_76 : decode cX2_listInstructions 76 = .ok (.goto (-61), 3) := by decide +kernel
theorem dX2_listInstructions_79 : decode cX2_listInstructions 79 = .ok (.return_, 1) := by decide +kernel
theorem dX3_init_0 : decode cX3_init 0 = .ok (.aload_n 0, 1) := by decide +kernel
theorem dX3_init_1 : decode cX3_init 1 = .ok (.invokespecial 1, 3) := by decide +kernel
theorem dX3_init_4 : decode cX3_init 4 = .ok (.aload_n 0, 1) := by decide +kernel
theorem dX3_init_5 : decode cX3_init 5 = .ok (.iload_n 1, 1) := by decide +kernel
theorem dX3_init_6 : decode cX3_init 6 = .ok (.iconst 0, 1) := by decide +kernel
theorem dX3_init_7 : decode cX3_init 7 = .ok (.invokestatic 7, 3) := by decide +kernel
theorem dX3_init_10 : decode cX3_init 10 = .ok (.newarray .int, 2) := by decide +kernel
theorem dX3_init_12 : decode cX3_init 12 = .ok (.putfield 13, 3) := by decide +kernel
theorem dX3_init_15 : decode cX3_init 15 = .ok (.aload_n 0, 1) := by decide +kernel
theorem dX3_init_16 : decode cX3_init 16 = .ok (.iconst 0, 1) := by decide +kernel
theorem dX3_init_17 : decode cX3_init 17 = .ok (.putfield 19, 3) := by decide +kernel
theorem dX3_init_20 : decode cX3_init 20 = .ok (.return_, 1) := by decide +kernel
theorem dX3_count_0 : decode cX3_count 0 = .ok (.aload_n 0, 1) := by decide +kernel
theorem dX3_count_1 : decode cX3_count 1 = .ok (.getfield 19, 3) := by decide +kernel
theorem dX3_count_4 : decode cX3_count 4 = .ok (.ireturn, 1) := by decide +kernel
theorem dX3_holds_0 : decode cX3_holds 0 = .ok (.iload_n 1, 1) := by decide +kernel
theorem dX3_holds_1 : decode cX3_holds 1 = .ok (.ifCond .lt 24, 3) := by decide +kernel
theorem dX3_holds_4 : decode cX3_holds 4 = .ok (.iload_n 1, 1) := by decide +kernel
theorem dX3_holds_5 : decode cX3_holds 5 = .ok (.aload_n 0, 1) := by decide +kernel
theorem dX3_holds_6 : decode cX3_holds 6 = .ok (.getfield 19, 3) := by decide +kernel
theorem dX3_holds_9 : decode cX3_holds 9 = .ok (.if_icmp .ge 16, 3) := by decide +kernel
theorem dX3_holds_12 : decode cX3_holds 12 = .ok (.iload_n 1, 1) := by decide +kernel
theorem dX3_holds_13 : decode cX3_holds 13 = .ok (.aload_n 0, 1) := by decide +kernel
theorem dX3_holds_14 : decode cX3_holds 14 = .ok (.getfield 13, 3) := by decide +kernel
theorem dX3_holds_17 : decode cX3_holds 17 = .ok (.arraylength, 1) := by decide +kernel
theorem dX3_holds_18 : decode cX3_holds 18 = .ok (.if_icmp .ge 7, 3) := by decide +kernel
theorem dX3_holds_21 : decode cX3_holds 21 = .ok (.iconst 1, 1) := by decide +kernel
theorem dX3_holds_22 : decode cX3_holds 22 = .ok (.goto 4, 3) := by decide +kernel
theorem dX3_holds_25 : decode cX3_holds 25 = .ok (.iconst 0, 1) := by decide +kernel
theorem dX3_holds_26 : decode cX3_holds 26 = .ok (.ireturn, 1) := by decide +kernel
theorem dX3_hasRoom_0 : decode cX3_hasRoom 0 = .ok (.iload_n 1, 1) := by decide +kernel
theorem dX3_hasRoom_1 : decode cX3_hasRoom 1 = .ok (.aload_n 0, 1) := by decide +kernel
theorem dX3_hasRoom_2 : decode cX3_hasRoom 2 = .ok (.getfield 13, 3) := by decide +kernel
theorem dX3_hasRoom_5 : decode cX3_hasRoom 5 = .ok (.arraylength, 1) := by decide +kernel
theorem dX3_hasRoom_6 : decode cX3_hasRoom 6 = .ok (.aload_n 0, 1) := by decide +kernel
theorem dX3_hasRoom_7 : decode cX3_hasRoom 7 = .ok (.getfield 19, 3) := by decide +kernel
theorem dX3_hasRoom_10 : decode cX3_hasRoom 10 = .ok (.isub, 1) := by decide +kernel
theorem dX3_hasRoom_11 : decode cX3_hasRoom 11 = .ok (.if_icmp .gt 7, 3) := by decide +kernel
theorem dX3_hasRoom_14 : decode cX3_hasRoom 14 = .ok (.iconst 1, 1) := by decide +kernel
theorem dX3_hasRoom_15 : decode cX3_hasRoom 15 = .ok (.goto 4, 3) := by decide +kernel
theorem dX3_hasRoom_19 : decode cX3_hasRoom 19 = .ok (.ireturn, 1) := by decide +kernel
set_option maxRecDepth 20000 in
theorem ggX3_at_X3_holds : GoodIn wsX3_at wsX3_holds := goodIn_r _ [6, 7, 1, 8, 9] (by decide +kernel) (by decide +kernel)
set_option maxRecDepth 20000 in
theorem gX3_at_X3_holds : GoodIn wsX3_at (wsV RX3 23 RX3 yX3_holds wsX3_holds) := goodIn_app (goodIn_of _ (by decide +kernel)) ggX3_at_X3_holds
theorem dX3_at_0 : decode cX3_at 0 = .ok (.aload_n 0, 1) := by decide +kernel
theorem dX3_at_1 : decode cX3_at 1 = .ok (.iload_n 1, 1) := by decide +kernel
theorem dX3_at_2 : decode cX3_at 2 = .ok (.invokevirtual 23, 3) := by decide +kernel
theorem dX3_at_5 : decode cX3_at 5 = .ok (.ifCond .eq 12, 3) := by decide +kernel
theorem dX3_at_8 : decode cX3_at 8 = .ok (.aload_n 0, 1) := by decide +kernel
theorem dX3_at_9 : decode cX3_at 9 = .ok (.getfield 13, 3) := by decide +kernel
theorem dX3_at_12 : decode cX3_at 12 = .ok (.iload_n 1, 1) := by decide +kernel
theorem dX3_at_13 : decode cX3_at 13 = .ok (.iaload, 1) := by decide +kernel
theorem dX3_at_14 : decode cX3_at 14 = .ok (.goto 4, 3) := by decide +kernel
theorem dX3_at_17 : decode cX3_at 17 = .ok (.iconst 0, 1) := by decide +kernel
theorem dX3_at_18 : decode cX3_at 18 = .ok (.ireturn, 1) := by decide +kernel
theorem dX3_append_0 : decode cX3_append 0 = .ok (.aload_n 0, 1) := by decide +kernel
theorem dX3_append_1 : decode cX3_append 1 = .ok (.getfield 19, 3) := by decide +kernel
theorem dX3_append_4 : decode cX3_append 4 = .ok (.ifCond .lt 35, 3) := by decide +kernel
theorem dX3_append_7 : decode cX3_append 7 = .ok (.aload_n 0, 1) := by decide +kernel
theorem dX3_append_8 : decode cX3_append 8 = .ok (.getfield 19, 3) := by decide +kernel
theorem dX3_append_11 : decode cX3_append 11 = .ok (.aload_n 0, 1) := by decide +kernel
theorem dX3_append_12 : decode cX3_append 12 = .ok (.getfield 13, 3) := by decide +kernel
theorem dX3_append_15 : decode cX3_append 15 = .ok (.arraylength, 1) := by decide +kernel
theorem dX3_append_16 : decode cX3_append 16 = .ok (.if_icmp .ge 23, 3) := by decide +kernel
theorem dX3_append_19 : decode cX3_append 19 = .ok (.aload_n 0, 1) := by decide +kernel
theorem dX3_append_20 : decode cX3_append 20 = .ok (.getfield 13, 3) := by decide +kernel
theorem dX3_append_23 : decode cX3_append 23 = .ok (.aload_n 0, 1) := by decide +kernel
theorem dX3_append_24 : decode cX3_append 24 = .ok (.getfield 19, 3) := by decide +kernel
theorem dX3_append_27 : decode cX3_append 27 = .ok (.iload_n 1, 1) := by decide +kernel
theorem dX3_append_28 : decode cX3_append 28 = .ok (.iastore, 1) := by decide +kernel
theorem dX3_append_29 : decode cX3_append 29 = .ok (.aload_n 0, 1) := by decide +kernel
theorem dX3_append_30 : decode cX3_append 30 = .ok (.dup, 1) := by decide +kernel
theorem dX3_append_31 : decode cX3_append 31 = .ok (.getfield 19, 3) := by decide +kernel
theorem dX3_append_34 : decode cX3_append 34 = .ok (.iconst 1, 1) := by decide +kernel
theorem dX3_append_35 : decode cX3_append 35 = .ok (.iadd, 1) := by decide +kernel
theorem dX3_append_36 : decode cX3_append 36 = .ok (.putfield 19, 3) := by decide +kernel
theorem dX3_append_39 : decode cX3_append 39 = .ok (.return_, 1) := by decide +kernel
theorem dX3_clear_0 : decode cX3_clear 0 = .ok (.aload_n 0, 1) := by decide +kernel
theorem dX3_clear_1 : decode cX3_clear 1 = .ok (.iconst 0, 1) := by decide +kernel
theorem dX3_clear_2 : decode cX3_clear 2 = .ok (.putfield 19, 3) := by decide +kernel
theorem dX3_clear_5 : decode cX3_clear 5 = .ok (.return_, 1) := by decide +kernel
theorem dJ7_fill_53178_0 : decode cJ7_fill_53178 0 = .ok (.iconst 0, 1) := by decide +kernel
theorem dJ7_fill_53178_1 : decode cJ7_fill_53178 1 = .ok (.istore_n 2, 1) := by decide +kernel
theorem dJ7_fill_53178_2 : decode cJ7_fill_53178 2 = .ok (.aload_n 0, 1) := by decide +kernel
theorem dJ7_fill_53178_3 : decode cJ7_fill_53178 3 = .ok (.arraylength, 1) := by decide +kernel
theorem dJ7_fill_53178_4 : decode cJ7_fill_53178 4 = .ok (.istore_n 3, 1) := by decide +kernel
theorem dJ7_fill_53178_5 : decode cJ7_fill_53178 5 = .ok (.iload_n 2, 1) := by decide +kernel
theorem dJ7_fill_53178_6 : decode cJ7_fill_53178 6 = .ok (.iload_n 3, 1) := by decide +kernel
theorem dJ7_fill_53178_7 : decode cJ7_fill_53178 7 = .ok (.if_icmp .ge 13, 3) := by decide +kernel
theorem dJ7_fill_53178_10 : decode cJ7_fill_53178 10 = .ok (.aload_n 0, 1) := by decide +kernel
theorem dJ7_fill_53178_11 : decode cJ7_fill_53178 11 = .ok (.iload_n 2, 1) := by decide +kernel
theorem dJ7_fill_53178_12 : decode cJ7_fill_53178 12 = .ok (.iload_n 1, 1) := by decide +kernel
theorem dJ7_fill_53178_13 : decode cJ7_fill_53178 13 = .ok (.iastore, 1) := by decide +kernel
theorem dJ7_fill_53178_14 : decode cJ7_fill_53178 14 = .ok (.iinc 2 1, 3) := by decide +kernel
theorem dJ7_fill_53178_17 : decode cJ7_fill_53178 17 = .ok (.goto (-12), 3) := by decide +kernel
theorem dJ7_fill_53178_20 : decode cJ7_fill_53178 20 = .ok (.return_, 1) := by decide +kernel
