theorem dX5_init_0 : decode cX5_init 0 = .ok (.aload_n 0, 1) := by decide +kernel
theorem dX5_init_1 : decode cX5_init 1 = .ok (.invokespecial 1, 3) := by decide +kernel
theorem dX5_init_4 : decode cX5_init 4 = .ok (.aload_n 0, 1) := by decide +kernel
theorem dX5_init_5 : decode cX5_init 5 = .ok (.sipush 150, 3) := by decide +kernel
theorem dX5_init_8 : decode cX5_init 8 = .ok (.newarray .int, 2) := by decide +kernel
theorem dX5_init_10 : decode cX5_init 10 = .ok (.putfield 9, 3) := by decide +kernel
theorem dX5_init_13 : decode cX5_init 13 = .ok (.aload_n 0, 1) := by decide +kernel
theorem dX5_init_14 : decode cX5_init 14 = .ok (.sipush 150, 3) := by decide +kernel
theorem dX5_init_17 : decode cX5_init 17 = .ok (.newarray .int, 2) := by decide +kernel
theorem dX5_init_19 : decode cX5_init 19 = .ok (.putfield 13, 3) := by decide +kernel
theorem dX5_init_22 : decode cX5_init 22 = .ok (.aload_n 0, 1) := by decide +kernel
theorem dX5_init_23 : decode cX5_init 23 = .ok (.iconst 3, 1) := by decide +kernel
theorem dX5_init_24 : decode cX5_init 24 = .ok (.putfield 16, 3) := by decide +kernel
theorem dX5_init_27 : decode cX5_init 27 = .ok (.aload_n 0, 1) := by decide +kernel
theorem dX5_init_28 : decode cX5_init 28 = .ok (.sipush 150, 3) := by decide +kernel
theorem dX5_init_31 : decode cX5_init 31 = .ok (.newarray .int, 2) := by decide +kernel
theorem dX5_init_33 : decode cX5_init 33 = .ok (.putfield 20, 3) := by decide +kernel
theorem dX5_init_36 : decode cX5_init 36 = .ok (.aload_n 0, 1) := by decide +kernel
theorem dX5_init_37 : decode cX5_init 37 = .ok (.sipush 150, 3) := by decide +kernel
theorem dX5_init_40 : decode cX5_init 40 = .ok (.newarray .int, 2) := by decide +kernel
theorem dX5_init_42 : decode cX5_init 42 = .ok (.putfield 23, 3) := by decide +kernel
theorem dX5_init_45 : decode cX5_init 45 = .ok (.aload_n 0, 1) := by decide +kernel
theorem dX5_init_46 : decode cX5_init 46 = .ok (.sipush 150, 3) := by decide +kernel
theorem dX5_init_49 : decode cX5_init 49 = .ok (.newarray .int, 2) := by decide +kernel
theorem dX5_init_51 : decode cX5_init 51 = .ok (.putfield 26, 3) := by decide +kernel
theorem dX5_init_54 : decode cX5_init 54 = .ok (.aload_n 0, 1) := by decide +kernel
theorem dX5_init_55 : decode cX5_init 55 = .ok (.sipush 150, 3) := by decide +kernel
theorem dX5_init_58 : decode cX5_init 58 = .ok (.newarray .int, 2) := by decide +kernel
theorem dX5_init_60 : decode cX5_init 60 = .ok (.putfield 29, 3) := by decide +kernel
theorem dX5_init_63 : decode cX5_init 63 = .ok (.aload_n 0, 1) := by decide +kernel
theorem dX5_init_64 : decode cX5_init 64 = .ok (.sipush 400, 3) := by decide +kernel
theorem dX5_init_67 : decode cX5_init 67 = .ok (.newarray .int, 2) := by decide +kernel
theorem dX5_init_69 : decode cX5_init 69 = .ok (.putfield 32, 3) := by decide +kernel
theorem dX5_init_72 : decode cX5_init 72 = .ok (.aload_n 0, 1) := by decide +kernel
theorem dX5_init_73 : decode cX5_init 73 = .ok (.sipush 300, 3) := by decide +kernel
theorem dX5_init_76 : decode cX5_init 76 = .ok (.newarray .int, 2) := by decide +kernel
theorem dX5_init_78 : decode cX5_init 78 = .ok (.putfield 35, 3) := by decide +kernel
theorem dX5_init_81 : decode cX5_init 81 = .ok (.aload_n 0, 1) := by decide +kernel
theorem dX5_init_82 : decode cX5_init 82 = .ok (.iconst (-1), 1) := by decide +kernel
theorem dX5_init_83 : decode cX5_init 83 = .ok (.putfield 38, 3) := by decide +kernel
theorem dX5_init_86 : decode cX5_init 86 = .ok (.aload_n 0, 1) := by decide +kernel
theorem dX5_init_87 : decode cX5_init 87 = .ok (.sipush 151, 3) := by decide +kernel
theorem dX5_init_90 : decode cX5_init 90 = .ok (.newarray .int, 2) := by decide +kernel
theorem dX5_init_92 : decode cX5_init 92 = .ok (.putfield 41, 3) := by decide +kernel
theorem dX5_init_95 : decode cX5_init 95 = .ok (.aload_n 0, 1) := by decide +kernel
theorem dX5_init_96 : decode cX5_init 96 = .ok (.sipush 151, 3) := by decide +kernel
theorem dX5_init_99 : decode cX5_init 99 = .ok (.newarray .int, 2) := by decide +kernel
theorem dX5_init_101 : decode cX5_init 101 = .ok (.putfield 44, 3) := by decide +kernel
theorem dX5_init_104 : decode cX5_init 104 = .ok (.aload_n 0, 1) := by decide +kernel
theorem dX5_init_105 : decode cX5_init 105 = .ok (.sipush 151, 3) := by decide +kernel
theorem dX5_init_108 : decode cX5_init 108 = .ok (.newarray .int, 2) := by decide +kernel
theorem dX5_init_110 : decode cX5_init 110 = .ok (.putfield 47, 3) := by decide +kernel
theorem dX5_init_113 : decode cX5_init 113 = .ok (.aload_n 0, 1) := by decide +kernel
theorem dX5_init_114 : decode cX5_init 114 = .ok (.sipush 151, 3) := by decide +kernel
theorem dX5_init_117 : decode cX5_init 117 = .ok (.newarray .int, 2) := by decide +kernel
theorem dX5_init_119 : decode cX5_init 119 = .ok (.putfield 50, 3) := by decide +kernel
theorem dX5_init_122 : decode cX5_init 122 = .ok (.aload_n 0, 1) := by decide +kernel
theorem dX5_init_123 : decode cX5_init 123 = .ok (.sipush 151, 3) := by decide +kernel
theorem dX5_init_126 : decode cX5_init 126 = .ok (.newarray .int, 2) := by decide +kernel
theorem dX5_init_128 : decode cX5_init 128 = .ok (.putfield 53, 3) := by decide +kernel
theorem dX5_init_131 : decode cX5_init 131 = .ok (.return_, 1) := by decide +kernel
theorem dX5_isIn_0 : decode cX5_isIn 0 = .ok (.iload_n 0, 1) := by decide +kernel
theorem dX5_isIn_1 : decode cX5_isIn 1 = .ok (.iload_n 1, 1) := by decide +kernel
theorem dX5_isIn_2 : decode cX5_isIn 2 = .ok (.if_icmp .lt 12, 3) := by decide +kernel
theorem dX5_isIn_5 : decode cX5_isIn 5 = .ok (.iload_n 0, 1) := by decide +kernel
theorem dX5_isIn_6 : decode cX5_isIn 6 = .ok (.iload_n 2, 1) := by decide +kernel
theorem dX5_isIn_7 : decode cX5_isIn 7 = .ok (.if_icmp .gt 7, 3) := by decide +kernel
theorem dX5_isIn_10 : decode cX5_isIn 10 = .ok (.iconst 1, 1) := by decide +kernel
theorem dX5_isIn_11 : decode cX5_isIn 11 = .ok (.goto 4, 3) := by decide +kernel
theorem dX5_isIn_14 : decode cX5_isIn 14 = .ok (.iconst 0, 1) := by decide +kernel
theorem dX5_isIn_15 : decode cX5_isIn 15 = .ok (.ireturn, 1) := by decide +kernel
theorem dX5_isSide_0 : decode cX5_isSide 0 = .ok (.iload_n 0, 1) := by decide +kernel
theorem dX5_isSide_1 : decode cX5_isSide 1 = .ok (.ifCond .eq 8, 3) := by decide +kernel
theorem dX5_isSide_4 : decode cX5_isSide 4 = .ok (.iload_n 0, 1) := by decide +kernel
theorem dX5_isSide_5 : decode cX5_isSide 5 = .ok (.iconst 1, 1) := by decide +kernel
theorem dX5_isSide_6 : decode cX5_isSide 6 = .ok (.if_icmp .ne 7, 3) := by decide +kernel
theorem dX5_isSide_9 : decode cX5_isSide 9 = .ok (.iconst 1, 1) := by decide +kernel
theorem dX5_isSide_10 : decode cX5_isSide 10 = .ok (.goto 4, 3) := by decide +kernel
theorem dX5_isSide_13 : decode cX5_isSide 13 = .ok (.iconst 0, 1) := by decide +kernel
theorem dX5_isSide_14 : decode cX5_isSide 14 = .ok (.ireturn, 1) := by decide +kernel
theorem dX5_sizeOf_0 : decode cX5_sizeOf 0 = .ok (.iload_n 1, 1) := by decide +kernel
theorem dX5_sizeOf_1 : decode cX5_sizeOf 1 = .ok (.ifCond .ne 10, 3) := by decide +kernel
theorem dX5_sizeOf_11 : decode cX5_sizeOf 11 = .ok (.aload_n 0, 1) := by decide +kernel
theorem dX5_sizeOf_12 : decode cX5_sizeOf 12 = .ok (.getfield 62, 3) := by decide +kernel
theorem dX5_sizeOf_15 : decode cX5_sizeOf 15 = .ok (.ireturn, 1) := by decide +kernel
theorem dX5_stringOf_0 : decode cX5_stringOf 0 = .ok (.iload_n 1, 1) := by decide +kernel
theorem dX5_stringOf_1 : decode cX5_stringOf 1 = .ok (.ifCond .ne 10, 3) := by decide +kernel
theorem dX5_stringOf_11 : decode cX5_stringOf 11 = .ok (.aload_n 0, 1) := by decide +kernel
theorem dX5_stringOf_12 : decode cX5_stringOf 12 = .ok (.getfield 13, 3) := by decide +kernel
theorem dX5_stringOf_15 : decode cX5_stringOf 15 = .ok (.areturn, 1) := by decide +kernel
theorem dX5_setSize_0 : decode cX5_setSize 0 = .ok (.iload_n 1, 1) := by decide +kernel
theorem dX5_setSize_1 : decode cX5_setSize 1 = .ok (.ifCond .ne 11, 3) := by decide +kernel
theorem dX5_setSize_12 : decode cX5_setSize 12 = .ok (.aload_n 0, 1) := by decide +kernel
theorem dX5_setSize_13 : decode cX5_setSize 13 = .ok (.iload_n 2, 1) := by decide +kernel
theorem dX5_setSize_14 : decode cX5_setSize 14 = .ok (.putfield 62, 3) := by decide +kernel
theorem dX5_setSize_17 : decode cX5_setSize 17 = .ok (.aload_n 0, 1) := by decide +kernel
theorem dX5_setSize_18 : decode cX5_setSize 18 = .ok (.iconst 0, 1) := by decide +kernel
theorem dX5_setSize_19 : decode cX5_setSize 19 = .ok (.putfield 65, 3) := by decide +kernel
theorem dX5_setSize_22 : decode cX5_setSize 22 = .ok (.return_, 1) := by decide +kernel
set_option maxRecDepth 20000 in
theorem ggX5_fill_X5_isSide : GoodIn wsX5_fill wsX5_isSide := goodIn_r _ [5] (by decide +kernel) (by decide +kernel)
set_option maxRecDepth 20000 in
theorem gX5_fill_X5_isSide : GoodIn wsX5_fill (va_wsS RX5 69 yX5_isSide wsX5_isSide) := goodIn_app (goodIn_of _ (by decide +kernel)) ggX5_fill_X5_isSide
set_option maxRecDepth 20000 in
theorem ggX5_fill_X5_isIn : GoodIn wsX5_fill wsX5_isIn := goodIn_r _ [12] (by decide +kernel) (by decide +kernel)
set_option maxRecDepth 20000 in
theorem gX5_fill_X5_isIn : GoodIn wsX5_fill (va_wsS RX5 77 yX5_isIn wsX5_isIn) := goodIn_app (goodIn_of _ (by decide +kernel)) ggX5_fill_X5_isIn
set_option maxRecDepth 20000 in
theorem ggX5_fill_X5_sizeOf : GoodIn wsX5_fill wsX5_sizeOf := goodIn_r _ [16, 17, 18, 30, 31, 32, 33, 34, 35, 36, 37, 38, 39, 40, 41, 42, 43, 44, 45, 46, 47, 48, 49, 50, 51, 52, 53, 54] (by decide +kernel) (by decide +kernel)
set_option maxRecDepth 20000 in
theorem gX5_fill_X5_sizeOf : GoodIn wsX5_fill (wsV RX5 81 RX5 yX5_sizeOf wsX5_sizeOf) := goodIn_app (goodIn_of _ (by decide +kernel)) ggX5_fill_X5_sizeOf
set_option maxRecDepth 20000 in
theorem ggX5_fill_X5_stringOf : GoodIn wsX5_fill wsX5_stringOf := goodIn_r _ [22, 23, 24, 30, 31, 32, 33, 34, 35, 36, 37, 38, 39, 40, 41, 42, 43, 44, 45, 46, 47, 48, 49, 50, 51, 52, 53, 54] (by decide +kernel) (by decide +kernel)
set_option maxRecDepth 20000 in
theorem gX5_fill_X5_stringOf : GoodIn wsX5_fill (wsV RX5 84 RX5 yX5_stringOf wsX5_stringOf) := goodIn_app (goodIn_of _ (by decide +kernel)) ggX5_fill_X5_stringOf
set_option maxRecDepth 20000 in
theorem ggX5_fill_X5_setSize : GoodIn wsX5_fill wsX5_setSize := goodIn_r _ [28, 17, 18, 29, 30, 31, 32, 33, 34, 35, 36, 37, 38, 39, 40, 41, 42, 43, 44, 45, 46, 47, 48, 49, 50, 51, 52, 53, 54] (by decide +kernel) (by decide +kernel)
set_option maxRecDepth 20000 in
theorem gX5_fill_X5_setSize : GoodIn wsX5_fill (wsV RX5 90 RX5 yX5_setSize wsX5_setSize) := goodIn_app (goodIn_of _ (by decide +kernel)) ggX5_fill_X5_setSize
theorem dX5_fill_0 : decode cX5_fill 0 = .ok (.aload_n 0, 1) := by decide +kernel
theorem dX5_fill_1 : decode cX5_fill 1 = .ok (.iconst 0, 1) := by decide +kernel
theorem dX5_fill_2 : decode cX5_fill 2 = .ok (.putfield 56, 3) := by decide +kernel
theorem dX5_fill_5 : decode cX5_fill 5 = .ok (.iload_n 1, 1) := by decide +kernel
theorem dX5_fill_6 : decode cX5_fill 6 = .ok (.invokestatic 69, 3) := by decide +kernel
theorem dX5_fill_9 : decode cX5_fill 9 = .ok (.ifCond .ne 9, 3) := by decide +kernel
theorem dX5_fill_18 : decode cX5_fill 18 = .ok (.iload_n 2, 1) := by decide +kernel
theorem dX5_fill_19 : decode cX5_fill 19 = .ok (.iconst 0, 1) := by decide +kernel
theorem dX5_fill_20 : decode cX5_fill 20 = .ok (.sipush 255, 3) := by decide +kernel
theorem dX5_fill_23 : decode cX5_fill 23 = .ok (.invokestatic 77, 3) := by decide +kernel
theorem dX5_fill_26 : decode cX5_fill 26 = .ok (.ifCond .eq 14, 3) := by decide +kernel
theorem dX5_fill_29 : decode cX5_fill 29 = .ok (.iload_n 3, 1) := by decide +kernel
theorem dX5_fill_30 : decode cX5_fill 30 = .ok (.iconst 1, 1) := by decide +kernel
theorem dX5_fill_31 : decode cX5_fill 31 = .ok (.sipush 150, 3) := by decide +kernel
theorem dX5_fill_34 : decode cX5_fill 34 = .ok (.invokestatic 77, 3) := by decide +kernel
theorem dX5_fill_37 : decode cX5_fill 37 = .ok (.ifCond .ne 9, 3) := by decide +kernel
theorem dX5_fill_46 : decode cX5_fill 46 = .ok (.aload_n 0, 1) := by decide +kernel
theorem dX5_fill_47 : decode cX5_fill 47 = .ok (.iload_n 1, 1) := by decide +kernel
theorem dX5_fill_48 : decode cX5_fill 48 = .ok (.invokevirtual 81, 3) := by decide +kernel
theorem dX5_fill_51 : decode cX5_fill 51 = .ok (.istore 4, 2) := by decide +kernel
theorem dX5_fill_53 : decode cX5_fill 53 = .ok (.iload 4, 2) := by decide +kernel
theorem dX5_fill_55 : decode cX5_fill 55 = .ok (.iload_n 3, 1) := by decide +kernel
theorem dX5_fill_56 : decode cX5_fill 56 = .ok (.iadd, 1) := by decide +kernel
theorem dX5_fill_57 : decode cX5_fill 57 = .ok (.sipush 150, 3) := by decide +kernel
theorem dX5_fill_60 : decode cX5_fill 60 = .ok (.if_icmp .le 9, 3) := by decide +kernel
theorem dX5_fill_69 : decode cX5_fill 69 = .ok (.iconst 0, 1) := by decide +kernel
theorem dX5_fill_70 : decode cX5_fill 70 = .ok (.istore 5, 2) := by decide +kernel
theorem dX5_fill_72 : decode cX5_fill 72 = .ok (.iload 5, 2) := by decide +kernel
theorem dX5_fill_74 : decode cX5_fill 74 = .ok (.iload_n 3, 1) := by decide +kernel
theorem dX5_fill_75 : decode cX5_fill 75 = .ok (.if_icmp .ge 21, 3) := by decide +kernel
theorem dX5_fill_78 : decode cX5_fill 78 = .ok (.aload_n 0, 1) := by decide +kernel
theorem dX5_fill_79 : decode cX5_fill 79 = .ok (.iload_n 1, 1) := by decide +kernel
theorem dX5_fill_80 : decode cX5_fill 80 = .ok (.invokevirtual 84, 3) := by decide +kernel
theorem dX5_fill_83 : decode cX5_fill 83 = .ok (.iload 4, 2) := by decide +kernel
theorem dX5_fill_85 : decode cX5_fill 85 = .ok (.iload 5, 2) := by decide +kernel
theorem dX5_fill_87 : decode cX5_fill 87 = .ok (.iadd, 1) := by decide +kernel
theorem dX5_fill_88 : decode cX5_fill 88 = .ok (.iload_n 2, 1) := by decide +kernel
theorem dX5_fill_89 : decode cX5_fill 89 = .ok (.iastore, 1) := by decide +kernel
theorem dX5_fill_90 : decode cX5_fill 90 = .ok (.iinc 5 1, 3) := by decide +kernel
theorem dX5_fill_93 : decode cX5_fill 93 = .ok (.goto (-21), 3) := by decide +kernel
theorem dX5_fill_96 : decode cX5_fill 96 = .ok (.aload_n 0, 1) := by decide +kernel
theorem dX5_fill_97 : decode cX5_fill 97 = .ok (.iload_n 1, 1) := by decide +kernel
theorem dX5_fill_98 : decode cX5_fill 98 = .ok (.iload 4, 2) := by decide +kernel
theorem dX5_fill_100 : decode cX5_fill 100 = .ok (.iload_n 3, 1) := by decide +kernel
theorem dX5_fill_101 : decode cX5_fill 101 = .ok (.iadd, 1) := by decide +kernel
theorem dX5_fill_102 : decode cX5_fill 102 = .ok (.invokevirtual 90, 3) := by decide +kernel
theorem dX5_fill_105 : decode cX5_fill 105 = .ok (.iload 4, 2) := by decide +kernel
theorem dX5_fill_107 : decode cX5_fill 107 = .ok (.iload_n 3, 1) := by decide +kernel
theorem dX5_fill_108 : decode cX5_fill 108 = .ok (.iadd, 1) := by decide +kernel
theorem dX5_fill_109 : decode cX5_fill 109 = .ok (.ireturn, 1) := by decide +kernel
theorem dX5_common_0 : decode cX5_common 0 = .ok (.iconst 0, 1) := by decide +kernel
theorem dX5_common_1 : decode cX5_common 1 = .ok (.istore 4, 2) := by decide +kernel
theorem dX5_common_3 : decode cX5_common 3 = .ok (.iload_n 1, 1) := by decide +kernel
theorem dX5_common_4 : decode cX5_common 4 = .ok (.iload 4, 2) := by decide +kernel
theorem dX5_common_6 : decode cX5_common 6 = .ok (.iadd, 1) := by decide +kernel
theorem dX5_common_7 : decode cX5_common 7 = .ok (.aload_n 0, 1) := by decide +kernel
theorem dX5_common_8 : decode cX5_common 8 = .ok (.getfield 62, 3) := by decide +kernel
theorem dX5_common_11 : decode cX5_common 11 = .ok (.if_icmp .ge 62, 3) := by decide +kernel
theorem dX5_common_14 : decode cX5_common 14 = .ok (.iload_n 2, 1) := by decide +kernel
theorem dX5_common_15 : decode cX5_common 15 = .ok (.iconst 1, 1) := by decide +kernel
theorem dX5_common_16 : decode cX5_common 16 = .ok (.if_icmp .eq 14, 3) := by decide +kernel
theorem dX5_common_30 : decode cX5_common 30 = .ok (.aload_n 0, 1) := by decide +kernel
theorem dX5_common_31 : decode cX5_common 31 = .ok (.getfield 13, 3) := by decide +kernel
theorem dX5_common_34 : decode cX5_common 34 = .ok (.iload_n 1, 1) := by decide +kernel
theorem dX5_common_35 : decode cX5_common 35 = .ok (.iload 4, 2) := by decide +kernel
theorem dX5_common_37 : decode cX5_common 37 = .ok (.iadd, 1) := by decide +kernel
theorem dX5_common_38 : decode cX5_common 38 = .ok (.iaload, 1) := by decide +kernel
theorem dX5_common_39 : decode cX5_common 39 = .ok (.iload_n 2, 1) := by decide +kernel
theorem dX5_common_40 : decode cX5_common 40 = .ok (.ifCond .ne 15, 3) := by decide +kernel
theorem dX5_common_55 : decode cX5_common 55 = .ok (.aload_n 0, 1) := by decide +kernel
theorem dX5_common_56 : decode cX5_common 56 = .ok (.getfield 13, 3) := by decide +kernel
theorem dX5_common_59 : decode cX5_common 59 = .ok (.iload_n 3, 1) := by decide +kernel
theorem dX5_common_60 : decode cX5_common 60 = .ok (.iload 4, 2) := by decide +kernel
theorem dX5_common_62 : decode cX5_common 62 = .ok (.iadd, 1) := by decide +kernel
theorem dX5_common_63 : decode cX5_common 63 = .ok (.iaload, 1) := by decide +kernel
theorem dX5_common_64 : decode cX5_common 64 = .ok (.if_icmp .ne 9, 3) := by decide +kernel
theorem dX5_common_67 : decode cX5_common 67 = .ok (.iinc 4 1, 3) := by decide +kernel
theorem dX5_common_70 : decode cX5_common 70 = .ok (.goto (-67), 3) := by decide +kernel
theorem dX5_common_73 : decode cX5_common 73 = .ok (.iload 4, 2) := by decide +kernel
theorem dX5_common_75 : decode cX5_common 75 = .ok (.ireturn, 1) := by decide +kernel
theorem dX5_places_0 : decode cX5_places 0 = .ok (.iload_n 2, 1) := by decide +kernel
theorem dX5_places_1 : decode cX5_places 1 = .ok (.ifCond .ne 10, 3) := by decide +kernel
theorem dX5_places_4 : decode cX5_places 4 = .ok (.aload_n 0, 1) := by decide +kernel
theorem dX5_places_5 : decode cX5_places 5 = .ok (.getfield 59, 3) := by decide +kernel
theorem dX5_places_8 : decode cX5_places 8 = .ok (.goto 4, 3) := by decide +kernel
theorem dX5_places_11 : decode cX5_places 11 = .ok (.iload_n 1, 1) := by decide +kernel
theorem dX5_places_12 : decode cX5_places 12 = .ok (.ireturn, 1) := by decide +kernel
set_option maxRecDepth 20000 in
theorem ggX5_setLeast_X5_isIn : GoodIn wsX5_setLeast wsX5_isIn := goodIn_r _ [7] (by decide +kernel) (by decide +kernel)
set_option maxRecDepth 20000 in
theorem gX5_setLeast_X5_isIn : GoodIn wsX5_setLeast (va_wsS RX5 77 yX5_isIn wsX5_isIn) := goodIn_app (goodIn_of _ (by decide +kernel)) ggX5_setLeast_X5_isIn
theorem dX5_setLeast_0 : decode cX5_setLeast 0 = .ok (.aload_n 0, 1) := by decide +kernel
theorem dX5_setLeast_1 : decode cX5_setLeast 1 = .ok (.iconst 0, 1) := by decide +kernel
theorem dX5_setLeast_2 : decode cX5_setLeast 2 = .ok (.putfield 56, 3) := by decide +kernel
theorem dX5_setLeast_5 : decode cX5_setLeast 5 = .ok (.iload_n 1, 1) := by decide +kernel
theorem dX5_setLeast_6 : decode cX5_setLeast 6 = .ok (.iconst 1, 1) := by decide +kernel
theorem dX5_setLeast_7 : decode cX5_setLeast 7 = .ok (.bipush 20, 2) := by decide +kernel
theorem dX5_setLeast_9 : decode cX5_setLeast 9 = .ok (.invokestatic 77, 3) := by decide +kernel
theorem dX5_setLeast_12 : decode cX5_setLeast 12 = .ok (.ifCond .ne 9, 3) := by decide +kernel
theorem dX5_setLeast_21 : decode cX5_setLeast 21 = .ok (.aload_n 0, 1) := by decide +kernel
theorem dX5_setLeast_22 : decode cX5_setLeast 22 = .ok (.getfield 16, 3) := by decide +kernel
theorem dX5_setLeast_25 : decode cX5_setLeast 25 = .ok (.istore_n 2, 1) := by decide +kernel
theorem dX5_setLeast_26 : decode cX5_setLeast 26 = .ok (.aload_n 0, 1) := by decide +kernel
theorem dX5_setLeast_27 : decode cX5_setLeast 27 = .ok (.iload_n 1, 1) := by decide +kernel
theorem dX5_setLeast_28 : decode cX5_setLeast 28 = .ok (.putfield 16, 3) := by decide +kernel
theorem dX5_setLeast_31 : decode cX5_setLeast 31 = .ok (.aload_n 0, 1) := by decide +kernel
theorem dX5_setLeast_32 : decode cX5_setLeast 32 = .ok (.iconst 0, 1) := by decide +kernel
theorem dX5_setLeast_33 : decode cX5_setLeast 33 = .ok (.putfield 65, 3) := by decide +kernel
theorem dX5_setLeast_36 : decode cX5_setLeast 36 = .ok (.iload_n 2, 1) := by decide +kernel
theorem dX5_setLeast_37 : decode cX5_setLeast 37 = .ok (.ireturn, 1) := by decide +kernel
theorem dX5_numberSize_0 : decode cX5_numberSize 0 = .ok (.iload_n 0, 1) := by decide +kernel
theorem dX5_numberSize_1 : decode cX5_numberSize 1 = .ok (.sipush 128, 3) := by decide +kernel
theorem dX5_numberSize_4 : decode cX5_numberSize 4 = .ok (.if_icmp .ge 7, 3) := by decide +kernel
theorem dX5_numberSize_7 : decode cX5_numberSize 7 = .ok (.iconst 1, 1) := by decide +kernel
theorem dX5_numberSize_8 : decode cX5_numberSize 8 = .ok (.goto 4, 3) := by decide +kernel
theorem dX5_numberSize_11 : decode cX5_numberSize 11 = .ok (.iconst 2, 1) := by decide +kernel
theorem dX5_numberSize_12 : decode cX5_numberSize 12 = .ok (.ireturn, 1) := by decide +kernel
set_option maxRecDepth 20000 in
theorem ggX5_headSize_X5_numberSize : GoodIn wsX5_headSize wsX5_numberSize := goodIn_r _ [4] (by decide +kernel) (by decide +kernel)
set_option maxRecDepth 20000 in
theorem gX5_headSize_X5_numberSize : GoodIn wsX5_headSize (va_wsS RX5 121 yX5_numberSize wsX5_numberSize) := goodIn_app (goodIn_of _ (by decide +kernel)) ggX5_headSize_X5_numberSize
theorem dX5_headSize_0 : decode cX5_headSize 0 = .ok (.iload_n 0, 1) := by decide +kernel
theorem dX5_headSize_1 : decode cX5_headSize 1 = .ok (.bipush 63, 2) := by decide +kernel
theorem dX5_headSize_3 : decode cX5_headSize 3 = .ok (.if_icmp .ge 7, 3) := by decide +kernel
theorem dX5_headSize_6 : decode cX5_headSize 6 = .ok (.iconst 1, 1) := by decide +kernel
theorem dX5_headSize_7 : decode cX5_headSize 7 = .ok (.goto 12, 3) := by decide +kernel
theorem dX5_headSize_10 : decode cX5_headSize 10 = .ok (.iconst 1, 1) := by decide +kernel
theorem dX5_headSize_11 : decode cX5_headSize 11 = .ok (.iload_n 0, 1) := by decide +kernel
theorem dX5_headSize_12 : decode cX5_headSize 12 = .ok (.bipush 63, 2) := by decide +kernel
theorem dX5_headSize_14 : decode cX5_headSize 14 = .ok (.isub, 1) := by decide +kernel
theorem dX5_headSize_15 : decode cX5_headSize 15 = .ok (.invokestatic 121, 3) := by decide +kernel
theorem dX5_headSize_18 : decode cX5_headSize 18 = .ok (.iadd, 1) := by decide +kernel
theorem dX5_headSize_19 : decode cX5_headSize 19 = .ok (.ireturn, 1) := by decide +kernel
theorem dX5_offer_0 : decode cX5_offer 0 = .ok (.iload 5, 2) := by decide +kernel
theorem dX5_offer_2 : decode cX5_offer 2 = .ok (.aload_n 0, 1) := by decide +kernel
theorem dX5_offer_3 : decode cX5_offer 3 = .ok (.getfield 41, 3) := by decide +kernel
theorem dX5_offer_6 : decode cX5_offer 6 = .ok (.iload_n 1, 1) := by decide +kernel
theorem dX5_offer_7 : decode cX5_offer 7 = .ok (.iload_n 3, 1) := by decide +kernel
theorem dX5_offer_8 : decode cX5_offer 8 = .ok (.iadd, 1) := by decide +kernel
theorem dX5_offer_9 : decode cX5_offer 9 = .ok (.iaload, 1) := by decide +kernel
theorem dX5_offer_10 : decode cX5_offer 10 = .ok (.iadd, 1) := by decide +kernel
theorem dX5_offer_11 : decode cX5_offer 11 = .ok (.istore 6, 2) := by decide +kernel
theorem dX5_offer_13 : decode cX5_offer 13 = .ok (.iconst 1, 1) := by decide +kernel
theorem dX5_offer_14 : decode cX5_offer 14 = .ok (.aload_n 0, 1) := by decide +kernel
theorem dX5_offer_15 : decode cX5_offer 15 = .ok (.getfield 44, 3) := by decide +kernel
theorem dX5_offer_18 : decode cX5_offer 18 = .ok (.iload_n 1, 1) := by decide +kernel
theorem dX5_offer_19 : decode cX5_offer 19 = .ok (.iload_n 3, 1) := by decide +kernel
theorem dX5_offer_20 : decode cX5_offer 20 = .ok (.iadd, 1) := by decide +kernel
theorem dX5_offer_21 : decode cX5_offer 21 = .ok (.iaload, 1) := by decide +kernel
theorem dX5_offer_22 : decode cX5_offer 22 = .ok (.iadd, 1) := by decide +kernel
theorem dX5_offer_23 : decode cX5_offer 23 = .ok (.istore 7, 2) := by decide +kernel
theorem dX5_offer_25 : decode cX5_offer 25 = .ok (.aload_n 0, 1) := by decide +kernel
theorem dX5_offer_26 : decode cX5_offer 26 = .ok (.getfield 41, 3) := by decide +kernel
theorem dX5_offer_29 : decode cX5_offer 29 = .ok (.iload_n 1, 1) := by decide +kernel
theorem dX5_offer_30 : decode cX5_offer 30 = .ok (.iaload, 1) := by decide +kernel
theorem dX5_offer_31 : decode cX5_offer 31 = .ok (.iconst (-1), 1) := by decide +kernel
theorem dX5_offer_32 : decode cX5_offer 32 = .ok (.if_icmp .eq 37, 3) := by decide +kernel
theorem dX5_offer_35 : decode cX5_offer 35 = .ok (.iload 6, 2) := by decide +kernel
theorem dX5_offer_37 : decode cX5_offer 37 = .ok (.aload_n 0, 1) := by decide +kernel
theorem dX5_offer_38 : decode cX5_offer 38 = .ok (.getfield 41, 3) := by decide +kernel
theorem dX5_offer_41 : decode cX5_offer 41 = .ok (.iload_n 1, 1) := by decide +kernel
theorem dX5_offer_42 : decode cX5_offer 42 = .ok (.iaload, 1) := by decide +kernel
theorem dX5_offer_43 : decode cX5_offer 43 = .ok (.if_icmp .gt 25, 3) := by decide +kernel
theorem dX5_offer_46 : decode cX5_offer 46 = .ok (.iload 6, 2) := by decide +kernel
theorem dX5_offer_48 : decode cX5_offer 48 = .ok (.aload_n 0, 1) := by decide +kernel
theorem dX5_offer_49 : decode cX5_offer 49 = .ok (.getfield 41, 3) := by decide +kernel
theorem dX5_offer_52 : decode cX5_offer 52 = .ok (.iload_n 1, 1) := by decide +kernel
theorem dX5_offer_53 : decode cX5_offer 53 = .ok (.iaload, 1) := by decide +kernel
theorem dX5_offer_54 : decode cX5_offer 54 = .ok (.if_icmp .ne 15, 3) := by decide +kernel
theorem dX5_offer_57 : decode cX5_offer 57 = .ok (.iload 7, 2) := by decide +kernel
theorem dX5_offer_59 : decode cX5_offer 59 = .ok (.aload_n 0, 1) := by decide +kernel
theorem dX5_offer_60 : decode cX5_offer 60 = .ok (.getfield 44, 3) := by decide +kernel
theorem dX5_offer_63 : decode cX5_offer 63 = .ok (.iload_n 1, 1) := by decide +kernel
theorem dX5_offer_64 : decode cX5_offer 64 = .ok (.iaload, 1) := by decide +kernel
theorem dX5_offer_65 : decode cX5_offer 65 = .ok (.if_icmp .lt 4, 3) := by decide +kernel
theorem dX5_offer_68 : decode cX5_offer 68 = .ok (.return_, 1) := by decide +kernel
theorem dX5_offer_69 : decode cX5_offer 69 = .ok (.aload_n 0, 1) := by decide +kernel
theorem dX5_offer_70 : decode cX5_offer 70 = .ok (.getfield 41, 3) := by decide +kernel
theorem dX5_offer_73 : decode cX5_offer 73 = .ok (.iload_n 1, 1) := by decide +kernel
theorem dX5_offer_74 : decode cX5_offer 74 = .ok (.iload 6, 2) := by decide +kernel
theorem dX5_offer_76 : decode cX5_offer 76 = .ok (.iastore, 1) := by decide +kernel
theorem dX5_offer_77 : decode cX5_offer 77 = .ok (.aload_n 0, 1) := by decide +kernel
theorem dX5_offer_78 : decode cX5_offer 78 = .ok (.getfield 44, 3) := by decide +kernel
theorem dX5_offer_81 : decode cX5_offer 81 = .ok (.iload_n 1, 1) := by decide +kernel
theorem dX5_offer_82 : decode cX5_offer 82 = .ok (.iload 7, 2) := by decide +kernel
theorem dX5_offer_84 : decode cX5_offer 84 = .ok (.iastore, 1) := by decide +kernel
theorem dX5_offer_85 : decode cX5_offer 85 = .ok (.aload_n 0, 1) := by decide +kernel
theorem dX5_offer_86 : decode cX5_offer 86 = .ok (.getfield 47, 3) := by decide +kernel
theorem dX5_offer_89 : decode cX5_offer 89 = .ok (.iload_n 1, 1) := by decide +kernel
theorem dX5_offer_90 : decode cX5_offer 90 = .ok (.iload_n 2, 1) := by decide +kernel
theorem dX5_offer_91 : decode cX5_offer 91 = .ok (.iastore, 1) := by decide +kernel
theorem dX5_offer_92 : decode cX5_offer 92 = .ok (.aload_n 0, 1) := by decide +kernel
theorem dX5_offer_93 : decode cX5_offer 93 = .ok (.getfield 50, 3) := by decide +kernel
theorem dX5_offer_96 : decode cX5_offer 96 = .ok (.iload_n 1, 1) := by decide +kernel
theorem dX5_offer_97 : decode cX5_offer 97 = .ok (.iload_n 3, 1) := by decide +kernel
theorem dX5_offer_98 : decode cX5_offer 98 = .ok (.iastore, 1) := by decide +kernel
theorem dX5_offer_99 : decode cX5_offer 99 = .ok (.aload_n 0, 1) := by decide +kernel
theorem dX5_offer_100 : decode cX5_offer 100 = .ok (.getfield 53, 3) := by decide +kernel
theorem dX5_offer_103 : decode cX5_offer 103 = .ok (.iload_n 1, 1) := by decide +kernel
theorem dX5_offer_104 : decode cX5_offer 104 = .ok (.iload 4, 2) := by decide +kernel
theorem dX5_offer_106 : decode cX5_offer 106 = .ok (.iastore, 1) := by decide +kernel
theorem dX5_offer_107 : decode cX5_offer 107 = .ok (.return_, 1) := by decide +kernel
set_option maxRecDepth 20000 in
theorem ggX5_smallest_X5_places : GoodIn wsX5_smallest wsX5_places := goodIn_r _ [6, 7, 15, 16, 17, 18, 19, 20, 21, 22, 23, 24, 25, 26, 27, 28, 29, 30, 31, 32, 33, 34, 35, 36, 37, 38, 39] (by decide +kernel) (by decide +kernel)
set_option maxRecDepth 20000 in
theorem gX5_smallest_X5_places : GoodIn wsX5_smallest (wsV RX5 98 RX5 yX5_places wsX5_places) := goodIn_app (goodIn_of _ (by decide +kernel)) ggX5_smallest_X5_places
set_option maxRecDepth 20000 in
theorem ggX5_smallest_X5_common : GoodIn wsX5_smallest wsX5_common := goodIn_r _ [11, 12, 7, 13, 14, 15, 16, 17, 18, 19, 20, 21, 22, 23, 24, 25, 26, 27, 28, 29, 30, 31, 32, 33, 34, 35, 36, 37, 38, 39] (by decide +kernel) (by decide +kernel)
set_option maxRecDepth 20000 in
theorem gX5_smallest_X5_common : GoodIn wsX5_smallest (wsV RX5 102 RX5 yX5_common wsX5_common) := goodIn_app (goodIn_of _ (by decide +kernel)) ggX5_smallest_X5_common
theorem dX5_smallest_0 : decode cX5_smallest 0 = .ok (.sipush 151, 3) := by decide +kernel
theorem dX5_smallest_3 : decode cX5_smallest 3 = .ok (.newarray .int, 2) := by decide +kernel
theorem dX5_smallest_5 : decode cX5_smallest 5 = .ok (.astore_n 3, 1) := by decide +kernel
theorem dX5_smallest_6 : decode cX5_smallest 6 = .ok (.iconst 0, 1) := by decide +kernel
theorem dX5_smallest_7 : decode cX5_smallest 7 = .ok (.istore 4, 2) := by decide +kernel
theorem dX5_smallest_9 : decode cX5_smallest 9 = .ok (.iload 4, 2) := by decide +kernel
theorem dX5_smallest_11 : decode cX5_smallest 11 = .ok (.sipush 150, 3) := by decide +kernel
theorem dX5_smallest_14 : decode cX5_smallest 14 = .ok (.if_icmp .gt 14, 3) := by decide +kernel
theorem dX5_smallest_17 : decode cX5_smallest 17 = .ok (.aload_n 3, 1) := by decide +kernel
theorem dX5_smallest_18 : decode cX5_smallest 18 = .ok (.iload 4, 2) := by decide +kernel
theorem dX5_smallest_20 : decode cX5_smallest 20 = .ok (.iconst (-1), 1) := by decide +kernel
theorem dX5_smallest_21 : decode cX5_smallest 21 = .ok (.iastore, 1) := by decide +kernel
theorem dX5_smallest_22 : decode cX5_smallest 22 = .ok (.iinc 4 1, 3) := by decide +kernel
theorem dX5_smallest_25 : decode cX5_smallest 25 = .ok (.goto (-16), 3) := by decide +kernel
theorem dX5_smallest_28 : decode cX5_smallest 28 = .ok (.iconst 0, 1) := by decide +kernel
theorem dX5_smallest_29 : decode cX5_smallest 29 = .ok (.istore 4, 2) := by decide +kernel
theorem dX5_smallest_31 : decode cX5_smallest 31 = .ok (.iconst 0, 1) := by decide +kernel
theorem dX5_smallest_32 : decode cX5_smallest 32 = .ok (.istore 5, 2) := by decide +kernel
theorem dX5_smallest_34 : decode cX5_smallest 34 = .ok (.iload 5, 2) := by decide +kernel
theorem dX5_smallest_36 : decode cX5_smallest 36 = .ok (.aload_n 0, 1) := by decide +kernel
theorem dX5_smallest_37 : decode cX5_smallest 37 = .ok (.iload_n 1, 1) := by decide +kernel
theorem dX5_smallest_38 : decode cX5_smallest 38 = .ok (.iload_n 2, 1) := by decide +kernel
theorem dX5_smallest_39 : decode cX5_smallest 39 = .ok (.invokevirtual 98, 3) := by decide +kernel
theorem dX5_smallest_42 : decode cX5_smallest 42 = .ok (.if_icmp .ge 38, 3) := by decide +kernel
theorem dX5_smallest_45 : decode cX5_smallest 45 = .ok (.aload_n 0, 1) := by decide +kernel
theorem dX5_smallest_46 : decode cX5_smallest 46 = .ok (.iload_n 1, 1) := by decide +kernel
theorem dX5_smallest_47 : decode cX5_smallest 47 = .ok (.iload_n 2, 1) := by decide +kernel
theorem dX5_smallest_48 : decode cX5_smallest 48 = .ok (.iload 5, 2) := by decide +kernel
theorem dX5_smallest_50 : decode cX5_smallest 50 = .ok (.invokevirtual 102, 3) := by decide +kernel
theorem dX5_smallest_53 : decode cX5_smallest 53 = .ok (.istore 6, 2) := by decide +kernel
theorem dX5_smallest_55 : decode cX5_smallest 55 = .ok (.iload 4, 2) := by decide +kernel
theorem dX5_smallest_57 : decode cX5_smallest 57 = .ok (.iload 6, 2) := by decide +kernel
theorem dX5_smallest_59 : decode cX5_smallest 59 = .ok (.if_icmp .ge 15, 3) := by decide +kernel
theorem dX5_smallest_62 : decode cX5_smallest 62 = .ok (.iinc 4 1, 3) := by decide +kernel
theorem dX5_smallest_65 : decode cX5_smallest 65 = .ok (.aload_n 3, 1) := by decide +kernel
theorem dX5_smallest_66 : decode cX5_smallest 66 = .ok (.iload 4, 2) := by decide +kernel
theorem dX5_smallest_68 : decode cX5_smallest 68 = .ok (.iload 5, 2) := by decide +kernel
theorem dX5_smallest_70 : decode cX5_smallest 70 = .ok (.iastore, 1) := by decide +kernel
theorem dX5_smallest_71 : decode cX5_smallest 71 = .ok (.goto (-16), 3) := by decide +kernel
theorem dX5_smallest_74 : decode cX5_smallest 74 = .ok (.iinc 5 1, 3) := by decide +kernel
theorem dX5_smallest_77 : decode cX5_smallest 77 = .ok (.goto (-43), 3) := by decide +kernel
theorem dX5_smallest_80 : decode cX5_smallest 80 = .ok (.aload_n 3, 1) := by decide +kernel
theorem dX5_smallest_81 : decode cX5_smallest 81 = .ok (.areturn, 1) := by decide +kernel
set_option maxRecDepth 20000 in
theorem ggX5_look_X5_headSize : GoodIn wsX5_look wsX5_headSize := goodIn_r _ [8, 9, 10, 7, 11] (by decide +kernel) (by decide +kernel)
set_option maxRecDepth 20000 in
theorem gX5_look_X5_headSize : GoodIn wsX5_look (va_wsS RX5 124 yX5_headSize wsX5_headSize) := goodIn_app (goodIn_of _ (by decide +kernel)) ggX5_look_X5_headSize
set_option maxRecDepth 20000 in
theorem ggX5_look_X5_offer : GoodIn wsX5_look wsX5_offer := goodIn_r _ [15, 1, 16, 17, 18, 19, 35, 36, 37, 38, 39, 40, 41, 42, 43, 44, 45, 46, 47, 48, 49, 50, 51, 52, 53, 54, 55, 56, 57, 58, 59] (by decide +kernel) (by decide +kernel)
set_option maxRecDepth 20000 in
theorem gX5_look_X5_offer : GoodIn wsX5_look (wsV RX5 127 RX5 yX5_offer wsX5_offer) := goodIn_app (goodIn_of _ (by decide +kernel)) ggX5_look_X5_offer
set_option maxRecDepth 20000 in
theorem ggX5_look_X5_smallest : GoodIn wsX5_look wsX5_smallest := goodIn_r _ [23, 24, 25, 26, 27, 7, 28, 29, 30, 31, 32, 33, 2, 3, 34, 35, 36, 37, 38, 39, 40, 41, 42, 43, 44, 45, 46, 47, 48, 49, 50, 51, 52, 53, 54, 55, 56, 57, 58, 59] (by decide +kernel) (by decide +kernel)
set_option maxRecDepth 20000 in
theorem gX5_look_X5_smallest : GoodIn wsX5_look (wsV RX5 131 RX5 yX5_smallest wsX5_smallest) := goodIn_app (goodIn_of _ (by decide +kernel)) ggX5_look_X5_smallest
set_option maxRecDepth 20000 in
theorem ggX5_look_X5_numberSize : GoodIn wsX5_look wsX5_numberSize := goodIn_r _ [11] (by decide +kernel) (by decide +kernel)
set_option maxRecDepth 20000 in
theorem gX5_look_X5_numberSize : GoodIn wsX5_look (va_wsS RX5 121 yX5_numberSize wsX5_numberSize) := goodIn_app (goodIn_of _ (by decide +kernel)) ggX5_look_X5_numberSize
theorem dX5_look_0 : decode cX5_look 0 = .ok (.aload_n 0, 1) := by decide +kernel
theorem dX5_look_1 : decode cX5_look 1 = .ok (.getfield 41, 3) := by decide +kernel
theorem dX5_look_4 : decode cX5_look 4 = .ok (.iload_n 1, 1) := by decide +kernel
theorem dX5_look_5 : decode cX5_look 5 = .ok (.iconst (-1), 1) := by decide +kernel
theorem dX5_look_6 : decode cX5_look 6 = .ok (.iastore, 1) := by decide +kernel
theorem dX5_look_7 : decode cX5_look 7 = .ok (.aload_n 0, 1) := by decide +kernel
theorem dX5_look_8 : decode cX5_look 8 = .ok (.getfield 62, 3) := by decide +kernel
theorem dX5_look_11 : decode cX5_look 11 = .ok (.iload_n 1, 1) := by decide +kernel
theorem dX5_look_12 : decode cX5_look 12 = .ok (.isub, 1) := by decide +kernel
theorem dX5_look_13 : decode cX5_look 13 = .ok (.istore_n 2, 1) := by decide +kernel
theorem dX5_look_14 : decode cX5_look 14 = .ok (.iload_n 2, 1) := by decide +kernel
theorem dX5_look_15 : decode cX5_look 15 = .ok (.iconst 1, 1) := by decide +kernel
theorem dX5_look_16 : decode cX5_look 16 = .ok (.if_icmp .lt 28, 3) := by decide +kernel
theorem dX5_look_19 : decode cX5_look 19 = .ok (.aload_n 0, 1) := by decide +kernel
theorem dX5_look_20 : decode cX5_look 20 = .ok (.iload_n 1, 1) := by decide +kernel
theorem dX5_look_21 : decode cX5_look 21 = .ok (.iconst 0, 1) := by decide +kernel
theorem dX5_look_22 : decode cX5_look 22 = .ok (.iload_n 2, 1) := by decide +kernel
theorem dX5_look_23 : decode cX5_look 23 = .ok (.aload_n 0, 1) := by decide +kernel
theorem dX5_look_24 : decode cX5_look 24 = .ok (.getfield 13, 3) := by decide +kernel
theorem dX5_look_27 : decode cX5_look 27 = .ok (.iload_n 1, 1) := by decide +kernel
theorem dX5_look_28 : decode cX5_look 28 = .ok (.iaload, 1) := by decide +kernel
theorem dX5_look_29 : decode cX5_look 29 = .ok (.iload_n 2, 1) := by decide +kernel
theorem dX5_look_30 : decode cX5_look 30 = .ok (.invokestatic 124, 3) := by decide +kernel
theorem dX5_look_33 : decode cX5_look 33 = .ok (.iload_n 2, 1) := by decide +kernel
theorem dX5_look_34 : decode cX5_look 34 = .ok (.iadd, 1) := by decide +kernel
theorem dX5_look_35 : decode cX5_look 35 = .ok (.invokevirtual 127, 3) := by decide +kernel
theorem dX5_look_38 : decode cX5_look 38 = .ok (.iinc 2 (-1), 3) := by decide +kernel
theorem dX5_look_41 : decode cX5_look 41 = .ok (.goto (-27), 3) := by decide +kernel
theorem dX5_look_44 : decode cX5_look 44 = .ok (.iconst 0, 1) := by decide +kernel
theorem dX5_look_45 : decode cX5_look 45 = .ok (.istore_n 2, 1) := by decide +kernel
theorem dX5_look_46 : decode cX5_look 46 = .ok (.iload_n 2, 1) := by decide +kernel
theorem dX5_look_47 : decode cX5_look 47 = .ok (.iconst 2, 1) := by decide +kernel
theorem dX5_look_48 : decode cX5_look 48 = .ok (.if_icmp .ge 80, 3) := by decide +kernel
theorem dX5_look_51 : decode cX5_look 51 = .ok (.aload_n 0, 1) := by decide +kernel
theorem dX5_look_52 : decode cX5_look 52 = .ok (.iload_n 1, 1) := by decide +kernel
theorem dX5_look_53 : decode cX5_look 53 = .ok (.iload_n 2, 1) := by decide +kernel
theorem dX5_look_54 : decode cX5_look 54 = .ok (.invokevirtual 131, 3) := by decide +kernel
theorem dX5_look_57 : decode cX5_look 57 = .ok (.astore_n 3, 1) := by decide +kernel
theorem dX5_look_58 : decode cX5_look 58 = .ok (.aload_n 0, 1) := by decide +kernel
theorem dX5_look_59 : decode cX5_look 59 = .ok (.getfield 62, 3) := by decide +kernel
theorem dX5_look_62 : decode cX5_look 62 = .ok (.iload_n 1, 1) := by decide +kernel
theorem dX5_look_63 : decode cX5_look 63 = .ok (.isub, 1) := by decide +kernel
theorem dX5_look_64 : decode cX5_look 64 = .ok (.istore 4, 2) := by decide +kernel
theorem dX5_look_66 : decode cX5_look 66 = .ok (.iload 4, 2) := by decide +kernel
theorem dX5_look_68 : decode cX5_look 68 = .ok (.aload_n 0, 1) := by decide +kernel
theorem dX5_look_69 : decode cX5_look 69 = .ok (.getfield 16, 3) := by decide +kernel
theorem dX5_look_72 : decode cX5_look 72 = .ok (.if_icmp .lt 50, 3) := by decide +kernel
theorem dX5_look_75 : decode cX5_look 75 = .ok (.aload_n 3, 1) := by decide +kernel
theorem dX5_look_76 : decode cX5_look 76 = .ok (.iload 4, 2) := by decide +kernel
theorem dX5_look_78 : decode cX5_look 78 = .ok (.iaload, 1) := by decide +kernel
theorem dX5_look_79 : decode cX5_look 79 = .ok (.iconst (-1), 1) := by decide +kernel
theorem dX5_look_80 : decode cX5_look 80 = .ok (.if_icmp .eq 36, 3) := by decide +kernel
theorem dX5_look_83 : decode cX5_look 83 = .ok (.aload_n 0, 1) := by decide +kernel
theorem dX5_look_84 : decode cX5_look 84 = .ok (.iload_n 1, 1) := by decide +kernel
theorem dX5_look_85 : decode cX5_look 85 = .ok (.iload_n 2, 1) := by decide +kernel
theorem dX5_look_86 : decode cX5_look 86 = .ok (.ifCond .ne 7, 3) := by decide +kernel
theorem dX5_look_89 : decode cX5_look 89 = .ok (.iconst 1, 1) := by decide +kernel
theorem dX5_look_90 : decode cX5_look 90 = .ok (.goto 4, 3) := by decide +kernel
theorem dX5_look_93 : decode cX5_look 93 = .ok (.iconst 2, 1) := by decide +kernel
theorem dX5_look_94 : decode cX5_look 94 = .ok (.iload 4, 2) := by decide +kernel
theorem dX5_look_96 : decode cX5_look 96 = .ok (.aload_n 3, 1) := by decide +kernel
theorem dX5_look_97 : decode cX5_look 97 = .ok (.iload 4, 2) := by decide +kernel
theorem dX5_look_99 : decode cX5_look 99 = .ok (.iaload, 1) := by decide +kernel
theorem dX5_look_100 : decode cX5_look 100 = .ok (.iload 4, 2) := by decide +kernel
theorem dX5_look_102 : decode cX5_look 102 = .ok (.invokestatic 124, 3) := by decide +kernel
theorem dX5_look_105 : decode cX5_look 105 = .ok (.aload_n 3, 1) := by decide +kernel
theorem dX5_look_106 : decode cX5_look 106 = .ok (.iload 4, 2) := by decide +kernel
theorem dX5_look_108 : decode cX5_look 108 = .ok (.iaload, 1) := by decide +kernel
theorem dX5_look_109 : decode cX5_look 109 = .ok (.invokestatic 121, 3) := by decide +kernel
theorem dX5_look_112 : decode cX5_look 112 = .ok (.iadd, 1) := by decide +kernel
theorem dX5_look_113 : decode cX5_look 113 = .ok (.invokevirtual 127, 3) := by decide +kernel
theorem dX5_look_116 : decode cX5_look 116 = .ok (.iinc 4 (-1), 3) := by decide +kernel
theorem dX5_look_119 : decode cX5_look 119 = .ok (.goto (-53), 3) := by decide +kernel
theorem dX5_look_122 : decode cX5_look 122 = .ok (.iinc 2 1, 3) := by decide +kernel
theorem dX5_look_125 : decode cX5_look 125 = .ok (.goto (-79), 3) := by decide +kernel
theorem dX5_look_128 : decode cX5_look 128 = .ok (.iconst 1, 1) := by decide +kernel
theorem dX5_look_129 : decode cX5_look 129 = .ok (.istore_n 2, 1) := by decide +kernel
theorem dX5_look_130 : decode cX5_look 130 = .ok (.iload_n 1, 1) := by decide +kernel
theorem dX5_look_131 : decode cX5_look 131 = .ok (.iload_n 2, 1) := by decide +kernel
theorem dX5_look_132 : decode cX5_look 132 = .ok (.iadd, 1) := by decide +kernel
theorem dX5_look_133 : decode cX5_look 133 = .ok (.aload_n 0, 1) := by decide +kernel
theorem dX5_look_134 : decode cX5_look 134 = .ok (.getfield 62, 3) := by decide +kernel
theorem dX5_look_137 : decode cX5_look 137 = .ok (.if_icmp .ge 26, 3) := by decide +kernel
theorem dX5_look_140 : decode cX5_look 140 = .ok (.aload_n 0, 1) := by decide +kernel
theorem dX5_look_141 : decode cX5_look 141 = .ok (.getfield 13, 3) := by decide +kernel
theorem dX5_look_144 : decode cX5_look 144 = .ok (.iload_n 1, 1) := by decide +kernel
theorem dX5_look_145 : decode cX5_look 145 = .ok (.iload_n 2, 1) := by decide +kernel
theorem dX5_look_146 : decode cX5_look 146 = .ok (.iadd, 1) := by decide +kernel
theorem dX5_look_147 : decode cX5_look 147 = .ok (.iaload, 1) := by decide +kernel
theorem dX5_look_148 : decode cX5_look 148 = .ok (.aload_n 0, 1) := by decide +kernel
theorem dX5_look_149 : decode cX5_look 149 = .ok (.getfield 13, 3) := by decide +kernel
theorem dX5_look_152 : decode cX5_look 152 = .ok (.iload_n 1, 1) := by decide +kernel
theorem dX5_look_153 : decode cX5_look 153 = .ok (.iaload, 1) := by decide +kernel
theorem dX5_look_154 : decode cX5_look 154 = .ok (.if_icmp .ne 9, 3) := by decide +kernel
theorem dX5_look_157 : decode cX5_look 157 = .ok (.iinc 2 1, 3) := by decide +kernel
theorem dX5_look_160 : decode cX5_look 160 = .ok (.goto (-30), 3) := by decide +kernel
theorem dX5_look_163 : decode cX5_look 163 = .ok (.iload_n 2, 1) := by decide +kernel
theorem dX5_look_164 : decode cX5_look 164 = .ok (.istore_n 3, 1) := by decide +kernel
theorem dX5_look_165 : decode cX5_look 165 = .ok (.iload_n 3, 1) := by decide +kernel
theorem dX5_look_166 : decode cX5_look 166 = .ok (.iconst 1, 1) := by decide +kernel
theorem dX5_look_167 : decode cX5_look 167 = .ok (.if_icmp .lt 28, 3) := by decide +kernel
theorem dX5_look_170 : decode cX5_look 170 = .ok (.aload_n 0, 1) := by decide +kernel
theorem dX5_look_171 : decode cX5_look 171 = .ok (.iload_n 1, 1) := by decide +kernel
theorem dX5_look_172 : decode cX5_look 172 = .ok (.iconst 3, 1) := by decide +kernel
theorem dX5_look_173 : decode cX5_look 173 = .ok (.iload_n 3, 1) := by decide +kernel
theorem dX5_look_174 : decode cX5_look 174 = .ok (.aload_n 0, 1) := by decide +kernel
theorem dX5_look_175 : decode cX5_look 175 = .ok (.getfield 13, 3) := by decide +kernel
theorem dX5_look_178 : decode cX5_look 178 = .ok (.iload_n 1, 1) := by decide +kernel
theorem dX5_look_179 : decode cX5_look 179 = .ok (.iaload, 1) := by decide +kernel
theorem dX5_look_180 : decode cX5_look 180 = .ok (.iload_n 3, 1) := by decide +kernel
theorem dX5_look_181 : decode cX5_look 181 = .ok (.invokestatic 124, 3) := by decide +kernel
theorem dX5_look_184 : decode cX5_look 184 = .ok (.iconst 1, 1) := by decide +kernel
theorem dX5_look_185 : decode cX5_look 185 = .ok (.iadd, 1) := by decide +kernel
theorem dX5_look_186 : decode cX5_look 186 = .ok (.invokevirtual 127, 3) := by decide +kernel
theorem dX5_look_189 : decode cX5_look 189 = .ok (.iinc 3 (-1), 3) := by decide +kernel
theorem dX5_look_192 : decode cX5_look 192 = .ok (.goto (-27), 3) := by decide +kernel
theorem dX5_look_195 : decode cX5_look 195 = .ok (.return_, 1) := by decide +kernel
set_option maxRecDepth 20000 in
theorem ggX5_plan_X5_look : GoodIn wsX5_plan wsX5_look := goodIn_r _ [19, 4, 5, 20, 21, 22, 23, 18, 24, 25, 26, 27, 28, 29, 30, 31, 6, 8, 10, 12, 32, 33, 34, 35, 36, 37, 38, 39, 40, 41, 42, 43, 44, 45, 46, 47, 48, 49, 50, 51, 52, 53, 54, 55, 56, 57, 58, 59, 60, 61, 62, 63, 64, 65, 66, 67, 68, 69, 70, 71] (by decide +kernel) (by decide +kernel)
set_option maxRecDepth 20000 in
theorem gX5_plan_X5_look : GoodIn wsX5_plan (wsV RX5 138 RX5 yX5_look wsX5_look) := goodIn_app (goodIn_of _ (by decide +kernel)) ggX5_plan_X5_look
theorem dX5_plan_0 : decode cX5_plan 0 = .ok (.aload_n 0, 1) := by decide +kernel
theorem dX5_plan_1 : decode cX5_plan 1 = .ok (.iconst 0, 1) := by decide +kernel
theorem dX5_plan_2 : decode cX5_plan 2 = .ok (.putfield 56, 3) := by decide +kernel
theorem dX5_plan_5 : decode cX5_plan 5 = .ok (.aload_n 0, 1) := by decide +kernel
theorem dX5_plan_6 : decode cX5_plan 6 = .ok (.getfield 65, 3) := by decide +kernel
theorem dX5_plan_9 : decode cX5_plan 9 = .ok (.ifCond .eq 8, 3) := by decide +kernel
theorem dX5_plan_17 : decode cX5_plan 17 = .ok (.aload_n 0, 1) := by decide +kernel
theorem dX5_plan_18 : decode cX5_plan 18 = .ok (.getfield 41, 3) := by decide +kernel
theorem dX5_plan_21 : decode cX5_plan 21 = .ok (.aload_n 0, 1) := by decide +kernel
theorem dX5_plan_22 : decode cX5_plan 22 = .ok (.getfield 62, 3) := by decide +kernel
theorem dX5_plan_25 : decode cX5_plan 25 = .ok (.iconst 0, 1) := by decide +kernel
theorem dX5_plan_26 : decode cX5_plan 26 = .ok (.iastore, 1) := by decide +kernel
theorem dX5_plan_27 : decode cX5_plan 27 = .ok (.aload_n 0, 1) := by decide +kernel
theorem dX5_plan_28 : decode cX5_plan 28 = .ok (.getfield 44, 3) := by decide +kernel
theorem dX5_plan_31 : decode cX5_plan 31 = .ok (.aload_n 0, 1) := by decide +kernel
theorem dX5_plan_32 : decode cX5_plan 32 = .ok (.getfield 62, 3) := by decide +kernel
theorem dX5_plan_35 : decode cX5_plan 35 = .ok (.iconst 0, 1) := by decide +kernel
theorem dX5_plan_36 : decode cX5_plan 36 = .ok (.iastore, 1) := by decide +kernel
theorem dX5_plan_37 : decode cX5_plan 37 = .ok (.aload_n 0, 1) := by decide +kernel
theorem dX5_plan_38 : decode cX5_plan 38 = .ok (.getfield 62, 3) := by decide +kernel
theorem dX5_plan_41 : decode cX5_plan 41 = .ok (.iconst 1, 1) := by decide +kernel
theorem dX5_plan_42 : decode cX5_plan 42 = .ok (.isub, 1) := by decide +kernel
theorem dX5_plan_43 : decode cX5_plan 43 = .ok (.istore_n 1, 1) := by decide +kernel
theorem dX5_plan_44 : decode cX5_plan 44 = .ok (.iload_n 1, 1) := by decide +kernel
theorem dX5_plan_45 : decode cX5_plan 45 = .ok (.ifCond .lt 14, 3) := by decide +kernel
theorem dX5_plan_48 : decode cX5_plan 48 = .ok (.aload_n 0, 1) := by decide +kernel
theorem dX5_plan_49 : decode cX5_plan 49 = .ok (.iload_n 1, 1) := by decide +kernel
theorem dX5_plan_50 : decode cX5_plan 50 = .ok (.invokevirtual 138, 3) := by decide +kernel
theorem dX5_plan_53 : decode cX5_plan 53 = .ok (.iinc 1 (-1), 3) := by decide +kernel
theorem dX5_plan_56 : decode cX5_plan 56 = .ok (.goto (-12), 3) := by decide +kernel
theorem dX5_plan_59 : decode cX5_plan 59 = .ok (.aload_n 0, 1) := by decide +kernel
theorem dX5_plan_60 : decode cX5_plan 60 = .ok (.iconst 0, 1) := by decide +kernel
theorem dX5_plan_61 : decode cX5_plan 61 = .ok (.putfield 135, 3) := by decide +kernel
theorem dX5_plan_64 : decode cX5_plan 64 = .ok (.iconst 0, 1) := by decide +kernel
theorem dX5_plan_65 : decode cX5_plan 65 = .ok (.istore_n 1, 1) := by decide +kernel
theorem dX5_plan_66 : decode cX5_plan 66 = .ok (.iload_n 1, 1) := by decide +kernel
theorem dX5_plan_67 : decode cX5_plan 67 = .ok (.aload_n 0, 1) := by decide +kernel
theorem dX5_plan_68 : decode cX5_plan 68 = .ok (.getfield 62, 3) := by decide +kernel
theorem dX5_plan_71 : decode cX5_plan 71 = .ok (.if_icmp .ge 80, 3) := by decide +kernel
theorem dX5_plan_74 : decode cX5_plan 74 = .ok (.aload_n 0, 1) := by decide +kernel
theorem dX5_plan_75 : decode cX5_plan 75 = .ok (.getfield 20, 3) := by decide +kernel
theorem dX5_plan_78 : decode cX5_plan 78 = .ok (.aload_n 0, 1) := by decide +kernel
theorem dX5_plan_79 : decode cX5_plan 79 = .ok (.getfield 135, 3) := by decide +kernel
theorem dX5_plan_82 : decode cX5_plan 82 = .ok (.aload_n 0, 1) := by decide +kernel
theorem dX5_plan_83 : decode cX5_plan 83 = .ok (.getfield 47, 3) := by decide +kernel
theorem dX5_plan_86 : decode cX5_plan 86 = .ok (.iload_n 1, 1) := by decide +kernel
theorem dX5_plan_87 : decode cX5_plan 87 = .ok (.iaload, 1) := by decide +kernel
theorem dX5_plan_88 : decode cX5_plan 88 = .ok (.iastore, 1) := by decide +kernel
theorem dX5_plan_89 : decode cX5_plan 89 = .ok (.aload_n 0, 1) := by decide +kernel
theorem dX5_plan_90 : decode cX5_plan 90 = .ok (.getfield 23, 3) := by decide +kernel
theorem dX5_plan_93 : decode cX5_plan 93 = .ok (.aload_n 0, 1) := by decide +kernel
theorem dX5_plan_94 : decode cX5_plan 94 = .ok (.getfield 135, 3) := by decide +kernel
theorem dX5_plan_97 : decode cX5_plan 97 = .ok (.aload_n 0, 1) := by decide +kernel
theorem dX5_plan_98 : decode cX5_plan 98 = .ok (.getfield 50, 3) := by decide +kernel
theorem dX5_plan_101 : decode cX5_plan 101 = .ok (.iload_n 1, 1) := by decide +kernel
theorem dX5_plan_102 : decode cX5_plan 102 = .ok (.iaload, 1) := by decide +kernel
theorem dX5_plan_103 : decode cX5_plan 103 = .ok (.iastore, 1) := by decide +kernel
theorem dX5_plan_104 : decode cX5_plan 104 = .ok (.aload_n 0, 1) := by decide +kernel
theorem dX5_plan_105 : decode cX5_plan 105 = .ok (.getfield 26, 3) := by decide +kernel
theorem dX5_plan_108 : decode cX5_plan 108 = .ok (.aload_n 0, 1) := by decide +kernel
theorem dX5_plan_109 : decode cX5_plan 109 = .ok (.getfield 135, 3) := by decide +kernel
theorem dX5_plan_112 : decode cX5_plan 112 = .ok (.aload_n 0, 1) := by decide +kernel
theorem dX5_plan_113 : decode cX5_plan 113 = .ok (.getfield 53, 3) := by decide +kernel
theorem dX5_plan_116 : decode cX5_plan 116 = .ok (.iload_n 1, 1) := by decide +kernel
theorem dX5_plan_117 : decode cX5_plan 117 = .ok (.iaload, 1) := by decide +kernel
theorem dX5_plan_118 : decode cX5_plan 118 = .ok (.iastore, 1) := by decide +kernel
theorem dX5_plan_119 : decode cX5_plan 119 = .ok (.aload_n 0, 1) := by decide +kernel
theorem dX5_plan_120 : decode cX5_plan 120 = .ok (.getfield 29, 3) := by decide +kernel
theorem dX5_plan_123 : decode cX5_plan 123 = .ok (.aload_n 0, 1) := by decide +kernel
theorem dX5_plan_124 : decode cX5_plan 124 = .ok (.getfield 135, 3) := by decide +kernel
theorem dX5_plan_127 : decode cX5_plan 127 = .ok (.iload_n 1, 1) := by decide +kernel
theorem dX5_plan_128 : decode cX5_plan 128 = .ok (.iastore, 1) := by decide +kernel
theorem dX5_plan_129 : decode cX5_plan 129 = .ok (.aload_n 0, 1) := by decide +kernel
theorem dX5_plan_130 : decode cX5_plan 130 = .ok (.dup, 1) := by decide +kernel
theorem dX5_plan_131 : decode cX5_plan 131 = .ok (.getfield 135, 3) := by decide +kernel
theorem dX5_plan_134 : decode cX5_plan 134 = .ok (.iconst 1, 1) := by decide +kernel
theorem dX5_plan_135 : decode cX5_plan 135 = .ok (.iadd, 1) := by decide +kernel
theorem dX5_plan_136 : decode cX5_plan 136 = .ok (.putfield 135, 3) := by decide +kernel
theorem dX5_plan_139 : decode cX5_plan 139 = .ok (.iload_n 1, 1) := by decide +kernel
theorem dX5_plan_140 : decode cX5_plan 140 = .ok (.aload_n 0, 1) := by decide +kernel
theorem dX5_plan_141 : decode cX5_plan 141 = .ok (.getfield 50, 3) := by decide +kernel
theorem dX5_plan_144 : decode cX5_plan 144 = .ok (.iload_n 1, 1) := by decide +kernel
theorem dX5_plan_145 : decode cX5_plan 145 = .ok (.iaload, 1) := by decide +kernel
theorem dX5_plan_146 : decode cX5_plan 146 = .ok (.iadd, 1) := by decide +kernel
theorem dX5_plan_147 : decode cX5_plan 147 = .ok (.istore_n 1, 1) := by decide +kernel
theorem dX5_plan_148 : decode cX5_plan 148 = .ok (.goto (-82), 3) := by decide +kernel
theorem dX5_plan_151 : decode cX5_plan 151 = .ok (.aload_n 0, 1) := by decide +kernel
theorem dX5_plan_152 : decode cX5_plan 152 = .ok (.aload_n 0, 1) := by decide +kernel
theorem dX5_plan_153 : decode cX5_plan 153 = .ok (.getfield 41, 3) := by decide +kernel
theorem dX5_plan_156 : decode cX5_plan 156 = .ok (.iconst 0, 1) := by decide +kernel
theorem dX5_plan_157 : decode cX5_plan 157 = .ok (.iaload, 1) := by decide +kernel
theorem dX5_plan_158 : decode cX5_plan 158 = .ok (.putfield 142, 3) := by decide +kernel
theorem dX5_plan_161 : decode cX5_plan 161 = .ok (.aload_n 0, 1) := by decide +kernel
theorem dX5_plan_162 : decode cX5_plan 162 = .ok (.iconst 1, 1) := by decide +kernel
theorem dX5_plan_163 : decode cX5_plan 163 = .ok (.putfield 65, 3) := by decide +kernel
theorem dX5_plan_166 : decode cX5_plan 166 = .ok (.aload_n 0, 1) := by decide +kernel
theorem dX5_plan_167 : decode cX5_plan 167 = .ok (.getfield 135, 3) := by decide +kernel
theorem dX5_plan_170 : decode cX5_plan 170 = .ok (.ireturn, 1) := by decide +kernel
