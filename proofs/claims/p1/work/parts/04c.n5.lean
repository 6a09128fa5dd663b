theorem dX5_init_0 : decode cX5_init 0 = .ok (.aload_n 0, 1) := by decide +kernel
theorem dX5_init_1 : decode cX5_init 1 = .ok (.invokespecial 1, 3) := by decide +kernel
theorem dX5_init_4 : decode cX5_init 4 = .ok (.aload_n 0, 1) := by decide +kernel
theorem dX5_init_5 : decode cX5_init 5 = .ok (.sipush 150, 3) := by decide +kernel
theorem dX5_init_8 : decode cX5_init 8 = .ok (.newarray .int, 2) := by decide +kernel
theorem dX5_init_10 : decode cX5_init 10 = .ok (.putfield 9, 3) := by decide +kernel
theorem dX5_init_13 : decode cX5_init 13 = .ok (.aload_n 0, 1) := by decide +kernel
theorem dX5_init_14 : decode cX5_init 14 = .ok (.sipush 150, 3) := by decide +kernel
theorem dX5_init_17 : decode cX5_init 17 = .ok (.newarray .int, 2) := by decide +kernel
theorem dX5_init_19 : decode cX5_init 19 = .ok (.putfield 13, 3) := by decide +kernel
theorem dX5_init_22 : decode cX5_init 22 = .ok (.aload_n 0, 1) := by decide +kernel
theorem dX5_init_23 : decode cX5_init 23 = .ok (.iconst 3, 1) := by decide +kernel
theorem dX5_init_24 : decode cX5_init 24 = .ok (.putfield 16, 3) := by decide +kernel
theorem dX5_init_27 : decode cX5_init 27 = .ok (.aload_n 0, 1) := by decide +kernel
theorem dX5_init_28 : decode cX5_init 28 = .ok (.sipush 150, 3) := by decide +kernel
theorem dX5_init_31 : decode cX5_init 31 = .ok (.newarray .int, 2) := by decide +kernel
theorem dX5_init_33 : decode cX5_init 33 = .ok (.putfield 20, 3) := by decide +kernel
theorem dX5_init_36 : decode cX5_init 36 = .ok (.aload_n 0, 1) := by decide +kernel
theorem dX5_init_37 : decode cX5_init 37 = .ok (.sipush 150, 3) := by decide +kernel
theorem dX5_init_40 : decode cX5_init 40 = .ok (.newarray .int, 2) := by decide +kernel
theorem dX5_init_42 : decode cX5_init 42 = .ok (.putfield 23, 3) := by decide +kernel
theorem dX5_init_45 : decode cX5_init 45 = .ok (.aload_n 0, 1) := by decide +kernel
theorem dX5_init_46 : decode cX5_init 46 = .ok (.sipush 150, 3) := by decide +kernel
theorem dX5_init_49 : decode cX5_init 49 = .ok (.newarray .int, 2) := by decide +kernel
theorem dX5_init_51 : decode cX5_init 51 = .ok (.putfield 26, 3) := by decide +kernel
theorem dX5_init_54 : decode cX5_init 54 = .ok (.aload_n 0, 1) := by decide +kernel
theorem dX5_init_55 : decode cX5_init 55 = .ok (.sipush 150, 3) := by decide +kernel
theorem dX5_init_58 : decode cX5_init 58 = .ok (.newarray .int, 2) := by decide +kernel
theorem dX5_init_60 : decode cX5_init 60 = .ok (.putfield 29, 3) := by decide +kernel
theorem dX5_init_63 : decode cX5_init 63 = .ok (.aload_n 0, 1) := by decide +kernel
theorem dX5_init_64 : decode cX5_init 64 = .ok (.sipush 400, 3) := by decide +kernel
theorem dX5_init_67 : decode cX5_init 67 = .ok (.newarray .int, 2) := by decide +kernel
theorem dX5_init_69 : decode cX5_init 69 = .ok (.putfield 32, 3) := by decide +kernel
theorem dX5_init_72 : decode cX5_init 72 = .ok (.aload_n 0, 1) := by decide +kernel
theorem dX5_init_73 : decode cX5_init 73 = .ok (.sipush 300, 3) := by decide +kernel
theorem dX5_init_76 : decode cX5_init 76 = .ok (.newarray .int, 2) := by decide +kernel
theorem dX5_init_78 : decode cX5_init 78 = .ok (.putfield 35, 3) := by decide +kernel
theorem dX5_init_81 : decode cX5_init 81 = .ok (.aload_n 0, 1) := by decide +kernel
theorem dX5_init_82 : decode cX5_init 82 = .ok (.iconst (-1), 1) := by decide +kernel
theorem dX5_init_83 : decode cX5_init 83 = .ok (.putfield 38, 3) := by decide +kernel
theorem dX5_init_86 : decode cX5_init 86 = .ok (.aload_n 0, 1) := by decide +kernel
theorem dX5_init_87 : decode cX5_init 87 = .ok (.sipush 151, 3) := by decide +kernel
theorem dX5_init_90 : decode cX5_init 90 = .ok (.newarray .int, 2) := by decide +kernel
theorem dX5_init_92 : decode cX5_init 92 = .ok (.putfield 41, 3) := by decide +kernel
theorem dX5_init_95 : decode cX5_init 95 = .ok (.aload_n 0, 1) := by decide +kernel
theorem dX5_init_96 : decode cX5_init 96 = .ok (.sipush 151, 3) := by decide +kernel
theorem dX5_init_99 : decode cX5_init 99 = .ok (.newarray .int, 2) := by decide +kernel
theorem dX5_init_101 : decode cX5_init 101 = .ok (.putfield 44, 3) := by decide +kernel
theorem dX5_init_104 : decode cX5_init 104 = .ok (.aload_n 0, 1) := by decide +kernel
theorem dX5_init_105 : decode cX5_init 105 = .ok (.sipush 151, 3) := by decide +kernel
theorem dX5_init_108 : decode cX5_init 108 = .ok (.newarray .int, 2) := by decide +kernel
theorem dX5_init_110 : decode cX5_init 110 = .ok (.putfield 47, 3) := by decide +kernel
theorem dX5_init_113 : decode cX5_init 113 = .ok (.aload_n 0, 1) := by decide +kernel
theorem dX5_init_114 : decode cX5_init 114 = .ok (.sipush 151, 3) := by decide +kernel
theorem dX5_init_117 : decode cX5_init 117 = .ok (.newarray .int, 2) := by decide +kernel
theorem dX5_init_119 : decode cX5_init 119 = .ok (.putfield 50, 3) := by decide +kernel
theorem dX5_init_122 : decode cX5_init 122 = .ok (.aload_n 0, 1) := by decide +kernel
theorem dX5_init_123 : decode cX5_init 123 = .ok (.sipush 151, 3) := by decide +kernel
theorem dX5_init_126 : decode cX5_init 126 = .ok (.newarray .int, 2) := by decide +kernel
theorem dX5_init_128 : decode cX5_init 128 = .ok (.putfield 53, 3) := by decide +kernel
theorem dX5_init_131 : decode cX5_init 131 = .ok (.return_, 1) := by decide +kernel
theorem dX5_thrown_0 : decode cX5_thrown 0 = .ok (.aload_n 0, 1) := by decide +kernel
theorem dX5_thrown_1 : decode cX5_thrown 1 = .ok (.getfield 56, 3) := by decide +kernel
theorem dX5_thrown_4 : decode cX5_thrown 4 = .ok (.ireturn, 1) := by decide +kernel
theorem dX5_no_0 : decode cX5_no 0 = .ok (.aload_n 0, 1) := by decide +kernel
theorem dX5_no_1 : decode cX5_no 1 = .ok (.iload_n 1, 1) := by decide +kernel
theorem dX5_no_2 : decode cX5_no 2 = .ok (.putfield 56, 3) := by decide +kernel
theorem dX5_no_5 : decode cX5_no 5 = .ok (.iconst 0, 1) := by decide +kernel
theorem dX5_no_6 : decode cX5_no 6 = .ok (.ireturn, 1) := by decide +kernel
theorem dX5_isIn_0 : decode cX5_isIn 0 = .ok (.iload_n 0, 1) := by decide +kernel
theorem dX5_isIn_1 : decode cX5_isIn 1 = .ok (.iload_n 1, 1) := by decide +kernel
theorem dX5_isIn_2 : decode cX5_isIn 2 = .ok (.if_icmp .lt 12, 3) := by decide +kernel
theorem dX5_isIn_5 : decode cX5_isIn 5 = .ok (.iload_n 0, 1) := by decide +kernel
theorem dX5_isIn_6 : decode cX5_isIn 6 = .ok (.iload_n 2, 1) := by decide +kernel
theorem dX5_isIn_7 : decode cX5_isIn 7 = .ok (.if_icmp .gt 7, 3) := by decide +kernel
theorem dX5_isIn_10 : decode cX5_isIn 10 = .ok (.iconst 1, 1) := by decide +kernel
theorem dX5_isIn_11 : decode cX5_isIn 11 = .ok (.goto 4, 3) := by decide +kernel
theorem dX5_isIn_14 : decode cX5_isIn 14 = .ok (.iconst 0, 1) := by decide +kernel
theorem dX5_isIn_15 : decode cX5_isIn 15 = .ok (.ireturn, 1) := by decide +kernel
theorem dX5_isSide_0 : decode cX5_isSide 0 = .ok (.iload_n 0, 1) := by decide +kernel
theorem dX5_isSide_1 : decode cX5_isSide 1 = .ok (.ifCond .eq 8, 3) := by decide +kernel
theorem dX5_isSide_4 : decode cX5_isSide 4 = .ok (.iload_n 0, 1) := by decide +kernel
theorem dX5_isSide_5 : decode cX5_isSide 5 = .ok (.iconst 1, 1) := by decide +kernel
theorem dX5_isSide_6 : decode cX5_isSide 6 = .ok (.if_icmp .ne 7, 3) := by decide +kernel
theorem dX5_isSide_9 : decode cX5_isSide 9 = .ok (.iconst 1, 1) := by decide +kernel
theorem dX5_isSide_10 : decode cX5_isSide 10 = .ok (.goto 4, 3) := by decide +kernel
theorem dX5_isSide_13 : decode cX5_isSide 13 = .ok (.iconst 0, 1) := by decide +kernel
theorem dX5_isSide_14 : decode cX5_isSide 14 = .ok (.ireturn, 1) := by decide +kernel
theorem dX5_sizeOf_0 : decode cX5_sizeOf 0 = .ok (.iload_n 1, 1) := by decide +kernel
theorem dX5_sizeOf_1 : decode cX5_sizeOf 1 = .ok (.ifCond .ne 10, 3) := by decide +kernel
theorem dX5_sizeOf_4 : decode cX5_sizeOf 4 = .ok (.aload_n 0, 1) := by decide +kernel
theorem dX5_sizeOf_5 : decode cX5_sizeOf 5 = .ok (.getfield 59, 3) := by decide +kernel
theorem dX5_sizeOf_8 : decode cX5_sizeOf 8 = .ok (.goto 7, 3) := by decide +kernel
theorem dX5_sizeOf_11 : decode cX5_sizeOf 11 = .ok (.aload_n 0, 1) := by decide +kernel
theorem dX5_sizeOf_12 : decode cX5_sizeOf 12 = .ok (.getfield 62, 3) := by decide +kernel
theorem dX5_sizeOf_15 : decode cX5_sizeOf 15 = .ok (.ireturn, 1) := by decide +kernel
theorem dX5_stringOf_0 : decode cX5_stringOf 0 = .ok (.iload_n 1, 1) := by decide +kernel
theorem dX5_stringOf_1 : decode cX5_stringOf 1 = .ok (.ifCond .ne 10, 3) := by decide +kernel
theorem dX5_stringOf_4 : decode cX5_stringOf 4 = .ok (.aload_n 0, 1) := by decide +kernel
theorem dX5_stringOf_5 : decode cX5_stringOf 5 = .ok (.getfield 9, 3) := by decide +kernel
theorem dX5_stringOf_8 : decode cX5_stringOf 8 = .ok (.goto 7, 3) := by decide +kernel
theorem dX5_stringOf_11 : decode cX5_stringOf 11 = .ok (.aload_n 0, 1) := by decide +kernel
theorem dX5_stringOf_12 : decode cX5_stringOf 12 = .ok (.getfield 13, 3) := by decide +kernel
theorem dX5_stringOf_15 : decode cX5_stringOf 15 = .ok (.areturn, 1) := by decide +kernel
theorem dX5_setSize_0 : decode cX5_setSize 0 = .ok (.iload_n 1, 1) := by decide +kernel
theorem dX5_setSize_1 : decode cX5_setSize 1 = .ok (.ifCond .ne 11, 3) := by decide +kernel
theorem dX5_setSize_4 : decode cX5_setSize 4 = .ok (.aload_n 0, 1) := by decide +kernel
theorem dX5_setSize_5 : decode cX5_setSize 5 = .ok (.iload_n 2, 1) := by decide +kernel
theorem dX5_setSize_6 : decode cX5_setSize 6 = .ok (.putfield 59, 3) := by decide +kernel
theorem dX5_setSize_9 : decode cX5_setSize 9 = .ok (.goto 8, 3) := by decide +kernel
theorem dX5_setSize_12 : decode cX5_setSize 12 = .ok (.aload_n 0, 1) := by decide +kernel
theorem dX5_setSize_13 : decode cX5_setSize 13 = .ok (.iload_n 2, 1) := by decide +kernel
theorem dX5_setSize_14 : decode cX5_setSize 14 = .ok (.putfield 62, 3) := by decide +kernel
theorem dX5_setSize_17 : decode cX5_setSize 17 = .ok (.aload_n 0, 1) := by decide +kernel
theorem dX5_setSize_18 : decode cX5_setSize 18 = .ok (.iconst 0, 1) := by decide +kernel
theorem dX5_setSize_19 : decode cX5_setSize 19 = .ok (.putfield 65, 3) := by decide +kernel
theorem dX5_setSize_22 : decode cX5_setSize 22 = .ok (.return_, 1) := by decide +kernel
set_option maxRecDepth 20000 in
theorem ggX5_feed_X5_isSide : GoodIn wsX5_feed wsX5_isSide := goodIn_r _ [6] (by decide +kernel) (by decide +kernel)
set_option maxRecDepth 20000 in
theorem gX5_feed_X5_isSide : GoodIn wsX5_feed (va_wsS RX5 69 yX5_isSide wsX5_isSide) := goodIn_app (goodIn_of _ (by decide +kernel)) ggX5_feed_X5_isSide
set_option maxRecDepth 20000 in
theorem ggX5_feed_X5_no : GoodIn wsX5_feed wsX5_no := goodIn_r _ [10, 1, 31, 32, 33, 34, 35, 36, 37, 38, 39, 40, 41, 42, 43, 44, 45, 46, 47, 48, 49, 50, 51, 52, 53, 54, 55] (by decide +kernel) (by decide +kernel)
set_option maxRecDepth 20000 in
theorem gX5_feed_X5_no : GoodIn wsX5_feed (wsV RX5 73 RX5 yX5_no wsX5_no) := goodIn_app (goodIn_of _ (by decide +kernel)) ggX5_feed_X5_no
set_option maxRecDepth 20000 in
theorem ggX5_feed_X5_isIn : GoodIn wsX5_feed wsX5_isIn := goodIn_r _ [13] (by decide +kernel) (by decide +kernel)
set_option maxRecDepth 20000 in
theorem gX5_feed_X5_isIn : GoodIn wsX5_feed (va_wsS RX5 77 yX5_isIn wsX5_isIn) := goodIn_app (goodIn_of _ (by decide +kernel)) ggX5_feed_X5_isIn
set_option maxRecDepth 20000 in
theorem ggX5_feed_X5_sizeOf : GoodIn wsX5_feed wsX5_sizeOf := goodIn_r _ [17, 18, 19, 31, 32, 33, 34, 35, 36, 37, 38, 39, 40, 41, 42, 43, 44, 45, 46, 47, 48, 49, 50, 51, 52, 53, 54, 55] (by decide +kernel) (by decide +kernel)
set_option maxRecDepth 20000 in
theorem gX5_feed_X5_sizeOf : GoodIn wsX5_feed (wsV RX5 81 RX5 yX5_sizeOf wsX5_sizeOf) := goodIn_app (goodIn_of _ (by decide +kernel)) ggX5_feed_X5_sizeOf
set_option maxRecDepth 20000 in
theorem ggX5_feed_X5_stringOf : GoodIn wsX5_feed wsX5_stringOf := goodIn_r _ [23, 24, 25, 31, 32, 33, 34, 35, 36, 37, 38, 39, 40, 41, 42, 43, 44, 45, 46, 47, 48, 49, 50, 51, 52, 53, 54, 55] (by decide +kernel) (by decide +kernel)
set_option maxRecDepth 20000 in
theorem gX5_feed_X5_stringOf : GoodIn wsX5_feed (wsV RX5 84 RX5 yX5_stringOf wsX5_stringOf) := goodIn_app (goodIn_of _ (by decide +kernel)) ggX5_feed_X5_stringOf
set_option maxRecDepth 20000 in
theorem ggX5_feed_X5_setSize : GoodIn wsX5_feed wsX5_setSize := goodIn_r _ [29, 18, 19, 30, 31, 32, 33, 34, 35, 36, 37, 38, 39, 40, 41, 42, 43, 44, 45, 46, 47, 48, 49, 50, 51, 52, 53, 54, 55] (by decide +kernel) (by decide +kernel)
set_option maxRecDepth 20000 in
theorem gX5_feed_X5_setSize : GoodIn wsX5_feed (wsV RX5 90 RX5 yX5_setSize wsX5_setSize) := goodIn_app (goodIn_of _ (by decide +kernel)) ggX5_feed_X5_setSize
theorem dX5_feed_0 : decode cX5_feed 0 = .ok (.aload_n 0, 1) := by decide +kernel
theorem dX5_feed_1 : decode cX5_feed 1 = .ok (.iconst 0, 1) := by decide +kernel
theorem dX5_feed_2 : decode cX5_feed 2 = .ok (.putfield 56, 3) := by decide +kernel
theorem dX5_feed_5 : decode cX5_feed 5 = .ok (.iload_n 1, 1) := by decide +kernel
theorem dX5_feed_6 : decode cX5_feed 6 = .ok (.invokestatic 69, 3) := by decide +kernel
theorem dX5_feed_9 : decode cX5_feed 9 = .ok (.ifCond .ne 9, 3) := by decide +kernel
theorem dX5_feed_12 : decode cX5_feed 12 = .ok (.aload_n 0, 1) := by decide +kernel
theorem dX5_feed_13 : decode cX5_feed 13 = .ok (.iconst 1, 1) := by decide +kernel
theorem dX5_feed_14 : decode cX5_feed 14 = .ok (.invokevirtual 73, 3) := by decide +kernel
theorem dX5_feed_17 : decode cX5_feed 17 = .ok (.ireturn, 1) := by decide +kernel
theorem dX5_feed_18 : decode cX5_feed 18 = .ok (.iload 4, 2) := by decide +kernel
theorem dX5_feed_20 : decode cX5_feed 20 = .ok (.iconst 1, 1) := by decide +kernel
theorem dX5_feed_21 : decode cX5_feed 21 = .ok (.bipush 8, 2) := by decide +kernel
theorem dX5_feed_23 : decode cX5_feed 23 = .ok (.invokestatic 77, 3) := by decide +kernel
theorem dX5_feed_26 : decode cX5_feed 26 = .ok (.ifCond .ne 9, 3) := by decide +kernel
theorem dX5_feed_29 : decode cX5_feed 29 = .ok (.aload_n 0, 1) := by decide +kernel
theorem dX5_feed_30 : decode cX5_feed 30 = .ok (.iconst 2, 1) := by decide +kernel
theorem dX5_feed_31 : decode cX5_feed 31 = .ok (.invokevirtual 73, 3) := by decide +kernel
theorem dX5_feed_34 : decode cX5_feed 34 = .ok (.ireturn, 1) := by decide +kernel
theorem dX5_feed_35 : decode cX5_feed 35 = .ok (.aload_n 0, 1) := by decide +kernel
theorem dX5_feed_36 : decode cX5_feed 36 = .ok (.iload_n 1, 1) := by decide +kernel
theorem dX5_feed_37 : decode cX5_feed 37 = .ok (.invokevirtual 81, 3) := by decide +kernel
theorem dX5_feed_40 : decode cX5_feed 40 = .ok (.istore 5, 2) := by decide +kernel
theorem dX5_feed_42 : decode cX5_feed 42 = .ok (.iload 5, 2) := by decide +kernel
theorem dX5_feed_44 : decode cX5_feed 44 = .ok (.iload 4, 2) := by decide +kernel
theorem dX5_feed_46 : decode cX5_feed 46 = .ok (.iadd, 1) := by decide +kernel
theorem dX5_feed_47 : decode cX5_feed 47 = .ok (.sipush 150, 3) := by decide +kernel
theorem dX5_feed_50 : decode cX5_feed 50 = .ok (.if_icmp .le 9, 3) := by decide +kernel
theorem dX5_feed_53 : decode cX5_feed 53 = .ok (.aload_n 0, 1) := by decide +kernel
theorem dX5_feed_54 : decode cX5_feed 54 = .ok (.iconst 3, 1) := by decide +kernel
theorem dX5_feed_55 : decode cX5_feed 55 = .ok (.invokevirtual 73, 3) := by decide +kernel
theorem dX5_feed_58 : decode cX5_feed 58 = .ok (.ireturn, 1) := by decide +kernel
theorem dX5_feed_59 : decode cX5_feed 59 = .ok (.iconst 0, 1) := by decide +kernel
theorem dX5_feed_60 : decode cX5_feed 60 = .ok (.istore 6, 2) := by decide +kernel
theorem dX5_feed_62 : decode cX5_feed 62 = .ok (.iload 6, 2) := by decide +kernel
theorem dX5_feed_64 : decode cX5_feed 64 = .ok (.iload 4, 2) := by decide +kernel
theorem dX5_feed_66 : decode cX5_feed 66 = .ok (.if_icmp .ge 37, 3) := by decide +kernel
theorem dX5_feed_69 : decode cX5_feed 69 = .ok (.aload_n 0, 1) := by decide +kernel
theorem dX5_feed_70 : decode cX5_feed 70 = .ok (.iload_n 1, 1) := by decide +kernel
theorem dX5_feed_71 : decode cX5_feed 71 = .ok (.invokevirtual 84, 3) := by decide +kernel
theorem dX5_feed_74 : decode cX5_feed 74 = .ok (.iload 5, 2) := by decide +kernel
theorem dX5_feed_76 : decode cX5_feed 76 = .ok (.iload 6, 2) := by decide +kernel
theorem dX5_feed_78 : decode cX5_feed 78 = .ok (.iadd, 1) := by decide +kernel
theorem dX5_feed_79 : decode cX5_feed 79 = .ok (.lload_n 2, 1) := by decide +kernel
theorem dX5_feed_80 : decode cX5_feed 80 = .ok (.bipush 8, 2) := by decide +kernel
theorem dX5_feed_82 : decode cX5_feed 82 = .ok (.iload 4, 2) := by decide +kernel
theorem dX5_feed_84 : decode cX5_feed 84 = .ok (.iconst 1, 1) := by decide +kernel
theorem dX5_feed_85 : decode cX5_feed 85 = .ok (.isub, 1) := by decide +kernel
theorem dX5_feed_86 : decode cX5_feed 86 = .ok (.iload 6, 2) := by decide +kernel
theorem dX5_feed_88 : decode cX5_feed 88 = .ok (.isub, 1) := by decide +kernel
theorem dX5_feed_89 : decode cX5_feed 89 = .ok (.imul, 1) := by decide +kernel
theorem dX5_feed_90 : decode cX5_feed 90 = .ok (.lshr, 1) := by decide +kernel
theorem dX5_feed_91 : decode cX5_feed 91 = .ok (.ldc2_w 88, 3) := by decide +kernel
theorem dX5_feed_94 : decode cX5_feed 94 = .ok (.land, 1) := by decide +kernel
theorem dX5_feed_95 : decode cX5_feed 95 = .ok (.l2i, 1) := by decide +kernel
theorem dX5_feed_96 : decode cX5_feed 96 = .ok (.iastore, 1) := by decide +kernel
theorem dX5_feed_97 : decode cX5_feed 97 = .ok (.iinc 6 1, 3) := by decide +kernel
theorem dX5_feed_100 : decode cX5_feed 100 = .ok (.goto (-38), 3) := by decide +kernel
theorem dX5_feed_103 : decode cX5_feed 103 = .ok (.aload_n 0, 1) := by decide +kernel
theorem dX5_feed_104 : decode cX5_feed 104 = .ok (.iload_n 1, 1) := by decide +kernel
theorem dX5_feed_105 : decode cX5_feed 105 = .ok (.iload 5, 2) := by decide +kernel
theorem dX5_feed_107 : decode cX5_feed 107 = .ok (.iload 4, 2) := by decide +kernel
theorem dX5_feed_109 : decode cX5_feed 109 = .ok (.iadd, 1) := by decide +kernel
theorem dX5_feed_110 : decode cX5_feed 110 = .ok (.invokevirtual 90, 3) := by decide +kernel
theorem dX5_feed_113 : decode cX5_feed 113 = .ok (.iload 5, 2) := by decide +kernel
theorem dX5_feed_115 : decode cX5_feed 115 = .ok (.iload 4, 2) := by decide +kernel
theorem dX5_feed_117 : decode cX5_feed 117 = .ok (.iadd, 1) := by decide +kernel
theorem dX5_feed_118 : decode cX5_feed 118 = .ok (.ireturn, 1) := by decide +kernel
set_option maxRecDepth 20000 in
theorem ggX5_fill_X5_isSide : GoodIn wsX5_fill wsX5_isSide := goodIn_r _ [5] (by decide +kernel) (by decide +kernel)
set_option maxRecDepth 20000 in
theorem gX5_fill_X5_isSide : GoodIn wsX5_fill (va_wsS RX5 69 yX5_isSide wsX5_isSide) := goodIn_app (goodIn_of _ (by decide +kernel)) ggX5_fill_X5_isSide
set_option maxRecDepth 20000 in
theorem ggX5_fill_X5_no : GoodIn wsX5_fill wsX5_no := goodIn_r _ [9, 1, 30, 31, 32, 33, 34, 35, 36, 37, 38, 39, 40, 41, 42, 43, 44, 45, 46, 47, 48, 49, 50, 51, 52, 53, 54] (by decide +kernel) (by decide +kernel)
set_option maxRecDepth 20000 in
theorem gX5_fill_X5_no : GoodIn wsX5_fill (wsV RX5 73 RX5 yX5_no wsX5_no) := goodIn_app (goodIn_of _ (by decide +kernel)) ggX5_fill_X5_no
set_option maxRecDepth 20000 in
theorem ggX5_fill_X5_isIn : GoodIn wsX5_fill wsX5_isIn := goodIn_r _ [12] (by decide +kernel) (by decide +kernel)
set_option maxRecDepth 20000 in
theorem gX5_fill_X5_isIn : GoodIn wsX5_fill (va_wsS RX5 77 yX5_isIn wsX5_isIn) := goodIn_app (goodIn_of _ (by decide +kernel)) ggX5_fill_X5_isIn
set_option maxRecDepth 20000 in
theorem ggX5_fill_X5_sizeOf : GoodIn wsX5_fill wsX5_sizeOf := goodIn_r _ [16, 17, 18, 30, 31, 32, 33, 34, 35, 36, 37, 38, 39, 40, 41, 42, 43, 44, 45, 46, 47, 48, 49, 50, 51, 52, 53, 54] (by decide +kernel) (by decide +kernel)
set_option maxRecDepth 20000 in
theorem gX5_fill_X5_sizeOf : GoodIn wsX5_fill (wsV RX5 81 RX5 yX5_sizeOf wsX5_sizeOf) := goodIn_app (goodIn_of _ (by decide +kernel)) ggX5_fill_X5_sizeOf
set_option maxRecDepth 20000 in
theorem ggX5_fill_X5_stringOf : GoodIn wsX5_fill wsX5_stringOf := goodIn_r _ [22, 23, 24, 30, 31, 32, 33, 34, 35, 36, 37, 38, 39, 40, 41, 42, 43, 44, 45, 46, 47, 48, 49, 50, 51, 52, 53, 54] (by decide +kernel) (by decide +kernel)
set_option maxRecDepth 20000 in
theorem gX5_fill_X5_stringOf : GoodIn wsX5_fill (wsV RX5 84 RX5 yX5_stringOf wsX5_stringOf) := goodIn_app (goodIn_of _ (by decide +kernel)) ggX5_fill_X5_stringOf
set_option maxRecDepth 20000 in
theorem ggX5_fill_X5_setSize : GoodIn wsX5_fill wsX5_setSize := goodIn_r _ [28, 17, 18, 29, 30, 31, 32, 33, 34, 35, 36, 37, 38, 39, 40, 41, 42, 43, 44, 45, 46, 47, 48, 49, 50, 51, 52, 53, 54] (by decide +kernel) (by decide +kernel)
set_option maxRecDepth 20000 in
theorem gX5_fill_X5_setSize : GoodIn wsX5_fill (wsV RX5 90 RX5 yX5_setSize wsX5_setSize) := goodIn_app (goodIn_of _ (by decide +kernel)) ggX5_fill_X5_setSize
theorem dX5_fill_0 : decode cX5_fill 0 = .ok (.aload_n 0, 1) := by decide +kernel
theorem dX5_fill_1 : decode cX5_fill 1 = .ok (.iconst 0, 1) := by decide +kernel
theorem dX5_fill_2 : decode cX5_fill 2 = .ok (.putfield 56, 3) := by decide +kernel
theorem dX5_fill_5 : decode cX5_fill 5 = .ok (.iload_n 1, 1) := by decide +kernel
theorem dX5_fill_6 : decode cX5_fill 6 = .ok (.invokestatic 69, 3) := by decide +kernel
theorem dX5_fill_9 : decode cX5_fill 9 = .ok (.ifCond .ne 9, 3) := by decide +kernel
theorem dX5_fill_12 : decode cX5_fill 12 = .ok (.aload_n 0, 1) := by decide +kernel
theorem dX5_fill_13 : decode cX5_fill 13 = .ok (.iconst 1, 1) := by decide +kernel
theorem dX5_fill_14 : decode cX5_fill 14 = .ok (.invokevirtual 73, 3) := by decide +kernel
theorem dX5_fill_17 : decode cX5_fill 17 = .ok (.ireturn, 1) := by decide +kernel
theorem dX5_fill_18 : decode cX5_fill 18 = .ok (.iload_n 2, 1) := by decide +kernel
theorem dX5_fill_19 : decode cX5_fill 19 = .ok (.iconst 0, 1) := by decide +kernel
theorem dX5_fill_20 : decode cX5_fill 20 = .ok (.sipush 255, 3) := by decide +kernel
theorem dX5_fill_23 : decode cX5_fill 23 = .ok (.invokestatic 77, 3) := by decide +kernel
theorem dX5_fill_26 : decode cX5_fill 26 = .ok (.ifCond .eq 14, 3) := by decide +kernel
theorem dX5_fill_29 : decode cX5_fill 29 = .ok (.iload_n 3, 1) := by decide +kernel
theorem dX5_fill_30 : decode cX5_fill 30 = .ok (.iconst 1, 1) := by decide +kernel
theorem dX5_fill_31 : decode cX5_fill 31 = .ok (.sipush 150, 3) := by decide +kernel
theorem dX5_fill_34 : decode cX5_fill 34 = .ok (.invokestatic 77, 3) := by decide +kernel
theorem dX5_fill_37 : decode cX5_fill 37 = .ok (.ifCond .ne 9, 3) := by decide +kernel
theorem dX5_fill_40 : decode cX5_fill 40 = .ok (.aload_n 0, 1) := by decide +kernel
theorem dX5_fill_41 : decode cX5_fill 41 = .ok (.iconst 2, 1) := by decide +kernel
theorem dX5_fill_42 : decode cX5_fill 42 = .ok (.invokevirtual 73, 3) := by decide +kernel
theorem dX5_fill_45 : decode cX5_fill 45 = .ok (.ireturn, 1) := by decide +kernel
theorem dX5_fill_46 : decode cX5_fill 46 = .ok (.aload_n 0, 1) := by decide +kernel
theorem dX5_fill_47 : decode cX5_fill 47 = .ok (.iload_n 1, 1) := by decide +kernel
theorem dX5_fill_48 : decode cX5_fill 48 = .ok (.invokevirtual 81, 3) := by decide +kernel
theorem dX5_fill_51 : decode cX5_fill 51 = .ok (.istore 4, 2) := by decide +kernel
theorem dX5_fill_53 : decode cX5_fill 53 = .ok (.iload 4, 2) := by decide +kernel
theorem dX5_fill_55 : decode cX5_fill 55 = .ok (.iload_n 3, 1) := by decide +kernel
theorem dX5_fill_56 : decode cX5_fill 56 = .ok (.iadd, 1) := by decide +kernel
theorem dX5_fill_57 : decode cX5_fill 57 = .ok (.sipush 150, 3) := by decide +kernel
theorem dX5_fill_60 : decode cX5_fill 60 = .ok (.if_icmp .le 9, 3) := by decide +kernel
theorem dX5_fill_63 : decode cX5_fill 63 = .ok (.aload_n 0, 1) := by decide +kernel
theorem dX5_fill_64 : decode cX5_fill 64 = .ok (.iconst 3, 1) := by decide +kernel
theorem dX5_fill_65 : decode cX5_fill 65 = .ok (.invokevirtual 73, 3) := by decide +kernel
theorem dX5_fill_68 : decode cX5_fill 68 = .ok (.ireturn, 1) := by decide +kernel
theorem dX5_fill_69 : decode cX5_fill 69 = .ok (.iconst 0, 1) := by decide +kernel
theorem dX5_fill_70 : decode cX5_fill 70 = .ok (.istore 5, 2) := by decide +kernel
theorem dX5_fill_72 : decode cX5_fill 72 = .ok (.iload 5, 2) := by decide +kernel
theorem dX5_fill_74 : decode cX5_fill 74 = .ok (.iload_n 3, 1) := by decide +kernel
theorem dX5_fill_75 : decode cX5_fill 75 = .ok (.if_icmp .ge 21, 3) := by decide +kernel
theorem dX5_fill_78 : decode cX5_fill 78 = .ok (.aload_n 0, 1) := by decide +kernel
theorem dX5_fill_79 : decode cX5_fill 79 = .ok (.iload_n 1, 1) := by decide +kernel
theorem dX5_fill_80 : decode cX5_fill 80 = .ok (.invokevirtual 84, 3) := by decide +kernel
theorem dX5_fill_83 : decode cX5_fill 83 = .ok (.iload 4, 2) := by decide +kernel
theorem dX5_fill_85 : decode cX5_fill 85 = .ok (.iload 5, 2) := by decide +kernel
theorem dX5_fill_87 : decode cX5_fill 87 = .ok (.iadd, 1) := by decide +kernel
theorem dX5_fill_88 : decode cX5_fill 88 = .ok (.iload_n 2, 1) := by decide +kernel
theorem dX5_fill_89 : decode cX5_fill 89 = .ok (.iastore, 1) := by decide +kernel
theorem dX5_fill_90 : decode cX5_fill 90 = .ok (.iinc 5 1, 3) := by decide +kernel
theorem dX5_fill_93 : decode cX5_fill 93 = .ok (.goto (-21), 3) := by decide +kernel
theorem dX5_fill_96 : decode cX5_fill 96 = .ok (.aload_n 0, 1) := by decide +kernel
theorem dX5_fill_97 : decode cX5_fill 97 = .ok (.iload_n 1, 1) := by decide +kernel
theorem dX5_fill_98 : decode cX5_fill 98 = .ok (.iload 4, 2) := by decide +kernel
theorem dX5_fill_100 : decode cX5_fill 100 = .ok (.iload_n 3, 1) := by decide +kernel
theorem dX5_fill_101 : decode cX5_fill 101 = .ok (.iadd, 1) := by decide +kernel
theorem dX5_fill_102 : decode cX5_fill 102 = .ok (.invokevirtual 90, 3) := by decide +kernel
theorem dX5_fill_105 : decode cX5_fill 105 = .ok (.iload 4, 2) := by decide +kernel
theorem dX5_fill_107 : decode cX5_fill 107 = .ok (.iload_n 3, 1) := by decide +kernel
theorem dX5_fill_108 : decode cX5_fill 108 = .ok (.iadd, 1) := by decide +kernel
theorem dX5_fill_109 : decode cX5_fill 109 = .ok (.ireturn, 1) := by decide +kernel
set_option maxRecDepth 20000 in
theorem ggX5_cut_X5_isSide : GoodIn wsX5_cut wsX5_isSide := goodIn_r _ [5] (by decide +kernel) (by decide +kernel)
set_option maxRecDepth 20000 in
theorem gX5_cut_X5_isSide : GoodIn wsX5_cut (va_wsS RX5 69 yX5_isSide wsX5_isSide) := goodIn_app (goodIn_of _ (by decide +kernel)) ggX5_cut_X5_isSide
set_option maxRecDepth 20000 in
theorem ggX5_cut_X5_no : GoodIn wsX5_cut wsX5_no := goodIn_r _ [9, 1, 24, 25, 26, 27, 28, 29, 30, 31, 32, 33, 34, 35, 36, 37, 38, 39, 40, 41, 42, 43, 44, 45, 46, 47, 48] (by decide +kernel) (by decide +kernel)
set_option maxRecDepth 20000 in
theorem gX5_cut_X5_no : GoodIn wsX5_cut (wsV RX5 73 RX5 yX5_no wsX5_no) := goodIn_app (goodIn_of _ (by decide +kernel)) ggX5_cut_X5_no
set_option maxRecDepth 20000 in
theorem ggX5_cut_X5_sizeOf : GoodIn wsX5_cut wsX5_sizeOf := goodIn_r _ [13, 14, 15, 24, 25, 26, 27, 28, 29, 30, 31, 32, 33, 34, 35, 36, 37, 38, 39, 40, 41, 42, 43, 44, 45, 46, 47, 48] (by decide +kernel) (by decide +kernel)
set_option maxRecDepth 20000 in
theorem gX5_cut_X5_sizeOf : GoodIn wsX5_cut (wsV RX5 81 RX5 yX5_sizeOf wsX5_sizeOf) := goodIn_app (goodIn_of _ (by decide +kernel)) ggX5_cut_X5_sizeOf
set_option maxRecDepth 20000 in
theorem ggX5_cut_X5_isIn : GoodIn wsX5_cut wsX5_isIn := goodIn_r _ [18] (by decide +kernel) (by decide +kernel)
set_option maxRecDepth 20000 in
theorem gX5_cut_X5_isIn : GoodIn wsX5_cut (va_wsS RX5 77 yX5_isIn wsX5_isIn) := goodIn_app (goodIn_of _ (by decide +kernel)) ggX5_cut_X5_isIn
set_option maxRecDepth 20000 in
theorem ggX5_cut_X5_setSize : GoodIn wsX5_cut wsX5_setSize := goodIn_r _ [22, 14, 15, 23, 24, 25, 26, 27, 28, 29, 30, 31, 32, 33, 34, 35, 36, 37, 38, 39, 40, 41, 42, 43, 44, 45, 46, 47, 48] (by decide +kernel) (by decide +kernel)
set_option maxRecDepth 20000 in
theorem gX5_cut_X5_setSize : GoodIn wsX5_cut (wsV RX5 90 RX5 yX5_setSize wsX5_setSize) := goodIn_app (goodIn_of _ (by decide +kernel)) ggX5_cut_X5_setSize
theorem dX5_cut_0 : decode cX5_cut 0 = .ok (.aload_n 0, 1) := by decide +kernel
theorem dX5_cut_1 : decode cX5_cut 1 = .ok (.iconst 0, 1) := by decide +kernel
theorem dX5_cut_2 : decode cX5_cut 2 = .ok (.putfield 56, 3) := by decide +kernel
theorem dX5_cut_5 : decode cX5_cut 5 = .ok (.iload_n 1, 1) := by decide +kernel
theorem dX5_cut_6 : decode cX5_cut 6 = .ok (.invokestatic 69, 3) := by decide +kernel
theorem dX5_cut_9 : decode cX5_cut 9 = .ok (.ifCond .ne 9, 3) := by decide +kernel
theorem dX5_cut_12 : decode cX5_cut 12 = .ok (.aload_n 0, 1) := by decide +kernel
theorem dX5_cut_13 : decode cX5_cut 13 = .ok (.iconst 1, 1) := by decide +kernel
theorem dX5_cut_14 : decode cX5_cut 14 = .ok (.invokevirtual 73, 3) := by decide +kernel
theorem dX5_cut_17 : decode cX5_cut 17 = .ok (.ireturn, 1) := by decide +kernel
theorem dX5_cut_18 : decode cX5_cut 18 = .ok (.iload_n 2, 1) := by decide +kernel
theorem dX5_cut_19 : decode cX5_cut 19 = .ok (.iconst 0, 1) := by decide +kernel
theorem dX5_cut_20 : decode cX5_cut 20 = .ok (.aload_n 0, 1) := by decide +kernel
theorem dX5_cut_21 : decode cX5_cut 21 = .ok (.iload_n 1, 1) := by decide +kernel
theorem dX5_cut_22 : decode cX5_cut 22 = .ok (.invokevirtual 81, 3) := by decide +kernel
theorem dX5_cut_25 : decode cX5_cut 25 = .ok (.invokestatic 77, 3) := by decide +kernel
theorem dX5_cut_28 : decode cX5_cut 28 = .ok (.ifCond .ne 9, 3) := by decide +kernel
theorem dX5_cut_31 : decode cX5_cut 31 = .ok (.aload_n 0, 1) := by decide +kernel
theorem dX5_cut_32 : decode cX5_cut 32 = .ok (.iconst 2, 1) := by decide +kernel
theorem dX5_cut_33 : decode cX5_cut 33 = .ok (.invokevirtual 73, 3) := by decide +kernel
theorem dX5_cut_36 : decode cX5_cut 36 = .ok (.ireturn, 1) := by decide +kernel
theorem dX5_cut_37 : decode cX5_cut 37 = .ok (.aload_n 0, 1) := by decide +kernel
theorem dX5_cut_38 : decode cX5_cut 38 = .ok (.iload_n 1, 1) := by decide +kernel
theorem dX5_cut_39 : decode cX5_cut 39 = .ok (.aload_n 0, 1) := by decide +kernel
theorem dX5_cut_40 : decode cX5_cut 40 = .ok (.iload_n 1, 1) := by decide +kernel
theorem dX5_cut_41 : decode cX5_cut 41 = .ok (.invokevirtual 81, 3) := by decide +kernel
theorem dX5_cut_44 : decode cX5_cut 44 = .ok (.iload_n 2, 1) := by decide +kernel
theorem dX5_cut_45 : decode cX5_cut 45 = .ok (.isub, 1) := by decide +kernel
theorem dX5_cut_46 : decode cX5_cut 46 = .ok (.invokevirtual 90, 3) := by decide +kernel
theorem dX5_cut_49 : decode cX5_cut 49 = .ok (.aload_n 0, 1) := by decide +kernel
theorem dX5_cut_50 : decode cX5_cut 50 = .ok (.iload_n 1, 1) := by decide +kernel
theorem dX5_cut_51 : decode cX5_cut 51 = .ok (.invokevirtual 81, 3) := by decide +kernel
theorem dX5_cut_54 : decode cX5_cut 54 = .ok (.ireturn, 1) := by decide +kernel
set_option maxRecDepth 20000 in
theorem ggX5_set_X5_isSide : GoodIn wsX5_set wsX5_isSide := goodIn_r _ [6] (by decide +kernel) (by decide +kernel)
set_option maxRecDepth 20000 in
theorem gX5_set_X5_isSide : GoodIn wsX5_set (va_wsS RX5 69 yX5_isSide wsX5_isSide) := goodIn_app (goodIn_of _ (by decide +kernel)) ggX5_set_X5_isSide
set_option maxRecDepth 20000 in
theorem ggX5_set_X5_sizeOf : GoodIn wsX5_set wsX5_sizeOf := goodIn_r _ [10, 11, 12, 26, 27, 28, 29, 30, 31, 32, 33, 34, 35, 36, 37, 38, 39, 40, 41, 42, 43, 44, 45, 46, 47, 48, 49, 50] (by decide +kernel) (by decide +kernel)
set_option maxRecDepth 20000 in
theorem gX5_set_X5_sizeOf : GoodIn wsX5_set (wsV RX5 81 RX5 yX5_sizeOf wsX5_sizeOf) := goodIn_app (goodIn_of _ (by decide +kernel)) ggX5_set_X5_sizeOf
set_option maxRecDepth 20000 in
theorem ggX5_set_X5_no : GoodIn wsX5_set wsX5_no := goodIn_r _ [16, 1, 26, 27, 28, 29, 30, 31, 32, 33, 34, 35, 36, 37, 38, 39, 40, 41, 42, 43, 44, 45, 46, 47, 48, 49, 50] (by decide +kernel) (by decide +kernel)
set_option maxRecDepth 20000 in
theorem gX5_set_X5_no : GoodIn wsX5_set (wsV RX5 73 RX5 yX5_no wsX5_no) := goodIn_app (goodIn_of _ (by decide +kernel)) ggX5_set_X5_no
set_option maxRecDepth 20000 in
theorem ggX5_set_X5_isIn : GoodIn wsX5_set wsX5_isIn := goodIn_r _ [19] (by decide +kernel) (by decide +kernel)
set_option maxRecDepth 20000 in
theorem gX5_set_X5_isIn : GoodIn wsX5_set (va_wsS RX5 77 yX5_isIn wsX5_isIn) := goodIn_app (goodIn_of _ (by decide +kernel)) ggX5_set_X5_isIn
set_option maxRecDepth 20000 in
theorem ggX5_set_X5_stringOf : GoodIn wsX5_set wsX5_stringOf := goodIn_r _ [23, 24, 25, 26, 27, 28, 29, 30, 31, 32, 33, 34, 35, 36, 37, 38, 39, 40, 41, 42, 43, 44, 45, 46, 47, 48, 49, 50] (by decide +kernel) (by decide +kernel)
set_option maxRecDepth 20000 in
theorem gX5_set_X5_stringOf : GoodIn wsX5_set (wsV RX5 84 RX5 yX5_stringOf wsX5_stringOf) := goodIn_app (goodIn_of _ (by decide +kernel)) ggX5_set_X5_stringOf
theorem dX5_set_0 : decode cX5_set 0 = .ok (.aload_n 0, 1) := by decide +kernel
theorem dX5_set_1 : decode cX5_set 1 = .ok (.iconst 0, 1) := by decide +kernel
theorem dX5_set_2 : decode cX5_set 2 = .ok (.putfield 56, 3) := by decide +kernel
theorem dX5_set_5 : decode cX5_set 5 = .ok (.iload_n 1, 1) := by decide +kernel
theorem dX5_set_6 : decode cX5_set 6 = .ok (.invokestatic 69, 3) := by decide +kernel
theorem dX5_set_9 : decode cX5_set 9 = .ok (.ifCond .eq 16, 3) := by decide +kernel
theorem dX5_set_12 : decode cX5_set 12 = .ok (.iload_n 2, 1) := by decide +kernel
theorem dX5_set_13 : decode cX5_set 13 = .ok (.ifCond .lt 12, 3) := by decide +kernel
theorem dX5_set_16 : decode cX5_set 16 = .ok (.iload_n 2, 1) := by decide +kernel
theorem dX5_set_17 : decode cX5_set 17 = .ok (.aload_n 0, 1) := by decide +kernel
theorem dX5_set_18 : decode cX5_set 18 = .ok (.iload_n 1, 1) := by decide +kernel
theorem dX5_set_19 : decode cX5_set 19 = .ok (.invokevirtual 81, 3) := by decide +kernel
theorem dX5_set_22 : decode cX5_set 22 = .ok (.if_icmp .lt 9, 3) := by decide +kernel
theorem dX5_set_25 : decode cX5_set 25 = .ok (.aload_n 0, 1) := by decide +kernel
theorem dX5_set_26 : decode cX5_set 26 = .ok (.iconst 1, 1) := by decide +kernel
theorem dX5_set_27 : decode cX5_set 27 = .ok (.invokevirtual 73, 3) := by decide +kernel
theorem dX5_set_30 : decode cX5_set 30 = .ok (.ireturn, 1) := by decide +kernel
theorem dX5_set_31 : decode cX5_set 31 = .ok (.iload_n 3, 1) := by decide +kernel
theorem dX5_set_32 : decode cX5_set 32 = .ok (.iconst 0, 1) := by decide +kernel
theorem dX5_set_33 : decode cX5_set 33 = .ok (.sipush 255, 3) := by decide +kernel
theorem dX5_set_36 : decode cX5_set 36 = .ok (.invokestatic 77, 3) := by decide +kernel
theorem dX5_set_39 : decode cX5_set 39 = .ok (.ifCond .ne 9, 3) := by decide +kernel
theorem dX5_set_42 : decode cX5_set 42 = .ok (.aload_n 0, 1) := by decide +kernel
theorem dX5_set_43 : decode cX5_set 43 = .ok (.iconst 2, 1) := by decide +kernel
theorem dX5_set_44 : decode cX5_set 44 = .ok (.invokevirtual 73, 3) := by decide +kernel
theorem dX5_set_47 : decode cX5_set 47 = .ok (.ireturn, 1) := by decide +kernel
theorem dX5_set_48 : decode cX5_set 48 = .ok (.aload_n 0, 1) := by decide +kernel
theorem dX5_set_49 : decode cX5_set 49 = .ok (.iload_n 1, 1) := by decide +kernel
theorem dX5_set_50 : decode cX5_set 50 = .ok (.invokevirtual 84, 3) := by decide +kernel
theorem dX5_set_53 : decode cX5_set 53 = .ok (.iload_n 2, 1) := by decide +kernel
theorem dX5_set_54 : decode cX5_set 54 = .ok (.iaload, 1) := by decide +kernel
theorem dX5_set_55 : decode cX5_set 55 = .ok (.istore 4, 2) := by decide +kernel
theorem dX5_set_57 : decode cX5_set 57 = .ok (.aload_n 0, 1) := by decide +kernel
theorem dX5_set_58 : decode cX5_set 58 = .ok (.iload_n 1, 1) := by decide +kernel
theorem dX5_set_59 : decode cX5_set 59 = .ok (.invokevirtual 84, 3) := by decide +kernel
theorem dX5_set_62 : decode cX5_set 62 = .ok (.iload_n 2, 1) := by decide +kernel
theorem dX5_set_63 : decode cX5_set 63 = .ok (.iload_n 3, 1) := by decide +kernel
theorem dX5_set_64 : decode cX5_set 64 = .ok (.iastore, 1) := by decide +kernel
theorem dX5_set_65 : decode cX5_set 65 = .ok (.aload_n 0, 1) := by decide +kernel
theorem dX5_set_66 : decode cX5_set 66 = .ok (.iconst 0, 1) := by decide +kernel
theorem dX5_set_67 : decode cX5_set 67 = .ok (.putfield 65, 3) := by decide +kernel
theorem dX5_set_70 : decode cX5_set 70 = .ok (.iload 4, 2) := by decide +kernel
theorem dX5_set_72 : decode cX5_set 72 = .ok (.ireturn, 1) := by decide +kernel
set_option maxRecDepth 20000 in
theorem ggX5_size_X5_isSide : GoodIn wsX5_size wsX5_isSide := goodIn_r _ [5] (by decide +kernel) (by decide +kernel)
set_option maxRecDepth 20000 in
theorem gX5_size_X5_isSide : GoodIn wsX5_size (va_wsS RX5 69 yX5_isSide wsX5_isSide) := goodIn_app (goodIn_of _ (by decide +kernel)) ggX5_size_X5_isSide
set_option maxRecDepth 20000 in
theorem ggX5_size_X5_sizeOf : GoodIn wsX5_size wsX5_sizeOf := goodIn_r _ [9, 10, 11, 16, 17, 18, 19, 20, 21, 22, 23, 24, 25, 26, 27, 28, 29, 30, 31, 32, 33, 34, 35, 36, 37, 38, 39, 40] (by decide +kernel) (by decide +kernel)
set_option maxRecDepth 20000 in
theorem gX5_size_X5_sizeOf : GoodIn wsX5_size (wsV RX5 81 RX5 yX5_sizeOf wsX5_sizeOf) := goodIn_app (goodIn_of _ (by decide +kernel)) ggX5_size_X5_sizeOf
set_option maxRecDepth 20000 in
theorem ggX5_size_X5_no : GoodIn wsX5_size wsX5_no := goodIn_r _ [15, 1, 16, 17, 18, 19, 20, 21, 22, 23, 24, 25, 26, 27, 28, 29, 30, 31, 32, 33, 34, 35, 36, 37, 38, 39, 40] (by decide +kernel) (by decide +kernel)
set_option maxRecDepth 20000 in
theorem gX5_size_X5_no : GoodIn wsX5_size (wsV RX5 73 RX5 yX5_no wsX5_no) := goodIn_app (goodIn_of _ (by decide +kernel)) ggX5_size_X5_no
theorem dX5_size_0 : decode cX5_size 0 = .ok (.aload_n 0, 1) := by decide +kernel
theorem dX5_size_1 : decode cX5_size 1 = .ok (.iconst 0, 1) := by decide +kernel
theorem dX5_size_2 : decode cX5_size 2 = .ok (.putfield 56, 3) := by decide +kernel
theorem dX5_size_5 : decode cX5_size 5 = .ok (.iload_n 1, 1) := by decide +kernel
theorem dX5_size_6 : decode cX5_size 6 = .ok (.invokestatic 69, 3) := by decide +kernel
theorem dX5_size_9 : decode cX5_size 9 = .ok (.ifCond .eq 11, 3) := by decide +kernel
theorem dX5_size_12 : decode cX5_size 12 = .ok (.aload_n 0, 1) := by decide +kernel
theorem dX5_size_13 : decode cX5_size 13 = .ok (.iload_n 1, 1) := by decide +kernel
theorem dX5_size_14 : decode cX5_size 14 = .ok (.invokevirtual 81, 3) := by decide +kernel
theorem dX5_size_17 : decode cX5_size 17 = .ok (.goto 8, 3) := by decide +kernel
theorem dX5_size_20 : decode cX5_size 20 = .ok (.aload_n 0, 1) := by decide +kernel
theorem dX5_size_21 : decode cX5_size 21 = .ok (.iconst 1, 1) := by decide +kernel
theorem dX5_size_22 : decode cX5_size 22 = .ok (.invokevirtual 73, 3) := by decide +kernel
theorem dX5_size_25 : decode cX5_size 25 = .ok (.ireturn, 1) := by decide +kernel
set_option maxRecDepth 20000 in
theorem ggX5_byteAt_X5_isSide : GoodIn wsX5_byteAt wsX5_isSide := goodIn_r _ [5] (by decide +kernel) (by decide +kernel)
set_option maxRecDepth 20000 in
theorem gX5_byteAt_X5_isSide : GoodIn wsX5_byteAt (va_wsS RX5 69 yX5_isSide wsX5_isSide) := goodIn_app (goodIn_of _ (by decide +kernel)) ggX5_byteAt_X5_isSide
set_option maxRecDepth 20000 in
theorem ggX5_byteAt_X5_sizeOf : GoodIn wsX5_byteAt wsX5_sizeOf := goodIn_r _ [9, 10, 11, 22, 23, 24, 25, 26, 27, 28, 29, 30, 31, 32, 33, 34, 35, 36, 37, 38, 39, 40, 41, 42, 43, 44, 45, 46] (by decide +kernel) (by decide +kernel)
set_option maxRecDepth 20000 in
theorem gX5_byteAt_X5_sizeOf : GoodIn wsX5_byteAt (wsV RX5 81 RX5 yX5_sizeOf wsX5_sizeOf) := goodIn_app (goodIn_of _ (by decide +kernel)) ggX5_byteAt_X5_sizeOf
set_option maxRecDepth 20000 in
theorem ggX5_byteAt_X5_stringOf : GoodIn wsX5_byteAt wsX5_stringOf := goodIn_r _ [15, 16, 17, 22, 23, 24, 25, 26, 27, 28, 29, 30, 31, 32, 33, 34, 35, 36, 37, 38, 39, 40, 41, 42, 43, 44, 45, 46] (by decide +kernel) (by decide +kernel)
set_option maxRecDepth 20000 in
theorem gX5_byteAt_X5_stringOf : GoodIn wsX5_byteAt (wsV RX5 84 RX5 yX5_stringOf wsX5_stringOf) := goodIn_app (goodIn_of _ (by decide +kernel)) ggX5_byteAt_X5_stringOf
set_option maxRecDepth 20000 in
theorem ggX5_byteAt_X5_no : GoodIn wsX5_byteAt wsX5_no := goodIn_r _ [21, 1, 22, 23, 24, 25, 26, 27, 28, 29, 30, 31, 32, 33, 34, 35, 36, 37, 38, 39, 40, 41, 42, 43, 44, 45, 46] (by decide +kernel) (by decide +kernel)
set_option maxRecDepth 20000 in
theorem gX5_byteAt_X5_no : GoodIn wsX5_byteAt (wsV RX5 73 RX5 yX5_no wsX5_no) := goodIn_app (goodIn_of _ (by decide +kernel)) ggX5_byteAt_X5_no
theorem dX5_byteAt_0 : decode cX5_byteAt 0 = .ok (.aload_n 0, 1) := by decide +kernel
theorem dX5_byteAt_1 : decode cX5_byteAt 1 = .ok (.iconst 0, 1) := by decide +kernel
theorem dX5_byteAt_2 : decode cX5_byteAt 2 = .ok (.putfield 56, 3) := by decide +kernel
theorem dX5_byteAt_5 : decode cX5_byteAt 5 = .ok (.iload_n 1, 1) := by decide +kernel
theorem dX5_byteAt_6 : decode cX5_byteAt 6 = .ok (.invokestatic 69, 3) := by decide +kernel
theorem dX5_byteAt_9 : decode cX5_byteAt 9 = .ok (.ifCond .eq 26, 3) := by decide +kernel
theorem dX5_byteAt_12 : decode cX5_byteAt 12 = .ok (.iload_n 2, 1) := by decide +kernel
theorem dX5_byteAt_13 : decode cX5_byteAt 13 = .ok (.ifCond .lt 22, 3) := by decide +kernel
theorem dX5_byteAt_16 : decode cX5_byteAt 16 = .ok (.iload_n 2, 1) := by decide +kernel
theorem dX5_byteAt_17 : decode cX5_byteAt 17 = .ok (.aload_n 0, 1) := by decide +kernel
theorem dX5_byteAt_18 : decode cX5_byteAt 18 = .ok (.iload_n 1, 1) := by decide +kernel
theorem dX5_byteAt_19 : decode cX5_byteAt 19 = .ok (.invokevirtual 81, 3) := by decide +kernel
theorem dX5_byteAt_22 : decode cX5_byteAt 22 = .ok (.if_icmp .ge 13, 3) := by decide +kernel
theorem dX5_byteAt_25 : decode cX5_byteAt 25 = .ok (.aload_n 0, 1) := by decide +kernel
theorem dX5_byteAt_26 : decode cX5_byteAt 26 = .ok (.iload_n 1, 1) := by decide +kernel
theorem dX5_byteAt_27 : decode cX5_byteAt 27 = .ok (.invokevirtual 84, 3) := by decide +kernel
theorem dX5_byteAt_30 : decode cX5_byteAt 30 = .ok (.iload_n 2, 1) := by decide +kernel
theorem dX5_byteAt_31 : decode cX5_byteAt 31 = .ok (.iaload, 1) := by decide +kernel
theorem dX5_byteAt_32 : decode cX5_byteAt 32 = .ok (.goto 8, 3) := by decide +kernel
theorem dX5_byteAt_35 : decode cX5_byteAt 35 = .ok (.aload_n 0, 1) := by decide +kernel
theorem dX5_byteAt_36 : decode cX5_byteAt 36 = .ok (.iconst 1, 1) := by decide +kernel
theorem dX5_byteAt_37 : decode cX5_byteAt 37 = .ok (.invokevirtual 73, 3) := by decide +kernel
theorem dX5_byteAt_40 : decode cX5_byteAt 40 = .ok (.ireturn, 1) := by decide +kernel
theorem dX5_turn_0 : decode cX5_turn 0 = .ok (.aload_n 0, 1) := by decide +kernel
theorem dX5_turn_1 : decode cX5_turn 1 = .ok (.iconst 0, 1) := by decide +kernel
theorem dX5_turn_2 : decode cX5_turn 2 = .ok (.putfield 56, 3) := by decide +kernel
theorem dX5_turn_5 : decode cX5_turn 5 = .ok (.aload_n 0, 1) := by decide +kernel
theorem dX5_turn_6 : decode cX5_turn 6 = .ok (.getfield 9, 3) := by decide +kernel
theorem dX5_turn_9 : decode cX5_turn 9 = .ok (.astore_n 1, 1) := by decide +kernel
theorem dX5_turn_10 : decode cX5_turn 10 = .ok (.aload_n 0, 1) := by decide +kernel
theorem dX5_turn_11 : decode cX5_turn 11 = .ok (.aload_n 0, 1) := by decide +kernel
theorem dX5_turn_12 : decode cX5_turn 12 = .ok (.getfield 13, 3) := by decide +kernel
theorem dX5_turn_15 : decode cX5_turn 15 = .ok (.putfield 9, 3) := by decide +kernel
theorem dX5_turn_18 : decode cX5_turn 18 = .ok (.aload_n 0, 1) := by decide +kernel
theorem dX5_turn_19 : decode cX5_turn 19 = .ok (.aload_n 1, 1) := by decide +kernel
theorem dX5_turn_20 : decode cX5_turn 20 = .ok (.putfield 13, 3) := by decide +kernel
theorem dX5_turn_23 : decode cX5_turn 23 = .ok (.aload_n 0, 1) := by decide +kernel
theorem dX5_turn_24 : decode cX5_turn 24 = .ok (.getfield 59, 3) := by decide +kernel
theorem dX5_turn_27 : decode cX5_turn 27 = .ok (.istore_n 2, 1) := by decide +kernel
theorem dX5_turn_28 : decode cX5_turn 28 = .ok (.aload_n 0, 1) := by decide +kernel
theorem dX5_turn_29 : decode cX5_turn 29 = .ok (.aload_n 0, 1) := by decide +kernel
theorem dX5_turn_30 : decode cX5_turn 30 = .ok (.getfield 62, 3) := by decide +kernel
theorem dX5_turn_33 : decode cX5_turn 33 = .ok (.putfield 59, 3) := by decide +kernel
theorem dX5_turn_36 : decode cX5_turn 36 = .ok (.aload_n 0, 1) := by decide +kernel
theorem dX5_turn_37 : decode cX5_turn 37 = .ok (.iload_n 2, 1) := by decide +kernel
theorem dX5_turn_38 : decode cX5_turn 38 = .ok (.putfield 62, 3) := by decide +kernel
theorem dX5_turn_41 : decode cX5_turn 41 = .ok (.aload_n 0, 1) := by decide +kernel
theorem dX5_turn_42 : decode cX5_turn 42 = .ok (.iconst 0, 1) := by decide +kernel
theorem dX5_turn_43 : decode cX5_turn 43 = .ok (.putfield 65, 3) := by decide +kernel
theorem dX5_turn_46 : decode cX5_turn 46 = .ok (.aload_n 0, 1) := by decide +kernel
theorem dX5_turn_47 : decode cX5_turn 47 = .ok (.getfield 62, 3) := by decide +kernel
theorem dX5_turn_50 : decode cX5_turn 50 = .ok (.ireturn, 1) := by decide +kernel
theorem dX5_advance_0 : decode cX5_advance 0 = .ok (.aload_n 0, 1) := by decide +kernel
theorem dX5_advance_1 : decode cX5_advance 1 = .ok (.iconst 0, 1) := by decide +kernel
theorem dX5_advance_2 : decode cX5_advance 2 = .ok (.putfield 56, 3) := by decide +kernel
theorem dX5_advance_5 : decode cX5_advance 5 = .ok (.aload_n 0, 1) := by decide +kernel
theorem dX5_advance_6 : decode cX5_advance 6 = .ok (.getfield 9, 3) := by decide +kernel
theorem dX5_advance_9 : decode cX5_advance 9 = .ok (.astore_n 1, 1) := by decide +kernel
theorem dX5_advance_10 : decode cX5_advance 10 = .ok (.aload_n 0, 1) := by decide +kernel
theorem dX5_advance_11 : decode cX5_advance 11 = .ok (.aload_n 0, 1) := by decide +kernel
theorem dX5_advance_12 : decode cX5_advance 12 = .ok (.getfield 13, 3) := by decide +kernel
theorem dX5_advance_15 : decode cX5_advance 15 = .ok (.putfield 9, 3) := by decide +kernel
theorem dX5_advance_18 : decode cX5_advance 18 = .ok (.aload_n 0, 1) := by decide +kernel
theorem dX5_advance_19 : decode cX5_advance 19 = .ok (.aload_n 1, 1) := by decide +kernel
theorem dX5_advance_20 : decode cX5_advance 20 = .ok (.putfield 13, 3) := by decide +kernel
theorem dX5_advance_23 : decode cX5_advance 23 = .ok (.aload_n 0, 1) := by decide +kernel
theorem dX5_advance_24 : decode cX5_advance 24 = .ok (.aload_n 0, 1) := by decide +kernel
theorem dX5_advance_25 : decode cX5_advance 25 = .ok (.getfield 62, 3) := by decide +kernel
theorem dX5_advance_28 : decode cX5_advance 28 = .ok (.putfield 59, 3) := by decide +kernel
theorem dX5_advance_31 : decode cX5_advance 31 = .ok (.aload_n 0, 1) := by decide +kernel
theorem dX5_advance_32 : decode cX5_advance 32 = .ok (.iconst 0, 1) := by decide +kernel
theorem dX5_advance_33 : decode cX5_advance 33 = .ok (.putfield 62, 3) := by decide +kernel
theorem dX5_advance_36 : decode cX5_advance 36 = .ok (.aload_n 0, 1) := by decide +kernel
theorem dX5_advance_37 : decode cX5_advance 37 = .ok (.iconst 0, 1) := by decide +kernel
theorem dX5_advance_38 : decode cX5_advance 38 = .ok (.putfield 65, 3) := by decide +kernel
theorem dX5_advance_41 : decode cX5_advance 41 = .ok (.aload_n 0, 1) := by decide +kernel
theorem dX5_advance_42 : decode cX5_advance 42 = .ok (.getfield 59, 3) := by decide +kernel
theorem dX5_advance_45 : decode cX5_advance 45 = .ok (.ireturn, 1) := by decide +kernel
theorem dX5_checkOf_0 : decode cX5_checkOf 0 = .ok (.iconst 0, 1) := by decide +kernel
theorem dX5_checkOf_1 : decode cX5_checkOf 1 = .ok (.istore_n 3, 1) := by decide +kernel
theorem dX5_checkOf_2 : decode cX5_checkOf 2 = .ok (.iconst 0, 1) := by decide +kernel
theorem dX5_checkOf_3 : decode cX5_checkOf 3 = .ok (.istore 4, 2) := by decide +kernel
theorem dX5_checkOf_5 : decode cX5_checkOf 5 = .ok (.iload_n 1, 1) := by decide +kernel
theorem dX5_checkOf_6 : decode cX5_checkOf 6 = .ok (.istore 5, 2) := by decide +kernel
theorem dX5_checkOf_8 : decode cX5_checkOf 8 = .ok (.iload 5, 2) := by decide +kernel
theorem dX5_checkOf_10 : decode cX5_checkOf 10 = .ok (.iload_n 2, 1) := by decide +kernel
theorem dX5_checkOf_11 : decode cX5_checkOf 11 = .ok (.if_icmp .ge 30, 3) := by decide +kernel
theorem dX5_checkOf_14 : decode cX5_checkOf 14 = .ok (.iload_n 3, 1) := by decide +kernel
theorem dX5_checkOf_15 : decode cX5_checkOf 15 = .ok (.aload_n 0, 1) := by decide +kernel
theorem dX5_checkOf_16 : decode cX5_checkOf 16 = .ok (.iload 5, 2) := by decide +kernel
theorem dX5_checkOf_18 : decode cX5_checkOf 18 = .ok (.iaload, 1) := by decide +kernel
theorem dX5_checkOf_19 : decode cX5_checkOf 19 = .ok (.iadd, 1) := by decide +kernel
theorem dX5_checkOf_20 : decode cX5_checkOf 20 = .ok (.sipush 251, 3) := by decide +kernel
theorem dX5_checkOf_23 : decode cX5_checkOf 23 = .ok (.irem, 1) := by decide +kernel
theorem dX5_checkOf_24 : decode cX5_checkOf 24 = .ok (.istore_n 3, 1) := by decide +kernel
theorem dX5_checkOf_25 : decode cX5_checkOf 25 = .ok (.iload 4, 2) := by decide +kernel
theorem dX5_checkOf_27 : decode cX5_checkOf 27 = .ok (.iload_n 3, 1) := by decide +kernel
theorem dX5_checkOf_28 : decode cX5_checkOf 28 = .ok (.iadd, 1) := by decide +kernel
theorem dX5_checkOf_29 : decode cX5_checkOf 29 = .ok (.sipush 251, 3) := by decide +kernel
theorem dX5_checkOf_32 : decode cX5_checkOf 32 = .ok (.irem, 1) := by decide +kernel
theorem dX5_checkOf_33 : decode cX5_checkOf 33 = .ok (.istore 4, 2) := by decide +kernel
theorem dX5_checkOf_35 : decode cX5_checkOf 35 = .ok (.iinc 5 1, 3) := by decide +kernel
theorem dX5_checkOf_38 : decode cX5_checkOf 38 = .ok (.goto (-30), 3) := by decide +kernel
theorem dX5_checkOf_41 : decode cX5_checkOf 41 = .ok (.sipush 256, 3) := by decide +kernel
theorem dX5_checkOf_44 : decode cX5_checkOf 44 = .ok (.iload 4, 2) := by decide +kernel
theorem dX5_checkOf_46 : decode cX5_checkOf 46 = .ok (.imul, 1) := by decide +kernel
theorem dX5_checkOf_47 : decode cX5_checkOf 47 = .ok (.iload_n 3, 1) := by decide +kernel
theorem dX5_checkOf_48 : decode cX5_checkOf 48 = .ok (.iadd, 1) := by decide +kernel
theorem dX5_checkOf_49 : decode cX5_checkOf 49 = .ok (.ireturn, 1) := by decide +kernel
set_option maxRecDepth 20000 in
theorem ggX5_check_X5_isSide : GoodIn wsX5_check wsX5_isSide := goodIn_r _ [5] (by decide +kernel) (by decide +kernel)
set_option maxRecDepth 20000 in
theorem gX5_check_X5_isSide : GoodIn wsX5_check (va_wsS RX5 69 yX5_isSide wsX5_isSide) := goodIn_app (goodIn_of _ (by decide +kernel)) ggX5_check_X5_isSide
set_option maxRecDepth 20000 in
theorem ggX5_check_X5_sizeOf : GoodIn wsX5_check wsX5_sizeOf := goodIn_r _ [9, 10, 11, 25, 26, 27, 28, 29, 30, 31, 32, 33, 34, 35, 36, 37, 38, 39, 40, 41, 42, 43, 44, 45, 46, 47, 48, 49] (by decide +kernel) (by decide +kernel)
set_option maxRecDepth 20000 in
theorem gX5_check_X5_sizeOf : GoodIn wsX5_check (wsV RX5 81 RX5 yX5_sizeOf wsX5_sizeOf) := goodIn_app (goodIn_of _ (by decide +kernel)) ggX5_check_X5_sizeOf
set_option maxRecDepth 20000 in
theorem ggX5_check_X5_no : GoodIn wsX5_check wsX5_no := goodIn_r _ [15, 1, 25, 26, 27, 28, 29, 30, 31, 32, 33, 34, 35, 36, 37, 38, 39, 40, 41, 42, 43, 44, 45, 46, 47, 48, 49] (by decide +kernel) (by decide +kernel)
set_option maxRecDepth 20000 in
theorem gX5_check_X5_no : GoodIn wsX5_check (wsV RX5 73 RX5 yX5_no wsX5_no) := goodIn_app (goodIn_of _ (by decide +kernel)) ggX5_check_X5_no
set_option maxRecDepth 20000 in
theorem ggX5_check_X5_stringOf : GoodIn wsX5_check wsX5_stringOf := goodIn_r _ [19, 20, 21, 25, 26, 27, 28, 29, 30, 31, 32, 33, 34, 35, 36, 37, 38, 39, 40, 41, 42, 43, 44, 45, 46, 47, 48, 49] (by decide +kernel) (by decide +kernel)
set_option maxRecDepth 20000 in
theorem gX5_check_X5_stringOf : GoodIn wsX5_check (wsV RX5 84 RX5 yX5_stringOf wsX5_stringOf) := goodIn_app (goodIn_of _ (by decide +kernel)) ggX5_check_X5_stringOf
set_option maxRecDepth 20000 in
theorem ggX5_check_X5_checkOf : GoodIn wsX5_check wsX5_checkOf := goodIn_r _ [24] (by decide +kernel) (by decide +kernel)
set_option maxRecDepth 20000 in
theorem gX5_check_X5_checkOf : GoodIn wsX5_check (va_wsS RX5 94 yX5_checkOf wsX5_checkOf) := goodIn_app (goodIn_of _ (by decide +kernel)) ggX5_check_X5_checkOf
theorem dX5_check_0 : decode cX5_check 0 = .ok (.aload_n 0, 1) := by decide +kernel
theorem dX5_check_1 : decode cX5_check 1 = .ok (.iconst 0, 1) := by decide +kernel
theorem dX5_check_2 : decode cX5_check 2 = .ok (.putfield 56, 3) := by decide +kernel
theorem dX5_check_5 : decode cX5_check 5 = .ok (.iload_n 1, 1) := by decide +kernel
theorem dX5_check_6 : decode cX5_check 6 = .ok (.invokestatic 69, 3) := by decide +kernel
theorem dX5_check_9 : decode cX5_check 9 = .ok (.ifCond .eq 21, 3) := by decide +kernel
theorem dX5_check_12 : decode cX5_check 12 = .ok (.iload_n 2, 1) := by decide +kernel
theorem dX5_check_13 : decode cX5_check 13 = .ok (.ifCond .lt 17, 3) := by decide +kernel
theorem dX5_check_16 : decode cX5_check 16 = .ok (.iload_n 3, 1) := by decide +kernel
theorem dX5_check_17 : decode cX5_check 17 = .ok (.aload_n 0, 1) := by decide +kernel
theorem dX5_check_18 : decode cX5_check 18 = .ok (.iload_n 1, 1) := by decide +kernel
theorem dX5_check_19 : decode cX5_check 19 = .ok (.invokevirtual 81, 3) := by decide +kernel
theorem dX5_check_22 : decode cX5_check 22 = .ok (.if_icmp .gt 8, 3) := by decide +kernel
theorem dX5_check_25 : decode cX5_check 25 = .ok (.iload_n 2, 1) := by decide +kernel
theorem dX5_check_26 : decode cX5_check 26 = .ok (.iload_n 3, 1) := by decide +kernel
theorem dX5_check_27 : decode cX5_check 27 = .ok (.if_icmp .le 9, 3) := by decide +kernel
theorem dX5_check_30 : decode cX5_check 30 = .ok (.aload_n 0, 1) := by decide +kernel
theorem dX5_check_31 : decode cX5_check 31 = .ok (.iconst 1, 1) := by decide +kernel
theorem dX5_check_32 : decode cX5_check 32 = .ok (.invokevirtual 73, 3) := by decide +kernel
theorem dX5_check_35 : decode cX5_check 35 = .ok (.ireturn, 1) := by decide +kernel
theorem dX5_check_36 : decode cX5_check 36 = .ok (.aload_n 0, 1) := by decide +kernel
theorem dX5_check_37 : decode cX5_check 37 = .ok (.iload_n 1, 1) := by decide +kernel
theorem dX5_check_38 : decode cX5_check 38 = .ok (.invokevirtual 84, 3) := by decide +kernel
theorem dX5_check_41 : decode cX5_check 41 = .ok (.iload_n 2, 1) := by decide +kernel
theorem dX5_check_42 : decode cX5_check 42 = .ok (.iload_n 3, 1) := by decide +kernel
theorem dX5_check_43 : decode cX5_check 43 = .ok (.invokestatic 94, 3) := by decide +kernel
theorem dX5_check_46 : decode cX5_check 46 = .ok (.ireturn, 1) := by decide +kernel
theorem dX5_common_0 : decode cX5_common 0 = .ok (.iconst 0, 1) := by decide +kernel
theorem dX5_common_1 : decode cX5_common 1 = .ok (.istore 4, 2) := by decide +kernel
theorem dX5_common_3 : decode cX5_common 3 = .ok (.iload_n 1, 1) := by decide +kernel
theorem dX5_common_4 : decode cX5_common 4 = .ok (.iload 4, 2) := by decide +kernel
theorem dX5_common_6 : decode cX5_common 6 = .ok (.iadd, 1) := by decide +kernel
theorem dX5_common_7 : decode cX5_common 7 = .ok (.aload_n 0, 1) := by decide +kernel
theorem dX5_common_8 : decode cX5_common 8 = .ok (.getfield 62, 3) := by decide +kernel
theorem dX5_common_11 : decode cX5_common 11 = .ok (.if_icmp .ge 62, 3) := by decide +kernel
theorem dX5_common_14 : decode cX5_common 14 = .ok (.iload_n 2, 1) := by decide +kernel
theorem dX5_common_15 : decode cX5_common 15 = .ok (.iconst 1, 1) := by decide +kernel
theorem dX5_common_16 : decode cX5_common 16 = .ok (.if_icmp .eq 14, 3) := by decide +kernel
theorem dX5_common_19 : decode cX5_common 19 = .ok (.iload_n 3, 1) := by decide +kernel
theorem dX5_common_20 : decode cX5_common 20 = .ok (.iload 4, 2) := by decide +kernel
theorem dX5_common_22 : decode cX5_common 22 = .ok (.iadd, 1) := by decide +kernel
theorem dX5_common_23 : decode cX5_common 23 = .ok (.aload_n 0, 1) := by decide +kernel
theorem dX5_common_24 : decode cX5_common 24 = .ok (.getfield 59, 3) := by decide +kernel
theorem dX5_common_27 : decode cX5_common 27 = .ok (.if_icmp .ge 46, 3) := by decide +kernel
theorem dX5_common_30 : decode cX5_common 30 = .ok (.aload_n 0, 1) := by decide +kernel
theorem dX5_common_31 : decode cX5_common 31 = .ok (.getfield 13, 3) := by decide +kernel
theorem dX5_common_34 : decode cX5_common 34 = .ok (.iload_n 1, 1) := by decide +kernel
theorem dX5_common_35 : decode cX5_common 35 = .ok (.iload 4, 2) := by decide +kernel
theorem dX5_common_37 : decode cX5_common 37 = .ok (.iadd, 1) := by decide +kernel
theorem dX5_common_38 : decode cX5_common 38 = .ok (.iaload, 1) := by decide +kernel
theorem dX5_common_39 : decode cX5_common 39 = .ok (.iload_n 2, 1) := by decide +kernel
theorem dX5_common_40 : decode cX5_common 40 = .ok (.ifCond .ne 15, 3) := by decide +kernel
theorem dX5_common_43 : decode cX5_common 43 = .ok (.aload_n 0, 1) := by decide +kernel
theorem dX5_common_44 : decode cX5_common 44 = .ok (.getfield 9, 3) := by decide +kernel
theorem dX5_common_47 : decode cX5_common 47 = .ok (.iload_n 3, 1) := by decide +kernel
theorem dX5_common_48 : decode cX5_common 48 = .ok (.iload 4, 2) := by decide +kernel
theorem dX5_common_50 : decode cX5_common 50 = .ok (.iadd, 1) := by decide +kernel
theorem dX5_common_51 : decode cX5_common 51 = .ok (.iaload, 1) := by decide +kernel
theorem dX5_common_52 : decode cX5_common 52 = .ok (.goto 12, 3) := by decide +kernel
theorem dX5_common_55 : decode cX5_common 55 = .ok (.aload_n 0, 1) := by decide +kernel
theorem dX5_common_56 : decode cX5_common 56 = .ok (.getfield 13, 3) := by decide +kernel
theorem dX5_common_59 : decode cX5_common 59 = .ok (.iload_n 3, 1) := by decide +kernel
theorem dX5_common_60 : decode cX5_common 60 = .ok (.iload 4, 2) := by decide +kernel
theorem dX5_common_62 : decode cX5_common 62 = .ok (.iadd, 1) := by decide +kernel
theorem dX5_common_63 : decode cX5_common 63 = .ok (.iaload, 1) := by decide +kernel
theorem dX5_common_64 : decode cX5_common 64 = .ok (.if_icmp .ne 9, 3) := by decide +kernel
theorem dX5_common_67 : decode cX5_common 67 = .ok (.iinc 4 1, 3) := by decide +kernel
theorem dX5_common_70 : decode cX5_common 70 = .ok (.goto (-67), 3) := by decide +kernel
theorem dX5_common_73 : decode cX5_common 73 = .ok (.iload 4, 2) := by decide +kernel
theorem dX5_common_75 : decode cX5_common 75 = .ok (.ireturn, 1) := by decide +kernel
theorem dX5_places_0 : decode cX5_places 0 = .ok (.iload_n 2, 1) := by decide +kernel
theorem dX5_places_1 : decode cX5_places 1 = .ok (.ifCond .ne 10, 3) := by decide +kernel
theorem dX5_places_4 : decode cX5_places 4 = .ok (.aload_n 0, 1) := by decide +kernel
theorem dX5_places_5 : decode cX5_places 5 = .ok (.getfield 59, 3) := by decide +kernel
theorem dX5_places_8 : decode cX5_places 8 = .ok (.goto 4, 3) := by decide +kernel
theorem dX5_places_11 : decode cX5_places 11 = .ok (.iload_n 1, 1) := by decide +kernel
theorem dX5_places_12 : decode cX5_places 12 = .ok (.ireturn, 1) := by decide +kernel
set_option maxRecDepth 20000 in
theorem ggX5_longest_X5_places : GoodIn wsX5_longest wsX5_places := goodIn_r _ [9, 10, 18, 19, 20, 21, 22, 23, 24, 25, 26, 27, 28, 29, 30, 31, 32, 33, 34, 35, 36, 37, 38, 39, 40, 41, 42] (by decide +kernel) (by decide +kernel)
set_option maxRecDepth 20000 in
theorem gX5_longest_X5_places : GoodIn wsX5_longest (wsV RX5 98 RX5 yX5_places wsX5_places) := goodIn_app (goodIn_of _ (by decide +kernel)) ggX5_longest_X5_places
set_option maxRecDepth 20000 in
theorem ggX5_longest_X5_common : GoodIn wsX5_longest wsX5_common := goodIn_r _ [14, 15, 10, 16, 17, 18, 19, 20, 21, 22, 23, 24, 25, 26, 27, 28, 29, 30, 31, 32, 33, 34, 35, 36, 37, 38, 39, 40, 41, 42] (by decide +kernel) (by decide +kernel)
set_option maxRecDepth 20000 in
theorem gX5_longest_X5_common : GoodIn wsX5_longest (wsV RX5 102 RX5 yX5_common wsX5_common) := goodIn_app (goodIn_of _ (by decide +kernel)) ggX5_longest_X5_common
theorem dX5_longest_0 : decode cX5_longest 0 = .ok (.iconst 0, 1) := by decide +kernel
theorem dX5_longest_1 : decode cX5_longest 1 = .ok (.istore_n 3, 1) := by decide +kernel
theorem dX5_longest_2 : decode cX5_longest 2 = .ok (.iconst 0, 1) := by decide +kernel
theorem dX5_longest_3 : decode cX5_longest 3 = .ok (.istore 4, 2) := by decide +kernel
theorem dX5_longest_5 : decode cX5_longest 5 = .ok (.iload 4, 2) := by decide +kernel
theorem dX5_longest_7 : decode cX5_longest 7 = .ok (.aload_n 0, 1) := by decide +kernel
theorem dX5_longest_8 : decode cX5_longest 8 = .ok (.iload_n 1, 1) := by decide +kernel
theorem dX5_longest_9 : decode cX5_longest 9 = .ok (.iload_n 2, 1) := by decide +kernel
theorem dX5_longest_10 : decode cX5_longest 10 = .ok (.invokevirtual 98, 3) := by decide +kernel
theorem dX5_longest_13 : decode cX5_longest 13 = .ok (.if_icmp .ge 22, 3) := by decide +kernel
theorem dX5_longest_16 : decode cX5_longest 16 = .ok (.iload_n 3, 1) := by decide +kernel
theorem dX5_longest_17 : decode cX5_longest 17 = .ok (.aload_n 0, 1) := by decide +kernel
theorem dX5_longest_18 : decode cX5_longest 18 = .ok (.iload_n 1, 1) := by decide +kernel
theorem dX5_longest_19 : decode cX5_longest 19 = .ok (.iload_n 2, 1) := by decide +kernel
theorem dX5_longest_20 : decode cX5_longest 20 = .ok (.iload 4, 2) := by decide +kernel
theorem dX5_longest_22 : decode cX5_longest 22 = .ok (.invokevirtual 102, 3) := by decide +kernel
theorem dX5_longest_25 : decode cX5_longest 25 = .ok (.invokestatic 106, 3) := by decide +kernel
theorem dX5_longest_28 : decode cX5_longest 28 = .ok (.istore_n 3, 1) := by decide +kernel
theorem dX5_longest_29 : decode cX5_longest 29 = .ok (.iinc 4 1, 3) := by decide +kernel
theorem dX5_longest_32 : decode cX5_longest 32 = .ok (.goto (-27), 3) := by decide +kernel
theorem dX5_longest_35 : decode cX5_longest 35 = .ok (.iload_n 3, 1) := by decide +kernel
theorem dX5_longest_36 : decode cX5_longest 36 = .ok (.ireturn, 1) := by decide +kernel
set_option maxRecDepth 20000 in
theorem ggX5_isAsked_X5_isSide : GoodIn wsX5_isAsked wsX5_isSide := goodIn_r _ [6] (by decide +kernel) (by decide +kernel)
set_option maxRecDepth 20000 in
theorem gX5_isAsked_X5_isSide : GoodIn wsX5_isAsked (va_wsS RX5 69 yX5_isSide wsX5_isSide) := goodIn_app (goodIn_of _ (by decide +kernel)) ggX5_isAsked_X5_isSide
theorem dX5_isAsked_0 : decode cX5_isAsked 0 = .ok (.aload_n 0, 1) := by decide +kernel
theorem dX5_isAsked_1 : decode cX5_isAsked 1 = .ok (.iload_n 1, 1) := by decide +kernel
theorem dX5_isAsked_2 : decode cX5_isAsked 2 = .ok (.ifCond .lt 18, 3) := by decide +kernel
theorem dX5_isAsked_5 : decode cX5_isAsked 5 = .ok (.iload_n 1, 1) := by decide +kernel
theorem dX5_isAsked_6 : decode cX5_isAsked 6 = .ok (.aload_n 0, 1) := by decide +kernel
theorem dX5_isAsked_7 : decode cX5_isAsked 7 = .ok (.getfield 62, 3) := by decide +kernel
theorem dX5_isAsked_10 : decode cX5_isAsked 10 = .ok (.if_icmp .ge 10, 3) := by decide +kernel
theorem dX5_isAsked_13 : decode cX5_isAsked 13 = .ok (.iload_n 2, 1) := by decide +kernel
theorem dX5_isAsked_14 : decode cX5_isAsked 14 = .ok (.invokestatic 69, 3) := by decide +kernel
theorem dX5_isAsked_17 : decode cX5_isAsked 17 = .ok (.ifCond .ne 7, 3) := by decide +kernel
theorem dX5_isAsked_20 : decode cX5_isAsked 20 = .ok (.iconst 1, 1) := by decide +kernel
theorem dX5_isAsked_21 : decode cX5_isAsked 21 = .ok (.goto 4, 3) := by decide +kernel
theorem dX5_isAsked_24 : decode cX5_isAsked 24 = .ok (.iconst 0, 1) := by decide +kernel
theorem dX5_isAsked_25 : decode cX5_isAsked 25 = .ok (.putfield 56, 3) := by decide +kernel
theorem dX5_isAsked_28 : decode cX5_isAsked 28 = .ok (.aload_n 0, 1) := by decide +kernel
theorem dX5_isAsked_29 : decode cX5_isAsked 29 = .ok (.getfield 56, 3) := by decide +kernel
theorem dX5_isAsked_32 : decode cX5_isAsked 32 = .ok (.ifCond .ne 7, 3) := by decide +kernel
theorem dX5_isAsked_35 : decode cX5_isAsked 35 = .ok (.iconst 1, 1) := by decide +kernel
theorem dX5_isAsked_36 : decode cX5_isAsked 36 = .ok (.goto 4, 3) := by decide +kernel
theorem dX5_isAsked_39 : decode cX5_isAsked 39 = .ok (.iconst 0, 1) := by decide +kernel
theorem dX5_isAsked_40 : decode cX5_isAsked 40 = .ok (.ireturn, 1) := by decide +kernel
set_option maxRecDepth 20000 in
theorem ggX5_match_X5_isAsked : GoodIn wsX5_match wsX5_isAsked := goodIn_r _ [5, 6, 7, 8, 9, 4, 10, 30, 31, 32, 33, 34, 35, 36, 37, 38, 39, 40, 41, 42, 43, 44, 45, 46, 47, 48, 49, 50, 51, 52, 53, 54] (by decide +kernel) (by decide +kernel)
set_option maxRecDepth 20000 in
theorem gX5_match_X5_isAsked : GoodIn wsX5_match (wsV RX5 111 RX5 yX5_isAsked wsX5_isAsked) := goodIn_app (goodIn_of _ (by decide +kernel)) ggX5_match_X5_isAsked
set_option maxRecDepth 20000 in
theorem ggX5_match_X5_longest : GoodIn wsX5_match wsX5_longest := goodIn_r _ [14, 15, 16, 17, 18, 19, 20, 21, 4, 22, 23, 24, 25, 26, 27, 6, 28, 29, 30, 31, 32, 33, 34, 35, 36, 37, 38, 39, 40, 41, 42, 43, 44, 45, 46, 47, 48, 49, 50, 51, 52, 53, 54] (by decide +kernel) (by decide +kernel)
set_option maxRecDepth 20000 in
theorem gX5_match_X5_longest : GoodIn wsX5_match (wsV RX5 115 RX5 yX5_longest wsX5_longest) := goodIn_app (goodIn_of _ (by decide +kernel)) ggX5_match_X5_longest
theorem dX5_match_0 : decode cX5_match 0 = .ok (.aload_n 0, 1) := by decide +kernel
theorem dX5_match_1 : decode cX5_match 1 = .ok (.iload_n 1, 1) := by decide +kernel
theorem dX5_match_2 : decode cX5_match 2 = .ok (.iload_n 2, 1) := by decide +kernel
theorem dX5_match_3 : decode cX5_match 3 = .ok (.invokevirtual 111, 3) := by decide +kernel
theorem dX5_match_6 : decode cX5_match 6 = .ok (.ifCond .eq 12, 3) := by decide +kernel
theorem dX5_match_9 : decode cX5_match 9 = .ok (.aload_n 0, 1) := by decide +kernel
theorem dX5_match_10 : decode cX5_match 10 = .ok (.iload_n 1, 1) := by decide +kernel
theorem dX5_match_11 : decode cX5_match 11 = .ok (.iload_n 2, 1) := by decide +kernel
theorem dX5_match_12 : decode cX5_match 12 = .ok (.invokevirtual 115, 3) := by decide +kernel
theorem dX5_match_15 : decode cX5_match 15 = .ok (.goto 4, 3) := by decide +kernel
theorem dX5_match_18 : decode cX5_match 18 = .ok (.iconst 0, 1) := by decide +kernel
theorem dX5_match_19 : decode cX5_match 19 = .ok (.ireturn, 1) := by decide +kernel
set_option maxRecDepth 20000 in
theorem ggX5_matchPlace_X5_isAsked : GoodIn wsX5_matchPlace wsX5_isAsked := goodIn_r _ [5, 6, 7, 8, 9, 4, 10, 30, 31, 32, 33, 34, 35, 36, 37, 38, 39, 40, 41, 42, 43, 44, 45, 46, 47, 48, 49, 50, 51, 52, 53, 54] (by decide +kernel) (by decide +kernel)
set_option maxRecDepth 20000 in
theorem gX5_matchPlace_X5_isAsked : GoodIn wsX5_matchPlace (wsV RX5 111 RX5 yX5_isAsked wsX5_isAsked) := goodIn_app (goodIn_of _ (by decide +kernel)) ggX5_matchPlace_X5_isAsked
set_option maxRecDepth 20000 in
theorem ggX5_matchPlace_X5_longest : GoodIn wsX5_matchPlace wsX5_longest := goodIn_r _ [14, 15, 16, 17, 18, 19, 20, 21, 4, 22, 23, 24, 25, 26, 27, 6, 28, 29, 30, 31, 32, 33, 34, 35, 36, 37, 38, 39, 40, 41, 42, 43, 44, 45, 46, 47, 48, 49, 50, 51, 52, 53, 54] (by decide +kernel) (by decide +kernel)
set_option maxRecDepth 20000 in
theorem gX5_matchPlace_X5_longest : GoodIn wsX5_matchPlace (wsV RX5 115 RX5 yX5_longest wsX5_longest) := goodIn_app (goodIn_of _ (by decide +kernel)) ggX5_matchPlace_X5_longest
set_option maxRecDepth 20000 in
theorem ggX5_matchPlace_X5_common : GoodIn wsX5_matchPlace wsX5_common := goodIn_r _ [27, 6, 23, 28, 29, 30, 31, 32, 33, 34, 35, 36, 37, 38, 39, 40, 41, 42, 43, 44, 45, 46, 47, 48, 49, 50, 51, 52, 53, 54] (by decide +kernel) (by decide +kernel)
set_option maxRecDepth 20000 in
theorem gX5_matchPlace_X5_common : GoodIn wsX5_matchPlace (wsV RX5 102 RX5 yX5_common wsX5_common) := goodIn_app (goodIn_of _ (by decide +kernel)) ggX5_matchPlace_X5_common
theorem dX5_matchPlace_0 : decode cX5_matchPlace 0 = .ok (.aload_n 0, 1) := by decide +kernel
theorem dX5_matchPlace_1 : decode cX5_matchPlace 1 = .ok (.iload_n 1, 1) := by decide +kernel
theorem dX5_matchPlace_2 : decode cX5_matchPlace 2 = .ok (.iload_n 2, 1) := by decide +kernel
theorem dX5_matchPlace_3 : decode cX5_matchPlace 3 = .ok (.invokevirtual 111, 3) := by decide +kernel
theorem dX5_matchPlace_6 : decode cX5_matchPlace 6 = .ok (.ifCond .ne 5, 3) := by decide +kernel
theorem dX5_matchPlace_9 : decode cX5_matchPlace 9 = .ok (.iconst 0, 1) := by decide +kernel
theorem dX5_matchPlace_10 : decode cX5_matchPlace 10 = .ok (.ireturn, 1) := by decide +kernel
theorem dX5_matchPlace_11 : decode cX5_matchPlace 11 = .ok (.aload_n 0, 1) := by decide +kernel
theorem dX5_matchPlace_12 : decode cX5_matchPlace 12 = .ok (.iload_n 1, 1) := by decide +kernel
theorem dX5_matchPlace_13 : decode cX5_matchPlace 13 = .ok (.iload_n 2, 1) := by decide +kernel
theorem dX5_matchPlace_14 : decode cX5_matchPlace 14 = .ok (.invokevirtual 115, 3) := by decide +kernel
theorem dX5_matchPlace_17 : decode cX5_matchPlace 17 = .ok (.istore_n 3, 1) := by decide +kernel
theorem dX5_matchPlace_18 : decode cX5_matchPlace 18 = .ok (.iconst 0, 1) := by decide +kernel
theorem dX5_matchPlace_19 : decode cX5_matchPlace 19 = .ok (.istore 4, 2) := by decide +kernel
theorem dX5_matchPlace_21 : decode cX5_matchPlace 21 = .ok (.iload_n 3, 1) := by decide +kernel
theorem dX5_matchPlace_22 : decode cX5_matchPlace 22 = .ok (.ifCond .le 21, 3) := by decide +kernel
theorem dX5_matchPlace_25 : decode cX5_matchPlace 25 = .ok (.aload_n 0, 1) := by decide +kernel
theorem dX5_matchPlace_26 : decode cX5_matchPlace 26 = .ok (.iload_n 1, 1) := by decide +kernel
theorem dX5_matchPlace_27 : decode cX5_matchPlace 27 = .ok (.iload_n 2, 1) := by decide +kernel
theorem dX5_matchPlace_28 : decode cX5_matchPlace 28 = .ok (.iload 4, 2) := by decide +kernel
theorem dX5_matchPlace_30 : decode cX5_matchPlace 30 = .ok (.invokevirtual 102, 3) := by decide +kernel
theorem dX5_matchPlace_33 : decode cX5_matchPlace 33 = .ok (.iload_n 3, 1) := by decide +kernel
theorem dX5_matchPlace_34 : decode cX5_matchPlace 34 = .ok (.if_icmp .ge 9, 3) := by decide +kernel
theorem dX5_matchPlace_37 : decode cX5_matchPlace 37 = .ok (.iinc 4 1, 3) := by decide +kernel
theorem dX5_matchPlace_40 : decode cX5_matchPlace 40 = .ok (.goto (-19), 3) := by decide +kernel
theorem dX5_matchPlace_43 : decode cX5_matchPlace 43 = .ok (.iload_n 3, 1) := by decide +kernel
theorem dX5_matchPlace_44 : decode cX5_matchPlace 44 = .ok (.ifCond .ne 7, 3) := by decide +kernel
theorem dX5_matchPlace_47 : decode cX5_matchPlace 47 = .ok (.iconst (-1), 1) := by decide +kernel
theorem dX5_matchPlace_48 : decode cX5_matchPlace 48 = .ok (.goto 5, 3) := by decide +kernel
theorem dX5_matchPlace_51 : decode cX5_matchPlace 51 = .ok (.iload 4, 2) := by decide +kernel
theorem dX5_matchPlace_53 : decode cX5_matchPlace 53 = .ok (.ireturn, 1) := by decide +kernel
theorem dX5_isBlock_0 : decode cX5_isBlock 0 = .ok (.iload_n 1, 1) := by decide +kernel
theorem dX5_isBlock_1 : decode cX5_isBlock 1 = .ok (.iload_n 3, 1) := by decide +kernel
theorem dX5_isBlock_2 : decode cX5_isBlock 2 = .ok (.iadd, 1) := by decide +kernel
theorem dX5_isBlock_3 : decode cX5_isBlock 3 = .ok (.aload_n 0, 1) := by decide +kernel
theorem dX5_isBlock_4 : decode cX5_isBlock 4 = .ok (.getfield 62, 3) := by decide +kernel
theorem dX5_isBlock_7 : decode cX5_isBlock 7 = .ok (.if_icmp .le 5, 3) := by decide +kernel
theorem dX5_isBlock_10 : decode cX5_isBlock 10 = .ok (.iconst 0, 1) := by decide +kernel
theorem dX5_isBlock_11 : decode cX5_isBlock 11 = .ok (.ireturn, 1) := by decide +kernel
theorem dX5_isBlock_12 : decode cX5_isBlock 12 = .ok (.iconst 0, 1) := by decide +kernel
theorem dX5_isBlock_13 : decode cX5_isBlock 13 = .ok (.istore 4, 2) := by decide +kernel
theorem dX5_isBlock_15 : decode cX5_isBlock 15 = .ok (.iload 4, 2) := by decide +kernel
theorem dX5_isBlock_17 : decode cX5_isBlock 17 = .ok (.iload_n 3, 1) := by decide +kernel
theorem dX5_isBlock_18 : decode cX5_isBlock 18 = .ok (.if_icmp .ge 32, 3) := by decide +kernel
theorem dX5_isBlock_21 : decode cX5_isBlock 21 = .ok (.aload_n 0, 1) := by decide +kernel
theorem dX5_isBlock_22 : decode cX5_isBlock 22 = .ok (.getfield 13, 3) := by decide +kernel
theorem dX5_isBlock_25 : decode cX5_isBlock 25 = .ok (.iload_n 1, 1) := by decide +kernel
theorem dX5_isBlock_26 : decode cX5_isBlock 26 = .ok (.iload 4, 2) := by decide +kernel
theorem dX5_isBlock_28 : decode cX5_isBlock 28 = .ok (.iadd, 1) := by decide +kernel
theorem dX5_isBlock_29 : decode cX5_isBlock 29 = .ok (.iaload, 1) := by decide +kernel
theorem dX5_isBlock_30 : decode cX5_isBlock 30 = .ok (.aload_n 0, 1) := by decide +kernel
theorem dX5_isBlock_31 : decode cX5_isBlock 31 = .ok (.getfield 9, 3) := by decide +kernel
theorem dX5_isBlock_34 : decode cX5_isBlock 34 = .ok (.iload_n 2, 1) := by decide +kernel
theorem dX5_isBlock_35 : decode cX5_isBlock 35 = .ok (.iload 4, 2) := by decide +kernel
theorem dX5_isBlock_37 : decode cX5_isBlock 37 = .ok (.iadd, 1) := by decide +kernel
theorem dX5_isBlock_38 : decode cX5_isBlock 38 = .ok (.iaload, 1) := by decide +kernel
theorem dX5_isBlock_39 : decode cX5_isBlock 39 = .ok (.if_icmp .eq 5, 3) := by decide +kernel
theorem dX5_isBlock_42 : decode cX5_isBlock 42 = .ok (.iconst 0, 1) := by decide +kernel
theorem dX5_isBlock_43 : decode cX5_isBlock 43 = .ok (.ireturn, 1) := by decide +kernel
theorem dX5_isBlock_44 : decode cX5_isBlock 44 = .ok (.iinc 4 1, 3) := by decide +kernel
theorem dX5_isBlock_47 : decode cX5_isBlock 47 = .ok (.goto (-32), 3) := by decide +kernel
theorem dX5_isBlock_50 : decode cX5_isBlock 50 = .ok (.iconst 1, 1) := by decide +kernel
theorem dX5_isBlock_51 : decode cX5_isBlock 51 = .ok (.ireturn, 1) := by decide +kernel
set_option maxRecDepth 20000 in
theorem ggX5_blocks_X5_isIn : GoodIn wsX5_blocks wsX5_isIn := goodIn_r _ [7] (by decide +kernel) (by decide +kernel)
set_option maxRecDepth 20000 in
theorem gX5_blocks_X5_isIn : GoodIn wsX5_blocks (va_wsS RX5 77 yX5_isIn wsX5_isIn) := goodIn_app (goodIn_of _ (by decide +kernel)) ggX5_blocks_X5_isIn
set_option maxRecDepth 20000 in
theorem ggX5_blocks_X5_no : GoodIn wsX5_blocks wsX5_no := goodIn_r _ [11, 1, 18, 19, 20, 21, 22, 23, 24, 25, 26, 27, 28, 29, 30, 31, 32, 33, 34, 35, 36, 37, 38, 39, 40, 41, 42] (by decide +kernel) (by decide +kernel)
set_option maxRecDepth 20000 in
theorem gX5_blocks_X5_no : GoodIn wsX5_blocks (wsV RX5 73 RX5 yX5_no wsX5_no) := goodIn_app (goodIn_of _ (by decide +kernel)) ggX5_blocks_X5_no
set_option maxRecDepth 20000 in
theorem ggX5_blocks_X5_isBlock : GoodIn wsX5_blocks wsX5_isBlock := goodIn_r _ [15, 2, 16, 17, 18, 19, 20, 21, 22, 23, 24, 25, 26, 27, 28, 29, 30, 31, 32, 33, 34, 35, 36, 37, 38, 39, 40, 41, 42] (by decide +kernel) (by decide +kernel)
set_option maxRecDepth 20000 in
theorem gX5_blocks_X5_isBlock : GoodIn wsX5_blocks (wsV RX5 118 RX5 yX5_isBlock wsX5_isBlock) := goodIn_app (goodIn_of _ (by decide +kernel)) ggX5_blocks_X5_isBlock
theorem dX5_blocks_0 : decode cX5_blocks 0 = .ok (.aload_n 0, 1) := by decide +kernel
theorem dX5_blocks_1 : decode cX5_blocks 1 = .ok (.iconst 0, 1) := by decide +kernel
theorem dX5_blocks_2 : decode cX5_blocks 2 = .ok (.putfield 56, 3) := by decide +kernel
theorem dX5_blocks_5 : decode cX5_blocks 5 = .ok (.iload_n 1, 1) := by decide +kernel
theorem dX5_blocks_6 : decode cX5_blocks 6 = .ok (.iconst 1, 1) := by decide +kernel
theorem dX5_blocks_7 : decode cX5_blocks 7 = .ok (.bipush 50, 2) := by decide +kernel
theorem dX5_blocks_9 : decode cX5_blocks 9 = .ok (.invokestatic 77, 3) := by decide +kernel
theorem dX5_blocks_12 : decode cX5_blocks 12 = .ok (.ifCond .ne 9, 3) := by decide +kernel
theorem dX5_blocks_15 : decode cX5_blocks 15 = .ok (.aload_n 0, 1) := by decide +kernel
theorem dX5_blocks_16 : decode cX5_blocks 16 = .ok (.iconst 1, 1) := by decide +kernel
theorem dX5_blocks_17 : decode cX5_blocks 17 = .ok (.invokevirtual 73, 3) := by decide +kernel
theorem dX5_blocks_20 : decode cX5_blocks 20 = .ok (.ireturn, 1) := by decide +kernel
theorem dX5_blocks_21 : decode cX5_blocks 21 = .ok (.iconst 0, 1) := by decide +kernel
theorem dX5_blocks_22 : decode cX5_blocks 22 = .ok (.istore_n 2, 1) := by decide +kernel
theorem dX5_blocks_23 : decode cX5_blocks 23 = .ok (.iconst 0, 1) := by decide +kernel
theorem dX5_blocks_24 : decode cX5_blocks 24 = .ok (.istore_n 3, 1) := by decide +kernel
theorem dX5_blocks_25 : decode cX5_blocks 25 = .ok (.iload_n 3, 1) := by decide +kernel
theorem dX5_blocks_26 : decode cX5_blocks 26 = .ok (.aload_n 0, 1) := by decide +kernel
theorem dX5_blocks_27 : decode cX5_blocks 27 = .ok (.getfield 62, 3) := by decide +kernel
theorem dX5_blocks_30 : decode cX5_blocks 30 = .ok (.if_icmp .ge 81, 3) := by decide +kernel
theorem dX5_blocks_33 : decode cX5_blocks 33 = .ok (.iconst 0, 1) := by decide +kernel
theorem dX5_blocks_34 : decode cX5_blocks 34 = .ok (.istore 4, 2) := by decide +kernel
theorem dX5_blocks_36 : decode cX5_blocks 36 = .ok (.iconst 0, 1) := by decide +kernel
theorem dX5_blocks_37 : decode cX5_blocks 37 = .ok (.istore 5, 2) := by decide +kernel
theorem dX5_blocks_39 : decode cX5_blocks 39 = .ok (.iload 5, 2) := by decide +kernel
theorem dX5_blocks_41 : decode cX5_blocks 41 = .ok (.iload_n 1, 1) := by decide +kernel
theorem dX5_blocks_42 : decode cX5_blocks 42 = .ok (.iadd, 1) := by decide +kernel
theorem dX5_blocks_43 : decode cX5_blocks 43 = .ok (.aload_n 0, 1) := by decide +kernel
theorem dX5_blocks_44 : decode cX5_blocks 44 = .ok (.getfield 59, 3) := by decide +kernel
theorem dX5_blocks_47 : decode cX5_blocks 47 = .ok (.if_icmp .gt 35, 3) := by decide +kernel
theorem dX5_blocks_50 : decode cX5_blocks 50 = .ok (.iload 4, 2) := by decide +kernel
theorem dX5_blocks_52 : decode cX5_blocks 52 = .ok (.ifCond .ne 14, 3) := by decide +kernel
theorem dX5_blocks_55 : decode cX5_blocks 55 = .ok (.aload_n 0, 1) := by decide +kernel
theorem dX5_blocks_56 : decode cX5_blocks 56 = .ok (.iload_n 3, 1) := by decide +kernel
theorem dX5_blocks_57 : decode cX5_blocks 57 = .ok (.iload 5, 2) := by decide +kernel
theorem dX5_blocks_59 : decode cX5_blocks 59 = .ok (.iload_n 1, 1) := by decide +kernel
theorem dX5_blocks_60 : decode cX5_blocks 60 = .ok (.invokevirtual 118, 3) := by decide +kernel
theorem dX5_blocks_63 : decode cX5_blocks 63 = .ok (.ifCond .eq 7, 3) := by decide +kernel
theorem dX5_blocks_66 : decode cX5_blocks 66 = .ok (.iconst 1, 1) := by decide +kernel
theorem dX5_blocks_67 : decode cX5_blocks 67 = .ok (.goto 4, 3) := by decide +kernel
theorem dX5_blocks_70 : decode cX5_blocks 70 = .ok (.iconst 0, 1) := by decide +kernel
theorem dX5_blocks_71 : decode cX5_blocks 71 = .ok (.istore 4, 2) := by decide +kernel
theorem dX5_blocks_73 : decode cX5_blocks 73 = .ok (.iload 5, 2) := by decide +kernel
theorem dX5_blocks_75 : decode cX5_blocks 75 = .ok (.iload_n 1, 1) := by decide +kernel
theorem dX5_blocks_76 : decode cX5_blocks 76 = .ok (.iadd, 1) := by decide +kernel
theorem dX5_blocks_77 : decode cX5_blocks 77 = .ok (.istore 5, 2) := by decide +kernel
theorem dX5_blocks_79 : decode cX5_blocks 79 = .ok (.goto (-40), 3) := by decide +kernel
theorem dX5_blocks_82 : decode cX5_blocks 82 = .ok (.iload_n 2, 1) := by decide +kernel
theorem dX5_blocks_83 : decode cX5_blocks 83 = .ok (.iload 4, 2) := by decide +kernel
theorem dX5_blocks_85 : decode cX5_blocks 85 = .ok (.ifCond .eq 7, 3) := by decide +kernel
theorem dX5_blocks_88 : decode cX5_blocks 88 = .ok (.iconst 1, 1) := by decide +kernel
theorem dX5_blocks_89 : decode cX5_blocks 89 = .ok (.goto 4, 3) := by decide +kernel
theorem dX5_blocks_92 : decode cX5_blocks 92 = .ok (.iconst 0, 1) := by decide +kernel
theorem dX5_blocks_93 : decode cX5_blocks 93 = .ok (.iadd, 1) := by decide +kernel
theorem dX5_blocks_94 : decode cX5_blocks 94 = .ok (.istore_n 2, 1) := by decide +kernel
theorem dX5_blocks_95 : decode cX5_blocks 95 = .ok (.iload_n 3, 1) := by decide +kernel
theorem dX5_blocks_96 : decode cX5_blocks 96 = .ok (.iload 4, 2) := by decide +kernel
theorem dX5_blocks_98 : decode cX5_blocks 98 = .ok (.ifCond .eq 7, 3) := by decide +kernel
theorem dX5_blocks_101 : decode cX5_blocks 101 = .ok (.iload_n 1, 1) := by decide +kernel
theorem dX5_blocks_102 : decode cX5_blocks 102 = .ok (.goto 4, 3) := by decide +kernel
theorem dX5_blocks_105 : decode cX5_blocks 105 = .ok (.iconst 1, 1) := by decide +kernel
theorem dX5_blocks_106 : decode cX5_blocks 106 = .ok (.iadd, 1) := by decide +kernel
theorem dX5_blocks_107 : decode cX5_blocks 107 = .ok (.istore_n 3, 1) := by decide +kernel
theorem dX5_blocks_108 : decode cX5_blocks 108 = .ok (.goto (-83), 3) := by decide +kernel
theorem dX5_blocks_111 : decode cX5_blocks 111 = .ok (.iload_n 2, 1) := by decide +kernel
theorem dX5_blocks_112 : decode cX5_blocks 112 = .ok (.ireturn, 1) := by decide +kernel
set_option maxRecDepth 20000 in
theorem ggX5_setLeast_X5_isIn : GoodIn wsX5_setLeast wsX5_isIn := goodIn_r _ [7] (by decide +kernel) (by decide +kernel)
set_option maxRecDepth 20000 in
theorem gX5_setLeast_X5_isIn : GoodIn wsX5_setLeast (va_wsS RX5 77 yX5_isIn wsX5_isIn) := goodIn_app (goodIn_of _ (by decide +kernel)) ggX5_setLeast_X5_isIn
set_option maxRecDepth 20000 in
theorem ggX5_setLeast_X5_no : GoodIn wsX5_setLeast wsX5_no := goodIn_r _ [11, 1, 12, 13, 14, 15, 16, 17, 18, 19, 20, 21, 22, 23, 24, 25, 26, 27, 28, 29, 30, 31, 32, 33, 34, 35, 36] (by decide +kernel) (by decide +kernel)
set_option maxRecDepth 20000 in
theorem gX5_setLeast_X5_no : GoodIn wsX5_setLeast (wsV RX5 73 RX5 yX5_no wsX5_no) := goodIn_app (goodIn_of _ (by decide +kernel)) ggX5_setLeast_X5_no
theorem dX5_setLeast_0 : decode cX5_setLeast 0 = .ok (.aload_n 0, 1) := by decide +kernel
theorem dX5_setLeast_1 : decode cX5_setLeast 1 = .ok (.iconst 0, 1) := by decide +kernel
theorem dX5_setLeast_2 : decode cX5_setLeast 2 = .ok (.putfield 56, 3) := by decide +kernel
theorem dX5_setLeast_5 : decode cX5_setLeast 5 = .ok (.iload_n 1, 1) := by decide +kernel
theorem dX5_setLeast_6 : decode cX5_setLeast 6 = .ok (.iconst 1, 1) := by decide +kernel
theorem dX5_setLeast_7 : decode cX5_setLeast 7 = .ok (.bipush 20, 2) := by decide +kernel
theorem dX5_setLeast_9 : decode cX5_setLeast 9 = .ok (.invokestatic 77, 3) := by decide +kernel
theorem dX5_setLeast_12 : decode cX5_setLeast 12 = .ok (.ifCond .ne 9, 3) := by decide +kernel
theorem dX5_setLeast_15 : decode cX5_setLeast 15 = .ok (.aload_n 0, 1) := by decide +kernel
theorem dX5_setLeast_16 : decode cX5_setLeast 16 = .ok (.iconst 1, 1) := by decide +kernel
theorem dX5_setLeast_17 : decode cX5_setLeast 17 = .ok (.invokevirtual 73, 3) := by decide +kernel
theorem dX5_setLeast_20 : decode cX5_setLeast 20 = .ok (.ireturn, 1) := by decide +kernel
theorem dX5_setLeast_21 : decode cX5_setLeast 21 = .ok (.aload_n 0, 1) := by decide +kernel
theorem dX5_setLeast_22 : decode cX5_setLeast 22 = .ok (.getfield 16, 3) := by decide +kernel
theorem dX5_setLeast_25 : decode cX5_setLeast 25 = .ok (.istore_n 2, 1) := by decide +kernel
theorem dX5_setLeast_26 : decode cX5_setLeast 26 = .ok (.aload_n 0, 1) := by decide +kernel
theorem dX5_setLeast_27 : decode cX5_setLeast 27 = .ok (.iload_n 1, 1) := by decide +kernel
theorem dX5_setLeast_28 : decode cX5_setLeast 28 = .ok (.putfield 16, 3) := by decide +kernel
theorem dX5_setLeast_31 : decode cX5_setLeast 31 = .ok (.aload_n 0, 1) := by decide +kernel
theorem dX5_setLeast_32 : decode cX5_setLeast 32 = .ok (.iconst 0, 1) := by decide +kernel
theorem dX5_setLeast_33 : decode cX5_setLeast 33 = .ok (.putfield 65, 3) := by decide +kernel
theorem dX5_setLeast_36 : decode cX5_setLeast 36 = .ok (.iload_n 2, 1) := by decide +kernel
theorem dX5_setLeast_37 : decode cX5_setLeast 37 = .ok (.ireturn, 1) := by decide +kernel
theorem dX5_numberSize_0 : decode cX5_numberSize 0 = .ok (.iload_n 0, 1) := by decide +kernel
theorem dX5_numberSize_1 : decode cX5_numberSize 1 = .ok (.sipush 128, 3) := by decide +kernel
theorem dX5_numberSize_4 : decode cX5_numberSize 4 = .ok (.if_icmp .ge 7, 3) := by decide +kernel
theorem dX5_numberSize_7 : decode cX5_numberSize 7 = .ok (.iconst 1, 1) := by decide +kernel
theorem dX5_numberSize_8 : decode cX5_numberSize 8 = .ok (.goto 4, 3) := by decide +kernel
theorem dX5_numberSize_11 : decode cX5_numberSize 11 = .ok (.iconst 2, 1) := by decide +kernel
theorem dX5_numberSize_12 : decode cX5_numberSize 12 = .ok (.ireturn, 1) := by decide +kernel
set_option maxRecDepth 20000 in
theorem ggX5_headSize_X5_numberSize : GoodIn wsX5_headSize wsX5_numberSize := goodIn_r _ [4] (by decide +kernel) (by decide +kernel)
set_option maxRecDepth 20000 in
theorem gX5_headSize_X5_numberSize : GoodIn wsX5_headSize (va_wsS RX5 121 yX5_numberSize wsX5_numberSize) := goodIn_app (goodIn_of _ (by decide +kernel)) ggX5_headSize_X5_numberSize
theorem dX5_headSize_0 : decode cX5_headSize 0 = .ok (.iload_n 0, 1) := by decide +kernel
theorem dX5_headSize_1 : decode cX5_headSize 1 = .ok (.bipush 63, 2) := by decide +kernel
theorem dX5_headSize_3 : decode cX5_headSize 3 = .ok (.if_icmp .ge 7, 3) := by decide +kernel
theorem dX5_headSize_6 : decode cX5_headSize 6 = .ok (.iconst 1, 1) := by decide +kernel
theorem dX5_headSize_7 : decode cX5_headSize 7 = .ok (.goto 12, 3) := by decide +kernel
theorem dX5_headSize_10 : decode cX5_headSize 10 = .ok (.iconst 1, 1) := by decide +kernel
theorem dX5_headSize_11 : decode cX5_headSize 11 = .ok (.iload_n 0, 1) := by decide +kernel
theorem dX5_headSize_12 : decode cX5_headSize 12 = .ok (.bipush 63, 2) := by decide +kernel
theorem dX5_headSize_14 : decode cX5_headSize 14 = .ok (.isub, 1) := by decide +kernel
theorem dX5_headSize_15 : decode cX5_headSize 15 = .ok (.invokestatic 121, 3) := by decide +kernel
theorem dX5_headSize_18 : decode cX5_headSize 18 = .ok (.iadd, 1) := by decide +kernel
theorem dX5_headSize_19 : decode cX5_headSize 19 = .ok (.ireturn, 1) := by decide +kernel
theorem dX5_offer_0 : decode cX5_offer 0 = .ok (.iload 5, 2) := by decide +kernel
theorem dX5_offer_2 : decode cX5_offer 2 = .ok (.aload_n 0, 1) := by decide +kernel
theorem dX5_offer_3 : decode cX5_offer 3 = .ok (.getfield 41, 3) := by decide +kernel
theorem dX5_offer_6 : decode cX5_offer 6 = .ok (.iload_n 1, 1) := by decide +kernel
theorem dX5_offer_7 : decode cX5_offer 7 = .ok (.iload_n 3, 1) := by decide +kernel
theorem dX5_offer_8 : decode cX5_offer 8 = .ok (.iadd, 1) := by decide +kernel
theorem dX5_offer_9 : decode cX5_offer 9 = .ok (.iaload, 1) := by decide +kernel
theorem dX5_offer_10 : decode cX5_offer 10 = .ok (.iadd, 1) := by decide +kernel
theorem dX5_offer_11 : decode cX5_offer 11 = .ok (.istore 6, 2) := by decide +kernel
theorem dX5_offer_13 : decode cX5_offer 13 = .ok (.iconst 1, 1) := by decide +kernel
theorem dX5_offer_14 : decode cX5_offer 14 = .ok (.aload_n 0, 1) := by decide +kernel
theorem dX5_offer_15 : decode cX5_offer 15 = .ok (.getfield 44, 3) := by decide +kernel
theorem dX5_offer_18 : decode cX5_offer 18 = .ok (.iload_n 1, 1) := by decide +kernel
theorem dX5_offer_19 : decode cX5_offer 19 = .ok (.iload_n 3, 1) := by decide +kernel
theorem dX5_offer_20 : decode cX5_offer 20 = .ok (.iadd, 1) := by decide +kernel
theorem dX5_offer_21 : decode cX5_offer 21 = .ok (.iaload, 1) := by decide +kernel
theorem dX5_offer_22 : decode cX5_offer 22 = .ok (.iadd, 1) := by decide +kernel
theorem dX5_offer_23 : decode cX5_offer 23 = .ok (.istore 7, 2) := by decide +kernel
theorem dX5_offer_25 : decode cX5_offer 25 = .ok (.aload_n 0, 1) := by decide +kernel
theorem dX5_offer_26 : decode cX5_offer 26 = .ok (.getfield 41, 3) := by decide +kernel
theorem dX5_offer_29 : decode cX5_offer 29 = .ok (.iload_n 1, 1) := by decide +kernel
theorem dX5_offer_30 : decode cX5_offer 30 = .ok (.iaload, 1) := by decide +kernel
theorem dX5_offer_31 : decode cX5_offer 31 = .ok (.iconst (-1), 1) := by decide +kernel
theorem dX5_offer_32 : decode cX5_offer 32 = .ok (.if_icmp .eq 37, 3) := by decide +kernel
theorem dX5_offer_35 : decode cX5_offer 35 = .ok (.iload 6, 2) := by decide +kernel
theorem dX5_offer_37 : decode cX5_offer 37 = .ok (.aload_n 0, 1) := by decide +kernel
theorem dX5_offer_38 : decode cX5_offer 38 = .ok (.getfield 41, 3) := by decide +kernel
theorem dX5_offer_41 : decode cX5_offer 41 = .ok (.iload_n 1, 1) := by decide +kernel
theorem dX5_offer_42 : decode cX5_offer 42 = .ok (.iaload, 1) := by decide +kernel
theorem dX5_offer_43 : decode cX5_offer 43 = .ok (.if_icmp .gt 25, 3) := by decide +kernel
theorem dX5_offer_46 : decode cX5_offer 46 = .ok (.iload 6, 2) := by decide +kernel
theorem dX5_offer_48 : decode cX5_offer 48 = .ok (.aload_n 0, 1) := by decide +kernel
theorem dX5_offer_49 : decode cX5_offer 49 = .ok (.getfield 41, 3) := by decide +kernel
theorem dX5_offer_52 : decode cX5_offer 52 = .ok (.iload_n 1, 1) := by decide +kernel
theorem dX5_offer_53 : decode cX5_offer 53 = .ok (.iaload, 1) := by decide +kernel
theorem dX5_offer_54 : decode cX5_offer 54 = .ok (.if_icmp .ne 15, 3) := by decide +kernel
theorem dX5_offer_57 : decode cX5_offer 57 = .ok (.iload 7, 2) := by decide +kernel
theorem dX5_offer_59 : decode cX5_offer 59 = .ok (.aload_n 0, 1) := by decide +kernel
theorem dX5_offer_60 : decode cX5_offer 60 = .ok (.getfield 44, 3) := by decide +kernel
theorem dX5_offer_63 : decode cX5_offer 63 = .ok (.iload_n 1, 1) := by decide +kernel
theorem dX5_offer_64 : decode cX5_offer 64 = .ok (.iaload, 1) := by decide +kernel
theorem dX5_offer_65 : decode cX5_offer 65 = .ok (.if_icmp .lt 4, 3) := by decide +kernel
theorem dX5_offer_68 : decode cX5_offer 68 = .ok (.return_, 1) := by decide +kernel
theorem dX5_offer_69 : decode cX5_offer 69 = .ok (.aload_n 0, 1) := by decide +kernel
theorem dX5_offer_70 : decode cX5_offer 70 = .ok (.getfield 41, 3) := by decide +kernel
theorem dX5_offer_73 : decode cX5_offer 73 = .ok (.iload_n 1, 1) := by decide +kernel
theorem dX5_offer_74 : decode cX5_offer 74 = .ok (.iload 6, 2) := by decide +kernel
theorem dX5_offer_76 : decode cX5_offer 76 = .ok (.iastore, 1) := by decide +kernel
theorem dX5_offer_77 : decode cX5_offer 77 = .ok (.aload_n 0, 1) := by decide +kernel
theorem dX5_offer_78 : decode cX5_offer 78 = .ok (.getfield 44, 3) := by decide +kernel
theorem dX5_offer_81 : decode cX5_offer 81 = .ok (.iload_n 1, 1) := by decide +kernel
theorem dX5_offer_82 : decode cX5_offer 82 = .ok (.iload 7, 2) := by decide +kernel
theorem dX5_offer_84 : decode cX5_offer 84 = .ok (.iastore, 1) := by decide +kernel
theorem dX5_offer_85 : decode cX5_offer 85 = .ok (.aload_n 0, 1) := by decide +kernel
theorem dX5_offer_86 : decode cX5_offer 86 = .ok (.getfield 47, 3) := by decide +kernel
theorem dX5_offer_89 : decode cX5_offer 89 = .ok (.iload_n 1, 1) := by decide +kernel
theorem dX5_offer_90 : decode cX5_offer 90 = .ok (.iload_n 2, 1) := by decide +kernel
theorem dX5_offer_91 : decode cX5_offer 91 = .ok (.iastore, 1) := by decide +kernel
theorem dX5_offer_92 : decode cX5_offer 92 = .ok (.aload_n 0, 1) := by decide +kernel
theorem dX5_offer_93 : decode cX5_offer 93 = .ok (.getfield 50, 3) := by decide +kernel
theorem dX5_offer_96 : decode cX5_offer 96 = .ok (.iload_n 1, 1) := by decide +kernel
theorem dX5_offer_97 : decode cX5_offer 97 = .ok (.iload_n 3, 1) := by decide +kernel
theorem dX5_offer_98 : decode cX5_offer 98 = .ok (.iastore, 1) := by decide +kernel
theorem dX5_offer_99 : decode cX5_offer 99 = .ok (.aload_n 0, 1) := by decide +kernel
theorem dX5_offer_100 : decode cX5_offer 100 = .ok (.getfield 53, 3) := by decide +kernel
theorem dX5_offer_103 : decode cX5_offer 103 = .ok (.iload_n 1, 1) := by decide +kernel
theorem dX5_offer_104 : decode cX5_offer 104 = .ok (.iload 4, 2) := by decide +kernel
theorem dX5_offer_106 : decode cX5_offer 106 = .ok (.iastore, 1) := by decide +kernel
theorem dX5_offer_107 : decode cX5_offer 107 = .ok (.return_, 1) := by decide +kernel
set_option maxRecDepth 20000 in
theorem ggX5_smallest_X5_places : GoodIn wsX5_smallest wsX5_places := goodIn_r _ [6, 7, 15, 16, 17, 18, 19, 20, 21, 22, 23, 24, 25, 26, 27, 28, 29, 30, 31, 32, 33, 34, 35, 36, 37, 38, 39] (by decide +kernel) (by decide +kernel)
set_option maxRecDepth 20000 in
theorem gX5_smallest_X5_places : GoodIn wsX5_smallest (wsV RX5 98 RX5 yX5_places wsX5_places) := goodIn_app (goodIn_of _ (by decide +kernel)) ggX5_smallest_X5_places
set_option maxRecDepth 20000 in
theorem ggX5_smallest_X5_common : GoodIn wsX5_smallest wsX5_common := goodIn_r _ [11, 12, 7, 13, 14, 15, 16, 17, 18, 19, 20, 21, 22, 23, 24, 25, 26, 27, 28, 29, 30, 31, 32, 33, 34, 35, 36, 37, 38, 39] (by decide +kernel) (by decide +kernel)
set_option maxRecDepth 20000 in
theorem gX5_smallest_X5_common : GoodIn wsX5_smallest (wsV RX5 102 RX5 yX5_common wsX5_common) := goodIn_app (goodIn_of _ (by decide +kernel)) ggX5_smallest_X5_common
theorem dX5_smallest_0 : decode cX5_smallest 0 = .ok (.sipush 151, 3) := by decide +kernel
theorem dX5_smallest_3 : decode cX5_smallest 3 = .ok (.newarray .int, 2) := by decide +kernel
theorem dX5_smallest_5 : decode cX5_smallest 5 = .ok (.astore_n 3, 1) := by decide +kernel
theorem dX5_smallest_6 : decode cX5_smallest 6 = .ok (.iconst 0, 1) := by decide +kernel
theorem dX5_smallest_7 : decode cX5_smallest 7 = .ok (.istore 4, 2) := by decide +kernel
theorem dX5_smallest_9 : decode cX5_smallest 9 = .ok (.iload 4, 2) := by decide +kernel
theorem dX5_smallest_11 : decode cX5_smallest 11 = .ok (.sipush 150, 3) := by decide +kernel
theorem dX5_smallest_14 : decode cX5_smallest 14 = .ok (.if_icmp .gt 14, 3) := by decide +kernel
theorem dX5_smallest_17 : decode cX5_smallest 17 = .ok (.aload_n 3, 1) := by decide +kernel
theorem dX5_smallest_18 : decode cX5_smallest 18 = .ok (.iload 4, 2) := by decide +kernel
theorem dX5_smallest_20 : decode cX5_smallest 20 = .ok (.iconst (-1), 1) := by decide +kernel
theorem dX5_smallest_21 : decode cX5_smallest 21 = .ok (.iastore, 1) := by decide +kernel
theorem dX5_smallest_22 : decode cX5_smallest 22 = .ok (.iinc 4 1, 3) := by decide +kernel
theorem dX5_smallest_25 : decode cX5_smallest 25 = .ok (.goto (-16), 3) := by decide +kernel
theorem dX5_smallest_28 : decode cX5_smallest 28 = .ok (.iconst 0, 1) := by decide +kernel
theorem dX5_smallest_29 : decode cX5_smallest 29 = .ok (.istore 4, 2) := by decide +kernel
theorem dX5_smallest_31 : decode cX5_smallest 31 = .ok (.iconst 0, 1) := by decide +kernel
theorem dX5_smallest_32 : decode cX5_smallest 32 = .ok (.istore 5, 2) := by decide +kernel
theorem dX5_smallest_34 : decode cX5_smallest 34 = .ok (.iload 5, 2) := by decide +kernel
theorem dX5_smallest_36 : decode cX5_smallest 36 = .ok (.aload_n 0, 1) := by decide +kernel
theorem dX5_smallest_37 : decode cX5_smallest 37 = .ok (.iload_n 1, 1) := by decide +kernel
theorem dX5_smallest_38 : decode cX5_smallest 38 = .ok (.iload_n 2, 1) := by decide +kernel
theorem dX5_smallest_39 : decode cX5_smallest 39 = .ok (.invokevirtual 98, 3) := by decide +kernel
theorem dX5_smallest_42 : decode cX5_smallest 42 = .ok (.if_icmp .ge 38, 3) := by decide +kernel
theorem dX5_smallest_45 : decode cX5_smallest 45 = .ok (.aload_n 0, 1) := by decide +kernel
theorem dX5_smallest_46 : decode cX5_smallest 46 = .ok (.iload_n 1, 1) := by decide +kernel
theorem dX5_smallest_47 : decode cX5_smallest 47 = .ok (.iload_n 2, 1) := by decide +kernel
theorem dX5_smallest_48 : decode cX5_smallest 48 = .ok (.iload 5, 2) := by decide +kernel
theorem dX5_smallest_50 : decode cX5_smallest 50 = .ok (.invokevirtual 102, 3) := by decide +kernel
theorem dX5_smallest_53 : decode cX5_smallest 53 = .ok (.istore 6, 2) := by decide +kernel
theorem dX5_smallest_55 : decode cX5_smallest 55 = .ok (.iload 4, 2) := by decide +kernel
theorem dX5_smallest_57 : decode cX5_smallest 57 = .ok (.iload 6, 2) := by decide +kernel
theorem dX5_smallest_59 : decode cX5_smallest 59 = .ok (.if_icmp .ge 15, 3) := by decide +kernel
theorem dX5_smallest_62 : decode cX5_smallest 62 = .ok (.iinc 4 1, 3) := by decide +kernel
theorem dX5_smallest_65 : decode cX5_smallest 65 = .ok (.aload_n 3, 1) := by decide +kernel
theorem dX5_smallest_66 : decode cX5_smallest 66 = .ok (.iload 4, 2) := by decide +kernel
theorem dX5_smallest_68 : decode cX5_smallest 68 = .ok (.iload 5, 2) := by decide +kernel
theorem dX5_smallest_70 : decode cX5_smallest 70 = .ok (.iastore, 1) := by decide +kernel
theorem dX5_smallest_71 : decode cX5_smallest 71 = .ok (.goto (-16), 3) := by decide +kernel
theorem dX5_smallest_74 : decode cX5_smallest 74 = .ok (.iinc 5 1, 3) := by decide +kernel
theorem dX5_smallest_77 : decode cX5_smallest 77 = .ok (.goto (-43), 3) := by decide +kernel
theorem dX5_smallest_80 : decode cX5_smallest 80 = .ok (.aload_n 3, 1) := by decide +kernel
theorem dX5_smallest_81 : decode cX5_smallest 81 = .ok (.areturn, 1) := by decide +kernel
set_option maxRecDepth 20000 in
theorem ggX5_look_X5_headSize : GoodIn wsX5_look wsX5_headSize := goodIn_r _ [8, 9, 10, 7, 11] (by decide +kernel) (by decide +kernel)
set_option maxRecDepth 20000 in
theorem gX5_look_X5_headSize : GoodIn wsX5_look (va_wsS RX5 124 yX5_headSize wsX5_headSize) := goodIn_app (goodIn_of _ (by decide +kernel)) ggX5_look_X5_headSize
set_option maxRecDepth 20000 in
theorem ggX5_look_X5_offer : GoodIn wsX5_look wsX5_offer := goodIn_r _ [15, 1, 16, 17, 18, 19, 35, 36, 37, 38, 39, 40, 41, 42, 43, 44, 45, 46, 47, 48, 49, 50, 51, 52, 53, 54, 55, 56, 57, 58, 59] (by decide +kernel) (by decide +kernel)
set_option maxRecDepth 20000 in
theorem gX5_look_X5_offer : GoodIn wsX5_look (wsV RX5 127 RX5 yX5_offer wsX5_offer) := goodIn_app (goodIn_of _ (by decide +kernel)) ggX5_look_X5_offer
set_option maxRecDepth 20000 in
theorem ggX5_look_X5_smallest : GoodIn wsX5_look wsX5_smallest := goodIn_r _ [23, 24, 25, 26, 27, 7, 28, 29, 30, 31, 32, 33, 2, 3, 34, 35, 36, 37, 38, 39, 40, 41, 42, 43, 44, 45, 46, 47, 48, 49, 50, 51, 52, 53, 54, 55, 56, 57, 58, 59] (by decide +kernel) (by decide +kernel)
set_option maxRecDepth 20000 in
theorem gX5_look_X5_smallest : GoodIn wsX5_look (wsV RX5 131 RX5 yX5_smallest wsX5_smallest) := goodIn_app (goodIn_of _ (by decide +kernel)) ggX5_look_X5_smallest
set_option maxRecDepth 20000 in
theorem ggX5_look_X5_numberSize : GoodIn wsX5_look wsX5_numberSize := goodIn_r _ [11] (by decide +kernel) (by decide +kernel)
set_option maxRecDepth 20000 in
theorem gX5_look_X5_numberSize : GoodIn wsX5_look (va_wsS RX5 121 yX5_numberSize wsX5_numberSize) := goodIn_app (goodIn_of _ (by decide +kernel)) ggX5_look_X5_numberSize
theorem dX5_look_0 : decode cX5_look 0 = .ok (.aload_n 0, 1) := by decide +kernel
theorem dX5_look_1 : decode cX5_look 1 = .ok (.getfield 41, 3) := by decide +kernel
theorem dX5_look_4 : decode cX5_look 4 = .ok (.iload_n 1, 1) := by decide +kernel
theorem dX5_look_5 : decode cX5_look 5 = .ok (.iconst (-1), 1) := by decide +kernel
theorem dX5_look_6 : decode cX5_look 6 = .ok (.iastore, 1) := by decide +kernel
theorem dX5_look_7 : decode cX5_look 7 = .ok (.aload_n 0, 1) := by decide +kernel
theorem dX5_look_8 : decode cX5_look 8 = .ok (.getfield 62, 3) := by decide +kernel
theorem dX5_look_11 : decode cX5_look 11 = .ok (.iload_n 1, 1) := by decide +kernel
theorem dX5_look_12 : decode cX5_look 12 = .ok (.isub, 1) := by decide +kernel
theorem dX5_look_13 : decode cX5_look 13 = .ok (.istore_n 2, 1) := by decide +kernel
theorem dX5_look_14 : decode cX5_look 14 = .ok (.iload_n 2, 1) := by decide +kernel
theorem dX5_look_15 : decode cX5_look 15 = .ok (.iconst 1, 1) := by decide +kernel
theorem dX5_look_16 : decode cX5_look 16 = .ok (.if_icmp .lt 28, 3) := by decide +kernel
theorem dX5_look_19 : decode cX5_look 19 = .ok (.aload_n 0, 1) := by decide +kernel
theorem dX5_look_20 : decode cX5_look 20 = .ok (.iload_n 1, 1) := by decide +kernel
theorem dX5_look_21 : decode cX5_look 21 = .ok (.iconst 0, 1) := by decide +kernel
theorem dX5_look_22 : decode cX5_look 22 = .ok (.iload_n 2, 1) := by decide +kernel
theorem dX5_look_23 : decode cX5_look 23 = .ok (.aload_n 0, 1) := by decide +kernel
theorem dX5_look_24 : decode cX5_look 24 = .ok (.getfield 13, 3) := by decide +kernel
theorem dX5_look_27 : decode cX5_look 27 = .ok (.iload_n 1, 1) := by decide +kernel
theorem dX5_look_28 : decode cX5_look 28 = .ok (.iaload, 1) := by decide +kernel
theorem dX5_look_29 : decode cX5_look 29 = .ok (.iload_n 2, 1) := by decide +kernel
theorem dX5_look_30 : decode cX5_look 30 = .ok (.invokestatic 124, 3) := by decide +kernel
theorem dX5_look_33 : decode cX5_look 33 = .ok (.iload_n 2, 1) := by decide +kernel
theorem dX5_look_34 : decode cX5_look 34 = .ok (.iadd, 1) := by decide +kernel
theorem dX5_look_35 : decode cX5_look 35 = .ok (.invokevirtual 127, 3) := by decide +kernel
theorem dX5_look_38 : decode cX5_look 38 = .ok (.iinc 2 (-1), 3) := by decide +kernel
theorem dX5_look_41 : decode cX5_look 41 = .ok (.goto (-27), 3) := by decide +kernel
theorem dX5_look_44 : decode cX5_look 44 = .ok (.iconst 0, 1) := by decide +kernel
theorem dX5_look_45 : decode cX5_look 45 = .ok (.istore_n 2, 1) := by decide +kernel
theorem dX5_look_46 : decode cX5_look 46 = .ok (.iload_n 2, 1) := by decide +kernel
theorem dX5_look_47 : decode cX5_look 47 = .ok (.iconst 2, 1) := by decide +kernel
theorem dX5_look_48 : decode cX5_look 48 = .ok (.if_icmp .ge 80, 3) := by decide +kernel
theorem dX5_look_51 : decode cX5_look 51 = .ok (.aload_n 0, 1) := by decide +kernel
theorem dX5_look_52 : decode cX5_look 52 = .ok (.iload_n 1, 1) := by decide +kernel
theorem dX5_look_53 : decode cX5_look 53 = .ok (.iload_n 2, 1) := by decide +kernel
theorem dX5_look_54 : decode cX5_look 54 = .ok (.invokevirtual 131, 3) := by decide +kernel
theorem dX5_look_57 : decode cX5_look 57 = .ok (.astore_n 3, 1) := by decide +kernel
theorem dX5_look_58 : decode cX5_look 58 = .ok (.aload_n 0, 1) := by decide +kernel
theorem dX5_look_59 : decode cX5_look 59 = .ok (.getfield 62, 3) := by decide +kernel
theorem dX5_look_62 : decode cX5_look 62 = .ok (.iload_n 1, 1) := by decide +kernel
theorem dX5_look_63 : decode cX5_look 63 = .ok (.isub, 1) := by decide +kernel
theorem dX5_look_64 : decode cX5_look 64 = .ok (.istore 4, 2) := by decide +kernel
theorem dX5_look_66 : decode cX5_look 66 = .ok (.iload 4, 2) := by decide +kernel
theorem dX5_look_68 : decode cX5_look 68 = .ok (.aload_n 0, 1) := by decide +kernel
theorem dX5_look_69 : decode cX5_look 69 = .ok (.getfield 16, 3) := by decide +kernel
theorem dX5_look_72 : decode cX5_look 72 = .ok (.if_icmp .lt 50, 3) := by decide +kernel
theorem dX5_look_75 : decode cX5_look 75 = .ok (.aload_n 3, 1) := by decide +kernel
theorem dX5_look_76 : decode cX5_look 76 = .ok (.iload 4, 2) := by decide +kernel
theorem dX5_look_78 : decode cX5_look 78 = .ok (.iaload, 1) := by decide +kernel
theorem dX5_look_79 : decode cX5_look 79 = .ok (.iconst (-1), 1) := by decide +kernel
theorem dX5_look_80 : decode cX5_look 80 = .ok (.if_icmp .eq 36, 3) := by decide +kernel
theorem dX5_look_83 : decode cX5_look 83 = .ok (.aload_n 0, 1) := by decide +kernel
theorem dX5_look_84 : decode cX5_look 84 = .ok (.iload_n 1, 1) := by decide +kernel
theorem dX5_look_85 : decode cX5_look 85 = .ok (.iload_n 2, 1) := by decide +kernel
theorem dX5_look_86 : decode cX5_look 86 = .ok (.ifCond .ne 7, 3) := by decide +kernel
theorem dX5_look_89 : decode cX5_look 89 = .ok (.iconst 1, 1) := by decide +kernel
theorem dX5_look_90 : decode cX5_look 90 = .ok (.goto 4, 3) := by decide +kernel
theorem dX5_look_93 : decode cX5_look 93 = .ok (.iconst 2, 1) := by decide +kernel
theorem dX5_look_94 : decode cX5_look 94 = .ok (.iload 4, 2) := by decide +kernel
theorem dX5_look_96 : decode cX5_look 96 = .ok (.aload_n 3, 1) := by decide +kernel
theorem dX5_look_97 : decode cX5_look 97 = .ok (.iload 4, 2) := by decide +kernel
theorem dX5_look_99 : decode cX5_look 99 = .ok (.iaload, 1) := by decide +kernel
theorem dX5_look_100 : decode cX5_look 100 = .ok (.iload 4, 2) := by decide +kernel
theorem dX5_look_102 : decode cX5_look 102 = .ok (.invokestatic 124, 3) := by decide +kernel
theorem dX5_look_105 : decode cX5_look 105 = .ok (.aload_n 3, 1) := by decide +kernel
theorem dX5_look_106 : decode cX5_look 106 = .ok (.iload 4, 2) := by decide +kernel
theorem dX5_look_108 : decode cX5_look 108 = .ok (.iaload, 1) := by decide +kernel
theorem dX5_look_109 : decode cX5_look 109 = .ok (.invokestatic 121, 3) := by decide +kernel
theorem dX5_look_112 : decode cX5_look 112 = .ok (.iadd, 1) := by decide +kernel
theorem dX5_look_113 : decode cX5_look 113 = .ok (.invokevirtual 127, 3) := by decide +kernel
theorem dX5_look_116 : decode cX5_look 116 = .ok (.iinc 4 (-1), 3) := by decide +kernel
theorem dX5_look_119 : decode cX5_look 119 = .ok (.goto (-53), 3) := by decide +kernel
theorem dX5_look_122 : decode cX5_look 122 = .ok (.iinc 2 1, 3) := by decide +kernel
theorem dX5_look_125 : decode cX5_look 125 = .ok (.goto (-79), 3) := by decide +kernel
theorem dX5_look_128 : decode cX5_look 128 = .ok (.iconst 1, 1) := by decide +kernel
theorem dX5_look_129 : decode cX5_look 129 = .ok (.istore_n 2, 1) := by decide +kernel
theorem dX5_look_130 : decode cX5_look 130 = .ok (.iload_n 1, 1) := by decide +kernel
theorem dX5_look_131 : decode cX5_look 131 = .ok (.iload_n 2, 1) := by decide +kernel
theorem dX5_look_132 : decode cX5_look 132 = .ok (.iadd, 1) := by decide +kernel
theorem dX5_look_133 : decode cX5_look 133 = .ok (.aload_n 0, 1) := by decide +kernel
theorem dX5_look_134 : decode cX5_look 134 = .ok (.getfield 62, 3) := by decide +kernel
theorem dX5_look_137 : decode cX5_look 137 = .ok (.if_icmp .ge 26, 3) := by decide +kernel
theorem dX5_look_140 : decode cX5_look 140 = .ok (.aload_n 0, 1) := by decide +kernel
theorem dX5_look_141 : decode cX5_look 141 = .ok (.getfield 13, 3) := by decide +kernel
theorem dX5_look_144 : decode cX5_look 144 = .ok (.iload_n 1, 1) := by decide +kernel
theorem dX5_look_145 : decode cX5_look 145 = .ok (.iload_n 2, 1) := by decide +kernel
theorem dX5_look_146 : decode cX5_look 146 = .ok (.iadd, 1) := by decide +kernel
theorem dX5_look_147 : decode cX5_look 147 = .ok (.iaload, 1) := by decide +kernel
theorem dX5_look_148 : decode cX5_look 148 = .ok (.aload_n 0, 1) := by decide +kernel
theorem dX5_look_149 : decode cX5_look 149 = .ok (.getfield 13, 3) := by decide +kernel
theorem dX5_look_152 : decode cX5_look 152 = .ok (.iload_n 1, 1) := by decide +kernel
theorem dX5_look_153 : decode cX5_look 153 = .ok (.iaload, 1) := by decide +kernel
theorem dX5_look_154 : decode cX5_look 154 = .ok (.if_icmp .ne 9, 3) := by decide +kernel
theorem dX5_look_157 : decode cX5_look 157 = .ok (.iinc 2 1, 3) := by decide +kernel
theorem dX5_look_160 : decode cX5_look 160 = .ok (.goto (-30), 3) := by decide +kernel
theorem dX5_look_163 : decode cX5_look 163 = .ok (.iload_n 2, 1) := by decide +kernel
theorem dX5_look_164 : decode cX5_look 164 = .ok (.istore_n 3, 1) := by decide +kernel
theorem dX5_look_165 : decode cX5_look 165 = .ok (.iload_n 3, 1) := by decide +kernel
theorem dX5_look_166 : decode cX5_look 166 = .ok (.iconst 1, 1) := by decide +kernel
theorem dX5_look_167 : decode cX5_look 167 = .ok (.if_icmp .lt 28, 3) := by decide +kernel
theorem dX5_look_170 : decode cX5_look 170 = .ok (.aload_n 0, 1) := by decide +kernel
theorem dX5_look_171 : decode cX5_look 171 = .ok (.iload_n 1, 1) := by decide +kernel
theorem dX5_look_172 : decode cX5_look 172 = .ok (.iconst 3, 1) := by decide +kernel
theorem dX5_look_173 : decode cX5_look 173 = .ok (.iload_n 3, 1) := by decide +kernel
theorem dX5_look_174 : decode cX5_look 174 = .ok (.aload_n 0, 1) := by decide +kernel
theorem dX5_look_175 : decode cX5_look 175 = .ok (.getfield 13, 3) := by decide +kernel
theorem dX5_look_178 : decode cX5_look 178 = .ok (.iload_n 1, 1) := by decide +kernel
theorem dX5_look_179 : decode cX5_look 179 = .ok (.iaload, 1) := by decide +kernel
theorem dX5_look_180 : decode cX5_look 180 = .ok (.iload_n 3, 1) := by decide +kernel
theorem dX5_look_181 : decode cX5_look 181 = .ok (.invokestatic 124, 3) := by decide +kernel
theorem dX5_look_184 : decode cX5_look 184 = .ok (.iconst 1, 1) := by decide +kernel
theorem dX5_look_185 : decode cX5_look 185 = .ok (.iadd, 1) := by decide +kernel
theorem dX5_look_186 : decode cX5_look 186 = .ok (.invokevirtual 127, 3) := by decide +kernel
theorem dX5_look_189 : decode cX5_look 189 = .ok (.iinc 3 (-1), 3) := by decide +kernel
theorem dX5_look_192 : decode cX5_look 192 = .ok (.goto (-27), 3) := by decide +kernel
theorem dX5_look_195 : decode cX5_look 195 = .ok (.return_, 1) := by decide +kernel
set_option maxRecDepth 20000 in
theorem ggX5_plan_X5_look : GoodIn wsX5_plan wsX5_look := goodIn_r _ [19, 4, 5, 20, 21, 22, 23, 18, 24, 25, 26, 27, 28, 29, 30, 31, 6, 8, 10, 12, 32, 33, 34, 35, 36, 37, 38, 39, 40, 41, 42, 43, 44, 45, 46, 47, 48, 49, 50, 51, 52, 53, 54, 55, 56, 57, 58, 59, 60, 61, 62, 63, 64, 65, 66, 67, 68, 69, 70, 71] (by decide +kernel) (by decide +kernel)
set_option maxRecDepth 20000 in
theorem gX5_plan_X5_look : GoodIn wsX5_plan (wsV RX5 138 RX5 yX5_look wsX5_look) := goodIn_app (goodIn_of _ (by decide +kernel)) ggX5_plan_X5_look
theorem dX5_plan_0 : decode cX5_plan 0 = .ok (.aload_n 0, 1) := by decide +kernel
theorem dX5_plan_1 : decode cX5_plan 1 = .ok (.iconst 0, 1) := by decide +kernel
theorem dX5_plan_2 : decode cX5_plan 2 = .ok (.putfield 56, 3) := by decide +kernel
theorem dX5_plan_5 : decode cX5_plan 5 = .ok (.aload_n 0, 1) := by decide +kernel
theorem dX5_plan_6 : decode cX5_plan 6 = .ok (.getfield 65, 3) := by decide +kernel
theorem dX5_plan_9 : decode cX5_plan 9 = .ok (.ifCond .eq 8, 3) := by decide +kernel
theorem dX5_plan_12 : decode cX5_plan 12 = .ok (.aload_n 0, 1) := by decide +kernel
theorem dX5_plan_13 : decode cX5_plan 13 = .ok (.getfield 135, 3) := by decide +kernel
theorem dX5_plan_16 : decode cX5_plan 16 = .ok (.ireturn, 1) := by decide +kernel
theorem dX5_plan_17 : decode cX5_plan 17 = .ok (.aload_n 0, 1) := by decide +kernel
theorem dX5_plan_18 : decode cX5_plan 18 = .ok (.getfield 41, 3) := by decide +kernel
theorem dX5_plan_21 : decode cX5_plan 21 = .ok (.aload_n 0, 1) := by decide +kernel
theorem dX5_plan_22 : decode cX5_plan 22 = .ok (.getfield 62, 3) := by decide +kernel
theorem dX5_plan_25 : decode cX5_plan 25 = .ok (.iconst 0, 1) := by decide +kernel
theorem dX5_plan_26 : decode cX5_plan 26 = .ok (.iastore, 1) := by decide +kernel
theorem dX5_plan_27 : decode cX5_plan 27 = .ok (.aload_n 0, 1) := by decide +kernel
theorem dX5_plan_28 : decode cX5_plan 28 = .ok (.getfield 44, 3) := by decide +kernel
theorem dX5_plan_31 : decode cX5_plan 31 = .ok (.aload_n 0, 1) := by decide +kernel
theorem dX5_plan_32 : decode cX5_plan 32 = .ok (.getfield 62, 3) := by decide +kernel
theorem dX5_plan_35 : decode cX5_plan 35 = .ok (.iconst 0, 1) := by decide +kernel
theorem dX5_plan_36 : decode cX5_plan 36 = .ok (.iastore, 1) := by decide +kernel
theorem dX5_plan_37 : decode cX5_plan 37 = .ok (.aload_n 0, 1) := by decide +kernel
theorem dX5_plan_38 : decode cX5_plan 38 = .ok (.getfield 62, 3) := by decide +kernel
theorem dX5_plan_41 : decode cX5_plan 41 = .ok (.iconst 1, 1) := by decide +kernel
theorem dX5_plan_42 : decode cX5_plan 42 = .ok (.isub, 1) := by decide +kernel
theorem dX5_plan_43 : decode cX5_plan 43 = .ok (.istore_n 1, 1) := by decide +kernel
theorem dX5_plan_44 : decode cX5_plan 44 = .ok (.iload_n 1, 1) := by decide +kernel
theorem dX5_plan_45 : decode cX5_plan 45 = .ok (.ifCond .lt 14, 3) := by decide +kernel
theorem dX5_plan_48 : decode cX5_plan 48 = .ok (.aload_n 0, 1) := by decide +kernel
theorem dX5_plan_49 : decode cX5_plan 49 = .ok (.iload_n 1, 1) := by decide +kernel
theorem dX5_plan_50 : decode cX5_plan 50 = .ok (.invokevirtual 138, 3) := by decide +kernel
theorem dX5_plan_53 : decode cX5_plan 53 = .ok (.iinc 1 (-1), 3) := by decide +kernel
theorem dX5_plan_56 : decode cX5_plan 56 = .ok (.goto (-12), 3) := by decide +kernel
theorem dX5_plan_59 : decode cX5_plan 59 = .ok (.aload_n 0, 1) := by decide +kernel
theorem dX5_plan_60 : decode cX5_plan 60 = .ok (.iconst 0, 1) := by decide +kernel
theorem dX5_plan_61 : decode cX5_plan 61 = .ok (.putfield 135, 3) := by decide +kernel
theorem dX5_plan_64 : decode cX5_plan 64 = .ok (.iconst 0, 1) := by decide +kernel
theorem dX5_plan_65 : decode cX5_plan 65 = .ok (.istore_n 1, 1) := by decide +kernel
theorem dX5_plan_66 : decode cX5_plan 66 = .ok (.iload_n 1, 1) := by decide +kernel
theorem dX5_plan_67 : decode cX5_plan 67 = .ok (.aload_n 0, 1) := by decide +kernel
theorem dX5_plan_68 : decode cX5_plan 68 = .ok (.getfield 62, 3) := by decide +kernel
theorem dX5_plan_71 : decode cX5_plan 71 = .ok (.if_icmp .ge 80, 3) := by decide +kernel
theorem dX5_plan_74 : decode cX5_plan 74 = .ok (.aload_n 0, 1) := by decide +kernel
theorem dX5_plan_75 : decode cX5_plan 75 = .ok (.getfield 20, 3) := by decide +kernel
theorem dX5_plan_78 : decode cX5_plan 78 = .ok (.aload_n 0, 1) := by decide +kernel
theorem dX5_plan_79 : decode cX5_plan 79 = .ok (.getfield 135, 3) := by decide +kernel
theorem dX5_plan_82 : decode cX5_plan 82 = .ok (.aload_n 0, 1) := by decide +kernel
theorem dX5_plan_83 : decode cX5_plan 83 = .ok (.getfield 47, 3) := by decide +kernel
theorem dX5_plan_86 : decode cX5_plan 86 = .ok (.iload_n 1, 1) := by decide +kernel
theorem dX5_plan_87 : decode cX5_plan 87 = .ok (.iaload, 1) := by decide +kernel
theorem dX5_plan_88 : decode cX5_plan 88 = .ok (.iastore, 1) := by decide +kernel
theorem dX5_plan_89 : decode cX5_plan 89 = .ok (.aload_n 0, 1) := by decide +kernel
theorem dX5_plan_90 : decode cX5_plan 90 = .ok (.getfield 23, 3) := by decide +kernel
theorem dX5_plan_93 : decode cX5_plan 93 = .ok (.aload_n 0, 1) := by decide +kernel
theorem dX5_plan_94 : decode cX5_plan 94 = .ok (.getfield 135, 3) := by decide +kernel
theorem dX5_plan_97 : decode cX5_plan 97 = .ok (.aload_n 0, 1) := by decide +kernel
theorem dX5_plan_98 : decode cX5_plan 98 = .ok (.getfield 50, 3) := by decide +kernel
theorem dX5_plan_101 : decode cX5_plan 101 = .ok (.iload_n 1, 1) := by decide +kernel
theorem dX5_plan_102 : decode cX5_plan 102 = .ok (.iaload, 1) := by decide +kernel
theorem dX5_plan_103 : decode cX5_plan 103 = .ok (.iastore, 1) := by decide +kernel
theorem dX5_plan_104 : decode cX5_plan 104 = .ok (.aload_n 0, 1) := by decide +kernel
theorem dX5_plan_105 : decode cX5_plan 105 = .ok (.getfield 26, 3) := by decide +kernel
theorem dX5_plan_108 : decode cX5_plan 108 = .ok (.aload_n 0, 1) := by decide +kernel
theorem dX5_plan_109 : decode cX5_plan 109 = .ok (.getfield 135, 3) := by decide +kernel
theorem dX5_plan_112 : decode cX5_plan 112 = .ok (.aload_n 0, 1) := by decide +kernel
theorem dX5_plan_113 : decode cX5_plan 113 = .ok (.getfield 53, 3) := by decide +kernel
theorem dX5_plan_116 : decode cX5_plan 116 = .ok (.iload_n 1, 1) := by decide +kernel
theorem dX5_plan_117 : decode cX5_plan 117 = .ok (.iaload, 1) := by decide +kernel
theorem dX5_plan_118 : decode cX5_plan 118 = .ok (.iastore, 1) := by decide +kernel
theorem dX5_plan_119 : decode cX5_plan 119 = .ok (.aload_n 0, 1) := by decide +kernel
theorem dX5_plan_120 : decode cX5_plan 120 = .ok (.getfield 29, 3) := by decide +kernel
theorem dX5_plan_123 : decode cX5_plan 123 = .ok (.aload_n 0, 1) := by decide +kernel
theorem dX5_plan_124 : decode cX5_plan 124 = .ok (.getfield 135, 3) := by decide +kernel
theorem dX5_plan_127 : decode cX5_plan 127 = .ok (.iload_n 1, 1) := by decide +kernel
theorem dX5_plan_128 : decode cX5_plan 128 = .ok (.iastore, 1) := by decide +kernel
theorem dX5_plan_129 : decode cX5_plan 129 = .ok (.aload_n 0, 1) := by decide +kernel
theorem dX5_plan_130 : decode cX5_plan 130 = .ok (.dup, 1) := by decide +kernel
theorem dX5_plan_131 : decode cX5_plan 131 = .ok (.getfield 135, 3) := by decide +kernel
theorem dX5_plan_134 : decode cX5_plan 134 = .ok (.iconst 1, 1) := by decide +kernel
theorem dX5_plan_135 : decode cX5_plan 135 = .ok (.iadd, 1) := by decide +kernel
theorem dX5_plan_136 : decode cX5_plan 136 = .ok (.putfield 135, 3) := by decide +kernel
theorem dX5_plan_139 : decode cX5_plan 139 = .ok (.iload_n 1, 1) := by decide +kernel
theorem dX5_plan_140 : decode cX5_plan 140 = .ok (.aload_n 0, 1) := by decide +kernel
theorem dX5_plan_141 : decode cX5_plan 141 = .ok (.getfield 50, 3) := by decide +kernel
theorem dX5_plan_144 : decode cX5_plan 144 = .ok (.iload_n 1, 1) := by decide +kernel
theorem dX5_plan_145 : decode cX5_plan 145 = .ok (.iaload, 1) := by decide +kernel
theorem dX5_plan_146 : decode cX5_plan 146 = .ok (.iadd, 1) := by decide +kernel
theorem dX5_plan_147 : decode cX5_plan 147 = .ok (.istore_n 1, 1) := by decide +kernel
theorem dX5_plan_148 : decode cX5_plan 148 = .ok (.goto (-82), 3) := by decide +kernel
theorem dX5_plan_151 : decode cX5_plan 151 = .ok (.aload_n 0, 1) := by decide +kernel
theorem dX5_plan_152 : decode cX5_plan 152 = .ok (.aload_n 0, 1) := by decide +kernel
theorem dX5_plan_153 : decode cX5_plan 153 = .ok (.getfield 41, 3) := by decide +kernel
theorem dX5_plan_156 : decode cX5_plan 156 = .ok (.iconst 0, 1) := by decide +kernel
theorem dX5_plan_157 : decode cX5_plan 157 = .ok (.iaload, 1) := by decide +kernel
theorem dX5_plan_158 : decode cX5_plan 158 = .ok (.putfield 142, 3) := by decide +kernel
theorem dX5_plan_161 : decode cX5_plan 161 = .ok (.aload_n 0, 1) := by decide +kernel
theorem dX5_plan_162 : decode cX5_plan 162 = .ok (.iconst 1, 1) := by decide +kernel
theorem dX5_plan_163 : decode cX5_plan 163 = .ok (.putfield 65, 3) := by decide +kernel
theorem dX5_plan_166 : decode cX5_plan 166 = .ok (.aload_n 0, 1) := by decide +kernel
theorem dX5_plan_167 : decode cX5_plan 167 = .ok (.getfield 135, 3) := by decide +kernel
theorem dX5_plan_170 : decode cX5_plan 170 = .ok (.ireturn, 1) := by decide +kernel
theorem dX5_hasPlan_0 : decode cX5_hasPlan 0 = .ok (.aload_n 0, 1) := by decide +kernel
theorem dX5_hasPlan_1 : decode cX5_hasPlan 1 = .ok (.iconst 0, 1) := by decide +kernel
theorem dX5_hasPlan_2 : decode cX5_hasPlan 2 = .ok (.putfield 56, 3) := by decide +kernel
theorem dX5_hasPlan_5 : decode cX5_hasPlan 5 = .ok (.aload_n 0, 1) := by decide +kernel
theorem dX5_hasPlan_6 : decode cX5_hasPlan 6 = .ok (.getfield 65, 3) := by decide +kernel
theorem dX5_hasPlan_9 : decode cX5_hasPlan 9 = .ok (.ireturn, 1) := by decide +kernel
set_option maxRecDepth 20000 in
theorem ggX5_cost_X5_no : GoodIn wsX5_cost wsX5_no := goodIn_r _ [8, 1, 9, 10, 11, 12, 13, 14, 15, 16, 17, 18, 19, 20, 21, 22, 23, 24, 25, 26, 27, 28, 29, 30, 31, 32, 33] (by decide +kernel) (by decide +kernel)
set_option maxRecDepth 20000 in
theorem gX5_cost_X5_no : GoodIn wsX5_cost (wsV RX5 73 RX5 yX5_no wsX5_no) := goodIn_app (goodIn_of _ (by decide +kernel)) ggX5_cost_X5_no
theorem dX5_cost_0 : decode cX5_cost 0 = .ok (.aload_n 0, 1) := by decide +kernel
theorem dX5_cost_1 : decode cX5_cost 1 = .ok (.iconst 0, 1) := by decide +kernel
theorem dX5_cost_2 : decode cX5_cost 2 = .ok (.putfield 56, 3) := by decide +kernel
theorem dX5_cost_5 : decode cX5_cost 5 = .ok (.aload_n 0, 1) := by decide +kernel
theorem dX5_cost_6 : decode cX5_cost 6 = .ok (.getfield 65, 3) := by decide +kernel
theorem dX5_cost_9 : decode cX5_cost 9 = .ok (.ifCond .eq 10, 3) := by decide +kernel
theorem dX5_cost_12 : decode cX5_cost 12 = .ok (.aload_n 0, 1) := by decide +kernel
theorem dX5_cost_13 : decode cX5_cost 13 = .ok (.getfield 142, 3) := by decide +kernel
theorem dX5_cost_16 : decode cX5_cost 16 = .ok (.goto 8, 3) := by decide +kernel
theorem dX5_cost_19 : decode cX5_cost 19 = .ok (.aload_n 0, 1) := by decide +kernel
theorem dX5_cost_20 : decode cX5_cost 20 = .ok (.iconst 1, 1) := by decide +kernel
theorem dX5_cost_21 : decode cX5_cost 21 = .ok (.invokevirtual 73, 3) := by decide +kernel
theorem dX5_cost_24 : decode cX5_cost 24 = .ok (.ireturn, 1) := by decide +kernel
theorem dX5_isAsked__0 : decode cX5_isAsked_ 0 = .ok (.aload_n 0, 1) := by decide +kernel
theorem dX5_isAsked__1 : decode cX5_isAsked_ 1 = .ok (.aload_n 0, 1) := by decide +kernel
theorem dX5_isAsked__2 : decode cX5_isAsked_ 2 = .ok (.getfield 65, 3) := by decide +kernel
theorem dX5_isAsked__5 : decode cX5_isAsked_ 5 = .ok (.ifCond .ne 7, 3) := by decide +kernel
theorem dX5_isAsked__8 : decode cX5_isAsked_ 8 = .ok (.iconst 1, 1) := by decide +kernel
theorem dX5_isAsked__9 : decode cX5_isAsked_ 9 = .ok (.goto 20, 3) := by decide +kernel
theorem dX5_isAsked__12 : decode cX5_isAsked_ 12 = .ok (.iload_n 1, 1) := by decide +kernel
theorem dX5_isAsked__13 : decode cX5_isAsked_ 13 = .ok (.ifCond .lt 11, 3) := by decide +kernel
theorem dX5_isAsked__16 : decode cX5_isAsked_ 16 = .ok (.iload_n 1, 1) := by decide +kernel
theorem dX5_isAsked__17 : decode cX5_isAsked_ 17 = .ok (.aload_n 0, 1) := by decide +kernel
theorem dX5_isAsked__18 : decode cX5_isAsked_ 18 = .ok (.getfield 135, 3) := by decide +kernel
theorem dX5_isAsked__21 : decode cX5_isAsked_ 21 = .ok (.if_icmp .lt 7, 3) := by decide +kernel
theorem dX5_isAsked__24 : decode cX5_isAsked_ 24 = .ok (.iconst 2, 1) := by decide +kernel
theorem dX5_isAsked__25 : decode cX5_isAsked_ 25 = .ok (.goto 4, 3) := by decide +kernel
theorem dX5_isAsked__28 : decode cX5_isAsked_ 28 = .ok (.iconst 0, 1) := by decide +kernel
theorem dX5_isAsked__29 : decode cX5_isAsked_ 29 = .ok (.putfield 56, 3) := by decide +kernel
theorem dX5_isAsked__32 : decode cX5_isAsked_ 32 = .ok (.aload_n 0, 1) := by decide +kernel
theorem dX5_isAsked__33 : decode cX5_isAsked_ 33 = .ok (.getfield 56, 3) := by decide +kernel
theorem dX5_isAsked__36 : decode cX5_isAsked_ 36 = .ok (.ifCond .ne 7, 3) := by decide +kernel
theorem dX5_isAsked__39 : decode cX5_isAsked_ 39 = .ok (.iconst 1, 1) := by decide +kernel
theorem dX5_isAsked__40 : decode cX5_isAsked_ 40 = .ok (.goto 4, 3) := by decide +kernel
theorem dX5_isAsked__43 : decode cX5_isAsked_ 43 = .ok (.iconst 0, 1) := by decide +kernel
theorem dX5_isAsked__44 : decode cX5_isAsked_ 44 = .ok (.ireturn, 1) := by decide +kernel
set_option maxRecDepth 20000 in
theorem ggX5_kind_X5_isAsked_ : GoodIn wsX5_kind wsX5_isAsked_ := goodIn_r _ [6, 7, 8, 9, 10, 11, 12, 13, 14, 15, 16, 17, 18, 19, 20, 21, 22, 23, 24, 25, 26, 27, 28, 29, 30, 31, 32, 33, 34] (by decide +kernel) (by decide +kernel)
set_option maxRecDepth 20000 in
theorem gX5_kind_X5_isAsked_ : GoodIn wsX5_kind (wsV RX5 145 RX5 yX5_isAsked_ wsX5_isAsked_) := goodIn_app (goodIn_of _ (by decide +kernel)) ggX5_kind_X5_isAsked_
theorem dX5_kind_0 : decode cX5_kind 0 = .ok (.aload_n 0, 1) := by decide +kernel
theorem dX5_kind_1 : decode cX5_kind 1 = .ok (.iload_n 1, 1) := by decide +kernel
theorem dX5_kind_2 : decode cX5_kind 2 = .ok (.invokevirtual 145, 3) := by decide +kernel
theorem dX5_kind_5 : decode cX5_kind 5 = .ok (.ifCond .eq 12, 3) := by decide +kernel
theorem dX5_kind_8 : decode cX5_kind 8 = .ok (.aload_n 0, 1) := by decide +kernel
theorem dX5_kind_9 : decode cX5_kind 9 = .ok (.getfield 20, 3) := by decide +kernel
theorem dX5_kind_12 : decode cX5_kind 12 = .ok (.iload_n 1, 1) := by decide +kernel
theorem dX5_kind_13 : decode cX5_kind 13 = .ok (.iaload, 1) := by decide +kernel
theorem dX5_kind_14 : decode cX5_kind 14 = .ok (.goto 4, 3) := by decide +kernel
theorem dX5_kind_17 : decode cX5_kind 17 = .ok (.iconst 0, 1) := by decide +kernel
theorem dX5_kind_18 : decode cX5_kind 18 = .ok (.ireturn, 1) := by decide +kernel
set_option maxRecDepth 20000 in
theorem ggX5_length_X5_isAsked_ : GoodIn wsX5_length wsX5_isAsked_ := goodIn_r _ [6, 7, 8, 9, 10, 11, 12, 13, 14, 15, 16, 17, 18, 19, 20, 21, 22, 23, 24, 25, 26, 27, 28, 29, 30, 31, 32, 33, 34] (by decide +kernel) (by decide +kernel)
set_option maxRecDepth 20000 in
theorem gX5_length_X5_isAsked_ : GoodIn wsX5_length (wsV RX5 145 RX5 yX5_isAsked_ wsX5_isAsked_) := goodIn_app (goodIn_of _ (by decide +kernel)) ggX5_length_X5_isAsked_
theorem dX5_length_0 : decode cX5_length 0 = .ok (.aload_n 0, 1) := by decide +kernel
theorem dX5_length_1 : decode cX5_length 1 = .ok (.iload_n 1, 1) := by decide +kernel
theorem dX5_length_2 : decode cX5_length 2 = .ok (.invokevirtual 145, 3) := by decide +kernel
theorem dX5_length_5 : decode cX5_length 5 = .ok (.ifCond .eq 12, 3) := by decide +kernel
theorem dX5_length_8 : decode cX5_length 8 = .ok (.aload_n 0, 1) := by decide +kernel
theorem dX5_length_9 : decode cX5_length 9 = .ok (.getfield 23, 3) := by decide +kernel
theorem dX5_length_12 : decode cX5_length 12 = .ok (.iload_n 1, 1) := by decide +kernel
theorem dX5_length_13 : decode cX5_length 13 = .ok (.iaload, 1) := by decide +kernel
theorem dX5_length_14 : decode cX5_length 14 = .ok (.goto 4, 3) := by decide +kernel
theorem dX5_length_17 : decode cX5_length 17 = .ok (.iconst 0, 1) := by decide +kernel
theorem dX5_length_18 : decode cX5_length 18 = .ok (.ireturn, 1) := by decide +kernel
set_option maxRecDepth 20000 in
theorem ggX5_operand_X5_isAsked_ : GoodIn wsX5_operand wsX5_isAsked_ := goodIn_r _ [6, 7, 8, 9, 10, 11, 12, 13, 14, 15, 16, 17, 18, 19, 20, 21, 22, 23, 24, 25, 26, 27, 28, 29, 30, 31, 32, 33, 34] (by decide +kernel) (by decide +kernel)
set_option maxRecDepth 20000 in
theorem gX5_operand_X5_isAsked_ : GoodIn wsX5_operand (wsV RX5 145 RX5 yX5_isAsked_ wsX5_isAsked_) := goodIn_app (goodIn_of _ (by decide +kernel)) ggX5_operand_X5_isAsked_
theorem dX5_operand_0 : decode cX5_operand 0 = .ok (.aload_n 0, 1) := by decide +kernel
theorem dX5_operand_1 : decode cX5_operand 1 = .ok (.iload_n 1, 1) := by decide +kernel
theorem dX5_operand_2 : decode cX5_operand 2 = .ok (.invokevirtual 145, 3) := by decide +kernel
theorem dX5_operand_5 : decode cX5_operand 5 = .ok (.ifCond .eq 12, 3) := by decide +kernel
theorem dX5_operand_8 : decode cX5_operand 8 = .ok (.aload_n 0, 1) := by decide +kernel
theorem dX5_operand_9 : decode cX5_operand 9 = .ok (.getfield 26, 3) := by decide +kernel
theorem dX5_operand_12 : decode cX5_operand 12 = .ok (.iload_n 1, 1) := by decide +kernel
theorem dX5_operand_13 : decode cX5_operand 13 = .ok (.iaload, 1) := by decide +kernel
theorem dX5_operand_14 : decode cX5_operand 14 = .ok (.goto 4, 3) := by decide +kernel
theorem dX5_operand_17 : decode cX5_operand 17 = .ok (.iconst 0, 1) := by decide +kernel
theorem dX5_operand_18 : decode cX5_operand 18 = .ok (.ireturn, 1) := by decide +kernel
set_option maxRecDepth 20000 in
theorem ggX5_start_X5_isAsked_ : GoodIn wsX5_start wsX5_isAsked_ := goodIn_r _ [6, 7, 8, 9, 10, 11, 12, 13, 14, 15, 16, 17, 18, 19, 20, 21, 22, 23, 24, 25, 26, 27, 28, 29, 30, 31, 32, 33, 34] (by decide +kernel) (by decide +kernel)
set_option maxRecDepth 20000 in
theorem gX5_start_X5_isAsked_ : GoodIn wsX5_start (wsV RX5 145 RX5 yX5_isAsked_ wsX5_isAsked_) := goodIn_app (goodIn_of _ (by decide +kernel)) ggX5_start_X5_isAsked_
theorem dX5_start_0 : decode cX5_start 0 = .ok (.aload_n 0, 1) := by decide +kernel
theorem dX5_start_1 : decode cX5_start 1 = .ok (.iload_n 1, 1) := by decide +kernel
theorem dX5_start_2 : decode cX5_start 2 = .ok (.invokevirtual 145, 3) := by decide +kernel
theorem dX5_start_5 : decode cX5_start 5 = .ok (.ifCond .eq 12, 3) := by decide +kernel
theorem dX5_start_8 : decode cX5_start 8 = .ok (.aload_n 0, 1) := by decide +kernel
theorem dX5_start_9 : decode cX5_start 9 = .ok (.getfield 29, 3) := by decide +kernel
theorem dX5_start_12 : decode cX5_start 12 = .ok (.iload_n 1, 1) := by decide +kernel
theorem dX5_start_13 : decode cX5_start 13 = .ok (.iaload, 1) := by decide +kernel
theorem dX5_start_14 : decode cX5_start 14 = .ok (.goto 4, 3) := by decide +kernel
theorem dX5_start_17 : decode cX5_start 17 = .ok (.iconst 0, 1) := by decide +kernel
theorem dX5_start_18 : decode cX5_start 18 = .ok (.ireturn, 1) := by decide +kernel
set_option maxRecDepth 20000 in
theorem ggX5_made_X5_isIn : GoodIn wsX5_made wsX5_isIn := goodIn_r _ [9] (by decide +kernel) (by decide +kernel)
set_option maxRecDepth 20000 in
theorem gX5_made_X5_isIn : GoodIn wsX5_made (va_wsS RX5 77 yX5_isIn wsX5_isIn) := goodIn_app (goodIn_of _ (by decide +kernel)) ggX5_made_X5_isIn
theorem dX5_made_0 : decode cX5_made 0 = .ok (.aload_n 0, 1) := by decide +kernel
theorem dX5_made_1 : decode cX5_made 1 = .ok (.aload_n 0, 1) := by decide +kernel
theorem dX5_made_2 : decode cX5_made 2 = .ok (.getfield 65, 3) := by decide +kernel
theorem dX5_made_5 : decode cX5_made 5 = .ok (.ifCond .ne 7, 3) := by decide +kernel
theorem dX5_made_8 : decode cX5_made 8 = .ok (.iconst 1, 1) := by decide +kernel
theorem dX5_made_9 : decode cX5_made 9 = .ok (.goto 17, 3) := by decide +kernel
theorem dX5_made_12 : decode cX5_made 12 = .ok (.iload_n 1, 1) := by decide +kernel
theorem dX5_made_13 : decode cX5_made 13 = .ok (.iconst 0, 1) := by decide +kernel
theorem dX5_made_14 : decode cX5_made 14 = .ok (.iconst 3, 1) := by decide +kernel
theorem dX5_made_15 : decode cX5_made 15 = .ok (.invokestatic 77, 3) := by decide +kernel
theorem dX5_made_18 : decode cX5_made 18 = .ok (.ifCond .ne 7, 3) := by decide +kernel
theorem dX5_made_21 : decode cX5_made 21 = .ok (.iconst 2, 1) := by decide +kernel
theorem dX5_made_22 : decode cX5_made 22 = .ok (.goto 4, 3) := by decide +kernel
theorem dX5_made_25 : decode cX5_made 25 = .ok (.iconst 0, 1) := by decide +kernel
theorem dX5_made_26 : decode cX5_made 26 = .ok (.putfield 56, 3) := by decide +kernel
theorem dX5_made_29 : decode cX5_made 29 = .ok (.iconst 0, 1) := by decide +kernel
theorem dX5_made_30 : decode cX5_made 30 = .ok (.istore_n 2, 1) := by decide +kernel
theorem dX5_made_31 : decode cX5_made 31 = .ok (.iconst 0, 1) := by decide +kernel
theorem dX5_made_32 : decode cX5_made 32 = .ok (.istore_n 3, 1) := by decide +kernel
theorem dX5_made_33 : decode cX5_made 33 = .ok (.iload_n 3, 1) := by decide +kernel
theorem dX5_made_34 : decode cX5_made 34 = .ok (.aload_n 0, 1) := by decide +kernel
theorem dX5_made_35 : decode cX5_made 35 = .ok (.getfield 135, 3) := by decide +kernel
theorem dX5_made_38 : decode cX5_made 38 = .ok (.if_icmp .ge 39, 3) := by decide +kernel
theorem dX5_made_41 : decode cX5_made 41 = .ok (.aload_n 0, 1) := by decide +kernel
theorem dX5_made_42 : decode cX5_made 42 = .ok (.getfield 56, 3) := by decide +kernel
theorem dX5_made_45 : decode cX5_made 45 = .ok (.ifCond .ne 32, 3) := by decide +kernel
theorem dX5_made_48 : decode cX5_made 48 = .ok (.iload_n 2, 1) := by decide +kernel
theorem dX5_made_49 : decode cX5_made 49 = .ok (.aload_n 0, 1) := by decide +kernel
theorem dX5_made_50 : decode cX5_made 50 = .ok (.getfield 20, 3) := by decide +kernel
theorem dX5_made_53 : decode cX5_made 53 = .ok (.iload_n 3, 1) := by decide +kernel
theorem dX5_made_54 : decode cX5_made 54 = .ok (.iaload, 1) := by decide +kernel
theorem dX5_made_55 : decode cX5_made 55 = .ok (.iload_n 1, 1) := by decide +kernel
theorem dX5_made_56 : decode cX5_made 56 = .ok (.if_icmp .ne 12, 3) := by decide +kernel
theorem dX5_made_59 : decode cX5_made 59 = .ok (.aload_n 0, 1) := by decide +kernel
theorem dX5_made_60 : decode cX5_made 60 = .ok (.getfield 23, 3) := by decide +kernel
theorem dX5_made_63 : decode cX5_made 63 = .ok (.iload_n 3, 1) := by decide +kernel
theorem dX5_made_64 : decode cX5_made 64 = .ok (.iaload, 1) := by decide +kernel
theorem dX5_made_65 : decode cX5_made 65 = .ok (.goto 4, 3) := by decide +kernel
theorem dX5_made_68 : decode cX5_made 68 = .ok (.iconst 0, 1) := by decide +kernel
theorem dX5_made_69 : decode cX5_made 69 = .ok (.iadd, 1) := by decide +kernel
theorem dX5_made_70 : decode cX5_made 70 = .ok (.istore_n 2, 1) := by decide +kernel
theorem dX5_made_71 : decode cX5_made 71 = .ok (.iinc 3 1, 3) := by decide +kernel
theorem dX5_made_74 : decode cX5_made 74 = .ok (.goto (-41), 3) := by decide +kernel
theorem dX5_made_77 : decode cX5_made 77 = .ok (.iload_n 2, 1) := by decide +kernel
theorem dX5_made_78 : decode cX5_made 78 = .ok (.ireturn, 1) := by decide +kernel
theorem dX5_ratio_0 : decode cX5_ratio 0 = .ok (.aload_n 0, 1) := by decide +kernel
theorem dX5_ratio_1 : decode cX5_ratio 1 = .ok (.aload_n 0, 1) := by decide +kernel
theorem dX5_ratio_2 : decode cX5_ratio 2 = .ok (.getfield 65, 3) := by decide +kernel
theorem dX5_ratio_5 : decode cX5_ratio 5 = .ok (.ifCond .eq 7, 3) := by decide +kernel
theorem dX5_ratio_8 : decode cX5_ratio 8 = .ok (.iconst 0, 1) := by decide +kernel
theorem dX5_ratio_9 : decode cX5_ratio 9 = .ok (.goto 4, 3) := by decide +kernel
theorem dX5_ratio_12 : decode cX5_ratio 12 = .ok (.iconst 1, 1) := by decide +kernel
theorem dX5_ratio_13 : decode cX5_ratio 13 = .ok (.putfield 56, 3) := by decide +kernel
theorem dX5_ratio_16 : decode cX5_ratio 16 = .ok (.aload_n 0, 1) := by decide +kernel
theorem dX5_ratio_17 : decode cX5_ratio 17 = .ok (.getfield 56, 3) := by decide +kernel
theorem dX5_ratio_20 : decode cX5_ratio 20 = .ok (.ifCond .gt 10, 3) := by decide +kernel
theorem dX5_ratio_23 : decode cX5_ratio 23 = .ok (.aload_n 0, 1) := by decide +kernel
theorem dX5_ratio_24 : decode cX5_ratio 24 = .ok (.getfield 62, 3) := by decide +kernel
theorem dX5_ratio_27 : decode cX5_ratio 27 = .ok (.ifCond .ne 7, 3) := by decide +kernel
theorem dX5_ratio_30 : decode cX5_ratio 30 = .ok (.dconst 0, 1) := by decide +kernel
theorem dX5_ratio_31 : decode cX5_ratio 31 = .ok (.goto 18, 3) := by decide +kernel
theorem dX5_ratio_34 : decode cX5_ratio 34 = .ok (.aload_n 0, 1) := by decide +kernel
theorem dX5_ratio_35 : decode cX5_ratio 35 = .ok (.getfield 142, 3) := by decide +kernel
theorem dX5_ratio_38 : decode cX5_ratio 38 = .ok (.i2d, 1) := by decide +kernel
theorem dX5_ratio_39 : decode cX5_ratio 39 = .ok (.ldc2_w 147, 3) := by decide +kernel
theorem dX5_ratio_42 : decode cX5_ratio 42 = .ok (.dadd, 1) := by decide +kernel
theorem dX5_ratio_43 : decode cX5_ratio 43 = .ok (.aload_n 0, 1) := by decide +kernel
theorem dX5_ratio_44 : decode cX5_ratio 44 = .ok (.getfield 62, 3) := by decide +kernel
theorem dX5_ratio_47 : decode cX5_ratio 47 = .ok (.i2d, 1) := by decide +kernel
theorem dX5_ratio_48 : decode cX5_ratio 48 = .ok (.ddiv, 1) := by decide +kernel
theorem dX5_ratio_49 : decode cX5_ratio 49 = .ok (.dreturn, 1) := by decide +kernel
theorem dX5_put_0 : decode cX5_put 0 = .ok (.aload_n 0, 1) := by decide +kernel
theorem dX5_put_1 : decode cX5_put 1 = .ok (.getfield 32, 3) := by decide +kernel
theorem dX5_put_4 : decode cX5_put 4 = .ok (.aload_n 0, 1) := by decide +kernel
theorem dX5_put_5 : decode cX5_put 5 = .ok (.getfield 149, 3) := by decide +kernel
theorem dX5_put_8 : decode cX5_put 8 = .ok (.iload_n 1, 1) := by decide +kernel
theorem dX5_put_9 : decode cX5_put 9 = .ok (.iastore, 1) := by decide +kernel
theorem dX5_put_10 : decode cX5_put 10 = .ok (.aload_n 0, 1) := by decide +kernel
theorem dX5_put_11 : decode cX5_put 11 = .ok (.dup, 1) := by decide +kernel
theorem dX5_put_12 : decode cX5_put 12 = .ok (.getfield 149, 3) := by decide +kernel
theorem dX5_put_15 : decode cX5_put 15 = .ok (.iconst 1, 1) := by decide +kernel
theorem dX5_put_16 : decode cX5_put 16 = .ok (.iadd, 1) := by decide +kernel
theorem dX5_put_17 : decode cX5_put 17 = .ok (.putfield 149, 3) := by decide +kernel
theorem dX5_put_20 : decode cX5_put 20 = .ok (.return_, 1) := by decide +kernel
set_option maxRecDepth 20000 in
theorem ggX5_putNumber_X5_put : GoodIn wsX5_putNumber wsX5_put := goodIn_r _ [5, 6, 7, 8, 9, 10, 11, 12, 13, 14, 15, 16, 17, 18, 19, 20, 21, 22, 23, 24, 25, 26, 27, 28, 29, 30, 31, 32] (by decide +kernel) (by decide +kernel)
set_option maxRecDepth 20000 in
theorem gX5_putNumber_X5_put : GoodIn wsX5_putNumber (wsV RX5 152 RX5 yX5_put wsX5_put) := goodIn_app (goodIn_of _ (by decide +kernel)) ggX5_putNumber_X5_put
theorem dX5_putNumber_0 : decode cX5_putNumber 0 = .ok (.iload_n 1, 1) := by decide +kernel
theorem dX5_putNumber_1 : decode cX5_putNumber 1 = .ok (.sipush 128, 3) := by decide +kernel
theorem dX5_putNumber_4 : decode cX5_putNumber 4 = .ok (.if_icmp .ge 11, 3) := by decide +kernel
theorem dX5_putNumber_7 : decode cX5_putNumber 7 = .ok (.aload_n 0, 1) := by decide +kernel
theorem dX5_putNumber_8 : decode cX5_putNumber 8 = .ok (.iload_n 1, 1) := by decide +kernel
theorem dX5_putNumber_9 : decode cX5_putNumber 9 = .ok (.invokevirtual 152, 3) := by decide +kernel
theorem dX5_putNumber_12 : decode cX5_putNumber 12 = .ok (.goto 25, 3) := by decide +kernel
theorem dX5_putNumber_15 : decode cX5_putNumber 15 = .ok (.aload_n 0, 1) := by decide +kernel
theorem dX5_putNumber_16 : decode cX5_putNumber 16 = .ok (.sipush 128, 3) := by decide +kernel
theorem dX5_putNumber_19 : decode cX5_putNumber 19 = .ok (.iload_n 1, 1) := by decide +kernel
theorem dX5_putNumber_20 : decode cX5_putNumber 20 = .ok (.sipush 128, 3) := by decide +kernel
theorem dX5_putNumber_23 : decode cX5_putNumber 23 = .ok (.irem, 1) := by decide +kernel
theorem dX5_putNumber_24 : decode cX5_putNumber 24 = .ok (.iadd, 1) := by decide +kernel
theorem dX5_putNumber_25 : decode cX5_putNumber 25 = .ok (.invokevirtual 152, 3) := by decide +kernel
theorem dX5_putNumber_28 : decode cX5_putNumber 28 = .ok (.aload_n 0, 1) := by decide +kernel
theorem dX5_putNumber_29 : decode cX5_putNumber 29 = .ok (.iload_n 1, 1) := by decide +kernel
theorem dX5_putNumber_30 : decode cX5_putNumber 30 = .ok (.sipush 128, 3) := by decide +kernel
theorem dX5_putNumber_33 : decode cX5_putNumber 33 = .ok (.idiv, 1) := by decide +kernel
theorem dX5_putNumber_34 : decode cX5_putNumber 34 = .ok (.invokevirtual 152, 3) := by decide +kernel
theorem dX5_putNumber_37 : decode cX5_putNumber 37 = .ok (.return_, 1) := by decide +kernel
set_option maxRecDepth 20000 in
theorem ggX5_encode_X5_no : GoodIn wsX5_encode wsX5_no := goodIn_r _ [19, 1, 32, 33, 34, 35, 36, 37, 38, 39, 40, 41, 42, 43, 44, 45, 46, 47, 48, 49, 50, 51, 52, 53, 54, 55, 56] (by decide +kernel) (by decide +kernel)
set_option maxRecDepth 20000 in
theorem gX5_encode_X5_no : GoodIn wsX5_encode (wsV RX5 73 RX5 yX5_no wsX5_no) := goodIn_app (goodIn_of _ (by decide +kernel)) ggX5_encode_X5_no
set_option maxRecDepth 20000 in
theorem ggX5_encode_X5_put : GoodIn wsX5_encode wsX5_put := goodIn_r _ [23, 24, 3, 32, 33, 34, 35, 36, 37, 38, 39, 40, 41, 42, 43, 44, 45, 46, 47, 48, 49, 50, 51, 52, 53, 54, 55, 56] (by decide +kernel) (by decide +kernel)
set_option maxRecDepth 20000 in
theorem gX5_encode_X5_put : GoodIn wsX5_encode (wsV RX5 152 RX5 yX5_put wsX5_put) := goodIn_app (goodIn_of _ (by decide +kernel)) ggX5_encode_X5_put
set_option maxRecDepth 20000 in
theorem ggX5_encode_X5_putNumber : GoodIn wsX5_encode wsX5_putNumber := goodIn_r _ [28, 20, 21, 22, 18, 23, 24, 3, 32, 33, 34, 35, 36, 37, 38, 39, 40, 41, 42, 43, 44, 45, 46, 47, 48, 49, 50, 51, 52, 53, 54, 55, 56] (by decide +kernel) (by decide +kernel)
set_option maxRecDepth 20000 in
theorem gX5_encode_X5_putNumber : GoodIn wsX5_encode (wsV RX5 158 RX5 yX5_putNumber wsX5_putNumber) := goodIn_app (goodIn_of _ (by decide +kernel)) ggX5_encode_X5_putNumber
set_option maxRecDepth 20000 in
theorem ggX5_encode_X5_checkOf : GoodIn wsX5_encode wsX5_checkOf := goodIn_r _ [31] (by decide +kernel) (by decide +kernel)
set_option maxRecDepth 20000 in
theorem gX5_encode_X5_checkOf : GoodIn wsX5_encode (va_wsS RX5 94 yX5_checkOf wsX5_checkOf) := goodIn_app (goodIn_of _ (by decide +kernel)) ggX5_encode_X5_checkOf
theorem dX5_encode_0 : decode cX5_encode 0 = .ok (.aload_n 0, 1) := by decide +kernel
theorem dX5_encode_1 : decode cX5_encode 1 = .ok (.iconst 0, 1) := by decide +kernel
theorem dX5_encode_2 : decode cX5_encode 2 = .ok (.putfield 56, 3) := by decide +kernel
theorem dX5_encode_5 : decode cX5_encode 5 = .ok (.aload_n 0, 1) := by decide +kernel
theorem dX5_encode_6 : decode cX5_encode 6 = .ok (.getfield 65, 3) := by decide +kernel
theorem dX5_encode_9 : decode cX5_encode 9 = .ok (.ifCond .ne 9, 3) := by decide +kernel
theorem dX5_encode_12 : decode cX5_encode 12 = .ok (.aload_n 0, 1) := by decide +kernel
theorem dX5_encode_13 : decode cX5_encode 13 = .ok (.iconst 1, 1) := by decide +kernel
theorem dX5_encode_14 : decode cX5_encode 14 = .ok (.invokevirtual 73, 3) := by decide +kernel
theorem dX5_encode_17 : decode cX5_encode 17 = .ok (.ireturn, 1) := by decide +kernel
theorem dX5_encode_18 : decode cX5_encode 18 = .ok (.aload_n 0, 1) := by decide +kernel
theorem dX5_encode_19 : decode cX5_encode 19 = .ok (.iconst 0, 1) := by decide +kernel
theorem dX5_encode_20 : decode cX5_encode 20 = .ok (.putfield 149, 3) := by decide +kernel
theorem dX5_encode_23 : decode cX5_encode 23 = .ok (.iconst 0, 1) := by decide +kernel
theorem dX5_encode_24 : decode cX5_encode 24 = .ok (.istore_n 1, 1) := by decide +kernel
theorem dX5_encode_25 : decode cX5_encode 25 = .ok (.iload_n 1, 1) := by decide +kernel
theorem dX5_encode_26 : decode cX5_encode 26 = .ok (.aload_n 0, 1) := by decide +kernel
theorem dX5_encode_27 : decode cX5_encode 27 = .ok (.getfield 135, 3) := by decide +kernel
theorem dX5_encode_30 : decode cX5_encode 30 = .ok (.if_icmp .ge 138, 3) := by decide +kernel
theorem dX5_encode_33 : decode cX5_encode 33 = .ok (.aload_n 0, 1) := by decide +kernel
theorem dX5_encode_34 : decode cX5_encode 34 = .ok (.bipush 64, 2) := by decide +kernel
theorem dX5_encode_36 : decode cX5_encode 36 = .ok (.aload_n 0, 1) := by decide +kernel
theorem dX5_encode_37 : decode cX5_encode 37 = .ok (.getfield 20, 3) := by decide +kernel
theorem dX5_encode_40 : decode cX5_encode 40 = .ok (.iload_n 1, 1) := by decide +kernel
theorem dX5_encode_41 : decode cX5_encode 41 = .ok (.iaload, 1) := by decide +kernel
theorem dX5_encode_42 : decode cX5_encode 42 = .ok (.imul, 1) := by decide +kernel
theorem dX5_encode_43 : decode cX5_encode 43 = .ok (.aload_n 0, 1) := by decide +kernel
theorem dX5_encode_44 : decode cX5_encode 44 = .ok (.getfield 23, 3) := by decide +kernel
theorem dX5_encode_47 : decode cX5_encode 47 = .ok (.iload_n 1, 1) := by decide +kernel
theorem dX5_encode_48 : decode cX5_encode 48 = .ok (.iaload, 1) := by decide +kernel
theorem dX5_encode_49 : decode cX5_encode 49 = .ok (.bipush 63, 2) := by decide +kernel
theorem dX5_encode_51 : decode cX5_encode 51 = .ok (.invokestatic 155, 3) := by decide +kernel
theorem dX5_encode_54 : decode cX5_encode 54 = .ok (.iadd, 1) := by decide +kernel
theorem dX5_encode_55 : decode cX5_encode 55 = .ok (.invokevirtual 152, 3) := by decide +kernel
theorem dX5_encode_58 : decode cX5_encode 58 = .ok (.aload_n 0, 1) := by decide +kernel
theorem dX5_encode_59 : decode cX5_encode 59 = .ok (.getfield 23, 3) := by decide +kernel
theorem dX5_encode_62 : decode cX5_encode 62 = .ok (.iload_n 1, 1) := by decide +kernel
theorem dX5_encode_63 : decode cX5_encode 63 = .ok (.iaload, 1) := by decide +kernel
theorem dX5_encode_64 : decode cX5_encode 64 = .ok (.bipush 63, 2) := by decide +kernel
theorem dX5_encode_66 : decode cX5_encode 66 = .ok (.if_icmp .lt 16, 3) := by decide +kernel
theorem dX5_encode_69 : decode cX5_encode 69 = .ok (.aload_n 0, 1) := by decide +kernel
theorem dX5_encode_70 : decode cX5_encode 70 = .ok (.aload_n 0, 1) := by decide +kernel
theorem dX5_encode_71 : decode cX5_encode 71 = .ok (.getfield 23, 3) := by decide +kernel
theorem dX5_encode_74 : decode cX5_encode 74 = .ok (.iload_n 1, 1) := by decide +kernel
theorem dX5_encode_75 : decode cX5_encode 75 = .ok (.iaload, 1) := by decide +kernel
theorem dX5_encode_76 : decode cX5_encode 76 = .ok (.bipush 63, 2) := by decide +kernel
theorem dX5_encode_78 : decode cX5_encode 78 = .ok (.isub, 1) := by decide +kernel
theorem dX5_encode_79 : decode cX5_encode 79 = .ok (.invokevirtual 158, 3) := by decide +kernel
theorem dX5_encode_82 : decode cX5_encode 82 = .ok (.aload_n 0, 1) := by decide +kernel
theorem dX5_encode_83 : decode cX5_encode 83 = .ok (.getfield 20, 3) := by decide +kernel
theorem dX5_encode_86 : decode cX5_encode 86 = .ok (.iload_n 1, 1) := by decide +kernel
theorem dX5_encode_87 : decode cX5_encode 87 = .ok (.iaload, 1) := by decide +kernel
theorem dX5_encode_88 : decode cX5_encode 88 = .ok (.ifCond .ne 41, 3) := by decide +kernel
theorem dX5_encode_91 : decode cX5_encode 91 = .ok (.iconst 0, 1) := by decide +kernel
theorem dX5_encode_92 : decode cX5_encode 92 = .ok (.istore_n 2, 1) := by decide +kernel
theorem dX5_encode_93 : decode cX5_encode 93 = .ok (.iload_n 2, 1) := by decide +kernel
theorem dX5_encode_94 : decode cX5_encode 94 = .ok (.aload_n 0, 1) := by decide +kernel
theorem dX5_encode_95 : decode cX5_encode 95 = .ok (.getfield 23, 3) := by decide +kernel
theorem dX5_encode_98 : decode cX5_encode 98 = .ok (.iload_n 1, 1) := by decide +kernel
theorem dX5_encode_99 : decode cX5_encode 99 = .ok (.iaload, 1) := by decide +kernel
theorem dX5_encode_100 : decode cX5_encode 100 = .ok (.if_icmp .ge 26, 3) := by decide +kernel
theorem dX5_encode_103 : decode cX5_encode 103 = .ok (.aload_n 0, 1) := by decide +kernel
theorem dX5_encode_104 : decode cX5_encode 104 = .ok (.aload_n 0, 1) := by decide +kernel
theorem dX5_encode_105 : decode cX5_encode 105 = .ok (.getfield 13, 3) := by decide +kernel
theorem dX5_encode_108 : decode cX5_encode 108 = .ok (.aload_n 0, 1) := by decide +kernel
theorem dX5_encode_109 : decode cX5_encode 109 = .ok (.getfield 29, 3) := by decide +kernel
theorem dX5_encode_112 : decode cX5_encode 112 = .ok (.iload_n 1, 1) := by decide +kernel
theorem dX5_encode_113 : decode cX5_encode 113 = .ok (.iaload, 1) := by decide +kernel
theorem dX5_encode_114 : decode cX5_encode 114 = .ok (.iload_n 2, 1) := by decide +kernel
theorem dX5_encode_115 : decode cX5_encode 115 = .ok (.iadd, 1) := by decide +kernel
theorem dX5_encode_116 : decode cX5_encode 116 = .ok (.iaload, 1) := by decide +kernel
theorem dX5_encode_117 : decode cX5_encode 117 = .ok (.invokevirtual 152, 3) := by decide +kernel
theorem dX5_encode_120 : decode cX5_encode 120 = .ok (.iinc 2 1, 3) := by decide +kernel
theorem dX5_encode_123 : decode cX5_encode 123 = .ok (.goto (-30), 3) := by decide +kernel
theorem dX5_encode_126 : decode cX5_encode 126 = .ok (.goto 36, 3) := by decide +kernel
theorem dX5_encode_129 : decode cX5_encode 129 = .ok (.aload_n 0, 1) := by decide +kernel
theorem dX5_encode_130 : decode cX5_encode 130 = .ok (.getfield 20, 3) := by decide +kernel
theorem dX5_encode_133 : decode cX5_encode 133 = .ok (.iload_n 1, 1) := by decide +kernel
theorem dX5_encode_134 : decode cX5_encode 134 = .ok (.iaload, 1) := by decide +kernel
theorem dX5_encode_135 : decode cX5_encode 135 = .ok (.iconst 3, 1) := by decide +kernel
theorem dX5_encode_136 : decode cX5_encode 136 = .ok (.if_icmp .ne 16, 3) := by decide +kernel
theorem dX5_encode_139 : decode cX5_encode 139 = .ok (.aload_n 0, 1) := by decide +kernel
theorem dX5_encode_140 : decode cX5_encode 140 = .ok (.aload_n 0, 1) := by decide +kernel
theorem dX5_encode_141 : decode cX5_encode 141 = .ok (.getfield 26, 3) := by decide +kernel
theorem dX5_encode_144 : decode cX5_encode 144 = .ok (.iload_n 1, 1) := by decide +kernel
theorem dX5_encode_145 : decode cX5_encode 145 = .ok (.iaload, 1) := by decide +kernel
theorem dX5_encode_146 : decode cX5_encode 146 = .ok (.invokevirtual 152, 3) := by decide +kernel
theorem dX5_encode_149 : decode cX5_encode 149 = .ok (.goto 13, 3) := by decide +kernel
theorem dX5_encode_152 : decode cX5_encode 152 = .ok (.aload_n 0, 1) := by decide +kernel
theorem dX5_encode_153 : decode cX5_encode 153 = .ok (.aload_n 0, 1) := by decide +kernel
theorem dX5_encode_154 : decode cX5_encode 154 = .ok (.getfield 26, 3) := by decide +kernel
theorem dX5_encode_157 : decode cX5_encode 157 = .ok (.iload_n 1, 1) := by decide +kernel
theorem dX5_encode_158 : decode cX5_encode 158 = .ok (.iaload, 1) := by decide +kernel
theorem dX5_encode_159 : decode cX5_encode 159 = .ok (.invokevirtual 158, 3) := by decide +kernel
theorem dX5_encode_162 : decode cX5_encode 162 = .ok (.iinc 1 1, 3) := by decide +kernel
theorem dX5_encode_165 : decode cX5_encode 165 = .ok (.goto (-140), 3) := by decide +kernel
theorem dX5_encode_168 : decode cX5_encode 168 = .ok (.aload_n 0, 1) := by decide +kernel
theorem dX5_encode_169 : decode cX5_encode 169 = .ok (.getfield 13, 3) := by decide +kernel
theorem dX5_encode_172 : decode cX5_encode 172 = .ok (.iconst 0, 1) := by decide +kernel
theorem dX5_encode_173 : decode cX5_encode 173 = .ok (.aload_n 0, 1) := by decide +kernel
theorem dX5_encode_174 : decode cX5_encode 174 = .ok (.getfield 62, 3) := by decide +kernel
theorem dX5_encode_177 : decode cX5_encode 177 = .ok (.invokestatic 94, 3) := by decide +kernel
theorem dX5_encode_180 : decode cX5_encode 180 = .ok (.istore_n 1, 1) := by decide +kernel
theorem dX5_encode_181 : decode cX5_encode 181 = .ok (.aload_n 0, 1) := by decide +kernel
theorem dX5_encode_182 : decode cX5_encode 182 = .ok (.iload_n 1, 1) := by decide +kernel
theorem dX5_encode_183 : decode cX5_encode 183 = .ok (.sipush 256, 3) := by decide +kernel
theorem dX5_encode_186 : decode cX5_encode 186 = .ok (.irem, 1) := by decide +kernel
theorem dX5_encode_187 : decode cX5_encode 187 = .ok (.invokevirtual 152, 3) := by decide +kernel
theorem dX5_encode_190 : decode cX5_encode 190 = .ok (.aload_n 0, 1) := by decide +kernel
theorem dX5_encode_191 : decode cX5_encode 191 = .ok (.iload_n 1, 1) := by decide +kernel
theorem dX5_encode_192 : decode cX5_encode 192 = .ok (.sipush 256, 3) := by decide +kernel
theorem dX5_encode_195 : decode cX5_encode 195 = .ok (.idiv, 1) := by decide +kernel
theorem dX5_encode_196 : decode cX5_encode 196 = .ok (.invokevirtual 152, 3) := by decide +kernel
theorem dX5_encode_199 : decode cX5_encode 199 = .ok (.aload_n 0, 1) := by decide +kernel
theorem dX5_encode_200 : decode cX5_encode 200 = .ok (.getfield 149, 3) := by decide +kernel
theorem dX5_encode_203 : decode cX5_encode 203 = .ok (.ireturn, 1) := by decide +kernel
theorem dX5_codeSize_0 : decode cX5_codeSize 0 = .ok (.aload_n 0, 1) := by decide +kernel
theorem dX5_codeSize_1 : decode cX5_codeSize 1 = .ok (.iconst 0, 1) := by decide +kernel
theorem dX5_codeSize_2 : decode cX5_codeSize 2 = .ok (.putfield 56, 3) := by decide +kernel
theorem dX5_codeSize_5 : decode cX5_codeSize 5 = .ok (.aload_n 0, 1) := by decide +kernel
theorem dX5_codeSize_6 : decode cX5_codeSize 6 = .ok (.getfield 149, 3) := by decide +kernel
theorem dX5_codeSize_9 : decode cX5_codeSize 9 = .ok (.ireturn, 1) := by decide +kernel
set_option maxRecDepth 20000 in
theorem ggX5_code_X5_no : GoodIn wsX5_code wsX5_no := goodIn_r _ [8, 1, 9, 10, 11, 12, 13, 14, 15, 16, 17, 18, 19, 20, 21, 22, 23, 24, 25, 26, 27, 28, 29, 30, 31, 32, 33] (by decide +kernel) (by decide +kernel)
set_option maxRecDepth 20000 in
theorem gX5_code_X5_no : GoodIn wsX5_code (wsV RX5 73 RX5 yX5_no wsX5_no) := goodIn_app (goodIn_of _ (by decide +kernel)) ggX5_code_X5_no
theorem dX5_code_0 : decode cX5_code 0 = .ok (.aload_n 0, 1) := by decide +kernel
theorem dX5_code_1 : decode cX5_code 1 = .ok (.iconst 0, 1) := by decide +kernel
theorem dX5_code_2 : decode cX5_code 2 = .ok (.putfield 56, 3) := by decide +kernel
theorem dX5_code_5 : decode cX5_code 5 = .ok (.iload_n 1, 1) := by decide +kernel
theorem dX5_code_6 : decode cX5_code 6 = .ok (.ifCond .lt 20, 3) := by decide +kernel
theorem dX5_code_9 : decode cX5_code 9 = .ok (.iload_n 1, 1) := by decide +kernel
theorem dX5_code_10 : decode cX5_code 10 = .ok (.aload_n 0, 1) := by decide +kernel
theorem dX5_code_11 : decode cX5_code 11 = .ok (.getfield 149, 3) := by decide +kernel
theorem dX5_code_14 : decode cX5_code 14 = .ok (.if_icmp .ge 12, 3) := by decide +kernel
theorem dX5_code_17 : decode cX5_code 17 = .ok (.aload_n 0, 1) := by decide +kernel
theorem dX5_code_18 : decode cX5_code 18 = .ok (.getfield 32, 3) := by decide +kernel
theorem dX5_code_21 : decode cX5_code 21 = .ok (.iload_n 1, 1) := by decide +kernel
theorem dX5_code_22 : decode cX5_code 22 = .ok (.iaload, 1) := by decide +kernel
theorem dX5_code_23 : decode cX5_code 23 = .ok (.goto 8, 3) := by decide +kernel
theorem dX5_code_26 : decode cX5_code 26 = .ok (.aload_n 0, 1) := by decide +kernel
theorem dX5_code_27 : decode cX5_code 27 = .ok (.iconst 1, 1) := by decide +kernel
theorem dX5_code_28 : decode cX5_code 28 = .ok (.invokevirtual 73, 3) := by decide +kernel
theorem dX5_code_31 : decode cX5_code 31 = .ok (.ireturn, 1) := by decide +kernel
set_option maxRecDepth 20000 in
theorem ggX5_setCode_X5_no : GoodIn wsX5_setCode wsX5_no := goodIn_r _ [8, 1, 12, 13, 14, 15, 16, 17, 18, 19, 20, 21, 22, 23, 24, 25, 26, 27, 28, 29, 30, 31, 32, 33, 34, 35, 36] (by decide +kernel) (by decide +kernel)
set_option maxRecDepth 20000 in
theorem gX5_setCode_X5_no : GoodIn wsX5_setCode (wsV RX5 73 RX5 yX5_no wsX5_no) := goodIn_app (goodIn_of _ (by decide +kernel)) ggX5_setCode_X5_no
set_option maxRecDepth 20000 in
theorem ggX5_setCode_X5_isIn : GoodIn wsX5_setCode wsX5_isIn := goodIn_r _ [11] (by decide +kernel) (by decide +kernel)
set_option maxRecDepth 20000 in
theorem gX5_setCode_X5_isIn : GoodIn wsX5_setCode (va_wsS RX5 77 yX5_isIn wsX5_isIn) := goodIn_app (goodIn_of _ (by decide +kernel)) ggX5_setCode_X5_isIn
theorem dX5_setCode_0 : decode cX5_setCode 0 = .ok (.aload_n 0, 1) := by decide +kernel
theorem dX5_setCode_1 : decode cX5_setCode 1 = .ok (.iconst 0, 1) := by decide +kernel
theorem dX5_setCode_2 : decode cX5_setCode 2 = .ok (.putfield 56, 3) := by decide +kernel
theorem dX5_setCode_5 : decode cX5_setCode 5 = .ok (.iload_n 1, 1) := by decide +kernel
theorem dX5_setCode_6 : decode cX5_setCode 6 = .ok (.ifCond .lt 11, 3) := by decide +kernel
theorem dX5_setCode_9 : decode cX5_setCode 9 = .ok (.iload_n 1, 1) := by decide +kernel
theorem dX5_setCode_10 : decode cX5_setCode 10 = .ok (.aload_n 0, 1) := by decide +kernel
theorem dX5_setCode_11 : decode cX5_setCode 11 = .ok (.getfield 149, 3) := by decide +kernel
theorem dX5_setCode_14 : decode cX5_setCode 14 = .ok (.if_icmp .lt 9, 3) := by decide +kernel
theorem dX5_setCode_17 : decode cX5_setCode 17 = .ok (.aload_n 0, 1) := by decide +kernel
theorem dX5_setCode_18 : decode cX5_setCode 18 = .ok (.iconst 1, 1) := by decide +kernel
theorem dX5_setCode_19 : decode cX5_setCode 19 = .ok (.invokevirtual 73, 3) := by decide +kernel
theorem dX5_setCode_22 : decode cX5_setCode 22 = .ok (.ireturn, 1) := by decide +kernel
theorem dX5_setCode_23 : decode cX5_setCode 23 = .ok (.iload_n 2, 1) := by decide +kernel
theorem dX5_setCode_24 : decode cX5_setCode 24 = .ok (.iconst 0, 1) := by decide +kernel
theorem dX5_setCode_25 : decode cX5_setCode 25 = .ok (.sipush 255, 3) := by decide +kernel
theorem dX5_setCode_28 : decode cX5_setCode 28 = .ok (.invokestatic 77, 3) := by decide +kernel
theorem dX5_setCode_31 : decode cX5_setCode 31 = .ok (.ifCond .ne 9, 3) := by decide +kernel
theorem dX5_setCode_34 : decode cX5_setCode 34 = .ok (.aload_n 0, 1) := by decide +kernel
theorem dX5_setCode_35 : decode cX5_setCode 35 = .ok (.iconst 2, 1) := by decide +kernel
theorem dX5_setCode_36 : decode cX5_setCode 36 = .ok (.invokevirtual 73, 3) := by decide +kernel
theorem dX5_setCode_39 : decode cX5_setCode 39 = .ok (.ireturn, 1) := by decide +kernel
theorem dX5_setCode_40 : decode cX5_setCode 40 = .ok (.aload_n 0, 1) := by decide +kernel
theorem dX5_setCode_41 : decode cX5_setCode 41 = .ok (.getfield 32, 3) := by decide +kernel
theorem dX5_setCode_44 : decode cX5_setCode 44 = .ok (.iload_n 1, 1) := by decide +kernel
theorem dX5_setCode_45 : decode cX5_setCode 45 = .ok (.iaload, 1) := by decide +kernel
theorem dX5_setCode_46 : decode cX5_setCode 46 = .ok (.istore_n 3, 1) := by decide +kernel
theorem dX5_setCode_47 : decode cX5_setCode 47 = .ok (.aload_n 0, 1) := by decide +kernel
theorem dX5_setCode_48 : decode cX5_setCode 48 = .ok (.getfield 32, 3) := by decide +kernel
theorem dX5_setCode_51 : decode cX5_setCode 51 = .ok (.iload_n 1, 1) := by decide +kernel
theorem dX5_setCode_52 : decode cX5_setCode 52 = .ok (.iload_n 2, 1) := by decide +kernel
theorem dX5_setCode_53 : decode cX5_setCode 53 = .ok (.iastore, 1) := by decide +kernel
theorem dX5_setCode_54 : decode cX5_setCode 54 = .ok (.iload_n 3, 1) := by decide +kernel
theorem dX5_setCode_55 : decode cX5_setCode 55 = .ok (.ireturn, 1) := by decide +kernel
set_option maxRecDepth 20000 in
theorem ggX5_cutCode_X5_isIn : GoodIn wsX5_cutCode wsX5_isIn := goodIn_r _ [6] (by decide +kernel) (by decide +kernel)
set_option maxRecDepth 20000 in
theorem gX5_cutCode_X5_isIn : GoodIn wsX5_cutCode (va_wsS RX5 77 yX5_isIn wsX5_isIn) := goodIn_app (goodIn_of _ (by decide +kernel)) ggX5_cutCode_X5_isIn
set_option maxRecDepth 20000 in
theorem ggX5_cutCode_X5_no : GoodIn wsX5_cutCode wsX5_no := goodIn_r _ [10, 1, 11, 12, 13, 14, 15, 16, 17, 18, 19, 20, 21, 22, 23, 24, 25, 26, 27, 28, 29, 30, 31, 32, 33, 34, 35] (by decide +kernel) (by decide +kernel)
set_option maxRecDepth 20000 in
theorem gX5_cutCode_X5_no : GoodIn wsX5_cutCode (wsV RX5 73 RX5 yX5_no wsX5_no) := goodIn_app (goodIn_of _ (by decide +kernel)) ggX5_cutCode_X5_no
theorem dX5_cutCode_0 : decode cX5_cutCode 0 = .ok (.aload_n 0, 1) := by decide +kernel
theorem dX5_cutCode_1 : decode cX5_cutCode 1 = .ok (.iconst 0, 1) := by decide +kernel
theorem dX5_cutCode_2 : decode cX5_cutCode 2 = .ok (.putfield 56, 3) := by decide +kernel
theorem dX5_cutCode_5 : decode cX5_cutCode 5 = .ok (.iload_n 1, 1) := by decide +kernel
theorem dX5_cutCode_6 : decode cX5_cutCode 6 = .ok (.iconst 0, 1) := by decide +kernel
theorem dX5_cutCode_7 : decode cX5_cutCode 7 = .ok (.aload_n 0, 1) := by decide +kernel
theorem dX5_cutCode_8 : decode cX5_cutCode 8 = .ok (.getfield 149, 3) := by decide +kernel
theorem dX5_cutCode_11 : decode cX5_cutCode 11 = .ok (.invokestatic 77, 3) := by decide +kernel
theorem dX5_cutCode_14 : decode cX5_cutCode 14 = .ok (.ifCond .ne 9, 3) := by decide +kernel
theorem dX5_cutCode_17 : decode cX5_cutCode 17 = .ok (.aload_n 0, 1) := by decide +kernel
theorem dX5_cutCode_18 : decode cX5_cutCode 18 = .ok (.iconst 1, 1) := by decide +kernel
theorem dX5_cutCode_19 : decode cX5_cutCode 19 = .ok (.invokevirtual 73, 3) := by decide +kernel
theorem dX5_cutCode_22 : decode cX5_cutCode 22 = .ok (.ireturn, 1) := by decide +kernel
theorem dX5_cutCode_23 : decode cX5_cutCode 23 = .ok (.aload_n 0, 1) := by decide +kernel
theorem dX5_cutCode_24 : decode cX5_cutCode 24 = .ok (.dup, 1) := by decide +kernel
theorem dX5_cutCode_25 : decode cX5_cutCode 25 = .ok (.getfield 149, 3) := by decide +kernel
theorem dX5_cutCode_28 : decode cX5_cutCode 28 = .ok (.iload_n 1, 1) := by decide +kernel
theorem dX5_cutCode_29 : decode cX5_cutCode 29 = .ok (.isub, 1) := by decide +kernel
theorem dX5_cutCode_30 : decode cX5_cutCode 30 = .ok (.putfield 149, 3) := by decide +kernel
theorem dX5_cutCode_33 : decode cX5_cutCode 33 = .ok (.aload_n 0, 1) := by decide +kernel
theorem dX5_cutCode_34 : decode cX5_cutCode 34 = .ok (.getfield 149, 3) := by decide +kernel
theorem dX5_cutCode_37 : decode cX5_cutCode 37 = .ok (.ireturn, 1) := by decide +kernel
set_option maxRecDepth 20000 in
theorem ggX5_appendCode_X5_isIn : GoodIn wsX5_appendCode wsX5_isIn := goodIn_r _ [6] (by decide +kernel) (by decide +kernel)
set_option maxRecDepth 20000 in
theorem gX5_appendCode_X5_isIn : GoodIn wsX5_appendCode (va_wsS RX5 77 yX5_isIn wsX5_isIn) := goodIn_app (goodIn_of _ (by decide +kernel)) ggX5_appendCode_X5_isIn
set_option maxRecDepth 20000 in
theorem ggX5_appendCode_X5_no : GoodIn wsX5_appendCode wsX5_no := goodIn_r _ [10, 1, 16, 17, 18, 19, 20, 21, 22, 23, 24, 25, 26, 27, 28, 29, 30, 31, 32, 33, 34, 35, 36, 37, 38, 39, 40] (by decide +kernel) (by decide +kernel)
set_option maxRecDepth 20000 in
theorem gX5_appendCode_X5_no : GoodIn wsX5_appendCode (wsV RX5 73 RX5 yX5_no wsX5_no) := goodIn_app (goodIn_of _ (by decide +kernel)) ggX5_appendCode_X5_no
set_option maxRecDepth 20000 in
theorem ggX5_appendCode_X5_put : GoodIn wsX5_appendCode wsX5_put := goodIn_r _ [14, 15, 2, 16, 17, 18, 19, 20, 21, 22, 23, 24, 25, 26, 27, 28, 29, 30, 31, 32, 33, 34, 35, 36, 37, 38, 39, 40] (by decide +kernel) (by decide +kernel)
set_option maxRecDepth 20000 in
theorem gX5_appendCode_X5_put : GoodIn wsX5_appendCode (wsV RX5 152 RX5 yX5_put wsX5_put) := goodIn_app (goodIn_of _ (by decide +kernel)) ggX5_appendCode_X5_put
theorem dX5_appendCode_0 : decode cX5_appendCode 0 = .ok (.aload_n 0, 1) := by decide +kernel
theorem dX5_appendCode_1 : decode cX5_appendCode 1 = .ok (.iconst 0, 1) := by decide +kernel
theorem dX5_appendCode_2 : decode cX5_appendCode 2 = .ok (.putfield 56, 3) := by decide +kernel
theorem dX5_appendCode_5 : decode cX5_appendCode 5 = .ok (.iload_n 1, 1) := by decide +kernel
theorem dX5_appendCode_6 : decode cX5_appendCode 6 = .ok (.iconst 0, 1) := by decide +kernel
theorem dX5_appendCode_7 : decode cX5_appendCode 7 = .ok (.sipush 255, 3) := by decide +kernel
theorem dX5_appendCode_10 : decode cX5_appendCode 10 = .ok (.invokestatic 77, 3) := by decide +kernel
theorem dX5_appendCode_13 : decode cX5_appendCode 13 = .ok (.ifCond .ne 9, 3) := by decide +kernel
theorem dX5_appendCode_16 : decode cX5_appendCode 16 = .ok (.aload_n 0, 1) := by decide +kernel
theorem dX5_appendCode_17 : decode cX5_appendCode 17 = .ok (.iconst 1, 1) := by decide +kernel
theorem dX5_appendCode_18 : decode cX5_appendCode 18 = .ok (.invokevirtual 73, 3) := by decide +kernel
theorem dX5_appendCode_21 : decode cX5_appendCode 21 = .ok (.ireturn, 1) := by decide +kernel
theorem dX5_appendCode_22 : decode cX5_appendCode 22 = .ok (.aload_n 0, 1) := by decide +kernel
theorem dX5_appendCode_23 : decode cX5_appendCode 23 = .ok (.getfield 149, 3) := by decide +kernel
theorem dX5_appendCode_26 : decode cX5_appendCode 26 = .ok (.sipush 400, 3) := by decide +kernel
theorem dX5_appendCode_29 : decode cX5_appendCode 29 = .ok (.if_icmp .ne 9, 3) := by decide +kernel
theorem dX5_appendCode_32 : decode cX5_appendCode 32 = .ok (.aload_n 0, 1) := by decide +kernel
theorem dX5_appendCode_33 : decode cX5_appendCode 33 = .ok (.iconst 2, 1) := by decide +kernel
theorem dX5_appendCode_34 : decode cX5_appendCode 34 = .ok (.invokevirtual 73, 3) := by decide +kernel
theorem dX5_appendCode_37 : decode cX5_appendCode 37 = .ok (.ireturn, 1) := by decide +kernel
theorem dX5_appendCode_38 : decode cX5_appendCode 38 = .ok (.aload_n 0, 1) := by decide +kernel
theorem dX5_appendCode_39 : decode cX5_appendCode 39 = .ok (.iload_n 1, 1) := by decide +kernel
theorem dX5_appendCode_40 : decode cX5_appendCode 40 = .ok (.invokevirtual 152, 3) := by decide +kernel
theorem dX5_appendCode_43 : decode cX5_appendCode 43 = .ok (.aload_n 0, 1) := by decide +kernel
theorem dX5_appendCode_44 : decode cX5_appendCode 44 = .ok (.getfield 149, 3) := by decide +kernel
theorem dX5_appendCode_47 : decode cX5_appendCode 47 = .ok (.ireturn, 1) := by decide +kernel
theorem dX5_fail_0 : decode cX5_fail 0 = .ok (.aload_n 0, 1) := by decide +kernel
theorem dX5_fail_1 : decode cX5_fail 1 = .ok (.getfield 161, 3) := by decide +kernel
theorem dX5_fail_4 : decode cX5_fail 4 = .ok (.ifCond .ne 13, 3) := by decide +kernel
theorem dX5_fail_7 : decode cX5_fail 7 = .ok (.aload_n 0, 1) := by decide +kernel
theorem dX5_fail_8 : decode cX5_fail 8 = .ok (.iload_n 1, 1) := by decide +kernel
theorem dX5_fail_9 : decode cX5_fail 9 = .ok (.putfield 161, 3) := by decide +kernel
theorem dX5_fail_12 : decode cX5_fail 12 = .ok (.aload_n 0, 1) := by decide +kernel
theorem dX5_fail_13 : decode cX5_fail 13 = .ok (.iload_n 2, 1) := by decide +kernel
theorem dX5_fail_14 : decode cX5_fail 14 = .ok (.putfield 38, 3) := by decide +kernel
theorem dX5_fail_17 : decode cX5_fail 17 = .ok (.iconst 0, 1) := by decide +kernel
theorem dX5_fail_18 : decode cX5_fail 18 = .ok (.ireturn, 1) := by decide +kernel
set_option maxRecDepth 20000 in
theorem ggX5_take_X5_fail : GoodIn wsX5_take wsX5_fail := goodIn_r _ [8, 9, 10, 11, 12, 13, 14, 15, 16, 17, 18, 19, 20, 21, 22, 23, 24, 25, 26, 27, 28, 29, 30, 31, 32, 33, 34, 35] (by decide +kernel) (by decide +kernel)
set_option maxRecDepth 20000 in
theorem gX5_take_X5_fail : GoodIn wsX5_take (wsV RX5 167 RX5 yX5_fail wsX5_fail) := goodIn_app (goodIn_of _ (by decide +kernel)) ggX5_take_X5_fail
theorem dX5_take_0 : decode cX5_take 0 = .ok (.aload_n 0, 1) := by decide +kernel
theorem dX5_take_1 : decode cX5_take 1 = .ok (.getfield 164, 3) := by decide +kernel
theorem dX5_take_4 : decode cX5_take 4 = .ok (.aload_n 0, 1) := by decide +kernel
theorem dX5_take_5 : decode cX5_take 5 = .ok (.getfield 149, 3) := by decide +kernel
theorem dX5_take_8 : decode cX5_take 8 = .ok (.iconst 2, 1) := by decide +kernel
theorem dX5_take_9 : decode cX5_take 9 = .ok (.isub, 1) := by decide +kernel
theorem dX5_take_10 : decode cX5_take 10 = .ok (.if_icmp .lt 15, 3) := by decide +kernel
theorem dX5_take_13 : decode cX5_take 13 = .ok (.aload_n 0, 1) := by decide +kernel
theorem dX5_take_14 : decode cX5_take 14 = .ok (.iconst 1, 1) := by decide +kernel
theorem dX5_take_15 : decode cX5_take 15 = .ok (.aload_n 0, 1) := by decide +kernel
theorem dX5_take_16 : decode cX5_take 16 = .ok (.getfield 149, 3) := by decide +kernel
theorem dX5_take_19 : decode cX5_take 19 = .ok (.iconst 2, 1) := by decide +kernel
theorem dX5_take_20 : decode cX5_take 20 = .ok (.isub, 1) := by decide +kernel
theorem dX5_take_21 : decode cX5_take 21 = .ok (.invokevirtual 167, 3) := by decide +kernel
theorem dX5_take_24 : decode cX5_take 24 = .ok (.ireturn, 1) := by decide +kernel
theorem dX5_take_25 : decode cX5_take 25 = .ok (.aload_n 0, 1) := by decide +kernel
theorem dX5_take_26 : decode cX5_take 26 = .ok (.dup, 1) := by decide +kernel
theorem dX5_take_27 : decode cX5_take 27 = .ok (.getfield 164, 3) := by decide +kernel
theorem dX5_take_30 : decode cX5_take 30 = .ok (.iconst 1, 1) := by decide +kernel
theorem dX5_take_31 : decode cX5_take 31 = .ok (.iadd, 1) := by decide +kernel
theorem dX5_take_32 : decode cX5_take 32 = .ok (.putfield 164, 3) := by decide +kernel
theorem dX5_take_35 : decode cX5_take 35 = .ok (.aload_n 0, 1) := by decide +kernel
theorem dX5_take_36 : decode cX5_take 36 = .ok (.getfield 32, 3) := by decide +kernel
theorem dX5_take_39 : decode cX5_take 39 = .ok (.aload_n 0, 1) := by decide +kernel
theorem dX5_take_40 : decode cX5_take 40 = .ok (.getfield 164, 3) := by decide +kernel
theorem dX5_take_43 : decode cX5_take 43 = .ok (.iconst 1, 1) := by decide +kernel
theorem dX5_take_44 : decode cX5_take 44 = .ok (.isub, 1) := by decide +kernel
theorem dX5_take_45 : decode cX5_take 45 = .ok (.iaload, 1) := by decide +kernel
theorem dX5_take_46 : decode cX5_take 46 = .ok (.ireturn, 1) := by decide +kernel
set_option maxRecDepth 20000 in
theorem ggX5_takeNumber_X5_take : GoodIn wsX5_takeNumber wsX5_take := goodIn_r _ [7, 2, 8, 9, 10, 11, 12, 6, 13, 1, 14, 15, 16, 17, 18, 19, 20, 21, 22, 23, 24, 25, 26, 27, 28, 29, 30, 31, 32, 33, 34, 35, 36, 37, 38, 39] (by decide +kernel) (by decide +kernel)
set_option maxRecDepth 20000 in
theorem gX5_takeNumber_X5_take : GoodIn wsX5_takeNumber (wsV RX5 170 RX5 yX5_take wsX5_take) := goodIn_app (goodIn_of _ (by decide +kernel)) ggX5_takeNumber_X5_take
set_option maxRecDepth 20000 in
theorem ggX5_takeNumber_X5_fail : GoodIn wsX5_takeNumber wsX5_fail := goodIn_r _ [13, 1, 14, 15, 16, 17, 18, 19, 20, 21, 22, 23, 24, 25, 26, 27, 28, 29, 30, 31, 32, 33, 34, 35, 36, 37, 38, 39] (by decide +kernel) (by decide +kernel)
set_option maxRecDepth 20000 in
theorem gX5_takeNumber_X5_fail : GoodIn wsX5_takeNumber (wsV RX5 167 RX5 yX5_fail wsX5_fail) := goodIn_app (goodIn_of _ (by decide +kernel)) ggX5_takeNumber_X5_fail
theorem dX5_takeNumber_0 : decode cX5_takeNumber 0 = .ok (.aload_n 0, 1) := by decide +kernel
theorem dX5_takeNumber_1 : decode cX5_takeNumber 1 = .ok (.invokevirtual 170, 3) := by decide +kernel
theorem dX5_takeNumber_4 : decode cX5_takeNumber 4 = .ok (.istore_n 1, 1) := by decide +kernel
theorem dX5_takeNumber_5 : decode cX5_takeNumber 5 = .ok (.aload_n 0, 1) := by decide +kernel
theorem dX5_takeNumber_6 : decode cX5_takeNumber 6 = .ok (.getfield 161, 3) := by decide +kernel
theorem dX5_takeNumber_9 : decode cX5_takeNumber 9 = .ok (.ifCond .gt 10, 3) := by decide +kernel
theorem dX5_takeNumber_12 : decode cX5_takeNumber 12 = .ok (.iload_n 1, 1) := by decide +kernel
theorem dX5_takeNumber_13 : decode cX5_takeNumber 13 = .ok (.sipush 128, 3) := by decide +kernel
theorem dX5_takeNumber_16 : decode cX5_takeNumber 16 = .ok (.if_icmp .ge 5, 3) := by decide +kernel
theorem dX5_takeNumber_19 : decode cX5_takeNumber 19 = .ok (.iload_n 1, 1) := by decide +kernel
theorem dX5_takeNumber_20 : decode cX5_takeNumber 20 = .ok (.ireturn, 1) := by decide +kernel
theorem dX5_takeNumber_21 : decode cX5_takeNumber 21 = .ok (.aload_n 0, 1) := by decide +kernel
theorem dX5_takeNumber_22 : decode cX5_takeNumber 22 = .ok (.invokevirtual 170, 3) := by decide +kernel
theorem dX5_takeNumber_25 : decode cX5_takeNumber 25 = .ok (.istore_n 2, 1) := by decide +kernel
theorem dX5_takeNumber_26 : decode cX5_takeNumber 26 = .ok (.aload_n 0, 1) := by decide +kernel
theorem dX5_takeNumber_27 : decode cX5_takeNumber 27 = .ok (.getfield 161, 3) := by decide +kernel
theorem dX5_takeNumber_30 : decode cX5_takeNumber 30 = .ok (.ifCond .ne 24, 3) := by decide +kernel
theorem dX5_takeNumber_33 : decode cX5_takeNumber 33 = .ok (.iload_n 2, 1) := by decide +kernel
theorem dX5_takeNumber_34 : decode cX5_takeNumber 34 = .ok (.sipush 128, 3) := by decide +kernel
theorem dX5_takeNumber_37 : decode cX5_takeNumber 37 = .ok (.if_icmp .lt 17, 3) := by decide +kernel
theorem dX5_takeNumber_40 : decode cX5_takeNumber 40 = .ok (.aload_n 0, 1) := by decide +kernel
theorem dX5_takeNumber_41 : decode cX5_takeNumber 41 = .ok (.iconst 2, 1) := by decide +kernel
theorem dX5_takeNumber_42 : decode cX5_takeNumber 42 = .ok (.aload_n 0, 1) := by decide +kernel
theorem dX5_takeNumber_43 : decode cX5_takeNumber 43 = .ok (.getfield 164, 3) := by decide +kernel
theorem dX5_takeNumber_46 : decode cX5_takeNumber 46 = .ok (.iconst 1, 1) := by decide +kernel
theorem dX5_takeNumber_47 : decode cX5_takeNumber 47 = .ok (.isub, 1) := by decide +kernel
theorem dX5_takeNumber_48 : decode cX5_takeNumber 48 = .ok (.invokevirtual 167, 3) := by decide +kernel
theorem dX5_takeNumber_51 : decode cX5_takeNumber 51 = .ok (.goto 14, 3) := by decide +kernel
theorem dX5_takeNumber_54 : decode cX5_takeNumber 54 = .ok (.iload_n 1, 1) := by decide +kernel
theorem dX5_takeNumber_55 : decode cX5_takeNumber 55 = .ok (.sipush 128, 3) := by decide +kernel
theorem dX5_takeNumber_58 : decode cX5_takeNumber 58 = .ok (.isub, 1) := by decide +kernel
theorem dX5_takeNumber_59 : decode cX5_takeNumber 59 = .ok (.sipush 128, 3) := by decide +kernel
theorem dX5_takeNumber_62 : decode cX5_takeNumber 62 = .ok (.iload_n 2, 1) := by decide +kernel
theorem dX5_takeNumber_63 : decode cX5_takeNumber 63 = .ok (.imul, 1) := by decide +kernel
theorem dX5_takeNumber_64 : decode cX5_takeNumber 64 = .ok (.iadd, 1) := by decide +kernel
theorem dX5_takeNumber_65 : decode cX5_takeNumber 65 = .ok (.ireturn, 1) := by decide +kernel
set_option maxRecDepth 20000 in
theorem ggX5_takeInstruction_X5_take : GoodIn wsX5_takeInstruction wsX5_take := goodIn_r _ [12, 1, 13, 6, 14, 15, 16, 11, 17, 2, 18, 23, 24, 25, 26, 27, 28, 29, 30, 31, 32, 33, 34, 35, 36, 37, 38, 39, 40, 41, 42, 43, 44, 45, 46, 47] (by decide +kernel) (by decide +kernel)
set_option maxRecDepth 20000 in
theorem gX5_takeInstruction_X5_take : GoodIn wsX5_takeInstruction (wsV RX5 170 RX5 yX5_take wsX5_take) := goodIn_app (goodIn_of _ (by decide +kernel)) ggX5_takeInstruction_X5_take
set_option maxRecDepth 20000 in
theorem ggX5_takeInstruction_X5_fail : GoodIn wsX5_takeInstruction wsX5_fail := goodIn_r _ [17, 2, 18, 23, 24, 25, 26, 27, 28, 29, 30, 31, 32, 33, 34, 35, 36, 37, 38, 39, 40, 41, 42, 43, 44, 45, 46, 47] (by decide +kernel) (by decide +kernel)
set_option maxRecDepth 20000 in
theorem gX5_takeInstruction_X5_fail : GoodIn wsX5_takeInstruction (wsV RX5 167 RX5 yX5_fail wsX5_fail) := goodIn_app (goodIn_of _ (by decide +kernel)) ggX5_takeInstruction_X5_fail
set_option maxRecDepth 20000 in
theorem ggX5_takeInstruction_X5_takeNumber : GoodIn wsX5_takeInstruction wsX5_takeNumber := goodIn_r _ [22, 2, 1, 8, 9, 10, 11, 12, 13, 6, 14, 15, 16, 17, 18, 23, 24, 25, 26, 27, 28, 29, 30, 31, 32, 33, 34, 35, 36, 37, 38, 39, 40, 41, 42, 43, 44, 45, 46, 47] (by decide +kernel) (by decide +kernel)
set_option maxRecDepth 20000 in
theorem gX5_takeInstruction_X5_takeNumber : GoodIn wsX5_takeInstruction (wsV RX5 174 RX5 yX5_takeNumber wsX5_takeNumber) := goodIn_app (goodIn_of _ (by decide +kernel)) ggX5_takeInstruction_X5_takeNumber
theorem dX5_takeInstruction_0 : decode cX5_takeInstruction 0 = .ok (.aload_n 0, 1) := by decide +kernel
theorem dX5_takeInstruction_1 : decode cX5_takeInstruction 1 = .ok (.getfield 164, 3) := by decide +kernel
theorem dX5_takeInstruction_4 : decode cX5_takeInstruction 4 = .ok (.istore_n 1, 1) := by decide +kernel
theorem dX5_takeInstruction_5 : decode cX5_takeInstruction 5 = .ok (.aload_n 0, 1) := by decide +kernel
theorem dX5_takeInstruction_6 : decode cX5_takeInstruction 6 = .ok (.invokevirtual 170, 3) := by decide +kernel
theorem dX5_takeInstruction_9 : decode cX5_takeInstruction 9 = .ok (.istore_n 2, 1) := by decide +kernel
theorem dX5_takeInstruction_10 : decode cX5_takeInstruction 10 = .ok (.iload_n 2, 1) := by decide +kernel
theorem dX5_takeInstruction_11 : decode cX5_takeInstruction 11 = .ok (.bipush 64, 2) := by decide +kernel
theorem dX5_takeInstruction_13 : decode cX5_takeInstruction 13 = .ok (.idiv, 1) := by decide +kernel
theorem dX5_takeInstruction_14 : decode cX5_takeInstruction 14 = .ok (.istore_n 3, 1) := by decide +kernel
theorem dX5_takeInstruction_15 : decode cX5_takeInstruction 15 = .ok (.iload_n 2, 1) := by decide +kernel
theorem dX5_takeInstruction_16 : decode cX5_takeInstruction 16 = .ok (.bipush 64, 2) := by decide +kernel
theorem dX5_takeInstruction_18 : decode cX5_takeInstruction 18 = .ok (.irem, 1) := by decide +kernel
theorem dX5_takeInstruction_19 : decode cX5_takeInstruction 19 = .ok (.istore 4, 2) := by decide +kernel
theorem dX5_takeInstruction_21 : decode cX5_takeInstruction 21 = .ok (.iload 4, 2) := by decide +kernel
theorem dX5_takeInstruction_23 : decode cX5_takeInstruction 23 = .ok (.ifCond .ne 10, 3) := by decide +kernel
theorem dX5_takeInstruction_26 : decode cX5_takeInstruction 26 = .ok (.aload_n 0, 1) := by decide +kernel
theorem dX5_takeInstruction_27 : decode cX5_takeInstruction 27 = .ok (.iconst 2, 1) := by decide +kernel
theorem dX5_takeInstruction_28 : decode cX5_takeInstruction 28 = .ok (.iload_n 1, 1) := by decide +kernel
theorem dX5_takeInstruction_29 : decode cX5_takeInstruction 29 = .ok (.invokevirtual 167, 3) := by decide +kernel
theorem dX5_takeInstruction_32 : decode cX5_takeInstruction 32 = .ok (.pop, 1) := by decide +kernel
theorem dX5_takeInstruction_33 : decode cX5_takeInstruction 33 = .ok (.aload_n 0, 1) := by decide +kernel
theorem dX5_takeInstruction_34 : decode cX5_takeInstruction 34 = .ok (.getfield 161, 3) := by decide +kernel
theorem dX5_takeInstruction_37 : decode cX5_takeInstruction 37 = .ok (.ifCond .ne 19, 3) := by decide +kernel
theorem dX5_takeInstruction_40 : decode cX5_takeInstruction 40 = .ok (.iload 4, 2) := by decide +kernel
theorem dX5_takeInstruction_42 : decode cX5_takeInstruction 42 = .ok (.bipush 63, 2) := by decide +kernel
theorem dX5_takeInstruction_44 : decode cX5_takeInstruction 44 = .ok (.if_icmp .ne 12, 3) := by decide +kernel
theorem dX5_takeInstruction_47 : decode cX5_takeInstruction 47 = .ok (.iload 4, 2) := by decide +kernel
theorem dX5_takeInstruction_49 : decode cX5_takeInstruction 49 = .ok (.aload_n 0, 1) := by decide +kernel
theorem dX5_takeInstruction_50 : decode cX5_takeInstruction 50 = .ok (.invokevirtual 174, 3) := by decide +kernel
theorem dX5_takeInstruction_53 : decode cX5_takeInstruction 53 = .ok (.iadd, 1) := by decide +kernel
theorem dX5_takeInstruction_54 : decode cX5_takeInstruction 54 = .ok (.istore 4, 2) := by decide +kernel
theorem dX5_takeInstruction_56 : decode cX5_takeInstruction 56 = .ok (.aload_n 0, 1) := by decide +kernel
theorem dX5_takeInstruction_57 : decode cX5_takeInstruction 57 = .ok (.getfield 161, 3) := by decide +kernel
theorem dX5_takeInstruction_60 : decode cX5_takeInstruction 60 = .ok (.ifCond .le 4, 3) := by decide +kernel
theorem dX5_takeInstruction_63 : decode cX5_takeInstruction 63 = .ok (.return_, 1) := by decide +kernel
theorem dX5_takeInstruction_64 : decode cX5_takeInstruction 64 = .ok (.aload_n 0, 1) := by decide +kernel
theorem dX5_takeInstruction_65 : decode cX5_takeInstruction 65 = .ok (.getfield 164, 3) := by decide +kernel
theorem dX5_takeInstruction_68 : decode cX5_takeInstruction 68 = .ok (.istore 5, 2) := by decide +kernel
theorem dX5_takeInstruction_70 : decode cX5_takeInstruction 70 = .ok (.iconst 0, 1) := by decide +kernel
theorem dX5_takeInstruction_71 : decode cX5_takeInstruction 71 = .ok (.istore 6, 2) := by decide +kernel
theorem dX5_takeInstruction_73 : decode cX5_takeInstruction 73 = .ok (.iload_n 3, 1) := by decide +kernel
theorem dX5_takeInstruction_74 : decode cX5_takeInstruction 74 = .ok (.ifCond .ne 34, 3) := by decide +kernel
theorem dX5_takeInstruction_77 : decode cX5_takeInstruction 77 = .ok (.iconst 0, 1) := by decide +kernel
theorem dX5_takeInstruction_78 : decode cX5_takeInstruction 78 = .ok (.istore 7, 2) := by decide +kernel
theorem dX5_takeInstruction_80 : decode cX5_takeInstruction 80 = .ok (.iload 7, 2) := by decide +kernel
theorem dX5_takeInstruction_82 : decode cX5_takeInstruction 82 = .ok (.iload 4, 2) := by decide +kernel
theorem dX5_takeInstruction_84 : decode cX5_takeInstruction 84 = .ok (.if_icmp .ge 21, 3) := by decide +kernel
theorem dX5_takeInstruction_87 : decode cX5_takeInstruction 87 = .ok (.aload_n 0, 1) := by decide +kernel
theorem dX5_takeInstruction_88 : decode cX5_takeInstruction 88 = .ok (.getfield 161, 3) := by decide +kernel
theorem dX5_takeInstruction_91 : decode cX5_takeInstruction 91 = .ok (.ifCond .ne 14, 3) := by decide +kernel
theorem dX5_takeInstruction_94 : decode cX5_takeInstruction 94 = .ok (.aload_n 0, 1) := by decide +kernel
theorem dX5_takeInstruction_95 : decode cX5_takeInstruction 95 = .ok (.invokevirtual 170, 3) := by decide +kernel
theorem dX5_takeInstruction_98 : decode cX5_takeInstruction 98 = .ok (.pop, 1) := by decide +kernel
theorem dX5_takeInstruction_99 : decode cX5_takeInstruction 99 = .ok (.iinc 7 1, 3) := by decide +kernel
theorem dX5_takeInstruction_102 : decode cX5_takeInstruction 102 = .ok (.goto (-22), 3) := by decide +kernel
theorem dX5_takeInstruction_105 : decode cX5_takeInstruction 105 = .ok (.goto 21, 3) := by decide +kernel
theorem dX5_takeInstruction_108 : decode cX5_takeInstruction 108 = .ok (.iload_n 3, 1) := by decide +kernel
theorem dX5_takeInstruction_109 : decode cX5_takeInstruction 109 = .ok (.iconst 3, 1) := by decide +kernel
theorem dX5_takeInstruction_110 : decode cX5_takeInstruction 110 = .ok (.if_icmp .ne 10, 3) := by decide +kernel
theorem dX5_takeInstruction_113 : decode cX5_takeInstruction 113 = .ok (.aload_n 0, 1) := by decide +kernel
theorem dX5_takeInstruction_114 : decode cX5_takeInstruction 114 = .ok (.invokevirtual 170, 3) := by decide +kernel
theorem dX5_takeInstruction_117 : decode cX5_takeInstruction 117 = .ok (.goto 7, 3) := by decide +kernel
theorem dX5_takeInstruction_120 : decode cX5_takeInstruction 120 = .ok (.aload_n 0, 1) := by decide +kernel
theorem dX5_takeInstruction_121 : decode cX5_takeInstruction 121 = .ok (.invokevirtual 174, 3) := by decide +kernel
theorem dX5_takeInstruction_124 : decode cX5_takeInstruction 124 = .ok (.istore 6, 2) := by decide +kernel
theorem dX5_takeInstruction_126 : decode cX5_takeInstruction 126 = .ok (.aload_n 0, 1) := by decide +kernel
theorem dX5_takeInstruction_127 : decode cX5_takeInstruction 127 = .ok (.getfield 161, 3) := by decide +kernel
theorem dX5_takeInstruction_130 : decode cX5_takeInstruction 130 = .ok (.ifCond .le 4, 3) := by decide +kernel
theorem dX5_takeInstruction_133 : decode cX5_takeInstruction 133 = .ok (.return_, 1) := by decide +kernel
theorem dX5_takeInstruction_134 : decode cX5_takeInstruction 134 = .ok (.iload_n 3, 1) := by decide +kernel
theorem dX5_takeInstruction_135 : decode cX5_takeInstruction 135 = .ok (.iconst 1, 1) := by decide +kernel
theorem dX5_takeInstruction_136 : decode cX5_takeInstruction 136 = .ok (.if_icmp .ne 15, 3) := by decide +kernel
theorem dX5_takeInstruction_139 : decode cX5_takeInstruction 139 = .ok (.iload 6, 2) := by decide +kernel
theorem dX5_takeInstruction_141 : decode cX5_takeInstruction 141 = .ok (.iload 4, 2) := by decide +kernel
theorem dX5_takeInstruction_143 : decode cX5_takeInstruction 143 = .ok (.iadd, 1) := by decide +kernel
theorem dX5_takeInstruction_144 : decode cX5_takeInstruction 144 = .ok (.aload_n 0, 1) := by decide +kernel
theorem dX5_takeInstruction_145 : decode cX5_takeInstruction 145 = .ok (.getfield 59, 3) := by decide +kernel
theorem dX5_takeInstruction_148 : decode cX5_takeInstruction 148 = .ok (.if_icmp .gt 17, 3) := by decide +kernel
theorem dX5_takeInstruction_151 : decode cX5_takeInstruction 151 = .ok (.iload_n 3, 1) := by decide +kernel
theorem dX5_takeInstruction_152 : decode cX5_takeInstruction 152 = .ok (.iconst 2, 1) := by decide +kernel
theorem dX5_takeInstruction_153 : decode cX5_takeInstruction 153 = .ok (.if_icmp .ne 22, 3) := by decide +kernel
theorem dX5_takeInstruction_156 : decode cX5_takeInstruction 156 = .ok (.iload 6, 2) := by decide +kernel
theorem dX5_takeInstruction_158 : decode cX5_takeInstruction 158 = .ok (.aload_n 0, 1) := by decide +kernel
theorem dX5_takeInstruction_159 : decode cX5_takeInstruction 159 = .ok (.getfield 177, 3) := by decide +kernel
theorem dX5_takeInstruction_162 : decode cX5_takeInstruction 162 = .ok (.if_icmp .lt 13, 3) := by decide +kernel
theorem dX5_takeInstruction_165 : decode cX5_takeInstruction 165 = .ok (.aload_n 0, 1) := by decide +kernel
theorem dX5_takeInstruction_166 : decode cX5_takeInstruction 166 = .ok (.iconst 3, 1) := by decide +kernel
theorem dX5_takeInstruction_167 : decode cX5_takeInstruction 167 = .ok (.iload_n 1, 1) := by decide +kernel
theorem dX5_takeInstruction_168 : decode cX5_takeInstruction 168 = .ok (.invokevirtual 167, 3) := by decide +kernel
theorem dX5_takeInstruction_171 : decode cX5_takeInstruction 171 = .ok (.pop, 1) := by decide +kernel
theorem dX5_takeInstruction_172 : decode cX5_takeInstruction 172 = .ok (.goto 23, 3) := by decide +kernel
theorem dX5_takeInstruction_175 : decode cX5_takeInstruction 175 = .ok (.aload_n 0, 1) := by decide +kernel
theorem dX5_takeInstruction_176 : decode cX5_takeInstruction 176 = .ok (.getfield 177, 3) := by decide +kernel
theorem dX5_takeInstruction_179 : decode cX5_takeInstruction 179 = .ok (.iload 4, 2) := by decide +kernel
theorem dX5_takeInstruction_181 : decode cX5_takeInstruction 181 = .ok (.iadd, 1) := by decide +kernel
theorem dX5_takeInstruction_182 : decode cX5_takeInstruction 182 = .ok (.sipush 300, 3) := by decide +kernel
theorem dX5_takeInstruction_185 : decode cX5_takeInstruction 185 = .ok (.if_icmp .le 10, 3) := by decide +kernel
theorem dX5_takeInstruction_188 : decode cX5_takeInstruction 188 = .ok (.aload_n 0, 1) := by decide +kernel
theorem dX5_takeInstruction_189 : decode cX5_takeInstruction 189 = .ok (.iconst 4, 1) := by decide +kernel
theorem dX5_takeInstruction_190 : decode cX5_takeInstruction 190 = .ok (.iload_n 1, 1) := by decide +kernel
theorem dX5_takeInstruction_191 : decode cX5_takeInstruction 191 = .ok (.invokevirtual 167, 3) := by decide +kernel
theorem dX5_takeInstruction_194 : decode cX5_takeInstruction 194 = .ok (.pop, 1) := by decide +kernel
theorem dX5_takeInstruction_195 : decode cX5_takeInstruction 195 = .ok (.iconst 0, 1) := by decide +kernel
theorem dX5_takeInstruction_196 : decode cX5_takeInstruction 196 = .ok (.istore 7, 2) := by decide +kernel
theorem dX5_takeInstruction_198 : decode cX5_takeInstruction 198 = .ok (.iload 7, 2) := by decide +kernel
theorem dX5_takeInstruction_200 : decode cX5_takeInstruction 200 = .ok (.iload 4, 2) := by decide +kernel
theorem dX5_takeInstruction_202 : decode cX5_takeInstruction 202 = .ok (.if_icmp .ge 90, 3) := by decide +kernel
theorem dX5_takeInstruction_205 : decode cX5_takeInstruction 205 = .ok (.aload_n 0, 1) := by decide +kernel
theorem dX5_takeInstruction_206 : decode cX5_takeInstruction 206 = .ok (.getfield 161, 3) := by decide +kernel
theorem dX5_takeInstruction_209 : decode cX5_takeInstruction 209 = .ok (.ifCond .ne 83, 3) := by decide +kernel
theorem dX5_takeInstruction_212 : decode cX5_takeInstruction 212 = .ok (.aload_n 0, 1) := by decide +kernel
theorem dX5_takeInstruction_213 : decode cX5_takeInstruction 213 = .ok (.getfield 35, 3) := by decide +kernel
theorem dX5_takeInstruction_216 : decode cX5_takeInstruction 216 = .ok (.aload_n 0, 1) := by decide +kernel
theorem dX5_takeInstruction_217 : decode cX5_takeInstruction 217 = .ok (.getfield 177, 3) := by decide +kernel
theorem dX5_takeInstruction_220 : decode cX5_takeInstruction 220 = .ok (.iload_n 3, 1) := by decide +kernel
theorem dX5_takeInstruction_221 : decode cX5_takeInstruction 221 = .ok (.ifCond .ne 16, 3) := by decide +kernel
theorem dX5_takeInstruction_224 : decode cX5_takeInstruction 224 = .ok (.aload_n 0, 1) := by decide +kernel
theorem dX5_takeInstruction_225 : decode cX5_takeInstruction 225 = .ok (.getfield 32, 3) := by decide +kernel
theorem dX5_takeInstruction_228 : decode cX5_takeInstruction 228 = .ok (.iload 5, 2) := by decide +kernel
theorem dX5_takeInstruction_230 : decode cX5_takeInstruction 230 = .ok (.iload 7, 2) := by decide +kernel
theorem dX5_takeInstruction_232 : decode cX5_takeInstruction 232 = .ok (.iadd, 1) := by decide +kernel
theorem dX5_takeInstruction_233 : decode cX5_takeInstruction 233 = .ok (.iaload, 1) := by decide +kernel
theorem dX5_takeInstruction_234 : decode cX5_takeInstruction 234 = .ok (.goto 41, 3) := by decide +kernel
theorem dX5_takeInstruction_237 : decode cX5_takeInstruction 237 = .ok (.iload_n 3, 1) := by decide +kernel
theorem dX5_takeInstruction_238 : decode cX5_takeInstruction 238 = .ok (.iconst 1, 1) := by decide +kernel
theorem dX5_takeInstruction_239 : decode cX5_takeInstruction 239 = .ok (.if_icmp .ne 16, 3) := by decide +kernel
theorem dX5_takeInstruction_242 : decode cX5_takeInstruction 242 = .ok (.aload_n 0, 1) := by decide +kernel
theorem dX5_takeInstruction_243 : decode cX5_takeInstruction 243 = .ok (.getfield 9, 3) := by decide +kernel
theorem dX5_takeInstruction_246 : decode cX5_takeInstruction 246 = .ok (.iload 6, 2) := by decide +kernel
theorem dX5_takeInstruction_248 : decode cX5_takeInstruction 248 = .ok (.iload 7, 2) := by decide +kernel
theorem dX5_takeInstruction_250 : decode cX5_takeInstruction 250 = .ok (.iadd, 1) := by decide +kernel
theorem dX5_takeInstruction_251 : decode cX5_takeInstruction 251 = .ok (.iaload, 1) := by decide +kernel
theorem dX5_takeInstruction_252 : decode cX5_takeInstruction 252 = .ok (.goto 23, 3) := by decide +kernel
theorem dX5_takeInstruction_255 : decode cX5_takeInstruction 255 = .ok (.iload_n 3, 1) := by decide +kernel
theorem dX5_takeInstruction_256 : decode cX5_takeInstruction 256 = .ok (.iconst 3, 1) := by decide +kernel
theorem dX5_takeInstruction_257 : decode cX5_takeInstruction 257 = .ok (.if_icmp .ne 8, 3) := by decide +kernel
theorem dX5_takeInstruction_260 : decode cX5_takeInstruction 260 = .ok (.iload 6, 2) := by decide +kernel
theorem dX5_takeInstruction_262 : decode cX5_takeInstruction 262 = .ok (.goto 13, 3) := by decide +kernel
theorem dX5_takeInstruction_265 : decode cX5_takeInstruction 265 = .ok (.aload_n 0, 1) := by decide +kernel
theorem dX5_takeInstruction_266 : decode cX5_takeInstruction 266 = .ok (.getfield 35, 3) := by decide +kernel
theorem dX5_takeInstruction_269 : decode cX5_takeInstruction 269 = .ok (.iload 6, 2) := by decide +kernel
theorem dX5_takeInstruction_271 : decode cX5_takeInstruction 271 = .ok (.iload 7, 2) := by decide +kernel
theorem dX5_takeInstruction_273 : decode cX5_takeInstruction 273 = .ok (.iadd, 1) := by decide +kernel
theorem dX5_takeInstruction_274 : decode cX5_takeInstruction 274 = .ok (.iaload, 1) := by decide +kernel
theorem dX5_takeInstruction_275 : decode cX5_takeInstruction 275 = .ok (.iastore, 1) := by decide +kernel
theorem dX5_takeInstruction_276 : decode cX5_takeInstruction 276 = .ok (.aload_n 0, 1) := by decide +kernel
theorem dX5_takeInstruction_277 : decode cX5_takeInstruction 277 = .ok (.dup, 1) := by decide +kernel
theorem dX5_takeInstruction_278 : decode cX5_takeInstruction 278 = .ok (.getfield 177, 3) := by decide +kernel
theorem dX5_takeInstruction_281 : decode cX5_takeInstruction 281 = .ok (.iconst 1, 1) := by decide +kernel
theorem dX5_takeInstruction_282 : decode cX5_takeInstruction 282 = .ok (.iadd, 1) := by decide +kernel
theorem dX5_takeInstruction_283 : decode cX5_takeInstruction 283 = .ok (.putfield 177, 3) := by decide +kernel
theorem dX5_takeInstruction_286 : decode cX5_takeInstruction 286 = .ok (.iinc 7 1, 3) := by decide +kernel
theorem dX5_takeInstruction_289 : decode cX5_takeInstruction 289 = .ok (.goto (-91), 3) := by decide +kernel
theorem dX5_takeInstruction_292 : decode cX5_takeInstruction 292 = .ok (.return_, 1) := by decide +kernel
set_option maxRecDepth 20000 in
theorem ggX5_decode_X5_fail : GoodIn wsX5_decode wsX5_fail := goodIn_r _ [13, 4, 5, 31, 32, 33, 34, 35, 36, 37, 38, 39, 40, 41, 42, 43, 44, 45, 46, 47, 48, 49, 50, 51, 52, 53, 54, 55] (by decide +kernel) (by decide +kernel)
set_option maxRecDepth 20000 in
theorem gX5_decode_X5_fail : GoodIn wsX5_decode (wsV RX5 167 RX5 yX5_fail wsX5_fail) := goodIn_app (goodIn_of _ (by decide +kernel)) ggX5_decode_X5_fail
set_option maxRecDepth 20000 in
theorem ggX5_decode_X5_takeInstruction : GoodIn wsX5_decode wsX5_takeInstruction := goodIn_r _ [17, 3, 4, 18, 2, 8, 7, 19, 20, 21, 22, 12, 23, 6, 9, 10, 11, 13, 5, 24, 25, 26, 27, 31, 32, 33, 34, 35, 36, 37, 38, 39, 40, 41, 42, 43, 44, 45, 46, 47, 48, 49, 50, 51, 52, 53, 54, 55] (by decide +kernel) (by decide +kernel)
set_option maxRecDepth 20000 in
theorem gX5_decode_X5_takeInstruction : GoodIn wsX5_decode (wsV RX5 180 RX5 yX5_takeInstruction wsX5_takeInstruction) := goodIn_app (goodIn_of _ (by decide +kernel)) ggX5_decode_X5_takeInstruction
set_option maxRecDepth 20000 in
theorem ggX5_decode_X5_checkOf : GoodIn wsX5_decode wsX5_checkOf := goodIn_r _ [30] (by decide +kernel) (by decide +kernel)
set_option maxRecDepth 20000 in
theorem gX5_decode_X5_checkOf : GoodIn wsX5_decode (va_wsS RX5 94 yX5_checkOf wsX5_checkOf) := goodIn_app (goodIn_of _ (by decide +kernel)) ggX5_decode_X5_checkOf
theorem dX5_decode_0 : decode cX5_decode 0 = .ok (.aload_n 0, 1) := by decide +kernel
theorem dX5_decode_1 : decode cX5_decode 1 = .ok (.iconst 0, 1) := by decide +kernel
theorem dX5_decode_2 : decode cX5_decode 2 = .ok (.putfield 56, 3) := by decide +kernel
theorem dX5_decode_5 : decode cX5_decode 5 = .ok (.aload_n 0, 1) := by decide +kernel
theorem dX5_decode_6 : decode cX5_decode 6 = .ok (.iconst 0, 1) := by decide +kernel
theorem dX5_decode_7 : decode cX5_decode 7 = .ok (.putfield 177, 3) := by decide +kernel
theorem dX5_decode_10 : decode cX5_decode 10 = .ok (.aload_n 0, 1) := by decide +kernel
theorem dX5_decode_11 : decode cX5_decode 11 = .ok (.iconst 0, 1) := by decide +kernel
theorem dX5_decode_12 : decode cX5_decode 12 = .ok (.putfield 164, 3) := by decide +kernel
theorem dX5_decode_15 : decode cX5_decode 15 = .ok (.aload_n 0, 1) := by decide +kernel
theorem dX5_decode_16 : decode cX5_decode 16 = .ok (.iconst 0, 1) := by decide +kernel
theorem dX5_decode_17 : decode cX5_decode 17 = .ok (.putfield 161, 3) := by decide +kernel
theorem dX5_decode_20 : decode cX5_decode 20 = .ok (.aload_n 0, 1) := by decide +kernel
theorem dX5_decode_21 : decode cX5_decode 21 = .ok (.iconst (-1), 1) := by decide +kernel
theorem dX5_decode_22 : decode cX5_decode 22 = .ok (.putfield 38, 3) := by decide +kernel
theorem dX5_decode_25 : decode cX5_decode 25 = .ok (.aload_n 0, 1) := by decide +kernel
theorem dX5_decode_26 : decode cX5_decode 26 = .ok (.getfield 149, 3) := by decide +kernel
theorem dX5_decode_29 : decode cX5_decode 29 = .ok (.iconst 2, 1) := by decide +kernel
theorem dX5_decode_30 : decode cX5_decode 30 = .ok (.if_icmp .ge 18, 3) := by decide +kernel
theorem dX5_decode_33 : decode cX5_decode 33 = .ok (.aload_n 0, 1) := by decide +kernel
theorem dX5_decode_34 : decode cX5_decode 34 = .ok (.iconst 1, 1) := by decide +kernel
theorem dX5_decode_35 : decode cX5_decode 35 = .ok (.aload_n 0, 1) := by decide +kernel
theorem dX5_decode_36 : decode cX5_decode 36 = .ok (.getfield 149, 3) := by decide +kernel
theorem dX5_decode_39 : decode cX5_decode 39 = .ok (.invokevirtual 167, 3) := by decide +kernel
theorem dX5_decode_42 : decode cX5_decode 42 = .ok (.pop, 1) := by decide +kernel
theorem dX5_decode_43 : decode cX5_decode 43 = .ok (.aload_n 0, 1) := by decide +kernel
theorem dX5_decode_44 : decode cX5_decode 44 = .ok (.getfield 161, 3) := by decide +kernel
theorem dX5_decode_47 : decode cX5_decode 47 = .ok (.ireturn, 1) := by decide +kernel
theorem dX5_decode_48 : decode cX5_decode 48 = .ok (.aload_n 0, 1) := by decide +kernel
theorem dX5_decode_49 : decode cX5_decode 49 = .ok (.getfield 161, 3) := by decide +kernel
theorem dX5_decode_52 : decode cX5_decode 52 = .ok (.ifCond .ne 23, 3) := by decide +kernel
theorem dX5_decode_55 : decode cX5_decode 55 = .ok (.aload_n 0, 1) := by decide +kernel
theorem dX5_decode_56 : decode cX5_decode 56 = .ok (.getfield 164, 3) := by decide +kernel
theorem dX5_decode_59 : decode cX5_decode 59 = .ok (.aload_n 0, 1) := by decide +kernel
theorem dX5_decode_60 : decode cX5_decode 60 = .ok (.getfield 149, 3) := by decide +kernel
theorem dX5_decode_63 : decode cX5_decode 63 = .ok (.iconst 2, 1) := by decide +kernel
theorem dX5_decode_64 : decode cX5_decode 64 = .ok (.isub, 1) := by decide +kernel
theorem dX5_decode_65 : decode cX5_decode 65 = .ok (.if_icmp .ge 10, 3) := by decide +kernel
theorem dX5_decode_68 : decode cX5_decode 68 = .ok (.aload_n 0, 1) := by decide +kernel
theorem dX5_decode_69 : decode cX5_decode 69 = .ok (.invokevirtual 180, 3) := by decide +kernel
theorem dX5_decode_72 : decode cX5_decode 72 = .ok (.goto (-24), 3) := by decide +kernel
theorem dX5_decode_75 : decode cX5_decode 75 = .ok (.aload_n 0, 1) := by decide +kernel
theorem dX5_decode_76 : decode cX5_decode 76 = .ok (.getfield 161, 3) := by decide +kernel
theorem dX5_decode_79 : decode cX5_decode 79 = .ok (.ifCond .le 8, 3) := by decide +kernel
theorem dX5_decode_82 : decode cX5_decode 82 = .ok (.aload_n 0, 1) := by decide +kernel
theorem dX5_decode_83 : decode cX5_decode 83 = .ok (.getfield 161, 3) := by decide +kernel
theorem dX5_decode_86 : decode cX5_decode 86 = .ok (.ireturn, 1) := by decide +kernel
theorem dX5_decode_87 : decode cX5_decode 87 = .ok (.aload_n 0, 1) := by decide +kernel
theorem dX5_decode_88 : decode cX5_decode 88 = .ok (.getfield 32, 3) := by decide +kernel
theorem dX5_decode_91 : decode cX5_decode 91 = .ok (.aload_n 0, 1) := by decide +kernel
theorem dX5_decode_92 : decode cX5_decode 92 = .ok (.getfield 149, 3) := by decide +kernel
theorem dX5_decode_95 : decode cX5_decode 95 = .ok (.iconst 2, 1) := by decide +kernel
theorem dX5_decode_96 : decode cX5_decode 96 = .ok (.isub, 1) := by decide +kernel
theorem dX5_decode_97 : decode cX5_decode 97 = .ok (.iaload, 1) := by decide +kernel
theorem dX5_decode_98 : decode cX5_decode 98 = .ok (.sipush 256, 3) := by decide +kernel
theorem dX5_decode_101 : decode cX5_decode 101 = .ok (.aload_n 0, 1) := by decide +kernel
theorem dX5_decode_102 : decode cX5_decode 102 = .ok (.getfield 32, 3) := by decide +kernel
theorem dX5_decode_105 : decode cX5_decode 105 = .ok (.aload_n 0, 1) := by decide +kernel
theorem dX5_decode_106 : decode cX5_decode 106 = .ok (.getfield 149, 3) := by decide +kernel
theorem dX5_decode_109 : decode cX5_decode 109 = .ok (.iconst 1, 1) := by decide +kernel
theorem dX5_decode_110 : decode cX5_decode 110 = .ok (.isub, 1) := by decide +kernel
theorem dX5_decode_111 : decode cX5_decode 111 = .ok (.iaload, 1) := by decide +kernel
theorem dX5_decode_112 : decode cX5_decode 112 = .ok (.imul, 1) := by decide +kernel
theorem dX5_decode_113 : decode cX5_decode 113 = .ok (.iadd, 1) := by decide +kernel
theorem dX5_decode_114 : decode cX5_decode 114 = .ok (.aload_n 0, 1) := by decide +kernel
theorem dX5_decode_115 : decode cX5_decode 115 = .ok (.getfield 35, 3) := by decide +kernel
theorem dX5_decode_118 : decode cX5_decode 118 = .ok (.iconst 0, 1) := by decide +kernel
theorem dX5_decode_119 : decode cX5_decode 119 = .ok (.aload_n 0, 1) := by decide +kernel
theorem dX5_decode_120 : decode cX5_decode 120 = .ok (.getfield 177, 3) := by decide +kernel
theorem dX5_decode_123 : decode cX5_decode 123 = .ok (.invokestatic 94, 3) := by decide +kernel
theorem dX5_decode_126 : decode cX5_decode 126 = .ok (.if_icmp .eq 15, 3) := by decide +kernel
theorem dX5_decode_129 : decode cX5_decode 129 = .ok (.aload_n 0, 1) := by decide +kernel
theorem dX5_decode_130 : decode cX5_decode 130 = .ok (.iconst 5, 1) := by decide +kernel
theorem dX5_decode_131 : decode cX5_decode 131 = .ok (.aload_n 0, 1) := by decide +kernel
theorem dX5_decode_132 : decode cX5_decode 132 = .ok (.getfield 149, 3) := by decide +kernel
theorem dX5_decode_135 : decode cX5_decode 135 = .ok (.iconst 2, 1) := by decide +kernel
theorem dX5_decode_136 : decode cX5_decode 136 = .ok (.isub, 1) := by decide +kernel
theorem dX5_decode_137 : decode cX5_decode 137 = .ok (.invokevirtual 167, 3) := by decide +kernel
theorem dX5_decode_140 : decode cX5_decode 140 = .ok (.pop, 1) := by decide +kernel
theorem dX5_decode_141 : decode cX5_decode 141 = .ok (.aload_n 0, 1) := by decide +kernel
theorem dX5_decode_142 : decode cX5_decode 142 = .ok (.getfield 161, 3) := by decide +kernel
theorem dX5_decode_145 : decode cX5_decode 145 = .ok (.ireturn, 1) := by decide +kernel
theorem dX5_errorPosition_0 : decode cX5_errorPosition 0 = .ok (.aload_n 0, 1) := by decide +kernel
theorem dX5_errorPosition_1 : decode cX5_errorPosition 1 = .ok (.iconst 0, 1) := by decide +kernel
theorem dX5_errorPosition_2 : decode cX5_errorPosition 2 = .ok (.putfield 56, 3) := by decide +kernel
theorem dX5_errorPosition_5 : decode cX5_errorPosition 5 = .ok (.aload_n 0, 1) := by decide +kernel
theorem dX5_errorPosition_6 : decode cX5_errorPosition 6 = .ok (.getfield 38, 3) := by decide +kernel
theorem dX5_errorPosition_9 : decode cX5_errorPosition 9 = .ok (.ireturn, 1) := by decide +kernel
theorem dX5_outputSize_0 : decode cX5_outputSize 0 = .ok (.aload_n 0, 1) := by decide +kernel
theorem dX5_outputSize_1 : decode cX5_outputSize 1 = .ok (.iconst 0, 1) := by decide +kernel
theorem dX5_outputSize_2 : decode cX5_outputSize 2 = .ok (.putfield 56, 3) := by decide +kernel
theorem dX5_outputSize_5 : decode cX5_outputSize 5 = .ok (.aload_n 0, 1) := by decide +kernel
theorem dX5_outputSize_6 : decode cX5_outputSize 6 = .ok (.getfield 177, 3) := by decide +kernel
theorem dX5_outputSize_9 : decode cX5_outputSize 9 = .ok (.ireturn, 1) := by decide +kernel
set_option maxRecDepth 20000 in
theorem ggX5_output_X5_no : GoodIn wsX5_output wsX5_no := goodIn_r _ [8, 1, 9, 10, 11, 12, 13, 14, 15, 16, 17, 18, 19, 20, 21, 22, 23, 24, 25, 26, 27, 28, 29, 30, 31, 32, 33] (by decide +kernel) (by decide +kernel)
set_option maxRecDepth 20000 in
theorem gX5_output_X5_no : GoodIn wsX5_output (wsV RX5 73 RX5 yX5_no wsX5_no) := goodIn_app (goodIn_of _ (by decide +kernel)) ggX5_output_X5_no
theorem dX5_output_0 : decode cX5_output 0 = .ok (.aload_n 0, 1) := by decide +kernel
theorem dX5_output_1 : decode cX5_output 1 = .ok (.iconst 0, 1) := by decide +kernel
theorem dX5_output_2 : decode cX5_output 2 = .ok (.putfield 56, 3) := by decide +kernel
theorem dX5_output_5 : decode cX5_output 5 = .ok (.iload_n 1, 1) := by decide +kernel
theorem dX5_output_6 : decode cX5_output 6 = .ok (.ifCond .lt 20, 3) := by decide +kernel
theorem dX5_output_9 : decode cX5_output 9 = .ok (.iload_n 1, 1) := by decide +kernel
theorem dX5_output_10 : decode cX5_output 10 = .ok (.aload_n 0, 1) := by decide +kernel
theorem dX5_output_11 : decode cX5_output 11 = .ok (.getfield 177, 3) := by decide +kernel
theorem dX5_output_14 : decode cX5_output 14 = .ok (.if_icmp .ge 12, 3) := by decide +kernel
theorem dX5_output_17 : decode cX5_output 17 = .ok (.aload_n 0, 1) := by decide +kernel
theorem dX5_output_18 : decode cX5_output 18 = .ok (.getfield 35, 3) := by decide +kernel
theorem dX5_output_21 : decode cX5_output 21 = .ok (.iload_n 1, 1) := by decide +kernel
theorem dX5_output_22 : decode cX5_output 22 = .ok (.iaload, 1) := by decide +kernel
theorem dX5_output_23 : decode cX5_output 23 = .ok (.goto 8, 3) := by decide +kernel
theorem dX5_output_26 : decode cX5_output 26 = .ok (.aload_n 0, 1) := by decide +kernel
theorem dX5_output_27 : decode cX5_output 27 = .ok (.iconst 1, 1) := by decide +kernel
theorem dX5_output_28 : decode cX5_output 28 = .ok (.invokevirtual 73, 3) := by decide +kernel
theorem dX5_output_31 : decode cX5_output 31 = .ok (.ireturn, 1) := by decide +kernel
theorem dX5_differences_0 : decode cX5_differences 0 = .ok (.aload_n 0, 1) := by decide +kernel
theorem dX5_differences_1 : decode cX5_differences 1 = .ok (.iconst 0, 1) := by decide +kernel
theorem dX5_differences_2 : decode cX5_differences 2 = .ok (.putfield 56, 3) := by decide +kernel
theorem dX5_differences_5 : decode cX5_differences 5 = .ok (.aload_n 0, 1) := by decide +kernel
theorem dX5_differences_6 : decode cX5_differences 6 = .ok (.getfield 62, 3) := by decide +kernel
theorem dX5_differences_9 : decode cX5_differences 9 = .ok (.aload_n 0, 1) := by decide +kernel
theorem dX5_differences_10 : decode cX5_differences 10 = .ok (.getfield 177, 3) := by decide +kernel
theorem dX5_differences_13 : decode cX5_differences 13 = .ok (.isub, 1) := by decide +kernel
theorem dX5_differences_14 : decode cX5_differences 14 = .ok (.invokestatic 183, 3) := by decide +kernel
theorem dX5_differences_17 : decode cX5_differences 17 = .ok (.istore_n 1, 1) := by decide +kernel
theorem dX5_differences_18 : decode cX5_differences 18 = .ok (.iconst 0, 1) := by decide +kernel
theorem dX5_differences_19 : decode cX5_differences 19 = .ok (.istore_n 2, 1) := by decide +kernel
theorem dX5_differences_20 : decode cX5_differences 20 = .ok (.iload_n 2, 1) := by decide +kernel
theorem dX5_differences_21 : decode cX5_differences 21 = .ok (.aload_n 0, 1) := by decide +kernel
theorem dX5_differences_22 : decode cX5_differences 22 = .ok (.getfield 62, 3) := by decide +kernel
theorem dX5_differences_25 : decode cX5_differences 25 = .ok (.if_icmp .ge 40, 3) := by decide +kernel
theorem dX5_differences_28 : decode cX5_differences 28 = .ok (.iload_n 2, 1) := by decide +kernel
theorem dX5_differences_29 : decode cX5_differences 29 = .ok (.aload_n 0, 1) := by decide +kernel
theorem dX5_differences_30 : decode cX5_differences 30 = .ok (.getfield 177, 3) := by decide +kernel
theorem dX5_differences_33 : decode cX5_differences 33 = .ok (.if_icmp .ge 32, 3) := by decide +kernel
theorem dX5_differences_36 : decode cX5_differences 36 = .ok (.iload_n 1, 1) := by decide +kernel
theorem dX5_differences_37 : decode cX5_differences 37 = .ok (.aload_n 0, 1) := by decide +kernel
theorem dX5_differences_38 : decode cX5_differences 38 = .ok (.getfield 13, 3) := by decide +kernel
theorem dX5_differences_41 : decode cX5_differences 41 = .ok (.iload_n 2, 1) := by decide +kernel
theorem dX5_differences_42 : decode cX5_differences 42 = .ok (.iaload, 1) := by decide +kernel
theorem dX5_differences_43 : decode cX5_differences 43 = .ok (.aload_n 0, 1) := by decide +kernel
theorem dX5_differences_44 : decode cX5_differences 44 = .ok (.getfield 35, 3) := by decide +kernel
theorem dX5_differences_47 : decode cX5_differences 47 = .ok (.iload_n 2, 1) := by decide +kernel
theorem dX5_differences_48 : decode cX5_differences 48 = .ok (.iaload, 1) := by decide +kernel
theorem dX5_differences_49 : decode cX5_differences 49 = .ok (.if_icmp .ne 7, 3) := by decide +kernel
theorem dX5_differences_52 : decode cX5_differences 52 = .ok (.iconst 0, 1) := by decide +kernel
theorem dX5_differences_53 : decode cX5_differences 53 = .ok (.goto 4, 3) := by decide +kernel
theorem dX5_differences_56 : decode cX5_differences 56 = .ok (.iconst 1, 1) := by decide +kernel
theorem dX5_differences_57 : decode cX5_differences 57 = .ok (.iadd, 1) := by decide +kernel
theorem dX5_differences_58 : decode cX5_differences 58 = .ok (.istore_n 1, 1) := by decide +kernel
theorem dX5_differences_59 : decode cX5_differences 59 = .ok (.iinc 2 1, 3) := by decide +kernel
theorem dX5_differences_62 : decode cX5_differences 62 = .ok (.goto (-42), 3) := by decide +kernel
theorem dX5_differences_65 : decode cX5_differences 65 = .ok (.iload_n 1, 1) := by decide +kernel
theorem dX5_differences_66 : decode cX5_differences 66 = .ok (.ireturn, 1) := by decide +kernel
set_option maxRecDepth 20000 in
theorem ggX5_digest_X5_sizeOf : GoodIn wsX5_digest wsX5_sizeOf := goodIn_r _ [17, 18, 19, 26, 27, 28, 29, 30, 31, 32, 33, 34, 35, 36, 37, 38, 39, 40, 41, 42, 43, 44, 45, 46, 47, 48, 49, 50] (by decide +kernel) (by decide +kernel)
set_option maxRecDepth 20000 in
theorem gX5_digest_X5_sizeOf : GoodIn wsX5_digest (wsV RX5 81 RX5 yX5_sizeOf wsX5_sizeOf) := goodIn_app (goodIn_of _ (by decide +kernel)) ggX5_digest_X5_sizeOf
set_option maxRecDepth 20000 in
theorem ggX5_digest_X5_stringOf : GoodIn wsX5_digest wsX5_stringOf := goodIn_r _ [23, 24, 25, 26, 27, 28, 29, 30, 31, 32, 33, 34, 35, 36, 37, 38, 39, 40, 41, 42, 43, 44, 45, 46, 47, 48, 49, 50] (by decide +kernel) (by decide +kernel)
set_option maxRecDepth 20000 in
theorem gX5_digest_X5_stringOf : GoodIn wsX5_digest (wsV RX5 84 RX5 yX5_stringOf wsX5_stringOf) := goodIn_app (goodIn_of _ (by decide +kernel)) ggX5_digest_X5_stringOf
theorem dX5_digest_0 : decode cX5_digest 0 = .ok (.aload_n 0, 1) := by decide +kernel
theorem dX5_digest_1 : decode cX5_digest 1 = .ok (.iconst 0, 1) := by decide +kernel
theorem dX5_digest_2 : decode cX5_digest 2 = .ok (.putfield 56, 3) := by decide +kernel
theorem dX5_digest_5 : decode cX5_digest 5 = .ok (.ldc2_w 186, 3) := by decide +kernel
theorem dX5_digest_8 : decode cX5_digest 8 = .ok (.lstore_n 1, 1) := by decide +kernel
theorem dX5_digest_9 : decode cX5_digest 9 = .ok (.iconst 0, 1) := by decide +kernel
theorem dX5_digest_10 : decode cX5_digest 10 = .ok (.istore_n 3, 1) := by decide +kernel
theorem dX5_digest_11 : decode cX5_digest 11 = .ok (.iload_n 3, 1) := by decide +kernel
theorem dX5_digest_12 : decode cX5_digest 12 = .ok (.iconst 2, 1) := by decide +kernel
theorem dX5_digest_13 : decode cX5_digest 13 = .ok (.if_icmp .ge 57, 3) := by decide +kernel
theorem dX5_digest_16 : decode cX5_digest 16 = .ok (.lload_n 1, 1) := by decide +kernel
theorem dX5_digest_17 : decode cX5_digest 17 = .ok (.ldc2_w 188, 3) := by decide +kernel
theorem dX5_digest_20 : decode cX5_digest 20 = .ok (.lmul, 1) := by decide +kernel
theorem dX5_digest_21 : decode cX5_digest 21 = .ok (.aload_n 0, 1) := by decide +kernel
theorem dX5_digest_22 : decode cX5_digest 22 = .ok (.iload_n 3, 1) := by decide +kernel
theorem dX5_digest_23 : decode cX5_digest 23 = .ok (.invokevirtual 81, 3) := by decide +kernel
theorem dX5_digest_26 : decode cX5_digest 26 = .ok (.i2l, 1) := by decide +kernel
theorem dX5_digest_27 : decode cX5_digest 27 = .ok (.ladd, 1) := by decide +kernel
theorem dX5_digest_28 : decode cX5_digest 28 = .ok (.lstore_n 1, 1) := by decide +kernel
theorem dX5_digest_29 : decode cX5_digest 29 = .ok (.iconst 0, 1) := by decide +kernel
theorem dX5_digest_30 : decode cX5_digest 30 = .ok (.istore 4, 2) := by decide +kernel
theorem dX5_digest_32 : decode cX5_digest 32 = .ok (.iload 4, 2) := by decide +kernel
theorem dX5_digest_34 : decode cX5_digest 34 = .ok (.aload_n 0, 1) := by decide +kernel
theorem dX5_digest_35 : decode cX5_digest 35 = .ok (.iload_n 3, 1) := by decide +kernel
theorem dX5_digest_36 : decode cX5_digest 36 = .ok (.invokevirtual 81, 3) := by decide +kernel
theorem dX5_digest_39 : decode cX5_digest 39 = .ok (.if_icmp .ge 25, 3) := by decide +kernel
theorem dX5_digest_42 : decode cX5_digest 42 = .ok (.lload_n 1, 1) := by decide +kernel
theorem dX5_digest_43 : decode cX5_digest 43 = .ok (.ldc2_w 188, 3) := by decide +kernel
theorem dX5_digest_46 : decode cX5_digest 46 = .ok (.lmul, 1) := by decide +kernel
theorem dX5_digest_47 : decode cX5_digest 47 = .ok (.aload_n 0, 1) := by decide +kernel
theorem dX5_digest_48 : decode cX5_digest 48 = .ok (.iload_n 3, 1) := by decide +kernel
theorem dX5_digest_49 : decode cX5_digest 49 = .ok (.invokevirtual 84, 3) := by decide +kernel
theorem dX5_digest_52 : decode cX5_digest 52 = .ok (.iload 4, 2) := by decide +kernel
theorem dX5_digest_54 : decode cX5_digest 54 = .ok (.iaload, 1) := by decide +kernel
theorem dX5_digest_55 : decode cX5_digest 55 = .ok (.i2l, 1) := by decide +kernel
theorem dX5_digest_56 : decode cX5_digest 56 = .ok (.ladd, 1) := by decide +kernel
theorem dX5_digest_57 : decode cX5_digest 57 = .ok (.lstore_n 1, 1) := by decide +kernel
theorem dX5_digest_58 : decode cX5_digest 58 = .ok (.iinc 4 1, 3) := by decide +kernel
theorem dX5_digest_61 : decode cX5_digest 61 = .ok (.goto (-29), 3) := by decide +kernel
theorem dX5_digest_64 : decode cX5_digest 64 = .ok (.iinc 3 1, 3) := by decide +kernel
theorem dX5_digest_67 : decode cX5_digest 67 = .ok (.goto (-56), 3) := by decide +kernel
theorem dX5_digest_70 : decode cX5_digest 70 = .ok (.lload_n 1, 1) := by decide +kernel
theorem dX5_digest_71 : decode cX5_digest 71 = .ok (.ldc2_w 188, 3) := by decide +kernel
theorem dX5_digest_74 : decode cX5_digest 74 = .ok (.lmul, 1) := by decide +kernel
theorem dX5_digest_75 : decode cX5_digest 75 = .ok (.aload_n 0, 1) := by decide +kernel
theorem dX5_digest_76 : decode cX5_digest 76 = .ok (.getfield 16, 3) := by decide +kernel
theorem dX5_digest_79 : decode cX5_digest 79 = .ok (.i2l, 1) := by decide +kernel
theorem dX5_digest_80 : decode cX5_digest 80 = .ok (.ladd, 1) := by decide +kernel
theorem dX5_digest_81 : decode cX5_digest 81 = .ok (.lstore_n 1, 1) := by decide +kernel
theorem dX5_digest_82 : decode cX5_digest 82 = .ok (.aload_n 0, 1) := by decide +kernel
theorem dX5_digest_83 : decode cX5_digest 83 = .ok (.getfield 65, 3) := by decide +kernel
theorem dX5_digest_86 : decode cX5_digest 86 = .ok (.ifCond .eq 69, 3) := by decide +kernel
theorem dX5_digest_89 : decode cX5_digest 89 = .ok (.lload_n 1, 1) := by decide +kernel
theorem dX5_digest_90 : decode cX5_digest 90 = .ok (.ldc2_w 188, 3) := by decide +kernel
theorem dX5_digest_93 : decode cX5_digest 93 = .ok (.lmul, 1) := by decide +kernel
theorem dX5_digest_94 : decode cX5_digest 94 = .ok (.aload_n 0, 1) := by decide +kernel
theorem dX5_digest_95 : decode cX5_digest 95 = .ok (.getfield 135, 3) := by decide +kernel
theorem dX5_digest_98 : decode cX5_digest 98 = .ok (.i2l, 1) := by decide +kernel
theorem dX5_digest_99 : decode cX5_digest 99 = .ok (.ladd, 1) := by decide +kernel
theorem dX5_digest_100 : decode cX5_digest 100 = .ok (.lstore_n 1, 1) := by decide +kernel
theorem dX5_digest_101 : decode cX5_digest 101 = .ok (.iconst 0, 1) := by decide +kernel
theorem dX5_digest_102 : decode cX5_digest 102 = .ok (.istore_n 3, 1) := by decide +kernel
theorem dX5_digest_103 : decode cX5_digest 103 = .ok (.iload_n 3, 1) := by decide +kernel
theorem dX5_digest_104 : decode cX5_digest 104 = .ok (.aload_n 0, 1) := by decide +kernel
theorem dX5_digest_105 : decode cX5_digest 105 = .ok (.getfield 135, 3) := by decide +kernel
theorem dX5_digest_108 : decode cX5_digest 108 = .ok (.if_icmp .ge 47, 3) := by decide +kernel
theorem dX5_digest_111 : decode cX5_digest 111 = .ok (.lload_n 1, 1) := by decide +kernel
theorem dX5_digest_112 : decode cX5_digest 112 = .ok (.ldc2_w 188, 3) := by decide +kernel
theorem dX5_digest_115 : decode cX5_digest 115 = .ok (.lmul, 1) := by decide +kernel
theorem dX5_digest_116 : decode cX5_digest 116 = .ok (.aload_n 0, 1) := by decide +kernel
theorem dX5_digest_117 : decode cX5_digest 117 = .ok (.getfield 20, 3) := by decide +kernel
theorem dX5_digest_120 : decode cX5_digest 120 = .ok (.iload_n 3, 1) := by decide +kernel
theorem dX5_digest_121 : decode cX5_digest 121 = .ok (.iaload, 1) := by decide +kernel
theorem dX5_digest_122 : decode cX5_digest 122 = .ok (.i2l, 1) := by decide +kernel
theorem dX5_digest_123 : decode cX5_digest 123 = .ok (.ladd, 1) := by decide +kernel
theorem dX5_digest_124 : decode cX5_digest 124 = .ok (.ldc2_w 188, 3) := by decide +kernel
theorem dX5_digest_127 : decode cX5_digest 127 = .ok (.lmul, 1) := by decide +kernel
theorem dX5_digest_128 : decode cX5_digest 128 = .ok (.aload_n 0, 1) := by decide +kernel
theorem dX5_digest_129 : decode cX5_digest 129 = .ok (.getfield 23, 3) := by decide +kernel
theorem dX5_digest_132 : decode cX5_digest 132 = .ok (.iload_n 3, 1) := by decide +kernel
theorem dX5_digest_133 : decode cX5_digest 133 = .ok (.iaload, 1) := by decide +kernel
theorem dX5_digest_134 : decode cX5_digest 134 = .ok (.i2l, 1) := by decide +kernel
theorem dX5_digest_135 : decode cX5_digest 135 = .ok (.ladd, 1) := by decide +kernel
theorem dX5_digest_136 : decode cX5_digest 136 = .ok (.ldc2_w 188, 3) := by decide +kernel
theorem dX5_digest_139 : decode cX5_digest 139 = .ok (.lmul, 1) := by decide +kernel
theorem dX5_digest_140 : decode cX5_digest 140 = .ok (.aload_n 0, 1) := by decide +kernel
theorem dX5_digest_141 : decode cX5_digest 141 = .ok (.getfield 26, 3) := by decide +kernel
theorem dX5_digest_144 : decode cX5_digest 144 = .ok (.iload_n 3, 1) := by decide +kernel
theorem dX5_digest_145 : decode cX5_digest 145 = .ok (.iaload, 1) := by decide +kernel
theorem dX5_digest_146 : decode cX5_digest 146 = .ok (.i2l, 1) := by decide +kernel
theorem dX5_digest_147 : decode cX5_digest 147 = .ok (.ladd, 1) := by decide +kernel
theorem dX5_digest_148 : decode cX5_digest 148 = .ok (.lstore_n 1, 1) := by decide +kernel
theorem dX5_digest_149 : decode cX5_digest 149 = .ok (.iinc 3 1, 3) := by decide +kernel
theorem dX5_digest_152 : decode cX5_digest 152 = .ok (.goto (-49), 3) := by decide +kernel
theorem dX5_digest_155 : decode cX5_digest 155 = .ok (.lload_n 1, 1) := by decide +kernel
theorem dX5_digest_156 : decode cX5_digest 156 = .ok (.ldc2_w 188, 3) := by decide +kernel
theorem dX5_digest_159 : decode cX5_digest 159 = .ok (.lmul, 1) := by decide +kernel
theorem dX5_digest_160 : decode cX5_digest 160 = .ok (.aload_n 0, 1) := by decide +kernel
theorem dX5_digest_161 : decode cX5_digest 161 = .ok (.getfield 149, 3) := by decide +kernel
theorem dX5_digest_164 : decode cX5_digest 164 = .ok (.i2l, 1) := by decide +kernel
theorem dX5_digest_165 : decode cX5_digest 165 = .ok (.ladd, 1) := by decide +kernel
theorem dX5_digest_166 : decode cX5_digest 166 = .ok (.lstore_n 1, 1) := by decide +kernel
theorem dX5_digest_167 : decode cX5_digest 167 = .ok (.iconst 0, 1) := by decide +kernel
theorem dX5_digest_168 : decode cX5_digest 168 = .ok (.istore_n 3, 1) := by decide +kernel
theorem dX5_digest_169 : decode cX5_digest 169 = .ok (.iload_n 3, 1) := by decide +kernel
theorem dX5_digest_170 : decode cX5_digest 170 = .ok (.aload_n 0, 1) := by decide +kernel
theorem dX5_digest_171 : decode cX5_digest 171 = .ok (.getfield 149, 3) := by decide +kernel
theorem dX5_digest_174 : decode cX5_digest 174 = .ok (.if_icmp .ge 23, 3) := by decide +kernel
theorem dX5_digest_177 : decode cX5_digest 177 = .ok (.lload_n 1, 1) := by decide +kernel
theorem dX5_digest_178 : decode cX5_digest 178 = .ok (.ldc2_w 188, 3) := by decide +kernel
theorem dX5_digest_181 : decode cX5_digest 181 = .ok (.lmul, 1) := by decide +kernel
theorem dX5_digest_182 : decode cX5_digest 182 = .ok (.aload_n 0, 1) := by decide +kernel
theorem dX5_digest_183 : decode cX5_digest 183 = .ok (.getfield 32, 3) := by decide +kernel
theorem dX5_digest_186 : decode cX5_digest 186 = .ok (.iload_n 3, 1) := by decide +kernel
theorem dX5_digest_187 : decode cX5_digest 187 = .ok (.iaload, 1) := by decide +kernel
theorem dX5_digest_188 : decode cX5_digest 188 = .ok (.i2l, 1) := by decide +kernel
theorem dX5_digest_189 : decode cX5_digest 189 = .ok (.ladd, 1) := by decide +kernel
theorem dX5_digest_190 : decode cX5_digest 190 = .ok (.lstore_n 1, 1) := by decide +kernel
theorem dX5_digest_191 : decode cX5_digest 191 = .ok (.iinc 3 1, 3) := by decide +kernel
theorem dX5_digest_194 : decode cX5_digest 194 = .ok (.goto (-25), 3) := by decide +kernel
theorem dX5_digest_197 : decode cX5_digest 197 = .ok (.lload_n 1, 1) := by decide +kernel
theorem dX5_digest_198 : decode cX5_digest 198 = .ok (.ldc2_w 188, 3) := by decide +kernel
theorem dX5_digest_201 : decode cX5_digest 201 = .ok (.lmul, 1) := by decide +kernel
theorem dX5_digest_202 : decode cX5_digest 202 = .ok (.aload_n 0, 1) := by decide +kernel
theorem dX5_digest_203 : decode cX5_digest 203 = .ok (.getfield 177, 3) := by decide +kernel
theorem dX5_digest_206 : decode cX5_digest 206 = .ok (.i2l, 1) := by decide +kernel
theorem dX5_digest_207 : decode cX5_digest 207 = .ok (.ladd, 1) := by decide +kernel
theorem dX5_digest_208 : decode cX5_digest 208 = .ok (.lreturn, 1) := by decide +kernel
