theorem dX2_init_0 : decode cX2_init 0 = .ok (.aload_n 0, 1) := by decide +kernel
theorem dX2_init_1 : decode cX2_init 1 = .ok (.invokespecial 3, 3) := by decide +kernel
theorem dX2_init_4 : decode cX2_init 4 = .ok (.aload_n 0, 1) := by decide +kernel
theorem dX2_init_5 : decode cX2_init 5 = .ok (.sipush 500, 3) := by decide +kernel
theorem dX2_init_8 : decode cX2_init 8 = .ok (.newarray .byte, 2) := by decide +kernel
theorem dX2_init_10 : decode cX2_init 10 = .ok (.putfield 9, 3) := by decide +kernel
theorem dX2_init_13 : decode cX2_init 13 = .ok (.aload_n 0, 1) := by decide +kernel
theorem dX2_init_14 : decode cX2_init 14 = .ok (.iconst 3, 1) := by decide +kernel
theorem dX2_init_15 : decode cX2_init 15 = .ok (.newarray .int, 2) := by decide +kernel
theorem dX2_init_17 : decode cX2_init 17 = .ok (.putfield 15, 3) := by decide +kernel
theorem dX2_init_20 : decode cX2_init 20 = .ok (.return_, 1) := by decide +kernel
theorem dX2_append_0 : decode cX2_append 0 = .ok (.iload_n 1, 1) := by decide +kernel
theorem dX2_append_1 : decode cX2_append 1 = .ok (.iconst 1, 1) := by decide +kernel
theorem dX2_append_2 : decode cX2_append 2 = .ok (.isub, 1) := by decide +kernel
theorem dX2_append_3 : decode cX2_append 3 = .ok (.istore 4, 2) := by decide +kernel
theorem dX2_append_5 : decode cX2_append 5 = .ok (.iload 4, 2) := by decide +kernel
theorem dX2_append_7 : decode cX2_append 7 = .ok (.ifCond .lt 47, 3) := by decide +kernel
theorem dX2_append_10 : decode cX2_append 10 = .ok (.aload_n 0, 1) := by decide +kernel
theorem dX2_append_11 : decode cX2_append 11 = .ok (.getfield 19, 3) := by decide +kernel
theorem dX2_append_14 : decode cX2_append 14 = .ok (.sipush 500, 3) := by decide +kernel
theorem dX2_append_17 : decode cX2_append 17 = .ok (.if_icmp .ge 37, 3) := by decide +kernel
theorem dX2_append_20 : decode cX2_append 20 = .ok (.aload_n 0, 1) := by decide +kernel
theorem dX2_append_21 : decode cX2_append 21 = .ok (.getfield 9, 3) := by decide +kernel
theorem dX2_append_24 : decode cX2_append 24 = .ok (.aload_n 0, 1) := by decide +kernel
theorem dX2_append_25 : decode cX2_append 25 = .ok (.getfield 19, 3) := by decide +kernel
theorem dX2_append_28 : decode cX2_append 28 = .ok (.lload_n 2, 1) := by decide +kernel
theorem dX2_append_29 : decode cX2_append 29 = .ok (.bipush 8, 2) := by decide +kernel
theorem dX2_append_31 : decode cX2_append 31 = .ok (.iload 4, 2) := by decide +kernel
theorem dX2_append_33 : decode cX2_append 33 = .ok (.imul, 1) := by decide +kernel
theorem dX2_append_34 : decode cX2_append 34 = .ok (.lshr, 1) := by decide +kernel
theorem dX2_append_35 : decode cX2_append 35 = .ok (.l2i, 1) := by decide +kernel
theorem dX2_append_36 : decode cX2_append 36 = .ok (.i2b, 1) := by decide +kernel
theorem dX2_append_37 : decode cX2_append 37 = .ok (.bastore, 1) := by decide +kernel
theorem dX2_append_38 : decode cX2_append 38 = .ok (.aload_n 0, 1) := by decide +kernel
theorem dX2_append_39 : decode cX2_append 39 = .ok (.dup, 1) := by decide +kernel
theorem dX2_append_40 : decode cX2_append 40 = .ok (.getfield 19, 3) := by decide +kernel
theorem dX2_append_43 : decode cX2_append 43 = .ok (.iconst 1, 1) := by decide +kernel
theorem dX2_append_44 : decode cX2_append 44 = .ok (.iadd, 1) := by decide +kernel
theorem dX2_append_45 : decode cX2_append 45 = .ok (.putfield 19, 3) := by decide +kernel
theorem dX2_append_48 : decode cX2_append 48 = .ok (.iinc 4 (-1), 3) := by decide +kernel
theorem dX2_append_51 : decode cX2_append 51 = .ok (.goto (-46), 3) := by decide +kernel
theorem dX2_append_54 : decode cX2_append 54 = .ok (.return_, 1) := by decide +kernel
set_option maxRecDepth 20000 in
theorem ggX2_tellTo_X3_clear : GoodIn wsX2_tellTo wsX3_clear := goodIn_r _ [7, 8, 9, 10, 11, 12, 13, 14, 15, 16, 17, 109, 110, 111, 112, 113, 114, 115, 116, 117, 118, 119, 120] (by decide +kernel) (by decide +kernel)
set_option maxRecDepth 20000 in
theorem gX2_tellTo_X3_clear : GoodIn wsX2_tellTo (wsV RX2 23 RX3 yX3_clear wsX3_clear) := goodIn_app (goodIn_of _ (by decide +kernel)) ggX2_tellTo_X3_clear
set_option maxRecDepth 20000 in
theorem ggX2_tellTo_X2_split : GoodIn wsX2_tellTo wsX2_split := goodIn_r _ [22, 2, 23, 24, 25, 21, 26, 1, 27, 28, 29, 30, 31, 32, 33, 34, 35, 36, 37, 38, 39, 40, 41, 106, 107, 108] (by decide +kernel) (by decide +kernel)
set_option maxRecDepth 20000 in
theorem gX2_tellTo_X2_split : GoodIn wsX2_tellTo (wsV RX2 28 RX2 yX2_split wsX2_split) := goodIn_app (goodIn_of _ (by decide +kernel)) ggX2_tellTo_X2_split
set_option maxRecDepth 20000 in
theorem ggX2_tellTo_X2_byteAt : GoodIn wsX2_tellTo wsX2_byteAt := goodIn_r _ [26, 1, 27, 106, 107, 108] (by decide +kernel) (by decide +kernel)
set_option maxRecDepth 20000 in
theorem gX2_tellTo_X2_byteAt : GoodIn wsX2_tellTo (wsV RX2 32 RX2 yX2_byteAt wsX2_byteAt) := goodIn_app (goodIn_of _ (by decide +kernel)) ggX2_tellTo_X2_byteAt
set_option maxRecDepth 20000 in
theorem ggX2_tellTo_X3_accept : GoodIn wsX2_tellTo wsX3_accept := goodIn_r _ [45, 46, 47, 48, 6, 49, 8, 50, 51, 52, 53, 54, 55, 56, 57, 58, 59, 9, 60, 61, 62, 63, 64, 65, 66, 67, 68, 69, 70, 71, 72, 73, 74, 75, 76, 77, 78, 79, 80, 81, 12, 82, 83, 84, 85, 13, 86, 87, 88, 89, 10, 90, 91, 92, 93, 94, 95, 96, 97, 98, 99, 100, 101, 102, 103, 104, 105, 11, 109, 110, 111, 112, 113, 114, 115, 116, 117, 118, 119, 120] (by decide +kernel) (by decide +kernel)
set_option maxRecDepth 20000 in
theorem gX2_tellTo_X3_accept : GoodIn wsX2_tellTo (wsV RX2 35 RX3 yX3_accept wsX3_accept) := goodIn_app (goodIn_of _ (by decide +kernel)) ggX2_tellTo_X3_accept
theorem dX2_tellTo_0 : decode cX2_tellTo 0 = .ok (.aload_n 1, 1) := by decide +kernel
theorem dX2_tellTo_1 : decode cX2_tellTo 1 = .ok (.invokevirtual 23, 3) := by decide +kernel
theorem dX2_tellTo_4 : decode cX2_tellTo 4 = .ok (.iconst 0, 1) := by decide +kernel
theorem dX2_tellTo_5 : decode cX2_tellTo 5 = .ok (.istore_n 2, 1) := by decide +kernel
theorem dX2_tellTo_6 : decode cX2_tellTo 6 = .ok (.iconst 0, 1) := by decide +kernel
theorem dX2_tellTo_7 : decode cX2_tellTo 7 = .ok (.istore_n 3, 1) := by decide +kernel
theorem dX2_tellTo_8 : decode cX2_tellTo 8 = .ok (.iload_n 3, 1) := by decide +kernel
theorem dX2_tellTo_9 : decode cX2_tellTo 9 = .ok (.sipush 500, 3) := by decide +kernel
theorem dX2_tellTo_12 : decode cX2_tellTo 12 = .ok (.if_icmp .ge 64, 3) := by decide +kernel
theorem dX2_tellTo_15 : decode cX2_tellTo 15 = .ok (.iload_n 2, 1) := by decide +kernel
theorem dX2_tellTo_16 : decode cX2_tellTo 16 = .ok (.aload_n 0, 1) := by decide +kernel
theorem dX2_tellTo_17 : decode cX2_tellTo 17 = .ok (.getfield 19, 3) := by decide +kernel
theorem dX2_tellTo_20 : decode cX2_tellTo 20 = .ok (.if_icmp .ge 56, 3) := by decide +kernel
theorem dX2_tellTo_23 : decode cX2_tellTo 23 = .ok (.aload_n 0, 1) := by decide +kernel
theorem dX2_tellTo_24 : decode cX2_tellTo 24 = .ok (.iload_n 2, 1) := by decide +kernel
theorem dX2_tellTo_25 : decode cX2_tellTo 25 = .ok (.invokevirtual 28, 3) := by decide +kernel
theorem dX2_tellTo_28 : decode cX2_tellTo 28 = .ok (.istore 4, 2) := by decide +kernel
theorem dX2_tellTo_30 : decode cX2_tellTo 30 = .ok (.iload 4, 2) := by decide +kernel
theorem dX2_tellTo_32 : decode cX2_tellTo 32 = .ok (.ifCond .lt 33, 3) := by decide +kernel
theorem dX2_tellTo_35 : decode cX2_tellTo 35 = .ok (.aload_n 1, 1) := by decide +kernel
theorem dX2_tellTo_36 : decode cX2_tellTo 36 = .ok (.aload_n 0, 1) := by decide +kernel
theorem dX2_tellTo_37 : decode cX2_tellTo 37 = .ok (.iload_n 2, 1) := by decide +kernel
theorem dX2_tellTo_38 : decode cX2_tellTo 38 = .ok (.invokevirtual 32, 3) := by decide +kernel
theorem dX2_tellTo_41 : decode cX2_tellTo 41 = .ok (.aload_n 0, 1) := by decide +kernel
theorem dX2_tellTo_42 : decode cX2_tellTo 42 = .ok (.getfield 15, 3) := by decide +kernel
theorem dX2_tellTo_45 : decode cX2_tellTo 45 = .ok (.iconst 0, 1) := by decide +kernel
theorem dX2_tellTo_46 : decode cX2_tellTo 46 = .ok (.iaload, 1) := by decide +kernel
theorem dX2_tellTo_47 : decode cX2_tellTo 47 = .ok (.aload_n 0, 1) := by decide +kernel
theorem dX2_tellTo_48 : decode cX2_tellTo 48 = .ok (.getfield 15, 3) := by decide +kernel
theorem dX2_tellTo_51 : decode cX2_tellTo 51 = .ok (.iconst 1, 1) := by decide +kernel
theorem dX2_tellTo_52 : decode cX2_tellTo 52 = .ok (.iaload, 1) := by decide +kernel
theorem dX2_tellTo_53 : decode cX2_tellTo 53 = .ok (.aload_n 0, 1) := by decide +kernel
theorem dX2_tellTo_54 : decode cX2_tellTo 54 = .ok (.getfield 15, 3) := by decide +kernel
theorem dX2_tellTo_57 : decode cX2_tellTo 57 = .ok (.iconst 2, 1) := by decide +kernel
theorem dX2_tellTo_58 : decode cX2_tellTo 58 = .ok (.iaload, 1) := by decide +kernel
theorem dX2_tellTo_59 : decode cX2_tellTo 59 = .ok (.invokevirtual 35, 3) := by decide +kernel
theorem dX2_tellTo_62 : decode cX2_tellTo 62 = .ok (.ifCond .ne 5, 3) := by decide +kernel
theorem dX2_tellTo_65 : decode cX2_tellTo 65 = .ok (.iload_n 2, 1) := by decide +kernel
theorem dX2_tellTo_66 : decode cX2_tellTo 66 = .ok (.ireturn, 1) := by decide +kernel
theorem dX2_tellTo_67 : decode cX2_tellTo 67 = .ok (.iload 4, 2) := by decide +kernel
theorem dX2_tellTo_69 : decode cX2_tellTo 69 = .ok (.istore_n 2, 1) := by decide +kernel
theorem dX2_tellTo_70 : decode cX2_tellTo 70 = .ok (.iinc 3 1, 3) := by decide +kernel
theorem dX2_tellTo_73 : decode cX2_tellTo 73 = .ok (.goto (-65), 3) := by decide +kernel
theorem dX2_tellTo_76 : decode cX2_tellTo 76 = .ok (.bipush (-4), 2) := by decide +kernel
theorem dX2_tellTo_78 : decode cX2_tellTo 78 = .ok (.ireturn, 1) := by decide +kernel
set_option maxRecDepth 20000 in
theorem ggX2_split_X2_byteAt : GoodIn wsX2_split wsX2_byteAt := goodIn_r _ [6, 7, 8, 23, 24, 25] (by decide +kernel) (by decide +kernel)
set_option maxRecDepth 20000 in
theorem gX2_split_X2_byteAt : GoodIn wsX2_split (wsV RX2 32 RX2 yX2_byteAt wsX2_byteAt) := goodIn_app (goodIn_of _ (by decide +kernel)) ggX2_split_X2_byteAt
set_option maxRecDepth 20000 in
theorem ggX2_split_X2_numbersOf : GoodIn wsX2_split wsX2_numbersOf := goodIn_r _ [11] (by decide +kernel) (by decide +kernel)
set_option maxRecDepth 20000 in
theorem gX2_split_X2_numbersOf : GoodIn wsX2_split (va_wsS RX2 39 yX2_numbersOf wsX2_numbersOf) := goodIn_app (goodIn_of _ (by decide +kernel)) ggX2_split_X2_numbersOf
set_option maxRecDepth 20000 in
theorem ggX2_split_X2_figuresAt : GoodIn wsX2_split wsX2_figuresAt := goodIn_r _ [15, 2, 3, 4, 5, 6, 7, 8, 16, 17, 18, 23, 24, 25] (by decide +kernel) (by decide +kernel)
set_option maxRecDepth 20000 in
theorem gX2_split_X2_figuresAt : GoodIn wsX2_split (wsV RX2 42 RX2 yX2_figuresAt wsX2_figuresAt) := goodIn_app (goodIn_of _ (by decide +kernel)) ggX2_split_X2_figuresAt
set_option maxRecDepth 20000 in
theorem ggX2_split_X2_numberAt : GoodIn wsX2_split wsX2_numberAt := goodIn_r _ [22, 2, 3, 4, 5, 6, 7, 8, 23, 24, 25] (by decide +kernel) (by decide +kernel)
set_option maxRecDepth 20000 in
theorem gX2_split_X2_numberAt : GoodIn wsX2_split (wsV RX2 45 RX2 yX2_numberAt wsX2_numberAt) := goodIn_app (goodIn_of _ (by decide +kernel)) ggX2_split_X2_numberAt
theorem dX2_split_0 : decode cX2_split 0 = .ok (.aload_n 0, 1) := by decide +kernel
theorem dX2_split_1 : decode cX2_split 1 = .ok (.iload_n 1, 1) := by decide +kernel
theorem dX2_split_2 : decode cX2_split 2 = .ok (.invokevirtual 32, 3) := by decide +kernel
theorem dX2_split_5 : decode cX2_split 5 = .ok (.invokestatic 39, 3) := by decide +kernel
theorem dX2_split_8 : decode cX2_split 8 = .ok (.istore_n 2, 1) := by decide +kernel
theorem dX2_split_9 : decode cX2_split 9 = .ok (.iload_n 1, 1) := by decide +kernel
theorem dX2_split_10 : decode cX2_split 10 = .ok (.iconst 1, 1) := by decide +kernel
theorem dX2_split_11 : decode cX2_split 11 = .ok (.iadd, 1) := by decide +kernel
theorem dX2_split_12 : decode cX2_split 12 = .ok (.istore_n 3, 1) := by decide +kernel
theorem dX2_split_13 : decode cX2_split 13 = .ok (.iconst 0, 1) := by decide +kernel
theorem dX2_split_14 : decode cX2_split 14 = .ok (.istore 4, 2) := by decide +kernel
theorem dX2_split_16 : decode cX2_split 16 = .ok (.iload 4, 2) := by decide +kernel
theorem dX2_split_18 : decode cX2_split 18 = .ok (.iload_n 2, 1) := by decide +kernel
theorem dX2_split_19 : decode cX2_split 19 = .ok (.if_icmp .ge 79, 3) := by decide +kernel
theorem dX2_split_22 : decode cX2_split 22 = .ok (.iload 4, 2) := by decide +kernel
theorem dX2_split_24 : decode cX2_split 24 = .ok (.iconst 3, 1) := by decide +kernel
theorem dX2_split_25 : decode cX2_split 25 = .ok (.if_icmp .ge 73, 3) := by decide +kernel
theorem dX2_split_28 : decode cX2_split 28 = .ok (.aload_n 0, 1) := by decide +kernel
theorem dX2_split_29 : decode cX2_split 29 = .ok (.iload_n 3, 1) := by decide +kernel
theorem dX2_split_30 : decode cX2_split 30 = .ok (.invokevirtual 42, 3) := by decide +kernel
theorem dX2_split_33 : decode cX2_split 33 = .ok (.istore 5, 2) := by decide +kernel
theorem dX2_split_35 : decode cX2_split 35 = .ok (.iload 5, 2) := by decide +kernel
theorem dX2_split_37 : decode cX2_split 37 = .ok (.iconst 1, 1) := by decide +kernel
theorem dX2_split_38 : decode cX2_split 38 = .ok (.if_icmp .ge 6, 3) := by decide +kernel
theorem dX2_split_41 : decode cX2_split 41 = .ok (.bipush (-4), 2) := by decide +kernel
theorem dX2_split_43 : decode cX2_split 43 = .ok (.ireturn, 1) := by decide +kernel
theorem dX2_split_44 : decode cX2_split 44 = .ok (.aload_n 0, 1) := by decide +kernel
theorem dX2_split_45 : decode cX2_split 45 = .ok (.getfield 15, 3) := by decide +kernel
theorem dX2_split_48 : decode cX2_split 48 = .ok (.iload 4, 2) := by decide +kernel
theorem dX2_split_50 : decode cX2_split 50 = .ok (.aload_n 0, 1) := by decide +kernel
theorem dX2_split_51 : decode cX2_split 51 = .ok (.iload_n 3, 1) := by decide +kernel
theorem dX2_split_52 : decode cX2_split 52 = .ok (.iload 5, 2) := by decide +kernel
theorem dX2_split_54 : decode cX2_split 54 = .ok (.invokevirtual 45, 3) := by decide +kernel
theorem dX2_split_57 : decode cX2_split 57 = .ok (.iastore, 1) := by decide +kernel
theorem dX2_split_58 : decode cX2_split 58 = .ok (.iload_n 3, 1) := by decide +kernel
theorem dX2_split_59 : decode cX2_split 59 = .ok (.iload 5, 2) := by decide +kernel
theorem dX2_split_61 : decode cX2_split 61 = .ok (.iadd, 1) := by decide +kernel
theorem dX2_split_62 : decode cX2_split 62 = .ok (.istore_n 3, 1) := by decide +kernel
theorem dX2_split_63 : decode cX2_split 63 = .ok (.aload_n 0, 1) := by decide +kernel
theorem dX2_split_64 : decode cX2_split 64 = .ok (.iload_n 3, 1) := by decide +kernel
theorem dX2_split_65 : decode cX2_split 65 = .ok (.invokevirtual 32, 3) := by decide +kernel
theorem dX2_split_68 : decode cX2_split 68 = .ok (.iload 4, 2) := by decide +kernel
theorem dX2_split_70 : decode cX2_split 70 = .ok (.iload_n 2, 1) := by decide +kernel
theorem dX2_split_71 : decode cX2_split 71 = .ok (.iconst 1, 1) := by decide +kernel
theorem dX2_split_72 : decode cX2_split 72 = .ok (.isub, 1) := by decide +kernel
theorem dX2_split_73 : decode cX2_split 73 = .ok (.if_icmp .ge 8, 3) := by decide +kernel
theorem dX2_split_76 : decode cX2_split 76 = .ok (.bipush 44, 2) := by decide +kernel
theorem dX2_split_78 : decode cX2_split 78 = .ok (.goto 5, 3) := by decide +kernel
theorem dX2_split_81 : decode cX2_split 81 = .ok (.bipush 59, 2) := by decide +kernel
theorem dX2_split_83 : decode cX2_split 83 = .ok (.if_icmp .eq 6, 3) := by decide +kernel
theorem dX2_split_86 : decode cX2_split 86 = .ok (.bipush (-4), 2) := by decide +kernel
theorem dX2_split_88 : decode cX2_split 88 = .ok (.ireturn, 1) := by decide +kernel
theorem dX2_split_89 : decode cX2_split 89 = .ok (.iinc 3 1, 3) := by decide +kernel
theorem dX2_split_92 : decode cX2_split 92 = .ok (.iinc 4 1, 3) := by decide +kernel
theorem dX2_split_95 : decode cX2_split 95 = .ok (.goto (-79), 3) := by decide +kernel
theorem dX2_split_98 : decode cX2_split 98 = .ok (.iload_n 2, 1) := by decide +kernel
theorem dX2_split_99 : decode cX2_split 99 = .ok (.ifCond .le 7, 3) := by decide +kernel
theorem dX2_split_102 : decode cX2_split 102 = .ok (.iload_n 3, 1) := by decide +kernel
theorem dX2_split_103 : decode cX2_split 103 = .ok (.goto 5, 3) := by decide +kernel
theorem dX2_split_106 : decode cX2_split 106 = .ok (.bipush (-4), 2) := by decide +kernel
theorem dX2_split_108 : decode cX2_split 108 = .ok (.ireturn, 1) := by decide +kernel
theorem dX2_numbersOf_0 : decode cX2_numbersOf 0 = .ok (.iload_n 0, 1) := by decide +kernel
theorem dX2_numbersOf_1 : decode cX2_numbersOf 1 = .ok (.tableswitch 113 97 119 #[111, 109, 111, 113, 113, 113, 109, 113, 113, 113, 113, 113, 113, 109, 113, 113, 113, 113, 113, 111, 113, 113, 107], 107) := by decide +kernel
theorem dX2_numbersOf_108 : decode cX2_numbersOf 108 = .ok (.iconst 1, 1) := by decide +kernel
theorem dX2_numbersOf_109 : decode cX2_numbersOf 109 = .ok (.ireturn, 1) := by decide +kernel
theorem dX2_numbersOf_110 : decode cX2_numbersOf 110 = .ok (.iconst 2, 1) := by decide +kernel
theorem dX2_numbersOf_111 : decode cX2_numbersOf 111 = .ok (.ireturn, 1) := by decide +kernel
theorem dX2_numbersOf_112 : decode cX2_numbersOf 112 = .ok (.iconst 3, 1) := by decide +kernel
theorem dX2_numbersOf_113 : decode cX2_numbersOf 113 = .ok (.ireturn, 1) := by decide +kernel
theorem dX2_numbersOf_114 : decode cX2_numbersOf 114 = .ok (.iconst 0, 1) := by decide +kernel
theorem dX2_numbersOf_115 : decode cX2_numbersOf 115 = .ok (.ireturn, 1) := by decide +kernel
set_option maxRecDepth 20000 in
theorem ggX2_figuresAt_X2_byteAt : GoodIn wsX2_figuresAt wsX2_byteAt := goodIn_r _ [5, 6, 7, 11, 12, 13] (by decide +kernel) (by decide +kernel)
set_option maxRecDepth 20000 in
theorem gX2_figuresAt_X2_byteAt : GoodIn wsX2_figuresAt (wsV RX2 32 RX2 yX2_byteAt wsX2_byteAt) := goodIn_app (goodIn_of _ (by decide +kernel)) ggX2_figuresAt_X2_byteAt
set_option maxRecDepth 20000 in
theorem ggX2_figuresAt_X2_isFigure : GoodIn wsX2_figuresAt wsX2_isFigure := goodIn_r _ [10] (by decide +kernel) (by decide +kernel)
set_option maxRecDepth 20000 in
theorem gX2_figuresAt_X2_isFigure : GoodIn wsX2_figuresAt (va_wsS RX2 49 yX2_isFigure wsX2_isFigure) := goodIn_app (goodIn_of _ (by decide +kernel)) ggX2_figuresAt_X2_isFigure
theorem dX2_figuresAt_0 : decode cX2_figuresAt 0 = .ok (.iconst 0, 1) := by decide +kernel
theorem dX2_figuresAt_1 : decode cX2_figuresAt 1 = .ok (.istore_n 2, 1) := by decide +kernel
theorem dX2_figuresAt_2 : decode cX2_figuresAt 2 = .ok (.iconst 0, 1) := by decide +kernel
theorem dX2_figuresAt_3 : decode cX2_figuresAt 3 = .ok (.istore_n 3, 1) := by decide +kernel
theorem dX2_figuresAt_4 : decode cX2_figuresAt 4 = .ok (.iload_n 3, 1) := by decide +kernel
theorem dX2_figuresAt_5 : decode cX2_figuresAt 5 = .ok (.iconst 3, 1) := by decide +kernel
theorem dX2_figuresAt_6 : decode cX2_figuresAt 6 = .ok (.if_icmp .ge 25, 3) := by decide +kernel
theorem dX2_figuresAt_9 : decode cX2_figuresAt 9 = .ok (.aload_n 0, 1) := by decide +kernel
theorem dX2_figuresAt_10 : decode cX2_figuresAt 10 = .ok (.iload_n 1, 1) := by decide +kernel
theorem dX2_figuresAt_11 : decode cX2_figuresAt 11 = .ok (.iload_n 3, 1) := by decide +kernel
theorem dX2_figuresAt_12 : decode cX2_figuresAt 12 = .ok (.iadd, 1) := by decide +kernel
theorem dX2_figuresAt_13 : decode cX2_figuresAt 13 = .ok (.invokevirtual 32, 3) := by decide +kernel
theorem dX2_figuresAt_16 : decode cX2_figuresAt 16 = .ok (.invokestatic 49, 3) := by decide +kernel
theorem dX2_figuresAt_19 : decode cX2_figuresAt 19 = .ok (.ifCond .eq 12, 3) := by decide +kernel
theorem dX2_figuresAt_22 : decode cX2_figuresAt 22 = .ok (.iinc 2 1, 3) := by decide +kernel
theorem dX2_figuresAt_25 : decode cX2_figuresAt 25 = .ok (.iinc 3 1, 3) := by decide +kernel
theorem dX2_figuresAt_28 : decode cX2_figuresAt 28 = .ok (.goto (-24), 3) := by decide +kernel
theorem dX2_figuresAt_31 : decode cX2_figuresAt 31 = .ok (.iload_n 2, 1) := by decide +kernel
theorem dX2_figuresAt_32 : decode cX2_figuresAt 32 = .ok (.ireturn, 1) := by decide +kernel
set_option maxRecDepth 20000 in
theorem ggX2_numberAt_X2_byteAt : GoodIn wsX2_numberAt wsX2_byteAt := goodIn_r _ [5, 6, 7, 8, 9, 10] (by decide +kernel) (by decide +kernel)
set_option maxRecDepth 20000 in
theorem gX2_numberAt_X2_byteAt : GoodIn wsX2_numberAt (wsV RX2 32 RX2 yX2_byteAt wsX2_byteAt) := goodIn_app (goodIn_of _ (by decide +kernel)) ggX2_numberAt_X2_byteAt
theorem dX2_numberAt_0 : decode cX2_numberAt 0 = .ok (.iconst 0, 1) := by decide +kernel
theorem dX2_numberAt_1 : decode cX2_numberAt 1 = .ok (.istore_n 3, 1) := by decide +kernel
theorem dX2_numberAt_2 : decode cX2_numberAt 2 = .ok (.iconst 0, 1) := by decide +kernel
theorem dX2_numberAt_3 : decode cX2_numberAt 3 = .ok (.istore 4, 2) := by decide +kernel
theorem dX2_numberAt_5 : decode cX2_numberAt 5 = .ok (.iload 4, 2) := by decide +kernel
theorem dX2_numberAt_7 : decode cX2_numberAt 7 = .ok (.iload_n 2, 1) := by decide +kernel
theorem dX2_numberAt_8 : decode cX2_numberAt 8 = .ok (.if_icmp .ge 26, 3) := by decide +kernel
theorem dX2_numberAt_11 : decode cX2_numberAt 11 = .ok (.bipush 10, 2) := by decide +kernel
theorem dX2_numberAt_13 : decode cX2_numberAt 13 = .ok (.iload_n 3, 1) := by decide +kernel
theorem dX2_numberAt_14 : decode cX2_numberAt 14 = .ok (.imul, 1) := by decide +kernel
theorem dX2_numberAt_15 : decode cX2_numberAt 15 = .ok (.aload_n 0, 1) := by decide +kernel
theorem dX2_numberAt_16 : decode cX2_numberAt 16 = .ok (.iload_n 1, 1) := by decide +kernel
theorem dX2_numberAt_17 : decode cX2_numberAt 17 = .ok (.iload 4, 2) := by decide +kernel
theorem dX2_numberAt_19 : decode cX2_numberAt 19 = .ok (.iadd, 1) := by decide +kernel
theorem dX2_numberAt_20 : decode cX2_numberAt 20 = .ok (.invokevirtual 32, 3) := by decide +kernel
theorem dX2_numberAt_23 : decode cX2_numberAt 23 = .ok (.iadd, 1) := by decide +kernel
theorem dX2_numberAt_24 : decode cX2_numberAt 24 = .ok (.bipush 48, 2) := by decide +kernel
theorem dX2_numberAt_26 : decode cX2_numberAt 26 = .ok (.isub, 1) := by decide +kernel
theorem dX2_numberAt_27 : decode cX2_numberAt 27 = .ok (.istore_n 3, 1) := by decide +kernel
theorem dX2_numberAt_28 : decode cX2_numberAt 28 = .ok (.iinc 4 1, 3) := by decide +kernel
theorem dX2_numberAt_31 : decode cX2_numberAt 31 = .ok (.goto (-26), 3) := by decide +kernel
theorem dX2_numberAt_34 : decode cX2_numberAt 34 = .ok (.iload_n 3, 1) := by decide +kernel
theorem dX2_numberAt_35 : decode cX2_numberAt 35 = .ok (.ireturn, 1) := by decide +kernel
theorem dX2_isFigure_0 : decode cX2_isFigure 0 = .ok (.iload_n 0, 1) := by decide +kernel
theorem dX2_isFigure_1 : decode cX2_isFigure 1 = .ok (.bipush 48, 2) := by decide +kernel
theorem dX2_isFigure_3 : decode cX2_isFigure 3 = .ok (.if_icmp .lt 13, 3) := by decide +kernel
theorem dX2_isFigure_6 : decode cX2_isFigure 6 = .ok (.iload_n 0, 1) := by decide +kernel
theorem dX2_isFigure_7 : decode cX2_isFigure 7 = .ok (.bipush 57, 2) := by decide +kernel
theorem dX2_isFigure_9 : decode cX2_isFigure 9 = .ok (.if_icmp .gt 7, 3) := by decide +kernel
theorem dX2_isFigure_12 : decode cX2_isFigure 12 = .ok (.iconst 1, 1) := by decide +kernel
theorem dX2_isFigure_13 : decode cX2_isFigure 13 = .ok (.goto 4, 3) := by decide +kernel
theorem dX2_isFigure_16 : decode cX2_isFigure 16 = .ok (.iconst 0, 1) := by decide +kernel
theorem dX2_isFigure_17 : decode cX2_isFigure 17 = .ok (.ireturn, 1) := by decide +kernel
theorem dX2_byteAt_0 : decode cX2_byteAt 0 = .ok (.iload_n 1, 1) := by decide +kernel
theorem dX2_byteAt_1 : decode cX2_byteAt 1 = .ok (.ifCond .lt 31, 3) := by decide +kernel
theorem dX2_byteAt_4 : decode cX2_byteAt 4 = .ok (.iload_n 1, 1) := by decide +kernel
theorem dX2_byteAt_5 : decode cX2_byteAt 5 = .ok (.aload_n 0, 1) := by decide +kernel
theorem dX2_byteAt_6 : decode cX2_byteAt 6 = .ok (.getfield 19, 3) := by decide +kernel
theorem dX2_byteAt_9 : decode cX2_byteAt 9 = .ok (.if_icmp .ge 23, 3) := by decide +kernel
theorem dX2_byteAt_12 : decode cX2_byteAt 12 = .ok (.iload_n 1, 1) := by decide +kernel
theorem dX2_byteAt_13 : decode cX2_byteAt 13 = .ok (.sipush 500, 3) := by decide +kernel
theorem dX2_byteAt_16 : decode cX2_byteAt 16 = .ok (.if_icmp .ge 16, 3) := by decide +kernel
theorem dX2_byteAt_19 : decode cX2_byteAt 19 = .ok (.aload_n 0, 1) := by decide +kernel
theorem dX2_byteAt_20 : decode cX2_byteAt 20 = .ok (.getfield 9, 3) := by decide +kernel
theorem dX2_byteAt_23 : decode cX2_byteAt 23 = .ok (.iload_n 1, 1) := by decide +kernel
theorem dX2_byteAt_24 : decode cX2_byteAt 24 = .ok (.baload, 1) := by decide +kernel
theorem dX2_byteAt_25 : decode cX2_byteAt 25 = .ok (.sipush 255, 3) := by decide +kernel
theorem dX2_byteAt_28 : decode cX2_byteAt 28 = .ok (.iand, 1) := by decide +kernel
theorem dX2_byteAt_29 : decode cX2_byteAt 29 = .ok (.goto 5, 3) := by decide +kernel
theorem dX2_byteAt_32 : decode cX2_byteAt 32 = .ok (.bipush (-4), 2) := by decide +kernel
theorem dX2_byteAt_34 : decode cX2_byteAt 34 = .ok (.ireturn, 1) := by decide +kernel
