theorem dX3_init_0 : decode cX3_init 0 = .ok (.aload_n 0, 1) := by decide +kernel
theorem dX3_init_1 : decode cX3_init 1 = .ok (.invokespecial 3, 3) := by decide +kernel
theorem dX3_init_4 : decode cX3_init 4 = .ok (.aload_n 0, 1) := by decide +kernel
theorem dX3_init_5 : decode cX3_init 5 = .ok (.bipush 16, 2) := by decide +kernel
theorem dX3_init_7 : decode cX3_init 7 = .ok (.newarray .int, 2) := by decide +kernel
theorem dX3_init_9 : decode cX3_init 9 = .ok (.putfield 9, 3) := by decide +kernel
theorem dX3_init_12 : decode cX3_init 12 = .ok (.aload_n 0, 1) := by decide +kernel
theorem dX3_init_13 : decode cX3_init 13 = .ok (.bipush 16, 2) := by decide +kernel
theorem dX3_init_15 : decode cX3_init 15 = .ok (.newarray .int, 2) := by decide +kernel
theorem dX3_init_17 : decode cX3_init 17 = .ok (.putfield 15, 3) := by decide +kernel
theorem dX3_init_20 : decode cX3_init 20 = .ok (.aload_n 0, 1) := by decide +kernel
theorem dX3_init_21 : decode cX3_init 21 = .ok (.bipush 16, 2) := by decide +kernel
theorem dX3_init_23 : decode cX3_init 23 = .ok (.newarray .int, 2) := by decide +kernel
theorem dX3_init_25 : decode cX3_init 25 = .ok (.putfield 18, 3) := by decide +kernel
theorem dX3_init_28 : decode cX3_init 28 = .ok (.aload_n 0, 1) := by decide +kernel
theorem dX3_init_29 : decode cX3_init 29 = .ok (.bipush 16, 2) := by decide +kernel
theorem dX3_init_31 : decode cX3_init 31 = .ok (.newarray .int, 2) := by decide +kernel
theorem dX3_init_33 : decode cX3_init 33 = .ok (.putfield 21, 3) := by decide +kernel
theorem dX3_init_36 : decode cX3_init 36 = .ok (.aload_n 0, 1) := by decide +kernel
theorem dX3_init_37 : decode cX3_init 37 = .ok (.bipush 16, 2) := by decide +kernel
theorem dX3_init_39 : decode cX3_init 39 = .ok (.newarray .int, 2) := by decide +kernel
theorem dX3_init_41 : decode cX3_init 41 = .ok (.putfield 24, 3) := by decide +kernel
theorem dX3_init_44 : decode cX3_init 44 = .ok (.aload_n 0, 1) := by decide +kernel
theorem dX3_init_45 : decode cX3_init 45 = .ok (.sipush 288, 3) := by decide +kernel
theorem dX3_init_48 : decode cX3_init 48 = .ok (.newarray .int, 2) := by decide +kernel
theorem dX3_init_50 : decode cX3_init 50 = .ok (.putfield 27, 3) := by decide +kernel
theorem dX3_init_53 : decode cX3_init 53 = .ok (.aload_n 0, 1) := by decide +kernel
theorem dX3_init_54 : decode cX3_init 54 = .ok (.bipush 6, 2) := by decide +kernel
theorem dX3_init_56 : decode cX3_init 56 = .ok (.newarray .int, 2) := by decide +kernel
theorem dX3_init_58 : decode cX3_init 58 = .ok (.putfield 30, 3) := by decide +kernel
theorem dX3_init_61 : decode cX3_init 61 = .ok (.aload_n 0, 1) := by decide +kernel
theorem dX3_init_62 : decode cX3_init 62 = .ok (.bipush 10, 2) := by decide +kernel
theorem dX3_init_64 : decode cX3_init 64 = .ok (.newarray .int, 2) := by decide +kernel
theorem dX3_init_66 : decode cX3_init 66 = .ok (.putfield 33, 3) := by decide +kernel
theorem dX3_init_69 : decode cX3_init 69 = .ok (.aload_n 0, 1) := by decide +kernel
theorem dX3_init_70 : decode cX3_init 70 = .ok (.bipush 12, 2) := by decide +kernel
theorem dX3_init_72 : decode cX3_init 72 = .ok (.putfield 36, 3) := by decide +kernel
theorem dX3_init_75 : decode cX3_init 75 = .ok (.return_, 1) := by decide +kernel
set_option maxRecDepth 20000 in
theorem ggX3_clear_J7_fill_53178 : GoodIn wsX3_clear wsJ7_fill_53178 := goodIn_r _ [10] (by decide +kernel) (by decide +kernel)
set_option maxRecDepth 20000 in
theorem gX3_clear_J7_fill_53178 : GoodIn wsX3_clear (va_wsS RX3 49 yJ7_fill_53178 wsJ7_fill_53178) := goodIn_app (goodIn_of _ (by decide +kernel)) ggX3_clear_J7_fill_53178
theorem dX3_clear_0 : decode cX3_clear 0 = .ok (.aload_n 0, 1) := by decide +kernel
theorem dX3_clear_1 : decode cX3_clear 1 = .ok (.iconst 0, 1) := by decide +kernel
theorem dX3_clear_2 : decode cX3_clear 2 = .ok (.putfield 40, 3) := by decide +kernel
theorem dX3_clear_5 : decode cX3_clear 5 = .ok (.aload_n 0, 1) := by decide +kernel
theorem dX3_clear_6 : decode cX3_clear 6 = .ok (.iconst 0, 1) := by decide +kernel
theorem dX3_clear_7 : decode cX3_clear 7 = .ok (.putfield 43, 3) := by decide +kernel
theorem dX3_clear_10 : decode cX3_clear 10 = .ok (.aload_n 0, 1) := by decide +kernel
theorem dX3_clear_11 : decode cX3_clear 11 = .ok (.iconst 0, 1) := by decide +kernel
theorem dX3_clear_12 : decode cX3_clear 12 = .ok (.putfield 46, 3) := by decide +kernel
theorem dX3_clear_15 : decode cX3_clear 15 = .ok (.aload_n 0, 1) := by decide +kernel
theorem dX3_clear_16 : decode cX3_clear 16 = .ok (.bipush 12, 2) := by decide +kernel
theorem dX3_clear_18 : decode cX3_clear 18 = .ok (.putfield 36, 3) := by decide +kernel
theorem dX3_clear_21 : decode cX3_clear 21 = .ok (.aload_n 0, 1) := by decide +kernel
theorem dX3_clear_22 : decode cX3_clear 22 = .ok (.getfield 27, 3) := by decide +kernel
theorem dX3_clear_25 : decode cX3_clear 25 = .ok (.iconst 0, 1) := by decide +kernel
theorem dX3_clear_26 : decode cX3_clear 26 = .ok (.invokestatic 49, 3) := by decide +kernel
theorem dX3_clear_29 : decode cX3_clear 29 = .ok (.aload_n 0, 1) := by decide +kernel
theorem dX3_clear_30 : decode cX3_clear 30 = .ok (.getfield 30, 3) := by decide +kernel
theorem dX3_clear_33 : decode cX3_clear 33 = .ok (.iconst 0, 1) := by decide +kernel
theorem dX3_clear_34 : decode cX3_clear 34 = .ok (.invokestatic 49, 3) := by decide +kernel
theorem dX3_clear_37 : decode cX3_clear 37 = .ok (.return_, 1) := by decide +kernel
set_option maxRecDepth 20000 in
theorem ggX3_accept_X3_addSign : GoodIn wsX3_accept wsX3_addSign := goodIn_r _ [5, 6, 7, 8, 9, 10, 11, 4, 12, 68, 69, 70, 71, 72, 73, 74, 75, 76, 77, 78, 79] (by decide +kernel) (by decide +kernel)
set_option maxRecDepth 20000 in
theorem gX3_accept_X3_addSign : GoodIn wsX3_accept (wsV RX3 55 RX3 yX3_addSign wsX3_addSign) := goodIn_app (goodIn_of _ (by decide +kernel)) ggX3_accept_X3_addSign
set_option maxRecDepth 20000 in
theorem ggX3_accept_X3_addCourse : GoodIn wsX3_accept wsX3_addCourse := goodIn_r _ [16, 17, 18, 19, 20, 21, 22, 4, 23, 68, 69, 70, 71, 72, 73, 74, 75, 76, 77, 78, 79] (by decide +kernel) (by decide +kernel)
set_option maxRecDepth 20000 in
theorem gX3_accept_X3_addCourse : GoodIn wsX3_accept (wsV RX3 59 RX3 yX3_addCourse wsX3_addCourse) := goodIn_app (goodIn_of _ (by decide +kernel)) ggX3_accept_X3_addCourse
set_option maxRecDepth 20000 in
theorem ggX3_accept_X3_addStones : GoodIn wsX3_accept wsX3_addStones := goodIn_r _ [27, 28, 29, 30, 4, 31, 9, 10, 11, 12, 6, 32, 33, 34, 35, 17, 36, 37, 38, 39, 40, 68, 69, 70, 71, 72, 73, 74, 75, 76, 77, 78, 79] (by decide +kernel) (by decide +kernel)
set_option maxRecDepth 20000 in
theorem gX3_accept_X3_addStones : GoodIn wsX3_accept (wsV RX3 63 RX3 yX3_addStones wsX3_addStones) := goodIn_app (goodIn_of _ (by decide +kernel)) ggX3_accept_X3_addStones
set_option maxRecDepth 20000 in
theorem ggX3_accept_X3_addBegun : GoodIn wsX3_accept wsX3_addBegun := goodIn_r _ [44, 45, 68, 69, 70, 71, 72, 73, 74, 75, 76, 77, 78, 79] (by decide +kernel) (by decide +kernel)
set_option maxRecDepth 20000 in
theorem gX3_accept_X3_addBegun : GoodIn wsX3_accept (wsV RX3 66 RX3 yX3_addBegun wsX3_addBegun) := goodIn_app (goodIn_of _ (by decide +kernel)) ggX3_accept_X3_addBegun
set_option maxRecDepth 20000 in
theorem ggX3_accept_X3_addName : GoodIn wsX3_accept wsX3_addName := goodIn_r _ [49, 50, 51, 21, 22, 4, 23, 52, 53, 54, 68, 69, 70, 71, 72, 73, 74, 75, 76, 77, 78, 79] (by decide +kernel) (by decide +kernel)
set_option maxRecDepth 20000 in
theorem gX3_accept_X3_addName : GoodIn wsX3_accept (wsV RX3 69 RX3 yX3_addName wsX3_addName) := goodIn_app (goodIn_of _ (by decide +kernel)) ggX3_accept_X3_addName
set_option maxRecDepth 20000 in
theorem ggX3_accept_X3_addStay : GoodIn wsX3_accept wsX3_addStay := goodIn_r _ [58, 51, 59, 60, 61, 4, 62, 50, 21, 22, 23, 52, 53, 54, 68, 69, 70, 71, 72, 73, 74, 75, 76, 77, 78, 79] (by decide +kernel) (by decide +kernel)
set_option maxRecDepth 20000 in
theorem gX3_accept_X3_addStay : GoodIn wsX3_accept (wsV RX3 72 RX3 yX3_addStay wsX3_addStay) := goodIn_app (goodIn_of _ (by decide +kernel)) ggX3_accept_X3_addStay
set_option maxRecDepth 20000 in
theorem ggX3_accept_X3_setPace : GoodIn wsX3_accept wsX3_setPace := goodIn_r _ [66, 67, 68, 69, 70, 71, 72, 73, 74, 75, 76, 77, 78, 79] (by decide +kernel) (by decide +kernel)
set_option maxRecDepth 20000 in
theorem gX3_accept_X3_setPace : GoodIn wsX3_accept (wsV RX3 75 RX3 yX3_setPace wsX3_setPace) := goodIn_app (goodIn_of _ (by decide +kernel)) ggX3_accept_X3_setPace
theorem dX3_accept_0 : decode cX3_accept 0 = .ok (.iload_n 1, 1) := by decide +kernel
theorem dX3_accept_1 : decode cX3_accept 1 = .ok (.tableswitch 161 97 119 #[146, 132, 114, 161, 161, 161, 107, 161, 161, 161, 161, 161, 161, 139, 161, 161, 161, 161, 161, 123, 161, 161, 155], 107) := by decide +kernel
theorem dX3_accept_108 : decode cX3_accept 108 = .ok (.aload_n 0, 1) := by decide +kernel
theorem dX3_accept_109 : decode cX3_accept 109 = .ok (.iload_n 2, 1) := by decide +kernel
theorem dX3_accept_110 : decode cX3_accept 110 = .ok (.iload_n 3, 1) := by decide +kernel
theorem dX3_accept_111 : decode cX3_accept 111 = .ok (.invokevirtual 55, 3) := by decide +kernel
theorem dX3_accept_114 : decode cX3_accept 114 = .ok (.ireturn, 1) := by decide +kernel
theorem dX3_accept_115 : decode cX3_accept 115 = .ok (.aload_n 0, 1) := by decide +kernel
theorem dX3_accept_116 : decode cX3_accept 116 = .ok (.iload_n 2, 1) := by decide +kernel
theorem dX3_accept_117 : decode cX3_accept 117 = .ok (.iload_n 3, 1) := by decide +kernel
theorem dX3_accept_118 : decode cX3_accept 118 = .ok (.iload 4, 2) := by decide +kernel
theorem dX3_accept_120 : decode cX3_accept 120 = .ok (.invokevirtual 59, 3) := by decide +kernel
theorem dX3_accept_123 : decode cX3_accept 123 = .ok (.ireturn, 1) := by decide +kernel
theorem dX3_accept_124 : decode cX3_accept 124 = .ok (.aload_n 0, 1) := by decide +kernel
theorem dX3_accept_125 : decode cX3_accept 125 = .ok (.iload_n 2, 1) := by decide +kernel
theorem dX3_accept_126 : decode cX3_accept 126 = .ok (.iload_n 3, 1) := by decide +kernel
theorem dX3_accept_127 : decode cX3_accept 127 = .ok (.iload 4, 2) := by decide +kernel
theorem dX3_accept_129 : decode cX3_accept 129 = .ok (.invokevirtual 63, 3) := by decide +kernel
theorem dX3_accept_132 : decode cX3_accept 132 = .ok (.ireturn, 1) := by decide +kernel
theorem dX3_accept_133 : decode cX3_accept 133 = .ok (.aload_n 0, 1) := by decide +kernel
theorem dX3_accept_134 : decode cX3_accept 134 = .ok (.iload_n 2, 1) := by decide +kernel
theorem dX3_accept_135 : decode cX3_accept 135 = .ok (.iload_n 3, 1) := by decide +kernel
theorem dX3_accept_136 : decode cX3_accept 136 = .ok (.invokevirtual 66, 3) := by decide +kernel
theorem dX3_accept_139 : decode cX3_accept 139 = .ok (.ireturn, 1) := by decide +kernel
theorem dX3_accept_140 : decode cX3_accept 140 = .ok (.aload_n 0, 1) := by decide +kernel
theorem dX3_accept_141 : decode cX3_accept 141 = .ok (.iload_n 2, 1) := by decide +kernel
theorem dX3_accept_142 : decode cX3_accept 142 = .ok (.iload_n 3, 1) := by decide +kernel
theorem dX3_accept_143 : decode cX3_accept 143 = .ok (.invokevirtual 69, 3) := by decide +kernel
theorem dX3_accept_146 : decode cX3_accept 146 = .ok (.ireturn, 1) := by decide +kernel
theorem dX3_accept_147 : decode cX3_accept 147 = .ok (.aload_n 0, 1) := by decide +kernel
theorem dX3_accept_148 : decode cX3_accept 148 = .ok (.iload_n 2, 1) := by decide +kernel
theorem dX3_accept_149 : decode cX3_accept 149 = .ok (.iload_n 3, 1) := by decide +kernel
theorem dX3_accept_150 : decode cX3_accept 150 = .ok (.iload 4, 2) := by decide +kernel
theorem dX3_accept_152 : decode cX3_accept 152 = .ok (.invokevirtual 72, 3) := by decide +kernel
theorem dX3_accept_155 : decode cX3_accept 155 = .ok (.ireturn, 1) := by decide +kernel
theorem dX3_accept_156 : decode cX3_accept 156 = .ok (.aload_n 0, 1) := by decide +kernel
theorem dX3_accept_157 : decode cX3_accept 157 = .ok (.iload_n 2, 1) := by decide +kernel
theorem dX3_accept_158 : decode cX3_accept 158 = .ok (.invokevirtual 75, 3) := by decide +kernel
theorem dX3_accept_161 : decode cX3_accept 161 = .ok (.ireturn, 1) := by decide +kernel
theorem dX3_accept_162 : decode cX3_accept 162 = .ok (.iconst 0, 1) := by decide +kernel
theorem dX3_accept_163 : decode cX3_accept 163 = .ok (.ireturn, 1) := by decide +kernel
set_option maxRecDepth 20000 in
theorem ggX3_addSign_X3_hasSign : GoodIn wsX3_addSign wsX3_hasSign := goodIn_r _ [8, 1, 9, 10, 11, 12, 13, 14, 15, 16, 17, 18, 19, 20] (by decide +kernel) (by decide +kernel)
set_option maxRecDepth 20000 in
theorem gX3_addSign_X3_hasSign : GoodIn wsX3_addSign (wsV RX3 79 RX3 yX3_hasSign wsX3_hasSign) := goodIn_app (goodIn_of _ (by decide +kernel)) ggX3_addSign_X3_hasSign
theorem dX3_addSign_0 : decode cX3_addSign 0 = .ok (.aload_n 0, 1) := by decide +kernel
theorem dX3_addSign_1 : decode cX3_addSign 1 = .ok (.getfield 40, 3) := by decide +kernel
theorem dX3_addSign_4 : decode cX3_addSign 4 = .ok (.bipush 16, 2) := by decide +kernel
theorem dX3_addSign_6 : decode cX3_addSign 6 = .ok (.if_icmp .ge 28, 3) := by decide +kernel
theorem dX3_addSign_9 : decode cX3_addSign 9 = .ok (.iload_n 1, 1) := by decide +kernel
theorem dX3_addSign_10 : decode cX3_addSign 10 = .ok (.iconst 1, 1) := by decide +kernel
theorem dX3_addSign_11 : decode cX3_addSign 11 = .ok (.if_icmp .lt 23, 3) := by decide +kernel
theorem dX3_addSign_14 : decode cX3_addSign 14 = .ok (.iload_n 1, 1) := by decide +kernel
theorem dX3_addSign_15 : decode cX3_addSign 15 = .ok (.bipush 9, 2) := by decide +kernel
theorem dX3_addSign_17 : decode cX3_addSign 17 = .ok (.if_icmp .gt 17, 3) := by decide +kernel
theorem dX3_addSign_20 : decode cX3_addSign 20 = .ok (.aload_n 0, 1) := by decide +kernel
theorem dX3_addSign_21 : decode cX3_addSign 21 = .ok (.iload_n 2, 1) := by decide +kernel
theorem dX3_addSign_22 : decode cX3_addSign 22 = .ok (.invokevirtual 79, 3) := by decide +kernel
theorem dX3_addSign_25 : decode cX3_addSign 25 = .ok (.ifCond .ne 11, 3) := by decide +kernel
theorem dX3_addSign_28 : decode cX3_addSign 28 = .ok (.iload_n 2, 1) := by decide +kernel
theorem dX3_addSign_29 : decode cX3_addSign 29 = .ok (.bipush 99, 2) := by decide +kernel
theorem dX3_addSign_31 : decode cX3_addSign 31 = .ok (.if_icmp .eq 5, 3) := by decide +kernel
theorem dX3_addSign_34 : decode cX3_addSign 34 = .ok (.iconst 0, 1) := by decide +kernel
theorem dX3_addSign_35 : decode cX3_addSign 35 = .ok (.ireturn, 1) := by decide +kernel
theorem dX3_addSign_36 : decode cX3_addSign 36 = .ok (.aload_n 0, 1) := by decide +kernel
theorem dX3_addSign_37 : decode cX3_addSign 37 = .ok (.getfield 9, 3) := by decide +kernel
theorem dX3_addSign_40 : decode cX3_addSign 40 = .ok (.aload_n 0, 1) := by decide +kernel
theorem dX3_addSign_41 : decode cX3_addSign 41 = .ok (.getfield 40, 3) := by decide +kernel
theorem dX3_addSign_44 : decode cX3_addSign 44 = .ok (.iload_n 1, 1) := by decide +kernel
theorem dX3_addSign_45 : decode cX3_addSign 45 = .ok (.iastore, 1) := by decide +kernel
theorem dX3_addSign_46 : decode cX3_addSign 46 = .ok (.aload_n 0, 1) := by decide +kernel
theorem dX3_addSign_47 : decode cX3_addSign 47 = .ok (.getfield 15, 3) := by decide +kernel
theorem dX3_addSign_50 : decode cX3_addSign 50 = .ok (.aload_n 0, 1) := by decide +kernel
theorem dX3_addSign_51 : decode cX3_addSign 51 = .ok (.getfield 40, 3) := by decide +kernel
theorem dX3_addSign_54 : decode cX3_addSign 54 = .ok (.iload_n 2, 1) := by decide +kernel
theorem dX3_addSign_55 : decode cX3_addSign 55 = .ok (.bipush 99, 2) := by decide +kernel
theorem dX3_addSign_57 : decode cX3_addSign 57 = .ok (.if_icmp .ne 8, 3) := by decide +kernel
theorem dX3_addSign_60 : decode cX3_addSign 60 = .ok (.bipush (-4), 2) := by decide +kernel
theorem dX3_addSign_62 : decode cX3_addSign 62 = .ok (.goto 4, 3) := by decide +kernel
theorem dX3_addSign_65 : decode cX3_addSign 65 = .ok (.iload_n 2, 1) := by decide +kernel
theorem dX3_addSign_66 : decode cX3_addSign 66 = .ok (.iastore, 1) := by decide +kernel
theorem dX3_addSign_67 : decode cX3_addSign 67 = .ok (.aload_n 0, 1) := by decide +kernel
theorem dX3_addSign_68 : decode cX3_addSign 68 = .ok (.dup, 1) := by decide +kernel
theorem dX3_addSign_69 : decode cX3_addSign 69 = .ok (.getfield 40, 3) := by decide +kernel
theorem dX3_addSign_72 : decode cX3_addSign 72 = .ok (.iconst 1, 1) := by decide +kernel
theorem dX3_addSign_73 : decode cX3_addSign 73 = .ok (.iadd, 1) := by decide +kernel
theorem dX3_addSign_74 : decode cX3_addSign 74 = .ok (.putfield 40, 3) := by decide +kernel
theorem dX3_addSign_77 : decode cX3_addSign 77 = .ok (.iconst 1, 1) := by decide +kernel
theorem dX3_addSign_78 : decode cX3_addSign 78 = .ok (.ireturn, 1) := by decide +kernel
set_option maxRecDepth 20000 in
theorem ggX3_addCourse_X3_areWeeks : GoodIn wsX3_addCourse wsX3_areWeeks := goodIn_r _ [8] (by decide +kernel) (by decide +kernel)
set_option maxRecDepth 20000 in
theorem gX3_addCourse_X3_areWeeks : GoodIn wsX3_addCourse (va_wsS RX3 82 yX3_areWeeks wsX3_areWeeks) := goodIn_app (goodIn_of _ (by decide +kernel)) ggX3_addCourse_X3_areWeeks
theorem dX3_addCourse_0 : decode cX3_addCourse 0 = .ok (.aload_n 0, 1) := by decide +kernel
theorem dX3_addCourse_1 : decode cX3_addCourse 1 = .ok (.getfield 43, 3) := by decide +kernel
theorem dX3_addCourse_4 : decode cX3_addCourse 4 = .ok (.bipush 16, 2) := by decide +kernel
theorem dX3_addCourse_6 : decode cX3_addCourse 6 = .ok (.if_icmp .ge 21, 3) := by decide +kernel
theorem dX3_addCourse_9 : decode cX3_addCourse 9 = .ok (.iload_n 1, 1) := by decide +kernel
theorem dX3_addCourse_10 : decode cX3_addCourse 10 = .ok (.ifCond .lt 17, 3) := by decide +kernel
theorem dX3_addCourse_13 : decode cX3_addCourse 13 = .ok (.iload_n 1, 1) := by decide +kernel
theorem dX3_addCourse_14 : decode cX3_addCourse 14 = .ok (.bipush 6, 2) := by decide +kernel
theorem dX3_addCourse_16 : decode cX3_addCourse 16 = .ok (.if_icmp .ge 11, 3) := by decide +kernel
theorem dX3_addCourse_19 : decode cX3_addCourse 19 = .ok (.iload_n 2, 1) := by decide +kernel
theorem dX3_addCourse_20 : decode cX3_addCourse 20 = .ok (.iload_n 3, 1) := by decide +kernel
theorem dX3_addCourse_21 : decode cX3_addCourse 21 = .ok (.invokestatic 82, 3) := by decide +kernel
theorem dX3_addCourse_24 : decode cX3_addCourse 24 = .ok (.ifCond .ne 5, 3) := by decide +kernel
theorem dX3_addCourse_27 : decode cX3_addCourse 27 = .ok (.iconst 0, 1) := by decide +kernel
theorem dX3_addCourse_28 : decode cX3_addCourse 28 = .ok (.ireturn, 1) := by decide +kernel
theorem dX3_addCourse_29 : decode cX3_addCourse 29 = .ok (.aload_n 0, 1) := by decide +kernel
theorem dX3_addCourse_30 : decode cX3_addCourse 30 = .ok (.getfield 18, 3) := by decide +kernel
theorem dX3_addCourse_33 : decode cX3_addCourse 33 = .ok (.aload_n 0, 1) := by decide +kernel
theorem dX3_addCourse_34 : decode cX3_addCourse 34 = .ok (.getfield 43, 3) := by decide +kernel
theorem dX3_addCourse_37 : decode cX3_addCourse 37 = .ok (.iload_n 1, 1) := by decide +kernel
theorem dX3_addCourse_38 : decode cX3_addCourse 38 = .ok (.iastore, 1) := by decide +kernel
theorem dX3_addCourse_39 : decode cX3_addCourse 39 = .ok (.aload_n 0, 1) := by decide +kernel
theorem dX3_addCourse_40 : decode cX3_addCourse 40 = .ok (.getfield 21, 3) := by decide +kernel
theorem dX3_addCourse_43 : decode cX3_addCourse 43 = .ok (.aload_n 0, 1) := by decide +kernel
theorem dX3_addCourse_44 : decode cX3_addCourse 44 = .ok (.getfield 43, 3) := by decide +kernel
theorem dX3_addCourse_47 : decode cX3_addCourse 47 = .ok (.iload_n 2, 1) := by decide +kernel
theorem dX3_addCourse_48 : decode cX3_addCourse 48 = .ok (.iastore, 1) := by decide +kernel
theorem dX3_addCourse_49 : decode cX3_addCourse 49 = .ok (.aload_n 0, 1) := by decide +kernel
theorem dX3_addCourse_50 : decode cX3_addCourse 50 = .ok (.getfield 24, 3) := by decide +kernel
theorem dX3_addCourse_53 : decode cX3_addCourse 53 = .ok (.aload_n 0, 1) := by decide +kernel
theorem dX3_addCourse_54 : decode cX3_addCourse 54 = .ok (.getfield 43, 3) := by decide +kernel
theorem dX3_addCourse_57 : decode cX3_addCourse 57 = .ok (.iload_n 3, 1) := by decide +kernel
theorem dX3_addCourse_58 : decode cX3_addCourse 58 = .ok (.iastore, 1) := by decide +kernel
theorem dX3_addCourse_59 : decode cX3_addCourse 59 = .ok (.aload_n 0, 1) := by decide +kernel
theorem dX3_addCourse_60 : decode cX3_addCourse 60 = .ok (.dup, 1) := by decide +kernel
theorem dX3_addCourse_61 : decode cX3_addCourse 61 = .ok (.getfield 43, 3) := by decide +kernel
theorem dX3_addCourse_64 : decode cX3_addCourse 64 = .ok (.iconst 1, 1) := by decide +kernel
theorem dX3_addCourse_65 : decode cX3_addCourse 65 = .ok (.iadd, 1) := by decide +kernel
theorem dX3_addCourse_66 : decode cX3_addCourse 66 = .ok (.putfield 43, 3) := by decide +kernel
theorem dX3_addCourse_69 : decode cX3_addCourse 69 = .ok (.iconst 1, 1) := by decide +kernel
theorem dX3_addCourse_70 : decode cX3_addCourse 70 = .ok (.ireturn, 1) := by decide +kernel
set_option maxRecDepth 20000 in
theorem ggX3_addStones_X3_columnOf : GoodIn wsX3_addStones wsX3_columnOf := goodIn_r _ [5, 6, 7, 8, 4, 9, 10, 21, 22, 23, 24, 25, 26, 27, 28, 29, 30, 31, 32] (by decide +kernel) (by decide +kernel)
set_option maxRecDepth 20000 in
theorem gX3_addStones_X3_columnOf : GoodIn wsX3_addStones (wsV RX3 85 RX3 yX3_columnOf wsX3_columnOf) := goodIn_app (goodIn_of _ (by decide +kernel)) ggX3_addStones_X3_columnOf
set_option maxRecDepth 20000 in
theorem ggX3_addStones_X3_hasCourse : GoodIn wsX3_addStones wsX3_hasCourse := goodIn_r _ [14, 15, 21, 22, 23, 24, 25, 26, 27, 28, 29, 30, 31, 32] (by decide +kernel) (by decide +kernel)
set_option maxRecDepth 20000 in
theorem gX3_addStones_X3_hasCourse : GoodIn wsX3_addStones (wsV RX3 89 RX3 yX3_hasCourse wsX3_hasCourse) := goodIn_app (goodIn_of _ (by decide +kernel)) ggX3_addStones_X3_hasCourse
set_option maxRecDepth 20000 in
theorem ggX3_addStones_X3_addAt : GoodIn wsX3_addStones wsX3_addAt := goodIn_r _ [19, 20, 11, 12, 13, 4, 14, 15, 21, 22, 23, 24, 25, 26, 27, 28, 29, 30, 31, 32] (by decide +kernel) (by decide +kernel)
set_option maxRecDepth 20000 in
theorem gX3_addStones_X3_addAt : GoodIn wsX3_addStones (wsV RX3 92 RX3 yX3_addAt wsX3_addAt) := goodIn_app (goodIn_of _ (by decide +kernel)) ggX3_addStones_X3_addAt
theorem dX3_addStones_0 : decode cX3_addStones 0 = .ok (.aload_n 0, 1) := by decide +kernel
theorem dX3_addStones_1 : decode cX3_addStones 1 = .ok (.iload_n 2, 1) := by decide +kernel
theorem dX3_addStones_2 : decode cX3_addStones 2 = .ok (.invokevirtual 85, 3) := by decide +kernel
theorem dX3_addStones_5 : decode cX3_addStones 5 = .ok (.istore 4, 2) := by decide +kernel
theorem dX3_addStones_7 : decode cX3_addStones 7 = .ok (.aload_n 0, 1) := by decide +kernel
theorem dX3_addStones_8 : decode cX3_addStones 8 = .ok (.iload_n 1, 1) := by decide +kernel
theorem dX3_addStones_9 : decode cX3_addStones 9 = .ok (.invokevirtual 89, 3) := by decide +kernel
theorem dX3_addStones_12 : decode cX3_addStones 12 = .ok (.ifCond .eq 19, 3) := by decide +kernel
theorem dX3_addStones_15 : decode cX3_addStones 15 = .ok (.iload 4, 2) := by decide +kernel
theorem dX3_addStones_17 : decode cX3_addStones 17 = .ok (.ifCond .lt 14, 3) := by decide +kernel
theorem dX3_addStones_20 : decode cX3_addStones 20 = .ok (.iload_n 3, 1) := by decide +kernel
theorem dX3_addStones_21 : decode cX3_addStones 21 = .ok (.iconst 1, 1) := by decide +kernel
theorem dX3_addStones_22 : decode cX3_addStones 22 = .ok (.if_icmp .lt 9, 3) := by decide +kernel
theorem dX3_addStones_25 : decode cX3_addStones 25 = .ok (.iload_n 3, 1) := by decide +kernel
theorem dX3_addStones_26 : decode cX3_addStones 26 = .ok (.bipush 99, 2) := by decide +kernel
theorem dX3_addStones_28 : decode cX3_addStones 28 = .ok (.if_icmp .le 5, 3) := by decide +kernel
theorem dX3_addStones_31 : decode cX3_addStones 31 = .ok (.iconst 0, 1) := by decide +kernel
theorem dX3_addStones_32 : decode cX3_addStones 32 = .ok (.ireturn, 1) := by decide +kernel
theorem dX3_addStones_33 : decode cX3_addStones 33 = .ok (.aload_n 0, 1) := by decide +kernel
theorem dX3_addStones_34 : decode cX3_addStones 34 = .ok (.iload_n 1, 1) := by decide +kernel
theorem dX3_addStones_35 : decode cX3_addStones 35 = .ok (.iload 4, 2) := by decide +kernel
theorem dX3_addStones_37 : decode cX3_addStones 37 = .ok (.iload_n 3, 1) := by decide +kernel
theorem dX3_addStones_38 : decode cX3_addStones 38 = .ok (.invokevirtual 92, 3) := by decide +kernel
theorem dX3_addStones_41 : decode cX3_addStones 41 = .ok (.iconst 1, 1) := by decide +kernel
theorem dX3_addStones_42 : decode cX3_addStones 42 = .ok (.ireturn, 1) := by decide +kernel
theorem dX3_addBegun_0 : decode cX3_addBegun 0 = .ok (.iload_n 1, 1) := by decide +kernel
theorem dX3_addBegun_1 : decode cX3_addBegun 1 = .ok (.ifCond .lt 24, 3) := by decide +kernel
theorem dX3_addBegun_4 : decode cX3_addBegun 4 = .ok (.iload_n 1, 1) := by decide +kernel
theorem dX3_addBegun_5 : decode cX3_addBegun 5 = .ok (.bipush 6, 2) := by decide +kernel
theorem dX3_addBegun_7 : decode cX3_addBegun 7 = .ok (.if_icmp .ge 18, 3) := by decide +kernel
theorem dX3_addBegun_10 : decode cX3_addBegun 10 = .ok (.iload_n 2, 1) := by decide +kernel
theorem dX3_addBegun_11 : decode cX3_addBegun 11 = .ok (.ifCond .lt 14, 3) := by decide +kernel
theorem dX3_addBegun_14 : decode cX3_addBegun 14 = .ok (.iload_n 2, 1) := by decide +kernel
theorem dX3_addBegun_15 : decode cX3_addBegun 15 = .ok (.bipush 6, 2) := by decide +kernel
theorem dX3_addBegun_17 : decode cX3_addBegun 17 = .ok (.if_icmp .ge 8, 3) := by decide +kernel
theorem dX3_addBegun_20 : decode cX3_addBegun 20 = .ok (.iload_n 1, 1) := by decide +kernel
theorem dX3_addBegun_21 : decode cX3_addBegun 21 = .ok (.iload_n 2, 1) := by decide +kernel
theorem dX3_addBegun_22 : decode cX3_addBegun 22 = .ok (.if_icmp .ne 5, 3) := by decide +kernel
theorem dX3_addBegun_25 : decode cX3_addBegun 25 = .ok (.iconst 0, 1) := by decide +kernel
theorem dX3_addBegun_26 : decode cX3_addBegun 26 = .ok (.ireturn, 1) := by decide +kernel
theorem dX3_addBegun_27 : decode cX3_addBegun 27 = .ok (.aload_n 0, 1) := by decide +kernel
theorem dX3_addBegun_28 : decode cX3_addBegun 28 = .ok (.getfield 30, 3) := by decide +kernel
theorem dX3_addBegun_31 : decode cX3_addBegun 31 = .ok (.iload_n 1, 1) := by decide +kernel
theorem dX3_addBegun_32 : decode cX3_addBegun 32 = .ok (.dup2, 1) := by decide +kernel
theorem dX3_addBegun_33 : decode cX3_addBegun 33 = .ok (.iaload, 1) := by decide +kernel
theorem dX3_addBegun_34 : decode cX3_addBegun 34 = .ok (.iconst 1, 1) := by decide +kernel
theorem dX3_addBegun_35 : decode cX3_addBegun 35 = .ok (.iload_n 2, 1) := by decide +kernel
theorem dX3_addBegun_36 : decode cX3_addBegun 36 = .ok (.ishl, 1) := by decide +kernel
theorem dX3_addBegun_37 : decode cX3_addBegun 37 = .ok (.ior, 1) := by decide +kernel
theorem dX3_addBegun_38 : decode cX3_addBegun 38 = .ok (.iastore, 1) := by decide +kernel
theorem dX3_addBegun_39 : decode cX3_addBegun 39 = .ok (.iconst 1, 1) := by decide +kernel
theorem dX3_addBegun_40 : decode cX3_addBegun 40 = .ok (.ireturn, 1) := by decide +kernel
set_option maxRecDepth 20000 in
theorem ggX3_addName_X3_areWeeks : GoodIn wsX3_addName wsX3_areWeeks := goodIn_r _ [6] (by decide +kernel) (by decide +kernel)
set_option maxRecDepth 20000 in
theorem gX3_addName_X3_areWeeks : GoodIn wsX3_addName (va_wsS RX3 82 yX3_areWeeks wsX3_areWeeks) := goodIn_app (goodIn_of _ (by decide +kernel)) ggX3_addName_X3_areWeeks
set_option maxRecDepth 20000 in
theorem ggX3_addName_X3_weekBits : GoodIn wsX3_addName wsX3_weekBits := goodIn_r _ [9] (by decide +kernel) (by decide +kernel)
set_option maxRecDepth 20000 in
theorem gX3_addName_X3_weekBits : GoodIn wsX3_addName (va_wsS RX3 96 yX3_weekBits wsX3_weekBits) := goodIn_app (goodIn_of _ (by decide +kernel)) ggX3_addName_X3_weekBits
theorem dX3_addName_0 : decode cX3_addName 0 = .ok (.aload_n 0, 1) := by decide +kernel
theorem dX3_addName_1 : decode cX3_addName 1 = .ok (.getfield 46, 3) := by decide +kernel
theorem dX3_addName_4 : decode cX3_addName 4 = .ok (.bipush 10, 2) := by decide +kernel
theorem dX3_addName_6 : decode cX3_addName 6 = .ok (.if_icmp .ge 11, 3) := by decide +kernel
theorem dX3_addName_9 : decode cX3_addName 9 = .ok (.iload_n 1, 1) := by decide +kernel
theorem dX3_addName_10 : decode cX3_addName 10 = .ok (.iload_n 2, 1) := by decide +kernel
theorem dX3_addName_11 : decode cX3_addName 11 = .ok (.invokestatic 82, 3) := by decide +kernel
theorem dX3_addName_14 : decode cX3_addName 14 = .ok (.ifCond .ne 5, 3) := by decide +kernel
theorem dX3_addName_17 : decode cX3_addName 17 = .ok (.iconst 0, 1) := by decide +kernel
theorem dX3_addName_18 : decode cX3_addName 18 = .ok (.ireturn, 1) := by decide +kernel
theorem dX3_addName_19 : decode cX3_addName 19 = .ok (.aload_n 0, 1) := by decide +kernel
theorem dX3_addName_20 : decode cX3_addName 20 = .ok (.getfield 33, 3) := by decide +kernel
theorem dX3_addName_23 : decode cX3_addName 23 = .ok (.aload_n 0, 1) := by decide +kernel
theorem dX3_addName_24 : decode cX3_addName 24 = .ok (.getfield 46, 3) := by decide +kernel
theorem dX3_addName_27 : decode cX3_addName 27 = .ok (.iload_n 1, 1) := by decide +kernel
theorem dX3_addName_28 : decode cX3_addName 28 = .ok (.iload_n 2, 1) := by decide +kernel
theorem dX3_addName_29 : decode cX3_addName 29 = .ok (.invokestatic 96, 3) := by decide +kernel
theorem dX3_addName_32 : decode cX3_addName 32 = .ok (.iastore, 1) := by decide +kernel
theorem dX3_addName_33 : decode cX3_addName 33 = .ok (.aload_n 0, 1) := by decide +kernel
theorem dX3_addName_34 : decode cX3_addName 34 = .ok (.dup, 1) := by decide +kernel
theorem dX3_addName_35 : decode cX3_addName 35 = .ok (.getfield 46, 3) := by decide +kernel
theorem dX3_addName_38 : decode cX3_addName 38 = .ok (.iconst 1, 1) := by decide +kernel
theorem dX3_addName_39 : decode cX3_addName 39 = .ok (.iadd, 1) := by decide +kernel
theorem dX3_addName_40 : decode cX3_addName 40 = .ok (.putfield 46, 3) := by decide +kernel
theorem dX3_addName_43 : decode cX3_addName 43 = .ok (.iconst 1, 1) := by decide +kernel
theorem dX3_addName_44 : decode cX3_addName 44 = .ok (.ireturn, 1) := by decide +kernel
set_option maxRecDepth 20000 in
theorem ggX3_addStay_X3_hasName : GoodIn wsX3_addStay wsX3_hasName := goodIn_r _ [6, 7, 14, 15, 16, 17, 18, 19, 20, 21, 22, 23, 24, 25] (by decide +kernel) (by decide +kernel)
set_option maxRecDepth 20000 in
theorem gX3_addStay_X3_hasName : GoodIn wsX3_addStay (wsV RX3 100 RX3 yX3_hasName wsX3_hasName) := goodIn_app (goodIn_of _ (by decide +kernel)) ggX3_addStay_X3_hasName
set_option maxRecDepth 20000 in
theorem ggX3_addStay_X3_areWeeks : GoodIn wsX3_addStay wsX3_areWeeks := goodIn_r _ [10] (by decide +kernel) (by decide +kernel)
set_option maxRecDepth 20000 in
theorem gX3_addStay_X3_areWeeks : GoodIn wsX3_addStay (va_wsS RX3 82 yX3_areWeeks wsX3_areWeeks) := goodIn_app (goodIn_of _ (by decide +kernel)) ggX3_addStay_X3_areWeeks
set_option maxRecDepth 20000 in
theorem ggX3_addStay_X3_weekBits : GoodIn wsX3_addStay wsX3_weekBits := goodIn_r _ [13] (by decide +kernel) (by decide +kernel)
set_option maxRecDepth 20000 in
theorem gX3_addStay_X3_weekBits : GoodIn wsX3_addStay (va_wsS RX3 96 yX3_weekBits wsX3_weekBits) := goodIn_app (goodIn_of _ (by decide +kernel)) ggX3_addStay_X3_weekBits
theorem dX3_addStay_0 : decode cX3_addStay 0 = .ok (.aload_n 0, 1) := by decide +kernel
theorem dX3_addStay_1 : decode cX3_addStay 1 = .ok (.iload_n 1, 1) := by decide +kernel
theorem dX3_addStay_2 : decode cX3_addStay 2 = .ok (.invokevirtual 100, 3) := by decide +kernel
theorem dX3_addStay_5 : decode cX3_addStay 5 = .ok (.ifCond .eq 11, 3) := by decide +kernel
theorem dX3_addStay_8 : decode cX3_addStay 8 = .ok (.iload_n 2, 1) := by decide +kernel
theorem dX3_addStay_9 : decode cX3_addStay 9 = .ok (.iload_n 3, 1) := by decide +kernel
theorem dX3_addStay_10 : decode cX3_addStay 10 = .ok (.invokestatic 82, 3) := by decide +kernel
theorem dX3_addStay_13 : decode cX3_addStay 13 = .ok (.ifCond .ne 5, 3) := by decide +kernel
theorem dX3_addStay_16 : decode cX3_addStay 16 = .ok (.iconst 0, 1) := by decide +kernel
theorem dX3_addStay_17 : decode cX3_addStay 17 = .ok (.ireturn, 1) := by decide +kernel
theorem dX3_addStay_18 : decode cX3_addStay 18 = .ok (.aload_n 0, 1) := by decide +kernel
theorem dX3_addStay_19 : decode cX3_addStay 19 = .ok (.getfield 33, 3) := by decide +kernel
theorem dX3_addStay_22 : decode cX3_addStay 22 = .ok (.iload_n 1, 1) := by decide +kernel
theorem dX3_addStay_23 : decode cX3_addStay 23 = .ok (.dup2, 1) := by decide +kernel
theorem dX3_addStay_24 : decode cX3_addStay 24 = .ok (.iaload, 1) := by decide +kernel
theorem dX3_addStay_25 : decode cX3_addStay 25 = .ok (.iload_n 2, 1) := by decide +kernel
theorem dX3_addStay_26 : decode cX3_addStay 26 = .ok (.iload_n 3, 1) := by decide +kernel
theorem dX3_addStay_27 : decode cX3_addStay 27 = .ok (.invokestatic 96, 3) := by decide +kernel
theorem dX3_addStay_30 : decode cX3_addStay 30 = .ok (.ior, 1) := by decide +kernel
theorem dX3_addStay_31 : decode cX3_addStay 31 = .ok (.iastore, 1) := by decide +kernel
theorem dX3_addStay_32 : decode cX3_addStay 32 = .ok (.iconst 1, 1) := by decide +kernel
theorem dX3_addStay_33 : decode cX3_addStay 33 = .ok (.ireturn, 1) := by decide +kernel
theorem dX3_setPace_0 : decode cX3_setPace 0 = .ok (.iload_n 1, 1) := by decide +kernel
theorem dX3_setPace_1 : decode cX3_setPace 1 = .ok (.iconst 1, 1) := by decide +kernel
theorem dX3_setPace_2 : decode cX3_setPace 2 = .ok (.if_icmp .lt 9, 3) := by decide +kernel
theorem dX3_setPace_5 : decode cX3_setPace 5 = .ok (.iload_n 1, 1) := by decide +kernel
theorem dX3_setPace_6 : decode cX3_setPace 6 = .ok (.bipush 99, 2) := by decide +kernel
theorem dX3_setPace_8 : decode cX3_setPace 8 = .ok (.if_icmp .le 5, 3) := by decide +kernel
theorem dX3_setPace_11 : decode cX3_setPace 11 = .ok (.iconst 0, 1) := by decide +kernel
theorem dX3_setPace_12 : decode cX3_setPace 12 = .ok (.ireturn, 1) := by decide +kernel
theorem dX3_setPace_13 : decode cX3_setPace 13 = .ok (.aload_n 0, 1) := by decide +kernel
theorem dX3_setPace_14 : decode cX3_setPace 14 = .ok (.iload_n 1, 1) := by decide +kernel
theorem dX3_setPace_15 : decode cX3_setPace 15 = .ok (.putfield 36, 3) := by decide +kernel
theorem dX3_setPace_18 : decode cX3_setPace 18 = .ok (.iconst 1, 1) := by decide +kernel
theorem dX3_setPace_19 : decode cX3_setPace 19 = .ok (.ireturn, 1) := by decide +kernel
theorem dX3_areWeeks_0 : decode cX3_areWeeks 0 = .ok (.iload_n 0, 1) := by decide +kernel
theorem dX3_areWeeks_1 : decode cX3_areWeeks 1 = .ok (.ifCond .lt 18, 3) := by decide +kernel
theorem dX3_areWeeks_4 : decode cX3_areWeeks 4 = .ok (.iload_n 0, 1) := by decide +kernel
theorem dX3_areWeeks_5 : decode cX3_areWeeks 5 = .ok (.iload_n 1, 1) := by decide +kernel
theorem dX3_areWeeks_6 : decode cX3_areWeeks 6 = .ok (.if_icmp .gt 13, 3) := by decide +kernel
theorem dX3_areWeeks_9 : decode cX3_areWeeks 9 = .ok (.iload_n 1, 1) := by decide +kernel
theorem dX3_areWeeks_10 : decode cX3_areWeeks 10 = .ok (.bipush 24, 2) := by decide +kernel
theorem dX3_areWeeks_12 : decode cX3_areWeeks 12 = .ok (.if_icmp .ge 7, 3) := by decide +kernel
theorem dX3_areWeeks_15 : decode cX3_areWeeks 15 = .ok (.iconst 1, 1) := by decide +kernel
theorem dX3_areWeeks_16 : decode cX3_areWeeks 16 = .ok (.goto 4, 3) := by decide +kernel
theorem dX3_areWeeks_19 : decode cX3_areWeeks 19 = .ok (.iconst 0, 1) := by decide +kernel
theorem dX3_areWeeks_20 : decode cX3_areWeeks 20 = .ok (.ireturn, 1) := by decide +kernel
theorem dX3_weekBits_0 : decode cX3_weekBits 0 = .ok (.iconst 1, 1) := by decide +kernel
theorem dX3_weekBits_1 : decode cX3_weekBits 1 = .ok (.iload_n 1, 1) := by decide +kernel
theorem dX3_weekBits_2 : decode cX3_weekBits 2 = .ok (.iconst 1, 1) := by decide +kernel
theorem dX3_weekBits_3 : decode cX3_weekBits 3 = .ok (.iadd, 1) := by decide +kernel
theorem dX3_weekBits_4 : decode cX3_weekBits 4 = .ok (.ishl, 1) := by decide +kernel
theorem dX3_weekBits_5 : decode cX3_weekBits 5 = .ok (.iconst 1, 1) := by decide +kernel
theorem dX3_weekBits_6 : decode cX3_weekBits 6 = .ok (.iload_n 0, 1) := by decide +kernel
theorem dX3_weekBits_7 : decode cX3_weekBits 7 = .ok (.ishl, 1) := by decide +kernel
theorem dX3_weekBits_8 : decode cX3_weekBits 8 = .ok (.isub, 1) := by decide +kernel
theorem dX3_weekBits_9 : decode cX3_weekBits 9 = .ok (.ireturn, 1) := by decide +kernel
theorem dX3_hasSign_0 : decode cX3_hasSign 0 = .ok (.iload_n 1, 1) := by decide +kernel
theorem dX3_hasSign_1 : decode cX3_hasSign 1 = .ok (.ifCond .lt 21, 3) := by decide +kernel
theorem dX3_hasSign_4 : decode cX3_hasSign 4 = .ok (.iload_n 1, 1) := by decide +kernel
theorem dX3_hasSign_5 : decode cX3_hasSign 5 = .ok (.aload_n 0, 1) := by decide +kernel
theorem dX3_hasSign_6 : decode cX3_hasSign 6 = .ok (.getfield 40, 3) := by decide +kernel
theorem dX3_hasSign_9 : decode cX3_hasSign 9 = .ok (.if_icmp .ge 13, 3) := by decide +kernel
theorem dX3_hasSign_12 : decode cX3_hasSign 12 = .ok (.iload_n 1, 1) := by decide +kernel
theorem dX3_hasSign_13 : decode cX3_hasSign 13 = .ok (.bipush 16, 2) := by decide +kernel
theorem dX3_hasSign_15 : decode cX3_hasSign 15 = .ok (.if_icmp .ge 7, 3) := by decide +kernel
theorem dX3_hasSign_18 : decode cX3_hasSign 18 = .ok (.iconst 1, 1) := by decide +kernel
theorem dX3_hasSign_19 : decode cX3_hasSign 19 = .ok (.goto 4, 3) := by decide +kernel
theorem dX3_hasSign_22 : decode cX3_hasSign 22 = .ok (.iconst 0, 1) := by decide +kernel
theorem dX3_hasSign_23 : decode cX3_hasSign 23 = .ok (.ireturn, 1) := by decide +kernel
theorem dX3_hasCourse_0 : decode cX3_hasCourse 0 = .ok (.iload_n 1, 1) := by decide +kernel
theorem dX3_hasCourse_1 : decode cX3_hasCourse 1 = .ok (.ifCond .lt 21, 3) := by decide +kernel
theorem dX3_hasCourse_4 : decode cX3_hasCourse 4 = .ok (.iload_n 1, 1) := by decide +kernel
theorem dX3_hasCourse_5 : decode cX3_hasCourse 5 = .ok (.aload_n 0, 1) := by decide +kernel
theorem dX3_hasCourse_6 : decode cX3_hasCourse 6 = .ok (.getfield 43, 3) := by decide +kernel
theorem dX3_hasCourse_9 : decode cX3_hasCourse 9 = .ok (.if_icmp .ge 13, 3) := by decide +kernel
theorem dX3_hasCourse_12 : decode cX3_hasCourse 12 = .ok (.iload_n 1, 1) := by decide +kernel
theorem dX3_hasCourse_13 : decode cX3_hasCourse 13 = .ok (.bipush 16, 2) := by decide +kernel
theorem dX3_hasCourse_15 : decode cX3_hasCourse 15 = .ok (.if_icmp .ge 7, 3) := by decide +kernel
theorem dX3_hasCourse_18 : decode cX3_hasCourse 18 = .ok (.iconst 1, 1) := by decide +kernel
theorem dX3_hasCourse_19 : decode cX3_hasCourse 19 = .ok (.goto 4, 3) := by decide +kernel
theorem dX3_hasCourse_22 : decode cX3_hasCourse 22 = .ok (.iconst 0, 1) := by decide +kernel
theorem dX3_hasCourse_23 : decode cX3_hasCourse 23 = .ok (.ireturn, 1) := by decide +kernel
theorem dX3_hasName_0 : decode cX3_hasName 0 = .ok (.iload_n 1, 1) := by decide +kernel
theorem dX3_hasName_1 : decode cX3_hasName 1 = .ok (.ifCond .lt 21, 3) := by decide +kernel
theorem dX3_hasName_4 : decode cX3_hasName 4 = .ok (.iload_n 1, 1) := by decide +kernel
theorem dX3_hasName_5 : decode cX3_hasName 5 = .ok (.aload_n 0, 1) := by decide +kernel
theorem dX3_hasName_6 : decode cX3_hasName 6 = .ok (.getfield 46, 3) := by decide +kernel
theorem dX3_hasName_9 : decode cX3_hasName 9 = .ok (.if_icmp .ge 13, 3) := by decide +kernel
theorem dX3_hasName_12 : decode cX3_hasName 12 = .ok (.iload_n 1, 1) := by decide +kernel
theorem dX3_hasName_13 : decode cX3_hasName 13 = .ok (.bipush 10, 2) := by decide +kernel
theorem dX3_hasName_15 : decode cX3_hasName 15 = .ok (.if_icmp .ge 7, 3) := by decide +kernel
theorem dX3_hasName_18 : decode cX3_hasName 18 = .ok (.iconst 1, 1) := by decide +kernel
theorem dX3_hasName_19 : decode cX3_hasName 19 = .ok (.goto 4, 3) := by decide +kernel
theorem dX3_hasName_22 : decode cX3_hasName 22 = .ok (.iconst 0, 1) := by decide +kernel
theorem dX3_hasName_23 : decode cX3_hasName 23 = .ok (.ireturn, 1) := by decide +kernel
set_option maxRecDepth 20000 in
theorem ggX3_hasPart_X3_partBits : GoodIn wsX3_hasPart wsX3_partBits := goodIn_r _ [5, 6, 7, 8, 9, 10, 11, 12, 13, 14, 15, 16, 17, 18, 19] (by decide +kernel) (by decide +kernel)
set_option maxRecDepth 20000 in
theorem gX3_hasPart_X3_partBits : GoodIn wsX3_hasPart (wsV RX3 103 RX3 yX3_partBits wsX3_partBits) := goodIn_app (goodIn_of _ (by decide +kernel)) ggX3_hasPart_X3_partBits
theorem dX3_hasPart_0 : decode cX3_hasPart 0 = .ok (.iload_n 1, 1) := by decide +kernel
theorem dX3_hasPart_1 : decode cX3_hasPart 1 = .ok (.ifCond .lt 25, 3) := by decide +kernel
theorem dX3_hasPart_4 : decode cX3_hasPart 4 = .ok (.iload_n 1, 1) := by decide +kernel
theorem dX3_hasPart_5 : decode cX3_hasPart 5 = .ok (.bipush 6, 2) := by decide +kernel
theorem dX3_hasPart_7 : decode cX3_hasPart 7 = .ok (.if_icmp .ge 19, 3) := by decide +kernel
theorem dX3_hasPart_10 : decode cX3_hasPart 10 = .ok (.aload_n 0, 1) := by decide +kernel
theorem dX3_hasPart_11 : decode cX3_hasPart 11 = .ok (.invokevirtual 103, 3) := by decide +kernel
theorem dX3_hasPart_14 : decode cX3_hasPart 14 = .ok (.iload_n 1, 1) := by decide +kernel
theorem dX3_hasPart_15 : decode cX3_hasPart 15 = .ok (.ishr, 1) := by decide +kernel
theorem dX3_hasPart_16 : decode cX3_hasPart 16 = .ok (.iconst 1, 1) := by decide +kernel
theorem dX3_hasPart_17 : decode cX3_hasPart 17 = .ok (.iand, 1) := by decide +kernel
theorem dX3_hasPart_18 : decode cX3_hasPart 18 = .ok (.iconst 1, 1) := by decide +kernel
theorem dX3_hasPart_19 : decode cX3_hasPart 19 = .ok (.if_icmp .ne 7, 3) := by decide +kernel
theorem dX3_hasPart_22 : decode cX3_hasPart 22 = .ok (.iconst 1, 1) := by decide +kernel
theorem dX3_hasPart_23 : decode cX3_hasPart 23 = .ok (.goto 4, 3) := by decide +kernel
theorem dX3_hasPart_26 : decode cX3_hasPart 26 = .ok (.iconst 0, 1) := by decide +kernel
theorem dX3_hasPart_27 : decode cX3_hasPart 27 = .ok (.ireturn, 1) := by decide +kernel
theorem dX3_partBits_0 : decode cX3_partBits 0 = .ok (.iconst 0, 1) := by decide +kernel
theorem dX3_partBits_1 : decode cX3_partBits 1 = .ok (.istore_n 1, 1) := by decide +kernel
theorem dX3_partBits_2 : decode cX3_partBits 2 = .ok (.iconst 0, 1) := by decide +kernel
theorem dX3_partBits_3 : decode cX3_partBits 3 = .ok (.istore_n 2, 1) := by decide +kernel
theorem dX3_partBits_4 : decode cX3_partBits 4 = .ok (.iload_n 2, 1) := by decide +kernel
theorem dX3_partBits_5 : decode cX3_partBits 5 = .ok (.aload_n 0, 1) := by decide +kernel
theorem dX3_partBits_6 : decode cX3_partBits 6 = .ok (.getfield 43, 3) := by decide +kernel
theorem dX3_partBits_9 : decode cX3_partBits 9 = .ok (.if_icmp .ge 20, 3) := by decide +kernel
theorem dX3_partBits_12 : decode cX3_partBits 12 = .ok (.iload_n 1, 1) := by decide +kernel
theorem dX3_partBits_13 : decode cX3_partBits 13 = .ok (.iconst 1, 1) := by decide +kernel
theorem dX3_partBits_14 : decode cX3_partBits 14 = .ok (.aload_n 0, 1) := by decide +kernel
theorem dX3_partBits_15 : decode cX3_partBits 15 = .ok (.getfield 18, 3) := by decide +kernel
theorem dX3_partBits_18 : decode cX3_partBits 18 = .ok (.iload_n 2, 1) := by decide +kernel
theorem dX3_partBits_19 : decode cX3_partBits 19 = .ok (.iaload, 1) := by decide +kernel
theorem dX3_partBits_20 : decode cX3_partBits 20 = .ok (.ishl, 1) := by decide +kernel
theorem dX3_partBits_21 : decode cX3_partBits 21 = .ok (.ior, 1) := by decide +kernel
theorem dX3_partBits_22 : decode cX3_partBits 22 = .ok (.istore_n 1, 1) := by decide +kernel
theorem dX3_partBits_23 : decode cX3_partBits 23 = .ok (.iinc 2 1, 3) := by decide +kernel
theorem dX3_partBits_26 : decode cX3_partBits 26 = .ok (.goto (-22), 3) := by decide +kernel
theorem dX3_partBits_29 : decode cX3_partBits 29 = .ok (.iload_n 1, 1) := by decide +kernel
theorem dX3_partBits_30 : decode cX3_partBits 30 = .ok (.ireturn, 1) := by decide +kernel
set_option maxRecDepth 20000 in
theorem ggX3_columnOf_X3_hasSign : GoodIn wsX3_columnOf wsX3_hasSign := goodIn_r _ [5, 6, 7, 8, 9, 10, 11, 12, 13, 14, 15, 16, 17, 18] (by decide +kernel) (by decide +kernel)
set_option maxRecDepth 20000 in
theorem gX3_columnOf_X3_hasSign : GoodIn wsX3_columnOf (wsV RX3 79 RX3 yX3_hasSign wsX3_hasSign) := goodIn_app (goodIn_of _ (by decide +kernel)) ggX3_columnOf_X3_hasSign
theorem dX3_columnOf_0 : decode cX3_columnOf 0 = .ok (.iload_n 1, 1) := by decide +kernel
theorem dX3_columnOf_1 : decode cX3_columnOf 1 = .ok (.bipush 98, 2) := by decide +kernel
theorem dX3_columnOf_3 : decode cX3_columnOf 3 = .ok (.if_icmp .ne 6, 3) := by decide +kernel
theorem dX3_columnOf_6 : decode cX3_columnOf 6 = .ok (.bipush 16, 2) := by decide +kernel
theorem dX3_columnOf_8 : decode cX3_columnOf 8 = .ok (.ireturn, 1) := by decide +kernel
theorem dX3_columnOf_9 : decode cX3_columnOf 9 = .ok (.iload_n 1, 1) := by decide +kernel
theorem dX3_columnOf_10 : decode cX3_columnOf 10 = .ok (.bipush 99, 2) := by decide +kernel
theorem dX3_columnOf_12 : decode cX3_columnOf 12 = .ok (.if_icmp .ne 6, 3) := by decide +kernel
theorem dX3_columnOf_15 : decode cX3_columnOf 15 = .ok (.bipush 17, 2) := by decide +kernel
theorem dX3_columnOf_17 : decode cX3_columnOf 17 = .ok (.ireturn, 1) := by decide +kernel
theorem dX3_columnOf_18 : decode cX3_columnOf 18 = .ok (.aload_n 0, 1) := by decide +kernel
theorem dX3_columnOf_19 : decode cX3_columnOf 19 = .ok (.iload_n 1, 1) := by decide +kernel
theorem dX3_columnOf_20 : decode cX3_columnOf 20 = .ok (.invokevirtual 79, 3) := by decide +kernel
theorem dX3_columnOf_23 : decode cX3_columnOf 23 = .ok (.ifCond .eq 7, 3) := by decide +kernel
theorem dX3_columnOf_26 : decode cX3_columnOf 26 = .ok (.iload_n 1, 1) := by decide +kernel
theorem dX3_columnOf_27 : decode cX3_columnOf 27 = .ok (.goto 5, 3) := by decide +kernel
theorem dX3_columnOf_30 : decode cX3_columnOf 30 = .ok (.bipush (-4), 2) := by decide +kernel
theorem dX3_columnOf_32 : decode cX3_columnOf 32 = .ok (.ireturn, 1) := by decide +kernel
set_option maxRecDepth 20000 in
theorem ggX3_stonesAt_X3_hasCourse : GoodIn wsX3_stonesAt wsX3_hasCourse := goodIn_r _ [6, 7, 8, 9, 10, 11, 12, 13, 14, 15, 16, 17, 18, 19] (by decide +kernel) (by decide +kernel)
set_option maxRecDepth 20000 in
theorem gX3_stonesAt_X3_hasCourse : GoodIn wsX3_stonesAt (wsV RX3 89 RX3 yX3_hasCourse wsX3_hasCourse) := goodIn_app (goodIn_of _ (by decide +kernel)) ggX3_stonesAt_X3_hasCourse
theorem dX3_stonesAt_0 : decode cX3_stonesAt 0 = .ok (.aload_n 0, 1) := by decide +kernel
theorem dX3_stonesAt_1 : decode cX3_stonesAt 1 = .ok (.iload_n 1, 1) := by decide +kernel
theorem dX3_stonesAt_2 : decode cX3_stonesAt 2 = .ok (.invokevirtual 89, 3) := by decide +kernel
theorem dX3_stonesAt_5 : decode cX3_stonesAt 5 = .ok (.ifCond .eq 17, 3) := by decide +kernel
theorem dX3_stonesAt_8 : decode cX3_stonesAt 8 = .ok (.iload_n 2, 1) := by decide +kernel
theorem dX3_stonesAt_9 : decode cX3_stonesAt 9 = .ok (.ifCond .lt 13, 3) := by decide +kernel
theorem dX3_stonesAt_12 : decode cX3_stonesAt 12 = .ok (.iload_n 2, 1) := by decide +kernel
theorem dX3_stonesAt_13 : decode cX3_stonesAt 13 = .ok (.bipush 18, 2) := by decide +kernel
theorem dX3_stonesAt_15 : decode cX3_stonesAt 15 = .ok (.if_icmp .ge 7, 3) := by decide +kernel
theorem dX3_stonesAt_18 : decode cX3_stonesAt 18 = .ok (.iconst 1, 1) := by decide +kernel
theorem dX3_stonesAt_19 : decode cX3_stonesAt 19 = .ok (.goto 4, 3) := by decide +kernel
theorem dX3_stonesAt_22 : decode cX3_stonesAt 22 = .ok (.iconst 0, 1) := by decide +kernel
theorem dX3_stonesAt_23 : decode cX3_stonesAt 23 = .ok (.istore_n 3, 1) := by decide +kernel
theorem dX3_stonesAt_24 : decode cX3_stonesAt 24 = .ok (.iload_n 3, 1) := by decide +kernel
theorem dX3_stonesAt_25 : decode cX3_stonesAt 25 = .ok (.ifCond .eq 17, 3) := by decide +kernel
theorem dX3_stonesAt_28 : decode cX3_stonesAt 28 = .ok (.aload_n 0, 1) := by decide +kernel
theorem dX3_stonesAt_29 : decode cX3_stonesAt 29 = .ok (.getfield 27, 3) := by decide +kernel
theorem dX3_stonesAt_32 : decode cX3_stonesAt 32 = .ok (.iload_n 1, 1) := by decide +kernel
theorem dX3_stonesAt_33 : decode cX3_stonesAt 33 = .ok (.bipush 18, 2) := by decide +kernel
theorem dX3_stonesAt_35 : decode cX3_stonesAt 35 = .ok (.imul, 1) := by decide +kernel
theorem dX3_stonesAt_36 : decode cX3_stonesAt 36 = .ok (.iload_n 2, 1) := by decide +kernel
theorem dX3_stonesAt_37 : decode cX3_stonesAt 37 = .ok (.iadd, 1) := by decide +kernel
theorem dX3_stonesAt_38 : decode cX3_stonesAt 38 = .ok (.iaload, 1) := by decide +kernel
theorem dX3_stonesAt_39 : decode cX3_stonesAt 39 = .ok (.goto 4, 3) := by decide +kernel
theorem dX3_stonesAt_42 : decode cX3_stonesAt 42 = .ok (.iconst 0, 1) := by decide +kernel
theorem dX3_stonesAt_43 : decode cX3_stonesAt 43 = .ok (.ireturn, 1) := by decide +kernel
set_option maxRecDepth 20000 in
theorem ggX3_addAt_X3_hasCourse : GoodIn wsX3_addAt wsX3_hasCourse := goodIn_r _ [6, 7, 8, 9, 10, 11, 12, 13, 14, 15, 16, 17, 18, 19] (by decide +kernel) (by decide +kernel)
set_option maxRecDepth 20000 in
theorem gX3_addAt_X3_hasCourse : GoodIn wsX3_addAt (wsV RX3 89 RX3 yX3_hasCourse wsX3_hasCourse) := goodIn_app (goodIn_of _ (by decide +kernel)) ggX3_addAt_X3_hasCourse
theorem dX3_addAt_0 : decode cX3_addAt 0 = .ok (.aload_n 0, 1) := by decide +kernel
theorem dX3_addAt_1 : decode cX3_addAt 1 = .ok (.iload_n 1, 1) := by decide +kernel
theorem dX3_addAt_2 : decode cX3_addAt 2 = .ok (.invokevirtual 89, 3) := by decide +kernel
theorem dX3_addAt_5 : decode cX3_addAt 5 = .ok (.ifCond .eq 28, 3) := by decide +kernel
theorem dX3_addAt_8 : decode cX3_addAt 8 = .ok (.iload_n 2, 1) := by decide +kernel
theorem dX3_addAt_9 : decode cX3_addAt 9 = .ok (.ifCond .lt 24, 3) := by decide +kernel
theorem dX3_addAt_12 : decode cX3_addAt 12 = .ok (.iload_n 2, 1) := by decide +kernel
theorem dX3_addAt_13 : decode cX3_addAt 13 = .ok (.bipush 18, 2) := by decide +kernel
theorem dX3_addAt_15 : decode cX3_addAt 15 = .ok (.if_icmp .ge 18, 3) := by decide +kernel
theorem dX3_addAt_18 : decode cX3_addAt 18 = .ok (.aload_n 0, 1) := by decide +kernel
theorem dX3_addAt_19 : decode cX3_addAt 19 = .ok (.getfield 27, 3) := by decide +kernel
theorem dX3_addAt_22 : decode cX3_addAt 22 = .ok (.iload_n 1, 1) := by decide +kernel
theorem dX3_addAt_23 : decode cX3_addAt 23 = .ok (.bipush 18, 2) := by decide +kernel
theorem dX3_addAt_25 : decode cX3_addAt 25 = .ok (.imul, 1) := by decide +kernel
theorem dX3_addAt_26 : decode cX3_addAt 26 = .ok (.iload_n 2, 1) := by decide +kernel
theorem dX3_addAt_27 : decode cX3_addAt 27 = .ok (.iadd, 1) := by decide +kernel
theorem dX3_addAt_28 : decode cX3_addAt 28 = .ok (.dup2, 1) := by decide +kernel
theorem dX3_addAt_29 : decode cX3_addAt 29 = .ok (.iaload, 1) := by decide +kernel
theorem dX3_addAt_30 : decode cX3_addAt 30 = .ok (.iload_n 3, 1) := by decide +kernel
theorem dX3_addAt_31 : decode cX3_addAt 31 = .ok (.iadd, 1) := by decide +kernel
theorem dX3_addAt_32 : decode cX3_addAt 32 = .ok (.iastore, 1) := by decide +kernel
theorem dX3_addAt_33 : decode cX3_addAt 33 = .ok (.return_, 1) := by decide +kernel
set_option maxRecDepth 20000 in
theorem ggX3_stonesOfCourse_X3_stonesAt : GoodIn wsX3_stonesOfCourse wsX3_stonesAt := goodIn_r _ [5, 6, 7, 8, 9, 4, 10, 11, 12, 13, 14, 15, 16, 17, 18, 19, 20, 21, 22, 23] (by decide +kernel) (by decide +kernel)
set_option maxRecDepth 20000 in
theorem gX3_stonesOfCourse_X3_stonesAt : GoodIn wsX3_stonesOfCourse (wsV RX3 107 RX3 yX3_stonesAt wsX3_stonesAt) := goodIn_app (goodIn_of _ (by decide +kernel)) ggX3_stonesOfCourse_X3_stonesAt
theorem dX3_stonesOfCourse_0 : decode cX3_stonesOfCourse 0 = .ok (.iconst 0, 1) := by decide +kernel
theorem dX3_stonesOfCourse_1 : decode cX3_stonesOfCourse 1 = .ok (.istore_n 2, 1) := by decide +kernel
theorem dX3_stonesOfCourse_2 : decode cX3_stonesOfCourse 2 = .ok (.iconst 0, 1) := by decide +kernel
theorem dX3_stonesOfCourse_3 : decode cX3_stonesOfCourse 3 = .ok (.istore_n 3, 1) := by decide +kernel
theorem dX3_stonesOfCourse_4 : decode cX3_stonesOfCourse 4 = .ok (.iload_n 3, 1) := by decide +kernel
theorem dX3_stonesOfCourse_5 : decode cX3_stonesOfCourse 5 = .ok (.bipush 18, 2) := by decide +kernel
theorem dX3_stonesOfCourse_7 : decode cX3_stonesOfCourse 7 = .ok (.if_icmp .ge 18, 3) := by decide +kernel
theorem dX3_stonesOfCourse_10 : decode cX3_stonesOfCourse 10 = .ok (.iload_n 2, 1) := by decide +kernel
theorem dX3_stonesOfCourse_11 : decode cX3_stonesOfCourse 11 = .ok (.aload_n 0, 1) := by decide +kernel
theorem dX3_stonesOfCourse_12 : decode cX3_stonesOfCourse 12 = .ok (.iload_n 1, 1) := by decide +kernel
theorem dX3_stonesOfCourse_13 : decode cX3_stonesOfCourse 13 = .ok (.iload_n 3, 1) := by decide +kernel
theorem dX3_stonesOfCourse_14 : decode cX3_stonesOfCourse 14 = .ok (.invokevirtual 107, 3) := by decide +kernel
theorem dX3_stonesOfCourse_17 : decode cX3_stonesOfCourse 17 = .ok (.iadd, 1) := by decide +kernel
theorem dX3_stonesOfCourse_18 : decode cX3_stonesOfCourse 18 = .ok (.istore_n 2, 1) := by decide +kernel
theorem dX3_stonesOfCourse_19 : decode cX3_stonesOfCourse 19 = .ok (.iinc 3 1, 3) := by decide +kernel
theorem dX3_stonesOfCourse_22 : decode cX3_stonesOfCourse 22 = .ok (.goto (-18), 3) := by decide +kernel
theorem dX3_stonesOfCourse_25 : decode cX3_stonesOfCourse 25 = .ok (.iload_n 2, 1) := by decide +kernel
theorem dX3_stonesOfCourse_26 : decode cX3_stonesOfCourse 26 = .ok (.ireturn, 1) := by decide +kernel
set_option maxRecDepth 20000 in
theorem ggX3_stonesOfPart_X3_stonesAt : GoodIn wsX3_stonesOfPart wsX3_stonesAt := goodIn_r _ [7, 8, 9, 10, 11, 6, 12, 1, 13, 14, 15, 16, 17, 18, 19, 20, 21, 22, 23, 24] (by decide +kernel) (by decide +kernel)
set_option maxRecDepth 20000 in
theorem gX3_stonesOfPart_X3_stonesAt : GoodIn wsX3_stonesOfPart (wsV RX3 107 RX3 yX3_stonesAt wsX3_stonesAt) := goodIn_app (goodIn_of _ (by decide +kernel)) ggX3_stonesOfPart_X3_stonesAt
theorem dX3_stonesOfPart_0 : decode cX3_stonesOfPart 0 = .ok (.iconst 0, 1) := by decide +kernel
theorem dX3_stonesOfPart_1 : decode cX3_stonesOfPart 1 = .ok (.istore_n 3, 1) := by decide +kernel
theorem dX3_stonesOfPart_2 : decode cX3_stonesOfPart 2 = .ok (.iconst 0, 1) := by decide +kernel
theorem dX3_stonesOfPart_3 : decode cX3_stonesOfPart 3 = .ok (.istore 4, 2) := by decide +kernel
theorem dX3_stonesOfPart_5 : decode cX3_stonesOfPart 5 = .ok (.iload 4, 2) := by decide +kernel
theorem dX3_stonesOfPart_7 : decode cX3_stonesOfPart 7 = .ok (.aload_n 0, 1) := by decide +kernel
theorem dX3_stonesOfPart_8 : decode cX3_stonesOfPart 8 = .ok (.getfield 43, 3) := by decide +kernel
theorem dX3_stonesOfPart_11 : decode cX3_stonesOfPart 11 = .ok (.if_icmp .ge 30, 3) := by decide +kernel
theorem dX3_stonesOfPart_14 : decode cX3_stonesOfPart 14 = .ok (.aload_n 0, 1) := by decide +kernel
theorem dX3_stonesOfPart_15 : decode cX3_stonesOfPart 15 = .ok (.getfield 18, 3) := by decide +kernel
theorem dX3_stonesOfPart_18 : decode cX3_stonesOfPart 18 = .ok (.iload 4, 2) := by decide +kernel
theorem dX3_stonesOfPart_20 : decode cX3_stonesOfPart 20 = .ok (.iaload, 1) := by decide +kernel
theorem dX3_stonesOfPart_21 : decode cX3_stonesOfPart 21 = .ok (.iload_n 1, 1) := by decide +kernel
theorem dX3_stonesOfPart_22 : decode cX3_stonesOfPart 22 = .ok (.if_icmp .ne 13, 3) := by decide +kernel
theorem dX3_stonesOfPart_25 : decode cX3_stonesOfPart 25 = .ok (.iload_n 3, 1) := by decide +kernel
theorem dX3_stonesOfPart_26 : decode cX3_stonesOfPart 26 = .ok (.aload_n 0, 1) := by decide +kernel
theorem dX3_stonesOfPart_27 : decode cX3_stonesOfPart 27 = .ok (.iload 4, 2) := by decide +kernel
theorem dX3_stonesOfPart_29 : decode cX3_stonesOfPart 29 = .ok (.iload_n 2, 1) := by decide +kernel
theorem dX3_stonesOfPart_30 : decode cX3_stonesOfPart 30 = .ok (.invokevirtual 107, 3) := by decide +kernel
theorem dX3_stonesOfPart_33 : decode cX3_stonesOfPart 33 = .ok (.iadd, 1) := by decide +kernel
theorem dX3_stonesOfPart_34 : decode cX3_stonesOfPart 34 = .ok (.istore_n 3, 1) := by decide +kernel
theorem dX3_stonesOfPart_35 : decode cX3_stonesOfPart 35 = .ok (.iinc 4 1, 3) := by decide +kernel
theorem dX3_stonesOfPart_38 : decode cX3_stonesOfPart 38 = .ok (.goto (-33), 3) := by decide +kernel
theorem dX3_stonesOfPart_41 : decode cX3_stonesOfPart 41 = .ok (.iload_n 3, 1) := by decide +kernel
theorem dX3_stonesOfPart_42 : decode cX3_stonesOfPart 42 = .ok (.ireturn, 1) := by decide +kernel
set_option maxRecDepth 20000 in
theorem ggX3_stonesShowing_X3_stonesAt : GoodIn wsX3_stonesShowing wsX3_stonesAt := goodIn_r _ [6, 7, 8, 9, 10, 5, 11, 1, 12, 13, 14, 15, 16, 17, 18, 19, 20, 21, 22, 23] (by decide +kernel) (by decide +kernel)
set_option maxRecDepth 20000 in
theorem gX3_stonesShowing_X3_stonesAt : GoodIn wsX3_stonesShowing (wsV RX3 107 RX3 yX3_stonesAt wsX3_stonesAt) := goodIn_app (goodIn_of _ (by decide +kernel)) ggX3_stonesShowing_X3_stonesAt
theorem dX3_stonesShowing_0 : decode cX3_stonesShowing 0 = .ok (.iconst 0, 1) := by decide +kernel
theorem dX3_stonesShowing_1 : decode cX3_stonesShowing 1 = .ok (.istore_n 2, 1) := by decide +kernel
theorem dX3_stonesShowing_2 : decode cX3_stonesShowing 2 = .ok (.iconst 0, 1) := by decide +kernel
theorem dX3_stonesShowing_3 : decode cX3_stonesShowing 3 = .ok (.istore_n 3, 1) := by decide +kernel
theorem dX3_stonesShowing_4 : decode cX3_stonesShowing 4 = .ok (.iload_n 3, 1) := by decide +kernel
theorem dX3_stonesShowing_5 : decode cX3_stonesShowing 5 = .ok (.aload_n 0, 1) := by decide +kernel
theorem dX3_stonesShowing_6 : decode cX3_stonesShowing 6 = .ok (.getfield 43, 3) := by decide +kernel
theorem dX3_stonesShowing_9 : decode cX3_stonesShowing 9 = .ok (.if_icmp .ge 18, 3) := by decide +kernel
theorem dX3_stonesShowing_12 : decode cX3_stonesShowing 12 = .ok (.iload_n 2, 1) := by decide +kernel
theorem dX3_stonesShowing_13 : decode cX3_stonesShowing 13 = .ok (.aload_n 0, 1) := by decide +kernel
theorem dX3_stonesShowing_14 : decode cX3_stonesShowing 14 = .ok (.iload_n 3, 1) := by decide +kernel
theorem dX3_stonesShowing_15 : decode cX3_stonesShowing 15 = .ok (.iload_n 1, 1) := by decide +kernel
theorem dX3_stonesShowing_16 : decode cX3_stonesShowing 16 = .ok (.invokevirtual 107, 3) := by decide +kernel
theorem dX3_stonesShowing_19 : decode cX3_stonesShowing 19 = .ok (.iadd, 1) := by decide +kernel
theorem dX3_stonesShowing_20 : decode cX3_stonesShowing 20 = .ok (.istore_n 2, 1) := by decide +kernel
theorem dX3_stonesShowing_21 : decode cX3_stonesShowing 21 = .ok (.iinc 3 1, 3) := by decide +kernel
theorem dX3_stonesShowing_24 : decode cX3_stonesShowing 24 = .ok (.goto (-20), 3) := by decide +kernel
theorem dX3_stonesShowing_27 : decode cX3_stonesShowing 27 = .ok (.iload_n 2, 1) := by decide +kernel
theorem dX3_stonesShowing_28 : decode cX3_stonesShowing 28 = .ok (.ireturn, 1) := by decide +kernel
set_option maxRecDepth 20000 in
theorem ggX3_allStones_X3_stonesOfCourse : GoodIn wsX3_allStones wsX3_stonesOfCourse := goodIn_r _ [6, 7, 8, 9, 5, 10, 11, 12, 13, 14, 15, 1, 16, 17, 18, 19, 20, 21, 22, 23, 24, 25, 26, 27] (by decide +kernel) (by decide +kernel)
set_option maxRecDepth 20000 in
theorem gX3_allStones_X3_stonesOfCourse : GoodIn wsX3_allStones (wsV RX3 110 RX3 yX3_stonesOfCourse wsX3_stonesOfCourse) := goodIn_app (goodIn_of _ (by decide +kernel)) ggX3_allStones_X3_stonesOfCourse
theorem dX3_allStones_0 : decode cX3_allStones 0 = .ok (.iconst 0, 1) := by decide +kernel
theorem dX3_allStones_1 : decode cX3_allStones 1 = .ok (.istore_n 1, 1) := by decide +kernel
theorem dX3_allStones_2 : decode cX3_allStones 2 = .ok (.iconst 0, 1) := by decide +kernel
theorem dX3_allStones_3 : decode cX3_allStones 3 = .ok (.istore_n 2, 1) := by decide +kernel
theorem dX3_allStones_4 : decode cX3_allStones 4 = .ok (.iload_n 2, 1) := by decide +kernel
theorem dX3_allStones_5 : decode cX3_allStones 5 = .ok (.aload_n 0, 1) := by decide +kernel
theorem dX3_allStones_6 : decode cX3_allStones 6 = .ok (.getfield 43, 3) := by decide +kernel
theorem dX3_allStones_9 : decode cX3_allStones 9 = .ok (.if_icmp .ge 17, 3) := by decide +kernel
theorem dX3_allStones_12 : decode cX3_allStones 12 = .ok (.iload_n 1, 1) := by decide +kernel
theorem dX3_allStones_13 : decode cX3_allStones 13 = .ok (.aload_n 0, 1) := by decide +kernel
theorem dX3_allStones_14 : decode cX3_allStones 14 = .ok (.iload_n 2, 1) := by decide +kernel
theorem dX3_allStones_15 : decode cX3_allStones 15 = .ok (.invokevirtual 110, 3) := by decide +kernel
theorem dX3_allStones_18 : decode cX3_allStones 18 = .ok (.iadd, 1) := by decide +kernel
theorem dX3_allStones_19 : decode cX3_allStones 19 = .ok (.istore_n 1, 1) := by decide +kernel
theorem dX3_allStones_20 : decode cX3_allStones 20 = .ok (.iinc 2 1, 3) := by decide +kernel
theorem dX3_allStones_23 : decode cX3_allStones 23 = .ok (.goto (-19), 3) := by decide +kernel
theorem dX3_allStones_26 : decode cX3_allStones 26 = .ok (.iload_n 1, 1) := by decide +kernel
theorem dX3_allStones_27 : decode cX3_allStones 27 = .ok (.ireturn, 1) := by decide +kernel
set_option maxRecDepth 20000 in
theorem ggX3_partsShowing_X3_stonesAt : GoodIn wsX3_partsShowing wsX3_stonesAt := goodIn_r _ [7, 8, 9, 10, 11, 6, 12, 1, 13, 14, 15, 16, 17, 18, 19, 20, 21, 22, 23, 24] (by decide +kernel) (by decide +kernel)
set_option maxRecDepth 20000 in
theorem gX3_partsShowing_X3_stonesAt : GoodIn wsX3_partsShowing (wsV RX3 107 RX3 yX3_stonesAt wsX3_stonesAt) := goodIn_app (goodIn_of _ (by decide +kernel)) ggX3_partsShowing_X3_stonesAt
theorem dX3_partsShowing_0 : decode cX3_partsShowing 0 = .ok (.iconst 0, 1) := by decide +kernel
theorem dX3_partsShowing_1 : decode cX3_partsShowing 1 = .ok (.istore_n 2, 1) := by decide +kernel
theorem dX3_partsShowing_2 : decode cX3_partsShowing 2 = .ok (.iconst 0, 1) := by decide +kernel
theorem dX3_partsShowing_3 : decode cX3_partsShowing 3 = .ok (.istore_n 3, 1) := by decide +kernel
theorem dX3_partsShowing_4 : decode cX3_partsShowing 4 = .ok (.iload_n 3, 1) := by decide +kernel
theorem dX3_partsShowing_5 : decode cX3_partsShowing 5 = .ok (.aload_n 0, 1) := by decide +kernel
theorem dX3_partsShowing_6 : decode cX3_partsShowing 6 = .ok (.getfield 43, 3) := by decide +kernel
theorem dX3_partsShowing_9 : decode cX3_partsShowing 9 = .ok (.if_icmp .ge 29, 3) := by decide +kernel
theorem dX3_partsShowing_12 : decode cX3_partsShowing 12 = .ok (.aload_n 0, 1) := by decide +kernel
theorem dX3_partsShowing_13 : decode cX3_partsShowing 13 = .ok (.iload_n 3, 1) := by decide +kernel
theorem dX3_partsShowing_14 : decode cX3_partsShowing 14 = .ok (.iload_n 1, 1) := by decide +kernel
theorem dX3_partsShowing_15 : decode cX3_partsShowing 15 = .ok (.invokevirtual 107, 3) := by decide +kernel
theorem dX3_partsShowing_18 : decode cX3_partsShowing 18 = .ok (.ifCond .le 14, 3) := by decide +kernel
theorem dX3_partsShowing_21 : decode cX3_partsShowing 21 = .ok (.iload_n 2, 1) := by decide +kernel
theorem dX3_partsShowing_22 : decode cX3_partsShowing 22 = .ok (.iconst 1, 1) := by decide +kernel
theorem dX3_partsShowing_23 : decode cX3_partsShowing 23 = .ok (.aload_n 0, 1) := by decide +kernel
theorem dX3_partsShowing_24 : decode cX3_partsShowing 24 = .ok (.getfield 18, 3) := by decide +kernel
theorem dX3_partsShowing_27 : decode cX3_partsShowing 27 = .ok (.iload_n 3, 1) := by decide +kernel
theorem dX3_partsShowing_28 : decode cX3_partsShowing 28 = .ok (.iaload, 1) := by decide +kernel
theorem dX3_partsShowing_29 : decode cX3_partsShowing 29 = .ok (.ishl, 1) := by decide +kernel
theorem dX3_partsShowing_30 : decode cX3_partsShowing 30 = .ok (.ior, 1) := by decide +kernel
theorem dX3_partsShowing_31 : decode cX3_partsShowing 31 = .ok (.istore_n 2, 1) := by decide +kernel
theorem dX3_partsShowing_32 : decode cX3_partsShowing 32 = .ok (.iinc 3 1, 3) := by decide +kernel
theorem dX3_partsShowing_35 : decode cX3_partsShowing 35 = .ok (.goto (-31), 3) := by decide +kernel
theorem dX3_partsShowing_38 : decode cX3_partsShowing 38 = .ok (.iload_n 2, 1) := by decide +kernel
theorem dX3_partsShowing_39 : decode cX3_partsShowing 39 = .ok (.ireturn, 1) := by decide +kernel
set_option maxRecDepth 20000 in
theorem ggX3_signsIn_X3_signsShownBy : GoodIn wsX3_signsIn wsX3_signsShownBy := goodIn_r _ [7, 8, 9, 10, 11, 6, 12, 13, 14, 15, 16, 17, 1, 18, 19, 20, 21, 22, 23, 24, 25, 26, 27, 28, 29] (by decide +kernel) (by decide +kernel)
set_option maxRecDepth 20000 in
theorem gX3_signsIn_X3_signsShownBy : GoodIn wsX3_signsIn (wsV RX3 113 RX3 yX3_signsShownBy wsX3_signsShownBy) := goodIn_app (goodIn_of _ (by decide +kernel)) ggX3_signsIn_X3_signsShownBy
theorem dX3_signsIn_0 : decode cX3_signsIn 0 = .ok (.iconst 0, 1) := by decide +kernel
theorem dX3_signsIn_1 : decode cX3_signsIn 1 = .ok (.istore_n 2, 1) := by decide +kernel
theorem dX3_signsIn_2 : decode cX3_signsIn 2 = .ok (.iconst 0, 1) := by decide +kernel
theorem dX3_signsIn_3 : decode cX3_signsIn 3 = .ok (.istore_n 3, 1) := by decide +kernel
theorem dX3_signsIn_4 : decode cX3_signsIn 4 = .ok (.iload_n 3, 1) := by decide +kernel
theorem dX3_signsIn_5 : decode cX3_signsIn 5 = .ok (.aload_n 0, 1) := by decide +kernel
theorem dX3_signsIn_6 : decode cX3_signsIn 6 = .ok (.getfield 43, 3) := by decide +kernel
theorem dX3_signsIn_9 : decode cX3_signsIn 9 = .ok (.if_icmp .ge 27, 3) := by decide +kernel
theorem dX3_signsIn_12 : decode cX3_signsIn 12 = .ok (.aload_n 0, 1) := by decide +kernel
theorem dX3_signsIn_13 : decode cX3_signsIn 13 = .ok (.getfield 18, 3) := by decide +kernel
theorem dX3_signsIn_16 : decode cX3_signsIn 16 = .ok (.iload_n 3, 1) := by decide +kernel
theorem dX3_signsIn_17 : decode cX3_signsIn 17 = .ok (.iaload, 1) := by decide +kernel
theorem dX3_signsIn_18 : decode cX3_signsIn 18 = .ok (.iload_n 1, 1) := by decide +kernel
theorem dX3_signsIn_19 : decode cX3_signsIn 19 = .ok (.if_icmp .ne 11, 3) := by decide +kernel
theorem dX3_signsIn_22 : decode cX3_signsIn 22 = .ok (.iload_n 2, 1) := by decide +kernel
theorem dX3_signsIn_23 : decode cX3_signsIn 23 = .ok (.aload_n 0, 1) := by decide +kernel
theorem dX3_signsIn_24 : decode cX3_signsIn 24 = .ok (.iload_n 3, 1) := by decide +kernel
theorem dX3_signsIn_25 : decode cX3_signsIn 25 = .ok (.invokevirtual 113, 3) := by decide +kernel
theorem dX3_signsIn_28 : decode cX3_signsIn 28 = .ok (.ior, 1) := by decide +kernel
theorem dX3_signsIn_29 : decode cX3_signsIn 29 = .ok (.istore_n 2, 1) := by decide +kernel
theorem dX3_signsIn_30 : decode cX3_signsIn 30 = .ok (.iinc 3 1, 3) := by decide +kernel
theorem dX3_signsIn_33 : decode cX3_signsIn 33 = .ok (.goto (-29), 3) := by decide +kernel
theorem dX3_signsIn_36 : decode cX3_signsIn 36 = .ok (.iload_n 2, 1) := by decide +kernel
theorem dX3_signsIn_37 : decode cX3_signsIn 37 = .ok (.ireturn, 1) := by decide +kernel
set_option maxRecDepth 20000 in
theorem ggX3_signsShownBy_X3_stonesAt : GoodIn wsX3_signsShownBy wsX3_stonesAt := goodIn_r _ [6, 7, 8, 9, 10, 5, 11, 12, 13, 14, 15, 16, 17, 18, 19, 20, 21, 22, 23, 24] (by decide +kernel) (by decide +kernel)
set_option maxRecDepth 20000 in
theorem gX3_signsShownBy_X3_stonesAt : GoodIn wsX3_signsShownBy (wsV RX3 107 RX3 yX3_stonesAt wsX3_stonesAt) := goodIn_app (goodIn_of _ (by decide +kernel)) ggX3_signsShownBy_X3_stonesAt
theorem dX3_signsShownBy_0 : decode cX3_signsShownBy 0 = .ok (.iconst 0, 1) := by decide +kernel
theorem dX3_signsShownBy_1 : decode cX3_signsShownBy 1 = .ok (.istore_n 2, 1) := by decide +kernel
theorem dX3_signsShownBy_2 : decode cX3_signsShownBy 2 = .ok (.iconst 0, 1) := by decide +kernel
theorem dX3_signsShownBy_3 : decode cX3_signsShownBy 3 = .ok (.istore_n 3, 1) := by decide +kernel
theorem dX3_signsShownBy_4 : decode cX3_signsShownBy 4 = .ok (.iload_n 3, 1) := by decide +kernel
theorem dX3_signsShownBy_5 : decode cX3_signsShownBy 5 = .ok (.aload_n 0, 1) := by decide +kernel
theorem dX3_signsShownBy_6 : decode cX3_signsShownBy 6 = .ok (.getfield 40, 3) := by decide +kernel
theorem dX3_signsShownBy_9 : decode cX3_signsShownBy 9 = .ok (.if_icmp .ge 24, 3) := by decide +kernel
theorem dX3_signsShownBy_12 : decode cX3_signsShownBy 12 = .ok (.aload_n 0, 1) := by decide +kernel
theorem dX3_signsShownBy_13 : decode cX3_signsShownBy 13 = .ok (.iload_n 1, 1) := by decide +kernel
theorem dX3_signsShownBy_14 : decode cX3_signsShownBy 14 = .ok (.iload_n 3, 1) := by decide +kernel
theorem dX3_signsShownBy_15 : decode cX3_signsShownBy 15 = .ok (.invokevirtual 107, 3) := by decide +kernel
theorem dX3_signsShownBy_18 : decode cX3_signsShownBy 18 = .ok (.ifCond .le 9, 3) := by decide +kernel
theorem dX3_signsShownBy_21 : decode cX3_signsShownBy 21 = .ok (.iload_n 2, 1) := by decide +kernel
theorem dX3_signsShownBy_22 : decode cX3_signsShownBy 22 = .ok (.iconst 1, 1) := by decide +kernel
theorem dX3_signsShownBy_23 : decode cX3_signsShownBy 23 = .ok (.iload_n 3, 1) := by decide +kernel
theorem dX3_signsShownBy_24 : decode cX3_signsShownBy 24 = .ok (.ishl, 1) := by decide +kernel
theorem dX3_signsShownBy_25 : decode cX3_signsShownBy 25 = .ok (.ior, 1) := by decide +kernel
theorem dX3_signsShownBy_26 : decode cX3_signsShownBy 26 = .ok (.istore_n 2, 1) := by decide +kernel
theorem dX3_signsShownBy_27 : decode cX3_signsShownBy 27 = .ok (.iinc 3 1, 3) := by decide +kernel
theorem dX3_signsShownBy_30 : decode cX3_signsShownBy 30 = .ok (.goto (-26), 3) := by decide +kernel
theorem dX3_signsShownBy_33 : decode cX3_signsShownBy 33 = .ok (.iload_n 2, 1) := by decide +kernel
theorem dX3_signsShownBy_34 : decode cX3_signsShownBy 34 = .ok (.ireturn, 1) := by decide +kernel
theorem dX3_strokesOf_0 : decode cX3_strokesOf 0 = .ok (.iconst 0, 1) := by decide +kernel
theorem dX3_strokesOf_1 : decode cX3_strokesOf 1 = .ok (.istore_n 2, 1) := by decide +kernel
theorem dX3_strokesOf_2 : decode cX3_strokesOf 2 = .ok (.iconst 0, 1) := by decide +kernel
theorem dX3_strokesOf_3 : decode cX3_strokesOf 3 = .ok (.istore_n 3, 1) := by decide +kernel
theorem dX3_strokesOf_4 : decode cX3_strokesOf 4 = .ok (.iload_n 3, 1) := by decide +kernel
theorem dX3_strokesOf_5 : decode cX3_strokesOf 5 = .ok (.aload_n 0, 1) := by decide +kernel
theorem dX3_strokesOf_6 : decode cX3_strokesOf 6 = .ok (.getfield 40, 3) := by decide +kernel
theorem dX3_strokesOf_9 : decode cX3_strokesOf 9 = .ok (.if_icmp .ge 24, 3) := by decide +kernel
theorem dX3_strokesOf_12 : decode cX3_strokesOf 12 = .ok (.iload_n 2, 1) := by decide +kernel
theorem dX3_strokesOf_13 : decode cX3_strokesOf 13 = .ok (.iload_n 1, 1) := by decide +kernel
theorem dX3_strokesOf_14 : decode cX3_strokesOf 14 = .ok (.iload_n 3, 1) := by decide +kernel
theorem dX3_strokesOf_15 : decode cX3_strokesOf 15 = .ok (.ishr, 1) := by decide +kernel
theorem dX3_strokesOf_16 : decode cX3_strokesOf 16 = .ok (.iconst 1, 1) := by decide +kernel
theorem dX3_strokesOf_17 : decode cX3_strokesOf 17 = .ok (.iand, 1) := by decide +kernel
theorem dX3_strokesOf_18 : decode cX3_strokesOf 18 = .ok (.aload_n 0, 1) := by decide +kernel
theorem dX3_strokesOf_19 : decode cX3_strokesOf 19 = .ok (.getfield 9, 3) := by decide +kernel
theorem dX3_strokesOf_22 : decode cX3_strokesOf 22 = .ok (.iload_n 3, 1) := by decide +kernel
theorem dX3_strokesOf_23 : decode cX3_strokesOf 23 = .ok (.iaload, 1) := by decide +kernel
theorem dX3_strokesOf_24 : decode cX3_strokesOf 24 = .ok (.imul, 1) := by decide +kernel
theorem dX3_strokesOf_25 : decode cX3_strokesOf 25 = .ok (.iadd, 1) := by decide +kernel
theorem dX3_strokesOf_26 : decode cX3_strokesOf 26 = .ok (.istore_n 2, 1) := by decide +kernel
theorem dX3_strokesOf_27 : decode cX3_strokesOf 27 = .ok (.iinc 3 1, 3) := by decide +kernel
theorem dX3_strokesOf_30 : decode cX3_strokesOf 30 = .ok (.goto (-26), 3) := by decide +kernel
theorem dX3_strokesOf_33 : decode cX3_strokesOf 33 = .ok (.iload_n 2, 1) := by decide +kernel
theorem dX3_strokesOf_34 : decode cX3_strokesOf 34 = .ok (.ireturn, 1) := by decide +kernel
set_option maxRecDepth 20000 in
theorem ggX3_weeksOfCourse_X3_hasCourse : GoodIn wsX3_weeksOfCourse wsX3_hasCourse := goodIn_r _ [7, 8, 9, 10, 11, 12, 13, 14, 15, 16, 17, 18, 19, 20] (by decide +kernel) (by decide +kernel)
set_option maxRecDepth 20000 in
theorem gX3_weeksOfCourse_X3_hasCourse : GoodIn wsX3_weeksOfCourse (wsV RX3 89 RX3 yX3_hasCourse wsX3_hasCourse) := goodIn_app (goodIn_of _ (by decide +kernel)) ggX3_weeksOfCourse_X3_hasCourse
theorem dX3_weeksOfCourse_0 : decode cX3_weeksOfCourse 0 = .ok (.aload_n 0, 1) := by decide +kernel
theorem dX3_weeksOfCourse_1 : decode cX3_weeksOfCourse 1 = .ok (.iload_n 1, 1) := by decide +kernel
theorem dX3_weeksOfCourse_2 : decode cX3_weeksOfCourse 2 = .ok (.invokevirtual 89, 3) := by decide +kernel
theorem dX3_weeksOfCourse_5 : decode cX3_weeksOfCourse 5 = .ok (.ifCond .eq 21, 3) := by decide +kernel
theorem dX3_weeksOfCourse_8 : decode cX3_weeksOfCourse 8 = .ok (.aload_n 0, 1) := by decide +kernel
theorem dX3_weeksOfCourse_9 : decode cX3_weeksOfCourse 9 = .ok (.getfield 24, 3) := by decide +kernel
theorem dX3_weeksOfCourse_12 : decode cX3_weeksOfCourse 12 = .ok (.iload_n 1, 1) := by decide +kernel
theorem dX3_weeksOfCourse_13 : decode cX3_weeksOfCourse 13 = .ok (.iaload, 1) := by decide +kernel
theorem dX3_weeksOfCourse_14 : decode cX3_weeksOfCourse 14 = .ok (.aload_n 0, 1) := by decide +kernel
theorem dX3_weeksOfCourse_15 : decode cX3_weeksOfCourse 15 = .ok (.getfield 21, 3) := by decide +kernel
theorem dX3_weeksOfCourse_18 : decode cX3_weeksOfCourse 18 = .ok (.iload_n 1, 1) := by decide +kernel
theorem dX3_weeksOfCourse_19 : decode cX3_weeksOfCourse 19 = .ok (.iaload, 1) := by decide +kernel
theorem dX3_weeksOfCourse_20 : decode cX3_weeksOfCourse 20 = .ok (.isub, 1) := by decide +kernel
theorem dX3_weeksOfCourse_21 : decode cX3_weeksOfCourse 21 = .ok (.iconst 1, 1) := by decide +kernel
theorem dX3_weeksOfCourse_22 : decode cX3_weeksOfCourse 22 = .ok (.iadd, 1) := by decide +kernel
theorem dX3_weeksOfCourse_23 : decode cX3_weeksOfCourse 23 = .ok (.goto 4, 3) := by decide +kernel
theorem dX3_weeksOfCourse_26 : decode cX3_weeksOfCourse 26 = .ok (.iconst 0, 1) := by decide +kernel
theorem dX3_weeksOfCourse_27 : decode cX3_weeksOfCourse 27 = .ok (.ireturn, 1) := by decide +kernel
set_option maxRecDepth 20000 in
theorem ggX3_menAtLeast_X3_signsShownBy : GoodIn wsX3_menAtLeast wsX3_signsShownBy := goodIn_r _ [10, 11, 12, 13, 14, 9, 15, 16, 17, 18, 19, 20, 21, 42, 43, 44, 45, 46, 47, 48, 49, 50, 51, 52, 53] (by decide +kernel) (by decide +kernel)
set_option maxRecDepth 20000 in
theorem gX3_menAtLeast_X3_signsShownBy : GoodIn wsX3_menAtLeast (wsV RX3 113 RX3 yX3_signsShownBy wsX3_signsShownBy) := goodIn_app (goodIn_of _ (by decide +kernel)) ggX3_menAtLeast_X3_signsShownBy
set_option maxRecDepth 20000 in
theorem ggX3_menAtLeast_J6_bitCount_0f7a4 : GoodIn wsX3_menAtLeast wsJ6_bitCount_0f7a4 := goodIn_r _ [25, 26, 27, 28] (by decide +kernel) (by decide +kernel)
set_option maxRecDepth 20000 in
theorem gX3_menAtLeast_J6_bitCount_0f7a4 : GoodIn wsX3_menAtLeast (va_wsS RX3 116 yJ6_bitCount_0f7a4 wsJ6_bitCount_0f7a4) := goodIn_app (goodIn_of _ (by decide +kernel)) ggX3_menAtLeast_J6_bitCount_0f7a4
set_option maxRecDepth 20000 in
theorem ggX3_menAtLeast_X3_stonesOfCourse : GoodIn wsX3_menAtLeast wsX3_stonesOfCourse := goodIn_r _ [32, 12, 13, 14, 9, 15, 16, 17, 18, 19, 20, 21, 42, 43, 44, 45, 46, 47, 48, 49, 50, 51, 52, 53] (by decide +kernel) (by decide +kernel)
set_option maxRecDepth 20000 in
theorem gX3_menAtLeast_X3_stonesOfCourse : GoodIn wsX3_menAtLeast (wsV RX3 110 RX3 yX3_stonesOfCourse wsX3_stonesOfCourse) := goodIn_app (goodIn_of _ (by decide +kernel)) ggX3_menAtLeast_X3_stonesOfCourse
set_option maxRecDepth 20000 in
theorem ggX3_menAtLeast_X3_weeksOfCourse : GoodIn wsX3_menAtLeast wsX3_weeksOfCourse := goodIn_r _ [36, 37, 38, 17, 18, 19, 9, 20, 21, 42, 43, 44, 45, 46, 47, 48, 49, 50, 51, 52, 53] (by decide +kernel) (by decide +kernel)
set_option maxRecDepth 20000 in
theorem gX3_menAtLeast_X3_weeksOfCourse : GoodIn wsX3_menAtLeast (wsV RX3 121 RX3 yX3_weeksOfCourse wsX3_weeksOfCourse) := goodIn_app (goodIn_of _ (by decide +kernel)) ggX3_menAtLeast_X3_weeksOfCourse
set_option maxRecDepth 20000 in
theorem ggX3_menAtLeast_X4_roundedUp : GoodIn wsX3_menAtLeast wsX4_roundedUp := goodIn_r _ [41] (by decide +kernel) (by decide +kernel)
set_option maxRecDepth 20000 in
theorem gX3_menAtLeast_X4_roundedUp_n124 : GoodIn wsX3_menAtLeast (wsX4_roundedUp) := ggX3_menAtLeast_X4_roundedUp
theorem dX3_menAtLeast_0 : decode cX3_menAtLeast 0 = .ok (.aload_n 0, 1) := by decide +kernel
theorem dX3_menAtLeast_1 : decode cX3_menAtLeast 1 = .ok (.iload_n 1, 1) := by decide +kernel
theorem dX3_menAtLeast_2 : decode cX3_menAtLeast 2 = .ok (.invokevirtual 113, 3) := by decide +kernel
theorem dX3_menAtLeast_5 : decode cX3_menAtLeast 5 = .ok (.invokestatic 116, 3) := by decide +kernel
theorem dX3_menAtLeast_8 : decode cX3_menAtLeast 8 = .ok (.istore_n 2, 1) := by decide +kernel
theorem dX3_menAtLeast_9 : decode cX3_menAtLeast 9 = .ok (.iload_n 2, 1) := by decide +kernel
theorem dX3_menAtLeast_10 : decode cX3_menAtLeast 10 = .ok (.aload_n 0, 1) := by decide +kernel
theorem dX3_menAtLeast_11 : decode cX3_menAtLeast 11 = .ok (.iload_n 1, 1) := by decide +kernel
theorem dX3_menAtLeast_12 : decode cX3_menAtLeast 12 = .ok (.invokevirtual 110, 3) := by decide +kernel
theorem dX3_menAtLeast_15 : decode cX3_menAtLeast 15 = .ok (.aload_n 0, 1) := by decide +kernel
theorem dX3_menAtLeast_16 : decode cX3_menAtLeast 16 = .ok (.getfield 36, 3) := by decide +kernel
theorem dX3_menAtLeast_19 : decode cX3_menAtLeast 19 = .ok (.aload_n 0, 1) := by decide +kernel
theorem dX3_menAtLeast_20 : decode cX3_menAtLeast 20 = .ok (.iload_n 1, 1) := by decide +kernel
theorem dX3_menAtLeast_21 : decode cX3_menAtLeast 21 = .ok (.invokevirtual 121, 3) := by decide +kernel
theorem dX3_menAtLeast_24 : decode cX3_menAtLeast 24 = .ok (.imul, 1) := by decide +kernel
theorem dX3_menAtLeast_25 : decode cX3_menAtLeast 25 = .ok (.invokestatic 124, 3) := by decide +kernel
theorem dX3_menAtLeast_28 : decode cX3_menAtLeast 28 = .ok (.invokestatic 127, 3) := by decide +kernel
theorem dX3_menAtLeast_31 : decode cX3_menAtLeast 31 = .ok (.ireturn, 1) := by decide +kernel
set_option maxRecDepth 20000 in
theorem ggX3_menAtMost_X3_stonesAt : GoodIn wsX3_menAtMost wsX3_stonesAt := goodIn_r _ [9, 10, 11, 12, 13, 8, 14, 15, 46, 47, 48, 49, 50, 51, 52, 53, 54, 55, 56, 57] (by decide +kernel) (by decide +kernel)
set_option maxRecDepth 20000 in
theorem gX3_menAtMost_X3_stonesAt : GoodIn wsX3_menAtMost (wsV RX3 107 RX3 yX3_stonesAt wsX3_stonesAt) := goodIn_app (goodIn_of _ (by decide +kernel)) ggX3_menAtMost_X3_stonesAt
set_option maxRecDepth 20000 in
theorem ggX3_menAtMost_X3_signsShownBy : GoodIn wsX3_menAtMost wsX3_signsShownBy := goodIn_r _ [19, 20, 5, 6, 7, 8, 9, 10, 11, 12, 13, 14, 15, 46, 47, 48, 49, 50, 51, 52, 53, 54, 55, 56, 57] (by decide +kernel) (by decide +kernel)
set_option maxRecDepth 20000 in
theorem gX3_menAtMost_X3_signsShownBy : GoodIn wsX3_menAtMost (wsV RX3 113 RX3 yX3_signsShownBy wsX3_signsShownBy) := goodIn_app (goodIn_of _ (by decide +kernel)) ggX3_menAtMost_X3_signsShownBy
set_option maxRecDepth 20000 in
theorem ggX3_menAtMost_J6_bitCount_0f7a4 : GoodIn wsX3_menAtMost wsJ6_bitCount_0f7a4 := goodIn_r _ [24, 25, 26, 27] (by decide +kernel) (by decide +kernel)
set_option maxRecDepth 20000 in
theorem gX3_menAtMost_J6_bitCount_0f7a4 : GoodIn wsX3_menAtMost (va_wsS RX3 116 yJ6_bitCount_0f7a4 wsJ6_bitCount_0f7a4) := goodIn_app (goodIn_of _ (by decide +kernel)) ggX3_menAtMost_J6_bitCount_0f7a4
set_option maxRecDepth 20000 in
theorem ggX3_menAtMost_X3_menAtLeast : GoodIn wsX3_menAtMost wsX3_menAtLeast := goodIn_r _ [31, 32, 1, 2, 3, 4, 16, 17, 18, 8, 19, 20, 5, 6, 7, 9, 10, 11, 12, 13, 14, 15, 21, 22, 23, 24, 25, 26, 27, 33, 34, 35, 36, 37, 38, 39, 40, 41, 42, 43, 44, 45, 46, 47, 48, 49, 50, 51, 52, 53, 54, 55, 56, 57] (by decide +kernel) (by decide +kernel)
set_option maxRecDepth 20000 in
theorem gX3_menAtMost_X3_menAtLeast : GoodIn wsX3_menAtMost (wsV RX3 132 RX3 yX3_menAtLeast wsX3_menAtLeast) := goodIn_app (goodIn_of _ (by decide +kernel)) ggX3_menAtMost_X3_menAtLeast
theorem dX3_menAtMost_0 : decode cX3_menAtMost 0 = .ok (.aload_n 0, 1) := by decide +kernel
theorem dX3_menAtMost_1 : decode cX3_menAtMost 1 = .ok (.iload_n 1, 1) := by decide +kernel
theorem dX3_menAtMost_2 : decode cX3_menAtMost 2 = .ok (.bipush 16, 2) := by decide +kernel
theorem dX3_menAtMost_4 : decode cX3_menAtMost 4 = .ok (.invokevirtual 107, 3) := by decide +kernel
theorem dX3_menAtMost_7 : decode cX3_menAtMost 7 = .ok (.aload_n 0, 1) := by decide +kernel
theorem dX3_menAtMost_8 : decode cX3_menAtMost 8 = .ok (.iload_n 1, 1) := by decide +kernel
theorem dX3_menAtMost_9 : decode cX3_menAtMost 9 = .ok (.bipush 17, 2) := by decide +kernel
theorem dX3_menAtMost_11 : decode cX3_menAtMost 11 = .ok (.invokevirtual 107, 3) := by decide +kernel
theorem dX3_menAtMost_14 : decode cX3_menAtMost 14 = .ok (.iadd, 1) := by decide +kernel
theorem dX3_menAtMost_15 : decode cX3_menAtMost 15 = .ok (.istore_n 2, 1) := by decide +kernel
theorem dX3_menAtMost_16 : decode cX3_menAtMost 16 = .ok (.aload_n 0, 1) := by decide +kernel
theorem dX3_menAtMost_17 : decode cX3_menAtMost 17 = .ok (.iload_n 1, 1) := by decide +kernel
theorem dX3_menAtMost_18 : decode cX3_menAtMost 18 = .ok (.invokevirtual 113, 3) := by decide +kernel
theorem dX3_menAtMost_21 : decode cX3_menAtMost 21 = .ok (.invokestatic 116, 3) := by decide +kernel
theorem dX3_menAtMost_24 : decode cX3_menAtMost 24 = .ok (.iload_n 2, 1) := by decide +kernel
theorem dX3_menAtMost_25 : decode cX3_menAtMost 25 = .ok (.iadd, 1) := by decide +kernel
theorem dX3_menAtMost_26 : decode cX3_menAtMost 26 = .ok (.aload_n 0, 1) := by decide +kernel
theorem dX3_menAtMost_27 : decode cX3_menAtMost 27 = .ok (.iload_n 1, 1) := by decide +kernel
theorem dX3_menAtMost_28 : decode cX3_menAtMost 28 = .ok (.invokevirtual 132, 3) := by decide +kernel
theorem dX3_menAtMost_31 : decode cX3_menAtMost 31 = .ok (.invokestatic 127, 3) := by decide +kernel
theorem dX3_menAtMost_34 : decode cX3_menAtMost 34 = .ok (.ireturn, 1) := by decide +kernel
set_option maxRecDepth 20000 in
theorem ggX3_weeksAsked_X3_stonesAt : GoodIn wsX3_weeksAsked wsX3_stonesAt := goodIn_r _ [6, 7, 8, 9, 10, 5, 11, 12, 16, 17, 18, 19, 20, 21, 22, 23, 24, 25, 26, 27] (by decide +kernel) (by decide +kernel)
set_option maxRecDepth 20000 in
theorem gX3_weeksAsked_X3_stonesAt : GoodIn wsX3_weeksAsked (wsV RX3 107 RX3 yX3_stonesAt wsX3_stonesAt) := goodIn_app (goodIn_of _ (by decide +kernel)) ggX3_weeksAsked_X3_stonesAt
set_option maxRecDepth 20000 in
theorem ggX3_weeksAsked_X4_roundedUp : GoodIn wsX3_weeksAsked wsX4_roundedUp := goodIn_r _ [15] (by decide +kernel) (by decide +kernel)
set_option maxRecDepth 20000 in
theorem gX3_weeksAsked_X4_roundedUp_n124 : GoodIn wsX3_weeksAsked (wsX4_roundedUp) := ggX3_weeksAsked_X4_roundedUp
theorem dX3_weeksAsked_0 : decode cX3_weeksAsked 0 = .ok (.aload_n 0, 1) := by decide +kernel
theorem dX3_weeksAsked_1 : decode cX3_weeksAsked 1 = .ok (.iload_n 2, 1) := by decide +kernel
theorem dX3_weeksAsked_2 : decode cX3_weeksAsked 2 = .ok (.iload_n 1, 1) := by decide +kernel
theorem dX3_weeksAsked_3 : decode cX3_weeksAsked 3 = .ok (.invokevirtual 107, 3) := by decide +kernel
theorem dX3_weeksAsked_6 : decode cX3_weeksAsked 6 = .ok (.aload_n 0, 1) := by decide +kernel
theorem dX3_weeksAsked_7 : decode cX3_weeksAsked 7 = .ok (.getfield 36, 3) := by decide +kernel
theorem dX3_weeksAsked_10 : decode cX3_weeksAsked 10 = .ok (.invokestatic 124, 3) := by decide +kernel
theorem dX3_weeksAsked_13 : decode cX3_weeksAsked 13 = .ok (.ireturn, 1) := by decide +kernel
set_option maxRecDepth 20000 in
theorem ggX3_mayHaveCut_X3_hasName : GoodIn wsX3_mayHaveCut wsX3_hasName := goodIn_r _ [9, 10, 38, 39, 40, 41, 42, 43, 44, 45, 46, 47, 48, 49] (by decide +kernel) (by decide +kernel)
set_option maxRecDepth 20000 in
theorem gX3_mayHaveCut_X3_hasName : GoodIn wsX3_mayHaveCut (wsV RX3 100 RX3 yX3_hasName wsX3_hasName) := goodIn_app (goodIn_of _ (by decide +kernel)) ggX3_mayHaveCut_X3_hasName
set_option maxRecDepth 20000 in
theorem ggX3_mayHaveCut_X3_weekBits : GoodIn wsX3_mayHaveCut wsX3_weekBits := goodIn_r _ [13] (by decide +kernel) (by decide +kernel)
set_option maxRecDepth 20000 in
theorem gX3_mayHaveCut_X3_weekBits : GoodIn wsX3_mayHaveCut (va_wsS RX3 96 yX3_weekBits wsX3_weekBits) := goodIn_app (goodIn_of _ (by decide +kernel)) ggX3_mayHaveCut_X3_weekBits
set_option maxRecDepth 20000 in
theorem ggX3_mayHaveCut_J6_bitCount_0f7a4 : GoodIn wsX3_mayHaveCut wsJ6_bitCount_0f7a4 := goodIn_r _ [17, 18, 19, 20] (by decide +kernel) (by decide +kernel)
set_option maxRecDepth 20000 in
theorem gX3_mayHaveCut_J6_bitCount_0f7a4 : GoodIn wsX3_mayHaveCut (va_wsS RX3 116 yJ6_bitCount_0f7a4 wsJ6_bitCount_0f7a4) := goodIn_app (goodIn_of _ (by decide +kernel)) ggX3_mayHaveCut_J6_bitCount_0f7a4
set_option maxRecDepth 20000 in
theorem ggX3_mayHaveCut_X3_weeksAsked : GoodIn wsX3_mayHaveCut wsX3_weeksAsked := goodIn_r _ [24, 25, 26, 27, 28, 8, 29, 30, 31, 32, 33, 34, 1, 35, 36, 37, 38, 39, 40, 41, 42, 43, 44, 45, 46, 47, 48, 49] (by decide +kernel) (by decide +kernel)
set_option maxRecDepth 20000 in
theorem gX3_mayHaveCut_X3_weeksAsked : GoodIn wsX3_mayHaveCut (wsV RX3 135 RX3 yX3_weeksAsked wsX3_weeksAsked) := goodIn_app (goodIn_of _ (by decide +kernel)) ggX3_mayHaveCut_X3_weeksAsked
theorem dX3_mayHaveCut_0 : decode cX3_mayHaveCut 0 = .ok (.aload_n 0, 1) := by decide +kernel
theorem dX3_mayHaveCut_1 : decode cX3_mayHaveCut 1 = .ok (.iload_n 1, 1) := by decide +kernel
theorem dX3_mayHaveCut_2 : decode cX3_mayHaveCut 2 = .ok (.invokevirtual 100, 3) := by decide +kernel
theorem dX3_mayHaveCut_5 : decode cX3_mayHaveCut 5 = .ok (.ifCond .ne 5, 3) := by decide +kernel
theorem dX3_mayHaveCut_8 : decode cX3_mayHaveCut 8 = .ok (.iconst 0, 1) := by decide +kernel
theorem dX3_mayHaveCut_9 : decode cX3_mayHaveCut 9 = .ok (.ireturn, 1) := by decide +kernel
theorem dX3_mayHaveCut_10 : decode cX3_mayHaveCut 10 = .ok (.iconst 0, 1) := by decide +kernel
theorem dX3_mayHaveCut_11 : decode cX3_mayHaveCut 11 = .ok (.istore_n 3, 1) := by decide +kernel
theorem dX3_mayHaveCut_12 : decode cX3_mayHaveCut 12 = .ok (.iload_n 3, 1) := by decide +kernel
theorem dX3_mayHaveCut_13 : decode cX3_mayHaveCut 13 = .ok (.aload_n 0, 1) := by decide +kernel
theorem dX3_mayHaveCut_14 : decode cX3_mayHaveCut 14 = .ok (.getfield 43, 3) := by decide +kernel
theorem dX3_mayHaveCut_17 : decode cX3_mayHaveCut 17 = .ok (.if_icmp .ge 49, 3) := by decide +kernel
theorem dX3_mayHaveCut_20 : decode cX3_mayHaveCut 20 = .ok (.aload_n 0, 1) := by decide +kernel
theorem dX3_mayHaveCut_21 : decode cX3_mayHaveCut 21 = .ok (.getfield 33, 3) := by decide +kernel
theorem dX3_mayHaveCut_24 : decode cX3_mayHaveCut 24 = .ok (.iload_n 1, 1) := by decide +kernel
theorem dX3_mayHaveCut_25 : decode cX3_mayHaveCut 25 = .ok (.iaload, 1) := by decide +kernel
theorem dX3_mayHaveCut_26 : decode cX3_mayHaveCut 26 = .ok (.aload_n 0, 1) := by decide +kernel
theorem dX3_mayHaveCut_27 : decode cX3_mayHaveCut 27 = .ok (.getfield 21, 3) := by decide +kernel
theorem dX3_mayHaveCut_30 : decode cX3_mayHaveCut 30 = .ok (.iload_n 3, 1) := by decide +kernel
theorem dX3_mayHaveCut_31 : decode cX3_mayHaveCut 31 = .ok (.iaload, 1) := by decide +kernel
theorem dX3_mayHaveCut_32 : decode cX3_mayHaveCut 32 = .ok (.aload_n 0, 1) := by decide +kernel
theorem dX3_mayHaveCut_33 : decode cX3_mayHaveCut 33 = .ok (.getfield 24, 3) := by decide +kernel
theorem dX3_mayHaveCut_36 : decode cX3_mayHaveCut 36 = .ok (.iload_n 3, 1) := by decide +kernel
theorem dX3_mayHaveCut_37 : decode cX3_mayHaveCut 37 = .ok (.iaload, 1) := by decide +kernel
theorem dX3_mayHaveCut_38 : decode cX3_mayHaveCut 38 = .ok (.invokestatic 96, 3) := by decide +kernel
theorem dX3_mayHaveCut_41 : decode cX3_mayHaveCut 41 = .ok (.iand, 1) := by decide +kernel
theorem dX3_mayHaveCut_42 : decode cX3_mayHaveCut 42 = .ok (.istore 4, 2) := by decide +kernel
theorem dX3_mayHaveCut_44 : decode cX3_mayHaveCut 44 = .ok (.iload 4, 2) := by decide +kernel
theorem dX3_mayHaveCut_46 : decode cX3_mayHaveCut 46 = .ok (.invokestatic 116, 3) := by decide +kernel
theorem dX3_mayHaveCut_49 : decode cX3_mayHaveCut 49 = .ok (.aload_n 0, 1) := by decide +kernel
theorem dX3_mayHaveCut_50 : decode cX3_mayHaveCut 50 = .ok (.iload_n 2, 1) := by decide +kernel
theorem dX3_mayHaveCut_51 : decode cX3_mayHaveCut 51 = .ok (.iload_n 3, 1) := by decide +kernel
theorem dX3_mayHaveCut_52 : decode cX3_mayHaveCut 52 = .ok (.invokevirtual 135, 3) := by decide +kernel
theorem dX3_mayHaveCut_55 : decode cX3_mayHaveCut 55 = .ok (.if_icmp .ge 5, 3) := by decide +kernel
theorem dX3_mayHaveCut_58 : decode cX3_mayHaveCut 58 = .ok (.iconst 0, 1) := by decide +kernel
theorem dX3_mayHaveCut_59 : decode cX3_mayHaveCut 59 = .ok (.ireturn, 1) := by decide +kernel
theorem dX3_mayHaveCut_60 : decode cX3_mayHaveCut 60 = .ok (.iinc 3 1, 3) := by decide +kernel
theorem dX3_mayHaveCut_63 : decode cX3_mayHaveCut 63 = .ok (.goto (-51), 3) := by decide +kernel
theorem dX3_mayHaveCut_66 : decode cX3_mayHaveCut 66 = .ok (.iconst 1, 1) := by decide +kernel
theorem dX3_mayHaveCut_67 : decode cX3_mayHaveCut 67 = .ok (.ireturn, 1) := by decide +kernel
set_option maxRecDepth 20000 in
theorem ggX3_firstWeekShowing_X3_stonesAt : GoodIn wsX3_firstWeekShowing wsX3_stonesAt := goodIn_r _ [7, 8, 9, 10, 11, 6, 12, 1, 13, 14, 15, 16, 17, 18, 19, 20, 21, 22, 23, 24] (by decide +kernel) (by decide +kernel)
set_option maxRecDepth 20000 in
theorem gX3_firstWeekShowing_X3_stonesAt : GoodIn wsX3_firstWeekShowing (wsV RX3 107 RX3 yX3_stonesAt wsX3_stonesAt) := goodIn_app (goodIn_of _ (by decide +kernel)) ggX3_firstWeekShowing_X3_stonesAt
theorem dX3_firstWeekShowing_0 : decode cX3_firstWeekShowing 0 = .ok (.bipush (-4), 2) := by decide +kernel
theorem dX3_firstWeekShowing_2 : decode cX3_firstWeekShowing 2 = .ok (.istore_n 2, 1) := by decide +kernel
theorem dX3_firstWeekShowing_3 : decode cX3_firstWeekShowing 3 = .ok (.iconst 0, 1) := by decide +kernel
theorem dX3_firstWeekShowing_4 : decode cX3_firstWeekShowing 4 = .ok (.istore_n 3, 1) := by decide +kernel
theorem dX3_firstWeekShowing_5 : decode cX3_firstWeekShowing 5 = .ok (.iload_n 3, 1) := by decide +kernel
theorem dX3_firstWeekShowing_6 : decode cX3_firstWeekShowing 6 = .ok (.aload_n 0, 1) := by decide +kernel
theorem dX3_firstWeekShowing_7 : decode cX3_firstWeekShowing 7 = .ok (.getfield 43, 3) := by decide +kernel
theorem dX3_firstWeekShowing_10 : decode cX3_firstWeekShowing 10 = .ok (.if_icmp .ge 41, 3) := by decide +kernel
theorem dX3_firstWeekShowing_13 : decode cX3_firstWeekShowing 13 = .ok (.aload_n 0, 1) := by decide +kernel
theorem dX3_firstWeekShowing_14 : decode cX3_firstWeekShowing 14 = .ok (.iload_n 3, 1) := by decide +kernel
theorem dX3_firstWeekShowing_15 : decode cX3_firstWeekShowing 15 = .ok (.iload_n 1, 1) := by decide +kernel
theorem dX3_firstWeekShowing_16 : decode cX3_firstWeekShowing 16 = .ok (.invokevirtual 107, 3) := by decide +kernel
theorem dX3_firstWeekShowing_19 : decode cX3_firstWeekShowing 19 = .ok (.ifCond .le 26, 3) := by decide +kernel
theorem dX3_firstWeekShowing_22 : decode cX3_firstWeekShowing 22 = .ok (.iload_n 2, 1) := by decide +kernel
theorem dX3_firstWeekShowing_23 : decode cX3_firstWeekShowing 23 = .ok (.bipush (-4), 2) := by decide +kernel
theorem dX3_firstWeekShowing_25 : decode cX3_firstWeekShowing 25 = .ok (.if_icmp .eq 13, 3) := by decide +kernel
theorem dX3_firstWeekShowing_28 : decode cX3_firstWeekShowing 28 = .ok (.aload_n 0, 1) := by decide +kernel
theorem dX3_firstWeekShowing_29 : decode cX3_firstWeekShowing 29 = .ok (.getfield 21, 3) := by decide +kernel
theorem dX3_firstWeekShowing_32 : decode cX3_firstWeekShowing 32 = .ok (.iload_n 3, 1) := by decide +kernel
theorem dX3_firstWeekShowing_33 : decode cX3_firstWeekShowing 33 = .ok (.iaload, 1) := by decide +kernel
theorem dX3_firstWeekShowing_34 : decode cX3_firstWeekShowing 34 = .ok (.iload_n 2, 1) := by decide +kernel
theorem dX3_firstWeekShowing_35 : decode cX3_firstWeekShowing 35 = .ok (.if_icmp .ge 10, 3) := by decide +kernel
theorem dX3_firstWeekShowing_38 : decode cX3_firstWeekShowing 38 = .ok (.aload_n 0, 1) := by decide +kernel
theorem dX3_firstWeekShowing_39 : decode cX3_firstWeekShowing 39 = .ok (.getfield 21, 3) := by decide +kernel
theorem dX3_firstWeekShowing_42 : decode cX3_firstWeekShowing 42 = .ok (.iload_n 3, 1) := by decide +kernel
theorem dX3_firstWeekShowing_43 : decode cX3_firstWeekShowing 43 = .ok (.iaload, 1) := by decide +kernel
theorem dX3_firstWeekShowing_44 : decode cX3_firstWeekShowing 44 = .ok (.istore_n 2, 1) := by decide +kernel
theorem dX3_firstWeekShowing_45 : decode cX3_firstWeekShowing 45 = .ok (.iinc 3 1, 3) := by decide +kernel
theorem dX3_firstWeekShowing_48 : decode cX3_firstWeekShowing 48 = .ok (.goto (-43), 3) := by decide +kernel
theorem dX3_firstWeekShowing_51 : decode cX3_firstWeekShowing 51 = .ok (.iload_n 2, 1) := by decide +kernel
theorem dX3_firstWeekShowing_52 : decode cX3_firstWeekShowing 52 = .ok (.ireturn, 1) := by decide +kernel
set_option maxRecDepth 20000 in
theorem ggX3_oneCourseShowsBoth_X3_stonesAt : GoodIn wsX3_oneCourseShowsBoth wsX3_stonesAt := goodIn_r _ [6, 7, 8, 9, 10, 5, 11, 1, 12, 13, 14, 15, 16, 17, 18, 19, 20, 21, 22, 23] (by decide +kernel) (by decide +kernel)
set_option maxRecDepth 20000 in
theorem gX3_oneCourseShowsBoth_X3_stonesAt : GoodIn wsX3_oneCourseShowsBoth (wsV RX3 107 RX3 yX3_stonesAt wsX3_stonesAt) := goodIn_app (goodIn_of _ (by decide +kernel)) ggX3_oneCourseShowsBoth_X3_stonesAt
theorem dX3_oneCourseShowsBoth_0 : decode cX3_oneCourseShowsBoth 0 = .ok (.iconst 0, 1) := by decide +kernel
theorem dX3_oneCourseShowsBoth_1 : decode cX3_oneCourseShowsBoth 1 = .ok (.istore_n 3, 1) := by decide +kernel
theorem dX3_oneCourseShowsBoth_2 : decode cX3_oneCourseShowsBoth 2 = .ok (.iload_n 3, 1) := by decide +kernel
theorem dX3_oneCourseShowsBoth_3 : decode cX3_oneCourseShowsBoth 3 = .ok (.aload_n 0, 1) := by decide +kernel
theorem dX3_oneCourseShowsBoth_4 : decode cX3_oneCourseShowsBoth 4 = .ok (.getfield 43, 3) := by decide +kernel
theorem dX3_oneCourseShowsBoth_7 : decode cX3_oneCourseShowsBoth 7 = .ok (.if_icmp .ge 29, 3) := by decide +kernel
theorem dX3_oneCourseShowsBoth_10 : decode cX3_oneCourseShowsBoth 10 = .ok (.aload_n 0, 1) := by decide +kernel
theorem dX3_oneCourseShowsBoth_11 : decode cX3_oneCourseShowsBoth 11 = .ok (.iload_n 3, 1) := by decide +kernel
theorem dX3_oneCourseShowsBoth_12 : decode cX3_oneCourseShowsBoth 12 = .ok (.iload_n 1, 1) := by decide +kernel
theorem dX3_oneCourseShowsBoth_13 : decode cX3_oneCourseShowsBoth 13 = .ok (.invokevirtual 107, 3) := by decide +kernel
theorem dX3_oneCourseShowsBoth_16 : decode cX3_oneCourseShowsBoth 16 = .ok (.ifCond .le 14, 3) := by decide +kernel
theorem dX3_oneCourseShowsBoth_19 : decode cX3_oneCourseShowsBoth 19 = .ok (.aload_n 0, 1) := by decide +kernel
theorem dX3_oneCourseShowsBoth_20 : decode cX3_oneCourseShowsBoth 20 = .ok (.iload_n 3, 1) := by decide +kernel
theorem dX3_oneCourseShowsBoth_21 : decode cX3_oneCourseShowsBoth 21 = .ok (.iload_n 2, 1) := by decide +kernel
theorem dX3_oneCourseShowsBoth_22 : decode cX3_oneCourseShowsBoth 22 = .ok (.invokevirtual 107, 3) := by decide +kernel
theorem dX3_oneCourseShowsBoth_25 : decode cX3_oneCourseShowsBoth 25 = .ok (.ifCond .le 5, 3) := by decide +kernel
theorem dX3_oneCourseShowsBoth_28 : decode cX3_oneCourseShowsBoth 28 = .ok (.iconst 1, 1) := by decide +kernel
theorem dX3_oneCourseShowsBoth_29 : decode cX3_oneCourseShowsBoth 29 = .ok (.ireturn, 1) := by decide +kernel
theorem dX3_oneCourseShowsBoth_30 : decode cX3_oneCourseShowsBoth 30 = .ok (.iinc 3 1, 3) := by decide +kernel
theorem dX3_oneCourseShowsBoth_33 : decode cX3_oneCourseShowsBoth 33 = .ok (.goto (-31), 3) := by decide +kernel
theorem dX3_oneCourseShowsBoth_36 : decode cX3_oneCourseShowsBoth 36 = .ok (.iconst 0, 1) := by decide +kernel
theorem dX3_oneCourseShowsBoth_37 : decode cX3_oneCourseShowsBoth 37 = .ok (.ireturn, 1) := by decide +kernel
