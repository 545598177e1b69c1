theorem dX5_init_0 : decode cX5_init 0 = .ok (.aload_n 0, 1) := by decide +kernel
theorem dX5_init_1 : decode cX5_init 1 = .ok (.invokespecial 1, 3) := by decide +kernel
theorem dX5_init_4 : decode cX5_init 4 = .ok (.aload_n 0, 1) := by decide +kernel
theorem dX5_init_5 : decode cX5_init 5 = .ok (.sipush 500, 3) := by decide +kernel
theorem dX5_init_8 : decode cX5_init 8 = .ok (.newarray .byte, 2) := by decide +kernel
theorem dX5_init_10 : decode cX5_init 10 = .ok (.putfield 7, 3) := by decide +kernel
theorem dX5_init_13 : decode cX5_init 13 = .ok (.aload_n 0, 1) := by decide +kernel
theorem dX5_init_14 : decode cX5_init 14 = .ok (.iconst 2, 1) := by decide +kernel
theorem dX5_init_15 : decode cX5_init 15 = .ok (.newarray .int, 2) := by decide +kernel
theorem dX5_init_17 : decode cX5_init 17 = .ok (.putfield 13, 3) := by decide +kernel
theorem dX5_init_20 : decode cX5_init 20 = .ok (.aload_n 0, 1) := by decide +kernel
theorem dX5_init_21 : decode cX5_init 21 = .ok (.bipush 64, 2) := by decide +kernel
theorem dX5_init_23 : decode cX5_init 23 = .ok (.newarray .int, 2) := by decide +kernel
theorem dX5_init_25 : decode cX5_init 25 = .ok (.putfield 17, 3) := by decide +kernel
theorem dX5_init_28 : decode cX5_init 28 = .ok (.aload_n 0, 1) := by decide +kernel
theorem dX5_init_29 : decode cX5_init 29 = .ok (.iconst 2, 1) := by decide +kernel
theorem dX5_init_30 : decode cX5_init 30 = .ok (.newarray .int, 2) := by decide +kernel
theorem dX5_init_32 : decode cX5_init 32 = .ok (.putfield 20, 3) := by decide +kernel
theorem dX5_init_35 : decode cX5_init 35 = .ok (.aload_n 0, 1) := by decide +kernel
theorem dX5_init_36 : decode cX5_init 36 = .ok (.bipush 96, 2) := by decide +kernel
theorem dX5_init_38 : decode cX5_init 38 = .ok (.newarray .int, 2) := by decide +kernel
theorem dX5_init_40 : decode cX5_init 40 = .ok (.putfield 23, 3) := by decide +kernel
theorem dX5_init_43 : decode cX5_init 43 = .ok (.aload_n 0, 1) := by decide +kernel
theorem dX5_init_44 : decode cX5_init 44 = .ok (.bipush 12, 2) := by decide +kernel
theorem dX5_init_46 : decode cX5_init 46 = .ok (.newarray .int, 2) := by decide +kernel
theorem dX5_init_48 : decode cX5_init 48 = .ok (.putfield 26, 3) := by decide +kernel
theorem dX5_init_51 : decode cX5_init 51 = .ok (.aload_n 0, 1) := by decide +kernel
theorem dX5_init_52 : decode cX5_init 52 = .ok (.iconst 2, 1) := by decide +kernel
theorem dX5_init_53 : decode cX5_init 53 = .ok (.newarray .int, 2) := by decide +kernel
theorem dX5_init_55 : decode cX5_init 55 = .ok (.putfield 29, 3) := by decide +kernel
theorem dX5_init_58 : decode cX5_init 58 = .ok (.aload_n 0, 1) := by decide +kernel
theorem dX5_init_59 : decode cX5_init 59 = .ok (.bipush 20, 2) := by decide +kernel
theorem dX5_init_61 : decode cX5_init 61 = .ok (.newarray .int, 2) := by decide +kernel
theorem dX5_init_63 : decode cX5_init 63 = .ok (.putfield 32, 3) := by decide +kernel
theorem dX5_init_66 : decode cX5_init 66 = .ok (.aload_n 0, 1) := by decide +kernel
theorem dX5_init_67 : decode cX5_init 67 = .ok (.iconst 2, 1) := by decide +kernel
theorem dX5_init_68 : decode cX5_init 68 = .ok (.newarray .int, 2) := by decide +kernel
theorem dX5_init_70 : decode cX5_init 70 = .ok (.dup, 1) := by decide +kernel
theorem dX5_init_71 : decode cX5_init 71 = .ok (.iconst 0, 1) := by decide +kernel
theorem dX5_init_72 : decode cX5_init 72 = .ok (.bipush 12, 2) := by decide +kernel
theorem dX5_init_74 : decode cX5_init 74 = .ok (.iastore, 1) := by decide +kernel
theorem dX5_init_75 : decode cX5_init 75 = .ok (.dup, 1) := by decide +kernel
theorem dX5_init_76 : decode cX5_init 76 = .ok (.iconst 1, 1) := by decide +kernel
theorem dX5_init_77 : decode cX5_init 77 = .ok (.bipush 12, 2) := by decide +kernel
theorem dX5_init_79 : decode cX5_init 79 = .ok (.iastore, 1) := by decide +kernel
theorem dX5_init_80 : decode cX5_init 80 = .ok (.putfield 35, 3) := by decide +kernel
theorem dX5_init_83 : decode cX5_init 83 = .ok (.aload_n 0, 1) := by decide +kernel
theorem dX5_init_84 : decode cX5_init 84 = .ok (.sipush 1152, 3) := by decide +kernel
theorem dX5_init_87 : decode cX5_init 87 = .ok (.newarray .int, 2) := by decide +kernel
theorem dX5_init_89 : decode cX5_init 89 = .ok (.putfield 38, 3) := by decide +kernel
theorem dX5_init_92 : decode cX5_init 92 = .ok (.aload_n 0, 1) := by decide +kernel
theorem dX5_init_93 : decode cX5_init 93 = .ok (.bipush 6, 2) := by decide +kernel
theorem dX5_init_95 : decode cX5_init 95 = .ok (.newarray .int, 2) := by decide +kernel
theorem dX5_init_97 : decode cX5_init 97 = .ok (.putfield 41, 3) := by decide +kernel
theorem dX5_init_100 : decode cX5_init 100 = .ok (.aload_n 0, 1) := by decide +kernel
theorem dX5_init_101 : decode cX5_init 101 = .ok (.bipush 16, 2) := by decide +kernel
theorem dX5_init_103 : decode cX5_init 103 = .ok (.newarray .int, 2) := by decide +kernel
theorem dX5_init_105 : decode cX5_init 105 = .ok (.putfield 44, 3) := by decide +kernel
theorem dX5_init_108 : decode cX5_init 108 = .ok (.aload_n 0, 1) := by decide +kernel
theorem dX5_init_109 : decode cX5_init 109 = .ok (.bipush 16, 2) := by decide +kernel
theorem dX5_init_111 : decode cX5_init 111 = .ok (.newarray .int, 2) := by decide +kernel
theorem dX5_init_113 : decode cX5_init 113 = .ok (.putfield 47, 3) := by decide +kernel
theorem dX5_init_116 : decode cX5_init 116 = .ok (.aload_n 0, 1) := by decide +kernel
theorem dX5_init_117 : decode cX5_init 117 = .ok (.bipush 6, 2) := by decide +kernel
theorem dX5_init_119 : decode cX5_init 119 = .ok (.newarray .int, 2) := by decide +kernel
theorem dX5_init_121 : decode cX5_init 121 = .ok (.putfield 50, 3) := by decide +kernel
theorem dX5_init_124 : decode cX5_init 124 = .ok (.aload_n 0, 1) := by decide +kernel
theorem dX5_init_125 : decode cX5_init 125 = .ok (.bipush 6, 2) := by decide +kernel
theorem dX5_init_127 : decode cX5_init 127 = .ok (.newarray .int, 2) := by decide +kernel
theorem dX5_init_129 : decode cX5_init 129 = .ok (.putfield 53, 3) := by decide +kernel
theorem dX5_init_132 : decode cX5_init 132 = .ok (.aload_n 0, 1) := by decide +kernel
theorem dX5_init_133 : decode cX5_init 133 = .ok (.bipush 6, 2) := by decide +kernel
theorem dX5_init_135 : decode cX5_init 135 = .ok (.newarray .int, 2) := by decide +kernel
theorem dX5_init_137 : decode cX5_init 137 = .ok (.putfield 56, 3) := by decide +kernel
theorem dX5_init_140 : decode cX5_init 140 = .ok (.aload_n 0, 1) := by decide +kernel
theorem dX5_init_141 : decode cX5_init 141 = .ok (.bipush 6, 2) := by decide +kernel
theorem dX5_init_143 : decode cX5_init 143 = .ok (.newarray .int, 2) := by decide +kernel
theorem dX5_init_145 : decode cX5_init 145 = .ok (.putfield 59, 3) := by decide +kernel
theorem dX5_init_148 : decode cX5_init 148 = .ok (.aload_n 0, 1) := by decide +kernel
theorem dX5_init_149 : decode cX5_init 149 = .ok (.sipush 1024, 3) := by decide +kernel
theorem dX5_init_152 : decode cX5_init 152 = .ok (.newarray .long, 2) := by decide +kernel
theorem dX5_init_154 : decode cX5_init 154 = .ok (.putfield 62, 3) := by decide +kernel
theorem dX5_init_157 : decode cX5_init 157 = .ok (.aload_n 0, 1) := by decide +kernel
theorem dX5_init_158 : decode cX5_init 158 = .ok (.sipush 1024, 3) := by decide +kernel
theorem dX5_init_161 : decode cX5_init 161 = .ok (.newarray .long, 2) := by decide +kernel
theorem dX5_init_163 : decode cX5_init 163 = .ok (.putfield 66, 3) := by decide +kernel
theorem dX5_init_166 : decode cX5_init 166 = .ok (.aload_n 0, 1) := by decide +kernel
theorem dX5_init_167 : decode cX5_init 167 = .ok (.iconst 3, 1) := by decide +kernel
theorem dX5_init_168 : decode cX5_init 168 = .ok (.newarray .int, 2) := by decide +kernel
theorem dX5_init_170 : decode cX5_init 170 = .ok (.putfield 69, 3) := by decide +kernel
theorem dX5_init_173 : decode cX5_init 173 = .ok (.return_, 1) := by decide +kernel
theorem dX5_between_0 : decode cX5_between 0 = .ok (.lload_n 0, 1) := by decide +kernel
theorem dX5_between_1 : decode cX5_between 1 = .ok (.lload_n 2, 1) := by decide +kernel
theorem dX5_between_2 : decode cX5_between 2 = .ok (.lcmp, 1) := by decide +kernel
theorem dX5_between_3 : decode cX5_between 3 = .ok (.ifCond .lt 14, 3) := by decide +kernel
theorem dX5_between_6 : decode cX5_between 6 = .ok (.lload_n 0, 1) := by decide +kernel
theorem dX5_between_7 : decode cX5_between 7 = .ok (.lload 4, 2) := by decide +kernel
theorem dX5_between_9 : decode cX5_between 9 = .ok (.lcmp, 1) := by decide +kernel
theorem dX5_between_10 : decode cX5_between 10 = .ok (.ifCond .gt 7, 3) := by decide +kernel
theorem dX5_between_13 : decode cX5_between 13 = .ok (.iconst 1, 1) := by decide +kernel
theorem dX5_between_14 : decode cX5_between 14 = .ok (.goto 4, 3) := by decide +kernel
theorem dX5_between_17 : decode cX5_between 17 = .ok (.iconst 0, 1) := by decide +kernel
theorem dX5_between_18 : decode cX5_between 18 = .ok (.ireturn, 1) := by decide +kernel
set_option maxRecDepth 20000 in
theorem ggX5_write_X5_between : GoodIn wsX5_write wsX5_between := goodIn_r _ [7] (by decide +kernel) (by decide +kernel)
set_option maxRecDepth 20000 in
theorem gX5_write_X5_between : GoodIn wsX5_write (va_wsS RX5 74 yX5_between wsX5_between) := goodIn_app (goodIn_of _ (by decide +kernel)) ggX5_write_X5_between
theorem dX5_write_0 : decode cX5_write 0 = .ok (.iload_n 1, 1) := by decide +kernel
theorem dX5_write_1 : decode cX5_write 1 = .ok (.i2l, 1) := by decide +kernel
theorem dX5_write_2 : decode cX5_write 2 = .ok (.lconst 1, 1) := by decide +kernel
theorem dX5_write_3 : decode cX5_write 3 = .ok (.ldc2_w 72, 3) := by decide +kernel
theorem dX5_write_6 : decode cX5_write 6 = .ok (.invokestatic 74, 3) := by decide +kernel
theorem dX5_write_9 : decode cX5_write 9 = .ok (.ifCond .ne 5, 3) := by decide +kernel
theorem dX5_write_12 : decode cX5_write 12 = .ok (.iconst (-1), 1) := by decide +kernel
theorem dX5_write_13 : decode cX5_write 13 = .ok (.ireturn, 1) := by decide +kernel
theorem dX5_write_14 : decode cX5_write 14 = .ok (.aload_n 0, 1) := by decide +kernel
theorem dX5_write_15 : decode cX5_write 15 = .ok (.getfield 78, 3) := by decide +kernel
theorem dX5_write_18 : decode cX5_write 18 = .ok (.iload_n 1, 1) := by decide +kernel
theorem dX5_write_19 : decode cX5_write 19 = .ok (.iadd, 1) := by decide +kernel
theorem dX5_write_20 : decode cX5_write 20 = .ok (.sipush 500, 3) := by decide +kernel
theorem dX5_write_23 : decode cX5_write 23 = .ok (.if_icmp .le 6, 3) := by decide +kernel
theorem dX5_write_26 : decode cX5_write 26 = .ok (.bipush (-3), 2) := by decide +kernel
theorem dX5_write_28 : decode cX5_write 28 = .ok (.ireturn, 1) := by decide +kernel
theorem dX5_write_29 : decode cX5_write 29 = .ok (.iload_n 1, 1) := by decide +kernel
theorem dX5_write_30 : decode cX5_write 30 = .ok (.iconst 1, 1) := by decide +kernel
theorem dX5_write_31 : decode cX5_write 31 = .ok (.isub, 1) := by decide +kernel
theorem dX5_write_32 : decode cX5_write 32 = .ok (.istore 4, 2) := by decide +kernel
theorem dX5_write_34 : decode cX5_write 34 = .ok (.iload 4, 2) := by decide +kernel
theorem dX5_write_36 : decode cX5_write 36 = .ok (.ifCond .lt 37, 3) := by decide +kernel
theorem dX5_write_39 : decode cX5_write 39 = .ok (.aload_n 0, 1) := by decide +kernel
theorem dX5_write_40 : decode cX5_write 40 = .ok (.getfield 7, 3) := by decide +kernel
theorem dX5_write_43 : decode cX5_write 43 = .ok (.aload_n 0, 1) := by decide +kernel
theorem dX5_write_44 : decode cX5_write 44 = .ok (.getfield 78, 3) := by decide +kernel
theorem dX5_write_47 : decode cX5_write 47 = .ok (.lload_n 2, 1) := by decide +kernel
theorem dX5_write_48 : decode cX5_write 48 = .ok (.bipush 8, 2) := by decide +kernel
theorem dX5_write_50 : decode cX5_write 50 = .ok (.iload 4, 2) := by decide +kernel
theorem dX5_write_52 : decode cX5_write 52 = .ok (.imul, 1) := by decide +kernel
theorem dX5_write_53 : decode cX5_write 53 = .ok (.lshr, 1) := by decide +kernel
theorem dX5_write_54 : decode cX5_write 54 = .ok (.l2i, 1) := by decide +kernel
theorem dX5_write_55 : decode cX5_write 55 = .ok (.i2b, 1) := by decide +kernel
theorem dX5_write_56 : decode cX5_write 56 = .ok (.bastore, 1) := by decide +kernel
theorem dX5_write_57 : decode cX5_write 57 = .ok (.aload_n 0, 1) := by decide +kernel
theorem dX5_write_58 : decode cX5_write 58 = .ok (.dup, 1) := by decide +kernel
theorem dX5_write_59 : decode cX5_write 59 = .ok (.getfield 78, 3) := by decide +kernel
theorem dX5_write_62 : decode cX5_write 62 = .ok (.iconst 1, 1) := by decide +kernel
theorem dX5_write_63 : decode cX5_write 63 = .ok (.iadd, 1) := by decide +kernel
theorem dX5_write_64 : decode cX5_write 64 = .ok (.putfield 78, 3) := by decide +kernel
theorem dX5_write_67 : decode cX5_write 67 = .ok (.iinc 4 (-1), 3) := by decide +kernel
theorem dX5_write_70 : decode cX5_write 70 = .ok (.goto (-36), 3) := by decide +kernel
theorem dX5_write_73 : decode cX5_write 73 = .ok (.aload_n 0, 1) := by decide +kernel
theorem dX5_write_74 : decode cX5_write 74 = .ok (.getfield 78, 3) := by decide +kernel
theorem dX5_write_77 : decode cX5_write 77 = .ok (.ireturn, 1) := by decide +kernel
theorem dX5_wipe_0 : decode cX5_wipe 0 = .ok (.aload_n 0, 1) := by decide +kernel
theorem dX5_wipe_1 : decode cX5_wipe 1 = .ok (.getfield 78, 3) := by decide +kernel
theorem dX5_wipe_4 : decode cX5_wipe 4 = .ok (.istore_n 1, 1) := by decide +kernel
theorem dX5_wipe_5 : decode cX5_wipe 5 = .ok (.aload_n 0, 1) := by decide +kernel
theorem dX5_wipe_6 : decode cX5_wipe 6 = .ok (.iconst 0, 1) := by decide +kernel
theorem dX5_wipe_7 : decode cX5_wipe 7 = .ok (.putfield 78, 3) := by decide +kernel
theorem dX5_wipe_10 : decode cX5_wipe 10 = .ok (.iload_n 1, 1) := by decide +kernel
theorem dX5_wipe_11 : decode cX5_wipe 11 = .ok (.ireturn, 1) := by decide +kernel
set_option maxRecDepth 20000 in
theorem ggX5_number_X5_between : GoodIn wsX5_number wsX5_between := goodIn_r _ [10] (by decide +kernel) (by decide +kernel)
set_option maxRecDepth 20000 in
theorem gX5_number_X5_between : GoodIn wsX5_number (va_wsS RX5 74 yX5_between wsX5_between) := goodIn_app (goodIn_of _ (by decide +kernel)) ggX5_number_X5_between
theorem dX5_number_0 : decode cX5_number 0 = .ok (.iconst 0, 1) := by decide +kernel
theorem dX5_number_1 : decode cX5_number 1 = .ok (.istore_n 1, 1) := by decide +kernel
theorem dX5_number_2 : decode cX5_number 2 = .ok (.iconst 0, 1) := by decide +kernel
theorem dX5_number_3 : decode cX5_number 3 = .ok (.istore_n 2, 1) := by decide +kernel
theorem dX5_number_4 : decode cX5_number 4 = .ok (.aload_n 0, 1) := by decide +kernel
theorem dX5_number_5 : decode cX5_number 5 = .ok (.getfield 82, 3) := by decide +kernel
theorem dX5_number_8 : decode cX5_number 8 = .ok (.aload_n 0, 1) := by decide +kernel
theorem dX5_number_9 : decode cX5_number 9 = .ok (.getfield 78, 3) := by decide +kernel
theorem dX5_number_12 : decode cX5_number 12 = .ok (.if_icmp .ge 68, 3) := by decide +kernel
theorem dX5_number_15 : decode cX5_number 15 = .ok (.aload_n 0, 1) := by decide +kernel
theorem dX5_number_16 : decode cX5_number 16 = .ok (.getfield 7, 3) := by decide +kernel
theorem dX5_number_19 : decode cX5_number 19 = .ok (.aload_n 0, 1) := by decide +kernel
theorem dX5_number_20 : decode cX5_number 20 = .ok (.getfield 82, 3) := by decide +kernel
theorem dX5_number_23 : decode cX5_number 23 = .ok (.baload, 1) := by decide +kernel
theorem dX5_number_24 : decode cX5_number 24 = .ok (.i2l, 1) := by decide +kernel
theorem dX5_number_25 : decode cX5_number 25 = .ok (.ldc2_w 85, 3) := by decide +kernel
theorem dX5_number_28 : decode cX5_number 28 = .ok (.ldc2_w 87, 3) := by decide +kernel
theorem dX5_number_31 : decode cX5_number 31 = .ok (.invokestatic 74, 3) := by decide +kernel
theorem dX5_number_34 : decode cX5_number 34 = .ok (.ifCond .eq 46, 3) := by decide +kernel
theorem dX5_number_37 : decode cX5_number 37 = .ok (.iload_n 2, 1) := by decide +kernel
theorem dX5_number_38 : decode cX5_number 38 = .ok (.iconst 3, 1) := by decide +kernel
theorem dX5_number_39 : decode cX5_number 39 = .ok (.if_icmp .ge 23, 3) := by decide +kernel
theorem dX5_number_42 : decode cX5_number 42 = .ok (.bipush 10, 2) := by decide +kernel
theorem dX5_number_44 : decode cX5_number 44 = .ok (.iload_n 1, 1) := by decide +kernel
theorem dX5_number_45 : decode cX5_number 45 = .ok (.imul, 1) := by decide +kernel
theorem dX5_number_46 : decode cX5_number 46 = .ok (.aload_n 0, 1) := by decide +kernel
theorem dX5_number_47 : decode cX5_number 47 = .ok (.getfield 7, 3) := by decide +kernel
theorem dX5_number_50 : decode cX5_number 50 = .ok (.aload_n 0, 1) := by decide +kernel
theorem dX5_number_51 : decode cX5_number 51 = .ok (.getfield 82, 3) := by decide +kernel
theorem dX5_number_54 : decode cX5_number 54 = .ok (.baload, 1) := by decide +kernel
theorem dX5_number_55 : decode cX5_number 55 = .ok (.iadd, 1) := by decide +kernel
theorem dX5_number_56 : decode cX5_number 56 = .ok (.bipush 48, 2) := by decide +kernel
theorem dX5_number_58 : decode cX5_number 58 = .ok (.isub, 1) := by decide +kernel
theorem dX5_number_59 : decode cX5_number 59 = .ok (.goto 4, 3) := by decide +kernel
theorem dX5_number_62 : decode cX5_number 62 = .ok (.iload_n 1, 1) := by decide +kernel
theorem dX5_number_63 : decode cX5_number 63 = .ok (.istore_n 1, 1) := by decide +kernel
theorem dX5_number_64 : decode cX5_number 64 = .ok (.iinc 2 1, 3) := by decide +kernel
theorem dX5_number_67 : decode cX5_number 67 = .ok (.aload_n 0, 1) := by decide +kernel
theorem dX5_number_68 : decode cX5_number 68 = .ok (.dup, 1) := by decide +kernel
theorem dX5_number_69 : decode cX5_number 69 = .ok (.getfield 82, 3) := by decide +kernel
theorem dX5_number_72 : decode cX5_number 72 = .ok (.iconst 1, 1) := by decide +kernel
theorem dX5_number_73 : decode cX5_number 73 = .ok (.iadd, 1) := by decide +kernel
theorem dX5_number_74 : decode cX5_number 74 = .ok (.putfield 82, 3) := by decide +kernel
theorem dX5_number_77 : decode cX5_number 77 = .ok (.goto (-73), 3) := by decide +kernel
theorem dX5_number_80 : decode cX5_number 80 = .ok (.iload_n 2, 1) := by decide +kernel
theorem dX5_number_81 : decode cX5_number 81 = .ok (.i2l, 1) := by decide +kernel
theorem dX5_number_82 : decode cX5_number 82 = .ok (.lconst 1, 1) := by decide +kernel
theorem dX5_number_83 : decode cX5_number 83 = .ok (.ldc2_w 89, 3) := by decide +kernel
theorem dX5_number_86 : decode cX5_number 86 = .ok (.invokestatic 74, 3) := by decide +kernel
theorem dX5_number_89 : decode cX5_number 89 = .ok (.ifCond .eq 7, 3) := by decide +kernel
theorem dX5_number_92 : decode cX5_number 92 = .ok (.iload_n 1, 1) := by decide +kernel
theorem dX5_number_93 : decode cX5_number 93 = .ok (.goto 4, 3) := by decide +kernel
theorem dX5_number_96 : decode cX5_number 96 = .ok (.iconst (-1), 1) := by decide +kernel
theorem dX5_number_97 : decode cX5_number 97 = .ok (.ireturn, 1) := by decide +kernel
theorem dX5_figures_0 : decode cX5_figures 0 = .ok (.iload_n 0, 1) := by decide +kernel
theorem dX5_figures_1 : decode cX5_figures 1 = .ok (.bipush 99, 2) := by decide +kernel
theorem dX5_figures_3 : decode cX5_figures 3 = .ok (.if_icmp .eq 15, 3) := by decide +kernel
theorem dX5_figures_6 : decode cX5_figures 6 = .ok (.iload_n 0, 1) := by decide +kernel
theorem dX5_figures_7 : decode cX5_figures 7 = .ok (.bipush 116, 2) := by decide +kernel
theorem dX5_figures_9 : decode cX5_figures 9 = .ok (.if_icmp .eq 9, 3) := by decide +kernel
theorem dX5_figures_12 : decode cX5_figures 12 = .ok (.iload_n 0, 1) := by decide +kernel
theorem dX5_figures_13 : decode cX5_figures 13 = .ok (.bipush 97, 2) := by decide +kernel
theorem dX5_figures_15 : decode cX5_figures 15 = .ok (.if_icmp .ne 7, 3) := by decide +kernel
theorem dX5_figures_18 : decode cX5_figures 18 = .ok (.iconst 3, 1) := by decide +kernel
theorem dX5_figures_19 : decode cX5_figures 19 = .ok (.goto 36, 3) := by decide +kernel
theorem dX5_figures_22 : decode cX5_figures 22 = .ok (.iload_n 0, 1) := by decide +kernel
theorem dX5_figures_23 : decode cX5_figures 23 = .ok (.bipush 103, 2) := by decide +kernel
theorem dX5_figures_25 : decode cX5_figures 25 = .ok (.if_icmp .eq 15, 3) := by decide +kernel
theorem dX5_figures_28 : decode cX5_figures 28 = .ok (.iload_n 0, 1) := by decide +kernel
theorem dX5_figures_29 : decode cX5_figures 29 = .ok (.bipush 98, 2) := by decide +kernel
theorem dX5_figures_31 : decode cX5_figures 31 = .ok (.if_icmp .eq 9, 3) := by decide +kernel
theorem dX5_figures_34 : decode cX5_figures 34 = .ok (.iload_n 0, 1) := by decide +kernel
theorem dX5_figures_35 : decode cX5_figures 35 = .ok (.bipush 110, 2) := by decide +kernel
theorem dX5_figures_37 : decode cX5_figures 37 = .ok (.if_icmp .ne 7, 3) := by decide +kernel
theorem dX5_figures_40 : decode cX5_figures 40 = .ok (.iconst 2, 1) := by decide +kernel
theorem dX5_figures_41 : decode cX5_figures 41 = .ok (.goto 14, 3) := by decide +kernel
theorem dX5_figures_44 : decode cX5_figures 44 = .ok (.iload_n 0, 1) := by decide +kernel
theorem dX5_figures_45 : decode cX5_figures 45 = .ok (.bipush 119, 2) := by decide +kernel
theorem dX5_figures_47 : decode cX5_figures 47 = .ok (.if_icmp .ne 7, 3) := by decide +kernel
theorem dX5_figures_50 : decode cX5_figures 50 = .ok (.iconst 1, 1) := by decide +kernel
theorem dX5_figures_51 : decode cX5_figures 51 = .ok (.goto 4, 3) := by decide +kernel
theorem dX5_figures_54 : decode cX5_figures 54 = .ok (.iconst 0, 1) := by decide +kernel
theorem dX5_figures_55 : decode cX5_figures 55 = .ok (.ireturn, 1) := by decide +kernel
set_option maxRecDepth 20000 in
theorem ggX5_isItem_X5_figures : GoodIn wsX5_isItem wsX5_figures := goodIn_r _ [8] (by decide +kernel) (by decide +kernel)
set_option maxRecDepth 20000 in
theorem gX5_isItem_X5_figures : GoodIn wsX5_isItem (va_wsS RX5 91 yX5_figures wsX5_figures) := goodIn_app (goodIn_of _ (by decide +kernel)) ggX5_isItem_X5_figures
set_option maxRecDepth 20000 in
theorem ggX5_isItem_X5_number : GoodIn wsX5_isItem wsX5_number := goodIn_r _ [12, 2, 3, 1, 13, 14, 15, 16, 17, 7, 18, 49, 50, 51, 52, 53, 54, 55, 56, 57, 58, 59, 60, 61, 62, 63, 64, 65, 66, 67, 68, 69, 70, 71, 72, 73, 74, 75, 76, 77] (by decide +kernel) (by decide +kernel)
set_option maxRecDepth 20000 in
theorem gX5_isItem_X5_number : GoodIn wsX5_isItem (wsV RX5 95 RX5 yX5_number wsX5_number) := goodIn_app (goodIn_of _ (by decide +kernel)) ggX5_isItem_X5_number
set_option maxRecDepth 20000 in
theorem ggX5_isItem_X5_isGood : GoodIn wsX5_isItem wsX5_isGood := goodIn_r _ [22, 4, 23, 24, 25, 26, 27, 28, 29, 30, 31, 16, 17, 7, 18, 32, 33, 34, 35, 36, 37, 38, 39, 40, 41, 42, 43, 44, 45, 46, 47, 48, 49, 50, 51, 52, 53, 54, 55, 56, 57, 58, 59, 60, 61, 62, 63, 64, 65, 66, 67, 68, 69, 70, 71, 72, 73, 74, 75, 76, 77] (by decide +kernel) (by decide +kernel)
set_option maxRecDepth 20000 in
theorem gX5_isItem_X5_isGood : GoodIn wsX5_isItem (wsV RX5 99 RX5 yX5_isGood wsX5_isGood) := goodIn_app (goodIn_of _ (by decide +kernel)) ggX5_isItem_X5_isGood
theorem dX5_isItem_0 : decode cX5_isItem 0 = .ok (.aload_n 0, 1) := by decide +kernel
theorem dX5_isItem_1 : decode cX5_isItem 1 = .ok (.getfield 7, 3) := by decide +kernel
theorem dX5_isItem_4 : decode cX5_isItem 4 = .ok (.aload_n 0, 1) := by decide +kernel
theorem dX5_isItem_5 : decode cX5_isItem 5 = .ok (.getfield 82, 3) := by decide +kernel
theorem dX5_isItem_8 : decode cX5_isItem 8 = .ok (.baload, 1) := by decide +kernel
theorem dX5_isItem_9 : decode cX5_isItem 9 = .ok (.istore_n 1, 1) := by decide +kernel
theorem dX5_isItem_10 : decode cX5_isItem 10 = .ok (.aload_n 0, 1) := by decide +kernel
theorem dX5_isItem_11 : decode cX5_isItem 11 = .ok (.dup, 1) := by decide +kernel
theorem dX5_isItem_12 : decode cX5_isItem 12 = .ok (.getfield 82, 3) := by decide +kernel
theorem dX5_isItem_15 : decode cX5_isItem 15 = .ok (.iconst 1, 1) := by decide +kernel
theorem dX5_isItem_16 : decode cX5_isItem 16 = .ok (.iadd, 1) := by decide +kernel
theorem dX5_isItem_17 : decode cX5_isItem 17 = .ok (.putfield 82, 3) := by decide +kernel
theorem dX5_isItem_20 : decode cX5_isItem 20 = .ok (.iload_n 1, 1) := by decide +kernel
theorem dX5_isItem_21 : decode cX5_isItem 21 = .ok (.invokestatic 91, 3) := by decide +kernel
theorem dX5_isItem_24 : decode cX5_isItem 24 = .ok (.istore_n 2, 1) := by decide +kernel
theorem dX5_isItem_25 : decode cX5_isItem 25 = .ok (.iload_n 2, 1) := by decide +kernel
theorem dX5_isItem_26 : decode cX5_isItem 26 = .ok (.ifCond .le 7, 3) := by decide +kernel
theorem dX5_isItem_29 : decode cX5_isItem 29 = .ok (.iconst 1, 1) := by decide +kernel
theorem dX5_isItem_30 : decode cX5_isItem 30 = .ok (.goto 4, 3) := by decide +kernel
theorem dX5_isItem_33 : decode cX5_isItem 33 = .ok (.iconst 0, 1) := by decide +kernel
theorem dX5_isItem_34 : decode cX5_isItem 34 = .ok (.istore_n 3, 1) := by decide +kernel
theorem dX5_isItem_35 : decode cX5_isItem 35 = .ok (.iconst 0, 1) := by decide +kernel
theorem dX5_isItem_36 : decode cX5_isItem 36 = .ok (.istore 4, 2) := by decide +kernel
theorem dX5_isItem_38 : decode cX5_isItem 38 = .ok (.iload 4, 2) := by decide +kernel
theorem dX5_isItem_40 : decode cX5_isItem 40 = .ok (.iload_n 2, 1) := by decide +kernel
theorem dX5_isItem_41 : decode cX5_isItem 41 = .ok (.if_icmp .ge 103, 3) := by decide +kernel
theorem dX5_isItem_44 : decode cX5_isItem 44 = .ok (.iload_n 3, 1) := by decide +kernel
theorem dX5_isItem_45 : decode cX5_isItem 45 = .ok (.ifCond .eq 99, 3) := by decide +kernel
theorem dX5_isItem_48 : decode cX5_isItem 48 = .ok (.iload 4, 2) := by decide +kernel
theorem dX5_isItem_50 : decode cX5_isItem 50 = .ok (.ifCond .eq 28, 3) := by decide +kernel
theorem dX5_isItem_53 : decode cX5_isItem 53 = .ok (.aload_n 0, 1) := by decide +kernel
theorem dX5_isItem_54 : decode cX5_isItem 54 = .ok (.getfield 82, 3) := by decide +kernel
theorem dX5_isItem_57 : decode cX5_isItem 57 = .ok (.aload_n 0, 1) := by decide +kernel
theorem dX5_isItem_58 : decode cX5_isItem 58 = .ok (.getfield 78, 3) := by decide +kernel
theorem dX5_isItem_61 : decode cX5_isItem 61 = .ok (.if_icmp .ge 21, 3) := by decide +kernel
theorem dX5_isItem_64 : decode cX5_isItem 64 = .ok (.aload_n 0, 1) := by decide +kernel
theorem dX5_isItem_65 : decode cX5_isItem 65 = .ok (.getfield 7, 3) := by decide +kernel
theorem dX5_isItem_68 : decode cX5_isItem 68 = .ok (.aload_n 0, 1) := by decide +kernel
theorem dX5_isItem_69 : decode cX5_isItem 69 = .ok (.getfield 82, 3) := by decide +kernel
theorem dX5_isItem_72 : decode cX5_isItem 72 = .ok (.baload, 1) := by decide +kernel
theorem dX5_isItem_73 : decode cX5_isItem 73 = .ok (.bipush 44, 2) := by decide +kernel
theorem dX5_isItem_75 : decode cX5_isItem 75 = .ok (.if_icmp .ne 7, 3) := by decide +kernel
theorem dX5_isItem_78 : decode cX5_isItem 78 = .ok (.iconst 1, 1) := by decide +kernel
theorem dX5_isItem_79 : decode cX5_isItem 79 = .ok (.goto 4, 3) := by decide +kernel
theorem dX5_isItem_82 : decode cX5_isItem 82 = .ok (.iconst 0, 1) := by decide +kernel
theorem dX5_isItem_83 : decode cX5_isItem 83 = .ok (.istore_n 3, 1) := by decide +kernel
theorem dX5_isItem_84 : decode cX5_isItem 84 = .ok (.aload_n 0, 1) := by decide +kernel
theorem dX5_isItem_85 : decode cX5_isItem 85 = .ok (.dup, 1) := by decide +kernel
theorem dX5_isItem_86 : decode cX5_isItem 86 = .ok (.getfield 82, 3) := by decide +kernel
theorem dX5_isItem_89 : decode cX5_isItem 89 = .ok (.iload 4, 2) := by decide +kernel
theorem dX5_isItem_91 : decode cX5_isItem 91 = .ok (.ifCond .ne 7, 3) := by decide +kernel
theorem dX5_isItem_94 : decode cX5_isItem 94 = .ok (.iconst 0, 1) := by decide +kernel
theorem dX5_isItem_95 : decode cX5_isItem 95 = .ok (.goto 4, 3) := by decide +kernel
theorem dX5_isItem_98 : decode cX5_isItem 98 = .ok (.iconst 1, 1) := by decide +kernel
theorem dX5_isItem_99 : decode cX5_isItem 99 = .ok (.iadd, 1) := by decide +kernel
theorem dX5_isItem_100 : decode cX5_isItem 100 = .ok (.putfield 82, 3) := by decide +kernel
theorem dX5_isItem_103 : decode cX5_isItem 103 = .ok (.aload_n 0, 1) := by decide +kernel
theorem dX5_isItem_104 : decode cX5_isItem 104 = .ok (.getfield 69, 3) := by decide +kernel
theorem dX5_isItem_107 : decode cX5_isItem 107 = .ok (.iload 4, 2) := by decide +kernel
theorem dX5_isItem_109 : decode cX5_isItem 109 = .ok (.iload_n 3, 1) := by decide +kernel
theorem dX5_isItem_110 : decode cX5_isItem 110 = .ok (.ifCond .eq 10, 3) := by decide +kernel
theorem dX5_isItem_113 : decode cX5_isItem 113 = .ok (.aload_n 0, 1) := by decide +kernel
theorem dX5_isItem_114 : decode cX5_isItem 114 = .ok (.invokevirtual 95, 3) := by decide +kernel
theorem dX5_isItem_117 : decode cX5_isItem 117 = .ok (.goto 4, 3) := by decide +kernel
theorem dX5_isItem_120 : decode cX5_isItem 120 = .ok (.iconst (-1), 1) := by decide +kernel
theorem dX5_isItem_121 : decode cX5_isItem 121 = .ok (.iastore, 1) := by decide +kernel
theorem dX5_isItem_122 : decode cX5_isItem 122 = .ok (.aload_n 0, 1) := by decide +kernel
theorem dX5_isItem_123 : decode cX5_isItem 123 = .ok (.getfield 69, 3) := by decide +kernel
theorem dX5_isItem_126 : decode cX5_isItem 126 = .ok (.iload 4, 2) := by decide +kernel
theorem dX5_isItem_128 : decode cX5_isItem 128 = .ok (.iaload, 1) := by decide +kernel
theorem dX5_isItem_129 : decode cX5_isItem 129 = .ok (.ifCond .lt 7, 3) := by decide +kernel
theorem dX5_isItem_132 : decode cX5_isItem 132 = .ok (.iconst 1, 1) := by decide +kernel
theorem dX5_isItem_133 : decode cX5_isItem 133 = .ok (.goto 4, 3) := by decide +kernel
theorem dX5_isItem_136 : decode cX5_isItem 136 = .ok (.iconst 0, 1) := by decide +kernel
theorem dX5_isItem_137 : decode cX5_isItem 137 = .ok (.istore_n 3, 1) := by decide +kernel
theorem dX5_isItem_138 : decode cX5_isItem 138 = .ok (.iinc 4 1, 3) := by decide +kernel
theorem dX5_isItem_141 : decode cX5_isItem 141 = .ok (.goto (-103), 3) := by decide +kernel
theorem dX5_isItem_144 : decode cX5_isItem 144 = .ok (.iload_n 3, 1) := by decide +kernel
theorem dX5_isItem_145 : decode cX5_isItem 145 = .ok (.ifCond .eq 32, 3) := by decide +kernel
theorem dX5_isItem_148 : decode cX5_isItem 148 = .ok (.aload_n 0, 1) := by decide +kernel
theorem dX5_isItem_149 : decode cX5_isItem 149 = .ok (.getfield 82, 3) := by decide +kernel
theorem dX5_isItem_152 : decode cX5_isItem 152 = .ok (.aload_n 0, 1) := by decide +kernel
theorem dX5_isItem_153 : decode cX5_isItem 153 = .ok (.getfield 78, 3) := by decide +kernel
theorem dX5_isItem_156 : decode cX5_isItem 156 = .ok (.if_icmp .ge 21, 3) := by decide +kernel
theorem dX5_isItem_159 : decode cX5_isItem 159 = .ok (.aload_n 0, 1) := by decide +kernel
theorem dX5_isItem_160 : decode cX5_isItem 160 = .ok (.getfield 7, 3) := by decide +kernel
theorem dX5_isItem_163 : decode cX5_isItem 163 = .ok (.aload_n 0, 1) := by decide +kernel
theorem dX5_isItem_164 : decode cX5_isItem 164 = .ok (.getfield 82, 3) := by decide +kernel
theorem dX5_isItem_167 : decode cX5_isItem 167 = .ok (.baload, 1) := by decide +kernel
theorem dX5_isItem_168 : decode cX5_isItem 168 = .ok (.bipush 59, 2) := by decide +kernel
theorem dX5_isItem_170 : decode cX5_isItem 170 = .ok (.if_icmp .ne 7, 3) := by decide +kernel
theorem dX5_isItem_173 : decode cX5_isItem 173 = .ok (.iconst 1, 1) := by decide +kernel
theorem dX5_isItem_174 : decode cX5_isItem 174 = .ok (.goto 4, 3) := by decide +kernel
theorem dX5_isItem_177 : decode cX5_isItem 177 = .ok (.iconst 0, 1) := by decide +kernel
theorem dX5_isItem_178 : decode cX5_isItem 178 = .ok (.istore_n 3, 1) := by decide +kernel
theorem dX5_isItem_179 : decode cX5_isItem 179 = .ok (.aload_n 0, 1) := by decide +kernel
theorem dX5_isItem_180 : decode cX5_isItem 180 = .ok (.dup, 1) := by decide +kernel
theorem dX5_isItem_181 : decode cX5_isItem 181 = .ok (.getfield 82, 3) := by decide +kernel
theorem dX5_isItem_184 : decode cX5_isItem 184 = .ok (.iconst 1, 1) := by decide +kernel
theorem dX5_isItem_185 : decode cX5_isItem 185 = .ok (.iadd, 1) := by decide +kernel
theorem dX5_isItem_186 : decode cX5_isItem 186 = .ok (.putfield 82, 3) := by decide +kernel
theorem dX5_isItem_189 : decode cX5_isItem 189 = .ok (.iload_n 3, 1) := by decide +kernel
theorem dX5_isItem_190 : decode cX5_isItem 190 = .ok (.ifCond .eq 15, 3) := by decide +kernel
theorem dX5_isItem_193 : decode cX5_isItem 193 = .ok (.aload_n 0, 1) := by decide +kernel
theorem dX5_isItem_194 : decode cX5_isItem 194 = .ok (.iload_n 1, 1) := by decide +kernel
theorem dX5_isItem_195 : decode cX5_isItem 195 = .ok (.invokevirtual 99, 3) := by decide +kernel
theorem dX5_isItem_198 : decode cX5_isItem 198 = .ok (.ifCond .eq 7, 3) := by decide +kernel
theorem dX5_isItem_201 : decode cX5_isItem 201 = .ok (.iconst 1, 1) := by decide +kernel
theorem dX5_isItem_202 : decode cX5_isItem 202 = .ok (.goto 4, 3) := by decide +kernel
theorem dX5_isItem_205 : decode cX5_isItem 205 = .ok (.iconst 0, 1) := by decide +kernel
theorem dX5_isItem_206 : decode cX5_isItem 206 = .ok (.ireturn, 1) := by decide +kernel
set_option maxRecDepth 20000 in
theorem ggX5_areWeeks_X5_between : GoodIn wsX5_areWeeks wsX5_between := goodIn_r _ [5] (by decide +kernel) (by decide +kernel)
set_option maxRecDepth 20000 in
theorem gX5_areWeeks_X5_between : GoodIn wsX5_areWeeks (va_wsS RX5 74 yX5_between wsX5_between) := goodIn_app (goodIn_of _ (by decide +kernel)) ggX5_areWeeks_X5_between
theorem dX5_areWeeks_0 : decode cX5_areWeeks 0 = .ok (.iload_n 0, 1) := by decide +kernel
theorem dX5_areWeeks_1 : decode cX5_areWeeks 1 = .ok (.i2l, 1) := by decide +kernel
theorem dX5_areWeeks_2 : decode cX5_areWeeks 2 = .ok (.lconst 0, 1) := by decide +kernel
theorem dX5_areWeeks_3 : decode cX5_areWeeks 3 = .ok (.ldc2_w 103, 3) := by decide +kernel
theorem dX5_areWeeks_6 : decode cX5_areWeeks 6 = .ok (.invokestatic 74, 3) := by decide +kernel
theorem dX5_areWeeks_9 : decode cX5_areWeeks 9 = .ok (.ifCond .eq 20, 3) := by decide +kernel
theorem dX5_areWeeks_12 : decode cX5_areWeeks 12 = .ok (.iload_n 1, 1) := by decide +kernel
theorem dX5_areWeeks_13 : decode cX5_areWeeks 13 = .ok (.i2l, 1) := by decide +kernel
theorem dX5_areWeeks_14 : decode cX5_areWeeks 14 = .ok (.iload_n 0, 1) := by decide +kernel
theorem dX5_areWeeks_15 : decode cX5_areWeeks 15 = .ok (.i2l, 1) := by decide +kernel
theorem dX5_areWeeks_16 : decode cX5_areWeeks 16 = .ok (.ldc2_w 103, 3) := by decide +kernel
theorem dX5_areWeeks_19 : decode cX5_areWeeks 19 = .ok (.invokestatic 74, 3) := by decide +kernel
theorem dX5_areWeeks_22 : decode cX5_areWeeks 22 = .ok (.ifCond .eq 7, 3) := by decide +kernel
theorem dX5_areWeeks_25 : decode cX5_areWeeks 25 = .ok (.iconst 1, 1) := by decide +kernel
theorem dX5_areWeeks_26 : decode cX5_areWeeks 26 = .ok (.goto 4, 3) := by decide +kernel
theorem dX5_areWeeks_29 : decode cX5_areWeeks 29 = .ok (.iconst 0, 1) := by decide +kernel
theorem dX5_areWeeks_30 : decode cX5_areWeeks 30 = .ok (.ireturn, 1) := by decide +kernel
theorem dX5_weeks_0 : decode cX5_weeks 0 = .ok (.iconst 1, 1) := by decide +kernel
theorem dX5_weeks_1 : decode cX5_weeks 1 = .ok (.iload_n 1, 1) := by decide +kernel
theorem dX5_weeks_2 : decode cX5_weeks 2 = .ok (.iconst 1, 1) := by decide +kernel
theorem dX5_weeks_3 : decode cX5_weeks 3 = .ok (.iadd, 1) := by decide +kernel
theorem dX5_weeks_4 : decode cX5_weeks 4 = .ok (.ishl, 1) := by decide +kernel
theorem dX5_weeks_5 : decode cX5_weeks 5 = .ok (.iconst 1, 1) := by decide +kernel
theorem dX5_weeks_6 : decode cX5_weeks 6 = .ok (.iload_n 0, 1) := by decide +kernel
theorem dX5_weeks_7 : decode cX5_weeks 7 = .ok (.ishl, 1) := by decide +kernel
theorem dX5_weeks_8 : decode cX5_weeks 8 = .ok (.isub, 1) := by decide +kernel
theorem dX5_weeks_9 : decode cX5_weeks 9 = .ok (.ireturn, 1) := by decide +kernel
set_option maxRecDepth 20000 in
theorem ggX5_isGood_X5_between : GoodIn wsX5_isGood wsX5_between := goodIn_r _ [14] (by decide +kernel) (by decide +kernel)
set_option maxRecDepth 20000 in
theorem gX5_isGood_X5_between : GoodIn wsX5_isGood (va_wsS RX5 74 yX5_between wsX5_between) := goodIn_app (goodIn_of _ (by decide +kernel)) ggX5_isGood_X5_between
set_option maxRecDepth 20000 in
theorem ggX5_isGood_X5_areWeeks : GoodIn wsX5_isGood wsX5_areWeeks := goodIn_r _ [17, 18, 11, 12, 13, 14] (by decide +kernel) (by decide +kernel)
set_option maxRecDepth 20000 in
theorem gX5_isGood_X5_areWeeks : GoodIn wsX5_isGood (va_wsS RX5 109 yX5_areWeeks wsX5_areWeeks) := goodIn_app (goodIn_of _ (by decide +kernel)) ggX5_isGood_X5_areWeeks
set_option maxRecDepth 20000 in
theorem ggX5_isGood_X5_kindOf : GoodIn wsX5_isGood wsX5_kindOf := goodIn_r _ [21] (by decide +kernel) (by decide +kernel)
set_option maxRecDepth 20000 in
theorem gX5_isGood_X5_kindOf : GoodIn wsX5_isGood (va_wsS RX5 115 yX5_kindOf wsX5_kindOf) := goodIn_app (goodIn_of _ (by decide +kernel)) ggX5_isGood_X5_kindOf
set_option maxRecDepth 20000 in
theorem ggX5_isGood_X5_isName : GoodIn wsX5_isGood wsX5_isName := goodIn_r _ [25, 26, 27, 28, 8, 15, 16, 13, 17, 18, 11, 12, 14, 29, 30, 31, 32, 33, 34, 35, 36, 37, 38, 39, 40, 41, 42, 43, 44, 45, 46, 47, 48, 49, 50, 51, 52, 53, 54, 55, 56, 57, 58, 59, 60] (by decide +kernel) (by decide +kernel)
set_option maxRecDepth 20000 in
theorem gX5_isGood_X5_isName : GoodIn wsX5_isGood (wsV RX5 118 RX5 yX5_isName wsX5_isName) := goodIn_app (goodIn_of _ (by decide +kernel)) ggX5_isGood_X5_isName
theorem dX5_isGood_0 : decode cX5_isGood 0 = .ok (.aload_n 0, 1) := by decide +kernel
theorem dX5_isGood_1 : decode cX5_isGood 1 = .ok (.getfield 69, 3) := by decide +kernel
theorem dX5_isGood_4 : decode cX5_isGood 4 = .ok (.iconst 0, 1) := by decide +kernel
theorem dX5_isGood_5 : decode cX5_isGood 5 = .ok (.iaload, 1) := by decide +kernel
theorem dX5_isGood_6 : decode cX5_isGood 6 = .ok (.istore_n 2, 1) := by decide +kernel
theorem dX5_isGood_7 : decode cX5_isGood 7 = .ok (.aload_n 0, 1) := by decide +kernel
theorem dX5_isGood_8 : decode cX5_isGood 8 = .ok (.getfield 69, 3) := by decide +kernel
theorem dX5_isGood_11 : decode cX5_isGood 11 = .ok (.iconst 1, 1) := by decide +kernel
theorem dX5_isGood_12 : decode cX5_isGood 12 = .ok (.iaload, 1) := by decide +kernel
theorem dX5_isGood_13 : decode cX5_isGood 13 = .ok (.istore_n 3, 1) := by decide +kernel
theorem dX5_isGood_14 : decode cX5_isGood 14 = .ok (.aload_n 0, 1) := by decide +kernel
theorem dX5_isGood_15 : decode cX5_isGood 15 = .ok (.getfield 69, 3) := by decide +kernel
theorem dX5_isGood_18 : decode cX5_isGood 18 = .ok (.iconst 2, 1) := by decide +kernel
theorem dX5_isGood_19 : decode cX5_isGood 19 = .ok (.iaload, 1) := by decide +kernel
theorem dX5_isGood_20 : decode cX5_isGood 20 = .ok (.istore 4, 2) := by decide +kernel
theorem dX5_isGood_22 : decode cX5_isGood 22 = .ok (.iload_n 1, 1) := by decide +kernel
theorem dX5_isGood_23 : decode cX5_isGood 23 = .ok (.bipush 103, 2) := by decide +kernel
theorem dX5_isGood_25 : decode cX5_isGood 25 = .ok (.if_icmp .ne 110, 3) := by decide +kernel
theorem dX5_isGood_28 : decode cX5_isGood 28 = .ok (.iload_n 2, 1) := by decide +kernel
theorem dX5_isGood_29 : decode cX5_isGood 29 = .ok (.i2l, 1) := by decide +kernel
theorem dX5_isGood_30 : decode cX5_isGood 30 = .ok (.lconst 1, 1) := by decide +kernel
theorem dX5_isGood_31 : decode cX5_isGood 31 = .ok (.ldc2_w 105, 3) := by decide +kernel
theorem dX5_isGood_34 : decode cX5_isGood 34 = .ok (.invokestatic 74, 3) := by decide +kernel
theorem dX5_isGood_37 : decode cX5_isGood 37 = .ok (.ifCond .eq 38, 3) := by decide +kernel
theorem dX5_isGood_40 : decode cX5_isGood 40 = .ok (.iload_n 3, 1) := by decide +kernel
theorem dX5_isGood_41 : decode cX5_isGood 41 = .ok (.bipush 99, 2) := by decide +kernel
theorem dX5_isGood_43 : decode cX5_isGood 43 = .ok (.if_icmp .eq 21, 3) := by decide +kernel
theorem dX5_isGood_46 : decode cX5_isGood 46 = .ok (.iload_n 3, 1) := by decide +kernel
theorem dX5_isGood_47 : decode cX5_isGood 47 = .ok (.i2l, 1) := by decide +kernel
theorem dX5_isGood_48 : decode cX5_isGood 48 = .ok (.lconst 0, 1) := by decide +kernel
theorem dX5_isGood_49 : decode cX5_isGood 49 = .ok (.aload_n 0, 1) := by decide +kernel
theorem dX5_isGood_50 : decode cX5_isGood 50 = .ok (.getfield 13, 3) := by decide +kernel
theorem dX5_isGood_53 : decode cX5_isGood 53 = .ok (.iconst 1, 1) := by decide +kernel
theorem dX5_isGood_54 : decode cX5_isGood 54 = .ok (.iaload, 1) := by decide +kernel
theorem dX5_isGood_55 : decode cX5_isGood 55 = .ok (.iconst 1, 1) := by decide +kernel
theorem dX5_isGood_56 : decode cX5_isGood 56 = .ok (.isub, 1) := by decide +kernel
theorem dX5_isGood_57 : decode cX5_isGood 57 = .ok (.i2l, 1) := by decide +kernel
theorem dX5_isGood_58 : decode cX5_isGood 58 = .ok (.invokestatic 74, 3) := by decide +kernel
theorem dX5_isGood_61 : decode cX5_isGood 61 = .ok (.ifCond .eq 14, 3) := by decide +kernel
theorem dX5_isGood_64 : decode cX5_isGood 64 = .ok (.aload_n 0, 1) := by decide +kernel
theorem dX5_isGood_65 : decode cX5_isGood 65 = .ok (.getfield 13, 3) := by decide +kernel
theorem dX5_isGood_68 : decode cX5_isGood 68 = .ok (.iconst 1, 1) := by decide +kernel
theorem dX5_isGood_69 : decode cX5_isGood 69 = .ok (.iaload, 1) := by decide +kernel
theorem dX5_isGood_70 : decode cX5_isGood 70 = .ok (.bipush 16, 2) := by decide +kernel
theorem dX5_isGood_72 : decode cX5_isGood 72 = .ok (.if_icmp .ne 5, 3) := by decide +kernel
theorem dX5_isGood_75 : decode cX5_isGood 75 = .ok (.iconst 0, 1) := by decide +kernel
theorem dX5_isGood_76 : decode cX5_isGood 76 = .ok (.ireturn, 1) := by decide +kernel
theorem dX5_isGood_77 : decode cX5_isGood 77 = .ok (.aload_n 0, 1) := by decide +kernel
theorem dX5_isGood_78 : decode cX5_isGood 78 = .ok (.getfield 17, 3) := by decide +kernel
theorem dX5_isGood_81 : decode cX5_isGood 81 = .ok (.bipush 32, 2) := by decide +kernel
theorem dX5_isGood_83 : decode cX5_isGood 83 = .ok (.iconst 2, 1) := by decide +kernel
theorem dX5_isGood_84 : decode cX5_isGood 84 = .ok (.aload_n 0, 1) := by decide +kernel
theorem dX5_isGood_85 : decode cX5_isGood 85 = .ok (.getfield 13, 3) := by decide +kernel
theorem dX5_isGood_88 : decode cX5_isGood 88 = .ok (.iconst 1, 1) := by decide +kernel
theorem dX5_isGood_89 : decode cX5_isGood 89 = .ok (.iaload, 1) := by decide +kernel
theorem dX5_isGood_90 : decode cX5_isGood 90 = .ok (.imul, 1) := by decide +kernel
theorem dX5_isGood_91 : decode cX5_isGood 91 = .ok (.iadd, 1) := by decide +kernel
theorem dX5_isGood_92 : decode cX5_isGood 92 = .ok (.iload_n 2, 1) := by decide +kernel
theorem dX5_isGood_93 : decode cX5_isGood 93 = .ok (.iastore, 1) := by decide +kernel
theorem dX5_isGood_94 : decode cX5_isGood 94 = .ok (.aload_n 0, 1) := by decide +kernel
theorem dX5_isGood_95 : decode cX5_isGood 95 = .ok (.getfield 17, 3) := by decide +kernel
theorem dX5_isGood_98 : decode cX5_isGood 98 = .ok (.bipush 33, 2) := by decide +kernel
theorem dX5_isGood_100 : decode cX5_isGood 100 = .ok (.iconst 2, 1) := by decide +kernel
theorem dX5_isGood_101 : decode cX5_isGood 101 = .ok (.aload_n 0, 1) := by decide +kernel
theorem dX5_isGood_102 : decode cX5_isGood 102 = .ok (.getfield 13, 3) := by decide +kernel
theorem dX5_isGood_105 : decode cX5_isGood 105 = .ok (.iconst 1, 1) := by decide +kernel
theorem dX5_isGood_106 : decode cX5_isGood 106 = .ok (.iaload, 1) := by decide +kernel
theorem dX5_isGood_107 : decode cX5_isGood 107 = .ok (.imul, 1) := by decide +kernel
theorem dX5_isGood_108 : decode cX5_isGood 108 = .ok (.iadd, 1) := by decide +kernel
theorem dX5_isGood_109 : decode cX5_isGood 109 = .ok (.iload_n 3, 1) := by decide +kernel
theorem dX5_isGood_110 : decode cX5_isGood 110 = .ok (.bipush 99, 2) := by decide +kernel
theorem dX5_isGood_112 : decode cX5_isGood 112 = .ok (.if_icmp .ne 8, 3) := by decide +kernel
theorem dX5_isGood_115 : decode cX5_isGood 115 = .ok (.bipush (-4), 2) := by decide +kernel
theorem dX5_isGood_117 : decode cX5_isGood 117 = .ok (.goto 4, 3) := by decide +kernel
theorem dX5_isGood_120 : decode cX5_isGood 120 = .ok (.iload_n 3, 1) := by decide +kernel
theorem dX5_isGood_121 : decode cX5_isGood 121 = .ok (.iastore, 1) := by decide +kernel
theorem dX5_isGood_122 : decode cX5_isGood 122 = .ok (.aload_n 0, 1) := by decide +kernel
theorem dX5_isGood_123 : decode cX5_isGood 123 = .ok (.getfield 13, 3) := by decide +kernel
theorem dX5_isGood_126 : decode cX5_isGood 126 = .ok (.iconst 1, 1) := by decide +kernel
theorem dX5_isGood_127 : decode cX5_isGood 127 = .ok (.dup2, 1) := by decide +kernel
theorem dX5_isGood_128 : decode cX5_isGood 128 = .ok (.iaload, 1) := by decide +kernel
theorem dX5_isGood_129 : decode cX5_isGood 129 = .ok (.iconst 1, 1) := by decide +kernel
theorem dX5_isGood_130 : decode cX5_isGood 130 = .ok (.iadd, 1) := by decide +kernel
theorem dX5_isGood_131 : decode cX5_isGood 131 = .ok (.iastore, 1) := by decide +kernel
theorem dX5_isGood_132 : decode cX5_isGood 132 = .ok (.goto 268, 3) := by decide +kernel
theorem dX5_isGood_135 : decode cX5_isGood 135 = .ok (.iload_n 1, 1) := by decide +kernel
theorem dX5_isGood_136 : decode cX5_isGood 136 = .ok (.bipush 99, 2) := by decide +kernel
theorem dX5_isGood_138 : decode cX5_isGood 138 = .ok (.if_icmp .ne 102, 3) := by decide +kernel
theorem dX5_isGood_141 : decode cX5_isGood 141 = .ok (.iload_n 2, 1) := by decide +kernel
theorem dX5_isGood_142 : decode cX5_isGood 142 = .ok (.i2l, 1) := by decide +kernel
theorem dX5_isGood_143 : decode cX5_isGood 143 = .ok (.lconst 0, 1) := by decide +kernel
theorem dX5_isGood_144 : decode cX5_isGood 144 = .ok (.ldc2_w 107, 3) := by decide +kernel
theorem dX5_isGood_147 : decode cX5_isGood 147 = .ok (.invokestatic 74, 3) := by decide +kernel
theorem dX5_isGood_150 : decode cX5_isGood 150 = .ok (.ifCond .eq 23, 3) := by decide +kernel
theorem dX5_isGood_153 : decode cX5_isGood 153 = .ok (.iload_n 3, 1) := by decide +kernel
theorem dX5_isGood_154 : decode cX5_isGood 154 = .ok (.iload 4, 2) := by decide +kernel
theorem dX5_isGood_156 : decode cX5_isGood 156 = .ok (.invokestatic 109, 3) := by decide +kernel
theorem dX5_isGood_159 : decode cX5_isGood 159 = .ok (.ifCond .eq 14, 3) := by decide +kernel
theorem dX5_isGood_162 : decode cX5_isGood 162 = .ok (.aload_n 0, 1) := by decide +kernel
theorem dX5_isGood_163 : decode cX5_isGood 163 = .ok (.getfield 20, 3) := by decide +kernel
theorem dX5_isGood_166 : decode cX5_isGood 166 = .ok (.iconst 1, 1) := by decide +kernel
theorem dX5_isGood_167 : decode cX5_isGood 167 = .ok (.iaload, 1) := by decide +kernel
theorem dX5_isGood_168 : decode cX5_isGood 168 = .ok (.bipush 16, 2) := by decide +kernel
theorem dX5_isGood_170 : decode cX5_isGood 170 = .ok (.if_icmp .ne 5, 3) := by decide +kernel
theorem dX5_isGood_173 : decode cX5_isGood 173 = .ok (.iconst 0, 1) := by decide +kernel
theorem dX5_isGood_174 : decode cX5_isGood 174 = .ok (.ireturn, 1) := by decide +kernel
theorem dX5_isGood_175 : decode cX5_isGood 175 = .ok (.aload_n 0, 1) := by decide +kernel
theorem dX5_isGood_176 : decode cX5_isGood 176 = .ok (.getfield 23, 3) := by decide +kernel
theorem dX5_isGood_179 : decode cX5_isGood 179 = .ok (.bipush 48, 2) := by decide +kernel
theorem dX5_isGood_181 : decode cX5_isGood 181 = .ok (.iconst 3, 1) := by decide +kernel
theorem dX5_isGood_182 : decode cX5_isGood 182 = .ok (.aload_n 0, 1) := by decide +kernel
theorem dX5_isGood_183 : decode cX5_isGood 183 = .ok (.getfield 20, 3) := by decide +kernel
theorem dX5_isGood_186 : decode cX5_isGood 186 = .ok (.iconst 1, 1) := by decide +kernel
theorem dX5_isGood_187 : decode cX5_isGood 187 = .ok (.iaload, 1) := by decide +kernel
theorem dX5_isGood_188 : decode cX5_isGood 188 = .ok (.imul, 1) := by decide +kernel
theorem dX5_isGood_189 : decode cX5_isGood 189 = .ok (.iadd, 1) := by decide +kernel
theorem dX5_isGood_190 : decode cX5_isGood 190 = .ok (.iload_n 2, 1) := by decide +kernel
theorem dX5_isGood_191 : decode cX5_isGood 191 = .ok (.iastore, 1) := by decide +kernel
theorem dX5_isGood_192 : decode cX5_isGood 192 = .ok (.aload_n 0, 1) := by decide +kernel
theorem dX5_isGood_193 : decode cX5_isGood 193 = .ok (.getfield 23, 3) := by decide +kernel
theorem dX5_isGood_196 : decode cX5_isGood 196 = .ok (.bipush 49, 2) := by decide +kernel
theorem dX5_isGood_198 : decode cX5_isGood 198 = .ok (.iconst 3, 1) := by decide +kernel
theorem dX5_isGood_199 : decode cX5_isGood 199 = .ok (.aload_n 0, 1) := by decide +kernel
theorem dX5_isGood_200 : decode cX5_isGood 200 = .ok (.getfield 20, 3) := by decide +kernel
theorem dX5_isGood_203 : decode cX5_isGood 203 = .ok (.iconst 1, 1) := by decide +kernel
theorem dX5_isGood_204 : decode cX5_isGood 204 = .ok (.iaload, 1) := by decide +kernel
theorem dX5_isGood_205 : decode cX5_isGood 205 = .ok (.imul, 1) := by decide +kernel
theorem dX5_isGood_206 : decode cX5_isGood 206 = .ok (.iadd, 1) := by decide +kernel
theorem dX5_isGood_207 : decode cX5_isGood 207 = .ok (.iload_n 3, 1) := by decide +kernel
theorem dX5_isGood_208 : decode cX5_isGood 208 = .ok (.iastore, 1) := by decide +kernel
theorem dX5_isGood_209 : decode cX5_isGood 209 = .ok (.aload_n 0, 1) := by decide +kernel
theorem dX5_isGood_210 : decode cX5_isGood 210 = .ok (.getfield 23, 3) := by decide +kernel
theorem dX5_isGood_213 : decode cX5_isGood 213 = .ok (.bipush 50, 2) := by decide +kernel
theorem dX5_isGood_215 : decode cX5_isGood 215 = .ok (.iconst 3, 1) := by decide +kernel
theorem dX5_isGood_216 : decode cX5_isGood 216 = .ok (.aload_n 0, 1) := by decide +kernel
theorem dX5_isGood_217 : decode cX5_isGood 217 = .ok (.getfield 20, 3) := by decide +kernel
theorem dX5_isGood_220 : decode cX5_isGood 220 = .ok (.iconst 1, 1) := by decide +kernel
theorem dX5_isGood_221 : decode cX5_isGood 221 = .ok (.iaload, 1) := by decide +kernel
theorem dX5_isGood_222 : decode cX5_isGood 222 = .ok (.imul, 1) := by decide +kernel
theorem dX5_isGood_223 : decode cX5_isGood 223 = .ok (.iadd, 1) := by decide +kernel
theorem dX5_isGood_224 : decode cX5_isGood 224 = .ok (.iload 4, 2) := by decide +kernel
theorem dX5_isGood_226 : decode cX5_isGood 226 = .ok (.iastore, 1) := by decide +kernel
theorem dX5_isGood_227 : decode cX5_isGood 227 = .ok (.aload_n 0, 1) := by decide +kernel
theorem dX5_isGood_228 : decode cX5_isGood 228 = .ok (.getfield 20, 3) := by decide +kernel
theorem dX5_isGood_231 : decode cX5_isGood 231 = .ok (.iconst 1, 1) := by decide +kernel
theorem dX5_isGood_232 : decode cX5_isGood 232 = .ok (.dup2, 1) := by decide +kernel
theorem dX5_isGood_233 : decode cX5_isGood 233 = .ok (.iaload, 1) := by decide +kernel
theorem dX5_isGood_234 : decode cX5_isGood 234 = .ok (.iconst 1, 1) := by decide +kernel
theorem dX5_isGood_235 : decode cX5_isGood 235 = .ok (.iadd, 1) := by decide +kernel
theorem dX5_isGood_236 : decode cX5_isGood 236 = .ok (.iastore, 1) := by decide +kernel
theorem dX5_isGood_237 : decode cX5_isGood 237 = .ok (.goto 163, 3) := by decide +kernel
theorem dX5_isGood_240 : decode cX5_isGood 240 = .ok (.iload_n 1, 1) := by decide +kernel
theorem dX5_isGood_241 : decode cX5_isGood 241 = .ok (.bipush 116, 2) := by decide +kernel
theorem dX5_isGood_243 : decode cX5_isGood 243 = .ok (.if_icmp .ne 92, 3) := by decide +kernel
theorem dX5_isGood_246 : decode cX5_isGood 246 = .ok (.iload_n 2, 1) := by decide +kernel
theorem dX5_isGood_247 : decode cX5_isGood 247 = .ok (.i2l, 1) := by decide +kernel
theorem dX5_isGood_248 : decode cX5_isGood 248 = .ok (.lconst 0, 1) := by decide +kernel
theorem dX5_isGood_249 : decode cX5_isGood 249 = .ok (.aload_n 0, 1) := by decide +kernel
theorem dX5_isGood_250 : decode cX5_isGood 250 = .ok (.getfield 20, 3) := by decide +kernel
theorem dX5_isGood_253 : decode cX5_isGood 253 = .ok (.iconst 1, 1) := by decide +kernel
theorem dX5_isGood_254 : decode cX5_isGood 254 = .ok (.iaload, 1) := by decide +kernel
theorem dX5_isGood_255 : decode cX5_isGood 255 = .ok (.iconst 1, 1) := by decide +kernel
theorem dX5_isGood_256 : decode cX5_isGood 256 = .ok (.isub, 1) := by decide +kernel
theorem dX5_isGood_257 : decode cX5_isGood 257 = .ok (.i2l, 1) := by decide +kernel
theorem dX5_isGood_258 : decode cX5_isGood 258 = .ok (.invokestatic 74, 3) := by decide +kernel
theorem dX5_isGood_261 : decode cX5_isGood 261 = .ok (.ifCond .eq 46, 3) := by decide +kernel
theorem dX5_isGood_264 : decode cX5_isGood 264 = .ok (.iload_n 3, 1) := by decide +kernel
theorem dX5_isGood_265 : decode cX5_isGood 265 = .ok (.i2l, 1) := by decide +kernel
theorem dX5_isGood_266 : decode cX5_isGood 266 = .ok (.lconst 0, 1) := by decide +kernel
theorem dX5_isGood_267 : decode cX5_isGood 267 = .ok (.aload_n 0, 1) := by decide +kernel
theorem dX5_isGood_268 : decode cX5_isGood 268 = .ok (.getfield 13, 3) := by decide +kernel
theorem dX5_isGood_271 : decode cX5_isGood 271 = .ok (.iconst 1, 1) := by decide +kernel
theorem dX5_isGood_272 : decode cX5_isGood 272 = .ok (.iaload, 1) := by decide +kernel
theorem dX5_isGood_273 : decode cX5_isGood 273 = .ok (.iconst 1, 1) := by decide +kernel
theorem dX5_isGood_274 : decode cX5_isGood 274 = .ok (.isub, 1) := by decide +kernel
theorem dX5_isGood_275 : decode cX5_isGood 275 = .ok (.i2l, 1) := by decide +kernel
theorem dX5_isGood_276 : decode cX5_isGood 276 = .ok (.invokestatic 74, 3) := by decide +kernel
theorem dX5_isGood_279 : decode cX5_isGood 279 = .ok (.ifCond .ne 15, 3) := by decide +kernel
theorem dX5_isGood_282 : decode cX5_isGood 282 = .ok (.iload_n 3, 1) := by decide +kernel
theorem dX5_isGood_283 : decode cX5_isGood 283 = .ok (.bipush 98, 2) := by decide +kernel
theorem dX5_isGood_285 : decode cX5_isGood 285 = .ok (.if_icmp .eq 9, 3) := by decide +kernel
theorem dX5_isGood_288 : decode cX5_isGood 288 = .ok (.iload_n 3, 1) := by decide +kernel
theorem dX5_isGood_289 : decode cX5_isGood 289 = .ok (.bipush 99, 2) := by decide +kernel
theorem dX5_isGood_291 : decode cX5_isGood 291 = .ok (.if_icmp .ne 16, 3) := by decide +kernel
theorem dX5_isGood_294 : decode cX5_isGood 294 = .ok (.iload 4, 2) := by decide +kernel
theorem dX5_isGood_296 : decode cX5_isGood 296 = .ok (.i2l, 1) := by decide +kernel
theorem dX5_isGood_297 : decode cX5_isGood 297 = .ok (.lconst 1, 1) := by decide +kernel
theorem dX5_isGood_298 : decode cX5_isGood 298 = .ok (.ldc2_w 113, 3) := by decide +kernel
theorem dX5_isGood_301 : decode cX5_isGood 301 = .ok (.invokestatic 74, 3) := by decide +kernel
theorem dX5_isGood_304 : decode cX5_isGood 304 = .ok (.ifCond .ne 5, 3) := by decide +kernel
theorem dX5_isGood_307 : decode cX5_isGood 307 = .ok (.iconst 0, 1) := by decide +kernel
theorem dX5_isGood_308 : decode cX5_isGood 308 = .ok (.ireturn, 1) := by decide +kernel
theorem dX5_isGood_309 : decode cX5_isGood 309 = .ok (.aload_n 0, 1) := by decide +kernel
theorem dX5_isGood_310 : decode cX5_isGood 310 = .ok (.getfield 38, 3) := by decide +kernel
theorem dX5_isGood_313 : decode cX5_isGood 313 = .ok (.sipush 864, 3) := by decide +kernel
theorem dX5_isGood_316 : decode cX5_isGood 316 = .ok (.bipush 18, 2) := by decide +kernel
theorem dX5_isGood_318 : decode cX5_isGood 318 = .ok (.iload_n 2, 1) := by decide +kernel
theorem dX5_isGood_319 : decode cX5_isGood 319 = .ok (.imul, 1) := by decide +kernel
theorem dX5_isGood_320 : decode cX5_isGood 320 = .ok (.iadd, 1) := by decide +kernel
theorem dX5_isGood_321 : decode cX5_isGood 321 = .ok (.iload_n 3, 1) := by decide +kernel
theorem dX5_isGood_322 : decode cX5_isGood 322 = .ok (.invokestatic 115, 3) := by decide +kernel
theorem dX5_isGood_325 : decode cX5_isGood 325 = .ok (.iadd, 1) := by decide +kernel
theorem dX5_isGood_326 : decode cX5_isGood 326 = .ok (.dup2, 1) := by decide +kernel
theorem dX5_isGood_327 : decode cX5_isGood 327 = .ok (.iaload, 1) := by decide +kernel
theorem dX5_isGood_328 : decode cX5_isGood 328 = .ok (.iload 4, 2) := by decide +kernel
theorem dX5_isGood_330 : decode cX5_isGood 330 = .ok (.iadd, 1) := by decide +kernel
theorem dX5_isGood_331 : decode cX5_isGood 331 = .ok (.iastore, 1) := by decide +kernel
theorem dX5_isGood_332 : decode cX5_isGood 332 = .ok (.goto 68, 3) := by decide +kernel
theorem dX5_isGood_335 : decode cX5_isGood 335 = .ok (.iload_n 1, 1) := by decide +kernel
theorem dX5_isGood_336 : decode cX5_isGood 336 = .ok (.bipush 98, 2) := by decide +kernel
theorem dX5_isGood_338 : decode cX5_isGood 338 = .ok (.if_icmp .ne 52, 3) := by decide +kernel
theorem dX5_isGood_341 : decode cX5_isGood 341 = .ok (.iload_n 2, 1) := by decide +kernel
theorem dX5_isGood_342 : decode cX5_isGood 342 = .ok (.i2l, 1) := by decide +kernel
theorem dX5_isGood_343 : decode cX5_isGood 343 = .ok (.lconst 0, 1) := by decide +kernel
theorem dX5_isGood_344 : decode cX5_isGood 344 = .ok (.ldc2_w 107, 3) := by decide +kernel
theorem dX5_isGood_347 : decode cX5_isGood 347 = .ok (.invokestatic 74, 3) := by decide +kernel
theorem dX5_isGood_350 : decode cX5_isGood 350 = .ok (.ifCond .eq 20, 3) := by decide +kernel
theorem dX5_isGood_353 : decode cX5_isGood 353 = .ok (.iload_n 3, 1) := by decide +kernel
theorem dX5_isGood_354 : decode cX5_isGood 354 = .ok (.i2l, 1) := by decide +kernel
theorem dX5_isGood_355 : decode cX5_isGood 355 = .ok (.lconst 0, 1) := by decide +kernel
theorem dX5_isGood_356 : decode cX5_isGood 356 = .ok (.ldc2_w 107, 3) := by decide +kernel
theorem dX5_isGood_359 : decode cX5_isGood 359 = .ok (.invokestatic 74, 3) := by decide +kernel
theorem dX5_isGood_362 : decode cX5_isGood 362 = .ok (.ifCond .eq 8, 3) := by decide +kernel
theorem dX5_isGood_365 : decode cX5_isGood 365 = .ok (.iload_n 2, 1) := by decide +kernel
theorem dX5_isGood_366 : decode cX5_isGood 366 = .ok (.iload_n 3, 1) := by decide +kernel
theorem dX5_isGood_367 : decode cX5_isGood 367 = .ok (.if_icmp .ne 5, 3) := by decide +kernel
theorem dX5_isGood_370 : decode cX5_isGood 370 = .ok (.iconst 0, 1) := by decide +kernel
theorem dX5_isGood_371 : decode cX5_isGood 371 = .ok (.ireturn, 1) := by decide +kernel
theorem dX5_isGood_372 : decode cX5_isGood 372 = .ok (.aload_n 0, 1) := by decide +kernel
theorem dX5_isGood_373 : decode cX5_isGood 373 = .ok (.getfield 26, 3) := by decide +kernel
theorem dX5_isGood_376 : decode cX5_isGood 376 = .ok (.bipush 6, 2) := by decide +kernel
theorem dX5_isGood_378 : decode cX5_isGood 378 = .ok (.iload_n 2, 1) := by decide +kernel
theorem dX5_isGood_379 : decode cX5_isGood 379 = .ok (.iadd, 1) := by decide +kernel
theorem dX5_isGood_380 : decode cX5_isGood 380 = .ok (.dup2, 1) := by decide +kernel
theorem dX5_isGood_381 : decode cX5_isGood 381 = .ok (.iaload, 1) := by decide +kernel
theorem dX5_isGood_382 : decode cX5_isGood 382 = .ok (.iconst 1, 1) := by decide +kernel
theorem dX5_isGood_383 : decode cX5_isGood 383 = .ok (.iload_n 3, 1) := by decide +kernel
theorem dX5_isGood_384 : decode cX5_isGood 384 = .ok (.ishl, 1) := by decide +kernel
theorem dX5_isGood_385 : decode cX5_isGood 385 = .ok (.ior, 1) := by decide +kernel
theorem dX5_isGood_386 : decode cX5_isGood 386 = .ok (.iastore, 1) := by decide +kernel
theorem dX5_isGood_387 : decode cX5_isGood 387 = .ok (.goto 13, 3) := by decide +kernel
theorem dX5_isGood_390 : decode cX5_isGood 390 = .ok (.aload_n 0, 1) := by decide +kernel
theorem dX5_isGood_391 : decode cX5_isGood 391 = .ok (.iload_n 1, 1) := by decide +kernel
theorem dX5_isGood_392 : decode cX5_isGood 392 = .ok (.iload_n 2, 1) := by decide +kernel
theorem dX5_isGood_393 : decode cX5_isGood 393 = .ok (.iload_n 3, 1) := by decide +kernel
theorem dX5_isGood_394 : decode cX5_isGood 394 = .ok (.iload 4, 2) := by decide +kernel
theorem dX5_isGood_396 : decode cX5_isGood 396 = .ok (.invokevirtual 118, 3) := by decide +kernel
theorem dX5_isGood_399 : decode cX5_isGood 399 = .ok (.ireturn, 1) := by decide +kernel
theorem dX5_isGood_400 : decode cX5_isGood 400 = .ok (.iconst 1, 1) := by decide +kernel
theorem dX5_isGood_401 : decode cX5_isGood 401 = .ok (.ireturn, 1) := by decide +kernel
set_option maxRecDepth 20000 in
theorem ggX5_isName_X5_areWeeks : GoodIn wsX5_isName wsX5_areWeeks := goodIn_r _ [8, 9, 10, 11, 7, 12] (by decide +kernel) (by decide +kernel)
set_option maxRecDepth 20000 in
theorem gX5_isName_X5_areWeeks : GoodIn wsX5_isName (va_wsS RX5 109 yX5_areWeeks wsX5_areWeeks) := goodIn_app (goodIn_of _ (by decide +kernel)) ggX5_isName_X5_areWeeks
set_option maxRecDepth 20000 in
theorem ggX5_isName_X5_weeks : GoodIn wsX5_isName wsX5_weeks := goodIn_r _ [15] (by decide +kernel) (by decide +kernel)
set_option maxRecDepth 20000 in
theorem gX5_isName_X5_weeks : GoodIn wsX5_isName (va_wsS RX5 122 yX5_weeks wsX5_weeks) := goodIn_app (goodIn_of _ (by decide +kernel)) ggX5_isName_X5_weeks
set_option maxRecDepth 20000 in
theorem ggX5_isName_X5_between : GoodIn wsX5_isName wsX5_between := goodIn_r _ [12] (by decide +kernel) (by decide +kernel)
set_option maxRecDepth 20000 in
theorem gX5_isName_X5_between : GoodIn wsX5_isName (va_wsS RX5 74 yX5_between wsX5_between) := goodIn_app (goodIn_of _ (by decide +kernel)) ggX5_isName_X5_between
theorem dX5_isName_0 : decode cX5_isName 0 = .ok (.iload_n 1, 1) := by decide +kernel
theorem dX5_isName_1 : decode cX5_isName 1 = .ok (.bipush 110, 2) := by decide +kernel
theorem dX5_isName_3 : decode cX5_isName 3 = .ok (.if_icmp .ne 55, 3) := by decide +kernel
theorem dX5_isName_6 : decode cX5_isName 6 = .ok (.iload_n 2, 1) := by decide +kernel
theorem dX5_isName_7 : decode cX5_isName 7 = .ok (.iload_n 3, 1) := by decide +kernel
theorem dX5_isName_8 : decode cX5_isName 8 = .ok (.invokestatic 109, 3) := by decide +kernel
theorem dX5_isName_11 : decode cX5_isName 11 = .ok (.ifCond .eq 14, 3) := by decide +kernel
theorem dX5_isName_14 : decode cX5_isName 14 = .ok (.aload_n 0, 1) := by decide +kernel
theorem dX5_isName_15 : decode cX5_isName 15 = .ok (.getfield 29, 3) := by decide +kernel
theorem dX5_isName_18 : decode cX5_isName 18 = .ok (.iconst 1, 1) := by decide +kernel
theorem dX5_isName_19 : decode cX5_isName 19 = .ok (.iaload, 1) := by decide +kernel
theorem dX5_isName_20 : decode cX5_isName 20 = .ok (.bipush 10, 2) := by decide +kernel
theorem dX5_isName_22 : decode cX5_isName 22 = .ok (.if_icmp .ne 5, 3) := by decide +kernel
theorem dX5_isName_25 : decode cX5_isName 25 = .ok (.iconst 0, 1) := by decide +kernel
theorem dX5_isName_26 : decode cX5_isName 26 = .ok (.ireturn, 1) := by decide +kernel
theorem dX5_isName_27 : decode cX5_isName 27 = .ok (.aload_n 0, 1) := by decide +kernel
theorem dX5_isName_28 : decode cX5_isName 28 = .ok (.getfield 32, 3) := by decide +kernel
theorem dX5_isName_31 : decode cX5_isName 31 = .ok (.bipush 10, 2) := by decide +kernel
theorem dX5_isName_33 : decode cX5_isName 33 = .ok (.aload_n 0, 1) := by decide +kernel
theorem dX5_isName_34 : decode cX5_isName 34 = .ok (.getfield 29, 3) := by decide +kernel
theorem dX5_isName_37 : decode cX5_isName 37 = .ok (.iconst 1, 1) := by decide +kernel
theorem dX5_isName_38 : decode cX5_isName 38 = .ok (.iaload, 1) := by decide +kernel
theorem dX5_isName_39 : decode cX5_isName 39 = .ok (.iadd, 1) := by decide +kernel
theorem dX5_isName_40 : decode cX5_isName 40 = .ok (.iload_n 2, 1) := by decide +kernel
theorem dX5_isName_41 : decode cX5_isName 41 = .ok (.iload_n 3, 1) := by decide +kernel
theorem dX5_isName_42 : decode cX5_isName 42 = .ok (.invokestatic 122, 3) := by decide +kernel
theorem dX5_isName_45 : decode cX5_isName 45 = .ok (.iastore, 1) := by decide +kernel
theorem dX5_isName_46 : decode cX5_isName 46 = .ok (.aload_n 0, 1) := by decide +kernel
theorem dX5_isName_47 : decode cX5_isName 47 = .ok (.getfield 29, 3) := by decide +kernel
theorem dX5_isName_50 : decode cX5_isName 50 = .ok (.iconst 1, 1) := by decide +kernel
theorem dX5_isName_51 : decode cX5_isName 51 = .ok (.dup2, 1) := by decide +kernel
theorem dX5_isName_52 : decode cX5_isName 52 = .ok (.iaload, 1) := by decide +kernel
theorem dX5_isName_53 : decode cX5_isName 53 = .ok (.iconst 1, 1) := by decide +kernel
theorem dX5_isName_54 : decode cX5_isName 54 = .ok (.iadd, 1) := by decide +kernel
theorem dX5_isName_55 : decode cX5_isName 55 = .ok (.iastore, 1) := by decide +kernel
theorem dX5_isName_56 : decode cX5_isName 56 = .ok (.iconst 1, 1) := by decide +kernel
theorem dX5_isName_57 : decode cX5_isName 57 = .ok (.ireturn, 1) := by decide +kernel
theorem dX5_isName_58 : decode cX5_isName 58 = .ok (.iload_n 1, 1) := by decide +kernel
theorem dX5_isName_59 : decode cX5_isName 59 = .ok (.bipush 97, 2) := by decide +kernel
theorem dX5_isName_61 : decode cX5_isName 61 = .ok (.if_icmp .ne 52, 3) := by decide +kernel
theorem dX5_isName_64 : decode cX5_isName 64 = .ok (.iload_n 2, 1) := by decide +kernel
theorem dX5_isName_65 : decode cX5_isName 65 = .ok (.i2l, 1) := by decide +kernel
theorem dX5_isName_66 : decode cX5_isName 66 = .ok (.lconst 0, 1) := by decide +kernel
theorem dX5_isName_67 : decode cX5_isName 67 = .ok (.aload_n 0, 1) := by decide +kernel
theorem dX5_isName_68 : decode cX5_isName 68 = .ok (.getfield 29, 3) := by decide +kernel
theorem dX5_isName_71 : decode cX5_isName 71 = .ok (.iconst 1, 1) := by decide +kernel
theorem dX5_isName_72 : decode cX5_isName 72 = .ok (.iaload, 1) := by decide +kernel
theorem dX5_isName_73 : decode cX5_isName 73 = .ok (.iconst 1, 1) := by decide +kernel
theorem dX5_isName_74 : decode cX5_isName 74 = .ok (.isub, 1) := by decide +kernel
theorem dX5_isName_75 : decode cX5_isName 75 = .ok (.i2l, 1) := by decide +kernel
theorem dX5_isName_76 : decode cX5_isName 76 = .ok (.invokestatic 74, 3) := by decide +kernel
theorem dX5_isName_79 : decode cX5_isName 79 = .ok (.ifCond .eq 12, 3) := by decide +kernel
theorem dX5_isName_82 : decode cX5_isName 82 = .ok (.iload_n 3, 1) := by decide +kernel
theorem dX5_isName_83 : decode cX5_isName 83 = .ok (.iload 4, 2) := by decide +kernel
theorem dX5_isName_85 : decode cX5_isName 85 = .ok (.invokestatic 109, 3) := by decide +kernel
theorem dX5_isName_88 : decode cX5_isName 88 = .ok (.ifCond .ne 5, 3) := by decide +kernel
theorem dX5_isName_91 : decode cX5_isName 91 = .ok (.iconst 0, 1) := by decide +kernel
theorem dX5_isName_92 : decode cX5_isName 92 = .ok (.ireturn, 1) := by decide +kernel
theorem dX5_isName_93 : decode cX5_isName 93 = .ok (.aload_n 0, 1) := by decide +kernel
theorem dX5_isName_94 : decode cX5_isName 94 = .ok (.getfield 32, 3) := by decide +kernel
theorem dX5_isName_97 : decode cX5_isName 97 = .ok (.bipush 10, 2) := by decide +kernel
theorem dX5_isName_99 : decode cX5_isName 99 = .ok (.iload_n 2, 1) := by decide +kernel
theorem dX5_isName_100 : decode cX5_isName 100 = .ok (.iadd, 1) := by decide +kernel
theorem dX5_isName_101 : decode cX5_isName 101 = .ok (.dup2, 1) := by decide +kernel
theorem dX5_isName_102 : decode cX5_isName 102 = .ok (.iaload, 1) := by decide +kernel
theorem dX5_isName_103 : decode cX5_isName 103 = .ok (.iload_n 3, 1) := by decide +kernel
theorem dX5_isName_104 : decode cX5_isName 104 = .ok (.iload 4, 2) := by decide +kernel
theorem dX5_isName_106 : decode cX5_isName 106 = .ok (.invokestatic 122, 3) := by decide +kernel
theorem dX5_isName_109 : decode cX5_isName 109 = .ok (.ior, 1) := by decide +kernel
theorem dX5_isName_110 : decode cX5_isName 110 = .ok (.iastore, 1) := by decide +kernel
theorem dX5_isName_111 : decode cX5_isName 111 = .ok (.iconst 1, 1) := by decide +kernel
theorem dX5_isName_112 : decode cX5_isName 112 = .ok (.ireturn, 1) := by decide +kernel
theorem dX5_isName_113 : decode cX5_isName 113 = .ok (.aload_n 0, 1) := by decide +kernel
theorem dX5_isName_114 : decode cX5_isName 114 = .ok (.getfield 35, 3) := by decide +kernel
theorem dX5_isName_117 : decode cX5_isName 117 = .ok (.iconst 1, 1) := by decide +kernel
theorem dX5_isName_118 : decode cX5_isName 118 = .ok (.iload_n 2, 1) := by decide +kernel
theorem dX5_isName_119 : decode cX5_isName 119 = .ok (.iastore, 1) := by decide +kernel
theorem dX5_isName_120 : decode cX5_isName 120 = .ok (.iload_n 2, 1) := by decide +kernel
theorem dX5_isName_121 : decode cX5_isName 121 = .ok (.i2l, 1) := by decide +kernel
theorem dX5_isName_122 : decode cX5_isName 122 = .ok (.lconst 1, 1) := by decide +kernel
theorem dX5_isName_123 : decode cX5_isName 123 = .ok (.ldc2_w 113, 3) := by decide +kernel
theorem dX5_isName_126 : decode cX5_isName 126 = .ok (.invokestatic 74, 3) := by decide +kernel
theorem dX5_isName_129 : decode cX5_isName 129 = .ok (.ireturn, 1) := by decide +kernel
theorem dX5_kindOf_0 : decode cX5_kindOf 0 = .ok (.iload_n 0, 1) := by decide +kernel
theorem dX5_kindOf_1 : decode cX5_kindOf 1 = .ok (.bipush 98, 2) := by decide +kernel
theorem dX5_kindOf_3 : decode cX5_kindOf 3 = .ok (.if_icmp .ne 8, 3) := by decide +kernel
theorem dX5_kindOf_6 : decode cX5_kindOf 6 = .ok (.bipush 16, 2) := by decide +kernel
theorem dX5_kindOf_8 : decode cX5_kindOf 8 = .ok (.goto 15, 3) := by decide +kernel
theorem dX5_kindOf_11 : decode cX5_kindOf 11 = .ok (.iload_n 0, 1) := by decide +kernel
theorem dX5_kindOf_12 : decode cX5_kindOf 12 = .ok (.bipush 99, 2) := by decide +kernel
theorem dX5_kindOf_14 : decode cX5_kindOf 14 = .ok (.if_icmp .ne 8, 3) := by decide +kernel
theorem dX5_kindOf_17 : decode cX5_kindOf 17 = .ok (.bipush 17, 2) := by decide +kernel
theorem dX5_kindOf_19 : decode cX5_kindOf 19 = .ok (.goto 4, 3) := by decide +kernel
theorem dX5_kindOf_22 : decode cX5_kindOf 22 = .ok (.iload_n 0, 1) := by decide +kernel
theorem dX5_kindOf_23 : decode cX5_kindOf 23 = .ok (.ireturn, 1) := by decide +kernel
set_option maxRecDepth 20000 in
theorem ggX5_fault_X5_isItem : GoodIn wsX5_fault wsX5_isItem := goodIn_r _ [13, 14, 1, 8, 15, 16, 17, 12, 18, 19, 20, 21, 22, 23, 24, 25, 26, 27, 28, 29, 30, 31, 32, 33, 2, 34, 35, 3, 36, 37, 6, 7, 38, 39, 40, 41, 42, 43, 44, 45, 46, 47, 48, 4, 49, 5, 50, 51, 52, 53, 54, 55, 56, 57, 58, 59, 60, 61, 62, 63, 64, 65, 66, 67, 68, 69, 70, 71, 72, 73, 74, 75, 76, 77, 78, 79, 80, 81] (by decide +kernel) (by decide +kernel)
set_option maxRecDepth 20000 in
theorem gX5_fault_X5_isItem : GoodIn wsX5_fault (wsV RX5 126 RX5 yX5_isItem wsX5_isItem) := goodIn_app (goodIn_of _ (by decide +kernel)) ggX5_fault_X5_isItem
theorem dX5_fault_0 : decode cX5_fault 0 = .ok (.aload_n 0, 1) := by decide +kernel
theorem dX5_fault_1 : decode cX5_fault 1 = .ok (.iconst 0, 1) := by decide +kernel
theorem dX5_fault_2 : decode cX5_fault 2 = .ok (.putfield 82, 3) := by decide +kernel
theorem dX5_fault_5 : decode cX5_fault 5 = .ok (.aload_n 0, 1) := by decide +kernel
theorem dX5_fault_6 : decode cX5_fault 6 = .ok (.getfield 13, 3) := by decide +kernel
theorem dX5_fault_9 : decode cX5_fault 9 = .ok (.iconst 1, 1) := by decide +kernel
theorem dX5_fault_10 : decode cX5_fault 10 = .ok (.iconst 0, 1) := by decide +kernel
theorem dX5_fault_11 : decode cX5_fault 11 = .ok (.iastore, 1) := by decide +kernel
theorem dX5_fault_12 : decode cX5_fault 12 = .ok (.aload_n 0, 1) := by decide +kernel
theorem dX5_fault_13 : decode cX5_fault 13 = .ok (.getfield 20, 3) := by decide +kernel
theorem dX5_fault_16 : decode cX5_fault 16 = .ok (.iconst 1, 1) := by decide +kernel
theorem dX5_fault_17 : decode cX5_fault 17 = .ok (.iconst 0, 1) := by decide +kernel
theorem dX5_fault_18 : decode cX5_fault 18 = .ok (.iastore, 1) := by decide +kernel
theorem dX5_fault_19 : decode cX5_fault 19 = .ok (.aload_n 0, 1) := by decide +kernel
theorem dX5_fault_20 : decode cX5_fault 20 = .ok (.getfield 29, 3) := by decide +kernel
theorem dX5_fault_23 : decode cX5_fault 23 = .ok (.iconst 1, 1) := by decide +kernel
theorem dX5_fault_24 : decode cX5_fault 24 = .ok (.iconst 0, 1) := by decide +kernel
theorem dX5_fault_25 : decode cX5_fault 25 = .ok (.iastore, 1) := by decide +kernel
theorem dX5_fault_26 : decode cX5_fault 26 = .ok (.aload_n 0, 1) := by decide +kernel
theorem dX5_fault_27 : decode cX5_fault 27 = .ok (.getfield 35, 3) := by decide +kernel
theorem dX5_fault_30 : decode cX5_fault 30 = .ok (.iconst 1, 1) := by decide +kernel
theorem dX5_fault_31 : decode cX5_fault 31 = .ok (.bipush 12, 2) := by decide +kernel
theorem dX5_fault_33 : decode cX5_fault 33 = .ok (.iastore, 1) := by decide +kernel
theorem dX5_fault_34 : decode cX5_fault 34 = .ok (.iconst 0, 1) := by decide +kernel
theorem dX5_fault_35 : decode cX5_fault 35 = .ok (.istore_n 1, 1) := by decide +kernel
theorem dX5_fault_36 : decode cX5_fault 36 = .ok (.iload_n 1, 1) := by decide +kernel
theorem dX5_fault_37 : decode cX5_fault 37 = .ok (.sipush 288, 3) := by decide +kernel
theorem dX5_fault_40 : decode cX5_fault 40 = .ok (.if_icmp .ge 36, 3) := by decide +kernel
theorem dX5_fault_43 : decode cX5_fault 43 = .ok (.aload_n 0, 1) := by decide +kernel
theorem dX5_fault_44 : decode cX5_fault 44 = .ok (.getfield 38, 3) := by decide +kernel
theorem dX5_fault_47 : decode cX5_fault 47 = .ok (.sipush 864, 3) := by decide +kernel
theorem dX5_fault_50 : decode cX5_fault 50 = .ok (.iload_n 1, 1) := by decide +kernel
theorem dX5_fault_51 : decode cX5_fault 51 = .ok (.iadd, 1) := by decide +kernel
theorem dX5_fault_52 : decode cX5_fault 52 = .ok (.iconst 0, 1) := by decide +kernel
theorem dX5_fault_53 : decode cX5_fault 53 = .ok (.iastore, 1) := by decide +kernel
theorem dX5_fault_54 : decode cX5_fault 54 = .ok (.iload_n 1, 1) := by decide +kernel
theorem dX5_fault_55 : decode cX5_fault 55 = .ok (.bipush 6, 2) := by decide +kernel
theorem dX5_fault_57 : decode cX5_fault 57 = .ok (.if_icmp .ge 13, 3) := by decide +kernel
theorem dX5_fault_60 : decode cX5_fault 60 = .ok (.aload_n 0, 1) := by decide +kernel
theorem dX5_fault_61 : decode cX5_fault 61 = .ok (.getfield 26, 3) := by decide +kernel
theorem dX5_fault_64 : decode cX5_fault 64 = .ok (.bipush 6, 2) := by decide +kernel
theorem dX5_fault_66 : decode cX5_fault 66 = .ok (.iload_n 1, 1) := by decide +kernel
theorem dX5_fault_67 : decode cX5_fault 67 = .ok (.iadd, 1) := by decide +kernel
theorem dX5_fault_68 : decode cX5_fault 68 = .ok (.iconst 0, 1) := by decide +kernel
theorem dX5_fault_69 : decode cX5_fault 69 = .ok (.iastore, 1) := by decide +kernel
theorem dX5_fault_70 : decode cX5_fault 70 = .ok (.iinc 1 1, 3) := by decide +kernel
theorem dX5_fault_73 : decode cX5_fault 73 = .ok (.goto (-37), 3) := by decide +kernel
theorem dX5_fault_76 : decode cX5_fault 76 = .ok (.aload_n 0, 1) := by decide +kernel
theorem dX5_fault_77 : decode cX5_fault 77 = .ok (.getfield 82, 3) := by decide +kernel
theorem dX5_fault_80 : decode cX5_fault 80 = .ok (.aload_n 0, 1) := by decide +kernel
theorem dX5_fault_81 : decode cX5_fault 81 = .ok (.getfield 78, 3) := by decide +kernel
theorem dX5_fault_84 : decode cX5_fault 84 = .ok (.if_icmp .ge 20, 3) := by decide +kernel
theorem dX5_fault_87 : decode cX5_fault 87 = .ok (.aload_n 0, 1) := by decide +kernel
theorem dX5_fault_88 : decode cX5_fault 88 = .ok (.getfield 82, 3) := by decide +kernel
theorem dX5_fault_91 : decode cX5_fault 91 = .ok (.istore_n 1, 1) := by decide +kernel
theorem dX5_fault_92 : decode cX5_fault 92 = .ok (.aload_n 0, 1) := by decide +kernel
theorem dX5_fault_93 : decode cX5_fault 93 = .ok (.invokevirtual 126, 3) := by decide +kernel
theorem dX5_fault_96 : decode cX5_fault 96 = .ok (.ifCond .ne 5, 3) := by decide +kernel
theorem dX5_fault_99 : decode cX5_fault 99 = .ok (.iload_n 1, 1) := by decide +kernel
theorem dX5_fault_100 : decode cX5_fault 100 = .ok (.ireturn, 1) := by decide +kernel
theorem dX5_fault_101 : decode cX5_fault 101 = .ok (.goto (-25), 3) := by decide +kernel
theorem dX5_fault_104 : decode cX5_fault 104 = .ok (.bipush (-4), 2) := by decide +kernel
theorem dX5_fault_106 : decode cX5_fault 106 = .ok (.ireturn, 1) := by decide +kernel
set_option maxRecDepth 20000 in
theorem ggX5_lay_X5_fault : GoodIn wsX5_lay wsX5_fault := goodIn_r _ [14, 15, 1, 2, 3, 4, 16, 8, 17, 18, 19, 20, 13, 21, 22, 23, 24, 25, 26, 27, 28, 29, 30, 31, 32, 33, 34, 35, 36, 37, 38, 39, 40, 41, 6, 42, 5, 43, 44, 45, 46, 47, 48, 49, 50, 51, 52, 53, 54, 7, 55, 56, 57, 62, 63, 64, 65, 66, 67, 68, 69, 70, 71, 72, 73, 74, 75, 76, 77, 78, 79, 80, 81, 82, 83, 84, 85, 86, 87, 88, 89, 90] (by decide +kernel) (by decide +kernel)
set_option maxRecDepth 20000 in
theorem gX5_lay_X5_fault : GoodIn wsX5_lay (wsV RX5 130 RX5 yX5_fault wsX5_fault) := goodIn_app (goodIn_of _ (by decide +kernel)) ggX5_lay_X5_fault
set_option maxRecDepth 20000 in
theorem ggX5_lay_X5_copies : GoodIn wsX5_lay wsX5_copies := goodIn_r _ [61, 16, 62, 63, 64, 65, 66, 67, 68, 69, 70, 71, 72, 73, 74, 75, 76, 77, 78, 79, 80, 81, 82, 83, 84, 85, 86, 87, 88, 89, 90] (by decide +kernel) (by decide +kernel)
set_option maxRecDepth 20000 in
theorem gX5_lay_X5_copies : GoodIn wsX5_lay (wsV RX5 133 RX5 yX5_copies wsX5_copies) := goodIn_app (goodIn_of _ (by decide +kernel)) ggX5_lay_X5_copies
theorem dX5_lay_0 : decode cX5_lay 0 = .ok (.aload_n 0, 1) := by decide +kernel
theorem dX5_lay_1 : decode cX5_lay 1 = .ok (.invokevirtual 130, 3) := by decide +kernel
theorem dX5_lay_4 : decode cX5_lay 4 = .ok (.bipush (-4), 2) := by decide +kernel
theorem dX5_lay_6 : decode cX5_lay 6 = .ok (.if_icmp .eq 6, 3) := by decide +kernel
theorem dX5_lay_9 : decode cX5_lay 9 = .ok (.bipush (-2), 2) := by decide +kernel
theorem dX5_lay_11 : decode cX5_lay 11 = .ok (.ireturn, 1) := by decide +kernel
theorem dX5_lay_12 : decode cX5_lay 12 = .ok (.aload_n 0, 1) := by decide +kernel
theorem dX5_lay_13 : decode cX5_lay 13 = .ok (.getfield 13, 3) := by decide +kernel
theorem dX5_lay_16 : decode cX5_lay 16 = .ok (.iconst 0, 1) := by decide +kernel
theorem dX5_lay_17 : decode cX5_lay 17 = .ok (.aload_n 0, 1) := by decide +kernel
theorem dX5_lay_18 : decode cX5_lay 18 = .ok (.getfield 13, 3) := by decide +kernel
theorem dX5_lay_21 : decode cX5_lay 21 = .ok (.iconst 1, 1) := by decide +kernel
theorem dX5_lay_22 : decode cX5_lay 22 = .ok (.iaload, 1) := by decide +kernel
theorem dX5_lay_23 : decode cX5_lay 23 = .ok (.iastore, 1) := by decide +kernel
theorem dX5_lay_24 : decode cX5_lay 24 = .ok (.aload_n 0, 1) := by decide +kernel
theorem dX5_lay_25 : decode cX5_lay 25 = .ok (.getfield 20, 3) := by decide +kernel
theorem dX5_lay_28 : decode cX5_lay 28 = .ok (.iconst 0, 1) := by decide +kernel
theorem dX5_lay_29 : decode cX5_lay 29 = .ok (.aload_n 0, 1) := by decide +kernel
theorem dX5_lay_30 : decode cX5_lay 30 = .ok (.getfield 20, 3) := by decide +kernel
theorem dX5_lay_33 : decode cX5_lay 33 = .ok (.iconst 1, 1) := by decide +kernel
theorem dX5_lay_34 : decode cX5_lay 34 = .ok (.iaload, 1) := by decide +kernel
theorem dX5_lay_35 : decode cX5_lay 35 = .ok (.iastore, 1) := by decide +kernel
theorem dX5_lay_36 : decode cX5_lay 36 = .ok (.aload_n 0, 1) := by decide +kernel
theorem dX5_lay_37 : decode cX5_lay 37 = .ok (.getfield 29, 3) := by decide +kernel
theorem dX5_lay_40 : decode cX5_lay 40 = .ok (.iconst 0, 1) := by decide +kernel
theorem dX5_lay_41 : decode cX5_lay 41 = .ok (.aload_n 0, 1) := by decide +kernel
theorem dX5_lay_42 : decode cX5_lay 42 = .ok (.getfield 29, 3) := by decide +kernel
theorem dX5_lay_45 : decode cX5_lay 45 = .ok (.iconst 1, 1) := by decide +kernel
theorem dX5_lay_46 : decode cX5_lay 46 = .ok (.iaload, 1) := by decide +kernel
theorem dX5_lay_47 : decode cX5_lay 47 = .ok (.iastore, 1) := by decide +kernel
theorem dX5_lay_48 : decode cX5_lay 48 = .ok (.aload_n 0, 1) := by decide +kernel
theorem dX5_lay_49 : decode cX5_lay 49 = .ok (.getfield 35, 3) := by decide +kernel
theorem dX5_lay_52 : decode cX5_lay 52 = .ok (.iconst 0, 1) := by decide +kernel
theorem dX5_lay_53 : decode cX5_lay 53 = .ok (.aload_n 0, 1) := by decide +kernel
theorem dX5_lay_54 : decode cX5_lay 54 = .ok (.getfield 35, 3) := by decide +kernel
theorem dX5_lay_57 : decode cX5_lay 57 = .ok (.iconst 1, 1) := by decide +kernel
theorem dX5_lay_58 : decode cX5_lay 58 = .ok (.iaload, 1) := by decide +kernel
theorem dX5_lay_59 : decode cX5_lay 59 = .ok (.iastore, 1) := by decide +kernel
theorem dX5_lay_60 : decode cX5_lay 60 = .ok (.iconst 0, 1) := by decide +kernel
theorem dX5_lay_61 : decode cX5_lay 61 = .ok (.istore_n 1, 1) := by decide +kernel
theorem dX5_lay_62 : decode cX5_lay 62 = .ok (.iload_n 1, 1) := by decide +kernel
theorem dX5_lay_63 : decode cX5_lay 63 = .ok (.bipush 48, 2) := by decide +kernel
theorem dX5_lay_65 : decode cX5_lay 65 = .ok (.if_icmp .ge 87, 3) := by decide +kernel
theorem dX5_lay_68 : decode cX5_lay 68 = .ok (.aload_n 0, 1) := by decide +kernel
theorem dX5_lay_69 : decode cX5_lay 69 = .ok (.getfield 23, 3) := by decide +kernel
theorem dX5_lay_72 : decode cX5_lay 72 = .ok (.iload_n 1, 1) := by decide +kernel
theorem dX5_lay_73 : decode cX5_lay 73 = .ok (.aload_n 0, 1) := by decide +kernel
theorem dX5_lay_74 : decode cX5_lay 74 = .ok (.getfield 23, 3) := by decide +kernel
theorem dX5_lay_77 : decode cX5_lay 77 = .ok (.bipush 48, 2) := by decide +kernel
theorem dX5_lay_79 : decode cX5_lay 79 = .ok (.iload_n 1, 1) := by decide +kernel
theorem dX5_lay_80 : decode cX5_lay 80 = .ok (.iadd, 1) := by decide +kernel
theorem dX5_lay_81 : decode cX5_lay 81 = .ok (.iaload, 1) := by decide +kernel
theorem dX5_lay_82 : decode cX5_lay 82 = .ok (.iastore, 1) := by decide +kernel
theorem dX5_lay_83 : decode cX5_lay 83 = .ok (.iload_n 1, 1) := by decide +kernel
theorem dX5_lay_84 : decode cX5_lay 84 = .ok (.bipush 32, 2) := by decide +kernel
theorem dX5_lay_86 : decode cX5_lay 86 = .ok (.if_icmp .ge 18, 3) := by decide +kernel
theorem dX5_lay_89 : decode cX5_lay 89 = .ok (.aload_n 0, 1) := by decide +kernel
theorem dX5_lay_90 : decode cX5_lay 90 = .ok (.getfield 17, 3) := by decide +kernel
theorem dX5_lay_93 : decode cX5_lay 93 = .ok (.iload_n 1, 1) := by decide +kernel
theorem dX5_lay_94 : decode cX5_lay 94 = .ok (.aload_n 0, 1) := by decide +kernel
theorem dX5_lay_95 : decode cX5_lay 95 = .ok (.getfield 17, 3) := by decide +kernel
theorem dX5_lay_98 : decode cX5_lay 98 = .ok (.bipush 32, 2) := by decide +kernel
theorem dX5_lay_100 : decode cX5_lay 100 = .ok (.iload_n 1, 1) := by decide +kernel
theorem dX5_lay_101 : decode cX5_lay 101 = .ok (.iadd, 1) := by decide +kernel
theorem dX5_lay_102 : decode cX5_lay 102 = .ok (.iaload, 1) := by decide +kernel
theorem dX5_lay_103 : decode cX5_lay 103 = .ok (.iastore, 1) := by decide +kernel
theorem dX5_lay_104 : decode cX5_lay 104 = .ok (.iload_n 1, 1) := by decide +kernel
theorem dX5_lay_105 : decode cX5_lay 105 = .ok (.bipush 10, 2) := by decide +kernel
theorem dX5_lay_107 : decode cX5_lay 107 = .ok (.if_icmp .ge 18, 3) := by decide +kernel
theorem dX5_lay_110 : decode cX5_lay 110 = .ok (.aload_n 0, 1) := by decide +kernel
theorem dX5_lay_111 : decode cX5_lay 111 = .ok (.getfield 32, 3) := by decide +kernel
theorem dX5_lay_114 : decode cX5_lay 114 = .ok (.iload_n 1, 1) := by decide +kernel
theorem dX5_lay_115 : decode cX5_lay 115 = .ok (.aload_n 0, 1) := by decide +kernel
theorem dX5_lay_116 : decode cX5_lay 116 = .ok (.getfield 32, 3) := by decide +kernel
theorem dX5_lay_119 : decode cX5_lay 119 = .ok (.bipush 10, 2) := by decide +kernel
theorem dX5_lay_121 : decode cX5_lay 121 = .ok (.iload_n 1, 1) := by decide +kernel
theorem dX5_lay_122 : decode cX5_lay 122 = .ok (.iadd, 1) := by decide +kernel
theorem dX5_lay_123 : decode cX5_lay 123 = .ok (.iaload, 1) := by decide +kernel
theorem dX5_lay_124 : decode cX5_lay 124 = .ok (.iastore, 1) := by decide +kernel
theorem dX5_lay_125 : decode cX5_lay 125 = .ok (.iload_n 1, 1) := by decide +kernel
theorem dX5_lay_126 : decode cX5_lay 126 = .ok (.bipush 6, 2) := by decide +kernel
theorem dX5_lay_128 : decode cX5_lay 128 = .ok (.if_icmp .ge 18, 3) := by decide +kernel
theorem dX5_lay_131 : decode cX5_lay 131 = .ok (.aload_n 0, 1) := by decide +kernel
theorem dX5_lay_132 : decode cX5_lay 132 = .ok (.getfield 26, 3) := by decide +kernel
theorem dX5_lay_135 : decode cX5_lay 135 = .ok (.iload_n 1, 1) := by decide +kernel
theorem dX5_lay_136 : decode cX5_lay 136 = .ok (.aload_n 0, 1) := by decide +kernel
theorem dX5_lay_137 : decode cX5_lay 137 = .ok (.getfield 26, 3) := by decide +kernel
theorem dX5_lay_140 : decode cX5_lay 140 = .ok (.bipush 6, 2) := by decide +kernel
theorem dX5_lay_142 : decode cX5_lay 142 = .ok (.iload_n 1, 1) := by decide +kernel
theorem dX5_lay_143 : decode cX5_lay 143 = .ok (.iadd, 1) := by decide +kernel
theorem dX5_lay_144 : decode cX5_lay 144 = .ok (.iaload, 1) := by decide +kernel
theorem dX5_lay_145 : decode cX5_lay 145 = .ok (.iastore, 1) := by decide +kernel
theorem dX5_lay_146 : decode cX5_lay 146 = .ok (.iinc 1 1, 3) := by decide +kernel
theorem dX5_lay_149 : decode cX5_lay 149 = .ok (.goto (-87), 3) := by decide +kernel
theorem dX5_lay_152 : decode cX5_lay 152 = .ok (.aload_n 0, 1) := by decide +kernel
theorem dX5_lay_153 : decode cX5_lay 153 = .ok (.iconst 3, 1) := by decide +kernel
theorem dX5_lay_154 : decode cX5_lay 154 = .ok (.iconst 0, 1) := by decide +kernel
theorem dX5_lay_155 : decode cX5_lay 155 = .ok (.invokevirtual 133, 3) := by decide +kernel
theorem dX5_lay_158 : decode cX5_lay 158 = .ok (.aload_n 0, 1) := by decide +kernel
theorem dX5_lay_159 : decode cX5_lay 159 = .ok (.iconst 0, 1) := by decide +kernel
theorem dX5_lay_160 : decode cX5_lay 160 = .ok (.putfield 137, 3) := by decide +kernel
theorem dX5_lay_163 : decode cX5_lay 163 = .ok (.aload_n 0, 1) := by decide +kernel
theorem dX5_lay_164 : decode cX5_lay 164 = .ok (.getfield 20, 3) := by decide +kernel
theorem dX5_lay_167 : decode cX5_lay 167 = .ok (.iconst 0, 1) := by decide +kernel
theorem dX5_lay_168 : decode cX5_lay 168 = .ok (.iaload, 1) := by decide +kernel
theorem dX5_lay_169 : decode cX5_lay 169 = .ok (.ireturn, 1) := by decide +kernel
theorem dX5_copies_0 : decode cX5_copies 0 = .ok (.iconst 0, 1) := by decide +kernel
theorem dX5_copies_1 : decode cX5_copies 1 = .ok (.istore_n 3, 1) := by decide +kernel
theorem dX5_copies_2 : decode cX5_copies 2 = .ok (.iload_n 3, 1) := by decide +kernel
theorem dX5_copies_3 : decode cX5_copies 3 = .ok (.sipush 288, 3) := by decide +kernel
theorem dX5_copies_6 : decode cX5_copies 6 = .ok (.if_icmp .ge 33, 3) := by decide +kernel
theorem dX5_copies_9 : decode cX5_copies 9 = .ok (.aload_n 0, 1) := by decide +kernel
theorem dX5_copies_10 : decode cX5_copies 10 = .ok (.getfield 38, 3) := by decide +kernel
theorem dX5_copies_13 : decode cX5_copies 13 = .ok (.sipush 288, 3) := by decide +kernel
theorem dX5_copies_16 : decode cX5_copies 16 = .ok (.iload_n 2, 1) := by decide +kernel
theorem dX5_copies_17 : decode cX5_copies 17 = .ok (.imul, 1) := by decide +kernel
theorem dX5_copies_18 : decode cX5_copies 18 = .ok (.iload_n 3, 1) := by decide +kernel
theorem dX5_copies_19 : decode cX5_copies 19 = .ok (.iadd, 1) := by decide +kernel
theorem dX5_copies_20 : decode cX5_copies 20 = .ok (.aload_n 0, 1) := by decide +kernel
theorem dX5_copies_21 : decode cX5_copies 21 = .ok (.getfield 38, 3) := by decide +kernel
theorem dX5_copies_24 : decode cX5_copies 24 = .ok (.sipush 288, 3) := by decide +kernel
theorem dX5_copies_27 : decode cX5_copies 27 = .ok (.iload_n 1, 1) := by decide +kernel
theorem dX5_copies_28 : decode cX5_copies 28 = .ok (.imul, 1) := by decide +kernel
theorem dX5_copies_29 : decode cX5_copies 29 = .ok (.iload_n 3, 1) := by decide +kernel
theorem dX5_copies_30 : decode cX5_copies 30 = .ok (.iadd, 1) := by decide +kernel
theorem dX5_copies_31 : decode cX5_copies 31 = .ok (.iaload, 1) := by decide +kernel
theorem dX5_copies_32 : decode cX5_copies 32 = .ok (.iastore, 1) := by decide +kernel
theorem dX5_copies_33 : decode cX5_copies 33 = .ok (.iinc 3 1, 3) := by decide +kernel
theorem dX5_copies_36 : decode cX5_copies 36 = .ok (.goto (-34), 3) := by decide +kernel
theorem dX5_copies_39 : decode cX5_copies 39 = .ok (.return_, 1) := by decide +kernel
set_option maxRecDepth 20000 in
theorem ggX5_isSign_X5_between : GoodIn wsX5_isSign wsX5_between := goodIn_r _ [5] (by decide +kernel) (by decide +kernel)
set_option maxRecDepth 20000 in
theorem gX5_isSign_X5_between : GoodIn wsX5_isSign (va_wsS RX5 74 yX5_between wsX5_between) := goodIn_app (goodIn_of _ (by decide +kernel)) ggX5_isSign_X5_between
theorem dX5_isSign_0 : decode cX5_isSign 0 = .ok (.iload_n 1, 1) := by decide +kernel
theorem dX5_isSign_1 : decode cX5_isSign 1 = .ok (.i2l, 1) := by decide +kernel
theorem dX5_isSign_2 : decode cX5_isSign 2 = .ok (.lconst 0, 1) := by decide +kernel
theorem dX5_isSign_3 : decode cX5_isSign 3 = .ok (.aload_n 0, 1) := by decide +kernel
theorem dX5_isSign_4 : decode cX5_isSign 4 = .ok (.getfield 13, 3) := by decide +kernel
theorem dX5_isSign_7 : decode cX5_isSign 7 = .ok (.iconst 0, 1) := by decide +kernel
theorem dX5_isSign_8 : decode cX5_isSign 8 = .ok (.iaload, 1) := by decide +kernel
theorem dX5_isSign_9 : decode cX5_isSign 9 = .ok (.iconst 1, 1) := by decide +kernel
theorem dX5_isSign_10 : decode cX5_isSign 10 = .ok (.isub, 1) := by decide +kernel
theorem dX5_isSign_11 : decode cX5_isSign 11 = .ok (.i2l, 1) := by decide +kernel
theorem dX5_isSign_12 : decode cX5_isSign 12 = .ok (.invokestatic 74, 3) := by decide +kernel
theorem dX5_isSign_15 : decode cX5_isSign 15 = .ok (.ireturn, 1) := by decide +kernel
set_option maxRecDepth 20000 in
theorem ggX5_isKind_X5_isSign : GoodIn wsX5_isKind wsX5_isSign := goodIn_r _ [5, 6, 7, 8, 4, 9, 10, 11, 12, 13, 14, 15, 16, 17, 18, 19, 20, 21, 22, 23, 24, 25, 26, 27, 28, 29, 30, 31, 32, 33, 34, 35, 36, 37, 38] (by decide +kernel) (by decide +kernel)
set_option maxRecDepth 20000 in
theorem gX5_isKind_X5_isSign : GoodIn wsX5_isKind (wsV RX5 140 RX5 yX5_isSign wsX5_isSign) := goodIn_app (goodIn_of _ (by decide +kernel)) ggX5_isKind_X5_isSign
theorem dX5_isKind_0 : decode cX5_isKind 0 = .ok (.aload_n 0, 1) := by decide +kernel
theorem dX5_isKind_1 : decode cX5_isKind 1 = .ok (.iload_n 1, 1) := by decide +kernel
theorem dX5_isKind_2 : decode cX5_isKind 2 = .ok (.invokevirtual 140, 3) := by decide +kernel
theorem dX5_isKind_5 : decode cX5_isKind 5 = .ok (.ifCond .ne 15, 3) := by decide +kernel
theorem dX5_isKind_8 : decode cX5_isKind 8 = .ok (.iload_n 1, 1) := by decide +kernel
theorem dX5_isKind_9 : decode cX5_isKind 9 = .ok (.bipush 98, 2) := by decide +kernel
theorem dX5_isKind_11 : decode cX5_isKind 11 = .ok (.if_icmp .eq 9, 3) := by decide +kernel
theorem dX5_isKind_14 : decode cX5_isKind 14 = .ok (.iload_n 1, 1) := by decide +kernel
theorem dX5_isKind_15 : decode cX5_isKind 15 = .ok (.bipush 99, 2) := by decide +kernel
theorem dX5_isKind_17 : decode cX5_isKind 17 = .ok (.if_icmp .ne 7, 3) := by decide +kernel
theorem dX5_isKind_20 : decode cX5_isKind 20 = .ok (.iconst 1, 1) := by decide +kernel
theorem dX5_isKind_21 : decode cX5_isKind 21 = .ok (.goto 4, 3) := by decide +kernel
theorem dX5_isKind_24 : decode cX5_isKind 24 = .ok (.iconst 0, 1) := by decide +kernel
theorem dX5_isKind_25 : decode cX5_isKind 25 = .ok (.ireturn, 1) := by decide +kernel
set_option maxRecDepth 20000 in
theorem ggX5_isCourse_X5_between : GoodIn wsX5_isCourse wsX5_between := goodIn_r _ [5] (by decide +kernel) (by decide +kernel)
set_option maxRecDepth 20000 in
theorem gX5_isCourse_X5_between : GoodIn wsX5_isCourse (va_wsS RX5 74 yX5_between wsX5_between) := goodIn_app (goodIn_of _ (by decide +kernel)) ggX5_isCourse_X5_between
theorem dX5_isCourse_0 : decode cX5_isCourse 0 = .ok (.iload_n 1, 1) := by decide +kernel
theorem dX5_isCourse_1 : decode cX5_isCourse 1 = .ok (.i2l, 1) := by decide +kernel
theorem dX5_isCourse_2 : decode cX5_isCourse 2 = .ok (.lconst 0, 1) := by decide +kernel
theorem dX5_isCourse_3 : decode cX5_isCourse 3 = .ok (.aload_n 0, 1) := by decide +kernel
theorem dX5_isCourse_4 : decode cX5_isCourse 4 = .ok (.getfield 20, 3) := by decide +kernel
theorem dX5_isCourse_7 : decode cX5_isCourse 7 = .ok (.iconst 0, 1) := by decide +kernel
theorem dX5_isCourse_8 : decode cX5_isCourse 8 = .ok (.iaload, 1) := by decide +kernel
theorem dX5_isCourse_9 : decode cX5_isCourse 9 = .ok (.iconst 1, 1) := by decide +kernel
theorem dX5_isCourse_10 : decode cX5_isCourse 10 = .ok (.isub, 1) := by decide +kernel
theorem dX5_isCourse_11 : decode cX5_isCourse 11 = .ok (.i2l, 1) := by decide +kernel
theorem dX5_isCourse_12 : decode cX5_isCourse 12 = .ok (.invokestatic 74, 3) := by decide +kernel
theorem dX5_isCourse_15 : decode cX5_isCourse 15 = .ok (.ireturn, 1) := by decide +kernel
set_option maxRecDepth 20000 in
theorem ggX5_isNameOf_X5_between : GoodIn wsX5_isNameOf wsX5_between := goodIn_r _ [5] (by decide +kernel) (by decide +kernel)
set_option maxRecDepth 20000 in
theorem gX5_isNameOf_X5_between : GoodIn wsX5_isNameOf (va_wsS RX5 74 yX5_between wsX5_between) := goodIn_app (goodIn_of _ (by decide +kernel)) ggX5_isNameOf_X5_between
theorem dX5_isNameOf_0 : decode cX5_isNameOf 0 = .ok (.iload_n 1, 1) := by decide +kernel
theorem dX5_isNameOf_1 : decode cX5_isNameOf 1 = .ok (.i2l, 1) := by decide +kernel
theorem dX5_isNameOf_2 : decode cX5_isNameOf 2 = .ok (.lconst 0, 1) := by decide +kernel
theorem dX5_isNameOf_3 : decode cX5_isNameOf 3 = .ok (.aload_n 0, 1) := by decide +kernel
theorem dX5_isNameOf_4 : decode cX5_isNameOf 4 = .ok (.getfield 29, 3) := by decide +kernel
theorem dX5_isNameOf_7 : decode cX5_isNameOf 7 = .ok (.iconst 0, 1) := by decide +kernel
theorem dX5_isNameOf_8 : decode cX5_isNameOf 8 = .ok (.iaload, 1) := by decide +kernel
theorem dX5_isNameOf_9 : decode cX5_isNameOf 9 = .ok (.iconst 1, 1) := by decide +kernel
theorem dX5_isNameOf_10 : decode cX5_isNameOf 10 = .ok (.isub, 1) := by decide +kernel
theorem dX5_isNameOf_11 : decode cX5_isNameOf 11 = .ok (.i2l, 1) := by decide +kernel
theorem dX5_isNameOf_12 : decode cX5_isNameOf 12 = .ok (.invokestatic 74, 3) := by decide +kernel
theorem dX5_isNameOf_15 : decode cX5_isNameOf 15 = .ok (.ireturn, 1) := by decide +kernel
theorem dX5_thereAre_0 : decode cX5_thereAre 0 = .ok (.iconst 0, 1) := by decide +kernel
theorem dX5_thereAre_1 : decode cX5_thereAre 1 = .ok (.istore_n 1, 1) := by decide +kernel
theorem dX5_thereAre_2 : decode cX5_thereAre 2 = .ok (.iconst 0, 1) := by decide +kernel
theorem dX5_thereAre_3 : decode cX5_thereAre 3 = .ok (.istore_n 2, 1) := by decide +kernel
theorem dX5_thereAre_4 : decode cX5_thereAre 4 = .ok (.iload_n 2, 1) := by decide +kernel
theorem dX5_thereAre_5 : decode cX5_thereAre 5 = .ok (.aload_n 0, 1) := by decide +kernel
theorem dX5_thereAre_6 : decode cX5_thereAre 6 = .ok (.getfield 20, 3) := by decide +kernel
theorem dX5_thereAre_9 : decode cX5_thereAre 9 = .ok (.iconst 0, 1) := by decide +kernel
theorem dX5_thereAre_10 : decode cX5_thereAre 10 = .ok (.iaload, 1) := by decide +kernel
theorem dX5_thereAre_11 : decode cX5_thereAre 11 = .ok (.if_icmp .ge 22, 3) := by decide +kernel
theorem dX5_thereAre_14 : decode cX5_thereAre 14 = .ok (.iload_n 1, 1) := by decide +kernel
theorem dX5_thereAre_15 : decode cX5_thereAre 15 = .ok (.iconst 1, 1) := by decide +kernel
theorem dX5_thereAre_16 : decode cX5_thereAre 16 = .ok (.aload_n 0, 1) := by decide +kernel
theorem dX5_thereAre_17 : decode cX5_thereAre 17 = .ok (.getfield 23, 3) := by decide +kernel
theorem dX5_thereAre_20 : decode cX5_thereAre 20 = .ok (.iconst 3, 1) := by decide +kernel
theorem dX5_thereAre_21 : decode cX5_thereAre 21 = .ok (.iload_n 2, 1) := by decide +kernel
theorem dX5_thereAre_22 : decode cX5_thereAre 22 = .ok (.imul, 1) := by decide +kernel
theorem dX5_thereAre_23 : decode cX5_thereAre 23 = .ok (.iaload, 1) := by decide +kernel
theorem dX5_thereAre_24 : decode cX5_thereAre 24 = .ok (.ishl, 1) := by decide +kernel
theorem dX5_thereAre_25 : decode cX5_thereAre 25 = .ok (.ior, 1) := by decide +kernel
theorem dX5_thereAre_26 : decode cX5_thereAre 26 = .ok (.istore_n 1, 1) := by decide +kernel
theorem dX5_thereAre_27 : decode cX5_thereAre 27 = .ok (.iinc 2 1, 3) := by decide +kernel
theorem dX5_thereAre_30 : decode cX5_thereAre 30 = .ok (.goto (-26), 3) := by decide +kernel
theorem dX5_thereAre_33 : decode cX5_thereAre 33 = .ok (.iload_n 1, 1) := by decide +kernel
theorem dX5_thereAre_34 : decode cX5_thereAre 34 = .ok (.ireturn, 1) := by decide +kernel
set_option maxRecDepth 20000 in
theorem ggX5_isPart_X5_between : GoodIn wsX5_isPart wsX5_between := goodIn_r _ [5] (by decide +kernel) (by decide +kernel)
set_option maxRecDepth 20000 in
theorem gX5_isPart_X5_between : GoodIn wsX5_isPart (va_wsS RX5 74 yX5_between wsX5_between) := goodIn_app (goodIn_of _ (by decide +kernel)) ggX5_isPart_X5_between
set_option maxRecDepth 20000 in
theorem ggX5_isPart_X5_thereAre : GoodIn wsX5_isPart wsX5_thereAre := goodIn_r _ [9, 10, 11, 12, 13, 14, 15, 16, 17, 18, 19, 20, 21, 22, 23, 24, 25, 26, 27, 28, 29, 30, 31, 32, 33, 34, 35, 36, 37, 38, 39, 40] (by decide +kernel) (by decide +kernel)
set_option maxRecDepth 20000 in
theorem gX5_isPart_X5_thereAre : GoodIn wsX5_isPart (wsV RX5 143 RX5 yX5_thereAre wsX5_thereAre) := goodIn_app (goodIn_of _ (by decide +kernel)) ggX5_isPart_X5_thereAre
theorem dX5_isPart_0 : decode cX5_isPart 0 = .ok (.iload_n 1, 1) := by decide +kernel
theorem dX5_isPart_1 : decode cX5_isPart 1 = .ok (.i2l, 1) := by decide +kernel
theorem dX5_isPart_2 : decode cX5_isPart 2 = .ok (.lconst 0, 1) := by decide +kernel
theorem dX5_isPart_3 : decode cX5_isPart 3 = .ok (.ldc2_w 107, 3) := by decide +kernel
theorem dX5_isPart_6 : decode cX5_isPart 6 = .ok (.invokestatic 74, 3) := by decide +kernel
theorem dX5_isPart_9 : decode cX5_isPart 9 = .ok (.ifCond .eq 19, 3) := by decide +kernel
theorem dX5_isPart_12 : decode cX5_isPart 12 = .ok (.aload_n 0, 1) := by decide +kernel
theorem dX5_isPart_13 : decode cX5_isPart 13 = .ok (.invokevirtual 143, 3) := by decide +kernel
theorem dX5_isPart_16 : decode cX5_isPart 16 = .ok (.iload_n 1, 1) := by decide +kernel
theorem dX5_isPart_17 : decode cX5_isPart 17 = .ok (.ishr, 1) := by decide +kernel
theorem dX5_isPart_18 : decode cX5_isPart 18 = .ok (.iconst 1, 1) := by decide +kernel
theorem dX5_isPart_19 : decode cX5_isPart 19 = .ok (.iand, 1) := by decide +kernel
theorem dX5_isPart_20 : decode cX5_isPart 20 = .ok (.iconst 1, 1) := by decide +kernel
theorem dX5_isPart_21 : decode cX5_isPart 21 = .ok (.if_icmp .ne 7, 3) := by decide +kernel
theorem dX5_isPart_24 : decode cX5_isPart 24 = .ok (.iconst 1, 1) := by decide +kernel
theorem dX5_isPart_25 : decode cX5_isPart 25 = .ok (.goto 4, 3) := by decide +kernel
theorem dX5_isPart_28 : decode cX5_isPart 28 = .ok (.iconst 0, 1) := by decide +kernel
theorem dX5_isPart_29 : decode cX5_isPart 29 = .ok (.ireturn, 1) := by decide +kernel
set_option maxRecDepth 20000 in
theorem ggX5_inPart_X5_kindOf : GoodIn wsX5_inPart wsX5_kindOf := goodIn_r _ [7] (by decide +kernel) (by decide +kernel)
set_option maxRecDepth 20000 in
theorem gX5_inPart_X5_kindOf : GoodIn wsX5_inPart (va_wsS RX5 115 yX5_kindOf wsX5_kindOf) := goodIn_app (goodIn_of _ (by decide +kernel)) ggX5_inPart_X5_kindOf
theorem dX5_inPart_0 : decode cX5_inPart 0 = .ok (.iconst 0, 1) := by decide +kernel
theorem dX5_inPart_1 : decode cX5_inPart 1 = .ok (.istore_n 3, 1) := by decide +kernel
theorem dX5_inPart_2 : decode cX5_inPart 2 = .ok (.iconst 0, 1) := by decide +kernel
theorem dX5_inPart_3 : decode cX5_inPart 3 = .ok (.istore 4, 2) := by decide +kernel
theorem dX5_inPart_5 : decode cX5_inPart 5 = .ok (.iload 4, 2) := by decide +kernel
theorem dX5_inPart_7 : decode cX5_inPart 7 = .ok (.aload_n 0, 1) := by decide +kernel
theorem dX5_inPart_8 : decode cX5_inPart 8 = .ok (.getfield 20, 3) := by decide +kernel
theorem dX5_inPart_11 : decode cX5_inPart 11 = .ok (.iconst 0, 1) := by decide +kernel
theorem dX5_inPart_12 : decode cX5_inPart 12 = .ok (.iaload, 1) := by decide +kernel
theorem dX5_inPart_13 : decode cX5_inPart 13 = .ok (.if_icmp .ge 44, 3) := by decide +kernel
theorem dX5_inPart_16 : decode cX5_inPart 16 = .ok (.iload_n 3, 1) := by decide +kernel
theorem dX5_inPart_17 : decode cX5_inPart 17 = .ok (.aload_n 0, 1) := by decide +kernel
theorem dX5_inPart_18 : decode cX5_inPart 18 = .ok (.getfield 23, 3) := by decide +kernel
theorem dX5_inPart_21 : decode cX5_inPart 21 = .ok (.iconst 3, 1) := by decide +kernel
theorem dX5_inPart_22 : decode cX5_inPart 22 = .ok (.iload 4, 2) := by decide +kernel
theorem dX5_inPart_24 : decode cX5_inPart 24 = .ok (.imul, 1) := by decide +kernel
theorem dX5_inPart_25 : decode cX5_inPart 25 = .ok (.iaload, 1) := by decide +kernel
theorem dX5_inPart_26 : decode cX5_inPart 26 = .ok (.iload_n 1, 1) := by decide +kernel
theorem dX5_inPart_27 : decode cX5_inPart 27 = .ok (.if_icmp .ne 21, 3) := by decide +kernel
theorem dX5_inPart_30 : decode cX5_inPart 30 = .ok (.aload_n 0, 1) := by decide +kernel
theorem dX5_inPart_31 : decode cX5_inPart 31 = .ok (.getfield 38, 3) := by decide +kernel
theorem dX5_inPart_34 : decode cX5_inPart 34 = .ok (.bipush 18, 2) := by decide +kernel
theorem dX5_inPart_36 : decode cX5_inPart 36 = .ok (.iload 4, 2) := by decide +kernel
theorem dX5_inPart_38 : decode cX5_inPart 38 = .ok (.imul, 1) := by decide +kernel
theorem dX5_inPart_39 : decode cX5_inPart 39 = .ok (.iload_n 2, 1) := by decide +kernel
theorem dX5_inPart_40 : decode cX5_inPart 40 = .ok (.invokestatic 115, 3) := by decide +kernel
theorem dX5_inPart_43 : decode cX5_inPart 43 = .ok (.iadd, 1) := by decide +kernel
theorem dX5_inPart_44 : decode cX5_inPart 44 = .ok (.iaload, 1) := by decide +kernel
theorem dX5_inPart_45 : decode cX5_inPart 45 = .ok (.goto 4, 3) := by decide +kernel
theorem dX5_inPart_48 : decode cX5_inPart 48 = .ok (.iconst 0, 1) := by decide +kernel
theorem dX5_inPart_49 : decode cX5_inPart 49 = .ok (.iadd, 1) := by decide +kernel
theorem dX5_inPart_50 : decode cX5_inPart 50 = .ok (.istore_n 3, 1) := by decide +kernel
theorem dX5_inPart_51 : decode cX5_inPart 51 = .ok (.iinc 4 1, 3) := by decide +kernel
theorem dX5_inPart_54 : decode cX5_inPart 54 = .ok (.goto (-49), 3) := by decide +kernel
theorem dX5_inPart_57 : decode cX5_inPart 57 = .ok (.iload_n 3, 1) := by decide +kernel
theorem dX5_inPart_58 : decode cX5_inPart 58 = .ok (.ireturn, 1) := by decide +kernel
theorem dX5_ofSign_0 : decode cX5_ofSign 0 = .ok (.iconst 0, 1) := by decide +kernel
theorem dX5_ofSign_1 : decode cX5_ofSign 1 = .ok (.istore_n 2, 1) := by decide +kernel
theorem dX5_ofSign_2 : decode cX5_ofSign 2 = .ok (.iconst 0, 1) := by decide +kernel
theorem dX5_ofSign_3 : decode cX5_ofSign 3 = .ok (.istore_n 3, 1) := by decide +kernel
theorem dX5_ofSign_4 : decode cX5_ofSign 4 = .ok (.iload_n 3, 1) := by decide +kernel
theorem dX5_ofSign_5 : decode cX5_ofSign 5 = .ok (.aload_n 0, 1) := by decide +kernel
theorem dX5_ofSign_6 : decode cX5_ofSign 6 = .ok (.getfield 20, 3) := by decide +kernel
theorem dX5_ofSign_9 : decode cX5_ofSign 9 = .ok (.iconst 0, 1) := by decide +kernel
theorem dX5_ofSign_10 : decode cX5_ofSign 10 = .ok (.iaload, 1) := by decide +kernel
theorem dX5_ofSign_11 : decode cX5_ofSign 11 = .ok (.if_icmp .ge 23, 3) := by decide +kernel
theorem dX5_ofSign_14 : decode cX5_ofSign 14 = .ok (.iload_n 2, 1) := by decide +kernel
theorem dX5_ofSign_15 : decode cX5_ofSign 15 = .ok (.aload_n 0, 1) := by decide +kernel
theorem dX5_ofSign_16 : decode cX5_ofSign 16 = .ok (.getfield 38, 3) := by decide +kernel
theorem dX5_ofSign_19 : decode cX5_ofSign 19 = .ok (.bipush 18, 2) := by decide +kernel
theorem dX5_ofSign_21 : decode cX5_ofSign 21 = .ok (.iload_n 3, 1) := by decide +kernel
theorem dX5_ofSign_22 : decode cX5_ofSign 22 = .ok (.imul, 1) := by decide +kernel
theorem dX5_ofSign_23 : decode cX5_ofSign 23 = .ok (.iload_n 1, 1) := by decide +kernel
theorem dX5_ofSign_24 : decode cX5_ofSign 24 = .ok (.iadd, 1) := by decide +kernel
theorem dX5_ofSign_25 : decode cX5_ofSign 25 = .ok (.iaload, 1) := by decide +kernel
theorem dX5_ofSign_26 : decode cX5_ofSign 26 = .ok (.iadd, 1) := by decide +kernel
theorem dX5_ofSign_27 : decode cX5_ofSign 27 = .ok (.istore_n 2, 1) := by decide +kernel
theorem dX5_ofSign_28 : decode cX5_ofSign 28 = .ok (.iinc 3 1, 3) := by decide +kernel
theorem dX5_ofSign_31 : decode cX5_ofSign 31 = .ok (.goto (-27), 3) := by decide +kernel
theorem dX5_ofSign_34 : decode cX5_ofSign 34 = .ok (.iload_n 2, 1) := by decide +kernel
theorem dX5_ofSign_35 : decode cX5_ofSign 35 = .ok (.ireturn, 1) := by decide +kernel
theorem dX5_partsOf_0 : decode cX5_partsOf 0 = .ok (.iconst 0, 1) := by decide +kernel
theorem dX5_partsOf_1 : decode cX5_partsOf 1 = .ok (.istore_n 2, 1) := by decide +kernel
theorem dX5_partsOf_2 : decode cX5_partsOf 2 = .ok (.iconst 0, 1) := by decide +kernel
theorem dX5_partsOf_3 : decode cX5_partsOf 3 = .ok (.istore_n 3, 1) := by decide +kernel
theorem dX5_partsOf_4 : decode cX5_partsOf 4 = .ok (.iload_n 3, 1) := by decide +kernel
theorem dX5_partsOf_5 : decode cX5_partsOf 5 = .ok (.aload_n 0, 1) := by decide +kernel
theorem dX5_partsOf_6 : decode cX5_partsOf 6 = .ok (.getfield 20, 3) := by decide +kernel
theorem dX5_partsOf_9 : decode cX5_partsOf 9 = .ok (.iconst 0, 1) := by decide +kernel
theorem dX5_partsOf_10 : decode cX5_partsOf 10 = .ok (.iaload, 1) := by decide +kernel
theorem dX5_partsOf_11 : decode cX5_partsOf 11 = .ok (.if_icmp .ge 40, 3) := by decide +kernel
theorem dX5_partsOf_14 : decode cX5_partsOf 14 = .ok (.iload_n 2, 1) := by decide +kernel
theorem dX5_partsOf_15 : decode cX5_partsOf 15 = .ok (.aload_n 0, 1) := by decide +kernel
theorem dX5_partsOf_16 : decode cX5_partsOf 16 = .ok (.getfield 38, 3) := by decide +kernel
theorem dX5_partsOf_19 : decode cX5_partsOf 19 = .ok (.bipush 18, 2) := by decide +kernel
theorem dX5_partsOf_21 : decode cX5_partsOf 21 = .ok (.iload_n 3, 1) := by decide +kernel
theorem dX5_partsOf_22 : decode cX5_partsOf 22 = .ok (.imul, 1) := by decide +kernel
theorem dX5_partsOf_23 : decode cX5_partsOf 23 = .ok (.iload_n 1, 1) := by decide +kernel
theorem dX5_partsOf_24 : decode cX5_partsOf 24 = .ok (.iadd, 1) := by decide +kernel
theorem dX5_partsOf_25 : decode cX5_partsOf 25 = .ok (.iaload, 1) := by decide +kernel
theorem dX5_partsOf_26 : decode cX5_partsOf 26 = .ok (.ifCond .le 16, 3) := by decide +kernel
theorem dX5_partsOf_29 : decode cX5_partsOf 29 = .ok (.iconst 1, 1) := by decide +kernel
theorem dX5_partsOf_30 : decode cX5_partsOf 30 = .ok (.aload_n 0, 1) := by decide +kernel
theorem dX5_partsOf_31 : decode cX5_partsOf 31 = .ok (.getfield 23, 3) := by decide +kernel
theorem dX5_partsOf_34 : decode cX5_partsOf 34 = .ok (.iconst 3, 1) := by decide +kernel
theorem dX5_partsOf_35 : decode cX5_partsOf 35 = .ok (.iload_n 3, 1) := by decide +kernel
theorem dX5_partsOf_36 : decode cX5_partsOf 36 = .ok (.imul, 1) := by decide +kernel
theorem dX5_partsOf_37 : decode cX5_partsOf 37 = .ok (.iaload, 1) := by decide +kernel
theorem dX5_partsOf_38 : decode cX5_partsOf 38 = .ok (.ishl, 1) := by decide +kernel
theorem dX5_partsOf_39 : decode cX5_partsOf 39 = .ok (.goto 4, 3) := by decide +kernel
theorem dX5_partsOf_42 : decode cX5_partsOf 42 = .ok (.iconst 0, 1) := by decide +kernel
theorem dX5_partsOf_43 : decode cX5_partsOf 43 = .ok (.ior, 1) := by decide +kernel
theorem dX5_partsOf_44 : decode cX5_partsOf 44 = .ok (.istore_n 2, 1) := by decide +kernel
theorem dX5_partsOf_45 : decode cX5_partsOf 45 = .ok (.iinc 3 1, 3) := by decide +kernel
theorem dX5_partsOf_48 : decode cX5_partsOf 48 = .ok (.goto (-44), 3) := by decide +kernel
theorem dX5_partsOf_51 : decode cX5_partsOf 51 = .ok (.iload_n 2, 1) := by decide +kernel
theorem dX5_partsOf_52 : decode cX5_partsOf 52 = .ok (.ireturn, 1) := by decide +kernel
set_option maxRecDepth 20000 in
theorem ggX5_sign_X5_isSign : GoodIn wsX5_sign wsX5_isSign := goodIn_r _ [7, 8, 9, 10, 6, 11, 23, 24, 25, 26, 27, 28, 29, 30, 31, 32, 33, 34, 35, 36, 37, 38, 39, 40, 41, 42, 43, 44, 45, 46, 47, 48, 49, 50, 51] (by decide +kernel) (by decide +kernel)
set_option maxRecDepth 20000 in
theorem gX5_sign_X5_isSign : GoodIn wsX5_sign (wsV RX5 140 RX5 yX5_isSign wsX5_isSign) := goodIn_app (goodIn_of _ (by decide +kernel)) ggX5_sign_X5_isSign
set_option maxRecDepth 20000 in
theorem ggX5_sign_X5_between : GoodIn wsX5_sign wsX5_between := goodIn_r _ [11] (by decide +kernel) (by decide +kernel)
set_option maxRecDepth 20000 in
theorem gX5_sign_X5_between : GoodIn wsX5_sign (va_wsS RX5 74 yX5_between wsX5_between) := goodIn_app (goodIn_of _ (by decide +kernel)) ggX5_sign_X5_between
set_option maxRecDepth 20000 in
theorem ggX5_sign_X5_ofSign : GoodIn wsX5_sign wsX5_ofSign := goodIn_r _ [15, 16, 17, 23, 24, 25, 26, 27, 28, 29, 30, 31, 32, 33, 34, 35, 36, 37, 38, 39, 40, 41, 42, 43, 44, 45, 46, 47, 48, 49, 50, 51] (by decide +kernel) (by decide +kernel)
set_option maxRecDepth 20000 in
theorem gX5_sign_X5_ofSign : GoodIn wsX5_sign (wsV RX5 146 RX5 yX5_ofSign wsX5_ofSign) := goodIn_app (goodIn_of _ (by decide +kernel)) ggX5_sign_X5_ofSign
set_option maxRecDepth 20000 in
theorem ggX5_sign_X5_partsOf : GoodIn wsX5_sign wsX5_partsOf := goodIn_r _ [21, 16, 17, 22, 23, 24, 25, 26, 27, 28, 29, 30, 31, 32, 33, 34, 35, 36, 37, 38, 39, 40, 41, 42, 43, 44, 45, 46, 47, 48, 49, 50, 51] (by decide +kernel) (by decide +kernel)
set_option maxRecDepth 20000 in
theorem gX5_sign_X5_partsOf : GoodIn wsX5_sign (wsV RX5 149 RX5 yX5_partsOf wsX5_partsOf) := goodIn_app (goodIn_of _ (by decide +kernel)) ggX5_sign_X5_partsOf
theorem dX5_sign_0 : decode cX5_sign 0 = .ok (.aload_n 0, 1) := by decide +kernel
theorem dX5_sign_1 : decode cX5_sign 1 = .ok (.iload_n 1, 1) := by decide +kernel
theorem dX5_sign_2 : decode cX5_sign 2 = .ok (.invokevirtual 140, 3) := by decide +kernel
theorem dX5_sign_5 : decode cX5_sign 5 = .ok (.ifCond .eq 15, 3) := by decide +kernel
theorem dX5_sign_8 : decode cX5_sign 8 = .ok (.iload_n 2, 1) := by decide +kernel
theorem dX5_sign_9 : decode cX5_sign 9 = .ok (.i2l, 1) := by decide +kernel
theorem dX5_sign_10 : decode cX5_sign 10 = .ok (.lconst 0, 1) := by decide +kernel
theorem dX5_sign_11 : decode cX5_sign 11 = .ok (.ldc2_w 89, 3) := by decide +kernel
theorem dX5_sign_14 : decode cX5_sign 14 = .ok (.invokestatic 74, 3) := by decide +kernel
theorem dX5_sign_17 : decode cX5_sign 17 = .ok (.ifCond .ne 5, 3) := by decide +kernel
theorem dX5_sign_20 : decode cX5_sign 20 = .ok (.iconst (-1), 1) := by decide +kernel
theorem dX5_sign_21 : decode cX5_sign 21 = .ok (.ireturn, 1) := by decide +kernel
theorem dX5_sign_22 : decode cX5_sign 22 = .ok (.iload_n 2, 1) := by decide +kernel
theorem dX5_sign_23 : decode cX5_sign 23 = .ok (.iconst 2, 1) := by decide +kernel
theorem dX5_sign_24 : decode cX5_sign 24 = .ok (.if_icmp .ge 16, 3) := by decide +kernel
theorem dX5_sign_27 : decode cX5_sign 27 = .ok (.aload_n 0, 1) := by decide +kernel
theorem dX5_sign_28 : decode cX5_sign 28 = .ok (.getfield 17, 3) := by decide +kernel
theorem dX5_sign_31 : decode cX5_sign 31 = .ok (.iconst 2, 1) := by decide +kernel
theorem dX5_sign_32 : decode cX5_sign 32 = .ok (.iload_n 1, 1) := by decide +kernel
theorem dX5_sign_33 : decode cX5_sign 33 = .ok (.imul, 1) := by decide +kernel
theorem dX5_sign_34 : decode cX5_sign 34 = .ok (.iload_n 2, 1) := by decide +kernel
theorem dX5_sign_35 : decode cX5_sign 35 = .ok (.iadd, 1) := by decide +kernel
theorem dX5_sign_36 : decode cX5_sign 36 = .ok (.iaload, 1) := by decide +kernel
theorem dX5_sign_37 : decode cX5_sign 37 = .ok (.goto 21, 3) := by decide +kernel
theorem dX5_sign_40 : decode cX5_sign 40 = .ok (.iload_n 2, 1) := by decide +kernel
theorem dX5_sign_41 : decode cX5_sign 41 = .ok (.iconst 2, 1) := by decide +kernel
theorem dX5_sign_42 : decode cX5_sign 42 = .ok (.if_icmp .ne 11, 3) := by decide +kernel
theorem dX5_sign_45 : decode cX5_sign 45 = .ok (.aload_n 0, 1) := by decide +kernel
theorem dX5_sign_46 : decode cX5_sign 46 = .ok (.iload_n 1, 1) := by decide +kernel
theorem dX5_sign_47 : decode cX5_sign 47 = .ok (.invokevirtual 146, 3) := by decide +kernel
theorem dX5_sign_50 : decode cX5_sign 50 = .ok (.goto 8, 3) := by decide +kernel
theorem dX5_sign_53 : decode cX5_sign 53 = .ok (.aload_n 0, 1) := by decide +kernel
theorem dX5_sign_54 : decode cX5_sign 54 = .ok (.iload_n 1, 1) := by decide +kernel
theorem dX5_sign_55 : decode cX5_sign 55 = .ok (.invokevirtual 149, 3) := by decide +kernel
theorem dX5_sign_58 : decode cX5_sign 58 = .ok (.ireturn, 1) := by decide +kernel
set_option maxRecDepth 20000 in
theorem ggX5_stones_X5_isCourse : GoodIn wsX5_stones wsX5_isCourse := goodIn_r _ [6, 7, 8, 9, 5, 10, 23, 24, 25, 26, 27, 28, 29, 30, 31, 32, 33, 34, 35, 36, 37, 38, 39, 40, 41, 42, 43, 44, 45, 46, 47, 48, 49, 50, 51] (by decide +kernel) (by decide +kernel)
set_option maxRecDepth 20000 in
theorem gX5_stones_X5_isCourse : GoodIn wsX5_stones (wsV RX5 152 RX5 yX5_isCourse wsX5_isCourse) := goodIn_app (goodIn_of _ (by decide +kernel)) ggX5_stones_X5_isCourse
set_option maxRecDepth 20000 in
theorem ggX5_stones_X5_isKind : GoodIn wsX5_stones wsX5_isKind := goodIn_r _ [14, 15, 16, 17, 5, 18, 19, 8, 9, 10, 23, 24, 25, 26, 27, 28, 29, 30, 31, 32, 33, 34, 35, 36, 37, 38, 39, 40, 41, 42, 43, 44, 45, 46, 47, 48, 49, 50, 51] (by decide +kernel) (by decide +kernel)
set_option maxRecDepth 20000 in
theorem gX5_stones_X5_isKind : GoodIn wsX5_stones (wsV RX5 155 RX5 yX5_isKind wsX5_isKind) := goodIn_app (goodIn_of _ (by decide +kernel)) ggX5_stones_X5_isKind
set_option maxRecDepth 20000 in
theorem ggX5_stones_X5_kindOf : GoodIn wsX5_stones wsX5_kindOf := goodIn_r _ [22] (by decide +kernel) (by decide +kernel)
set_option maxRecDepth 20000 in
theorem gX5_stones_X5_kindOf : GoodIn wsX5_stones (va_wsS RX5 115 yX5_kindOf wsX5_kindOf) := goodIn_app (goodIn_of _ (by decide +kernel)) ggX5_stones_X5_kindOf
theorem dX5_stones_0 : decode cX5_stones 0 = .ok (.aload_n 0, 1) := by decide +kernel
theorem dX5_stones_1 : decode cX5_stones 1 = .ok (.iload_n 1, 1) := by decide +kernel
theorem dX5_stones_2 : decode cX5_stones 2 = .ok (.invokevirtual 152, 3) := by decide +kernel
theorem dX5_stones_5 : decode cX5_stones 5 = .ok (.ifCond .eq 28, 3) := by decide +kernel
theorem dX5_stones_8 : decode cX5_stones 8 = .ok (.aload_n 0, 1) := by decide +kernel
theorem dX5_stones_9 : decode cX5_stones 9 = .ok (.iload_n 2, 1) := by decide +kernel
theorem dX5_stones_10 : decode cX5_stones 10 = .ok (.invokevirtual 155, 3) := by decide +kernel
theorem dX5_stones_13 : decode cX5_stones 13 = .ok (.ifCond .eq 20, 3) := by decide +kernel
theorem dX5_stones_16 : decode cX5_stones 16 = .ok (.aload_n 0, 1) := by decide +kernel
theorem dX5_stones_17 : decode cX5_stones 17 = .ok (.getfield 38, 3) := by decide +kernel
theorem dX5_stones_20 : decode cX5_stones 20 = .ok (.bipush 18, 2) := by decide +kernel
theorem dX5_stones_22 : decode cX5_stones 22 = .ok (.iload_n 1, 1) := by decide +kernel
theorem dX5_stones_23 : decode cX5_stones 23 = .ok (.imul, 1) := by decide +kernel
theorem dX5_stones_24 : decode cX5_stones 24 = .ok (.iload_n 2, 1) := by decide +kernel
theorem dX5_stones_25 : decode cX5_stones 25 = .ok (.invokestatic 115, 3) := by decide +kernel
theorem dX5_stones_28 : decode cX5_stones 28 = .ok (.iadd, 1) := by decide +kernel
theorem dX5_stones_29 : decode cX5_stones 29 = .ok (.iaload, 1) := by decide +kernel
theorem dX5_stones_30 : decode cX5_stones 30 = .ok (.goto 4, 3) := by decide +kernel
theorem dX5_stones_33 : decode cX5_stones 33 = .ok (.iconst (-1), 1) := by decide +kernel
theorem dX5_stones_34 : decode cX5_stones 34 = .ok (.ireturn, 1) := by decide +kernel
set_option maxRecDepth 20000 in
theorem ggX5_in_X5_isPart : GoodIn wsX5_in wsX5_isPart := goodIn_r _ [5, 6, 7, 8, 4, 9, 10, 11, 12, 13, 14, 15, 33, 34, 35, 36, 37, 38, 39, 40, 41, 42, 43, 44, 45, 46, 47, 48, 49, 50, 51, 52, 53, 54, 55, 56, 57, 58, 59, 60, 61] (by decide +kernel) (by decide +kernel)
set_option maxRecDepth 20000 in
theorem gX5_in_X5_isPart : GoodIn wsX5_in (wsV RX5 158 RX5 yX5_isPart wsX5_isPart) := goodIn_app (goodIn_of _ (by decide +kernel)) ggX5_in_X5_isPart
set_option maxRecDepth 20000 in
theorem ggX5_in_X5_isKind : GoodIn wsX5_in wsX5_isKind := goodIn_r _ [19, 20, 21, 22, 4, 23, 24, 7, 8, 9, 33, 34, 35, 36, 37, 38, 39, 40, 41, 42, 43, 44, 45, 46, 47, 48, 49, 50, 51, 52, 53, 54, 55, 56, 57, 58, 59, 60, 61] (by decide +kernel) (by decide +kernel)
set_option maxRecDepth 20000 in
theorem gX5_in_X5_isKind : GoodIn wsX5_in (wsV RX5 155 RX5 yX5_isKind wsX5_isKind) := goodIn_app (goodIn_of _ (by decide +kernel)) ggX5_in_X5_isKind
set_option maxRecDepth 20000 in
theorem ggX5_in_X5_inPart : GoodIn wsX5_in wsX5_inPart := goodIn_r _ [28, 14, 15, 29, 30, 31, 4, 32, 33, 34, 35, 36, 37, 38, 39, 40, 41, 42, 43, 44, 45, 46, 47, 48, 49, 50, 51, 52, 53, 54, 55, 56, 57, 58, 59, 60, 61] (by decide +kernel) (by decide +kernel)
set_option maxRecDepth 20000 in
theorem gX5_in_X5_inPart : GoodIn wsX5_in (wsV RX5 161 RX5 yX5_inPart wsX5_inPart) := goodIn_app (goodIn_of _ (by decide +kernel)) ggX5_in_X5_inPart
theorem dX5_in_0 : decode cX5_in 0 = .ok (.aload_n 0, 1) := by decide +kernel
theorem dX5_in_1 : decode cX5_in 1 = .ok (.iload_n 1, 1) := by decide +kernel
theorem dX5_in_2 : decode cX5_in 2 = .ok (.invokevirtual 158, 3) := by decide +kernel
theorem dX5_in_5 : decode cX5_in 5 = .ok (.ifCond .eq 20, 3) := by decide +kernel
theorem dX5_in_8 : decode cX5_in 8 = .ok (.aload_n 0, 1) := by decide +kernel
theorem dX5_in_9 : decode cX5_in 9 = .ok (.iload_n 2, 1) := by decide +kernel
theorem dX5_in_10 : decode cX5_in 10 = .ok (.invokevirtual 155, 3) := by decide +kernel
theorem dX5_in_13 : decode cX5_in 13 = .ok (.ifCond .eq 12, 3) := by decide +kernel
theorem dX5_in_16 : decode cX5_in 16 = .ok (.aload_n 0, 1) := by decide +kernel
theorem dX5_in_17 : decode cX5_in 17 = .ok (.iload_n 1, 1) := by decide +kernel
theorem dX5_in_18 : decode cX5_in 18 = .ok (.iload_n 2, 1) := by decide +kernel
theorem dX5_in_19 : decode cX5_in 19 = .ok (.invokevirtual 161, 3) := by decide +kernel
theorem dX5_in_22 : decode cX5_in 22 = .ok (.goto 4, 3) := by decide +kernel
theorem dX5_in_25 : decode cX5_in 25 = .ok (.iconst (-1), 1) := by decide +kernel
theorem dX5_in_26 : decode cX5_in 26 = .ok (.ireturn, 1) := by decide +kernel
set_option maxRecDepth 20000 in
theorem ggX5_read_X5_isCourse : GoodIn wsX5_read wsX5_isCourse := goodIn_r _ [6, 7, 8, 9, 5, 10, 19, 20, 21, 22, 23, 24, 25, 26, 27, 28, 29, 30, 31, 32, 33, 34, 35, 36, 37, 38, 39, 40, 41, 42, 43, 44, 45, 46, 47] (by decide +kernel) (by decide +kernel)
set_option maxRecDepth 20000 in
theorem gX5_read_X5_isCourse : GoodIn wsX5_read (wsV RX5 152 RX5 yX5_isCourse wsX5_isCourse) := goodIn_app (goodIn_of _ (by decide +kernel)) ggX5_read_X5_isCourse
set_option maxRecDepth 20000 in
theorem ggX5_read_X5_isSign : GoodIn wsX5_read wsX5_isSign := goodIn_r _ [14, 15, 8, 9, 5, 10, 19, 20, 21, 22, 23, 24, 25, 26, 27, 28, 29, 30, 31, 32, 33, 34, 35, 36, 37, 38, 39, 40, 41, 42, 43, 44, 45, 46, 47] (by decide +kernel) (by decide +kernel)
set_option maxRecDepth 20000 in
theorem gX5_read_X5_isSign : GoodIn wsX5_read (wsV RX5 140 RX5 yX5_isSign wsX5_isSign) := goodIn_app (goodIn_of _ (by decide +kernel)) ggX5_read_X5_isSign
set_option maxRecDepth 20000 in
theorem ggX5_read_X5_kindOf : GoodIn wsX5_read wsX5_kindOf := goodIn_r _ [18] (by decide +kernel) (by decide +kernel)
set_option maxRecDepth 20000 in
theorem gX5_read_X5_kindOf : GoodIn wsX5_read (va_wsS RX5 115 yX5_kindOf wsX5_kindOf) := goodIn_app (goodIn_of _ (by decide +kernel)) ggX5_read_X5_kindOf
theorem dX5_read_0 : decode cX5_read 0 = .ok (.aload_n 0, 1) := by decide +kernel
theorem dX5_read_1 : decode cX5_read 1 = .ok (.iload_n 1, 1) := by decide +kernel
theorem dX5_read_2 : decode cX5_read 2 = .ok (.invokevirtual 152, 3) := by decide +kernel
theorem dX5_read_5 : decode cX5_read 5 = .ok (.ifCond .eq 17, 3) := by decide +kernel
theorem dX5_read_8 : decode cX5_read 8 = .ok (.aload_n 0, 1) := by decide +kernel
theorem dX5_read_9 : decode cX5_read 9 = .ok (.iload_n 2, 1) := by decide +kernel
theorem dX5_read_10 : decode cX5_read 10 = .ok (.invokevirtual 140, 3) := by decide +kernel
theorem dX5_read_13 : decode cX5_read 13 = .ok (.ifCond .ne 11, 3) := by decide +kernel
theorem dX5_read_16 : decode cX5_read 16 = .ok (.iload_n 2, 1) := by decide +kernel
theorem dX5_read_17 : decode cX5_read 17 = .ok (.bipush 98, 2) := by decide +kernel
theorem dX5_read_19 : decode cX5_read 19 = .ok (.if_icmp .eq 5, 3) := by decide +kernel
theorem dX5_read_22 : decode cX5_read 22 = .ok (.iconst (-1), 1) := by decide +kernel
theorem dX5_read_23 : decode cX5_read 23 = .ok (.ireturn, 1) := by decide +kernel
theorem dX5_read_24 : decode cX5_read 24 = .ok (.aload_n 0, 1) := by decide +kernel
theorem dX5_read_25 : decode cX5_read 25 = .ok (.getfield 38, 3) := by decide +kernel
theorem dX5_read_28 : decode cX5_read 28 = .ok (.bipush 18, 2) := by decide +kernel
theorem dX5_read_30 : decode cX5_read 30 = .ok (.iload_n 1, 1) := by decide +kernel
theorem dX5_read_31 : decode cX5_read 31 = .ok (.imul, 1) := by decide +kernel
theorem dX5_read_32 : decode cX5_read 32 = .ok (.bipush 17, 2) := by decide +kernel
theorem dX5_read_34 : decode cX5_read 34 = .ok (.iadd, 1) := by decide +kernel
theorem dX5_read_35 : decode cX5_read 35 = .ok (.iaload, 1) := by decide +kernel
theorem dX5_read_36 : decode cX5_read 36 = .ok (.ifCond .ne 6, 3) := by decide +kernel
theorem dX5_read_39 : decode cX5_read 39 = .ok (.bipush (-2), 2) := by decide +kernel
theorem dX5_read_41 : decode cX5_read 41 = .ok (.ireturn, 1) := by decide +kernel
theorem dX5_read_42 : decode cX5_read 42 = .ok (.aload_n 0, 1) := by decide +kernel
theorem dX5_read_43 : decode cX5_read 43 = .ok (.getfield 38, 3) := by decide +kernel
theorem dX5_read_46 : decode cX5_read 46 = .ok (.bipush 18, 2) := by decide +kernel
theorem dX5_read_48 : decode cX5_read 48 = .ok (.iload_n 1, 1) := by decide +kernel
theorem dX5_read_49 : decode cX5_read 49 = .ok (.imul, 1) := by decide +kernel
theorem dX5_read_50 : decode cX5_read 50 = .ok (.bipush 17, 2) := by decide +kernel
theorem dX5_read_52 : decode cX5_read 52 = .ok (.iadd, 1) := by decide +kernel
theorem dX5_read_53 : decode cX5_read 53 = .ok (.dup2, 1) := by decide +kernel
theorem dX5_read_54 : decode cX5_read 54 = .ok (.iaload, 1) := by decide +kernel
theorem dX5_read_55 : decode cX5_read 55 = .ok (.iconst 1, 1) := by decide +kernel
theorem dX5_read_56 : decode cX5_read 56 = .ok (.isub, 1) := by decide +kernel
theorem dX5_read_57 : decode cX5_read 57 = .ok (.iastore, 1) := by decide +kernel
theorem dX5_read_58 : decode cX5_read 58 = .ok (.aload_n 0, 1) := by decide +kernel
theorem dX5_read_59 : decode cX5_read 59 = .ok (.getfield 38, 3) := by decide +kernel
theorem dX5_read_62 : decode cX5_read 62 = .ok (.bipush 18, 2) := by decide +kernel
theorem dX5_read_64 : decode cX5_read 64 = .ok (.iload_n 1, 1) := by decide +kernel
theorem dX5_read_65 : decode cX5_read 65 = .ok (.imul, 1) := by decide +kernel
theorem dX5_read_66 : decode cX5_read 66 = .ok (.iload_n 2, 1) := by decide +kernel
theorem dX5_read_67 : decode cX5_read 67 = .ok (.invokestatic 115, 3) := by decide +kernel
theorem dX5_read_70 : decode cX5_read 70 = .ok (.iadd, 1) := by decide +kernel
theorem dX5_read_71 : decode cX5_read 71 = .ok (.dup2, 1) := by decide +kernel
theorem dX5_read_72 : decode cX5_read 72 = .ok (.iaload, 1) := by decide +kernel
theorem dX5_read_73 : decode cX5_read 73 = .ok (.iconst 1, 1) := by decide +kernel
theorem dX5_read_74 : decode cX5_read 74 = .ok (.iadd, 1) := by decide +kernel
theorem dX5_read_75 : decode cX5_read 75 = .ok (.iastore, 1) := by decide +kernel
theorem dX5_read_76 : decode cX5_read 76 = .ok (.aload_n 0, 1) := by decide +kernel
theorem dX5_read_77 : decode cX5_read 77 = .ok (.getfield 38, 3) := by decide +kernel
theorem dX5_read_80 : decode cX5_read 80 = .ok (.bipush 18, 2) := by decide +kernel
theorem dX5_read_82 : decode cX5_read 82 = .ok (.iload_n 1, 1) := by decide +kernel
theorem dX5_read_83 : decode cX5_read 83 = .ok (.imul, 1) := by decide +kernel
theorem dX5_read_84 : decode cX5_read 84 = .ok (.bipush 17, 2) := by decide +kernel
theorem dX5_read_86 : decode cX5_read 86 = .ok (.iadd, 1) := by decide +kernel
theorem dX5_read_87 : decode cX5_read 87 = .ok (.iaload, 1) := by decide +kernel
theorem dX5_read_88 : decode cX5_read 88 = .ok (.ireturn, 1) := by decide +kernel
set_option maxRecDepth 20000 in
theorem ggX5_areTwo_X5_isPart : GoodIn wsX5_areTwo wsX5_isPart := goodIn_r _ [5, 6, 7, 8, 4, 9, 10, 11, 12, 13, 14, 15, 16, 17, 18, 19, 20, 21, 22, 23, 24, 25, 26, 27, 28, 29, 30, 31, 32, 33, 34, 35, 36, 37, 38, 39, 40, 41, 42, 43, 44] (by decide +kernel) (by decide +kernel)
set_option maxRecDepth 20000 in
theorem gX5_areTwo_X5_isPart : GoodIn wsX5_areTwo (wsV RX5 158 RX5 yX5_isPart wsX5_isPart) := goodIn_app (goodIn_of _ (by decide +kernel)) ggX5_areTwo_X5_isPart
theorem dX5_areTwo_0 : decode cX5_areTwo 0 = .ok (.aload_n 0, 1) := by decide +kernel
theorem dX5_areTwo_1 : decode cX5_areTwo 1 = .ok (.iload_n 1, 1) := by decide +kernel
theorem dX5_areTwo_2 : decode cX5_areTwo 2 = .ok (.invokevirtual 158, 3) := by decide +kernel
theorem dX5_areTwo_5 : decode cX5_areTwo 5 = .ok (.ifCond .eq 20, 3) := by decide +kernel
theorem dX5_areTwo_8 : decode cX5_areTwo 8 = .ok (.aload_n 0, 1) := by decide +kernel
theorem dX5_areTwo_9 : decode cX5_areTwo 9 = .ok (.iload_n 2, 1) := by decide +kernel
theorem dX5_areTwo_10 : decode cX5_areTwo 10 = .ok (.invokevirtual 158, 3) := by decide +kernel
theorem dX5_areTwo_13 : decode cX5_areTwo 13 = .ok (.ifCond .eq 12, 3) := by decide +kernel
theorem dX5_areTwo_16 : decode cX5_areTwo 16 = .ok (.iload_n 1, 1) := by decide +kernel
theorem dX5_areTwo_17 : decode cX5_areTwo 17 = .ok (.iload_n 2, 1) := by decide +kernel
theorem dX5_areTwo_18 : decode cX5_areTwo 18 = .ok (.if_icmp .eq 7, 3) := by decide +kernel
theorem dX5_areTwo_21 : decode cX5_areTwo 21 = .ok (.iconst 1, 1) := by decide +kernel
theorem dX5_areTwo_22 : decode cX5_areTwo 22 = .ok (.goto 4, 3) := by decide +kernel
theorem dX5_areTwo_25 : decode cX5_areTwo 25 = .ok (.iconst 0, 1) := by decide +kernel
theorem dX5_areTwo_26 : decode cX5_areTwo 26 = .ok (.ireturn, 1) := by decide +kernel
set_option maxRecDepth 20000 in
theorem ggX5_alike_X5_areTwo : GoodIn wsX5_alike wsX5_areTwo := goodIn_r _ [7, 8, 9, 10, 6, 11, 12, 13, 14, 15, 16, 17, 18, 19, 20, 21, 27, 28, 29, 30, 31, 32, 33, 34, 35, 36, 37, 38, 39, 40, 41, 42, 43, 44, 45, 46, 47, 48, 49, 50, 51, 52, 53, 54, 55] (by decide +kernel) (by decide +kernel)
set_option maxRecDepth 20000 in
theorem gX5_alike_X5_areTwo : GoodIn wsX5_alike (wsV RX5 164 RX5 yX5_areTwo wsX5_areTwo) := goodIn_app (goodIn_of _ (by decide +kernel)) ggX5_alike_X5_areTwo
set_option maxRecDepth 20000 in
theorem ggX5_alike_X5_partsOf : GoodIn wsX5_alike wsX5_partsOf := goodIn_r _ [25, 20, 26, 21, 27, 28, 29, 30, 31, 32, 33, 34, 35, 36, 37, 38, 39, 40, 41, 42, 43, 44, 45, 46, 47, 48, 49, 50, 51, 52, 53, 54, 55] (by decide +kernel) (by decide +kernel)
set_option maxRecDepth 20000 in
theorem gX5_alike_X5_partsOf : GoodIn wsX5_alike (wsV RX5 149 RX5 yX5_partsOf wsX5_partsOf) := goodIn_app (goodIn_of _ (by decide +kernel)) ggX5_alike_X5_partsOf
theorem dX5_alike_0 : decode cX5_alike 0 = .ok (.aload_n 0, 1) := by decide +kernel
theorem dX5_alike_1 : decode cX5_alike 1 = .ok (.iload_n 1, 1) := by decide +kernel
theorem dX5_alike_2 : decode cX5_alike 2 = .ok (.iload_n 2, 1) := by decide +kernel
theorem dX5_alike_3 : decode cX5_alike 3 = .ok (.invokevirtual 164, 3) := by decide +kernel
theorem dX5_alike_6 : decode cX5_alike 6 = .ok (.ifCond .ne 5, 3) := by decide +kernel
theorem dX5_alike_9 : decode cX5_alike 9 = .ok (.iconst (-1), 1) := by decide +kernel
theorem dX5_alike_10 : decode cX5_alike 10 = .ok (.ireturn, 1) := by decide +kernel
theorem dX5_alike_11 : decode cX5_alike 11 = .ok (.iconst 0, 1) := by decide +kernel
theorem dX5_alike_12 : decode cX5_alike 12 = .ok (.istore_n 3, 1) := by decide +kernel
theorem dX5_alike_13 : decode cX5_alike 13 = .ok (.iconst 0, 1) := by decide +kernel
theorem dX5_alike_14 : decode cX5_alike 14 = .ok (.istore 4, 2) := by decide +kernel
theorem dX5_alike_16 : decode cX5_alike 16 = .ok (.iconst 0, 1) := by decide +kernel
theorem dX5_alike_17 : decode cX5_alike 17 = .ok (.istore 5, 2) := by decide +kernel
theorem dX5_alike_19 : decode cX5_alike 19 = .ok (.iload 5, 2) := by decide +kernel
theorem dX5_alike_21 : decode cX5_alike 21 = .ok (.aload_n 0, 1) := by decide +kernel
theorem dX5_alike_22 : decode cX5_alike 22 = .ok (.getfield 13, 3) := by decide +kernel
theorem dX5_alike_25 : decode cX5_alike 25 = .ok (.iconst 0, 1) := by decide +kernel
theorem dX5_alike_26 : decode cX5_alike 26 = .ok (.iaload, 1) := by decide +kernel
theorem dX5_alike_27 : decode cX5_alike 27 = .ok (.if_icmp .ge 105, 3) := by decide +kernel
theorem dX5_alike_30 : decode cX5_alike 30 = .ok (.aload_n 0, 1) := by decide +kernel
theorem dX5_alike_31 : decode cX5_alike 31 = .ok (.iload 5, 2) := by decide +kernel
theorem dX5_alike_33 : decode cX5_alike 33 = .ok (.invokevirtual 149, 3) := by decide +kernel
theorem dX5_alike_36 : decode cX5_alike 36 = .ok (.iload_n 1, 1) := by decide +kernel
theorem dX5_alike_37 : decode cX5_alike 37 = .ok (.ishr, 1) := by decide +kernel
theorem dX5_alike_38 : decode cX5_alike 38 = .ok (.iconst 1, 1) := by decide +kernel
theorem dX5_alike_39 : decode cX5_alike 39 = .ok (.iand, 1) := by decide +kernel
theorem dX5_alike_40 : decode cX5_alike 40 = .ok (.iconst 1, 1) := by decide +kernel
theorem dX5_alike_41 : decode cX5_alike 41 = .ok (.if_icmp .ne 7, 3) := by decide +kernel
theorem dX5_alike_44 : decode cX5_alike 44 = .ok (.iconst 1, 1) := by decide +kernel
theorem dX5_alike_45 : decode cX5_alike 45 = .ok (.goto 4, 3) := by decide +kernel
theorem dX5_alike_48 : decode cX5_alike 48 = .ok (.iconst 0, 1) := by decide +kernel
theorem dX5_alike_49 : decode cX5_alike 49 = .ok (.istore 6, 2) := by decide +kernel
theorem dX5_alike_51 : decode cX5_alike 51 = .ok (.aload_n 0, 1) := by decide +kernel
theorem dX5_alike_52 : decode cX5_alike 52 = .ok (.iload 5, 2) := by decide +kernel
theorem dX5_alike_54 : decode cX5_alike 54 = .ok (.invokevirtual 149, 3) := by decide +kernel
theorem dX5_alike_57 : decode cX5_alike 57 = .ok (.iload_n 2, 1) := by decide +kernel
theorem dX5_alike_58 : decode cX5_alike 58 = .ok (.ishr, 1) := by decide +kernel
theorem dX5_alike_59 : decode cX5_alike 59 = .ok (.iconst 1, 1) := by decide +kernel
theorem dX5_alike_60 : decode cX5_alike 60 = .ok (.iand, 1) := by decide +kernel
theorem dX5_alike_61 : decode cX5_alike 61 = .ok (.iconst 1, 1) := by decide +kernel
theorem dX5_alike_62 : decode cX5_alike 62 = .ok (.if_icmp .ne 7, 3) := by decide +kernel
theorem dX5_alike_65 : decode cX5_alike 65 = .ok (.iconst 1, 1) := by decide +kernel
theorem dX5_alike_66 : decode cX5_alike 66 = .ok (.goto 4, 3) := by decide +kernel
theorem dX5_alike_69 : decode cX5_alike 69 = .ok (.iconst 0, 1) := by decide +kernel
theorem dX5_alike_70 : decode cX5_alike 70 = .ok (.istore 7, 2) := by decide +kernel
theorem dX5_alike_72 : decode cX5_alike 72 = .ok (.iload_n 3, 1) := by decide +kernel
theorem dX5_alike_73 : decode cX5_alike 73 = .ok (.iload 6, 2) := by decide +kernel
theorem dX5_alike_75 : decode cX5_alike 75 = .ok (.ifCond .eq 20, 3) := by decide +kernel
theorem dX5_alike_78 : decode cX5_alike 78 = .ok (.iload 7, 2) := by decide +kernel
theorem dX5_alike_80 : decode cX5_alike 80 = .ok (.ifCond .eq 15, 3) := by decide +kernel
theorem dX5_alike_83 : decode cX5_alike 83 = .ok (.aload_n 0, 1) := by decide +kernel
theorem dX5_alike_84 : decode cX5_alike 84 = .ok (.getfield 17, 3) := by decide +kernel
theorem dX5_alike_87 : decode cX5_alike 87 = .ok (.iconst 2, 1) := by decide +kernel
theorem dX5_alike_88 : decode cX5_alike 88 = .ok (.iload 5, 2) := by decide +kernel
theorem dX5_alike_90 : decode cX5_alike 90 = .ok (.imul, 1) := by decide +kernel
theorem dX5_alike_91 : decode cX5_alike 91 = .ok (.iaload, 1) := by decide +kernel
theorem dX5_alike_92 : decode cX5_alike 92 = .ok (.goto 4, 3) := by decide +kernel
theorem dX5_alike_95 : decode cX5_alike 95 = .ok (.iconst 0, 1) := by decide +kernel
theorem dX5_alike_96 : decode cX5_alike 96 = .ok (.iadd, 1) := by decide +kernel
theorem dX5_alike_97 : decode cX5_alike 97 = .ok (.istore_n 3, 1) := by decide +kernel
theorem dX5_alike_98 : decode cX5_alike 98 = .ok (.iload 4, 2) := by decide +kernel
theorem dX5_alike_100 : decode cX5_alike 100 = .ok (.iload 6, 2) := by decide +kernel
theorem dX5_alike_102 : decode cX5_alike 102 = .ok (.ifCond .ne 8, 3) := by decide +kernel
theorem dX5_alike_105 : decode cX5_alike 105 = .ok (.iload 7, 2) := by decide +kernel
theorem dX5_alike_107 : decode cX5_alike 107 = .ok (.ifCond .eq 15, 3) := by decide +kernel
theorem dX5_alike_110 : decode cX5_alike 110 = .ok (.aload_n 0, 1) := by decide +kernel
theorem dX5_alike_111 : decode cX5_alike 111 = .ok (.getfield 17, 3) := by decide +kernel
theorem dX5_alike_114 : decode cX5_alike 114 = .ok (.iconst 2, 1) := by decide +kernel
theorem dX5_alike_115 : decode cX5_alike 115 = .ok (.iload 5, 2) := by decide +kernel
theorem dX5_alike_117 : decode cX5_alike 117 = .ok (.imul, 1) := by decide +kernel
theorem dX5_alike_118 : decode cX5_alike 118 = .ok (.iaload, 1) := by decide +kernel
theorem dX5_alike_119 : decode cX5_alike 119 = .ok (.goto 4, 3) := by decide +kernel
theorem dX5_alike_122 : decode cX5_alike 122 = .ok (.iconst 0, 1) := by decide +kernel
theorem dX5_alike_123 : decode cX5_alike 123 = .ok (.iadd, 1) := by decide +kernel
theorem dX5_alike_124 : decode cX5_alike 124 = .ok (.istore 4, 2) := by decide +kernel
theorem dX5_alike_126 : decode cX5_alike 126 = .ok (.iinc 5 1, 3) := by decide +kernel
theorem dX5_alike_129 : decode cX5_alike 129 = .ok (.goto (-110), 3) := by decide +kernel
theorem dX5_alike_132 : decode cX5_alike 132 = .ok (.iload 4, 2) := by decide +kernel
theorem dX5_alike_134 : decode cX5_alike 134 = .ok (.ifCond .ne 7, 3) := by decide +kernel
theorem dX5_alike_137 : decode cX5_alike 137 = .ok (.iconst 0, 1) := by decide +kernel
theorem dX5_alike_138 : decode cX5_alike 138 = .ok (.goto 11, 3) := by decide +kernel
theorem dX5_alike_141 : decode cX5_alike 141 = .ok (.sipush 1000, 3) := by decide +kernel
theorem dX5_alike_144 : decode cX5_alike 144 = .ok (.iload_n 3, 1) := by decide +kernel
theorem dX5_alike_145 : decode cX5_alike 145 = .ok (.imul, 1) := by decide +kernel
theorem dX5_alike_146 : decode cX5_alike 146 = .ok (.iload 4, 2) := by decide +kernel
theorem dX5_alike_148 : decode cX5_alike 148 = .ok (.idiv, 1) := by decide +kernel
theorem dX5_alike_149 : decode cX5_alike 149 = .ok (.ireturn, 1) := by decide +kernel
theorem dX5_choose_0 : decode cX5_choose 0 = .ok (.iload_n 1, 1) := by decide +kernel
theorem dX5_choose_1 : decode cX5_choose 1 = .ok (.ifCond .lt 8, 3) := by decide +kernel
theorem dX5_choose_4 : decode cX5_choose 4 = .ok (.iload_n 1, 1) := by decide +kernel
theorem dX5_choose_5 : decode cX5_choose 5 = .ok (.iload_n 0, 1) := by decide +kernel
theorem dX5_choose_6 : decode cX5_choose 6 = .ok (.if_icmp .le 5, 3) := by decide +kernel
theorem dX5_choose_9 : decode cX5_choose 9 = .ok (.lconst 0, 1) := by decide +kernel
theorem dX5_choose_10 : decode cX5_choose 10 = .ok (.lreturn, 1) := by decide +kernel
theorem dX5_choose_11 : decode cX5_choose 11 = .ok (.lconst 1, 1) := by decide +kernel
theorem dX5_choose_12 : decode cX5_choose 12 = .ok (.lstore_n 2, 1) := by decide +kernel
theorem dX5_choose_13 : decode cX5_choose 13 = .ok (.iconst 1, 1) := by decide +kernel
theorem dX5_choose_14 : decode cX5_choose 14 = .ok (.istore 4, 2) := by decide +kernel
theorem dX5_choose_16 : decode cX5_choose 16 = .ok (.iload 4, 2) := by decide +kernel
theorem dX5_choose_18 : decode cX5_choose 18 = .ok (.iload_n 1, 1) := by decide +kernel
theorem dX5_choose_19 : decode cX5_choose 19 = .ok (.if_icmp .gt 23, 3) := by decide +kernel
theorem dX5_choose_22 : decode cX5_choose 22 = .ok (.lload_n 2, 1) := by decide +kernel
theorem dX5_choose_23 : decode cX5_choose 23 = .ok (.iload_n 0, 1) := by decide +kernel
theorem dX5_choose_24 : decode cX5_choose 24 = .ok (.iload_n 1, 1) := by decide +kernel
theorem dX5_choose_25 : decode cX5_choose 25 = .ok (.isub, 1) := by decide +kernel
theorem dX5_choose_26 : decode cX5_choose 26 = .ok (.iload 4, 2) := by decide +kernel
theorem dX5_choose_28 : decode cX5_choose 28 = .ok (.iadd, 1) := by decide +kernel
theorem dX5_choose_29 : decode cX5_choose 29 = .ok (.i2l, 1) := by decide +kernel
theorem dX5_choose_30 : decode cX5_choose 30 = .ok (.lmul, 1) := by decide +kernel
theorem dX5_choose_31 : decode cX5_choose 31 = .ok (.iload 4, 2) := by decide +kernel
theorem dX5_choose_33 : decode cX5_choose 33 = .ok (.i2l, 1) := by decide +kernel
theorem dX5_choose_34 : decode cX5_choose 34 = .ok (.ldiv, 1) := by decide +kernel
theorem dX5_choose_35 : decode cX5_choose 35 = .ok (.lstore_n 2, 1) := by decide +kernel
theorem dX5_choose_36 : decode cX5_choose 36 = .ok (.iinc 4 1, 3) := by decide +kernel
theorem dX5_choose_39 : decode cX5_choose 39 = .ok (.goto (-23), 3) := by decide +kernel
theorem dX5_choose_42 : decode cX5_choose 42 = .ok (.lload_n 2, 1) := by decide +kernel
theorem dX5_choose_43 : decode cX5_choose 43 = .ok (.lreturn, 1) := by decide +kernel
theorem dX5_lowest_0 : decode cX5_lowest 0 = .ok (.lload_n 1, 1) := by decide +kernel
theorem dX5_lowest_1 : decode cX5_lowest 1 = .ok (.lstore 5, 2) := by decide +kernel
theorem dX5_lowest_3 : decode cX5_lowest 3 = .ok (.lload_n 3, 1) := by decide +kernel
theorem dX5_lowest_4 : decode cX5_lowest 4 = .ok (.lstore 7, 2) := by decide +kernel
theorem dX5_lowest_6 : decode cX5_lowest 6 = .ok (.lload 7, 2) := by decide +kernel
theorem dX5_lowest_8 : decode cX5_lowest 8 = .ok (.lconst 0, 1) := by decide +kernel
theorem dX5_lowest_9 : decode cX5_lowest 9 = .ok (.lcmp, 1) := by decide +kernel
theorem dX5_lowest_10 : decode cX5_lowest 10 = .ok (.ifCond .eq 21, 3) := by decide +kernel
theorem dX5_lowest_13 : decode cX5_lowest 13 = .ok (.lload 5, 2) := by decide +kernel
theorem dX5_lowest_15 : decode cX5_lowest 15 = .ok (.lload 7, 2) := by decide +kernel
theorem dX5_lowest_17 : decode cX5_lowest 17 = .ok (.lrem, 1) := by decide +kernel
theorem dX5_lowest_18 : decode cX5_lowest 18 = .ok (.lstore 9, 2) := by decide +kernel
theorem dX5_lowest_20 : decode cX5_lowest 20 = .ok (.lload 7, 2) := by decide +kernel
theorem dX5_lowest_22 : decode cX5_lowest 22 = .ok (.lstore 5, 2) := by decide +kernel
theorem dX5_lowest_24 : decode cX5_lowest 24 = .ok (.lload 9, 2) := by decide +kernel
theorem dX5_lowest_26 : decode cX5_lowest 26 = .ok (.lstore 7, 2) := by decide +kernel
theorem dX5_lowest_28 : decode cX5_lowest 28 = .ok (.goto (-22), 3) := by decide +kernel
theorem dX5_lowest_31 : decode cX5_lowest 31 = .ok (.aload_n 0, 1) := by decide +kernel
theorem dX5_lowest_32 : decode cX5_lowest 32 = .ok (.lload_n 1, 1) := by decide +kernel
theorem dX5_lowest_33 : decode cX5_lowest 33 = .ok (.lload 5, 2) := by decide +kernel
theorem dX5_lowest_35 : decode cX5_lowest 35 = .ok (.ldiv, 1) := by decide +kernel
theorem dX5_lowest_36 : decode cX5_lowest 36 = .ok (.putfield 167, 3) := by decide +kernel
theorem dX5_lowest_39 : decode cX5_lowest 39 = .ok (.aload_n 0, 1) := by decide +kernel
theorem dX5_lowest_40 : decode cX5_lowest 40 = .ok (.lload_n 3, 1) := by decide +kernel
theorem dX5_lowest_41 : decode cX5_lowest 41 = .ok (.lload 5, 2) := by decide +kernel
theorem dX5_lowest_43 : decode cX5_lowest 43 = .ok (.ldiv, 1) := by decide +kernel
theorem dX5_lowest_44 : decode cX5_lowest 44 = .ok (.putfield 171, 3) := by decide +kernel
theorem dX5_lowest_47 : decode cX5_lowest 47 = .ok (.return_, 1) := by decide +kernel
set_option maxRecDepth 20000 in
theorem ggX5_chance_X5_areTwo : GoodIn wsX5_chance wsX5_areTwo := goodIn_r _ [10, 11, 12, 13, 9, 14, 15, 16, 17, 18, 19, 20, 21, 22, 23, 24, 37, 38, 39, 40, 41, 42, 43, 44, 45, 46, 47, 48, 49, 50, 51, 52, 53, 54, 55, 56, 57, 58, 59, 60, 61, 62, 63, 64, 65] (by decide +kernel) (by decide +kernel)
set_option maxRecDepth 20000 in
theorem gX5_chance_X5_areTwo : GoodIn wsX5_chance (wsV RX5 164 RX5 yX5_areTwo wsX5_areTwo) := goodIn_app (goodIn_of _ (by decide +kernel)) ggX5_chance_X5_areTwo
set_option maxRecDepth 20000 in
theorem ggX5_chance_X5_between : GoodIn wsX5_chance wsX5_between := goodIn_r _ [18] (by decide +kernel) (by decide +kernel)
set_option maxRecDepth 20000 in
theorem gX5_chance_X5_between : GoodIn wsX5_chance (va_wsS RX5 74 yX5_between wsX5_between) := goodIn_app (goodIn_of _ (by decide +kernel)) ggX5_chance_X5_between
set_option maxRecDepth 20000 in
theorem ggX5_chance_X5_partsOf : GoodIn wsX5_chance wsX5_partsOf := goodIn_r _ [28, 23, 29, 24, 37, 38, 39, 40, 41, 42, 43, 44, 45, 46, 47, 48, 49, 50, 51, 52, 53, 54, 55, 56, 57, 58, 59, 60, 61, 62, 63, 64, 65] (by decide +kernel) (by decide +kernel)
set_option maxRecDepth 20000 in
theorem gX5_chance_X5_partsOf : GoodIn wsX5_chance (wsV RX5 149 RX5 yX5_partsOf wsX5_partsOf) := goodIn_app (goodIn_of _ (by decide +kernel)) ggX5_chance_X5_partsOf
set_option maxRecDepth 20000 in
theorem ggX5_chance_X5_choose : GoodIn wsX5_chance wsX5_choose := goodIn_r _ [32] (by decide +kernel) (by decide +kernel)
set_option maxRecDepth 20000 in
theorem gX5_chance_X5_choose : GoodIn wsX5_chance (va_wsS RX5 178 yX5_choose wsX5_choose) := goodIn_app (goodIn_of _ (by decide +kernel)) ggX5_chance_X5_choose
set_option maxRecDepth 20000 in
theorem ggX5_chance_X5_lowest : GoodIn wsX5_chance wsX5_lowest := goodIn_r _ [36, 4, 5, 37, 38, 39, 40, 41, 42, 43, 44, 45, 46, 47, 48, 49, 50, 51, 52, 53, 54, 55, 56, 57, 58, 59, 60, 61, 62, 63, 64, 65] (by decide +kernel) (by decide +kernel)
set_option maxRecDepth 20000 in
theorem gX5_chance_X5_lowest : GoodIn wsX5_chance (wsV RX5 182 RX5 yX5_lowest wsX5_lowest) := goodIn_app (goodIn_of _ (by decide +kernel)) ggX5_chance_X5_lowest
theorem dX5_chance_0 : decode cX5_chance 0 = .ok (.aload_n 0, 1) := by decide +kernel
theorem dX5_chance_1 : decode cX5_chance 1 = .ok (.iload_n 1, 1) := by decide +kernel
theorem dX5_chance_2 : decode cX5_chance 2 = .ok (.iload_n 2, 1) := by decide +kernel
theorem dX5_chance_3 : decode cX5_chance 3 = .ok (.invokevirtual 164, 3) := by decide +kernel
theorem dX5_chance_6 : decode cX5_chance 6 = .ok (.ifCond .eq 15, 3) := by decide +kernel
theorem dX5_chance_9 : decode cX5_chance 9 = .ok (.iload_n 3, 1) := by decide +kernel
theorem dX5_chance_10 : decode cX5_chance 10 = .ok (.i2l, 1) := by decide +kernel
theorem dX5_chance_11 : decode cX5_chance 11 = .ok (.lconst 0, 1) := by decide +kernel
theorem dX5_chance_12 : decode cX5_chance 12 = .ok (.ldc2_w 174, 3) := by decide +kernel
theorem dX5_chance_15 : decode cX5_chance 15 = .ok (.invokestatic 74, 3) := by decide +kernel
theorem dX5_chance_18 : decode cX5_chance 18 = .ok (.ifCond .ne 7, 3) := by decide +kernel
theorem dX5_chance_21 : decode cX5_chance 21 = .ok (.ldc2_w 176, 3) := by decide +kernel
theorem dX5_chance_24 : decode cX5_chance 24 = .ok (.lreturn, 1) := by decide +kernel
theorem dX5_chance_25 : decode cX5_chance 25 = .ok (.iconst 0, 1) := by decide +kernel
theorem dX5_chance_26 : decode cX5_chance 26 = .ok (.istore 4, 2) := by decide +kernel
theorem dX5_chance_28 : decode cX5_chance 28 = .ok (.iconst 0, 1) := by decide +kernel
theorem dX5_chance_29 : decode cX5_chance 29 = .ok (.istore 5, 2) := by decide +kernel
theorem dX5_chance_31 : decode cX5_chance 31 = .ok (.iconst 0, 1) := by decide +kernel
theorem dX5_chance_32 : decode cX5_chance 32 = .ok (.istore 6, 2) := by decide +kernel
theorem dX5_chance_34 : decode cX5_chance 34 = .ok (.iconst 0, 1) := by decide +kernel
theorem dX5_chance_35 : decode cX5_chance 35 = .ok (.istore 7, 2) := by decide +kernel
theorem dX5_chance_37 : decode cX5_chance 37 = .ok (.iload 7, 2) := by decide +kernel
theorem dX5_chance_39 : decode cX5_chance 39 = .ok (.aload_n 0, 1) := by decide +kernel
theorem dX5_chance_40 : decode cX5_chance 40 = .ok (.getfield 13, 3) := by decide +kernel
theorem dX5_chance_43 : decode cX5_chance 43 = .ok (.iconst 0, 1) := by decide +kernel
theorem dX5_chance_44 : decode cX5_chance 44 = .ok (.iaload, 1) := by decide +kernel
theorem dX5_chance_45 : decode cX5_chance 45 = .ok (.if_icmp .ge 57, 3) := by decide +kernel
theorem dX5_chance_48 : decode cX5_chance 48 = .ok (.aload_n 0, 1) := by decide +kernel
theorem dX5_chance_49 : decode cX5_chance 49 = .ok (.iload 7, 2) := by decide +kernel
theorem dX5_chance_51 : decode cX5_chance 51 = .ok (.invokevirtual 149, 3) := by decide +kernel
theorem dX5_chance_54 : decode cX5_chance 54 = .ok (.iload_n 1, 1) := by decide +kernel
theorem dX5_chance_55 : decode cX5_chance 55 = .ok (.ishr, 1) := by decide +kernel
theorem dX5_chance_56 : decode cX5_chance 56 = .ok (.iconst 1, 1) := by decide +kernel
theorem dX5_chance_57 : decode cX5_chance 57 = .ok (.iand, 1) := by decide +kernel
theorem dX5_chance_58 : decode cX5_chance 58 = .ok (.istore 8, 2) := by decide +kernel
theorem dX5_chance_60 : decode cX5_chance 60 = .ok (.aload_n 0, 1) := by decide +kernel
theorem dX5_chance_61 : decode cX5_chance 61 = .ok (.iload 7, 2) := by decide +kernel
theorem dX5_chance_63 : decode cX5_chance 63 = .ok (.invokevirtual 149, 3) := by decide +kernel
theorem dX5_chance_66 : decode cX5_chance 66 = .ok (.iload_n 2, 1) := by decide +kernel
theorem dX5_chance_67 : decode cX5_chance 67 = .ok (.ishr, 1) := by decide +kernel
theorem dX5_chance_68 : decode cX5_chance 68 = .ok (.iconst 1, 1) := by decide +kernel
theorem dX5_chance_69 : decode cX5_chance 69 = .ok (.iand, 1) := by decide +kernel
theorem dX5_chance_70 : decode cX5_chance 70 = .ok (.istore 9, 2) := by decide +kernel
theorem dX5_chance_72 : decode cX5_chance 72 = .ok (.iload 4, 2) := by decide +kernel
theorem dX5_chance_74 : decode cX5_chance 74 = .ok (.iload 8, 2) := by decide +kernel
theorem dX5_chance_76 : decode cX5_chance 76 = .ok (.iadd, 1) := by decide +kernel
theorem dX5_chance_77 : decode cX5_chance 77 = .ok (.istore 4, 2) := by decide +kernel
theorem dX5_chance_79 : decode cX5_chance 79 = .ok (.iload 5, 2) := by decide +kernel
theorem dX5_chance_81 : decode cX5_chance 81 = .ok (.iload 9, 2) := by decide +kernel
theorem dX5_chance_83 : decode cX5_chance 83 = .ok (.iadd, 1) := by decide +kernel
theorem dX5_chance_84 : decode cX5_chance 84 = .ok (.istore 5, 2) := by decide +kernel
theorem dX5_chance_86 : decode cX5_chance 86 = .ok (.iload 6, 2) := by decide +kernel
theorem dX5_chance_88 : decode cX5_chance 88 = .ok (.iload 8, 2) := by decide +kernel
theorem dX5_chance_90 : decode cX5_chance 90 = .ok (.iload 9, 2) := by decide +kernel
theorem dX5_chance_92 : decode cX5_chance 92 = .ok (.imul, 1) := by decide +kernel
theorem dX5_chance_93 : decode cX5_chance 93 = .ok (.iadd, 1) := by decide +kernel
theorem dX5_chance_94 : decode cX5_chance 94 = .ok (.istore 6, 2) := by decide +kernel
theorem dX5_chance_96 : decode cX5_chance 96 = .ok (.iinc 7 1, 3) := by decide +kernel
theorem dX5_chance_99 : decode cX5_chance 99 = .ok (.goto (-62), 3) := by decide +kernel
theorem dX5_chance_102 : decode cX5_chance 102 = .ok (.lconst 0, 1) := by decide +kernel
theorem dX5_chance_103 : decode cX5_chance 103 = .ok (.lstore 7, 2) := by decide +kernel
theorem dX5_chance_105 : decode cX5_chance 105 = .ok (.iload 6, 2) := by decide +kernel
theorem dX5_chance_107 : decode cX5_chance 107 = .ok (.istore 9, 2) := by decide +kernel
theorem dX5_chance_109 : decode cX5_chance 109 = .ok (.iload 9, 2) := by decide +kernel
theorem dX5_chance_111 : decode cX5_chance 111 = .ok (.iload 5, 2) := by decide +kernel
theorem dX5_chance_113 : decode cX5_chance 113 = .ok (.if_icmp .gt 39, 3) := by decide +kernel
theorem dX5_chance_116 : decode cX5_chance 116 = .ok (.lload 7, 2) := by decide +kernel
theorem dX5_chance_118 : decode cX5_chance 118 = .ok (.iload 4, 2) := by decide +kernel
theorem dX5_chance_120 : decode cX5_chance 120 = .ok (.iload 9, 2) := by decide +kernel
theorem dX5_chance_122 : decode cX5_chance 122 = .ok (.invokestatic 178, 3) := by decide +kernel
theorem dX5_chance_125 : decode cX5_chance 125 = .ok (.aload_n 0, 1) := by decide +kernel
theorem dX5_chance_126 : decode cX5_chance 126 = .ok (.getfield 13, 3) := by decide +kernel
theorem dX5_chance_129 : decode cX5_chance 129 = .ok (.iconst 0, 1) := by decide +kernel
theorem dX5_chance_130 : decode cX5_chance 130 = .ok (.iaload, 1) := by decide +kernel
theorem dX5_chance_131 : decode cX5_chance 131 = .ok (.iload 4, 2) := by decide +kernel
theorem dX5_chance_133 : decode cX5_chance 133 = .ok (.isub, 1) := by decide +kernel
theorem dX5_chance_134 : decode cX5_chance 134 = .ok (.iload 5, 2) := by decide +kernel
theorem dX5_chance_136 : decode cX5_chance 136 = .ok (.iload 9, 2) := by decide +kernel
theorem dX5_chance_138 : decode cX5_chance 138 = .ok (.isub, 1) := by decide +kernel
theorem dX5_chance_139 : decode cX5_chance 139 = .ok (.invokestatic 178, 3) := by decide +kernel
theorem dX5_chance_142 : decode cX5_chance 142 = .ok (.lmul, 1) := by decide +kernel
theorem dX5_chance_143 : decode cX5_chance 143 = .ok (.ladd, 1) := by decide +kernel
theorem dX5_chance_144 : decode cX5_chance 144 = .ok (.lstore 7, 2) := by decide +kernel
theorem dX5_chance_146 : decode cX5_chance 146 = .ok (.iinc 9 1, 3) := by decide +kernel
theorem dX5_chance_149 : decode cX5_chance 149 = .ok (.goto (-40), 3) := by decide +kernel
theorem dX5_chance_152 : decode cX5_chance 152 = .ok (.aload_n 0, 1) := by decide +kernel
theorem dX5_chance_153 : decode cX5_chance 153 = .ok (.lload 7, 2) := by decide +kernel
theorem dX5_chance_155 : decode cX5_chance 155 = .ok (.aload_n 0, 1) := by decide +kernel
theorem dX5_chance_156 : decode cX5_chance 156 = .ok (.getfield 13, 3) := by decide +kernel
theorem dX5_chance_159 : decode cX5_chance 159 = .ok (.iconst 0, 1) := by decide +kernel
theorem dX5_chance_160 : decode cX5_chance 160 = .ok (.iaload, 1) := by decide +kernel
theorem dX5_chance_161 : decode cX5_chance 161 = .ok (.iload 5, 2) := by decide +kernel
theorem dX5_chance_163 : decode cX5_chance 163 = .ok (.invokestatic 178, 3) := by decide +kernel
theorem dX5_chance_166 : decode cX5_chance 166 = .ok (.invokevirtual 182, 3) := by decide +kernel
theorem dX5_chance_169 : decode cX5_chance 169 = .ok (.iload_n 3, 1) := by decide +kernel
theorem dX5_chance_170 : decode cX5_chance 170 = .ok (.ifCond .ne 10, 3) := by decide +kernel
theorem dX5_chance_173 : decode cX5_chance 173 = .ok (.aload_n 0, 1) := by decide +kernel
theorem dX5_chance_174 : decode cX5_chance 174 = .ok (.getfield 167, 3) := by decide +kernel
theorem dX5_chance_177 : decode cX5_chance 177 = .ok (.goto 18, 3) := by decide +kernel
theorem dX5_chance_180 : decode cX5_chance 180 = .ok (.iload_n 3, 1) := by decide +kernel
theorem dX5_chance_181 : decode cX5_chance 181 = .ok (.iconst 1, 1) := by decide +kernel
theorem dX5_chance_182 : decode cX5_chance 182 = .ok (.if_icmp .ne 10, 3) := by decide +kernel
theorem dX5_chance_185 : decode cX5_chance 185 = .ok (.aload_n 0, 1) := by decide +kernel
theorem dX5_chance_186 : decode cX5_chance 186 = .ok (.getfield 171, 3) := by decide +kernel
theorem dX5_chance_189 : decode cX5_chance 189 = .ok (.goto 6, 3) := by decide +kernel
theorem dX5_chance_192 : decode cX5_chance 192 = .ok (.iload 6, 2) := by decide +kernel
theorem dX5_chance_194 : decode cX5_chance 194 = .ok (.i2l, 1) := by decide +kernel
theorem dX5_chance_195 : decode cX5_chance 195 = .ok (.lreturn, 1) := by decide +kernel
set_option maxRecDepth 20000 in
theorem ggX5_lays_X5_thereAre : GoodIn wsX5_lays wsX5_thereAre := goodIn_r _ [14, 15, 16, 22, 23, 24, 25, 26, 27, 28, 29, 30, 31, 32, 33, 34, 35, 36, 37, 38, 39, 40, 41, 42, 43, 44, 45, 46, 47, 48, 49, 50] (by decide +kernel) (by decide +kernel)
set_option maxRecDepth 20000 in
theorem gX5_lays_X5_thereAre : GoodIn wsX5_lays (wsV RX5 143 RX5 yX5_thereAre wsX5_thereAre) := goodIn_app (goodIn_of _ (by decide +kernel)) ggX5_lays_X5_thereAre
set_option maxRecDepth 20000 in
theorem ggX5_lays_X5_partsOf : GoodIn wsX5_lays wsX5_partsOf := goodIn_r _ [20, 15, 21, 16, 22, 23, 24, 25, 26, 27, 28, 29, 30, 31, 32, 33, 34, 35, 36, 37, 38, 39, 40, 41, 42, 43, 44, 45, 46, 47, 48, 49, 50] (by decide +kernel) (by decide +kernel)
set_option maxRecDepth 20000 in
theorem gX5_lays_X5_partsOf : GoodIn wsX5_lays (wsV RX5 149 RX5 yX5_partsOf wsX5_partsOf) := goodIn_app (goodIn_of _ (by decide +kernel)) ggX5_lays_X5_partsOf
theorem dX5_lays_0 : decode cX5_lays 0 = .ok (.aload_n 0, 1) := by decide +kernel
theorem dX5_lays_1 : decode cX5_lays 1 = .ok (.iconst 0, 1) := by decide +kernel
theorem dX5_lays_2 : decode cX5_lays 2 = .ok (.putfield 186, 3) := by decide +kernel
theorem dX5_lays_5 : decode cX5_lays 5 = .ok (.aload_n 0, 1) := by decide +kernel
theorem dX5_lays_6 : decode cX5_lays 6 = .ok (.invokevirtual 143, 3) := by decide +kernel
theorem dX5_lays_9 : decode cX5_lays 9 = .ok (.istore_n 1, 1) := by decide +kernel
theorem dX5_lays_10 : decode cX5_lays 10 = .ok (.iconst 0, 1) := by decide +kernel
theorem dX5_lays_11 : decode cX5_lays 11 = .ok (.istore_n 2, 1) := by decide +kernel
theorem dX5_lays_12 : decode cX5_lays 12 = .ok (.iload_n 2, 1) := by decide +kernel
theorem dX5_lays_13 : decode cX5_lays 13 = .ok (.bipush 6, 2) := by decide +kernel
theorem dX5_lays_15 : decode cX5_lays 15 = .ok (.if_icmp .ge 52, 3) := by decide +kernel
theorem dX5_lays_18 : decode cX5_lays 18 = .ok (.aload_n 0, 1) := by decide +kernel
theorem dX5_lays_19 : decode cX5_lays 19 = .ok (.getfield 50, 3) := by decide +kernel
theorem dX5_lays_22 : decode cX5_lays 22 = .ok (.iload_n 2, 1) := by decide +kernel
theorem dX5_lays_23 : decode cX5_lays 23 = .ok (.aload_n 0, 1) := by decide +kernel
theorem dX5_lays_24 : decode cX5_lays 24 = .ok (.getfield 26, 3) := by decide +kernel
theorem dX5_lays_27 : decode cX5_lays 27 = .ok (.iload_n 2, 1) := by decide +kernel
theorem dX5_lays_28 : decode cX5_lays 28 = .ok (.iaload, 1) := by decide +kernel
theorem dX5_lays_29 : decode cX5_lays 29 = .ok (.iload_n 1, 1) := by decide +kernel
theorem dX5_lays_30 : decode cX5_lays 30 = .ok (.iand, 1) := by decide +kernel
theorem dX5_lays_31 : decode cX5_lays 31 = .ok (.iastore, 1) := by decide +kernel
theorem dX5_lays_32 : decode cX5_lays 32 = .ok (.iload_n 1, 1) := by decide +kernel
theorem dX5_lays_33 : decode cX5_lays 33 = .ok (.iload_n 2, 1) := by decide +kernel
theorem dX5_lays_34 : decode cX5_lays 34 = .ok (.ishr, 1) := by decide +kernel
theorem dX5_lays_35 : decode cX5_lays 35 = .ok (.iconst 1, 1) := by decide +kernel
theorem dX5_lays_36 : decode cX5_lays 36 = .ok (.iand, 1) := by decide +kernel
theorem dX5_lays_37 : decode cX5_lays 37 = .ok (.iconst 1, 1) := by decide +kernel
theorem dX5_lays_38 : decode cX5_lays 38 = .ok (.if_icmp .ne 23, 3) := by decide +kernel
theorem dX5_lays_41 : decode cX5_lays 41 = .ok (.aload_n 0, 1) := by decide +kernel
theorem dX5_lays_42 : decode cX5_lays 42 = .ok (.getfield 41, 3) := by decide +kernel
theorem dX5_lays_45 : decode cX5_lays 45 = .ok (.aload_n 0, 1) := by decide +kernel
theorem dX5_lays_46 : decode cX5_lays 46 = .ok (.getfield 186, 3) := by decide +kernel
theorem dX5_lays_49 : decode cX5_lays 49 = .ok (.iload_n 2, 1) := by decide +kernel
theorem dX5_lays_50 : decode cX5_lays 50 = .ok (.iastore, 1) := by decide +kernel
theorem dX5_lays_51 : decode cX5_lays 51 = .ok (.aload_n 0, 1) := by decide +kernel
theorem dX5_lays_52 : decode cX5_lays 52 = .ok (.dup, 1) := by decide +kernel
theorem dX5_lays_53 : decode cX5_lays 53 = .ok (.getfield 186, 3) := by decide +kernel
theorem dX5_lays_56 : decode cX5_lays 56 = .ok (.iconst 1, 1) := by decide +kernel
theorem dX5_lays_57 : decode cX5_lays 57 = .ok (.iadd, 1) := by decide +kernel
theorem dX5_lays_58 : decode cX5_lays 58 = .ok (.putfield 186, 3) := by decide +kernel
theorem dX5_lays_61 : decode cX5_lays 61 = .ok (.iinc 2 1, 3) := by decide +kernel
theorem dX5_lays_64 : decode cX5_lays 64 = .ok (.goto (-52), 3) := by decide +kernel
theorem dX5_lays_67 : decode cX5_lays 67 = .ok (.aload_n 0, 1) := by decide +kernel
theorem dX5_lays_68 : decode cX5_lays 68 = .ok (.aload_n 0, 1) := by decide +kernel
theorem dX5_lays_69 : decode cX5_lays 69 = .ok (.getfield 13, 3) := by decide +kernel
theorem dX5_lays_72 : decode cX5_lays 72 = .ok (.iconst 0, 1) := by decide +kernel
theorem dX5_lays_73 : decode cX5_lays 73 = .ok (.iaload, 1) := by decide +kernel
theorem dX5_lays_74 : decode cX5_lays 74 = .ok (.putfield 189, 3) := by decide +kernel
theorem dX5_lays_77 : decode cX5_lays 77 = .ok (.iconst 0, 1) := by decide +kernel
theorem dX5_lays_78 : decode cX5_lays 78 = .ok (.istore_n 2, 1) := by decide +kernel
theorem dX5_lays_79 : decode cX5_lays 79 = .ok (.iload_n 2, 1) := by decide +kernel
theorem dX5_lays_80 : decode cX5_lays 80 = .ok (.aload_n 0, 1) := by decide +kernel
theorem dX5_lays_81 : decode cX5_lays 81 = .ok (.getfield 189, 3) := by decide +kernel
theorem dX5_lays_84 : decode cX5_lays 84 = .ok (.if_icmp .ge 34, 3) := by decide +kernel
theorem dX5_lays_87 : decode cX5_lays 87 = .ok (.aload_n 0, 1) := by decide +kernel
theorem dX5_lays_88 : decode cX5_lays 88 = .ok (.getfield 44, 3) := by decide +kernel
theorem dX5_lays_91 : decode cX5_lays 91 = .ok (.iload_n 2, 1) := by decide +kernel
theorem dX5_lays_92 : decode cX5_lays 92 = .ok (.aload_n 0, 1) := by decide +kernel
theorem dX5_lays_93 : decode cX5_lays 93 = .ok (.iload_n 2, 1) := by decide +kernel
theorem dX5_lays_94 : decode cX5_lays 94 = .ok (.invokevirtual 149, 3) := by decide +kernel
theorem dX5_lays_97 : decode cX5_lays 97 = .ok (.iastore, 1) := by decide +kernel
theorem dX5_lays_98 : decode cX5_lays 98 = .ok (.aload_n 0, 1) := by decide +kernel
theorem dX5_lays_99 : decode cX5_lays 99 = .ok (.getfield 47, 3) := by decide +kernel
theorem dX5_lays_102 : decode cX5_lays 102 = .ok (.iload_n 2, 1) := by decide +kernel
theorem dX5_lays_103 : decode cX5_lays 103 = .ok (.aload_n 0, 1) := by decide +kernel
theorem dX5_lays_104 : decode cX5_lays 104 = .ok (.getfield 17, 3) := by decide +kernel
theorem dX5_lays_107 : decode cX5_lays 107 = .ok (.iconst 2, 1) := by decide +kernel
theorem dX5_lays_108 : decode cX5_lays 108 = .ok (.iload_n 2, 1) := by decide +kernel
theorem dX5_lays_109 : decode cX5_lays 109 = .ok (.imul, 1) := by decide +kernel
theorem dX5_lays_110 : decode cX5_lays 110 = .ok (.iaload, 1) := by decide +kernel
theorem dX5_lays_111 : decode cX5_lays 111 = .ok (.iastore, 1) := by decide +kernel
theorem dX5_lays_112 : decode cX5_lays 112 = .ok (.iinc 2 1, 3) := by decide +kernel
theorem dX5_lays_115 : decode cX5_lays 115 = .ok (.goto (-36), 3) := by decide +kernel
theorem dX5_lays_118 : decode cX5_lays 118 = .ok (.return_, 1) := by decide +kernel
theorem dX5_follows_0 : decode cX5_follows 0 = .ok (.aload_n 0, 1) := by decide +kernel
theorem dX5_follows_1 : decode cX5_follows 1 = .ok (.getfield 186, 3) := by decide +kernel
theorem dX5_follows_4 : decode cX5_follows 4 = .ok (.iconst 2, 1) := by decide +kernel
theorem dX5_follows_5 : decode cX5_follows 5 = .ok (.isub, 1) := by decide +kernel
theorem dX5_follows_6 : decode cX5_follows 6 = .ok (.istore_n 1, 1) := by decide +kernel
theorem dX5_follows_7 : decode cX5_follows 7 = .ok (.iload_n 1, 1) := by decide +kernel
theorem dX5_follows_8 : decode cX5_follows 8 = .ok (.ifCond .lt 26, 3) := by decide +kernel
theorem dX5_follows_11 : decode cX5_follows 11 = .ok (.aload_n 0, 1) := by decide +kernel
theorem dX5_follows_12 : decode cX5_follows 12 = .ok (.getfield 53, 3) := by decide +kernel
theorem dX5_follows_15 : decode cX5_follows 15 = .ok (.iload_n 1, 1) := by decide +kernel
theorem dX5_follows_16 : decode cX5_follows 16 = .ok (.iaload, 1) := by decide +kernel
theorem dX5_follows_17 : decode cX5_follows 17 = .ok (.aload_n 0, 1) := by decide +kernel
theorem dX5_follows_18 : decode cX5_follows 18 = .ok (.getfield 53, 3) := by decide +kernel
theorem dX5_follows_21 : decode cX5_follows 21 = .ok (.iload_n 1, 1) := by decide +kernel
theorem dX5_follows_22 : decode cX5_follows 22 = .ok (.iconst 1, 1) := by decide +kernel
theorem dX5_follows_23 : decode cX5_follows 23 = .ok (.iadd, 1) := by decide +kernel
theorem dX5_follows_24 : decode cX5_follows 24 = .ok (.iaload, 1) := by decide +kernel
theorem dX5_follows_25 : decode cX5_follows 25 = .ok (.if_icmp .le 9, 3) := by decide +kernel
theorem dX5_follows_28 : decode cX5_follows 28 = .ok (.iinc 1 (-1), 3) := by decide +kernel
theorem dX5_follows_31 : decode cX5_follows 31 = .ok (.goto (-24), 3) := by decide +kernel
theorem dX5_follows_34 : decode cX5_follows 34 = .ok (.iload_n 1, 1) := by decide +kernel
theorem dX5_follows_35 : decode cX5_follows 35 = .ok (.ifCond .ge 5, 3) := by decide +kernel
theorem dX5_follows_38 : decode cX5_follows 38 = .ok (.iconst 0, 1) := by decide +kernel
theorem dX5_follows_39 : decode cX5_follows 39 = .ok (.ireturn, 1) := by decide +kernel
theorem dX5_follows_40 : decode cX5_follows 40 = .ok (.aload_n 0, 1) := by decide +kernel
theorem dX5_follows_41 : decode cX5_follows 41 = .ok (.getfield 186, 3) := by decide +kernel
theorem dX5_follows_44 : decode cX5_follows 44 = .ok (.iconst 1, 1) := by decide +kernel
theorem dX5_follows_45 : decode cX5_follows 45 = .ok (.isub, 1) := by decide +kernel
theorem dX5_follows_46 : decode cX5_follows 46 = .ok (.istore_n 2, 1) := by decide +kernel
theorem dX5_follows_47 : decode cX5_follows 47 = .ok (.aload_n 0, 1) := by decide +kernel
theorem dX5_follows_48 : decode cX5_follows 48 = .ok (.getfield 53, 3) := by decide +kernel
theorem dX5_follows_51 : decode cX5_follows 51 = .ok (.iload_n 2, 1) := by decide +kernel
theorem dX5_follows_52 : decode cX5_follows 52 = .ok (.iaload, 1) := by decide +kernel
theorem dX5_follows_53 : decode cX5_follows 53 = .ok (.aload_n 0, 1) := by decide +kernel
theorem dX5_follows_54 : decode cX5_follows 54 = .ok (.getfield 53, 3) := by decide +kernel
theorem dX5_follows_57 : decode cX5_follows 57 = .ok (.iload_n 1, 1) := by decide +kernel
theorem dX5_follows_58 : decode cX5_follows 58 = .ok (.iaload, 1) := by decide +kernel
theorem dX5_follows_59 : decode cX5_follows 59 = .ok (.if_icmp .ge 9, 3) := by decide +kernel
theorem dX5_follows_62 : decode cX5_follows 62 = .ok (.iinc 2 (-1), 3) := by decide +kernel
theorem dX5_follows_65 : decode cX5_follows 65 = .ok (.goto (-18), 3) := by decide +kernel
theorem dX5_follows_68 : decode cX5_follows 68 = .ok (.aload_n 0, 1) := by decide +kernel
theorem dX5_follows_69 : decode cX5_follows 69 = .ok (.getfield 53, 3) := by decide +kernel
theorem dX5_follows_72 : decode cX5_follows 72 = .ok (.iload_n 1, 1) := by decide +kernel
theorem dX5_follows_73 : decode cX5_follows 73 = .ok (.iaload, 1) := by decide +kernel
theorem dX5_follows_74 : decode cX5_follows 74 = .ok (.istore_n 3, 1) := by decide +kernel
theorem dX5_follows_75 : decode cX5_follows 75 = .ok (.aload_n 0, 1) := by decide +kernel
theorem dX5_follows_76 : decode cX5_follows 76 = .ok (.getfield 53, 3) := by decide +kernel
theorem dX5_follows_79 : decode cX5_follows 79 = .ok (.iload_n 1, 1) := by decide +kernel
theorem dX5_follows_80 : decode cX5_follows 80 = .ok (.aload_n 0, 1) := by decide +kernel
theorem dX5_follows_81 : decode cX5_follows 81 = .ok (.getfield 53, 3) := by decide +kernel
theorem dX5_follows_84 : decode cX5_follows 84 = .ok (.iload_n 2, 1) := by decide +kernel
theorem dX5_follows_85 : decode cX5_follows 85 = .ok (.iaload, 1) := by decide +kernel
theorem dX5_follows_86 : decode cX5_follows 86 = .ok (.iastore, 1) := by decide +kernel
theorem dX5_follows_87 : decode cX5_follows 87 = .ok (.aload_n 0, 1) := by decide +kernel
theorem dX5_follows_88 : decode cX5_follows 88 = .ok (.getfield 53, 3) := by decide +kernel
theorem dX5_follows_91 : decode cX5_follows 91 = .ok (.iload_n 2, 1) := by decide +kernel
theorem dX5_follows_92 : decode cX5_follows 92 = .ok (.iload_n 3, 1) := by decide +kernel
theorem dX5_follows_93 : decode cX5_follows 93 = .ok (.iastore, 1) := by decide +kernel
theorem dX5_follows_94 : decode cX5_follows 94 = .ok (.iload_n 1, 1) := by decide +kernel
theorem dX5_follows_95 : decode cX5_follows 95 = .ok (.iconst 1, 1) := by decide +kernel
theorem dX5_follows_96 : decode cX5_follows 96 = .ok (.iadd, 1) := by decide +kernel
theorem dX5_follows_97 : decode cX5_follows 97 = .ok (.istore 4, 2) := by decide +kernel
theorem dX5_follows_99 : decode cX5_follows 99 = .ok (.aload_n 0, 1) := by decide +kernel
theorem dX5_follows_100 : decode cX5_follows 100 = .ok (.getfield 186, 3) := by decide +kernel
theorem dX5_follows_103 : decode cX5_follows 103 = .ok (.iconst 1, 1) := by decide +kernel
theorem dX5_follows_104 : decode cX5_follows 104 = .ok (.isub, 1) := by decide +kernel
theorem dX5_follows_105 : decode cX5_follows 105 = .ok (.istore 5, 2) := by decide +kernel
theorem dX5_follows_107 : decode cX5_follows 107 = .ok (.iload 4, 2) := by decide +kernel
theorem dX5_follows_109 : decode cX5_follows 109 = .ok (.iload 5, 2) := by decide +kernel
theorem dX5_follows_111 : decode cX5_follows 111 = .ok (.if_icmp .ge 42, 3) := by decide +kernel
theorem dX5_follows_114 : decode cX5_follows 114 = .ok (.aload_n 0, 1) := by decide +kernel
theorem dX5_follows_115 : decode cX5_follows 115 = .ok (.getfield 53, 3) := by decide +kernel
theorem dX5_follows_118 : decode cX5_follows 118 = .ok (.iload 4, 2) := by decide +kernel
theorem dX5_follows_120 : decode cX5_follows 120 = .ok (.iaload, 1) := by decide +kernel
theorem dX5_follows_121 : decode cX5_follows 121 = .ok (.istore_n 3, 1) := by decide +kernel
theorem dX5_follows_122 : decode cX5_follows 122 = .ok (.aload_n 0, 1) := by decide +kernel
theorem dX5_follows_123 : decode cX5_follows 123 = .ok (.getfield 53, 3) := by decide +kernel
theorem dX5_follows_126 : decode cX5_follows 126 = .ok (.iload 4, 2) := by decide +kernel
theorem dX5_follows_128 : decode cX5_follows 128 = .ok (.aload_n 0, 1) := by decide +kernel
theorem dX5_follows_129 : decode cX5_follows 129 = .ok (.getfield 53, 3) := by decide +kernel
theorem dX5_follows_132 : decode cX5_follows 132 = .ok (.iload 5, 2) := by decide +kernel
theorem dX5_follows_134 : decode cX5_follows 134 = .ok (.iaload, 1) := by decide +kernel
theorem dX5_follows_135 : decode cX5_follows 135 = .ok (.iastore, 1) := by decide +kernel
theorem dX5_follows_136 : decode cX5_follows 136 = .ok (.aload_n 0, 1) := by decide +kernel
theorem dX5_follows_137 : decode cX5_follows 137 = .ok (.getfield 53, 3) := by decide +kernel
theorem dX5_follows_140 : decode cX5_follows 140 = .ok (.iload 5, 2) := by decide +kernel
theorem dX5_follows_142 : decode cX5_follows 142 = .ok (.iload_n 3, 1) := by decide +kernel
theorem dX5_follows_143 : decode cX5_follows 143 = .ok (.iastore, 1) := by decide +kernel
theorem dX5_follows_144 : decode cX5_follows 144 = .ok (.iinc 4 1, 3) := by decide +kernel
theorem dX5_follows_147 : decode cX5_follows 147 = .ok (.iinc 5 (-1), 3) := by decide +kernel
theorem dX5_follows_150 : decode cX5_follows 150 = .ok (.goto (-43), 3) := by decide +kernel
theorem dX5_follows_153 : decode cX5_follows 153 = .ok (.iconst 1, 1) := by decide +kernel
theorem dX5_follows_154 : decode cX5_follows 154 = .ok (.ireturn, 1) := by decide +kernel
theorem dX5_mayBe_0 : decode cX5_mayBe 0 = .ok (.iconst 0, 1) := by decide +kernel
theorem dX5_mayBe_1 : decode cX5_mayBe 1 = .ok (.istore_n 1, 1) := by decide +kernel
theorem dX5_mayBe_2 : decode cX5_mayBe 2 = .ok (.iconst 1, 1) := by decide +kernel
theorem dX5_mayBe_3 : decode cX5_mayBe 3 = .ok (.istore_n 2, 1) := by decide +kernel
theorem dX5_mayBe_4 : decode cX5_mayBe 4 = .ok (.iconst 0, 1) := by decide +kernel
theorem dX5_mayBe_5 : decode cX5_mayBe 5 = .ok (.istore_n 3, 1) := by decide +kernel
theorem dX5_mayBe_6 : decode cX5_mayBe 6 = .ok (.iload_n 3, 1) := by decide +kernel
theorem dX5_mayBe_7 : decode cX5_mayBe 7 = .ok (.aload_n 0, 1) := by decide +kernel
theorem dX5_mayBe_8 : decode cX5_mayBe 8 = .ok (.getfield 186, 3) := by decide +kernel
theorem dX5_mayBe_11 : decode cX5_mayBe 11 = .ok (.if_icmp .ge 48, 3) := by decide +kernel
theorem dX5_mayBe_14 : decode cX5_mayBe 14 = .ok (.iload_n 2, 1) := by decide +kernel
theorem dX5_mayBe_15 : decode cX5_mayBe 15 = .ok (.ifCond .eq 25, 3) := by decide +kernel
theorem dX5_mayBe_18 : decode cX5_mayBe 18 = .ok (.aload_n 0, 1) := by decide +kernel
theorem dX5_mayBe_19 : decode cX5_mayBe 19 = .ok (.getfield 50, 3) := by decide +kernel
theorem dX5_mayBe_22 : decode cX5_mayBe 22 = .ok (.aload_n 0, 1) := by decide +kernel
theorem dX5_mayBe_23 : decode cX5_mayBe 23 = .ok (.getfield 53, 3) := by decide +kernel
theorem dX5_mayBe_26 : decode cX5_mayBe 26 = .ok (.iload_n 3, 1) := by decide +kernel
theorem dX5_mayBe_27 : decode cX5_mayBe 27 = .ok (.iaload, 1) := by decide +kernel
theorem dX5_mayBe_28 : decode cX5_mayBe 28 = .ok (.iaload, 1) := by decide +kernel
theorem dX5_mayBe_29 : decode cX5_mayBe 29 = .ok (.iload_n 1, 1) := by decide +kernel
theorem dX5_mayBe_30 : decode cX5_mayBe 30 = .ok (.iconst (-1), 1) := by decide +kernel
theorem dX5_mayBe_31 : decode cX5_mayBe 31 = .ok (.ixor, 1) := by decide +kernel
theorem dX5_mayBe_32 : decode cX5_mayBe 32 = .ok (.iand, 1) := by decide +kernel
theorem dX5_mayBe_33 : decode cX5_mayBe 33 = .ok (.ifCond .ne 7, 3) := by decide +kernel
theorem dX5_mayBe_36 : decode cX5_mayBe 36 = .ok (.iconst 1, 1) := by decide +kernel
theorem dX5_mayBe_37 : decode cX5_mayBe 37 = .ok (.goto 4, 3) := by decide +kernel
theorem dX5_mayBe_40 : decode cX5_mayBe 40 = .ok (.iconst 0, 1) := by decide +kernel
theorem dX5_mayBe_41 : decode cX5_mayBe 41 = .ok (.istore_n 2, 1) := by decide +kernel
theorem dX5_mayBe_42 : decode cX5_mayBe 42 = .ok (.iload_n 1, 1) := by decide +kernel
theorem dX5_mayBe_43 : decode cX5_mayBe 43 = .ok (.iconst 1, 1) := by decide +kernel
theorem dX5_mayBe_44 : decode cX5_mayBe 44 = .ok (.aload_n 0, 1) := by decide +kernel
theorem dX5_mayBe_45 : decode cX5_mayBe 45 = .ok (.getfield 53, 3) := by decide +kernel
theorem dX5_mayBe_48 : decode cX5_mayBe 48 = .ok (.iload_n 3, 1) := by decide +kernel
theorem dX5_mayBe_49 : decode cX5_mayBe 49 = .ok (.iaload, 1) := by decide +kernel
theorem dX5_mayBe_50 : decode cX5_mayBe 50 = .ok (.ishl, 1) := by decide +kernel
theorem dX5_mayBe_51 : decode cX5_mayBe 51 = .ok (.ior, 1) := by decide +kernel
theorem dX5_mayBe_52 : decode cX5_mayBe 52 = .ok (.istore_n 1, 1) := by decide +kernel
theorem dX5_mayBe_53 : decode cX5_mayBe 53 = .ok (.iinc 3 1, 3) := by decide +kernel
theorem dX5_mayBe_56 : decode cX5_mayBe 56 = .ok (.goto (-50), 3) := by decide +kernel
theorem dX5_mayBe_59 : decode cX5_mayBe 59 = .ok (.iload_n 2, 1) := by decide +kernel
theorem dX5_mayBe_60 : decode cX5_mayBe 60 = .ok (.ireturn, 1) := by decide +kernel
theorem dX5_gaps_0 : decode cX5_gaps 0 = .ok (.iconst 0, 1) := by decide +kernel
theorem dX5_gaps_1 : decode cX5_gaps 1 = .ok (.istore_n 1, 1) := by decide +kernel
theorem dX5_gaps_2 : decode cX5_gaps 2 = .ok (.iconst 0, 1) := by decide +kernel
theorem dX5_gaps_3 : decode cX5_gaps 3 = .ok (.istore_n 2, 1) := by decide +kernel
theorem dX5_gaps_4 : decode cX5_gaps 4 = .ok (.iload_n 2, 1) := by decide +kernel
theorem dX5_gaps_5 : decode cX5_gaps 5 = .ok (.aload_n 0, 1) := by decide +kernel
theorem dX5_gaps_6 : decode cX5_gaps 6 = .ok (.getfield 189, 3) := by decide +kernel
theorem dX5_gaps_9 : decode cX5_gaps 9 = .ok (.if_icmp .ge 101, 3) := by decide +kernel
theorem dX5_gaps_12 : decode cX5_gaps 12 = .ok (.iconst (-1), 1) := by decide +kernel
theorem dX5_gaps_13 : decode cX5_gaps 13 = .ok (.istore_n 3, 1) := by decide +kernel
