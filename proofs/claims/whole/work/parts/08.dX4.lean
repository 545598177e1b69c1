set_option maxRecDepth 20000 in
theorem ggX4_init_X2_init : GoodIn wsX4_init wsX2_init := goodIn_r _ [27, 28, 2, 3, 29, 30, 16, 31, 63, 64, 65] (by decide +kernel) (by decide +kernel)
set_option maxRecDepth 20000 in
theorem gX4_init_X2_init_n11 : GoodIn wsX4_init (wsX2_init) := ggX4_init_X2_init
set_option maxRecDepth 20000 in
theorem ggX4_init_X1_init : GoodIn wsX4_init wsX1_init := goodIn_r _ [33, 34, 2, 3, 16, 35, 36, 37, 38, 39, 74, 75, 76, 77, 78, 79, 80] (by decide +kernel) (by decide +kernel)
set_option maxRecDepth 20000 in
theorem gX4_init_X1_init_n18 : GoodIn wsX4_init (wsX1_init) := ggX4_init_X1_init
set_option maxRecDepth 20000 in
theorem ggX4_init_X0_init : GoodIn wsX4_init wsX0_init := goodIn_r _ [41, 42, 2, 3, 16, 43, 44, 45, 46, 47, 48, 49, 50, 81, 82, 83, 84, 85, 86, 87, 88, 89, 90] (by decide +kernel) (by decide +kernel)
set_option maxRecDepth 20000 in
theorem gX4_init_X0_init_n25 : GoodIn wsX4_init (wsX0_init) := ggX4_init_X0_init
set_option maxRecDepth 20000 in
theorem ggX4_init_X3_init : GoodIn wsX4_init wsX3_init := goodIn_r _ [52, 53, 2, 3, 16, 54, 55, 56, 57, 58, 59, 60, 61, 62, 91, 92, 93, 94, 95, 96, 97, 98, 99, 100, 101, 102] (by decide +kernel) (by decide +kernel)
set_option maxRecDepth 20000 in
theorem gX4_init_X3_init_n41 : GoodIn wsX4_init (wsX3_init) := ggX4_init_X3_init
theorem dX4_init_0 : decode cX4_init 0 = .ok (.aload_n 0, 1) := by decide +kernel
theorem dX4_init_1 : decode cX4_init 1 = .ok (.invokespecial 3, 3) := by decide +kernel
theorem dX4_init_4 : decode cX4_init 4 = .ok (.aload_n 0, 1) := by decide +kernel
theorem dX4_init_5 : decode cX4_init 5 = .ok (.new 9, 3) := by decide +kernel
theorem dX4_init_8 : decode cX4_init 8 = .ok (.dup, 1) := by decide +kernel
theorem dX4_init_9 : decode cX4_init 9 = .ok (.invokespecial 11, 3) := by decide +kernel
theorem dX4_init_12 : decode cX4_init 12 = .ok (.putfield 12, 3) := by decide +kernel
theorem dX4_init_15 : decode cX4_init 15 = .ok (.aload_n 0, 1) := by decide +kernel
theorem dX4_init_16 : decode cX4_init 16 = .ok (.new 16, 3) := by decide +kernel
theorem dX4_init_19 : decode cX4_init 19 = .ok (.dup, 1) := by decide +kernel
theorem dX4_init_20 : decode cX4_init 20 = .ok (.invokespecial 18, 3) := by decide +kernel
theorem dX4_init_23 : decode cX4_init 23 = .ok (.putfield 19, 3) := by decide +kernel
theorem dX4_init_26 : decode cX4_init 26 = .ok (.aload_n 0, 1) := by decide +kernel
theorem dX4_init_27 : decode cX4_init 27 = .ok (.new 23, 3) := by decide +kernel
theorem dX4_init_30 : decode cX4_init 30 = .ok (.dup, 1) := by decide +kernel
theorem dX4_init_31 : decode cX4_init 31 = .ok (.invokespecial 25, 3) := by decide +kernel
theorem dX4_init_34 : decode cX4_init 34 = .ok (.putfield 26, 3) := by decide +kernel
theorem dX4_init_37 : decode cX4_init 37 = .ok (.aload_n 0, 1) := by decide +kernel
theorem dX4_init_38 : decode cX4_init 38 = .ok (.bipush 6, 2) := by decide +kernel
theorem dX4_init_40 : decode cX4_init 40 = .ok (.newarray .int, 2) := by decide +kernel
theorem dX4_init_42 : decode cX4_init 42 = .ok (.putfield 30, 3) := by decide +kernel
theorem dX4_init_45 : decode cX4_init 45 = .ok (.aload_n 0, 1) := by decide +kernel
theorem dX4_init_46 : decode cX4_init 46 = .ok (.iconst 2, 1) := by decide +kernel
theorem dX4_init_47 : decode cX4_init 47 = .ok (.sipush 288, 3) := by decide +kernel
theorem dX4_init_50 : decode cX4_init 50 = .ok (.multianewarray 34 2, 4) := by decide +kernel
theorem dX4_init_54 : decode cX4_init 54 = .ok (.putfield 36, 3) := by decide +kernel
theorem dX4_init_57 : decode cX4_init 57 = .ok (.aload_n 0, 1) := by decide +kernel
theorem dX4_init_58 : decode cX4_init 58 = .ok (.new 39, 3) := by decide +kernel
theorem dX4_init_61 : decode cX4_init 61 = .ok (.dup, 1) := by decide +kernel
theorem dX4_init_62 : decode cX4_init 62 = .ok (.invokespecial 41, 3) := by decide +kernel
theorem dX4_init_65 : decode cX4_init 65 = .ok (.putfield 42, 3) := by decide +kernel
theorem dX4_init_68 : decode cX4_init 68 = .ok (.aload_n 0, 1) := by decide +kernel
theorem dX4_init_69 : decode cX4_init 69 = .ok (.new 39, 3) := by decide +kernel
theorem dX4_init_72 : decode cX4_init 72 = .ok (.dup, 1) := by decide +kernel
theorem dX4_init_73 : decode cX4_init 73 = .ok (.invokespecial 41, 3) := by decide +kernel
theorem dX4_init_76 : decode cX4_init 76 = .ok (.putfield 46, 3) := by decide +kernel
theorem dX4_init_79 : decode cX4_init 79 = .ok (.aload_n 0, 1) := by decide +kernel
theorem dX4_init_80 : decode cX4_init 80 = .ok (.iconst 0, 1) := by decide +kernel
theorem dX4_init_81 : decode cX4_init 81 = .ok (.putfield 49, 3) := by decide +kernel
theorem dX4_init_84 : decode cX4_init 84 = .ok (.return_, 1) := by decide +kernel
set_option maxRecDepth 20000 in
theorem ggX4_write_X2_append : GoodIn wsX4_write wsX2_append := goodIn_r _ [7, 8, 9, 18, 19, 20] (by decide +kernel) (by decide +kernel)
set_option maxRecDepth 20000 in
theorem gX4_write_X2_append : GoodIn wsX4_write (wsV RX4 56 RX2 yX2_append wsX2_append) := goodIn_app (goodIn_of _ (by decide +kernel)) ggX4_write_X2_append
theorem dX4_write_0 : decode cX4_write 0 = .ok (.iload_n 1, 1) := by decide +kernel
theorem dX4_write_1 : decode cX4_write 1 = .ok (.iconst 1, 1) := by decide +kernel
theorem dX4_write_2 : decode cX4_write 2 = .ok (.if_icmp .lt 9, 3) := by decide +kernel
theorem dX4_write_5 : decode cX4_write 5 = .ok (.iload_n 1, 1) := by decide +kernel
theorem dX4_write_6 : decode cX4_write 6 = .ok (.bipush 8, 2) := by decide +kernel
theorem dX4_write_8 : decode cX4_write 8 = .ok (.if_icmp .le 5, 3) := by decide +kernel
theorem dX4_write_11 : decode cX4_write 11 = .ok (.iconst (-1), 1) := by decide +kernel
theorem dX4_write_12 : decode cX4_write 12 = .ok (.ireturn, 1) := by decide +kernel
theorem dX4_write_13 : decode cX4_write 13 = .ok (.aload_n 0, 1) := by decide +kernel
theorem dX4_write_14 : decode cX4_write 14 = .ok (.getfield 12, 3) := by decide +kernel
theorem dX4_write_17 : decode cX4_write 17 = .ok (.getfield 53, 3) := by decide +kernel
theorem dX4_write_20 : decode cX4_write 20 = .ok (.iload_n 1, 1) := by decide +kernel
theorem dX4_write_21 : decode cX4_write 21 = .ok (.iadd, 1) := by decide +kernel
theorem dX4_write_22 : decode cX4_write 22 = .ok (.sipush 500, 3) := by decide +kernel
theorem dX4_write_25 : decode cX4_write 25 = .ok (.if_icmp .le 6, 3) := by decide +kernel
theorem dX4_write_28 : decode cX4_write 28 = .ok (.bipush (-3), 2) := by decide +kernel
theorem dX4_write_30 : decode cX4_write 30 = .ok (.ireturn, 1) := by decide +kernel
theorem dX4_write_31 : decode cX4_write 31 = .ok (.aload_n 0, 1) := by decide +kernel
theorem dX4_write_32 : decode cX4_write 32 = .ok (.getfield 12, 3) := by decide +kernel
theorem dX4_write_35 : decode cX4_write 35 = .ok (.iload_n 1, 1) := by decide +kernel
theorem dX4_write_36 : decode cX4_write 36 = .ok (.lload_n 2, 1) := by decide +kernel
theorem dX4_write_37 : decode cX4_write 37 = .ok (.invokevirtual 56, 3) := by decide +kernel
theorem dX4_write_40 : decode cX4_write 40 = .ok (.aload_n 0, 1) := by decide +kernel
theorem dX4_write_41 : decode cX4_write 41 = .ok (.getfield 12, 3) := by decide +kernel
theorem dX4_write_44 : decode cX4_write 44 = .ok (.getfield 53, 3) := by decide +kernel
theorem dX4_write_47 : decode cX4_write 47 = .ok (.ireturn, 1) := by decide +kernel
theorem dX4_wipe_0 : decode cX4_wipe 0 = .ok (.aload_n 0, 1) := by decide +kernel
theorem dX4_wipe_1 : decode cX4_wipe 1 = .ok (.getfield 12, 3) := by decide +kernel
theorem dX4_wipe_4 : decode cX4_wipe 4 = .ok (.getfield 53, 3) := by decide +kernel
theorem dX4_wipe_7 : decode cX4_wipe 7 = .ok (.istore_n 1, 1) := by decide +kernel
theorem dX4_wipe_8 : decode cX4_wipe 8 = .ok (.aload_n 0, 1) := by decide +kernel
theorem dX4_wipe_9 : decode cX4_wipe 9 = .ok (.getfield 12, 3) := by decide +kernel
theorem dX4_wipe_12 : decode cX4_wipe 12 = .ok (.iconst 0, 1) := by decide +kernel
theorem dX4_wipe_13 : decode cX4_wipe 13 = .ok (.putfield 53, 3) := by decide +kernel
theorem dX4_wipe_16 : decode cX4_wipe 16 = .ok (.iload_n 1, 1) := by decide +kernel
theorem dX4_wipe_17 : decode cX4_wipe 17 = .ok (.ireturn, 1) := by decide +kernel
set_option maxRecDepth 20000 in
theorem ggX4_fault_X2_tellTo : GoodIn wsX4_fault wsX2_tellTo := goodIn_r _ [7, 8, 9, 10, 11, 12, 13, 14, 15, 16, 17, 18, 19, 20, 21, 22, 23, 24, 25, 26, 27, 6, 28, 29, 30, 31, 32, 33, 34, 35, 36, 37, 38, 39, 40, 41, 42, 43, 44, 45, 46, 47, 48, 49, 50, 51, 52, 53, 54, 55, 56, 57, 58, 59, 60, 61, 62, 63, 64, 65, 66, 67, 68, 69, 70, 71, 72, 73, 74, 75, 76, 77, 78, 79, 80, 81, 82, 83, 84, 85, 86, 87, 88, 89, 90, 91, 92, 93, 94, 95, 96, 97, 98, 99, 100, 101, 102, 103, 104, 105, 106, 107, 108, 109, 110, 111, 120, 121, 122, 123, 124, 125, 126, 127, 128, 129, 130, 131, 132, 133, 134] (by decide +kernel) (by decide +kernel)
set_option maxRecDepth 20000 in
theorem gX4_fault_X2_tellTo : GoodIn wsX4_fault (wsV RX4 60 RX2 yX2_tellTo wsX2_tellTo) := goodIn_app (goodIn_of _ (by decide +kernel)) ggX4_fault_X2_tellTo
theorem dX4_fault_0 : decode cX4_fault 0 = .ok (.aload_n 0, 1) := by decide +kernel
theorem dX4_fault_1 : decode cX4_fault 1 = .ok (.getfield 12, 3) := by decide +kernel
theorem dX4_fault_4 : decode cX4_fault 4 = .ok (.aload_n 0, 1) := by decide +kernel
theorem dX4_fault_5 : decode cX4_fault 5 = .ok (.getfield 46, 3) := by decide +kernel
theorem dX4_fault_8 : decode cX4_fault 8 = .ok (.invokevirtual 60, 3) := by decide +kernel
theorem dX4_fault_11 : decode cX4_fault 11 = .ok (.ireturn, 1) := by decide +kernel
set_option maxRecDepth 20000 in
theorem ggX4_lay_X2_tellTo : GoodIn wsX4_lay wsX2_tellTo := goodIn_r _ [10, 11, 12, 13, 14, 15, 16, 17, 18, 19, 20, 21, 22, 23, 24, 25, 26, 27, 28, 29, 30, 9, 31, 32, 33, 34, 35, 36, 37, 38, 39, 40, 41, 42, 43, 44, 45, 46, 47, 48, 49, 50, 51, 52, 53, 54, 55, 56, 57, 58, 59, 60, 61, 62, 63, 64, 65, 66, 67, 68, 69, 70, 71, 72, 73, 74, 75, 76, 77, 78, 79, 80, 81, 82, 83, 84, 85, 86, 87, 88, 89, 90, 91, 92, 93, 94, 95, 96, 97, 98, 99, 100, 101, 102, 103, 104, 105, 106, 107, 108, 109, 110, 111, 112, 113, 114, 135, 136, 137, 123, 124, 125, 126, 127, 128, 129, 130, 131, 132, 133, 134] (by decide +kernel) (by decide +kernel)
set_option maxRecDepth 20000 in
theorem gX4_lay_X2_tellTo : GoodIn wsX4_lay (wsV RX4 60 RX2 yX2_tellTo wsX2_tellTo) := goodIn_app (goodIn_of _ (by decide +kernel)) ggX4_lay_X2_tellTo
theorem dX4_lay_0 : decode cX4_lay 0 = .ok (.aload_n 0, 1) := by decide +kernel
theorem dX4_lay_1 : decode cX4_lay 1 = .ok (.getfield 12, 3) := by decide +kernel
theorem dX4_lay_4 : decode cX4_lay 4 = .ok (.aload_n 0, 1) := by decide +kernel
theorem dX4_lay_5 : decode cX4_lay 5 = .ok (.getfield 46, 3) := by decide +kernel
theorem dX4_lay_8 : decode cX4_lay 8 = .ok (.invokevirtual 60, 3) := by decide +kernel
theorem dX4_lay_11 : decode cX4_lay 11 = .ok (.bipush (-4), 2) := by decide +kernel
theorem dX4_lay_13 : decode cX4_lay 13 = .ok (.if_icmp .eq 6, 3) := by decide +kernel
theorem dX4_lay_16 : decode cX4_lay 16 = .ok (.bipush (-2), 2) := by decide +kernel
theorem dX4_lay_18 : decode cX4_lay 18 = .ok (.ireturn, 1) := by decide +kernel
theorem dX4_lay_19 : decode cX4_lay 19 = .ok (.aload_n 0, 1) := by decide +kernel
theorem dX4_lay_20 : decode cX4_lay 20 = .ok (.getfield 42, 3) := by decide +kernel
theorem dX4_lay_23 : decode cX4_lay 23 = .ok (.astore_n 1, 1) := by decide +kernel
theorem dX4_lay_24 : decode cX4_lay 24 = .ok (.aload_n 0, 1) := by decide +kernel
theorem dX4_lay_25 : decode cX4_lay 25 = .ok (.aload_n 0, 1) := by decide +kernel
theorem dX4_lay_26 : decode cX4_lay 26 = .ok (.getfield 46, 3) := by decide +kernel
theorem dX4_lay_29 : decode cX4_lay 29 = .ok (.putfield 42, 3) := by decide +kernel
theorem dX4_lay_32 : decode cX4_lay 32 = .ok (.aload_n 0, 1) := by decide +kernel
theorem dX4_lay_33 : decode cX4_lay 33 = .ok (.aload_n 1, 1) := by decide +kernel
theorem dX4_lay_34 : decode cX4_lay 34 = .ok (.putfield 46, 3) := by decide +kernel
theorem dX4_lay_37 : decode cX4_lay 37 = .ok (.aload_n 0, 1) := by decide +kernel
theorem dX4_lay_38 : decode cX4_lay 38 = .ok (.iconst 0, 1) := by decide +kernel
theorem dX4_lay_39 : decode cX4_lay 39 = .ok (.putfield 49, 3) := by decide +kernel
theorem dX4_lay_42 : decode cX4_lay 42 = .ok (.aload_n 0, 1) := by decide +kernel
theorem dX4_lay_43 : decode cX4_lay 43 = .ok (.getfield 42, 3) := by decide +kernel
theorem dX4_lay_46 : decode cX4_lay 46 = .ok (.getfield 64, 3) := by decide +kernel
theorem dX4_lay_49 : decode cX4_lay 49 = .ok (.ireturn, 1) := by decide +kernel
set_option maxRecDepth 20000 in
theorem ggX4_sign_X3_hasSign : GoodIn wsX4_sign wsX3_hasSign := goodIn_r _ [8, 9, 37, 38, 39, 40, 41, 42, 43, 44, 45, 46, 47, 48] (by decide +kernel) (by decide +kernel)
set_option maxRecDepth 20000 in
theorem gX4_sign_X3_hasSign : GoodIn wsX4_sign (wsV RX4 67 RX3 yX3_hasSign wsX3_hasSign) := goodIn_app (goodIn_of _ (by decide +kernel)) ggX4_sign_X3_hasSign
set_option maxRecDepth 20000 in
theorem ggX4_sign_X3_stonesShowing : GoodIn wsX4_sign wsX3_stonesShowing := goodIn_r _ [13, 14, 15, 16, 17, 7, 18, 19, 20, 21, 22, 23, 37, 38, 39, 40, 41, 42, 43, 44, 45, 46, 47, 48] (by decide +kernel) (by decide +kernel)
set_option maxRecDepth 20000 in
theorem gX4_sign_X3_stonesShowing : GoodIn wsX4_sign (wsV RX4 77 RX3 yX3_stonesShowing wsX3_stonesShowing) := goodIn_app (goodIn_of _ (by decide +kernel)) ggX4_sign_X3_stonesShowing
set_option maxRecDepth 20000 in
theorem ggX4_sign_X3_partsShowing : GoodIn wsX4_sign wsX3_partsShowing := goodIn_r _ [27, 14, 28, 15, 16, 17, 7, 18, 19, 20, 21, 22, 23, 37, 38, 39, 40, 41, 42, 43, 44, 45, 46, 47, 48] (by decide +kernel) (by decide +kernel)
set_option maxRecDepth 20000 in
theorem gX4_sign_X3_partsShowing : GoodIn wsX4_sign (wsV RX4 81 RX3 yX3_partsShowing wsX3_partsShowing) := goodIn_app (goodIn_of _ (by decide +kernel)) ggX4_sign_X3_partsShowing
theorem dX4_sign_0 : decode cX4_sign 0 = .ok (.aload_n 0, 1) := by decide +kernel
theorem dX4_sign_1 : decode cX4_sign 1 = .ok (.getfield 42, 3) := by decide +kernel
theorem dX4_sign_4 : decode cX4_sign 4 = .ok (.iload_n 1, 1) := by decide +kernel
theorem dX4_sign_5 : decode cX4_sign 5 = .ok (.invokevirtual 67, 3) := by decide +kernel
theorem dX4_sign_8 : decode cX4_sign 8 = .ok (.ifCond .ne 5, 3) := by decide +kernel
theorem dX4_sign_11 : decode cX4_sign 11 = .ok (.iconst (-1), 1) := by decide +kernel
theorem dX4_sign_12 : decode cX4_sign 12 = .ok (.ireturn, 1) := by decide +kernel
theorem dX4_sign_13 : decode cX4_sign 13 = .ok (.iload_n 2, 1) := by decide +kernel
theorem dX4_sign_14 : decode cX4_sign 14 = .ok (.tableswitch 68 0 3 #[30, 40, 50, 59], 30) := by decide +kernel
theorem dX4_sign_44 : decode cX4_sign 44 = .ok (.aload_n 0, 1) := by decide +kernel
theorem dX4_sign_45 : decode cX4_sign 45 = .ok (.getfield 42, 3) := by decide +kernel
theorem dX4_sign_48 : decode cX4_sign 48 = .ok (.getfield 71, 3) := by decide +kernel
theorem dX4_sign_51 : decode cX4_sign 51 = .ok (.iload_n 1, 1) := by decide +kernel
theorem dX4_sign_52 : decode cX4_sign 52 = .ok (.iaload, 1) := by decide +kernel
theorem dX4_sign_53 : decode cX4_sign 53 = .ok (.ireturn, 1) := by decide +kernel
theorem dX4_sign_54 : decode cX4_sign 54 = .ok (.aload_n 0, 1) := by decide +kernel
theorem dX4_sign_55 : decode cX4_sign 55 = .ok (.getfield 42, 3) := by decide +kernel
theorem dX4_sign_58 : decode cX4_sign 58 = .ok (.getfield 74, 3) := by decide +kernel
theorem dX4_sign_61 : decode cX4_sign 61 = .ok (.iload_n 1, 1) := by decide +kernel
theorem dX4_sign_62 : decode cX4_sign 62 = .ok (.iaload, 1) := by decide +kernel
theorem dX4_sign_63 : decode cX4_sign 63 = .ok (.ireturn, 1) := by decide +kernel
theorem dX4_sign_64 : decode cX4_sign 64 = .ok (.aload_n 0, 1) := by decide +kernel
theorem dX4_sign_65 : decode cX4_sign 65 = .ok (.getfield 42, 3) := by decide +kernel
theorem dX4_sign_68 : decode cX4_sign 68 = .ok (.iload_n 1, 1) := by decide +kernel
theorem dX4_sign_69 : decode cX4_sign 69 = .ok (.invokevirtual 77, 3) := by decide +kernel
theorem dX4_sign_72 : decode cX4_sign 72 = .ok (.ireturn, 1) := by decide +kernel
theorem dX4_sign_73 : decode cX4_sign 73 = .ok (.aload_n 0, 1) := by decide +kernel
theorem dX4_sign_74 : decode cX4_sign 74 = .ok (.getfield 42, 3) := by decide +kernel
theorem dX4_sign_77 : decode cX4_sign 77 = .ok (.iload_n 1, 1) := by decide +kernel
theorem dX4_sign_78 : decode cX4_sign 78 = .ok (.invokevirtual 81, 3) := by decide +kernel
theorem dX4_sign_81 : decode cX4_sign 81 = .ok (.ireturn, 1) := by decide +kernel
theorem dX4_sign_82 : decode cX4_sign 82 = .ok (.iconst (-1), 1) := by decide +kernel
theorem dX4_sign_83 : decode cX4_sign 83 = .ok (.ireturn, 1) := by decide +kernel
set_option maxRecDepth 20000 in
theorem ggX4_stones_X3_columnOf : GoodIn wsX4_stones wsX3_columnOf := goodIn_r _ [6, 7, 8, 9, 5, 10, 11, 31, 32, 33, 34, 35, 36, 37, 38, 39, 40, 41, 42] (by decide +kernel) (by decide +kernel)
set_option maxRecDepth 20000 in
theorem gX4_stones_X3_columnOf : GoodIn wsX4_stones (wsV RX4 84 RX3 yX3_columnOf wsX3_columnOf) := goodIn_app (goodIn_of _ (by decide +kernel)) ggX4_stones_X3_columnOf
set_option maxRecDepth 20000 in
theorem ggX4_stones_X3_hasCourse : GoodIn wsX4_stones wsX3_hasCourse := goodIn_r _ [15, 16, 31, 32, 33, 34, 35, 36, 37, 38, 39, 40, 41, 42] (by decide +kernel) (by decide +kernel)
set_option maxRecDepth 20000 in
theorem gX4_stones_X3_hasCourse : GoodIn wsX4_stones (wsV RX4 87 RX3 yX3_hasCourse wsX3_hasCourse) := goodIn_app (goodIn_of _ (by decide +kernel)) ggX4_stones_X3_hasCourse
set_option maxRecDepth 20000 in
theorem ggX4_stones_X3_stonesAt : GoodIn wsX4_stones wsX3_stonesAt := goodIn_r _ [20, 21, 22, 13, 14, 5, 15, 16, 31, 32, 33, 34, 35, 36, 37, 38, 39, 40, 41, 42] (by decide +kernel) (by decide +kernel)
set_option maxRecDepth 20000 in
theorem gX4_stones_X3_stonesAt : GoodIn wsX4_stones (wsV RX4 90 RX3 yX3_stonesAt wsX3_stonesAt) := goodIn_app (goodIn_of _ (by decide +kernel)) ggX4_stones_X3_stonesAt
theorem dX4_stones_0 : decode cX4_stones 0 = .ok (.aload_n 0, 1) := by decide +kernel
theorem dX4_stones_1 : decode cX4_stones 1 = .ok (.getfield 42, 3) := by decide +kernel
theorem dX4_stones_4 : decode cX4_stones 4 = .ok (.iload_n 2, 1) := by decide +kernel
theorem dX4_stones_5 : decode cX4_stones 5 = .ok (.invokevirtual 84, 3) := by decide +kernel
theorem dX4_stones_8 : decode cX4_stones 8 = .ok (.istore_n 3, 1) := by decide +kernel
theorem dX4_stones_9 : decode cX4_stones 9 = .ok (.aload_n 0, 1) := by decide +kernel
theorem dX4_stones_10 : decode cX4_stones 10 = .ok (.getfield 42, 3) := by decide +kernel
theorem dX4_stones_13 : decode cX4_stones 13 = .ok (.iload_n 1, 1) := by decide +kernel
theorem dX4_stones_14 : decode cX4_stones 14 = .ok (.invokevirtual 87, 3) := by decide +kernel
theorem dX4_stones_17 : decode cX4_stones 17 = .ok (.ifCond .eq 7, 3) := by decide +kernel
theorem dX4_stones_20 : decode cX4_stones 20 = .ok (.iload_n 3, 1) := by decide +kernel
theorem dX4_stones_21 : decode cX4_stones 21 = .ok (.ifCond .ge 5, 3) := by decide +kernel
theorem dX4_stones_24 : decode cX4_stones 24 = .ok (.iconst (-1), 1) := by decide +kernel
theorem dX4_stones_25 : decode cX4_stones 25 = .ok (.ireturn, 1) := by decide +kernel
theorem dX4_stones_26 : decode cX4_stones 26 = .ok (.aload_n 0, 1) := by decide +kernel
theorem dX4_stones_27 : decode cX4_stones 27 = .ok (.getfield 42, 3) := by decide +kernel
theorem dX4_stones_30 : decode cX4_stones 30 = .ok (.iload_n 1, 1) := by decide +kernel
theorem dX4_stones_31 : decode cX4_stones 31 = .ok (.iload_n 3, 1) := by decide +kernel
theorem dX4_stones_32 : decode cX4_stones 32 = .ok (.invokevirtual 90, 3) := by decide +kernel
theorem dX4_stones_35 : decode cX4_stones 35 = .ok (.ireturn, 1) := by decide +kernel
set_option maxRecDepth 20000 in
theorem ggX4_in_X3_columnOf : GoodIn wsX4_in wsX3_columnOf := goodIn_r _ [6, 7, 8, 9, 5, 10, 11, 43, 44, 45, 46, 47, 48, 49, 50, 51, 52, 53, 54] (by decide +kernel) (by decide +kernel)
set_option maxRecDepth 20000 in
theorem gX4_in_X3_columnOf : GoodIn wsX4_in (wsV RX4 84 RX3 yX3_columnOf wsX3_columnOf) := goodIn_app (goodIn_of _ (by decide +kernel)) ggX4_in_X3_columnOf
set_option maxRecDepth 20000 in
theorem ggX4_in_X3_hasPart : GoodIn wsX4_in wsX3_hasPart := goodIn_r _ [15, 16, 17, 18, 5, 19, 20, 21, 43, 44, 45, 46, 47, 48, 49, 50, 51, 52, 53, 54] (by decide +kernel) (by decide +kernel)
set_option maxRecDepth 20000 in
theorem gX4_in_X3_hasPart : GoodIn wsX4_in (wsV RX4 94 RX3 yX3_hasPart wsX3_hasPart) := goodIn_app (goodIn_of _ (by decide +kernel)) ggX4_in_X3_hasPart
set_option maxRecDepth 20000 in
theorem ggX4_in_X3_stonesOfPart : GoodIn wsX4_in wsX3_stonesOfPart := goodIn_r _ [25, 20, 21, 26, 27, 28, 5, 29, 30, 31, 32, 33, 34, 43, 44, 45, 46, 47, 48, 49, 50, 51, 52, 53, 54] (by decide +kernel) (by decide +kernel)
set_option maxRecDepth 20000 in
theorem gX4_in_X3_stonesOfPart : GoodIn wsX4_in (wsV RX4 97 RX3 yX3_stonesOfPart wsX3_stonesOfPart) := goodIn_app (goodIn_of _ (by decide +kernel)) ggX4_in_X3_stonesOfPart
theorem dX4_in_0 : decode cX4_in 0 = .ok (.aload_n 0, 1) := by decide +kernel
theorem dX4_in_1 : decode cX4_in 1 = .ok (.getfield 42, 3) := by decide +kernel
theorem dX4_in_4 : decode cX4_in 4 = .ok (.iload_n 2, 1) := by decide +kernel
theorem dX4_in_5 : decode cX4_in 5 = .ok (.invokevirtual 84, 3) := by decide +kernel
theorem dX4_in_8 : decode cX4_in 8 = .ok (.istore_n 3, 1) := by decide +kernel
theorem dX4_in_9 : decode cX4_in 9 = .ok (.aload_n 0, 1) := by decide +kernel
theorem dX4_in_10 : decode cX4_in 10 = .ok (.getfield 42, 3) := by decide +kernel
theorem dX4_in_13 : decode cX4_in 13 = .ok (.iload_n 1, 1) := by decide +kernel
theorem dX4_in_14 : decode cX4_in 14 = .ok (.invokevirtual 94, 3) := by decide +kernel
theorem dX4_in_17 : decode cX4_in 17 = .ok (.ifCond .eq 7, 3) := by decide +kernel
theorem dX4_in_20 : decode cX4_in 20 = .ok (.iload_n 3, 1) := by decide +kernel
theorem dX4_in_21 : decode cX4_in 21 = .ok (.ifCond .ge 5, 3) := by decide +kernel
theorem dX4_in_24 : decode cX4_in 24 = .ok (.iconst (-1), 1) := by decide +kernel
theorem dX4_in_25 : decode cX4_in 25 = .ok (.ireturn, 1) := by decide +kernel
theorem dX4_in_26 : decode cX4_in 26 = .ok (.aload_n 0, 1) := by decide +kernel
theorem dX4_in_27 : decode cX4_in 27 = .ok (.getfield 42, 3) := by decide +kernel
theorem dX4_in_30 : decode cX4_in 30 = .ok (.iload_n 1, 1) := by decide +kernel
theorem dX4_in_31 : decode cX4_in 31 = .ok (.iload_n 3, 1) := by decide +kernel
theorem dX4_in_32 : decode cX4_in 32 = .ok (.invokevirtual 97, 3) := by decide +kernel
theorem dX4_in_35 : decode cX4_in 35 = .ok (.ireturn, 1) := by decide +kernel
set_option maxRecDepth 20000 in
theorem ggX4_read_X3_columnOf : GoodIn wsX4_read wsX3_columnOf := goodIn_r _ [6, 7, 8, 9, 5, 10, 11, 35, 36, 37, 38, 39, 40, 41, 42, 43, 44, 45, 46] (by decide +kernel) (by decide +kernel)
set_option maxRecDepth 20000 in
theorem gX4_read_X3_columnOf : GoodIn wsX4_read (wsV RX4 84 RX3 yX3_columnOf wsX3_columnOf) := goodIn_app (goodIn_of _ (by decide +kernel)) ggX4_read_X3_columnOf
set_option maxRecDepth 20000 in
theorem ggX4_read_X3_hasCourse : GoodIn wsX4_read wsX3_hasCourse := goodIn_r _ [15, 16, 35, 36, 37, 38, 39, 40, 41, 42, 43, 44, 45, 46] (by decide +kernel) (by decide +kernel)
set_option maxRecDepth 20000 in
theorem gX4_read_X3_hasCourse : GoodIn wsX4_read (wsV RX4 87 RX3 yX3_hasCourse wsX3_hasCourse) := goodIn_app (goodIn_of _ (by decide +kernel)) ggX4_read_X3_hasCourse
set_option maxRecDepth 20000 in
theorem ggX4_read_X3_stonesAt : GoodIn wsX4_read wsX3_stonesAt := goodIn_r _ [20, 21, 22, 13, 14, 5, 15, 16, 35, 36, 37, 38, 39, 40, 41, 42, 43, 44, 45, 46] (by decide +kernel) (by decide +kernel)
set_option maxRecDepth 20000 in
theorem gX4_read_X3_stonesAt : GoodIn wsX4_read (wsV RX4 90 RX3 yX3_stonesAt wsX3_stonesAt) := goodIn_app (goodIn_of _ (by decide +kernel)) ggX4_read_X3_stonesAt
set_option maxRecDepth 20000 in
theorem ggX4_read_X3_addAt : GoodIn wsX4_read wsX3_addAt := goodIn_r _ [26, 21, 22, 13, 14, 5, 15, 16, 35, 36, 37, 38, 39, 40, 41, 42, 43, 44, 45, 46] (by decide +kernel) (by decide +kernel)
set_option maxRecDepth 20000 in
theorem gX4_read_X3_addAt : GoodIn wsX4_read (wsV RX4 100 RX3 yX3_addAt wsX3_addAt) := goodIn_app (goodIn_of _ (by decide +kernel)) ggX4_read_X3_addAt
theorem dX4_read_0 : decode cX4_read 0 = .ok (.aload_n 0, 1) := by decide +kernel
theorem dX4_read_1 : decode cX4_read 1 = .ok (.getfield 42, 3) := by decide +kernel
theorem dX4_read_4 : decode cX4_read 4 = .ok (.iload_n 2, 1) := by decide +kernel
theorem dX4_read_5 : decode cX4_read 5 = .ok (.invokevirtual 84, 3) := by decide +kernel
theorem dX4_read_8 : decode cX4_read 8 = .ok (.istore_n 3, 1) := by decide +kernel
theorem dX4_read_9 : decode cX4_read 9 = .ok (.aload_n 0, 1) := by decide +kernel
theorem dX4_read_10 : decode cX4_read 10 = .ok (.getfield 42, 3) := by decide +kernel
theorem dX4_read_13 : decode cX4_read 13 = .ok (.iload_n 1, 1) := by decide +kernel
theorem dX4_read_14 : decode cX4_read 14 = .ok (.invokevirtual 87, 3) := by decide +kernel
theorem dX4_read_17 : decode cX4_read 17 = .ok (.ifCond .eq 13, 3) := by decide +kernel
theorem dX4_read_20 : decode cX4_read 20 = .ok (.iload_n 3, 1) := by decide +kernel
theorem dX4_read_21 : decode cX4_read 21 = .ok (.ifCond .lt 9, 3) := by decide +kernel
theorem dX4_read_24 : decode cX4_read 24 = .ok (.iload_n 3, 1) := by decide +kernel
theorem dX4_read_25 : decode cX4_read 25 = .ok (.bipush 17, 2) := by decide +kernel
theorem dX4_read_27 : decode cX4_read 27 = .ok (.if_icmp .ne 5, 3) := by decide +kernel
theorem dX4_read_30 : decode cX4_read 30 = .ok (.iconst (-1), 1) := by decide +kernel
theorem dX4_read_31 : decode cX4_read 31 = .ok (.ireturn, 1) := by decide +kernel
theorem dX4_read_32 : decode cX4_read 32 = .ok (.aload_n 0, 1) := by decide +kernel
theorem dX4_read_33 : decode cX4_read 33 = .ok (.getfield 42, 3) := by decide +kernel
theorem dX4_read_36 : decode cX4_read 36 = .ok (.iload_n 1, 1) := by decide +kernel
theorem dX4_read_37 : decode cX4_read 37 = .ok (.bipush 17, 2) := by decide +kernel
theorem dX4_read_39 : decode cX4_read 39 = .ok (.invokevirtual 90, 3) := by decide +kernel
theorem dX4_read_42 : decode cX4_read 42 = .ok (.iconst 1, 1) := by decide +kernel
theorem dX4_read_43 : decode cX4_read 43 = .ok (.if_icmp .ge 6, 3) := by decide +kernel
theorem dX4_read_46 : decode cX4_read 46 = .ok (.bipush (-2), 2) := by decide +kernel
theorem dX4_read_48 : decode cX4_read 48 = .ok (.ireturn, 1) := by decide +kernel
theorem dX4_read_49 : decode cX4_read 49 = .ok (.aload_n 0, 1) := by decide +kernel
theorem dX4_read_50 : decode cX4_read 50 = .ok (.getfield 42, 3) := by decide +kernel
theorem dX4_read_53 : decode cX4_read 53 = .ok (.iload_n 1, 1) := by decide +kernel
theorem dX4_read_54 : decode cX4_read 54 = .ok (.bipush 17, 2) := by decide +kernel
theorem dX4_read_56 : decode cX4_read 56 = .ok (.iconst (-1), 1) := by decide +kernel
theorem dX4_read_57 : decode cX4_read 57 = .ok (.invokevirtual 100, 3) := by decide +kernel
theorem dX4_read_60 : decode cX4_read 60 = .ok (.aload_n 0, 1) := by decide +kernel
theorem dX4_read_61 : decode cX4_read 61 = .ok (.getfield 42, 3) := by decide +kernel
theorem dX4_read_64 : decode cX4_read 64 = .ok (.iload_n 1, 1) := by decide +kernel
theorem dX4_read_65 : decode cX4_read 65 = .ok (.iload_n 3, 1) := by decide +kernel
theorem dX4_read_66 : decode cX4_read 66 = .ok (.iconst 1, 1) := by decide +kernel
theorem dX4_read_67 : decode cX4_read 67 = .ok (.invokevirtual 100, 3) := by decide +kernel
theorem dX4_read_70 : decode cX4_read 70 = .ok (.aload_n 0, 1) := by decide +kernel
theorem dX4_read_71 : decode cX4_read 71 = .ok (.getfield 42, 3) := by decide +kernel
theorem dX4_read_74 : decode cX4_read 74 = .ok (.iload_n 1, 1) := by decide +kernel
theorem dX4_read_75 : decode cX4_read 75 = .ok (.bipush 17, 2) := by decide +kernel
theorem dX4_read_77 : decode cX4_read 77 = .ok (.invokevirtual 90, 3) := by decide +kernel
theorem dX4_read_80 : decode cX4_read 80 = .ok (.ireturn, 1) := by decide +kernel
set_option maxRecDepth 20000 in
theorem ggX4_alike_X4_areTwoParts : GoodIn wsX4_alike wsX4_areTwoParts := goodIn_r _ [6, 1, 7, 8, 9, 10, 11, 12, 13, 14, 15, 16, 17, 41, 42, 43, 44, 45, 46, 47, 48, 49, 50, 51, 52, 53, 54, 55, 56, 57, 58, 59, 60] (by decide +kernel) (by decide +kernel)
set_option maxRecDepth 20000 in
theorem gX4_alike_X4_areTwoParts : GoodIn wsX4_alike (wsV RX4 104 RX4 yX4_areTwoParts wsX4_areTwoParts) := goodIn_app (goodIn_of _ (by decide +kernel)) ggX4_alike_X4_areTwoParts
set_option maxRecDepth 20000 in
theorem ggX4_alike_X3_signsIn : GoodIn wsX4_alike wsX3_signsIn := goodIn_r _ [21, 16, 17, 22, 23, 24, 10, 25, 26, 27, 28, 29, 30, 31, 32, 33, 34, 35, 49, 50, 51, 52, 53, 54, 55, 56, 57, 58, 59, 60] (by decide +kernel) (by decide +kernel)
set_option maxRecDepth 20000 in
theorem gX4_alike_X3_signsIn : GoodIn wsX4_alike (wsV RX4 108 RX3 yX3_signsIn wsX3_signsIn) := goodIn_app (goodIn_of _ (by decide +kernel)) ggX4_alike_X3_signsIn
set_option maxRecDepth 20000 in
theorem ggX4_alike_X3_strokesOf : GoodIn wsX4_alike wsX3_strokesOf := goodIn_r _ [39, 26, 40, 49, 50, 51, 52, 53, 54, 55, 56, 57, 58, 59, 60] (by decide +kernel) (by decide +kernel)
set_option maxRecDepth 20000 in
theorem gX4_alike_X3_strokesOf : GoodIn wsX4_alike (wsV RX4 111 RX3 yX3_strokesOf wsX3_strokesOf) := goodIn_app (goodIn_of _ (by decide +kernel)) ggX4_alike_X3_strokesOf
theorem dX4_alike_0 : decode cX4_alike 0 = .ok (.aload_n 0, 1) := by decide +kernel
theorem dX4_alike_1 : decode cX4_alike 1 = .ok (.iload_n 1, 1) := by decide +kernel
theorem dX4_alike_2 : decode cX4_alike 2 = .ok (.iload_n 2, 1) := by decide +kernel
theorem dX4_alike_3 : decode cX4_alike 3 = .ok (.invokevirtual 104, 3) := by decide +kernel
theorem dX4_alike_6 : decode cX4_alike 6 = .ok (.ifCond .ne 5, 3) := by decide +kernel
theorem dX4_alike_9 : decode cX4_alike 9 = .ok (.iconst (-1), 1) := by decide +kernel
theorem dX4_alike_10 : decode cX4_alike 10 = .ok (.ireturn, 1) := by decide +kernel
theorem dX4_alike_11 : decode cX4_alike 11 = .ok (.aload_n 0, 1) := by decide +kernel
theorem dX4_alike_12 : decode cX4_alike 12 = .ok (.getfield 42, 3) := by decide +kernel
theorem dX4_alike_15 : decode cX4_alike 15 = .ok (.iload_n 1, 1) := by decide +kernel
theorem dX4_alike_16 : decode cX4_alike 16 = .ok (.invokevirtual 108, 3) := by decide +kernel
theorem dX4_alike_19 : decode cX4_alike 19 = .ok (.istore_n 3, 1) := by decide +kernel
theorem dX4_alike_20 : decode cX4_alike 20 = .ok (.aload_n 0, 1) := by decide +kernel
theorem dX4_alike_21 : decode cX4_alike 21 = .ok (.getfield 42, 3) := by decide +kernel
theorem dX4_alike_24 : decode cX4_alike 24 = .ok (.iload_n 2, 1) := by decide +kernel
theorem dX4_alike_25 : decode cX4_alike 25 = .ok (.invokevirtual 108, 3) := by decide +kernel
theorem dX4_alike_28 : decode cX4_alike 28 = .ok (.istore 4, 2) := by decide +kernel
theorem dX4_alike_30 : decode cX4_alike 30 = .ok (.aload_n 0, 1) := by decide +kernel
theorem dX4_alike_31 : decode cX4_alike 31 = .ok (.getfield 42, 3) := by decide +kernel
theorem dX4_alike_34 : decode cX4_alike 34 = .ok (.iload_n 3, 1) := by decide +kernel
theorem dX4_alike_35 : decode cX4_alike 35 = .ok (.iload 4, 2) := by decide +kernel
theorem dX4_alike_37 : decode cX4_alike 37 = .ok (.ior, 1) := by decide +kernel
theorem dX4_alike_38 : decode cX4_alike 38 = .ok (.invokevirtual 111, 3) := by decide +kernel
theorem dX4_alike_41 : decode cX4_alike 41 = .ok (.istore 5, 2) := by decide +kernel
theorem dX4_alike_43 : decode cX4_alike 43 = .ok (.iload 5, 2) := by decide +kernel
theorem dX4_alike_45 : decode cX4_alike 45 = .ok (.iconst 1, 1) := by decide +kernel
theorem dX4_alike_46 : decode cX4_alike 46 = .ok (.if_icmp .ge 7, 3) := by decide +kernel
theorem dX4_alike_49 : decode cX4_alike 49 = .ok (.iconst 0, 1) := by decide +kernel
theorem dX4_alike_50 : decode cX4_alike 50 = .ok (.goto 21, 3) := by decide +kernel
theorem dX4_alike_53 : decode cX4_alike 53 = .ok (.sipush 1000, 3) := by decide +kernel
theorem dX4_alike_56 : decode cX4_alike 56 = .ok (.aload_n 0, 1) := by decide +kernel
theorem dX4_alike_57 : decode cX4_alike 57 = .ok (.getfield 42, 3) := by decide +kernel
theorem dX4_alike_60 : decode cX4_alike 60 = .ok (.iload_n 3, 1) := by decide +kernel
theorem dX4_alike_61 : decode cX4_alike 61 = .ok (.iload 4, 2) := by decide +kernel
theorem dX4_alike_63 : decode cX4_alike 63 = .ok (.iand, 1) := by decide +kernel
theorem dX4_alike_64 : decode cX4_alike 64 = .ok (.invokevirtual 111, 3) := by decide +kernel
theorem dX4_alike_67 : decode cX4_alike 67 = .ok (.imul, 1) := by decide +kernel
theorem dX4_alike_68 : decode cX4_alike 68 = .ok (.iload 5, 2) := by decide +kernel
theorem dX4_alike_70 : decode cX4_alike 70 = .ok (.idiv, 1) := by decide +kernel
theorem dX4_alike_71 : decode cX4_alike 71 = .ok (.ireturn, 1) := by decide +kernel
set_option maxRecDepth 20000 in
theorem ggX4_chance_X4_areTwoParts : GoodIn wsX4_chance wsX4_areTwoParts := goodIn_r _ [8, 2, 9, 10, 11, 12, 13, 14, 15, 16, 17, 18, 19, 54, 55, 56, 57, 58, 59, 60, 61, 62, 63, 64, 65, 66, 67, 68, 69, 70, 71, 72, 73] (by decide +kernel) (by decide +kernel)
set_option maxRecDepth 20000 in
theorem gX4_chance_X4_areTwoParts : GoodIn wsX4_chance (wsV RX4 104 RX4 yX4_areTwoParts wsX4_areTwoParts) := goodIn_app (goodIn_of _ (by decide +kernel)) ggX4_chance_X4_areTwoParts
set_option maxRecDepth 20000 in
theorem ggX4_chance_X3_signsIn : GoodIn wsX4_chance wsX3_signsIn := goodIn_r _ [23, 18, 19, 24, 25, 26, 12, 27, 28, 29, 30, 31, 32, 33, 34, 35, 36, 37, 62, 63, 64, 65, 66, 67, 68, 69, 70, 71, 72, 73] (by decide +kernel) (by decide +kernel)
set_option maxRecDepth 20000 in
theorem gX4_chance_X3_signsIn : GoodIn wsX4_chance (wsV RX4 108 RX3 yX3_signsIn wsX3_signsIn) := goodIn_app (goodIn_of _ (by decide +kernel)) ggX4_chance_X3_signsIn
set_option maxRecDepth 20000 in
theorem ggX4_chance_J6_bitCount_0f7a4 : GoodIn wsX4_chance wsJ6_bitCount_0f7a4 := goodIn_r _ [41, 42, 43, 44] (by decide +kernel) (by decide +kernel)
set_option maxRecDepth 20000 in
theorem gX4_chance_J6_bitCount_0f7a4 : GoodIn wsX4_chance (va_wsS RX4 116 yJ6_bitCount_0f7a4 wsJ6_bitCount_0f7a4) := goodIn_app (goodIn_of _ (by decide +kernel)) ggX4_chance_J6_bitCount_0f7a4
set_option maxRecDepth 20000 in
theorem ggX4_chance_X4_choices : GoodIn wsX4_chance wsX4_choices := goodIn_r _ [47] (by decide +kernel) (by decide +kernel)
set_option maxRecDepth 20000 in
theorem gX4_chance_X4_choices : GoodIn wsX4_chance (va_wsS RX4 124 yX4_choices wsX4_choices) := goodIn_app (goodIn_of _ (by decide +kernel)) ggX4_chance_X4_choices
set_option maxRecDepth 20000 in
theorem ggX4_chance_X4_drawsWithShared : GoodIn wsX4_chance wsX4_drawsWithShared := goodIn_r _ [50, 45, 46, 7, 47] (by decide +kernel) (by decide +kernel)
set_option maxRecDepth 20000 in
theorem gX4_chance_X4_drawsWithShared : GoodIn wsX4_chance (va_wsS RX4 128 yX4_drawsWithShared wsX4_drawsWithShared) := goodIn_app (goodIn_of _ (by decide +kernel)) ggX4_chance_X4_drawsWithShared
set_option maxRecDepth 20000 in
theorem ggX4_chance_X4_lowest : GoodIn wsX4_chance wsX4_lowest := goodIn_r _ [53] (by decide +kernel) (by decide +kernel)
set_option maxRecDepth 20000 in
theorem gX4_chance_X4_lowest : GoodIn wsX4_chance (va_wsS RX4 132 yX4_lowest wsX4_lowest) := goodIn_app (goodIn_of _ (by decide +kernel)) ggX4_chance_X4_lowest
theorem dX4_chance_0 : decode cX4_chance 0 = .ok (.aload_n 0, 1) := by decide +kernel
theorem dX4_chance_1 : decode cX4_chance 1 = .ok (.iload_n 1, 1) := by decide +kernel
theorem dX4_chance_2 : decode cX4_chance 2 = .ok (.iload_n 2, 1) := by decide +kernel
theorem dX4_chance_3 : decode cX4_chance 3 = .ok (.invokevirtual 104, 3) := by decide +kernel
theorem dX4_chance_6 : decode cX4_chance 6 = .ok (.ifCond .eq 12, 3) := by decide +kernel
theorem dX4_chance_9 : decode cX4_chance 9 = .ok (.iload_n 3, 1) := by decide +kernel
theorem dX4_chance_10 : decode cX4_chance 10 = .ok (.ifCond .lt 8, 3) := by decide +kernel
theorem dX4_chance_13 : decode cX4_chance 13 = .ok (.iload_n 3, 1) := by decide +kernel
theorem dX4_chance_14 : decode cX4_chance 14 = .ok (.iconst 2, 1) := by decide +kernel
theorem dX4_chance_15 : decode cX4_chance 15 = .ok (.if_icmp .le 7, 3) := by decide +kernel
theorem dX4_chance_18 : decode cX4_chance 18 = .ok (.ldc2_w 114, 3) := by decide +kernel
theorem dX4_chance_21 : decode cX4_chance 21 = .ok (.lreturn, 1) := by decide +kernel
theorem dX4_chance_22 : decode cX4_chance 22 = .ok (.aload_n 0, 1) := by decide +kernel
theorem dX4_chance_23 : decode cX4_chance 23 = .ok (.getfield 42, 3) := by decide +kernel
theorem dX4_chance_26 : decode cX4_chance 26 = .ok (.iload_n 1, 1) := by decide +kernel
theorem dX4_chance_27 : decode cX4_chance 27 = .ok (.invokevirtual 108, 3) := by decide +kernel
theorem dX4_chance_30 : decode cX4_chance 30 = .ok (.istore 4, 2) := by decide +kernel
theorem dX4_chance_32 : decode cX4_chance 32 = .ok (.aload_n 0, 1) := by decide +kernel
theorem dX4_chance_33 : decode cX4_chance 33 = .ok (.getfield 42, 3) := by decide +kernel
theorem dX4_chance_36 : decode cX4_chance 36 = .ok (.iload_n 2, 1) := by decide +kernel
theorem dX4_chance_37 : decode cX4_chance 37 = .ok (.invokevirtual 108, 3) := by decide +kernel
theorem dX4_chance_40 : decode cX4_chance 40 = .ok (.istore 5, 2) := by decide +kernel
theorem dX4_chance_42 : decode cX4_chance 42 = .ok (.iload 4, 2) := by decide +kernel
theorem dX4_chance_44 : decode cX4_chance 44 = .ok (.invokestatic 116, 3) := by decide +kernel
theorem dX4_chance_47 : decode cX4_chance 47 = .ok (.istore 6, 2) := by decide +kernel
theorem dX4_chance_49 : decode cX4_chance 49 = .ok (.iload 5, 2) := by decide +kernel
theorem dX4_chance_51 : decode cX4_chance 51 = .ok (.invokestatic 116, 3) := by decide +kernel
theorem dX4_chance_54 : decode cX4_chance 54 = .ok (.istore 7, 2) := by decide +kernel
theorem dX4_chance_56 : decode cX4_chance 56 = .ok (.iload 4, 2) := by decide +kernel
theorem dX4_chance_58 : decode cX4_chance 58 = .ok (.iload 5, 2) := by decide +kernel
theorem dX4_chance_60 : decode cX4_chance 60 = .ok (.iand, 1) := by decide +kernel
theorem dX4_chance_61 : decode cX4_chance 61 = .ok (.invokestatic 116, 3) := by decide +kernel
theorem dX4_chance_64 : decode cX4_chance 64 = .ok (.istore 8, 2) := by decide +kernel
theorem dX4_chance_66 : decode cX4_chance 66 = .ok (.iload_n 3, 1) := by decide +kernel
theorem dX4_chance_67 : decode cX4_chance 67 = .ok (.iconst 2, 1) := by decide +kernel
theorem dX4_chance_68 : decode cX4_chance 68 = .ok (.if_icmp .ne 7, 3) := by decide +kernel
theorem dX4_chance_71 : decode cX4_chance 71 = .ok (.iload 8, 2) := by decide +kernel
theorem dX4_chance_73 : decode cX4_chance 73 = .ok (.i2l, 1) := by decide +kernel
theorem dX4_chance_74 : decode cX4_chance 74 = .ok (.lreturn, 1) := by decide +kernel
theorem dX4_chance_75 : decode cX4_chance 75 = .ok (.aload_n 0, 1) := by decide +kernel
theorem dX4_chance_76 : decode cX4_chance 76 = .ok (.getfield 42, 3) := by decide +kernel
theorem dX4_chance_79 : decode cX4_chance 79 = .ok (.getfield 121, 3) := by decide +kernel
theorem dX4_chance_82 : decode cX4_chance 82 = .ok (.iload 7, 2) := by decide +kernel
theorem dX4_chance_84 : decode cX4_chance 84 = .ok (.invokestatic 124, 3) := by decide +kernel
theorem dX4_chance_87 : decode cX4_chance 87 = .ok (.lstore 9, 2) := by decide +kernel
theorem dX4_chance_89 : decode cX4_chance 89 = .ok (.aload_n 0, 1) := by decide +kernel
theorem dX4_chance_90 : decode cX4_chance 90 = .ok (.getfield 42, 3) := by decide +kernel
theorem dX4_chance_93 : decode cX4_chance 93 = .ok (.getfield 121, 3) := by decide +kernel
theorem dX4_chance_96 : decode cX4_chance 96 = .ok (.iload 6, 2) := by decide +kernel
theorem dX4_chance_98 : decode cX4_chance 98 = .ok (.iload 7, 2) := by decide +kernel
theorem dX4_chance_100 : decode cX4_chance 100 = .ok (.iload 8, 2) := by decide +kernel
theorem dX4_chance_102 : decode cX4_chance 102 = .ok (.invokestatic 128, 3) := by decide +kernel
theorem dX4_chance_105 : decode cX4_chance 105 = .ok (.lload 9, 2) := by decide +kernel
theorem dX4_chance_107 : decode cX4_chance 107 = .ok (.iload_n 3, 1) := by decide +kernel
theorem dX4_chance_108 : decode cX4_chance 108 = .ok (.invokestatic 132, 3) := by decide +kernel
theorem dX4_chance_111 : decode cX4_chance 111 = .ok (.lreturn, 1) := by decide +kernel
set_option maxRecDepth 20000 in
theorem ggX4_best_X0_weighWall : GoodIn wsX4_best wsX0_weighWall := goodIn_r _ [7, 8, 9, 10, 11, 12, 13, 14, 15, 16, 17, 18, 19, 20, 21, 22, 23, 24, 6, 25, 26, 27, 28, 29, 30, 31, 32, 33, 34, 35, 36, 37, 38, 39, 40, 41, 42, 43, 44, 45, 46, 47, 48, 49, 50, 51, 52, 53, 54, 55, 56, 57, 58, 59, 60, 61, 62, 63, 64, 65, 66, 67, 68, 69, 70, 71, 72, 73, 74, 75, 76, 77, 78, 79, 80, 81, 82, 83, 84, 85, 86, 87, 88, 113, 114, 115, 116, 117, 118, 119, 120, 121, 122, 123, 124, 125, 126, 127, 128, 129, 130, 131, 132, 133, 134] (by decide +kernel) (by decide +kernel)
set_option maxRecDepth 20000 in
theorem gX4_best_X0_weighWall : GoodIn wsX4_best (wsV RX4 136 RX0 yX0_weighWall wsX0_weighWall) := goodIn_app (goodIn_of _ (by decide +kernel)) ggX4_best_X0_weighWall
set_option maxRecDepth 20000 in
theorem ggX4_best_X0_exist : GoodIn wsX4_best wsX0_exist := goodIn_r _ [92, 62, 125, 126, 127, 128, 129, 130, 131, 132, 133, 134] (by decide +kernel) (by decide +kernel)
set_option maxRecDepth 20000 in
theorem gX4_best_X0_exist : GoodIn wsX4_best (wsV RX4 140 RX0 yX0_exist wsX0_exist) := goodIn_app (goodIn_of _ (by decide +kernel)) ggX4_best_X0_exist
set_option maxRecDepth 20000 in
theorem ggX4_best_X0_fewestGaps : GoodIn wsX4_best wsX0_fewestGaps := goodIn_r _ [96, 61, 125, 126, 127, 128, 129, 130, 131, 132, 133, 134] (by decide +kernel) (by decide +kernel)
set_option maxRecDepth 20000 in
theorem gX4_best_X0_fewestGaps : GoodIn wsX4_best (wsV RX4 144 RX0 yX0_fewestGaps wsX0_fewestGaps) := goodIn_app (goodIn_of _ (by decide +kernel)) ggX4_best_X0_fewestGaps
set_option maxRecDepth 20000 in
theorem ggX4_best_X0_howMany : GoodIn wsX4_best wsX0_howMany := goodIn_r _ [100, 62, 125, 126, 127, 128, 129, 130, 131, 132, 133, 134] (by decide +kernel) (by decide +kernel)
set_option maxRecDepth 20000 in
theorem gX4_best_X0_howMany : GoodIn wsX4_best (wsV RX4 148 RX0 yX0_howMany wsX0_howMany) := goodIn_app (goodIn_of _ (by decide +kernel)) ggX4_best_X0_howMany
set_option maxRecDepth 20000 in
theorem ggX4_best_X0_partAt : GoodIn wsX4_best wsX0_partAt := goodIn_r _ [104, 79, 80, 125, 126, 127, 128, 129, 130, 131, 132, 133, 134] (by decide +kernel) (by decide +kernel)
set_option maxRecDepth 20000 in
theorem gX4_best_X0_partAt : GoodIn wsX4_best (wsV RX4 151 RX0 yX0_partAt wsX0_partAt) := goodIn_app (goodIn_of _ (by decide +kernel)) ggX4_best_X0_partAt
theorem dX4_best_0 : decode cX4_best 0 = .ok (.iload_n 1, 1) := by decide +kernel
theorem dX4_best_1 : decode cX4_best 1 = .ok (.bipush (-2), 2) := by decide +kernel
theorem dX4_best_3 : decode cX4_best 3 = .ok (.if_icmp .ge 5, 3) := by decide +kernel
theorem dX4_best_6 : decode cX4_best 6 = .ok (.iconst (-1), 1) := by decide +kernel
theorem dX4_best_7 : decode cX4_best 7 = .ok (.ireturn, 1) := by decide +kernel
theorem dX4_best_8 : decode cX4_best 8 = .ok (.aload_n 0, 1) := by decide +kernel
theorem dX4_best_9 : decode cX4_best 9 = .ok (.getfield 26, 3) := by decide +kernel
theorem dX4_best_12 : decode cX4_best 12 = .ok (.aload_n 0, 1) := by decide +kernel
theorem dX4_best_13 : decode cX4_best 13 = .ok (.getfield 42, 3) := by decide +kernel
theorem dX4_best_16 : decode cX4_best 16 = .ok (.invokevirtual 136, 3) := by decide +kernel
theorem dX4_best_19 : decode cX4_best 19 = .ok (.aload_n 0, 1) := by decide +kernel
theorem dX4_best_20 : decode cX4_best 20 = .ok (.getfield 26, 3) := by decide +kernel
theorem dX4_best_23 : decode cX4_best 23 = .ok (.invokevirtual 140, 3) := by decide +kernel
theorem dX4_best_26 : decode cX4_best 26 = .ok (.ifCond .ne 6, 3) := by decide +kernel
theorem dX4_best_29 : decode cX4_best 29 = .ok (.bipush (-4), 2) := by decide +kernel
theorem dX4_best_31 : decode cX4_best 31 = .ok (.ireturn, 1) := by decide +kernel
theorem dX4_best_32 : decode cX4_best 32 = .ok (.iload_n 1, 1) := by decide +kernel
theorem dX4_best_33 : decode cX4_best 33 = .ok (.iconst (-1), 1) := by decide +kernel
theorem dX4_best_34 : decode cX4_best 34 = .ok (.if_icmp .ne 11, 3) := by decide +kernel
theorem dX4_best_37 : decode cX4_best 37 = .ok (.aload_n 0, 1) := by decide +kernel
theorem dX4_best_38 : decode cX4_best 38 = .ok (.getfield 26, 3) := by decide +kernel
theorem dX4_best_41 : decode cX4_best 41 = .ok (.invokevirtual 144, 3) := by decide +kernel
theorem dX4_best_44 : decode cX4_best 44 = .ok (.ireturn, 1) := by decide +kernel
theorem dX4_best_45 : decode cX4_best 45 = .ok (.iload_n 1, 1) := by decide +kernel
theorem dX4_best_46 : decode cX4_best 46 = .ok (.bipush (-2), 2) := by decide +kernel
theorem dX4_best_48 : decode cX4_best 48 = .ok (.if_icmp .ne 11, 3) := by decide +kernel
theorem dX4_best_51 : decode cX4_best 51 = .ok (.aload_n 0, 1) := by decide +kernel
theorem dX4_best_52 : decode cX4_best 52 = .ok (.getfield 26, 3) := by decide +kernel
theorem dX4_best_55 : decode cX4_best 55 = .ok (.invokevirtual 148, 3) := by decide +kernel
theorem dX4_best_58 : decode cX4_best 58 = .ok (.ireturn, 1) := by decide +kernel
theorem dX4_best_59 : decode cX4_best 59 = .ok (.aload_n 0, 1) := by decide +kernel
theorem dX4_best_60 : decode cX4_best 60 = .ok (.getfield 26, 3) := by decide +kernel
theorem dX4_best_63 : decode cX4_best 63 = .ok (.iload_n 1, 1) := by decide +kernel
theorem dX4_best_64 : decode cX4_best 64 = .ok (.invokevirtual 151, 3) := by decide +kernel
theorem dX4_best_67 : decode cX4_best 67 = .ok (.ireturn, 1) := by decide +kernel
set_option maxRecDepth 20000 in
theorem ggX4_sure_X4_areTwoParts : GoodIn wsX4_sure wsX4_areTwoParts := goodIn_r _ [7, 2, 8, 9, 10, 11, 12, 13, 14, 15, 16, 17, 18, 116, 117, 118, 119, 120, 121, 122, 123, 124, 125, 126, 127, 128, 129, 130, 131, 132, 133, 134, 135] (by decide +kernel) (by decide +kernel)
set_option maxRecDepth 20000 in
theorem gX4_sure_X4_areTwoParts : GoodIn wsX4_sure (wsV RX4 104 RX4 yX4_areTwoParts wsX4_areTwoParts) := goodIn_app (goodIn_of _ (by decide +kernel)) ggX4_sure_X4_areTwoParts
set_option maxRecDepth 20000 in
theorem ggX4_sure_X0_weighWall : GoodIn wsX4_sure wsX0_weighWall := goodIn_r _ [23, 24, 25, 26, 27, 28, 29, 30, 31, 14, 15, 11, 16, 17, 18, 32, 33, 34, 22, 35, 36, 37, 38, 39, 40, 41, 42, 43, 44, 45, 46, 47, 48, 49, 50, 51, 52, 53, 54, 55, 56, 57, 58, 59, 60, 61, 62, 63, 64, 65, 66, 67, 68, 69, 70, 71, 72, 73, 74, 75, 76, 77, 78, 79, 80, 81, 82, 83, 84, 85, 86, 87, 88, 89, 90, 91, 92, 93, 94, 95, 96, 97, 98, 124, 125, 126, 127, 128, 129, 130, 131, 132, 133, 134, 135, 136, 137, 138, 139, 140, 141, 142, 143, 144, 145] (by decide +kernel) (by decide +kernel)
set_option maxRecDepth 20000 in
theorem gX4_sure_X0_weighWall : GoodIn wsX4_sure (wsV RX4 136 RX0 yX0_weighWall wsX0_weighWall) := goodIn_app (goodIn_of _ (by decide +kernel)) ggX4_sure_X0_weighWall
set_option maxRecDepth 20000 in
theorem ggX4_sure_X0_exist : GoodIn wsX4_sure wsX0_exist := goodIn_r _ [102, 72, 136, 137, 138, 139, 140, 141, 142, 143, 144, 145] (by decide +kernel) (by decide +kernel)
set_option maxRecDepth 20000 in
theorem gX4_sure_X0_exist : GoodIn wsX4_sure (wsV RX4 140 RX0 yX0_exist wsX0_exist) := goodIn_app (goodIn_of _ (by decide +kernel)) ggX4_sure_X0_exist
set_option maxRecDepth 20000 in
theorem ggX4_sure_X0_howManyAhead : GoodIn wsX4_sure wsX0_howManyAhead := goodIn_r _ [106, 107, 30, 72, 36, 37, 38, 39, 108, 109, 110, 22, 111, 95, 96, 97, 98, 71, 73, 74, 75, 76, 28, 77, 78, 79, 80, 66, 27, 81, 82, 83, 84, 25, 136, 137, 138, 139, 140, 141, 142, 143, 144, 145] (by decide +kernel) (by decide +kernel)
set_option maxRecDepth 20000 in
theorem gX4_sure_X0_howManyAhead : GoodIn wsX4_sure (wsV RX4 154 RX0 yX0_howManyAhead wsX0_howManyAhead) := goodIn_app (goodIn_of _ (by decide +kernel)) ggX4_sure_X0_howManyAhead
set_option maxRecDepth 20000 in
theorem ggX4_sure_X0_howMany : GoodIn wsX4_sure wsX0_howMany := goodIn_r _ [115, 72, 136, 137, 138, 139, 140, 141, 142, 143, 144, 145] (by decide +kernel) (by decide +kernel)
set_option maxRecDepth 20000 in
theorem gX4_sure_X0_howMany : GoodIn wsX4_sure (wsV RX4 148 RX0 yX0_howMany wsX0_howMany) := goodIn_app (goodIn_of _ (by decide +kernel)) ggX4_sure_X0_howMany
theorem dX4_sure_0 : decode cX4_sure 0 = .ok (.aload_n 0, 1) := by decide +kernel
theorem dX4_sure_1 : decode cX4_sure 1 = .ok (.iload_n 1, 1) := by decide +kernel
theorem dX4_sure_2 : decode cX4_sure 2 = .ok (.iload_n 2, 1) := by decide +kernel
theorem dX4_sure_3 : decode cX4_sure 3 = .ok (.invokevirtual 104, 3) := by decide +kernel
theorem dX4_sure_6 : decode cX4_sure 6 = .ok (.ifCond .ne 5, 3) := by decide +kernel
theorem dX4_sure_9 : decode cX4_sure 9 = .ok (.iconst (-1), 1) := by decide +kernel
theorem dX4_sure_10 : decode cX4_sure 10 = .ok (.ireturn, 1) := by decide +kernel
theorem dX4_sure_11 : decode cX4_sure 11 = .ok (.aload_n 0, 1) := by decide +kernel
theorem dX4_sure_12 : decode cX4_sure 12 = .ok (.getfield 26, 3) := by decide +kernel
theorem dX4_sure_15 : decode cX4_sure 15 = .ok (.aload_n 0, 1) := by decide +kernel
theorem dX4_sure_16 : decode cX4_sure 16 = .ok (.getfield 42, 3) := by decide +kernel
theorem dX4_sure_19 : decode cX4_sure 19 = .ok (.invokevirtual 136, 3) := by decide +kernel
theorem dX4_sure_22 : decode cX4_sure 22 = .ok (.aload_n 0, 1) := by decide +kernel
theorem dX4_sure_23 : decode cX4_sure 23 = .ok (.getfield 26, 3) := by decide +kernel
theorem dX4_sure_26 : decode cX4_sure 26 = .ok (.invokevirtual 140, 3) := by decide +kernel
theorem dX4_sure_29 : decode cX4_sure 29 = .ok (.ifCond .ne 6, 3) := by decide +kernel
theorem dX4_sure_32 : decode cX4_sure 32 = .ok (.bipush (-4), 2) := by decide +kernel
theorem dX4_sure_34 : decode cX4_sure 34 = .ok (.ireturn, 1) := by decide +kernel
theorem dX4_sure_35 : decode cX4_sure 35 = .ok (.aload_n 0, 1) := by decide +kernel
theorem dX4_sure_36 : decode cX4_sure 36 = .ok (.getfield 26, 3) := by decide +kernel
theorem dX4_sure_39 : decode cX4_sure 39 = .ok (.iload_n 1, 1) := by decide +kernel
theorem dX4_sure_40 : decode cX4_sure 40 = .ok (.iload_n 2, 1) := by decide +kernel
theorem dX4_sure_41 : decode cX4_sure 41 = .ok (.invokevirtual 154, 3) := by decide +kernel
theorem dX4_sure_44 : decode cX4_sure 44 = .ok (.istore_n 3, 1) := by decide +kernel
theorem dX4_sure_45 : decode cX4_sure 45 = .ok (.iload_n 3, 1) := by decide +kernel
theorem dX4_sure_46 : decode cX4_sure 46 = .ok (.aload_n 0, 1) := by decide +kernel
theorem dX4_sure_47 : decode cX4_sure 47 = .ok (.getfield 26, 3) := by decide +kernel
theorem dX4_sure_50 : decode cX4_sure 50 = .ok (.invokevirtual 148, 3) := by decide +kernel
theorem dX4_sure_53 : decode cX4_sure 53 = .ok (.if_icmp .ne 5, 3) := by decide +kernel
theorem dX4_sure_56 : decode cX4_sure 56 = .ok (.iconst 1, 1) := by decide +kernel
theorem dX4_sure_57 : decode cX4_sure 57 = .ok (.ireturn, 1) := by decide +kernel
theorem dX4_sure_58 : decode cX4_sure 58 = .ok (.iload_n 3, 1) := by decide +kernel
theorem dX4_sure_59 : decode cX4_sure 59 = .ok (.ifCond .ne 7, 3) := by decide +kernel
theorem dX4_sure_62 : decode cX4_sure 62 = .ok (.iconst 2, 1) := by decide +kernel
theorem dX4_sure_63 : decode cX4_sure 63 = .ok (.goto 4, 3) := by decide +kernel
theorem dX4_sure_66 : decode cX4_sure 66 = .ok (.iconst 0, 1) := by decide +kernel
theorem dX4_sure_67 : decode cX4_sure 67 = .ok (.ireturn, 1) := by decide +kernel
set_option maxRecDepth 20000 in
theorem ggX4_seam_X3_partBits : GoodIn wsX4_seam wsX3_partBits := goodIn_r _ [7, 8, 9, 137, 138, 139, 140, 141, 142, 143, 144, 145, 146, 147, 148] (by decide +kernel) (by decide +kernel)
set_option maxRecDepth 20000 in
theorem gX4_seam_X3_partBits : GoodIn wsX4_seam (wsV RX4 157 RX3 yX3_partBits wsX3_partBits) := goodIn_app (goodIn_of _ (by decide +kernel)) ggX4_seam_X3_partBits
set_option maxRecDepth 20000 in
theorem ggX4_seam_J6_bitCount_0f7a4 : GoodIn wsX4_seam wsJ6_bitCount_0f7a4 := goodIn_r _ [13, 14, 15, 16] (by decide +kernel) (by decide +kernel)
set_option maxRecDepth 20000 in
theorem gX4_seam_J6_bitCount_0f7a4 : GoodIn wsX4_seam (va_wsS RX4 116 yJ6_bitCount_0f7a4 wsJ6_bitCount_0f7a4) := goodIn_app (goodIn_of _ (by decide +kernel)) ggX4_seam_J6_bitCount_0f7a4
set_option maxRecDepth 20000 in
theorem ggX4_seam_X0_weighWall : GoodIn wsX4_seam wsX0_weighWall := goodIn_r _ [21, 22, 23, 24, 25, 26, 27, 28, 29, 4, 5, 6, 7, 8, 9, 30, 31, 32, 20, 33, 34, 35, 36, 37, 38, 39, 40, 41, 42, 43, 44, 45, 46, 47, 48, 49, 50, 51, 52, 53, 54, 55, 56, 57, 58, 59, 60, 61, 62, 63, 64, 65, 66, 67, 68, 69, 70, 71, 72, 73, 74, 75, 76, 77, 78, 79, 80, 81, 82, 83, 84, 85, 86, 87, 88, 89, 90, 91, 92, 93, 94, 95, 96, 137, 138, 139, 140, 141, 142, 143, 144, 145, 146, 147, 148, 149, 150, 151, 152, 153, 154, 155, 156, 157, 158] (by decide +kernel) (by decide +kernel)
set_option maxRecDepth 20000 in
theorem gX4_seam_X0_weighWall : GoodIn wsX4_seam (wsV RX4 136 RX0 yX0_weighWall wsX0_weighWall) := goodIn_app (goodIn_of _ (by decide +kernel)) ggX4_seam_X0_weighWall
set_option maxRecDepth 20000 in
theorem ggX4_seam_X0_exist : GoodIn wsX4_seam wsX0_exist := goodIn_r _ [100, 70, 149, 150, 151, 152, 153, 154, 155, 156, 157, 158] (by decide +kernel) (by decide +kernel)
set_option maxRecDepth 20000 in
theorem gX4_seam_X0_exist : GoodIn wsX4_seam (wsV RX4 140 RX0 yX0_exist wsX0_exist) := goodIn_app (goodIn_of _ (by decide +kernel)) ggX4_seam_X0_exist
set_option maxRecDepth 20000 in
theorem ggX4_seam_X0_goingOver : GoodIn wsX4_seam wsX0_goingOver := goodIn_r _ [104, 105, 106, 107, 20, 108, 109, 110, 111, 112, 25, 113, 114, 115, 116, 87, 88, 117, 118, 119, 120, 149, 150, 151, 152, 153, 154, 155, 156, 157, 158] (by decide +kernel) (by decide +kernel)
set_option maxRecDepth 20000 in
theorem gX4_seam_X0_goingOver : GoodIn wsX4_seam (wsV RX4 160 RX0 yX0_goingOver wsX0_goingOver) := goodIn_app (goodIn_of _ (by decide +kernel)) ggX4_seam_X0_goingOver
set_option maxRecDepth 20000 in
theorem ggX4_seam_X0_endingAt : GoodIn wsX4_seam wsX0_endingAt := goodIn_r _ [124, 109, 110, 111, 20, 112, 25, 113, 114, 115, 116, 87, 88, 117, 118, 119, 120, 149, 150, 151, 152, 153, 154, 155, 156, 157, 158] (by decide +kernel) (by decide +kernel)
set_option maxRecDepth 20000 in
theorem gX4_seam_X0_endingAt : GoodIn wsX4_seam (wsV RX4 163 RX0 yX0_endingAt wsX0_endingAt) := goodIn_app (goodIn_of _ (by decide +kernel)) ggX4_seam_X0_endingAt
set_option maxRecDepth 20000 in
theorem ggX4_seam_X0_beginningAt : GoodIn wsX4_seam wsX0_beginningAt := goodIn_r _ [128, 109, 110, 111, 20, 112, 25, 113, 114, 115, 116, 87, 88, 105, 106, 107, 108, 149, 150, 151, 152, 153, 154, 155, 156, 157, 158] (by decide +kernel) (by decide +kernel)
set_option maxRecDepth 20000 in
theorem gX4_seam_X0_beginningAt : GoodIn wsX4_seam (wsV RX4 166 RX0 yX0_beginningAt wsX0_beginningAt) := goodIn_app (goodIn_of _ (by decide +kernel)) ggX4_seam_X0_beginningAt
theorem dX4_seam_0 : decode cX4_seam 0 = .ok (.aload_n 0, 1) := by decide +kernel
theorem dX4_seam_1 : decode cX4_seam 1 = .ok (.getfield 42, 3) := by decide +kernel
theorem dX4_seam_4 : decode cX4_seam 4 = .ok (.invokevirtual 157, 3) := by decide +kernel
theorem dX4_seam_7 : decode cX4_seam 7 = .ok (.invokestatic 116, 3) := by decide +kernel
theorem dX4_seam_10 : decode cX4_seam 10 = .ok (.iconst 1, 1) := by decide +kernel
theorem dX4_seam_11 : decode cX4_seam 11 = .ok (.isub, 1) := by decide +kernel
theorem dX4_seam_12 : decode cX4_seam 12 = .ok (.istore_n 3, 1) := by decide +kernel
theorem dX4_seam_13 : decode cX4_seam 13 = .ok (.iload_n 1, 1) := by decide +kernel
theorem dX4_seam_14 : decode cX4_seam 14 = .ok (.ifCond .lt 17, 3) := by decide +kernel
theorem dX4_seam_17 : decode cX4_seam 17 = .ok (.iload_n 1, 1) := by decide +kernel
theorem dX4_seam_18 : decode cX4_seam 18 = .ok (.iload_n 3, 1) := by decide +kernel
theorem dX4_seam_19 : decode cX4_seam 19 = .ok (.if_icmp .ge 12, 3) := by decide +kernel
theorem dX4_seam_22 : decode cX4_seam 22 = .ok (.iload_n 2, 1) := by decide +kernel
theorem dX4_seam_23 : decode cX4_seam 23 = .ok (.ifCond .lt 8, 3) := by decide +kernel
theorem dX4_seam_26 : decode cX4_seam 26 = .ok (.iload_n 2, 1) := by decide +kernel
theorem dX4_seam_27 : decode cX4_seam 27 = .ok (.iconst 2, 1) := by decide +kernel
theorem dX4_seam_28 : decode cX4_seam 28 = .ok (.if_icmp .le 5, 3) := by decide +kernel
theorem dX4_seam_31 : decode cX4_seam 31 = .ok (.iconst (-1), 1) := by decide +kernel
theorem dX4_seam_32 : decode cX4_seam 32 = .ok (.ireturn, 1) := by decide +kernel
theorem dX4_seam_33 : decode cX4_seam 33 = .ok (.aload_n 0, 1) := by decide +kernel
theorem dX4_seam_34 : decode cX4_seam 34 = .ok (.getfield 26, 3) := by decide +kernel
theorem dX4_seam_37 : decode cX4_seam 37 = .ok (.aload_n 0, 1) := by decide +kernel
theorem dX4_seam_38 : decode cX4_seam 38 = .ok (.getfield 42, 3) := by decide +kernel
theorem dX4_seam_41 : decode cX4_seam 41 = .ok (.invokevirtual 136, 3) := by decide +kernel
theorem dX4_seam_44 : decode cX4_seam 44 = .ok (.aload_n 0, 1) := by decide +kernel
theorem dX4_seam_45 : decode cX4_seam 45 = .ok (.getfield 26, 3) := by decide +kernel
theorem dX4_seam_48 : decode cX4_seam 48 = .ok (.invokevirtual 140, 3) := by decide +kernel
theorem dX4_seam_51 : decode cX4_seam 51 = .ok (.ifCond .ne 6, 3) := by decide +kernel
theorem dX4_seam_54 : decode cX4_seam 54 = .ok (.bipush (-4), 2) := by decide +kernel
theorem dX4_seam_56 : decode cX4_seam 56 = .ok (.ireturn, 1) := by decide +kernel
theorem dX4_seam_57 : decode cX4_seam 57 = .ok (.iload_n 2, 1) := by decide +kernel
theorem dX4_seam_58 : decode cX4_seam 58 = .ok (.ifCond .ne 15, 3) := by decide +kernel
theorem dX4_seam_61 : decode cX4_seam 61 = .ok (.aload_n 0, 1) := by decide +kernel
theorem dX4_seam_62 : decode cX4_seam 62 = .ok (.getfield 26, 3) := by decide +kernel
theorem dX4_seam_65 : decode cX4_seam 65 = .ok (.iload_n 1, 1) := by decide +kernel
theorem dX4_seam_66 : decode cX4_seam 66 = .ok (.invokevirtual 160, 3) := by decide +kernel
theorem dX4_seam_69 : decode cX4_seam 69 = .ok (.invokestatic 116, 3) := by decide +kernel
theorem dX4_seam_72 : decode cX4_seam 72 = .ok (.ireturn, 1) := by decide +kernel
theorem dX4_seam_73 : decode cX4_seam 73 = .ok (.iload_n 2, 1) := by decide +kernel
theorem dX4_seam_74 : decode cX4_seam 74 = .ok (.iconst 1, 1) := by decide +kernel
theorem dX4_seam_75 : decode cX4_seam 75 = .ok (.if_icmp .ne 14, 3) := by decide +kernel
theorem dX4_seam_78 : decode cX4_seam 78 = .ok (.aload_n 0, 1) := by decide +kernel
theorem dX4_seam_79 : decode cX4_seam 79 = .ok (.getfield 26, 3) := by decide +kernel
theorem dX4_seam_82 : decode cX4_seam 82 = .ok (.iload_n 1, 1) := by decide +kernel
theorem dX4_seam_83 : decode cX4_seam 83 = .ok (.invokevirtual 163, 3) := by decide +kernel
theorem dX4_seam_86 : decode cX4_seam 86 = .ok (.goto 11, 3) := by decide +kernel
theorem dX4_seam_89 : decode cX4_seam 89 = .ok (.aload_n 0, 1) := by decide +kernel
theorem dX4_seam_90 : decode cX4_seam 90 = .ok (.getfield 26, 3) := by decide +kernel
theorem dX4_seam_93 : decode cX4_seam 93 = .ok (.iload_n 1, 1) := by decide +kernel
theorem dX4_seam_94 : decode cX4_seam 94 = .ok (.invokevirtual 166, 3) := by decide +kernel
theorem dX4_seam_97 : decode cX4_seam 97 = .ok (.invokestatic 116, 3) := by decide +kernel
theorem dX4_seam_100 : decode cX4_seam 100 = .ok (.ireturn, 1) := by decide +kernel
set_option maxRecDepth 20000 in
theorem ggX4_pause_X0_weighWall : GoodIn wsX4_pause wsX0_weighWall := goodIn_r _ [8, 9, 10, 11, 12, 13, 14, 15, 16, 17, 18, 19, 20, 21, 22, 23, 24, 25, 7, 26, 27, 28, 29, 30, 31, 32, 33, 34, 35, 36, 37, 38, 39, 40, 41, 42, 43, 44, 45, 46, 47, 48, 49, 50, 51, 52, 53, 54, 55, 56, 57, 58, 59, 60, 61, 62, 63, 64, 65, 66, 67, 68, 69, 70, 71, 72, 73, 74, 75, 76, 77, 78, 79, 80, 81, 82, 83, 84, 85, 86, 87, 88, 89, 129, 130, 131, 132, 133, 134, 135, 136, 137, 138, 139, 140, 119, 120, 121, 122, 123, 124, 125, 126, 127, 128] (by decide +kernel) (by decide +kernel)
set_option maxRecDepth 20000 in
theorem gX4_pause_X0_weighWall : GoodIn wsX4_pause (wsV RX4 136 RX0 yX0_weighWall wsX0_weighWall) := goodIn_app (goodIn_of _ (by decide +kernel)) ggX4_pause_X0_weighWall
set_option maxRecDepth 20000 in
theorem ggX4_pause_X0_goingOver : GoodIn wsX4_pause wsX0_goingOver := goodIn_r _ [93, 94, 95, 96, 7, 97, 98, 99, 100, 101, 12, 102, 103, 104, 105, 80, 81, 106, 107, 108, 109, 119, 120, 121, 122, 123, 124, 125, 126, 127, 128] (by decide +kernel) (by decide +kernel)
set_option maxRecDepth 20000 in
theorem gX4_pause_X0_goingOver : GoodIn wsX4_pause (wsV RX4 160 RX0 yX0_goingOver wsX0_goingOver) := goodIn_app (goodIn_of _ (by decide +kernel)) ggX4_pause_X0_goingOver
set_option maxRecDepth 20000 in
theorem ggX4_pause_X0_strokesOf : GoodIn wsX4_pause wsX0_strokesOf := goodIn_r _ [75, 10, 119, 120, 121, 122, 123, 124, 125, 126, 127, 128] (by decide +kernel) (by decide +kernel)
set_option maxRecDepth 20000 in
theorem gX4_pause_X0_strokesOf : GoodIn wsX4_pause (wsV RX4 172 RX0 yX0_strokesOf wsX0_strokesOf) := goodIn_app (goodIn_of _ (by decide +kernel)) ggX4_pause_X0_strokesOf
theorem dX4_pause_0 : decode cX4_pause 0 = .ok (.aload_n 0, 1) := by decide +kernel
theorem dX4_pause_1 : decode cX4_pause 1 = .ok (.getfield 26, 3) := by decide +kernel
theorem dX4_pause_4 : decode cX4_pause 4 = .ok (.aload_n 0, 1) := by decide +kernel
theorem dX4_pause_5 : decode cX4_pause 5 = .ok (.getfield 42, 3) := by decide +kernel
theorem dX4_pause_8 : decode cX4_pause 8 = .ok (.invokevirtual 136, 3) := by decide +kernel
theorem dX4_pause_11 : decode cX4_pause 11 = .ok (.bipush (-4), 2) := by decide +kernel
theorem dX4_pause_13 : decode cX4_pause 13 = .ok (.istore_n 1, 1) := by decide +kernel
theorem dX4_pause_14 : decode cX4_pause 14 = .ok (.iconst 0, 1) := by decide +kernel
theorem dX4_pause_15 : decode cX4_pause 15 = .ok (.istore_n 2, 1) := by decide +kernel
theorem dX4_pause_16 : decode cX4_pause 16 = .ok (.iconst 0, 1) := by decide +kernel
theorem dX4_pause_17 : decode cX4_pause 17 = .ok (.istore_n 3, 1) := by decide +kernel
theorem dX4_pause_18 : decode cX4_pause 18 = .ok (.iload_n 3, 1) := by decide +kernel
theorem dX4_pause_19 : decode cX4_pause 19 = .ok (.aload_n 0, 1) := by decide +kernel
theorem dX4_pause_20 : decode cX4_pause 20 = .ok (.getfield 26, 3) := by decide +kernel
theorem dX4_pause_23 : decode cX4_pause 23 = .ok (.getfield 169, 3) := by decide +kernel
theorem dX4_pause_26 : decode cX4_pause 26 = .ok (.iconst 1, 1) := by decide +kernel
theorem dX4_pause_27 : decode cX4_pause 27 = .ok (.isub, 1) := by decide +kernel
theorem dX4_pause_28 : decode cX4_pause 28 = .ok (.if_icmp .ge 43, 3) := by decide +kernel
theorem dX4_pause_31 : decode cX4_pause 31 = .ok (.aload_n 0, 1) := by decide +kernel
theorem dX4_pause_32 : decode cX4_pause 32 = .ok (.getfield 26, 3) := by decide +kernel
theorem dX4_pause_35 : decode cX4_pause 35 = .ok (.aload_n 0, 1) := by decide +kernel
theorem dX4_pause_36 : decode cX4_pause 36 = .ok (.getfield 26, 3) := by decide +kernel
theorem dX4_pause_39 : decode cX4_pause 39 = .ok (.iload_n 3, 1) := by decide +kernel
theorem dX4_pause_40 : decode cX4_pause 40 = .ok (.invokevirtual 160, 3) := by decide +kernel
theorem dX4_pause_43 : decode cX4_pause 43 = .ok (.invokevirtual 172, 3) := by decide +kernel
theorem dX4_pause_46 : decode cX4_pause 46 = .ok (.istore 4, 2) := by decide +kernel
theorem dX4_pause_48 : decode cX4_pause 48 = .ok (.iload_n 1, 1) := by decide +kernel
theorem dX4_pause_49 : decode cX4_pause 49 = .ok (.bipush (-4), 2) := by decide +kernel
theorem dX4_pause_51 : decode cX4_pause 51 = .ok (.if_icmp .eq 9, 3) := by decide +kernel
theorem dX4_pause_54 : decode cX4_pause 54 = .ok (.iload 4, 2) := by decide +kernel
theorem dX4_pause_56 : decode cX4_pause 56 = .ok (.iload_n 2, 1) := by decide +kernel
theorem dX4_pause_57 : decode cX4_pause 57 = .ok (.if_icmp .ge 8, 3) := by decide +kernel
theorem dX4_pause_60 : decode cX4_pause 60 = .ok (.iload_n 3, 1) := by decide +kernel
theorem dX4_pause_61 : decode cX4_pause 61 = .ok (.istore_n 1, 1) := by decide +kernel
theorem dX4_pause_62 : decode cX4_pause 62 = .ok (.iload 4, 2) := by decide +kernel
theorem dX4_pause_64 : decode cX4_pause 64 = .ok (.istore_n 2, 1) := by decide +kernel
theorem dX4_pause_65 : decode cX4_pause 65 = .ok (.iinc 3 1, 3) := by decide +kernel
theorem dX4_pause_68 : decode cX4_pause 68 = .ok (.goto (-50), 3) := by decide +kernel
theorem dX4_pause_71 : decode cX4_pause 71 = .ok (.iload_n 1, 1) := by decide +kernel
theorem dX4_pause_72 : decode cX4_pause 72 = .ok (.ireturn, 1) := by decide +kernel
set_option maxRecDepth 20000 in
theorem ggX4_next_X0_weighWall : GoodIn wsX4_next wsX0_weighWall := goodIn_r _ [8, 9, 10, 11, 12, 13, 14, 15, 16, 17, 18, 19, 20, 21, 22, 23, 24, 25, 7, 26, 27, 28, 29, 30, 31, 32, 33, 34, 35, 36, 37, 38, 39, 40, 41, 42, 43, 44, 45, 46, 47, 48, 49, 50, 51, 52, 53, 54, 55, 56, 57, 58, 59, 60, 61, 62, 63, 64, 65, 66, 67, 68, 69, 70, 71, 72, 73, 74, 75, 76, 77, 78, 79, 80, 81, 82, 83, 84, 85, 86, 87, 88, 89, 118, 119, 120, 121, 122, 123, 124, 125, 126, 127, 128, 129, 130, 131, 132, 133, 134, 135, 136, 137, 138, 139] (by decide +kernel) (by decide +kernel)
set_option maxRecDepth 20000 in
theorem gX4_next_X0_weighWall : GoodIn wsX4_next (wsV RX4 136 RX0 yX0_weighWall wsX0_weighWall) := goodIn_app (goodIn_of _ (by decide +kernel)) ggX4_next_X0_weighWall
set_option maxRecDepth 20000 in
theorem ggX4_next_X0_exist : GoodIn wsX4_next wsX0_exist := goodIn_r _ [93, 63, 130, 131, 132, 133, 134, 135, 136, 137, 138, 139] (by decide +kernel) (by decide +kernel)
set_option maxRecDepth 20000 in
theorem gX4_next_X0_exist : GoodIn wsX4_next (wsV RX4 140 RX0 yX0_exist wsX0_exist) := goodIn_app (goodIn_of _ (by decide +kernel)) ggX4_next_X0_exist
set_option maxRecDepth 20000 in
theorem ggX4_next_X0_howMany : GoodIn wsX4_next wsX0_howMany := goodIn_r _ [97, 63, 130, 131, 132, 133, 134, 135, 136, 137, 138, 139] (by decide +kernel) (by decide +kernel)
set_option maxRecDepth 20000 in
theorem gX4_next_X0_howMany : GoodIn wsX4_next (wsV RX4 148 RX0 yX0_howMany wsX0_howMany) := goodIn_app (goodIn_of _ (by decide +kernel)) ggX4_next_X0_howMany
set_option maxRecDepth 20000 in
theorem ggX4_next_X3_stonesOfPart : GoodIn wsX4_next wsX3_stonesOfPart := goodIn_r _ [101, 21, 22, 40, 41, 42, 19, 43, 44, 45, 46, 47, 48, 118, 119, 120, 121, 122, 123, 124, 125, 126, 127, 128, 129] (by decide +kernel) (by decide +kernel)
set_option maxRecDepth 20000 in
theorem gX4_next_X3_stonesOfPart : GoodIn wsX4_next (wsV RX4 97 RX3 yX3_stonesOfPart wsX3_stonesOfPart) := goodIn_app (goodIn_of _ (by decide +kernel)) ggX4_next_X3_stonesOfPart
set_option maxRecDepth 20000 in
theorem ggX4_next_X0_mostWithOneMore : GoodIn wsX4_next wsX0_mostWithOneMore := goodIn_r _ [105, 12, 63, 106, 107, 108, 109, 49, 50, 51, 7, 52, 15, 53, 54, 55, 56, 57, 58, 59, 60, 61, 62, 64, 65, 66, 67, 13, 68, 69, 70, 71, 72, 73, 74, 75, 10, 130, 131, 132, 133, 134, 135, 136, 137, 138, 139] (by decide +kernel) (by decide +kernel)
set_option maxRecDepth 20000 in
theorem gX4_next_X0_mostWithOneMore : GoodIn wsX4_next (wsV RX4 173 RX0 yX0_mostWithOneMore wsX0_mostWithOneMore) := goodIn_app (goodIn_of _ (by decide +kernel)) ggX4_next_X0_mostWithOneMore
theorem dX4_next_0 : decode cX4_next 0 = .ok (.aload_n 0, 1) := by decide +kernel
theorem dX4_next_1 : decode cX4_next 1 = .ok (.getfield 26, 3) := by decide +kernel
theorem dX4_next_4 : decode cX4_next 4 = .ok (.aload_n 0, 1) := by decide +kernel
theorem dX4_next_5 : decode cX4_next 5 = .ok (.getfield 42, 3) := by decide +kernel
theorem dX4_next_8 : decode cX4_next 8 = .ok (.invokevirtual 136, 3) := by decide +kernel
theorem dX4_next_11 : decode cX4_next 11 = .ok (.aload_n 0, 1) := by decide +kernel
theorem dX4_next_12 : decode cX4_next 12 = .ok (.getfield 26, 3) := by decide +kernel
theorem dX4_next_15 : decode cX4_next 15 = .ok (.invokevirtual 140, 3) := by decide +kernel
theorem dX4_next_18 : decode cX4_next 18 = .ok (.ifCond .ne 6, 3) := by decide +kernel
theorem dX4_next_21 : decode cX4_next 21 = .ok (.bipush (-4), 2) := by decide +kernel
theorem dX4_next_23 : decode cX4_next 23 = .ok (.ireturn, 1) := by decide +kernel
theorem dX4_next_24 : decode cX4_next 24 = .ok (.aload_n 0, 1) := by decide +kernel
theorem dX4_next_25 : decode cX4_next 25 = .ok (.getfield 26, 3) := by decide +kernel
theorem dX4_next_28 : decode cX4_next 28 = .ok (.invokevirtual 148, 3) := by decide +kernel
theorem dX4_next_31 : decode cX4_next 31 = .ok (.istore_n 1, 1) := by decide +kernel
theorem dX4_next_32 : decode cX4_next 32 = .ok (.bipush (-4), 2) := by decide +kernel
theorem dX4_next_34 : decode cX4_next 34 = .ok (.istore_n 2, 1) := by decide +kernel
theorem dX4_next_35 : decode cX4_next 35 = .ok (.iconst 0, 1) := by decide +kernel
theorem dX4_next_36 : decode cX4_next 36 = .ok (.istore_n 3, 1) := by decide +kernel
theorem dX4_next_37 : decode cX4_next 37 = .ok (.iconst 0, 1) := by decide +kernel
theorem dX4_next_38 : decode cX4_next 38 = .ok (.istore 4, 2) := by decide +kernel
theorem dX4_next_40 : decode cX4_next 40 = .ok (.iload 4, 2) := by decide +kernel
theorem dX4_next_42 : decode cX4_next 42 = .ok (.bipush 6, 2) := by decide +kernel
theorem dX4_next_44 : decode cX4_next 44 = .ok (.if_icmp .ge 60, 3) := by decide +kernel
theorem dX4_next_47 : decode cX4_next 47 = .ok (.aload_n 0, 1) := by decide +kernel
theorem dX4_next_48 : decode cX4_next 48 = .ok (.getfield 42, 3) := by decide +kernel
theorem dX4_next_51 : decode cX4_next 51 = .ok (.iload 4, 2) := by decide +kernel
theorem dX4_next_53 : decode cX4_next 53 = .ok (.bipush 17, 2) := by decide +kernel
theorem dX4_next_55 : decode cX4_next 55 = .ok (.invokevirtual 97, 3) := by decide +kernel
theorem dX4_next_58 : decode cX4_next 58 = .ok (.ifCond .le 40, 3) := by decide +kernel
theorem dX4_next_61 : decode cX4_next 61 = .ok (.aload_n 0, 1) := by decide +kernel
theorem dX4_next_62 : decode cX4_next 62 = .ok (.getfield 26, 3) := by decide +kernel
theorem dX4_next_65 : decode cX4_next 65 = .ok (.iload 4, 2) := by decide +kernel
theorem dX4_next_67 : decode cX4_next 67 = .ok (.aload_n 0, 1) := by decide +kernel
theorem dX4_next_68 : decode cX4_next 68 = .ok (.getfield 42, 3) := by decide +kernel
theorem dX4_next_71 : decode cX4_next 71 = .ok (.getfield 121, 3) := by decide +kernel
theorem dX4_next_74 : decode cX4_next 74 = .ok (.iload_n 1, 1) := by decide +kernel
theorem dX4_next_75 : decode cX4_next 75 = .ok (.invokevirtual 173, 3) := by decide +kernel
theorem dX4_next_78 : decode cX4_next 78 = .ok (.istore 5, 2) := by decide +kernel
theorem dX4_next_80 : decode cX4_next 80 = .ok (.iload_n 2, 1) := by decide +kernel
theorem dX4_next_81 : decode cX4_next 81 = .ok (.bipush (-4), 2) := by decide +kernel
theorem dX4_next_83 : decode cX4_next 83 = .ok (.if_icmp .eq 9, 3) := by decide +kernel
theorem dX4_next_86 : decode cX4_next 86 = .ok (.iload 5, 2) := by decide +kernel
theorem dX4_next_88 : decode cX4_next 88 = .ok (.iload_n 3, 1) := by decide +kernel
theorem dX4_next_89 : decode cX4_next 89 = .ok (.if_icmp .ge 9, 3) := by decide +kernel
theorem dX4_next_92 : decode cX4_next 92 = .ok (.iload 4, 2) := by decide +kernel
theorem dX4_next_94 : decode cX4_next 94 = .ok (.istore_n 2, 1) := by decide +kernel
theorem dX4_next_95 : decode cX4_next 95 = .ok (.iload 5, 2) := by decide +kernel
theorem dX4_next_97 : decode cX4_next 97 = .ok (.istore_n 3, 1) := by decide +kernel
theorem dX4_next_98 : decode cX4_next 98 = .ok (.iinc 4 1, 3) := by decide +kernel
theorem dX4_next_101 : decode cX4_next 101 = .ok (.goto (-61), 3) := by decide +kernel
theorem dX4_next_104 : decode cX4_next 104 = .ok (.iload_n 2, 1) := by decide +kernel
theorem dX4_next_105 : decode cX4_next 105 = .ok (.ireturn, 1) := by decide +kernel
set_option maxRecDepth 20000 in
theorem ggX4_men_X3_hasCourse : GoodIn wsX4_men wsX3_hasCourse := goodIn_r _ [6, 7, 64, 65, 66, 67, 68, 69, 70, 71, 72, 73, 74, 75] (by decide +kernel) (by decide +kernel)
set_option maxRecDepth 20000 in
theorem gX4_men_X3_hasCourse : GoodIn wsX4_men (wsV RX4 87 RX3 yX3_hasCourse wsX3_hasCourse) := goodIn_app (goodIn_of _ (by decide +kernel)) ggX4_men_X3_hasCourse
set_option maxRecDepth 20000 in
theorem ggX4_men_X3_menAtLeast : GoodIn wsX4_men wsX3_menAtLeast := goodIn_r _ [11, 12, 13, 14, 15, 16, 17, 18, 19, 5, 20, 21, 22, 23, 24, 25, 26, 27, 3, 4, 6, 7, 28, 29, 30, 31, 32, 33, 34, 35, 36, 37, 38, 39, 40, 41, 42, 43, 44, 45, 46, 47, 64, 65, 66, 67, 68, 69, 70, 71, 72, 73, 74, 75] (by decide +kernel) (by decide +kernel)
set_option maxRecDepth 20000 in
theorem gX4_men_X3_menAtLeast : GoodIn wsX4_men (wsV RX4 177 RX3 yX3_menAtLeast wsX3_menAtLeast) := goodIn_app (goodIn_of _ (by decide +kernel)) ggX4_men_X3_menAtLeast
set_option maxRecDepth 20000 in
theorem ggX4_men_X3_menAtMost : GoodIn wsX4_men wsX3_menAtMost := goodIn_r _ [51, 13, 14, 15, 16, 22, 23, 24, 5, 25, 26, 27, 3, 4, 6, 7, 17, 18, 19, 20, 21, 28, 29, 30, 31, 32, 33, 34, 52, 9, 10, 11, 12, 35, 36, 37, 38, 39, 40, 41, 42, 43, 44, 45, 46, 47, 64, 65, 66, 67, 68, 69, 70, 71, 72, 73, 74, 75] (by decide +kernel) (by decide +kernel)
set_option maxRecDepth 20000 in
theorem gX4_men_X3_menAtMost : GoodIn wsX4_men (wsV RX4 180 RX3 yX3_menAtMost wsX3_menAtMost) := goodIn_app (goodIn_of _ (by decide +kernel)) ggX4_men_X3_menAtMost
set_option maxRecDepth 20000 in
theorem ggX4_men_X3_stonesOfCourse : GoodIn wsX4_men wsX3_stonesOfCourse := goodIn_r _ [38, 22, 23, 24, 5, 25, 26, 27, 3, 4, 6, 7, 64, 65, 66, 67, 68, 69, 70, 71, 72, 73, 74, 75] (by decide +kernel) (by decide +kernel)
set_option maxRecDepth 20000 in
theorem gX4_men_X3_stonesOfCourse : GoodIn wsX4_men (wsV RX4 183 RX3 yX3_stonesOfCourse wsX3_stonesOfCourse) := goodIn_app (goodIn_of _ (by decide +kernel)) ggX4_men_X3_stonesOfCourse
set_option maxRecDepth 20000 in
theorem ggX4_men_X3_weeksOfCourse : GoodIn wsX4_men wsX3_weeksOfCourse := goodIn_r _ [42, 43, 44, 27, 3, 4, 5, 6, 7, 64, 65, 66, 67, 68, 69, 70, 71, 72, 73, 74, 75] (by decide +kernel) (by decide +kernel)
set_option maxRecDepth 20000 in
theorem gX4_men_X3_weeksOfCourse : GoodIn wsX4_men (wsV RX4 186 RX3 yX3_weeksOfCourse wsX3_weeksOfCourse) := goodIn_app (goodIn_of _ (by decide +kernel)) ggX4_men_X3_weeksOfCourse
set_option maxRecDepth 20000 in
theorem ggX4_men_X4_roundedUp : GoodIn wsX4_men wsX4_roundedUp := goodIn_r _ [47] (by decide +kernel) (by decide +kernel)
set_option maxRecDepth 20000 in
theorem gX4_men_X4_roundedUp : GoodIn wsX4_men (va_wsS RX4 189 yX4_roundedUp wsX4_roundedUp) := goodIn_app (goodIn_of _ (by decide +kernel)) ggX4_men_X4_roundedUp
theorem dX4_men_0 : decode cX4_men 0 = .ok (.aload_n 0, 1) := by decide +kernel
theorem dX4_men_1 : decode cX4_men 1 = .ok (.getfield 42, 3) := by decide +kernel
theorem dX4_men_4 : decode cX4_men 4 = .ok (.iload_n 1, 1) := by decide +kernel
theorem dX4_men_5 : decode cX4_men 5 = .ok (.invokevirtual 87, 3) := by decide +kernel
theorem dX4_men_8 : decode cX4_men 8 = .ok (.ifCond .ne 5, 3) := by decide +kernel
theorem dX4_men_11 : decode cX4_men 11 = .ok (.iconst (-1), 1) := by decide +kernel
theorem dX4_men_12 : decode cX4_men 12 = .ok (.ireturn, 1) := by decide +kernel
theorem dX4_men_13 : decode cX4_men 13 = .ok (.iload_n 2, 1) := by decide +kernel
theorem dX4_men_14 : decode cX4_men 14 = .ok (.tableswitch 64 0 2 #[26, 35, 44], 26) := by decide +kernel
theorem dX4_men_40 : decode cX4_men 40 = .ok (.aload_n 0, 1) := by decide +kernel
theorem dX4_men_41 : decode cX4_men 41 = .ok (.getfield 42, 3) := by decide +kernel
theorem dX4_men_44 : decode cX4_men 44 = .ok (.iload_n 1, 1) := by decide +kernel
theorem dX4_men_45 : decode cX4_men 45 = .ok (.invokevirtual 177, 3) := by decide +kernel
theorem dX4_men_48 : decode cX4_men 48 = .ok (.ireturn, 1) := by decide +kernel
theorem dX4_men_49 : decode cX4_men 49 = .ok (.aload_n 0, 1) := by decide +kernel
theorem dX4_men_50 : decode cX4_men 50 = .ok (.getfield 42, 3) := by decide +kernel
theorem dX4_men_53 : decode cX4_men 53 = .ok (.iload_n 1, 1) := by decide +kernel
theorem dX4_men_54 : decode cX4_men 54 = .ok (.invokevirtual 180, 3) := by decide +kernel
theorem dX4_men_57 : decode cX4_men 57 = .ok (.ireturn, 1) := by decide +kernel
theorem dX4_men_58 : decode cX4_men 58 = .ok (.aload_n 0, 1) := by decide +kernel
theorem dX4_men_59 : decode cX4_men 59 = .ok (.getfield 42, 3) := by decide +kernel
theorem dX4_men_62 : decode cX4_men 62 = .ok (.iload_n 1, 1) := by decide +kernel
theorem dX4_men_63 : decode cX4_men 63 = .ok (.invokevirtual 183, 3) := by decide +kernel
theorem dX4_men_66 : decode cX4_men 66 = .ok (.aload_n 0, 1) := by decide +kernel
theorem dX4_men_67 : decode cX4_men 67 = .ok (.getfield 42, 3) := by decide +kernel
theorem dX4_men_70 : decode cX4_men 70 = .ok (.iload_n 1, 1) := by decide +kernel
theorem dX4_men_71 : decode cX4_men 71 = .ok (.invokevirtual 186, 3) := by decide +kernel
theorem dX4_men_74 : decode cX4_men 74 = .ok (.invokestatic 189, 3) := by decide +kernel
theorem dX4_men_77 : decode cX4_men 77 = .ok (.ireturn, 1) := by decide +kernel
theorem dX4_men_78 : decode cX4_men 78 = .ok (.iconst (-1), 1) := by decide +kernel
theorem dX4_men_79 : decode cX4_men 79 = .ok (.ireturn, 1) := by decide +kernel
set_option maxRecDepth 20000 in
theorem ggX4_asks_X3_hasSign : GoodIn wsX4_asks wsX3_hasSign := goodIn_r _ [6, 7, 35, 36, 37, 38, 39, 40, 41, 42, 43, 44, 45, 46] (by decide +kernel) (by decide +kernel)
set_option maxRecDepth 20000 in
theorem gX4_asks_X3_hasSign : GoodIn wsX4_asks (wsV RX4 67 RX3 yX3_hasSign wsX3_hasSign) := goodIn_app (goodIn_of _ (by decide +kernel)) ggX4_asks_X3_hasSign
set_option maxRecDepth 20000 in
theorem ggX4_asks_X3_hasCourse : GoodIn wsX4_asks wsX3_hasCourse := goodIn_r _ [11, 12, 35, 36, 37, 38, 39, 40, 41, 42, 43, 44, 45, 46] (by decide +kernel) (by decide +kernel)
set_option maxRecDepth 20000 in
theorem gX4_asks_X3_hasCourse : GoodIn wsX4_asks (wsV RX4 87 RX3 yX3_hasCourse wsX3_hasCourse) := goodIn_app (goodIn_of _ (by decide +kernel)) ggX4_asks_X3_hasCourse
set_option maxRecDepth 20000 in
theorem ggX4_asks_X3_weeksAsked : GoodIn wsX4_asks wsX3_weeksAsked := goodIn_r _ [16, 17, 18, 19, 20, 5, 21, 22, 23, 9, 10, 11, 12, 24, 25, 26, 35, 36, 37, 38, 39, 40, 41, 42, 43, 44, 45, 46] (by decide +kernel) (by decide +kernel)
set_option maxRecDepth 20000 in
theorem gX4_asks_X3_weeksAsked : GoodIn wsX4_asks (wsV RX4 192 RX3 yX3_weeksAsked wsX3_weeksAsked) := goodIn_app (goodIn_of _ (by decide +kernel)) ggX4_asks_X3_weeksAsked
theorem dX4_asks_0 : decode cX4_asks 0 = .ok (.aload_n 0, 1) := by decide +kernel
theorem dX4_asks_1 : decode cX4_asks 1 = .ok (.getfield 42, 3) := by decide +kernel
theorem dX4_asks_4 : decode cX4_asks 4 = .ok (.iload_n 1, 1) := by decide +kernel
theorem dX4_asks_5 : decode cX4_asks 5 = .ok (.invokevirtual 67, 3) := by decide +kernel
theorem dX4_asks_8 : decode cX4_asks 8 = .ok (.ifCond .eq 14, 3) := by decide +kernel
theorem dX4_asks_11 : decode cX4_asks 11 = .ok (.aload_n 0, 1) := by decide +kernel
theorem dX4_asks_12 : decode cX4_asks 12 = .ok (.getfield 42, 3) := by decide +kernel
theorem dX4_asks_15 : decode cX4_asks 15 = .ok (.iload_n 2, 1) := by decide +kernel
theorem dX4_asks_16 : decode cX4_asks 16 = .ok (.invokevirtual 87, 3) := by decide +kernel
theorem dX4_asks_19 : decode cX4_asks 19 = .ok (.ifCond .ne 5, 3) := by decide +kernel
theorem dX4_asks_22 : decode cX4_asks 22 = .ok (.iconst (-1), 1) := by decide +kernel
theorem dX4_asks_23 : decode cX4_asks 23 = .ok (.ireturn, 1) := by decide +kernel
theorem dX4_asks_24 : decode cX4_asks 24 = .ok (.aload_n 0, 1) := by decide +kernel
theorem dX4_asks_25 : decode cX4_asks 25 = .ok (.getfield 42, 3) := by decide +kernel
theorem dX4_asks_28 : decode cX4_asks 28 = .ok (.iload_n 1, 1) := by decide +kernel
theorem dX4_asks_29 : decode cX4_asks 29 = .ok (.iload_n 2, 1) := by decide +kernel
theorem dX4_asks_30 : decode cX4_asks 30 = .ok (.invokevirtual 192, 3) := by decide +kernel
theorem dX4_asks_33 : decode cX4_asks 33 = .ok (.ireturn, 1) := by decide +kernel
set_option maxRecDepth 20000 in
theorem ggX4_may_X3_hasName : GoodIn wsX4_may wsX3_hasName := goodIn_r _ [6, 7, 57, 58, 59, 60, 61, 62, 63, 64, 65, 66, 67, 68] (by decide +kernel) (by decide +kernel)
set_option maxRecDepth 20000 in
theorem gX4_may_X3_hasName : GoodIn wsX4_may (wsV RX4 195 RX3 yX3_hasName wsX3_hasName) := goodIn_app (goodIn_of _ (by decide +kernel)) ggX4_may_X3_hasName
set_option maxRecDepth 20000 in
theorem ggX4_may_X3_hasSign : GoodIn wsX4_may wsX3_hasSign := goodIn_r _ [11, 12, 57, 58, 59, 60, 61, 62, 63, 64, 65, 66, 67, 68] (by decide +kernel) (by decide +kernel)
set_option maxRecDepth 20000 in
theorem gX4_may_X3_hasSign : GoodIn wsX4_may (wsV RX4 67 RX3 yX3_hasSign wsX3_hasSign) := goodIn_app (goodIn_of _ (by decide +kernel)) ggX4_may_X3_hasSign
set_option maxRecDepth 20000 in
theorem ggX4_may_X3_mayHaveCut : GoodIn wsX4_may wsX3_mayHaveCut := goodIn_r _ [16, 17, 18, 19, 20, 21, 3, 4, 5, 6, 7, 22, 23, 24, 25, 26, 27, 28, 29, 30, 31, 32, 33, 34, 35, 36, 37, 38, 39, 40, 41, 42, 43, 44, 45, 46, 47, 48, 57, 58, 59, 60, 61, 62, 63, 64, 65, 66, 67, 68] (by decide +kernel) (by decide +kernel)
set_option maxRecDepth 20000 in
theorem gX4_may_X3_mayHaveCut : GoodIn wsX4_may (wsV RX4 198 RX3 yX3_mayHaveCut wsX3_mayHaveCut) := goodIn_app (goodIn_of _ (by decide +kernel)) ggX4_may_X3_mayHaveCut
theorem dX4_may_0 : decode cX4_may 0 = .ok (.aload_n 0, 1) := by decide +kernel
theorem dX4_may_1 : decode cX4_may 1 = .ok (.getfield 42, 3) := by decide +kernel
theorem dX4_may_4 : decode cX4_may 4 = .ok (.iload_n 1, 1) := by decide +kernel
theorem dX4_may_5 : decode cX4_may 5 = .ok (.invokevirtual 195, 3) := by decide +kernel
theorem dX4_may_8 : decode cX4_may 8 = .ok (.ifCond .eq 14, 3) := by decide +kernel
theorem dX4_may_11 : decode cX4_may 11 = .ok (.aload_n 0, 1) := by decide +kernel
theorem dX4_may_12 : decode cX4_may 12 = .ok (.getfield 42, 3) := by decide +kernel
theorem dX4_may_15 : decode cX4_may 15 = .ok (.iload_n 2, 1) := by decide +kernel
theorem dX4_may_16 : decode cX4_may 16 = .ok (.invokevirtual 67, 3) := by decide +kernel
theorem dX4_may_19 : decode cX4_may 19 = .ok (.ifCond .ne 5, 3) := by decide +kernel
theorem dX4_may_22 : decode cX4_may 22 = .ok (.iconst (-1), 1) := by decide +kernel
theorem dX4_may_23 : decode cX4_may 23 = .ok (.ireturn, 1) := by decide +kernel
theorem dX4_may_24 : decode cX4_may 24 = .ok (.aload_n 0, 1) := by decide +kernel
theorem dX4_may_25 : decode cX4_may 25 = .ok (.getfield 42, 3) := by decide +kernel
theorem dX4_may_28 : decode cX4_may 28 = .ok (.iload_n 1, 1) := by decide +kernel
theorem dX4_may_29 : decode cX4_may 29 = .ok (.iload_n 2, 1) := by decide +kernel
theorem dX4_may_30 : decode cX4_may 30 = .ok (.invokevirtual 198, 3) := by decide +kernel
theorem dX4_may_33 : decode cX4_may 33 = .ok (.ifCond .eq 7, 3) := by decide +kernel
theorem dX4_may_36 : decode cX4_may 36 = .ok (.iconst 1, 1) := by decide +kernel
theorem dX4_may_37 : decode cX4_may 37 = .ok (.goto 4, 3) := by decide +kernel
theorem dX4_may_40 : decode cX4_may 40 = .ok (.iconst 0, 1) := by decide +kernel
theorem dX4_may_41 : decode cX4_may 41 = .ok (.ireturn, 1) := by decide +kernel
set_option maxRecDepth 20000 in
theorem ggX4_partings_X1_callOver : GoodIn wsX4_partings wsX1_callOver := goodIn_r _ [7, 8, 9, 10, 11, 12, 13, 14, 15, 16, 17, 18, 19, 20, 21, 22, 23, 24, 25, 26, 27, 28, 29, 30, 31, 32, 33, 34, 35, 36, 37, 38, 39, 6, 40, 41, 42, 43, 44, 45, 46, 47, 48, 49, 50, 51, 52, 53, 54, 55, 56, 57, 58, 59, 60, 61, 62, 63, 64, 65, 66, 67, 68, 69, 70, 71, 72, 73, 74, 75, 76, 77, 78, 79, 80, 81, 82, 83, 84, 85, 98, 99, 100, 101, 102, 103, 104, 105, 106, 107, 108, 109, 110, 111, 112, 113, 114, 115, 116] (by decide +kernel) (by decide +kernel)
set_option maxRecDepth 20000 in
theorem gX4_partings_X1_callOver : GoodIn wsX4_partings (wsV RX4 201 RX1 yX1_callOver wsX1_callOver) := goodIn_app (goodIn_of _ (by decide +kernel)) ggX4_partings_X1_callOver
set_option maxRecDepth 20000 in
theorem ggX4_partings_X1_allWays : GoodIn wsX4_partings wsX1_allWays := goodIn_r _ [89, 85, 110, 111, 112, 113, 114, 115, 116] (by decide +kernel) (by decide +kernel)
set_option maxRecDepth 20000 in
theorem gX4_partings_X1_allWays : GoodIn wsX4_partings (wsV RX4 204 RX1 yX1_allWays wsX1_allWays) := goodIn_app (goodIn_of _ (by decide +kernel)) ggX4_partings_X1_allWays
theorem dX4_partings_0 : decode cX4_partings 0 = .ok (.aload_n 0, 1) := by decide +kernel
theorem dX4_partings_1 : decode cX4_partings 1 = .ok (.getfield 19, 3) := by decide +kernel
theorem dX4_partings_4 : decode cX4_partings 4 = .ok (.aload_n 0, 1) := by decide +kernel
theorem dX4_partings_5 : decode cX4_partings 5 = .ok (.getfield 42, 3) := by decide +kernel
theorem dX4_partings_8 : decode cX4_partings 8 = .ok (.invokevirtual 201, 3) := by decide +kernel
theorem dX4_partings_11 : decode cX4_partings 11 = .ok (.aload_n 0, 1) := by decide +kernel
theorem dX4_partings_12 : decode cX4_partings 12 = .ok (.getfield 19, 3) := by decide +kernel
theorem dX4_partings_15 : decode cX4_partings 15 = .ok (.invokevirtual 204, 3) := by decide +kernel
theorem dX4_partings_18 : decode cX4_partings 18 = .ok (.lreturn, 1) := by decide +kernel
set_option maxRecDepth 20000 in
theorem ggX4_odds_X3_hasName : GoodIn wsX4_odds wsX3_hasName := goodIn_r _ [9, 10, 114, 115, 116, 117, 118, 119, 120, 121, 122, 123, 124, 125] (by decide +kernel) (by decide +kernel)
set_option maxRecDepth 20000 in
theorem gX4_odds_X3_hasName : GoodIn wsX4_odds (wsV RX4 195 RX3 yX3_hasName wsX3_hasName) := goodIn_app (goodIn_of _ (by decide +kernel)) ggX4_odds_X3_hasName
set_option maxRecDepth 20000 in
theorem ggX4_odds_X3_hasSign : GoodIn wsX4_odds wsX3_hasSign := goodIn_r _ [14, 15, 114, 115, 116, 117, 118, 119, 120, 121, 122, 123, 124, 125] (by decide +kernel) (by decide +kernel)
set_option maxRecDepth 20000 in
theorem gX4_odds_X3_hasSign : GoodIn wsX4_odds (wsV RX4 67 RX3 yX3_hasSign wsX3_hasSign) := goodIn_app (goodIn_of _ (by decide +kernel)) ggX4_odds_X3_hasSign
set_option maxRecDepth 20000 in
theorem ggX4_odds_X1_callOver : GoodIn wsX4_odds wsX1_callOver := goodIn_r _ [20, 21, 22, 23, 24, 25, 26, 27, 28, 29, 30, 12, 13, 8, 14, 15, 31, 32, 33, 34, 35, 36, 37, 38, 39, 40, 41, 42, 43, 44, 45, 46, 47, 19, 48, 49, 50, 51, 52, 53, 54, 55, 56, 6, 7, 9, 10, 57, 58, 59, 60, 61, 62, 63, 64, 65, 66, 67, 68, 69, 70, 71, 72, 73, 74, 75, 76, 77, 78, 79, 80, 81, 82, 83, 84, 85, 86, 87, 88, 89, 114, 115, 116, 117, 118, 119, 120, 121, 122, 123, 124, 125, 126, 127, 128, 129, 130, 131, 132] (by decide +kernel) (by decide +kernel)
set_option maxRecDepth 20000 in
theorem gX4_odds_X1_callOver : GoodIn wsX4_odds (wsV RX4 201 RX1 yX1_callOver wsX1_callOver) := goodIn_app (goodIn_of _ (by decide +kernel)) ggX4_odds_X1_callOver
set_option maxRecDepth 20000 in
theorem ggX4_odds_X1_allWays : GoodIn wsX4_odds wsX1_allWays := goodIn_r _ [93, 89, 126, 127, 128, 129, 130, 131, 132] (by decide +kernel) (by decide +kernel)
set_option maxRecDepth 20000 in
theorem gX4_odds_X1_allWays : GoodIn wsX4_odds (wsV RX4 204 RX1 yX1_allWays wsX1_allWays) := goodIn_app (goodIn_of _ (by decide +kernel)) ggX4_odds_X1_allWays
set_option maxRecDepth 20000 in
theorem ggX4_odds_X1_isShown : GoodIn wsX4_odds wsX1_isShown := goodIn_r _ [97, 28, 126, 127, 128, 129, 130, 131, 132] (by decide +kernel) (by decide +kernel)
set_option maxRecDepth 20000 in
theorem gX4_odds_X1_isShown : GoodIn wsX4_odds (wsV RX4 208 RX1 yX1_isShown wsX1_isShown) := goodIn_app (goodIn_of _ (by decide +kernel)) ggX4_odds_X1_isShown
set_option maxRecDepth 20000 in
theorem ggX4_odds_X1_waysTogether : GoodIn wsX4_odds wsX1_waysTogether := goodIn_r _ [101, 28, 26, 79, 89, 102, 95, 96, 19, 97, 80, 61, 62, 63, 64, 65, 66, 81, 82, 83, 84, 27, 29, 126, 127, 128, 129, 130, 131, 132] (by decide +kernel) (by decide +kernel)
set_option maxRecDepth 20000 in
theorem gX4_odds_X1_waysTogether : GoodIn wsX4_odds (wsV RX4 213 RX1 yX1_waysTogether wsX1_waysTogether) := goodIn_app (goodIn_of _ (by decide +kernel)) ggX4_odds_X1_waysTogether
set_option maxRecDepth 20000 in
theorem ggX4_odds_X4_lowest : GoodIn wsX4_odds wsX4_lowest := goodIn_r _ [105] (by decide +kernel) (by decide +kernel)
set_option maxRecDepth 20000 in
theorem gX4_odds_X4_lowest : GoodIn wsX4_odds (va_wsS RX4 132 yX4_lowest wsX4_lowest) := goodIn_app (goodIn_of _ (by decide +kernel)) ggX4_odds_X4_lowest
theorem dX4_odds_0 : decode cX4_odds 0 = .ok (.aload_n 0, 1) := by decide +kernel
theorem dX4_odds_1 : decode cX4_odds 1 = .ok (.getfield 42, 3) := by decide +kernel
theorem dX4_odds_4 : decode cX4_odds 4 = .ok (.iload_n 1, 1) := by decide +kernel
theorem dX4_odds_5 : decode cX4_odds 5 = .ok (.invokevirtual 195, 3) := by decide +kernel
theorem dX4_odds_8 : decode cX4_odds 8 = .ok (.ifCond .eq 23, 3) := by decide +kernel
theorem dX4_odds_11 : decode cX4_odds 11 = .ok (.aload_n 0, 1) := by decide +kernel
theorem dX4_odds_12 : decode cX4_odds 12 = .ok (.getfield 42, 3) := by decide +kernel
theorem dX4_odds_15 : decode cX4_odds 15 = .ok (.iload_n 2, 1) := by decide +kernel
theorem dX4_odds_16 : decode cX4_odds 16 = .ok (.invokevirtual 67, 3) := by decide +kernel
theorem dX4_odds_19 : decode cX4_odds 19 = .ok (.ifCond .eq 12, 3) := by decide +kernel
theorem dX4_odds_22 : decode cX4_odds 22 = .ok (.iload_n 3, 1) := by decide +kernel
theorem dX4_odds_23 : decode cX4_odds 23 = .ok (.ifCond .lt 8, 3) := by decide +kernel
theorem dX4_odds_26 : decode cX4_odds 26 = .ok (.iload_n 3, 1) := by decide +kernel
theorem dX4_odds_27 : decode cX4_odds 27 = .ok (.iconst 1, 1) := by decide +kernel
theorem dX4_odds_28 : decode cX4_odds 28 = .ok (.if_icmp .le 7, 3) := by decide +kernel
theorem dX4_odds_31 : decode cX4_odds 31 = .ok (.ldc2_w 114, 3) := by decide +kernel
theorem dX4_odds_34 : decode cX4_odds 34 = .ok (.lreturn, 1) := by decide +kernel
theorem dX4_odds_35 : decode cX4_odds 35 = .ok (.aload_n 0, 1) := by decide +kernel
theorem dX4_odds_36 : decode cX4_odds 36 = .ok (.getfield 19, 3) := by decide +kernel
theorem dX4_odds_39 : decode cX4_odds 39 = .ok (.aload_n 0, 1) := by decide +kernel
theorem dX4_odds_40 : decode cX4_odds 40 = .ok (.getfield 42, 3) := by decide +kernel
theorem dX4_odds_43 : decode cX4_odds 43 = .ok (.invokevirtual 201, 3) := by decide +kernel
theorem dX4_odds_46 : decode cX4_odds 46 = .ok (.aload_n 0, 1) := by decide +kernel
theorem dX4_odds_47 : decode cX4_odds 47 = .ok (.getfield 19, 3) := by decide +kernel
theorem dX4_odds_50 : decode cX4_odds 50 = .ok (.invokevirtual 204, 3) := by decide +kernel
theorem dX4_odds_53 : decode cX4_odds 53 = .ok (.lconst 0, 1) := by decide +kernel
theorem dX4_odds_54 : decode cX4_odds 54 = .ok (.lcmp, 1) := by decide +kernel
theorem dX4_odds_55 : decode cX4_odds 55 = .ok (.ifCond .eq 14, 3) := by decide +kernel
theorem dX4_odds_58 : decode cX4_odds 58 = .ok (.aload_n 0, 1) := by decide +kernel
theorem dX4_odds_59 : decode cX4_odds 59 = .ok (.getfield 19, 3) := by decide +kernel
theorem dX4_odds_62 : decode cX4_odds 62 = .ok (.iload_n 2, 1) := by decide +kernel
theorem dX4_odds_63 : decode cX4_odds 63 = .ok (.invokevirtual 208, 3) := by decide +kernel
theorem dX4_odds_66 : decode cX4_odds 66 = .ok (.ifCond .ne 7, 3) := by decide +kernel
theorem dX4_odds_69 : decode cX4_odds 69 = .ok (.ldc2_w 211, 3) := by decide +kernel
theorem dX4_odds_72 : decode cX4_odds 72 = .ok (.lreturn, 1) := by decide +kernel
theorem dX4_odds_73 : decode cX4_odds 73 = .ok (.aload_n 0, 1) := by decide +kernel
theorem dX4_odds_74 : decode cX4_odds 74 = .ok (.getfield 19, 3) := by decide +kernel
theorem dX4_odds_77 : decode cX4_odds 77 = .ok (.iload_n 1, 1) := by decide +kernel
theorem dX4_odds_78 : decode cX4_odds 78 = .ok (.iload_n 2, 1) := by decide +kernel
theorem dX4_odds_79 : decode cX4_odds 79 = .ok (.invokevirtual 213, 3) := by decide +kernel
theorem dX4_odds_82 : decode cX4_odds 82 = .ok (.aload_n 0, 1) := by decide +kernel
theorem dX4_odds_83 : decode cX4_odds 83 = .ok (.getfield 19, 3) := by decide +kernel
theorem dX4_odds_86 : decode cX4_odds 86 = .ok (.invokevirtual 204, 3) := by decide +kernel
theorem dX4_odds_89 : decode cX4_odds 89 = .ok (.iload_n 3, 1) := by decide +kernel
theorem dX4_odds_90 : decode cX4_odds 90 = .ok (.invokestatic 132, 3) := by decide +kernel
theorem dX4_odds_93 : decode cX4_odds 93 = .ok (.lreturn, 1) := by decide +kernel
set_option maxRecDepth 20000 in
theorem ggX4_named_X3_hasSign : GoodIn wsX4_named wsX3_hasSign := goodIn_r _ [7, 8, 128, 129, 130, 131, 132, 133, 134, 135, 136, 137, 138, 139] (by decide +kernel) (by decide +kernel)
set_option maxRecDepth 20000 in
theorem gX4_named_X3_hasSign : GoodIn wsX4_named (wsV RX4 67 RX3 yX3_hasSign wsX3_hasSign) := goodIn_app (goodIn_of _ (by decide +kernel)) ggX4_named_X3_hasSign
set_option maxRecDepth 20000 in
theorem ggX4_named_X1_callOver : GoodIn wsX4_named wsX1_callOver := goodIn_r _ [13, 14, 15, 16, 17, 18, 19, 20, 21, 22, 23, 4, 5, 6, 7, 8, 24, 25, 26, 27, 28, 29, 30, 31, 32, 33, 34, 35, 36, 37, 38, 39, 40, 12, 41, 42, 43, 44, 45, 46, 47, 48, 49, 50, 51, 52, 53, 54, 55, 56, 57, 58, 59, 60, 61, 62, 63, 64, 65, 66, 67, 68, 69, 70, 71, 72, 73, 74, 75, 76, 77, 78, 79, 80, 81, 82, 83, 84, 85, 86, 128, 129, 130, 131, 132, 133, 134, 135, 136, 137, 138, 139, 140, 141, 142, 143, 144, 145, 146] (by decide +kernel) (by decide +kernel)
set_option maxRecDepth 20000 in
theorem gX4_named_X1_callOver : GoodIn wsX4_named (wsV RX4 201 RX1 yX1_callOver wsX1_callOver) := goodIn_app (goodIn_of _ (by decide +kernel)) ggX4_named_X1_callOver
set_option maxRecDepth 20000 in
theorem ggX4_named_X1_allWays : GoodIn wsX4_named wsX1_allWays := goodIn_r _ [90, 86, 140, 141, 142, 143, 144, 145, 146] (by decide +kernel) (by decide +kernel)
set_option maxRecDepth 20000 in
theorem gX4_named_X1_allWays : GoodIn wsX4_named (wsV RX4 204 RX1 yX1_allWays wsX1_allWays) := goodIn_app (goodIn_of _ (by decide +kernel)) ggX4_named_X1_allWays
set_option maxRecDepth 20000 in
theorem ggX4_named_X1_listOwners : GoodIn wsX4_named wsX1_listOwners := goodIn_r _ [94, 95, 19, 20, 76, 96, 97, 98, 99, 77, 58, 59, 60, 61, 62, 63, 78, 79, 80, 12, 81, 22, 100, 101, 102, 103, 86, 140, 141, 142, 143, 144, 145, 146] (by decide +kernel) (by decide +kernel)
set_option maxRecDepth 20000 in
theorem gX4_named_X1_listOwners : GoodIn wsX4_named (wsV RX4 216 RX1 yX1_listOwners wsX1_listOwners) := goodIn_app (goodIn_of _ (by decide +kernel)) ggX4_named_X1_listOwners
set_option maxRecDepth 20000 in
theorem ggX4_named_X1_signsWithOneOwner : GoodIn wsX4_named wsX1_signsWithOneOwner := goodIn_r _ [107, 20, 95, 77, 58, 59, 60, 61, 62, 63, 140, 141, 142, 143, 144, 145, 146] (by decide +kernel) (by decide +kernel)
set_option maxRecDepth 20000 in
theorem gX4_named_X1_signsWithOneOwner : GoodIn wsX4_named (wsV RX4 219 RX1 yX1_signsWithOneOwner wsX1_signsWithOneOwner) := goodIn_app (goodIn_of _ (by decide +kernel)) ggX4_named_X1_signsWithOneOwner
set_option maxRecDepth 20000 in
theorem ggX4_named_X1_onlyOwner : GoodIn wsX4_named wsX1_onlyOwner := goodIn_r _ [111, 95, 21, 112, 113, 114, 12, 115, 77, 58, 59, 60, 61, 62, 63, 116, 117, 118, 119, 140, 141, 142, 143, 144, 145, 146] (by decide +kernel) (by decide +kernel)
set_option maxRecDepth 20000 in
theorem gX4_named_X1_onlyOwner : GoodIn wsX4_named (wsV RX4 222 RX1 yX1_onlyOwner wsX1_onlyOwner) := goodIn_app (goodIn_of _ (by decide +kernel)) ggX4_named_X1_onlyOwner
theorem dX4_named_0 : decode cX4_named 0 = .ok (.iload_n 1, 1) := by decide +kernel
theorem dX4_named_1 : decode cX4_named 1 = .ok (.iconst (-1), 1) := by decide +kernel
theorem dX4_named_2 : decode cX4_named 2 = .ok (.if_icmp .eq 16, 3) := by decide +kernel
theorem dX4_named_5 : decode cX4_named 5 = .ok (.aload_n 0, 1) := by decide +kernel
theorem dX4_named_6 : decode cX4_named 6 = .ok (.getfield 42, 3) := by decide +kernel
theorem dX4_named_9 : decode cX4_named 9 = .ok (.iload_n 1, 1) := by decide +kernel
theorem dX4_named_10 : decode cX4_named 10 = .ok (.invokevirtual 67, 3) := by decide +kernel
theorem dX4_named_13 : decode cX4_named 13 = .ok (.ifCond .ne 5, 3) := by decide +kernel
theorem dX4_named_16 : decode cX4_named 16 = .ok (.iconst (-1), 1) := by decide +kernel
theorem dX4_named_17 : decode cX4_named 17 = .ok (.ireturn, 1) := by decide +kernel
theorem dX4_named_18 : decode cX4_named 18 = .ok (.aload_n 0, 1) := by decide +kernel
theorem dX4_named_19 : decode cX4_named 19 = .ok (.getfield 19, 3) := by decide +kernel
theorem dX4_named_22 : decode cX4_named 22 = .ok (.aload_n 0, 1) := by decide +kernel
theorem dX4_named_23 : decode cX4_named 23 = .ok (.getfield 42, 3) := by decide +kernel
theorem dX4_named_26 : decode cX4_named 26 = .ok (.invokevirtual 201, 3) := by decide +kernel
theorem dX4_named_29 : decode cX4_named 29 = .ok (.aload_n 0, 1) := by decide +kernel
theorem dX4_named_30 : decode cX4_named 30 = .ok (.getfield 19, 3) := by decide +kernel
theorem dX4_named_33 : decode cX4_named 33 = .ok (.invokevirtual 204, 3) := by decide +kernel
theorem dX4_named_36 : decode cX4_named 36 = .ok (.lconst 0, 1) := by decide +kernel
theorem dX4_named_37 : decode cX4_named 37 = .ok (.lcmp, 1) := by decide +kernel
theorem dX4_named_38 : decode cX4_named 38 = .ok (.ifCond .ne 6, 3) := by decide +kernel
theorem dX4_named_41 : decode cX4_named 41 = .ok (.bipush (-2), 2) := by decide +kernel
theorem dX4_named_43 : decode cX4_named 43 = .ok (.ireturn, 1) := by decide +kernel
theorem dX4_named_44 : decode cX4_named 44 = .ok (.aload_n 0, 1) := by decide +kernel
theorem dX4_named_45 : decode cX4_named 45 = .ok (.getfield 19, 3) := by decide +kernel
theorem dX4_named_48 : decode cX4_named 48 = .ok (.invokevirtual 216, 3) := by decide +kernel
theorem dX4_named_51 : decode cX4_named 51 = .ok (.iload_n 1, 1) := by decide +kernel
theorem dX4_named_52 : decode cX4_named 52 = .ok (.iconst (-1), 1) := by decide +kernel
theorem dX4_named_53 : decode cX4_named 53 = .ok (.if_icmp .ne 13, 3) := by decide +kernel
theorem dX4_named_56 : decode cX4_named 56 = .ok (.aload_n 0, 1) := by decide +kernel
theorem dX4_named_57 : decode cX4_named 57 = .ok (.getfield 19, 3) := by decide +kernel
theorem dX4_named_60 : decode cX4_named 60 = .ok (.invokevirtual 219, 3) := by decide +kernel
theorem dX4_named_63 : decode cX4_named 63 = .ok (.goto 11, 3) := by decide +kernel
theorem dX4_named_66 : decode cX4_named 66 = .ok (.aload_n 0, 1) := by decide +kernel
theorem dX4_named_67 : decode cX4_named 67 = .ok (.getfield 19, 3) := by decide +kernel
theorem dX4_named_70 : decode cX4_named 70 = .ok (.iload_n 1, 1) := by decide +kernel
theorem dX4_named_71 : decode cX4_named 71 = .ok (.invokevirtual 222, 3) := by decide +kernel
theorem dX4_named_74 : decode cX4_named 74 = .ok (.ireturn, 1) := by decide +kernel
set_option maxRecDepth 20000 in
theorem ggX4_grown_X3_hasSign : GoodIn wsX4_grown wsX3_hasSign := goodIn_r _ [7, 8, 36, 37, 38, 39, 40, 41, 42, 43, 44, 45, 46, 47] (by decide +kernel) (by decide +kernel)
set_option maxRecDepth 20000 in
theorem gX4_grown_X3_hasSign : GoodIn wsX4_grown (wsV RX4 67 RX3 yX3_hasSign wsX3_hasSign) := goodIn_app (goodIn_of _ (by decide +kernel)) ggX4_grown_X3_hasSign
set_option maxRecDepth 20000 in
theorem ggX4_grown_X3_firstWeekShowing : GoodIn wsX4_grown wsX3_firstWeekShowing := goodIn_r _ [12, 13, 14, 15, 16, 17, 6, 18, 19, 20, 21, 22, 23, 36, 37, 38, 39, 40, 41, 42, 43, 44, 45, 46, 47] (by decide +kernel) (by decide +kernel)
set_option maxRecDepth 20000 in
theorem gX4_grown_X3_firstWeekShowing : GoodIn wsX4_grown (wsV RX4 225 RX3 yX3_firstWeekShowing wsX3_firstWeekShowing) := goodIn_app (goodIn_of _ (by decide +kernel)) ggX4_grown_X3_firstWeekShowing
set_option maxRecDepth 20000 in
theorem ggX4_grown_X3_oneCourseShowsBoth : GoodIn wsX4_grown wsX3_oneCourseShowsBoth := goodIn_r _ [27, 13, 15, 16, 17, 6, 18, 19, 20, 21, 22, 23, 36, 37, 38, 39, 40, 41, 42, 43, 44, 45, 46, 47] (by decide +kernel) (by decide +kernel)
set_option maxRecDepth 20000 in
theorem gX4_grown_X3_oneCourseShowsBoth : GoodIn wsX4_grown (wsV RX4 228 RX3 yX3_oneCourseShowsBoth wsX3_oneCourseShowsBoth) := goodIn_app (goodIn_of _ (by decide +kernel)) ggX4_grown_X3_oneCourseShowsBoth
theorem dX4_grown_0 : decode cX4_grown 0 = .ok (.aload_n 0, 1) := by decide +kernel
theorem dX4_grown_1 : decode cX4_grown 1 = .ok (.getfield 42, 3) := by decide +kernel
theorem dX4_grown_4 : decode cX4_grown 4 = .ok (.iload_n 1, 1) := by decide +kernel
theorem dX4_grown_5 : decode cX4_grown 5 = .ok (.invokevirtual 67, 3) := by decide +kernel
theorem dX4_grown_8 : decode cX4_grown 8 = .ok (.ifCond .ne 5, 3) := by decide +kernel
theorem dX4_grown_11 : decode cX4_grown 11 = .ok (.iconst (-1), 1) := by decide +kernel
theorem dX4_grown_12 : decode cX4_grown 12 = .ok (.ireturn, 1) := by decide +kernel
theorem dX4_grown_13 : decode cX4_grown 13 = .ok (.aload_n 0, 1) := by decide +kernel
theorem dX4_grown_14 : decode cX4_grown 14 = .ok (.getfield 42, 3) := by decide +kernel
theorem dX4_grown_17 : decode cX4_grown 17 = .ok (.getfield 74, 3) := by decide +kernel
theorem dX4_grown_20 : decode cX4_grown 20 = .ok (.iload_n 1, 1) := by decide +kernel
theorem dX4_grown_21 : decode cX4_grown 21 = .ok (.iaload, 1) := by decide +kernel
theorem dX4_grown_22 : decode cX4_grown 22 = .ok (.istore_n 2, 1) := by decide +kernel
theorem dX4_grown_23 : decode cX4_grown 23 = .ok (.aload_n 0, 1) := by decide +kernel
theorem dX4_grown_24 : decode cX4_grown 24 = .ok (.getfield 42, 3) := by decide +kernel
theorem dX4_grown_27 : decode cX4_grown 27 = .ok (.iload_n 2, 1) := by decide +kernel
theorem dX4_grown_28 : decode cX4_grown 28 = .ok (.invokevirtual 67, 3) := by decide +kernel
theorem dX4_grown_31 : decode cX4_grown 31 = .ok (.ifCond .ne 6, 3) := by decide +kernel
theorem dX4_grown_34 : decode cX4_grown 34 = .ok (.bipush (-2), 2) := by decide +kernel
theorem dX4_grown_36 : decode cX4_grown 36 = .ok (.ireturn, 1) := by decide +kernel
theorem dX4_grown_37 : decode cX4_grown 37 = .ok (.aload_n 0, 1) := by decide +kernel
theorem dX4_grown_38 : decode cX4_grown 38 = .ok (.getfield 42, 3) := by decide +kernel
theorem dX4_grown_41 : decode cX4_grown 41 = .ok (.iload_n 1, 1) := by decide +kernel
theorem dX4_grown_42 : decode cX4_grown 42 = .ok (.invokevirtual 225, 3) := by decide +kernel
theorem dX4_grown_45 : decode cX4_grown 45 = .ok (.istore_n 3, 1) := by decide +kernel
theorem dX4_grown_46 : decode cX4_grown 46 = .ok (.aload_n 0, 1) := by decide +kernel
theorem dX4_grown_47 : decode cX4_grown 47 = .ok (.getfield 42, 3) := by decide +kernel
theorem dX4_grown_50 : decode cX4_grown 50 = .ok (.iload_n 2, 1) := by decide +kernel
theorem dX4_grown_51 : decode cX4_grown 51 = .ok (.invokevirtual 225, 3) := by decide +kernel
theorem dX4_grown_54 : decode cX4_grown 54 = .ok (.istore 4, 2) := by decide +kernel
theorem dX4_grown_56 : decode cX4_grown 56 = .ok (.iload_n 3, 1) := by decide +kernel
theorem dX4_grown_57 : decode cX4_grown 57 = .ok (.bipush (-4), 2) := by decide +kernel
theorem dX4_grown_59 : decode cX4_grown 59 = .ok (.if_icmp .eq 10, 3) := by decide +kernel
theorem dX4_grown_62 : decode cX4_grown 62 = .ok (.iload 4, 2) := by decide +kernel
theorem dX4_grown_64 : decode cX4_grown 64 = .ok (.bipush (-4), 2) := by decide +kernel
theorem dX4_grown_66 : decode cX4_grown 66 = .ok (.if_icmp .ne 6, 3) := by decide +kernel
theorem dX4_grown_69 : decode cX4_grown 69 = .ok (.bipush (-2), 2) := by decide +kernel
theorem dX4_grown_71 : decode cX4_grown 71 = .ok (.ireturn, 1) := by decide +kernel
theorem dX4_grown_72 : decode cX4_grown 72 = .ok (.aload_n 0, 1) := by decide +kernel
theorem dX4_grown_73 : decode cX4_grown 73 = .ok (.getfield 42, 3) := by decide +kernel
theorem dX4_grown_76 : decode cX4_grown 76 = .ok (.iload_n 1, 1) := by decide +kernel
theorem dX4_grown_77 : decode cX4_grown 77 = .ok (.iload_n 2, 1) := by decide +kernel
theorem dX4_grown_78 : decode cX4_grown 78 = .ok (.invokevirtual 228, 3) := by decide +kernel
theorem dX4_grown_81 : decode cX4_grown 81 = .ok (.ifCond .eq 5, 3) := by decide +kernel
theorem dX4_grown_84 : decode cX4_grown 84 = .ok (.iconst 1, 1) := by decide +kernel
theorem dX4_grown_85 : decode cX4_grown 85 = .ok (.ireturn, 1) := by decide +kernel
theorem dX4_grown_86 : decode cX4_grown 86 = .ok (.iload_n 3, 1) := by decide +kernel
theorem dX4_grown_87 : decode cX4_grown 87 = .ok (.iload 4, 2) := by decide +kernel
theorem dX4_grown_89 : decode cX4_grown 89 = .ok (.if_icmp .lt 7, 3) := by decide +kernel
theorem dX4_grown_92 : decode cX4_grown 92 = .ok (.iconst 2, 1) := by decide +kernel
theorem dX4_grown_93 : decode cX4_grown 93 = .ok (.goto 4, 3) := by decide +kernel
theorem dX4_grown_96 : decode cX4_grown 96 = .ok (.iconst 3, 1) := by decide +kernel
theorem dX4_grown_97 : decode cX4_grown 97 = .ok (.ireturn, 1) := by decide +kernel
set_option maxRecDepth 20000 in
theorem ggX4_again_X0_weighWall : GoodIn wsX4_again wsX0_weighWall := goodIn_r _ [8, 9, 10, 11, 12, 13, 14, 15, 16, 17, 18, 19, 20, 21, 22, 23, 24, 25, 7, 26, 27, 28, 29, 30, 31, 32, 33, 34, 35, 36, 37, 38, 39, 40, 41, 42, 43, 44, 45, 46, 47, 48, 49, 50, 51, 52, 53, 54, 55, 56, 57, 58, 59, 60, 61, 62, 63, 64, 65, 66, 67, 68, 69, 70, 71, 72, 73, 74, 75, 76, 77, 78, 79, 80, 81, 82, 83, 84, 85, 86, 87, 88, 89, 129, 130, 131, 132, 133, 134, 135, 136, 137, 138, 139, 140, 119, 120, 121, 122, 123, 124, 125, 126, 127, 128] (by decide +kernel) (by decide +kernel)
set_option maxRecDepth 20000 in
theorem gX4_again_X0_weighWall : GoodIn wsX4_again (wsV RX4 136 RX0 yX0_weighWall wsX0_weighWall) := goodIn_app (goodIn_of _ (by decide +kernel)) ggX4_again_X0_weighWall
set_option maxRecDepth 20000 in
theorem ggX4_again_X0_exist : GoodIn wsX4_again wsX0_exist := goodIn_r _ [93, 63, 119, 120, 121, 122, 123, 124, 125, 126, 127, 128] (by decide +kernel) (by decide +kernel)
set_option maxRecDepth 20000 in
theorem gX4_again_X0_exist : GoodIn wsX4_again (wsV RX4 140 RX0 yX0_exist wsX0_exist) := goodIn_app (goodIn_of _ (by decide +kernel)) ggX4_again_X0_exist
set_option maxRecDepth 20000 in
theorem ggX4_again_X0_astrayAt : GoodIn wsX4_again wsX0_astrayAt := goodIn_r _ [97, 98, 99, 100, 7, 101, 12, 102, 103, 104, 105, 80, 81, 119, 120, 121, 122, 123, 124, 125, 126, 127, 128] (by decide +kernel) (by decide +kernel)
set_option maxRecDepth 20000 in
theorem gX4_again_X0_astrayAt : GoodIn wsX4_again (wsV RX4 231 RX0 yX0_astrayAt wsX0_astrayAt) := goodIn_app (goodIn_of _ (by decide +kernel)) ggX4_again_X0_astrayAt
set_option maxRecDepth 20000 in
theorem ggX4_again_X0_partAt : GoodIn wsX4_again wsX0_partAt := goodIn_r _ [105, 80, 81, 119, 120, 121, 122, 123, 124, 125, 126, 127, 128] (by decide +kernel) (by decide +kernel)
set_option maxRecDepth 20000 in
theorem gX4_again_X0_partAt : GoodIn wsX4_again (wsV RX4 151 RX0 yX0_partAt wsX0_partAt) := goodIn_app (goodIn_of _ (by decide +kernel)) ggX4_again_X0_partAt
set_option maxRecDepth 20000 in
theorem ggX4_again_X3_stonesOfPart : GoodIn wsX4_again wsX3_stonesOfPart := goodIn_r _ [110, 21, 22, 40, 41, 42, 19, 43, 44, 45, 46, 47, 48, 129, 130, 131, 132, 133, 134, 135, 136, 137, 138, 139, 140] (by decide +kernel) (by decide +kernel)
set_option maxRecDepth 20000 in
theorem gX4_again_X3_stonesOfPart : GoodIn wsX4_again (wsV RX4 97 RX3 yX3_stonesOfPart wsX3_stonesOfPart) := goodIn_app (goodIn_of _ (by decide +kernel)) ggX4_again_X3_stonesOfPart
theorem dX4_again_0 : decode cX4_again 0 = .ok (.aload_n 0, 1) := by decide +kernel
theorem dX4_again_1 : decode cX4_again 1 = .ok (.getfield 26, 3) := by decide +kernel
theorem dX4_again_4 : decode cX4_again 4 = .ok (.aload_n 0, 1) := by decide +kernel
theorem dX4_again_5 : decode cX4_again 5 = .ok (.getfield 42, 3) := by decide +kernel
theorem dX4_again_8 : decode cX4_again 8 = .ok (.invokevirtual 136, 3) := by decide +kernel
theorem dX4_again_11 : decode cX4_again 11 = .ok (.aload_n 0, 1) := by decide +kernel
theorem dX4_again_12 : decode cX4_again 12 = .ok (.getfield 26, 3) := by decide +kernel
theorem dX4_again_15 : decode cX4_again 15 = .ok (.invokevirtual 140, 3) := by decide +kernel
theorem dX4_again_18 : decode cX4_again 18 = .ok (.ifCond .ne 6, 3) := by decide +kernel
theorem dX4_again_21 : decode cX4_again 21 = .ok (.bipush (-4), 2) := by decide +kernel
theorem dX4_again_23 : decode cX4_again 23 = .ok (.ireturn, 1) := by decide +kernel
theorem dX4_again_24 : decode cX4_again 24 = .ok (.iconst 0, 1) := by decide +kernel
theorem dX4_again_25 : decode cX4_again 25 = .ok (.istore_n 1, 1) := by decide +kernel
theorem dX4_again_26 : decode cX4_again 26 = .ok (.iconst 0, 1) := by decide +kernel
theorem dX4_again_27 : decode cX4_again 27 = .ok (.istore_n 2, 1) := by decide +kernel
theorem dX4_again_28 : decode cX4_again 28 = .ok (.iload_n 2, 1) := by decide +kernel
theorem dX4_again_29 : decode cX4_again 29 = .ok (.aload_n 0, 1) := by decide +kernel
theorem dX4_again_30 : decode cX4_again 30 = .ok (.getfield 26, 3) := by decide +kernel
theorem dX4_again_33 : decode cX4_again 33 = .ok (.getfield 169, 3) := by decide +kernel
theorem dX4_again_36 : decode cX4_again 36 = .ok (.if_icmp .ge 64, 3) := by decide +kernel
theorem dX4_again_39 : decode cX4_again 39 = .ok (.aload_n 0, 1) := by decide +kernel
theorem dX4_again_40 : decode cX4_again 40 = .ok (.getfield 26, 3) := by decide +kernel
theorem dX4_again_43 : decode cX4_again 43 = .ok (.iload_n 2, 1) := by decide +kernel
theorem dX4_again_44 : decode cX4_again 44 = .ok (.invokevirtual 231, 3) := by decide +kernel
theorem dX4_again_47 : decode cX4_again 47 = .ok (.istore_n 3, 1) := by decide +kernel
theorem dX4_again_48 : decode cX4_again 48 = .ok (.iconst 0, 1) := by decide +kernel
theorem dX4_again_49 : decode cX4_again 49 = .ok (.istore 4, 2) := by decide +kernel
theorem dX4_again_51 : decode cX4_again 51 = .ok (.iload 4, 2) := by decide +kernel
theorem dX4_again_53 : decode cX4_again 53 = .ok (.bipush 16, 2) := by decide +kernel
theorem dX4_again_55 : decode cX4_again 55 = .ok (.if_icmp .ge 39, 3) := by decide +kernel
theorem dX4_again_58 : decode cX4_again 58 = .ok (.iload_n 3, 1) := by decide +kernel
theorem dX4_again_59 : decode cX4_again 59 = .ok (.iload 4, 2) := by decide +kernel
theorem dX4_again_61 : decode cX4_again 61 = .ok (.ishr, 1) := by decide +kernel
theorem dX4_again_62 : decode cX4_again 62 = .ok (.iconst 1, 1) := by decide +kernel
theorem dX4_again_63 : decode cX4_again 63 = .ok (.iand, 1) := by decide +kernel
theorem dX4_again_64 : decode cX4_again 64 = .ok (.iconst 1, 1) := by decide +kernel
theorem dX4_again_65 : decode cX4_again 65 = .ok (.if_icmp .ne 23, 3) := by decide +kernel
theorem dX4_again_68 : decode cX4_again 68 = .ok (.iload_n 1, 1) := by decide +kernel
theorem dX4_again_69 : decode cX4_again 69 = .ok (.aload_n 0, 1) := by decide +kernel
theorem dX4_again_70 : decode cX4_again 70 = .ok (.getfield 42, 3) := by decide +kernel
theorem dX4_again_73 : decode cX4_again 73 = .ok (.aload_n 0, 1) := by decide +kernel
theorem dX4_again_74 : decode cX4_again 74 = .ok (.getfield 26, 3) := by decide +kernel
theorem dX4_again_77 : decode cX4_again 77 = .ok (.iload_n 2, 1) := by decide +kernel
theorem dX4_again_78 : decode cX4_again 78 = .ok (.invokevirtual 151, 3) := by decide +kernel
theorem dX4_again_81 : decode cX4_again 81 = .ok (.iload 4, 2) := by decide +kernel
theorem dX4_again_83 : decode cX4_again 83 = .ok (.invokevirtual 97, 3) := by decide +kernel
theorem dX4_again_86 : decode cX4_again 86 = .ok (.iadd, 1) := by decide +kernel
theorem dX4_again_87 : decode cX4_again 87 = .ok (.istore_n 1, 1) := by decide +kernel
theorem dX4_again_88 : decode cX4_again 88 = .ok (.iinc 4 1, 3) := by decide +kernel
theorem dX4_again_91 : decode cX4_again 91 = .ok (.goto (-40), 3) := by decide +kernel
theorem dX4_again_94 : decode cX4_again 94 = .ok (.iinc 2 1, 3) := by decide +kernel
theorem dX4_again_97 : decode cX4_again 97 = .ok (.goto (-69), 3) := by decide +kernel
theorem dX4_again_100 : decode cX4_again 100 = .ok (.iload_n 1, 1) := by decide +kernel
theorem dX4_again_101 : decode cX4_again 101 = .ok (.ireturn, 1) := by decide +kernel
set_option maxRecDepth 20000 in
theorem ggX4_found_X4_planRow : GoodIn wsX4_found wsX4_planRow := goodIn_r _ [8, 1, 3, 9, 10, 7, 11, 78, 79, 80, 81, 82, 83, 84, 85] (by decide +kernel) (by decide +kernel)
set_option maxRecDepth 20000 in
theorem gX4_found_X4_planRow : GoodIn wsX4_found (wsV RX4 237 RX4 yX4_planRow wsX4_planRow) := goodIn_app (goodIn_of _ (by decide +kernel)) ggX4_found_X4_planRow
set_option maxRecDepth 20000 in
theorem ggX4_found_X0_clear : GoodIn wsX4_found wsX0_clear := goodIn_r _ [16, 17, 18, 19, 20, 21, 22, 23, 24, 86, 87, 88, 89, 90, 91, 92, 93, 94, 95] (by decide +kernel) (by decide +kernel)
set_option maxRecDepth 20000 in
theorem gX4_found_X0_clear : GoodIn wsX4_found (wsV RX4 241 RX0 yX0_clear wsX0_clear) := goodIn_app (goodIn_of _ (by decide +kernel)) ggX4_found_X0_clear
set_option maxRecDepth 20000 in
theorem ggX4_found_X4_letCut : GoodIn wsX4_found wsX4_letCut := goodIn_r _ [28, 2, 29, 30, 3, 31, 32, 7, 33, 34, 35, 36, 37, 38, 78, 79, 80, 81, 82, 83, 84, 85, 86, 87, 88, 89, 90, 91, 92, 93, 94, 95] (by decide +kernel) (by decide +kernel)
set_option maxRecDepth 20000 in
theorem gX4_found_X4_letCut : GoodIn wsX4_found (wsV RX4 245 RX4 yX4_letCut wsX4_letCut) := goodIn_app (goodIn_of _ (by decide +kernel)) ggX4_found_X4_letCut
set_option maxRecDepth 20000 in
theorem ggX4_found_X0_weigh : GoodIn wsX4_found wsX0_weigh := goodIn_r _ [42, 17, 43, 44, 45, 15, 46, 47, 18, 48, 49, 50, 51, 52, 53, 54, 55, 56, 57, 20, 58, 59, 60, 61, 62, 63, 64, 65, 19, 86, 87, 88, 89, 90, 91, 92, 93, 94, 95] (by decide +kernel) (by decide +kernel)
set_option maxRecDepth 20000 in
theorem gX4_found_X0_weigh : GoodIn wsX4_found (wsV RX4 249 RX0 yX0_weigh wsX0_weigh) := goodIn_app (goodIn_of _ (by decide +kernel)) ggX4_found_X0_weigh
set_option maxRecDepth 20000 in
theorem ggX4_found_X0_fewestGaps : GoodIn wsX4_found wsX0_fewestGaps := goodIn_r _ [69, 52, 86, 87, 88, 89, 90, 91, 92, 93, 94, 95] (by decide +kernel) (by decide +kernel)
set_option maxRecDepth 20000 in
theorem gX4_found_X0_fewestGaps : GoodIn wsX4_found (wsV RX4 144 RX0 yX0_fewestGaps wsX0_fewestGaps) := goodIn_app (goodIn_of _ (by decide +kernel)) ggX4_found_X0_fewestGaps
set_option maxRecDepth 20000 in
theorem ggX4_found_X0_howMany : GoodIn wsX4_found wsX0_howMany := goodIn_r _ [73, 53, 86, 87, 88, 89, 90, 91, 92, 93, 94, 95] (by decide +kernel) (by decide +kernel)
set_option maxRecDepth 20000 in
theorem gX4_found_X0_howMany : GoodIn wsX4_found (wsV RX4 148 RX0 yX0_howMany wsX0_howMany) := goodIn_app (goodIn_of _ (by decide +kernel)) ggX4_found_X0_howMany
set_option maxRecDepth 20000 in
theorem ggX4_found_X0_gapsOf : GoodIn wsX4_found wsX0_gapsOf := goodIn_r _ [77, 58, 59, 60, 15, 61, 17, 47, 18, 62, 63, 64, 65, 19, 86, 87, 88, 89, 90, 91, 92, 93, 94, 95] (by decide +kernel) (by decide +kernel)
set_option maxRecDepth 20000 in
theorem gX4_found_X0_gapsOf : GoodIn wsX4_found (wsV RX4 252 RX0 yX0_gapsOf wsX0_gapsOf) := goodIn_app (goodIn_of _ (by decide +kernel)) ggX4_found_X0_gapsOf
theorem dX4_found_0 : decode cX4_found 0 = .ok (.iload_n 1, 1) := by decide +kernel
theorem dX4_found_1 : decode cX4_found 1 = .ok (.ifCond .lt 34, 3) := by decide +kernel
theorem dX4_found_4 : decode cX4_found 4 = .ok (.iload_n 1, 1) := by decide +kernel
theorem dX4_found_5 : decode cX4_found 5 = .ok (.sipush 9999, 3) := by decide +kernel
theorem dX4_found_8 : decode cX4_found 8 = .ok (.if_icmp .gt 27, 3) := by decide +kernel
theorem dX4_found_11 : decode cX4_found 11 = .ok (.iload_n 2, 1) := by decide +kernel
theorem dX4_found_12 : decode cX4_found 12 = .ok (.iconst 2, 1) := by decide +kernel
theorem dX4_found_13 : decode cX4_found 13 = .ok (.if_icmp .lt 22, 3) := by decide +kernel
theorem dX4_found_16 : decode cX4_found 16 = .ok (.iload_n 2, 1) := by decide +kernel
theorem dX4_found_17 : decode cX4_found 17 = .ok (.bipush 6, 2) := by decide +kernel
theorem dX4_found_19 : decode cX4_found 19 = .ok (.if_icmp .gt 16, 3) := by decide +kernel
theorem dX4_found_22 : decode cX4_found 22 = .ok (.iload_n 3, 1) := by decide +kernel
theorem dX4_found_23 : decode cX4_found 23 = .ok (.ifCond .lt 12, 3) := by decide +kernel
theorem dX4_found_26 : decode cX4_found 26 = .ok (.iload_n 3, 1) := by decide +kernel
theorem dX4_found_27 : decode cX4_found 27 = .ok (.getstatic 234, 3) := by decide +kernel
theorem dX4_found_30 : decode cX4_found 30 = .ok (.iload_n 2, 1) := by decide +kernel
theorem dX4_found_31 : decode cX4_found 31 = .ok (.iaload, 1) := by decide +kernel
theorem dX4_found_32 : decode cX4_found 32 = .ok (.if_icmp .lt 5, 3) := by decide +kernel
theorem dX4_found_35 : decode cX4_found 35 = .ok (.iconst (-1), 1) := by decide +kernel
theorem dX4_found_36 : decode cX4_found 36 = .ok (.ireturn, 1) := by decide +kernel
theorem dX4_found_37 : decode cX4_found 37 = .ok (.iload 4, 2) := by decide +kernel
theorem dX4_found_39 : decode cX4_found 39 = .ok (.iconst 1, 1) := by decide +kernel
theorem dX4_found_40 : decode cX4_found 40 = .ok (.if_icmp .lt 33, 3) := by decide +kernel
theorem dX4_found_43 : decode cX4_found 43 = .ok (.iload 4, 2) := by decide +kernel
theorem dX4_found_45 : decode cX4_found 45 = .ok (.bipush 12, 2) := by decide +kernel
theorem dX4_found_47 : decode cX4_found 47 = .ok (.if_icmp .gt 26, 3) := by decide +kernel
theorem dX4_found_50 : decode cX4_found 50 = .ok (.iload 5, 2) := by decide +kernel
theorem dX4_found_52 : decode cX4_found 52 = .ok (.ifCond .lt 21, 3) := by decide +kernel
theorem dX4_found_55 : decode cX4_found 55 = .ok (.iload 5, 2) := by decide +kernel
theorem dX4_found_57 : decode cX4_found 57 = .ok (.bipush 100, 2) := by decide +kernel
theorem dX4_found_59 : decode cX4_found 59 = .ok (.if_icmp .gt 14, 3) := by decide +kernel
theorem dX4_found_62 : decode cX4_found 62 = .ok (.iload 6, 2) := by decide +kernel
theorem dX4_found_64 : decode cX4_found 64 = .ok (.ifCond .lt 9, 3) := by decide +kernel
theorem dX4_found_67 : decode cX4_found 67 = .ok (.iload 6, 2) := by decide +kernel
theorem dX4_found_69 : decode cX4_found 69 = .ok (.iconst 2, 1) := by decide +kernel
theorem dX4_found_70 : decode cX4_found 70 = .ok (.if_icmp .le 5, 3) := by decide +kernel
theorem dX4_found_73 : decode cX4_found 73 = .ok (.iconst (-1), 1) := by decide +kernel
theorem dX4_found_74 : decode cX4_found 74 = .ok (.ireturn, 1) := by decide +kernel
theorem dX4_found_75 : decode cX4_found 75 = .ok (.aload_n 0, 1) := by decide +kernel
theorem dX4_found_76 : decode cX4_found 76 = .ok (.iload_n 2, 1) := by decide +kernel
theorem dX4_found_77 : decode cX4_found 77 = .ok (.iload_n 3, 1) := by decide +kernel
theorem dX4_found_78 : decode cX4_found 78 = .ok (.invokevirtual 237, 3) := by decide +kernel
theorem dX4_found_81 : decode cX4_found 81 = .ok (.aload_n 0, 1) := by decide +kernel
theorem dX4_found_82 : decode cX4_found 82 = .ok (.getfield 26, 3) := by decide +kernel
theorem dX4_found_85 : decode cX4_found 85 = .ok (.iconst 1, 1) := by decide +kernel
theorem dX4_found_86 : decode cX4_found 86 = .ok (.iload_n 2, 1) := by decide +kernel
theorem dX4_found_87 : decode cX4_found 87 = .ok (.ishl, 1) := by decide +kernel
theorem dX4_found_88 : decode cX4_found 88 = .ok (.iconst 1, 1) := by decide +kernel
theorem dX4_found_89 : decode cX4_found 89 = .ok (.isub, 1) := by decide +kernel
theorem dX4_found_90 : decode cX4_found 90 = .ok (.invokevirtual 241, 3) := by decide +kernel
theorem dX4_found_93 : decode cX4_found 93 = .ok (.iconst 0, 1) := by decide +kernel
theorem dX4_found_94 : decode cX4_found 94 = .ok (.istore 7, 2) := by decide +kernel
theorem dX4_found_96 : decode cX4_found 96 = .ok (.iload 7, 2) := by decide +kernel
theorem dX4_found_98 : decode cX4_found 98 = .ok (.iload 4, 2) := by decide +kernel
theorem dX4_found_100 : decode cX4_found 100 = .ok (.if_icmp .ge 19, 3) := by decide +kernel
theorem dX4_found_103 : decode cX4_found 103 = .ok (.aload_n 0, 1) := by decide +kernel
theorem dX4_found_104 : decode cX4_found 104 = .ok (.iload_n 1, 1) := by decide +kernel
theorem dX4_found_105 : decode cX4_found 105 = .ok (.iload_n 2, 1) := by decide +kernel
theorem dX4_found_106 : decode cX4_found 106 = .ok (.iload 7, 2) := by decide +kernel
theorem dX4_found_108 : decode cX4_found 108 = .ok (.iload 5, 2) := by decide +kernel
theorem dX4_found_110 : decode cX4_found 110 = .ok (.invokevirtual 245, 3) := by decide +kernel
theorem dX4_found_113 : decode cX4_found 113 = .ok (.iinc 7 1, 3) := by decide +kernel
theorem dX4_found_116 : decode cX4_found 116 = .ok (.goto (-20), 3) := by decide +kernel
theorem dX4_found_119 : decode cX4_found 119 = .ok (.aload_n 0, 1) := by decide +kernel
theorem dX4_found_120 : decode cX4_found 120 = .ok (.getfield 26, 3) := by decide +kernel
theorem dX4_found_123 : decode cX4_found 123 = .ok (.invokevirtual 249, 3) := by decide +kernel
theorem dX4_found_126 : decode cX4_found 126 = .ok (.iload 6, 2) := by decide +kernel
theorem dX4_found_128 : decode cX4_found 128 = .ok (.ifCond .ne 11, 3) := by decide +kernel
theorem dX4_found_131 : decode cX4_found 131 = .ok (.aload_n 0, 1) := by decide +kernel
theorem dX4_found_132 : decode cX4_found 132 = .ok (.getfield 26, 3) := by decide +kernel
theorem dX4_found_135 : decode cX4_found 135 = .ok (.invokevirtual 144, 3) := by decide +kernel
theorem dX4_found_138 : decode cX4_found 138 = .ok (.ireturn, 1) := by decide +kernel
theorem dX4_found_139 : decode cX4_found 139 = .ok (.iload 6, 2) := by decide +kernel
theorem dX4_found_141 : decode cX4_found 141 = .ok (.iconst 1, 1) := by decide +kernel
theorem dX4_found_142 : decode cX4_found 142 = .ok (.if_icmp .ne 11, 3) := by decide +kernel
theorem dX4_found_145 : decode cX4_found 145 = .ok (.aload_n 0, 1) := by decide +kernel
theorem dX4_found_146 : decode cX4_found 146 = .ok (.getfield 26, 3) := by decide +kernel
theorem dX4_found_149 : decode cX4_found 149 = .ok (.invokevirtual 148, 3) := by decide +kernel
theorem dX4_found_152 : decode cX4_found 152 = .ok (.ireturn, 1) := by decide +kernel
theorem dX4_found_153 : decode cX4_found 153 = .ok (.aload_n 0, 1) := by decide +kernel
theorem dX4_found_154 : decode cX4_found 154 = .ok (.getfield 26, 3) := by decide +kernel
theorem dX4_found_157 : decode cX4_found 157 = .ok (.aload_n 0, 1) := by decide +kernel
theorem dX4_found_158 : decode cX4_found 158 = .ok (.getfield 30, 3) := by decide +kernel
theorem dX4_found_161 : decode cX4_found 161 = .ok (.iload_n 2, 1) := by decide +kernel
theorem dX4_found_162 : decode cX4_found 162 = .ok (.invokevirtual 252, 3) := by decide +kernel
theorem dX4_found_165 : decode cX4_found 165 = .ok (.aload_n 0, 1) := by decide +kernel
theorem dX4_found_166 : decode cX4_found 166 = .ok (.getfield 26, 3) := by decide +kernel
theorem dX4_found_169 : decode cX4_found 169 = .ok (.invokevirtual 144, 3) := by decide +kernel
theorem dX4_found_172 : decode cX4_found 172 = .ok (.if_icmp .ne 7, 3) := by decide +kernel
theorem dX4_found_175 : decode cX4_found 175 = .ok (.iconst 1, 1) := by decide +kernel
theorem dX4_found_176 : decode cX4_found 176 = .ok (.goto 4, 3) := by decide +kernel
theorem dX4_found_179 : decode cX4_found 179 = .ok (.iconst 0, 1) := by decide +kernel
theorem dX4_found_180 : decode cX4_found 180 = .ok (.ireturn, 1) := by decide +kernel
theorem dX4_keep_0 : decode cX4_keep 0 = .ok (.aload_n 0, 1) := by decide +kernel
theorem dX4_keep_1 : decode cX4_keep 1 = .ok (.getfield 49, 3) := by decide +kernel
theorem dX4_keep_4 : decode cX4_keep 4 = .ok (.iconst 2, 1) := by decide +kernel
theorem dX4_keep_5 : decode cX4_keep 5 = .ok (.if_icmp .lt 6, 3) := by decide +kernel
theorem dX4_keep_8 : decode cX4_keep 8 = .ok (.bipush (-3), 2) := by decide +kernel
theorem dX4_keep_10 : decode cX4_keep 10 = .ok (.ireturn, 1) := by decide +kernel
theorem dX4_keep_11 : decode cX4_keep 11 = .ok (.aload_n 0, 1) := by decide +kernel
theorem dX4_keep_12 : decode cX4_keep 12 = .ok (.getfield 42, 3) := by decide +kernel
theorem dX4_keep_15 : decode cX4_keep 15 = .ok (.getfield 256, 3) := by decide +kernel
theorem dX4_keep_18 : decode cX4_keep 18 = .ok (.iconst 0, 1) := by decide +kernel
theorem dX4_keep_19 : decode cX4_keep 19 = .ok (.aload_n 0, 1) := by decide +kernel
theorem dX4_keep_20 : decode cX4_keep 20 = .ok (.getfield 36, 3) := by decide +kernel
theorem dX4_keep_23 : decode cX4_keep 23 = .ok (.aload_n 0, 1) := by decide +kernel
theorem dX4_keep_24 : decode cX4_keep 24 = .ok (.getfield 49, 3) := by decide +kernel
theorem dX4_keep_27 : decode cX4_keep 27 = .ok (.aaload, 1) := by decide +kernel
theorem dX4_keep_28 : decode cX4_keep 28 = .ok (.iconst 0, 1) := by decide +kernel
theorem dX4_keep_29 : decode cX4_keep 29 = .ok (.sipush 288, 3) := by decide +kernel
theorem dX4_keep_32 : decode cX4_keep 32 = .ok (.invokestatic 259, 3) := by decide +kernel
theorem dX4_keep_35 : decode cX4_keep 35 = .ok (.aload_n 0, 1) := by decide +kernel
theorem dX4_keep_36 : decode cX4_keep 36 = .ok (.dup, 1) := by decide +kernel
theorem dX4_keep_37 : decode cX4_keep 37 = .ok (.getfield 49, 3) := by decide +kernel
theorem dX4_keep_40 : decode cX4_keep 40 = .ok (.iconst 1, 1) := by decide +kernel
theorem dX4_keep_41 : decode cX4_keep 41 = .ok (.iadd, 1) := by decide +kernel
theorem dX4_keep_42 : decode cX4_keep 42 = .ok (.putfield 49, 3) := by decide +kernel
theorem dX4_keep_45 : decode cX4_keep 45 = .ok (.aload_n 0, 1) := by decide +kernel
theorem dX4_keep_46 : decode cX4_keep 46 = .ok (.getfield 49, 3) := by decide +kernel
theorem dX4_keep_49 : decode cX4_keep 49 = .ok (.ireturn, 1) := by decide +kernel
theorem dX4_back_0 : decode cX4_back 0 = .ok (.aload_n 0, 1) := by decide +kernel
theorem dX4_back_1 : decode cX4_back 1 = .ok (.getfield 49, 3) := by decide +kernel
theorem dX4_back_4 : decode cX4_back 4 = .ok (.iconst 1, 1) := by decide +kernel
theorem dX4_back_5 : decode cX4_back 5 = .ok (.if_icmp .ge 6, 3) := by decide +kernel
theorem dX4_back_8 : decode cX4_back 8 = .ok (.bipush (-2), 2) := by decide +kernel
theorem dX4_back_10 : decode cX4_back 10 = .ok (.ireturn, 1) := by decide +kernel
theorem dX4_back_11 : decode cX4_back 11 = .ok (.aload_n 0, 1) := by decide +kernel
theorem dX4_back_12 : decode cX4_back 12 = .ok (.dup, 1) := by decide +kernel
theorem dX4_back_13 : decode cX4_back 13 = .ok (.getfield 49, 3) := by decide +kernel
theorem dX4_back_16 : decode cX4_back 16 = .ok (.iconst 1, 1) := by decide +kernel
theorem dX4_back_17 : decode cX4_back 17 = .ok (.isub, 1) := by decide +kernel
theorem dX4_back_18 : decode cX4_back 18 = .ok (.putfield 49, 3) := by decide +kernel
theorem dX4_back_21 : decode cX4_back 21 = .ok (.aload_n 0, 1) := by decide +kernel
theorem dX4_back_22 : decode cX4_back 22 = .ok (.getfield 36, 3) := by decide +kernel
theorem dX4_back_25 : decode cX4_back 25 = .ok (.aload_n 0, 1) := by decide +kernel
theorem dX4_back_26 : decode cX4_back 26 = .ok (.getfield 49, 3) := by decide +kernel
theorem dX4_back_29 : decode cX4_back 29 = .ok (.aaload, 1) := by decide +kernel
theorem dX4_back_30 : decode cX4_back 30 = .ok (.iconst 0, 1) := by decide +kernel
theorem dX4_back_31 : decode cX4_back 31 = .ok (.aload_n 0, 1) := by decide +kernel
theorem dX4_back_32 : decode cX4_back 32 = .ok (.getfield 42, 3) := by decide +kernel
theorem dX4_back_35 : decode cX4_back 35 = .ok (.getfield 256, 3) := by decide +kernel
theorem dX4_back_38 : decode cX4_back 38 = .ok (.iconst 0, 1) := by decide +kernel
theorem dX4_back_39 : decode cX4_back 39 = .ok (.sipush 288, 3) := by decide +kernel
theorem dX4_back_42 : decode cX4_back 42 = .ok (.invokestatic 259, 3) := by decide +kernel
theorem dX4_back_45 : decode cX4_back 45 = .ok (.aload_n 0, 1) := by decide +kernel
theorem dX4_back_46 : decode cX4_back 46 = .ok (.getfield 49, 3) := by decide +kernel
theorem dX4_back_49 : decode cX4_back 49 = .ok (.ireturn, 1) := by decide +kernel
set_option maxRecDepth 20000 in
theorem ggX4_count_X3_partBits : GoodIn wsX4_count wsX3_partBits := goodIn_r _ [12, 13, 14, 47, 48, 49, 50, 51, 52, 53, 54, 55, 56, 57, 58] (by decide +kernel) (by decide +kernel)
set_option maxRecDepth 20000 in
theorem gX4_count_X3_partBits : GoodIn wsX4_count (wsV RX4 157 RX3 yX3_partBits wsX3_partBits) := goodIn_app (goodIn_of _ (by decide +kernel)) ggX4_count_X3_partBits
set_option maxRecDepth 20000 in
theorem ggX4_count_J6_bitCount_0f7a4 : GoodIn wsX4_count wsJ6_bitCount_0f7a4 := goodIn_r _ [18, 19, 20, 21] (by decide +kernel) (by decide +kernel)
set_option maxRecDepth 20000 in
theorem gX4_count_J6_bitCount_0f7a4 : GoodIn wsX4_count (va_wsS RX4 116 yJ6_bitCount_0f7a4 wsJ6_bitCount_0f7a4) := goodIn_app (goodIn_of _ (by decide +kernel)) ggX4_count_J6_bitCount_0f7a4
set_option maxRecDepth 20000 in
theorem ggX4_count_X3_allStones : GoodIn wsX4_count wsX3_allStones := goodIn_r _ [25, 13, 26, 27, 28, 11, 29, 30, 31, 32, 33, 34, 35, 36, 37, 38, 47, 48, 49, 50, 51, 52, 53, 54, 55, 56, 57, 58] (by decide +kernel) (by decide +kernel)
set_option maxRecDepth 20000 in
theorem gX4_count_X3_allStones : GoodIn wsX4_count (wsV RX4 268 RX3 yX3_allStones wsX3_allStones) := goodIn_app (goodIn_of _ (by decide +kernel)) ggX4_count_X3_allStones
theorem dX4_count_0 : decode cX4_count 0 = .ok (.iload_n 1, 1) := by decide +kernel
theorem dX4_count_1 : decode cX4_count 1 = .ok (.tableswitch 99 0 6 #[43, 51, 59, 70, 78, 86, 91], 43) := by decide +kernel
theorem dX4_count_44 : decode cX4_count 44 = .ok (.aload_n 0, 1) := by decide +kernel
theorem dX4_count_45 : decode cX4_count 45 = .ok (.getfield 42, 3) := by decide +kernel
theorem dX4_count_48 : decode cX4_count 48 = .ok (.getfield 121, 3) := by decide +kernel
theorem dX4_count_51 : decode cX4_count 51 = .ok (.ireturn, 1) := by decide +kernel
theorem dX4_count_52 : decode cX4_count 52 = .ok (.aload_n 0, 1) := by decide +kernel
theorem dX4_count_53 : decode cX4_count 53 = .ok (.getfield 42, 3) := by decide +kernel
theorem dX4_count_56 : decode cX4_count 56 = .ok (.getfield 64, 3) := by decide +kernel
theorem dX4_count_59 : decode cX4_count 59 = .ok (.ireturn, 1) := by decide +kernel
theorem dX4_count_60 : decode cX4_count 60 = .ok (.aload_n 0, 1) := by decide +kernel
theorem dX4_count_61 : decode cX4_count 61 = .ok (.getfield 42, 3) := by decide +kernel
theorem dX4_count_64 : decode cX4_count 64 = .ok (.invokevirtual 157, 3) := by decide +kernel
theorem dX4_count_67 : decode cX4_count 67 = .ok (.invokestatic 116, 3) := by decide +kernel
theorem dX4_count_70 : decode cX4_count 70 = .ok (.ireturn, 1) := by decide +kernel
theorem dX4_count_71 : decode cX4_count 71 = .ok (.aload_n 0, 1) := by decide +kernel
theorem dX4_count_72 : decode cX4_count 72 = .ok (.getfield 42, 3) := by decide +kernel
theorem dX4_count_75 : decode cX4_count 75 = .ok (.getfield 265, 3) := by decide +kernel
theorem dX4_count_78 : decode cX4_count 78 = .ok (.ireturn, 1) := by decide +kernel
theorem dX4_count_79 : decode cX4_count 79 = .ok (.aload_n 0, 1) := by decide +kernel
theorem dX4_count_80 : decode cX4_count 80 = .ok (.getfield 12, 3) := by decide +kernel
theorem dX4_count_83 : decode cX4_count 83 = .ok (.getfield 53, 3) := by decide +kernel
theorem dX4_count_86 : decode cX4_count 86 = .ok (.ireturn, 1) := by decide +kernel
theorem dX4_count_87 : decode cX4_count 87 = .ok (.aload_n 0, 1) := by decide +kernel
theorem dX4_count_88 : decode cX4_count 88 = .ok (.getfield 49, 3) := by decide +kernel
theorem dX4_count_91 : decode cX4_count 91 = .ok (.ireturn, 1) := by decide +kernel
theorem dX4_count_92 : decode cX4_count 92 = .ok (.aload_n 0, 1) := by decide +kernel
theorem dX4_count_93 : decode cX4_count 93 = .ok (.getfield 42, 3) := by decide +kernel
theorem dX4_count_96 : decode cX4_count 96 = .ok (.invokevirtual 268, 3) := by decide +kernel
theorem dX4_count_99 : decode cX4_count 99 = .ok (.ireturn, 1) := by decide +kernel
theorem dX4_count_100 : decode cX4_count 100 = .ok (.iconst (-1), 1) := by decide +kernel
theorem dX4_count_101 : decode cX4_count 101 = .ok (.ireturn, 1) := by decide +kernel
set_option maxRecDepth 20000 in
theorem ggX4_areTwoParts_X3_hasPart : GoodIn wsX4_areTwoParts wsX3_hasPart := goodIn_r _ [6, 7, 8, 9, 5, 10, 11, 12, 21, 22, 23, 24, 25, 26, 27, 28, 29, 30, 31, 32] (by decide +kernel) (by decide +kernel)
set_option maxRecDepth 20000 in
theorem gX4_areTwoParts_X3_hasPart : GoodIn wsX4_areTwoParts (wsV RX4 94 RX3 yX3_hasPart wsX3_hasPart) := goodIn_app (goodIn_of _ (by decide +kernel)) ggX4_areTwoParts_X3_hasPart
theorem dX4_areTwoParts_0 : decode cX4_areTwoParts 0 = .ok (.aload_n 0, 1) := by decide +kernel
theorem dX4_areTwoParts_1 : decode cX4_areTwoParts 1 = .ok (.getfield 42, 3) := by decide +kernel
theorem dX4_areTwoParts_4 : decode cX4_areTwoParts 4 = .ok (.iload_n 1, 1) := by decide +kernel
theorem dX4_areTwoParts_5 : decode cX4_areTwoParts 5 = .ok (.invokevirtual 94, 3) := by decide +kernel
theorem dX4_areTwoParts_8 : decode cX4_areTwoParts 8 = .ok (.ifCond .eq 23, 3) := by decide +kernel
theorem dX4_areTwoParts_11 : decode cX4_areTwoParts 11 = .ok (.aload_n 0, 1) := by decide +kernel
theorem dX4_areTwoParts_12 : decode cX4_areTwoParts 12 = .ok (.getfield 42, 3) := by decide +kernel
theorem dX4_areTwoParts_15 : decode cX4_areTwoParts 15 = .ok (.iload_n 2, 1) := by decide +kernel
theorem dX4_areTwoParts_16 : decode cX4_areTwoParts 16 = .ok (.invokevirtual 94, 3) := by decide +kernel
theorem dX4_areTwoParts_19 : decode cX4_areTwoParts 19 = .ok (.ifCond .eq 12, 3) := by decide +kernel
theorem dX4_areTwoParts_22 : decode cX4_areTwoParts 22 = .ok (.iload_n 1, 1) := by decide +kernel
theorem dX4_areTwoParts_23 : decode cX4_areTwoParts 23 = .ok (.iload_n 2, 1) := by decide +kernel
theorem dX4_areTwoParts_24 : decode cX4_areTwoParts 24 = .ok (.if_icmp .eq 7, 3) := by decide +kernel
theorem dX4_areTwoParts_27 : decode cX4_areTwoParts 27 = .ok (.iconst 1, 1) := by decide +kernel
theorem dX4_areTwoParts_28 : decode cX4_areTwoParts 28 = .ok (.goto 4, 3) := by decide +kernel
theorem dX4_areTwoParts_31 : decode cX4_areTwoParts 31 = .ok (.iconst 0, 1) := by decide +kernel
theorem dX4_areTwoParts_32 : decode cX4_areTwoParts 32 = .ok (.ireturn, 1) := by decide +kernel
set_option maxRecDepth 20000 in
theorem ggX4_planRow_X4_freePart : GoodIn wsX4_planRow wsX4_freePart := goodIn_r _ [6] (by decide +kernel) (by decide +kernel)
set_option maxRecDepth 20000 in
theorem gX4_planRow_X4_freePart : GoodIn wsX4_planRow (va_wsS RX4 271 yX4_freePart wsX4_freePart) := goodIn_app (goodIn_of _ (by decide +kernel)) ggX4_planRow_X4_freePart
theorem dX4_planRow_0 : decode cX4_planRow 0 = .ok (.iconst 1, 1) := by decide +kernel
theorem dX4_planRow_1 : decode cX4_planRow 1 = .ok (.iload_n 1, 1) := by decide +kernel
theorem dX4_planRow_2 : decode cX4_planRow 2 = .ok (.ishl, 1) := by decide +kernel
theorem dX4_planRow_3 : decode cX4_planRow 3 = .ok (.iconst 1, 1) := by decide +kernel
theorem dX4_planRow_4 : decode cX4_planRow 4 = .ok (.isub, 1) := by decide +kernel
theorem dX4_planRow_5 : decode cX4_planRow 5 = .ok (.istore_n 3, 1) := by decide +kernel
theorem dX4_planRow_6 : decode cX4_planRow 6 = .ok (.iload_n 2, 1) := by decide +kernel
theorem dX4_planRow_7 : decode cX4_planRow 7 = .ok (.istore 4, 2) := by decide +kernel
theorem dX4_planRow_9 : decode cX4_planRow 9 = .ok (.iconst 0, 1) := by decide +kernel
theorem dX4_planRow_10 : decode cX4_planRow 10 = .ok (.istore 5, 2) := by decide +kernel
theorem dX4_planRow_12 : decode cX4_planRow 12 = .ok (.iload 5, 2) := by decide +kernel
theorem dX4_planRow_14 : decode cX4_planRow 14 = .ok (.iload_n 1, 1) := by decide +kernel
theorem dX4_planRow_15 : decode cX4_planRow 15 = .ok (.if_icmp .ge 57, 3) := by decide +kernel
theorem dX4_planRow_18 : decode cX4_planRow 18 = .ok (.getstatic 234, 3) := by decide +kernel
theorem dX4_planRow_21 : decode cX4_planRow 21 = .ok (.iload_n 1, 1) := by decide +kernel
theorem dX4_planRow_22 : decode cX4_planRow 22 = .ok (.iconst 1, 1) := by decide +kernel
theorem dX4_planRow_23 : decode cX4_planRow 23 = .ok (.isub, 1) := by decide +kernel
theorem dX4_planRow_24 : decode cX4_planRow 24 = .ok (.iload 5, 2) := by decide +kernel
theorem dX4_planRow_26 : decode cX4_planRow 26 = .ok (.isub, 1) := by decide +kernel
theorem dX4_planRow_27 : decode cX4_planRow 27 = .ok (.iaload, 1) := by decide +kernel
theorem dX4_planRow_28 : decode cX4_planRow 28 = .ok (.istore 6, 2) := by decide +kernel
theorem dX4_planRow_30 : decode cX4_planRow 30 = .ok (.iload_n 3, 1) := by decide +kernel
theorem dX4_planRow_31 : decode cX4_planRow 31 = .ok (.iload 4, 2) := by decide +kernel
theorem dX4_planRow_33 : decode cX4_planRow 33 = .ok (.iload 6, 2) := by decide +kernel
theorem dX4_planRow_35 : decode cX4_planRow 35 = .ok (.idiv, 1) := by decide +kernel
theorem dX4_planRow_36 : decode cX4_planRow 36 = .ok (.invokestatic 271, 3) := by decide +kernel
theorem dX4_planRow_39 : decode cX4_planRow 39 = .ok (.istore 7, 2) := by decide +kernel
theorem dX4_planRow_41 : decode cX4_planRow 41 = .ok (.aload_n 0, 1) := by decide +kernel
theorem dX4_planRow_42 : decode cX4_planRow 42 = .ok (.getfield 30, 3) := by decide +kernel
theorem dX4_planRow_45 : decode cX4_planRow 45 = .ok (.iload 5, 2) := by decide +kernel
theorem dX4_planRow_47 : decode cX4_planRow 47 = .ok (.iload 7, 2) := by decide +kernel
theorem dX4_planRow_49 : decode cX4_planRow 49 = .ok (.iastore, 1) := by decide +kernel
theorem dX4_planRow_50 : decode cX4_planRow 50 = .ok (.iload_n 3, 1) := by decide +kernel
theorem dX4_planRow_51 : decode cX4_planRow 51 = .ok (.iconst 1, 1) := by decide +kernel
theorem dX4_planRow_52 : decode cX4_planRow 52 = .ok (.iload 7, 2) := by decide +kernel
theorem dX4_planRow_54 : decode cX4_planRow 54 = .ok (.ishl, 1) := by decide +kernel
theorem dX4_planRow_55 : decode cX4_planRow 55 = .ok (.iconst (-1), 1) := by decide +kernel
theorem dX4_planRow_56 : decode cX4_planRow 56 = .ok (.ixor, 1) := by decide +kernel
theorem dX4_planRow_57 : decode cX4_planRow 57 = .ok (.iand, 1) := by decide +kernel
theorem dX4_planRow_58 : decode cX4_planRow 58 = .ok (.istore_n 3, 1) := by decide +kernel
theorem dX4_planRow_59 : decode cX4_planRow 59 = .ok (.iload 4, 2) := by decide +kernel
theorem dX4_planRow_61 : decode cX4_planRow 61 = .ok (.iload 6, 2) := by decide +kernel
theorem dX4_planRow_63 : decode cX4_planRow 63 = .ok (.irem, 1) := by decide +kernel
theorem dX4_planRow_64 : decode cX4_planRow 64 = .ok (.istore 4, 2) := by decide +kernel
theorem dX4_planRow_66 : decode cX4_planRow 66 = .ok (.iinc 5 1, 3) := by decide +kernel
theorem dX4_planRow_69 : decode cX4_planRow 69 = .ok (.goto (-57), 3) := by decide +kernel
theorem dX4_planRow_72 : decode cX4_planRow 72 = .ok (.return_, 1) := by decide +kernel
theorem dX4_freePart_0 : decode cX4_freePart 0 = .ok (.iload_n 1, 1) := by decide +kernel
theorem dX4_freePart_1 : decode cX4_freePart 1 = .ok (.istore_n 2, 1) := by decide +kernel
theorem dX4_freePart_2 : decode cX4_freePart 2 = .ok (.iconst 0, 1) := by decide +kernel
theorem dX4_freePart_3 : decode cX4_freePart 3 = .ok (.istore_n 3, 1) := by decide +kernel
theorem dX4_freePart_4 : decode cX4_freePart 4 = .ok (.iload_n 3, 1) := by decide +kernel
theorem dX4_freePart_5 : decode cX4_freePart 5 = .ok (.bipush 6, 2) := by decide +kernel
theorem dX4_freePart_7 : decode cX4_freePart 7 = .ok (.if_icmp .ge 27, 3) := by decide +kernel
theorem dX4_freePart_10 : decode cX4_freePart 10 = .ok (.iload_n 0, 1) := by decide +kernel
theorem dX4_freePart_11 : decode cX4_freePart 11 = .ok (.iload_n 3, 1) := by decide +kernel
theorem dX4_freePart_12 : decode cX4_freePart 12 = .ok (.ishr, 1) := by decide +kernel
theorem dX4_freePart_13 : decode cX4_freePart 13 = .ok (.iconst 1, 1) := by decide +kernel
theorem dX4_freePart_14 : decode cX4_freePart 14 = .ok (.iand, 1) := by decide +kernel
theorem dX4_freePart_15 : decode cX4_freePart 15 = .ok (.iconst 1, 1) := by decide +kernel
theorem dX4_freePart_16 : decode cX4_freePart 16 = .ok (.if_icmp .ne 12, 3) := by decide +kernel
theorem dX4_freePart_19 : decode cX4_freePart 19 = .ok (.iload_n 2, 1) := by decide +kernel
theorem dX4_freePart_20 : decode cX4_freePart 20 = .ok (.ifCond .ne 5, 3) := by decide +kernel
theorem dX4_freePart_23 : decode cX4_freePart 23 = .ok (.iload_n 3, 1) := by decide +kernel
theorem dX4_freePart_24 : decode cX4_freePart 24 = .ok (.ireturn, 1) := by decide +kernel
theorem dX4_freePart_25 : decode cX4_freePart 25 = .ok (.iinc 2 (-1), 3) := by decide +kernel
theorem dX4_freePart_28 : decode cX4_freePart 28 = .ok (.iinc 3 1, 3) := by decide +kernel
theorem dX4_freePart_31 : decode cX4_freePart 31 = .ok (.goto (-27), 3) := by decide +kernel
theorem dX4_freePart_34 : decode cX4_freePart 34 = .ok (.iconst 0, 1) := by decide +kernel
theorem dX4_freePart_35 : decode cX4_freePart 35 = .ok (.ireturn, 1) := by decide +kernel
set_option maxRecDepth 20000 in
theorem ggX4_letCut_X4_drawn : GoodIn wsX4_letCut wsX4_drawn := goodIn_r _ [8, 9, 10, 11, 12, 13] (by decide +kernel) (by decide +kernel)
set_option maxRecDepth 20000 in
theorem gX4_letCut_X4_drawn : GoodIn wsX4_letCut (va_wsS RX4 274 yX4_drawn wsX4_drawn) := goodIn_app (goodIn_of _ (by decide +kernel)) ggX4_letCut_X4_drawn
theorem dX4_letCut_0 : decode cX4_letCut 0 = .ok (.iload_n 1, 1) := by decide +kernel
theorem dX4_letCut_1 : decode cX4_letCut 1 = .ok (.iload_n 3, 1) := by decide +kernel
theorem dX4_letCut_2 : decode cX4_letCut 2 = .ok (.iconst 0, 1) := by decide +kernel
theorem dX4_letCut_3 : decode cX4_letCut 3 = .ok (.invokestatic 274, 3) := by decide +kernel
theorem dX4_letCut_6 : decode cX4_letCut 6 = .ok (.iload_n 2, 1) := by decide +kernel
theorem dX4_letCut_7 : decode cX4_letCut 7 = .ok (.irem, 1) := by decide +kernel
theorem dX4_letCut_8 : decode cX4_letCut 8 = .ok (.istore 5, 2) := by decide +kernel
theorem dX4_letCut_10 : decode cX4_letCut 10 = .ok (.iconst 1, 1) := by decide +kernel
theorem dX4_letCut_11 : decode cX4_letCut 11 = .ok (.iload_n 1, 1) := by decide +kernel
theorem dX4_letCut_12 : decode cX4_letCut 12 = .ok (.iload_n 3, 1) := by decide +kernel
theorem dX4_letCut_13 : decode cX4_letCut 13 = .ok (.iconst 1, 1) := by decide +kernel
theorem dX4_letCut_14 : decode cX4_letCut 14 = .ok (.invokestatic 274, 3) := by decide +kernel
theorem dX4_letCut_17 : decode cX4_letCut 17 = .ok (.iconst 3, 1) := by decide +kernel
theorem dX4_letCut_18 : decode cX4_letCut 18 = .ok (.irem, 1) := by decide +kernel
theorem dX4_letCut_19 : decode cX4_letCut 19 = .ok (.iadd, 1) := by decide +kernel
theorem dX4_letCut_20 : decode cX4_letCut 20 = .ok (.istore 6, 2) := by decide +kernel
theorem dX4_letCut_22 : decode cX4_letCut 22 = .ok (.aload_n 0, 1) := by decide +kernel
theorem dX4_letCut_23 : decode cX4_letCut 23 = .ok (.getfield 26, 3) := by decide +kernel
theorem dX4_letCut_26 : decode cX4_letCut 26 = .ok (.getfield 277, 3) := by decide +kernel
theorem dX4_letCut_29 : decode cX4_letCut 29 = .ok (.iload_n 3, 1) := by decide +kernel
theorem dX4_letCut_30 : decode cX4_letCut 30 = .ok (.iconst 1, 1) := by decide +kernel
theorem dX4_letCut_31 : decode cX4_letCut 31 = .ok (.iload_n 1, 1) := by decide +kernel
theorem dX4_letCut_32 : decode cX4_letCut 32 = .ok (.iload_n 3, 1) := by decide +kernel
theorem dX4_letCut_33 : decode cX4_letCut 33 = .ok (.iconst 2, 1) := by decide +kernel
theorem dX4_letCut_34 : decode cX4_letCut 34 = .ok (.invokestatic 274, 3) := by decide +kernel
theorem dX4_letCut_37 : decode cX4_letCut 37 = .ok (.iconst 5, 1) := by decide +kernel
theorem dX4_letCut_38 : decode cX4_letCut 38 = .ok (.irem, 1) := by decide +kernel
theorem dX4_letCut_39 : decode cX4_letCut 39 = .ok (.iadd, 1) := by decide +kernel
theorem dX4_letCut_40 : decode cX4_letCut 40 = .ok (.iastore, 1) := by decide +kernel
theorem dX4_letCut_41 : decode cX4_letCut 41 = .ok (.iload 5, 2) := by decide +kernel
theorem dX4_letCut_43 : decode cX4_letCut 43 = .ok (.istore 7, 2) := by decide +kernel
theorem dX4_letCut_45 : decode cX4_letCut 45 = .ok (.iload 7, 2) := by decide +kernel
theorem dX4_letCut_47 : decode cX4_letCut 47 = .ok (.iload_n 2, 1) := by decide +kernel
theorem dX4_letCut_48 : decode cX4_letCut 48 = .ok (.if_icmp .ge 58, 3) := by decide +kernel
theorem dX4_letCut_51 : decode cX4_letCut 51 = .ok (.iload 7, 2) := by decide +kernel
theorem dX4_letCut_53 : decode cX4_letCut 53 = .ok (.iload 5, 2) := by decide +kernel
theorem dX4_letCut_55 : decode cX4_letCut 55 = .ok (.iload 6, 2) := by decide +kernel
theorem dX4_letCut_57 : decode cX4_letCut 57 = .ok (.iadd, 1) := by decide +kernel
theorem dX4_letCut_58 : decode cX4_letCut 58 = .ok (.if_icmp .ge 48, 3) := by decide +kernel
theorem dX4_letCut_61 : decode cX4_letCut 61 = .ok (.iload_n 1, 1) := by decide +kernel
theorem dX4_letCut_62 : decode cX4_letCut 62 = .ok (.iload_n 3, 1) := by decide +kernel
theorem dX4_letCut_63 : decode cX4_letCut 63 = .ok (.bipush 10, 2) := by decide +kernel
theorem dX4_letCut_65 : decode cX4_letCut 65 = .ok (.iload 7, 2) := by decide +kernel
theorem dX4_letCut_67 : decode cX4_letCut 67 = .ok (.iadd, 1) := by decide +kernel
theorem dX4_letCut_68 : decode cX4_letCut 68 = .ok (.invokestatic 274, 3) := by decide +kernel
theorem dX4_letCut_71 : decode cX4_letCut 71 = .ok (.bipush 100, 2) := by decide +kernel
theorem dX4_letCut_73 : decode cX4_letCut 73 = .ok (.irem, 1) := by decide +kernel
theorem dX4_letCut_74 : decode cX4_letCut 74 = .ok (.iload 4, 2) := by decide +kernel
theorem dX4_letCut_76 : decode cX4_letCut 76 = .ok (.if_icmp .ge 24, 3) := by decide +kernel
theorem dX4_letCut_79 : decode cX4_letCut 79 = .ok (.aload_n 0, 1) := by decide +kernel
theorem dX4_letCut_80 : decode cX4_letCut 80 = .ok (.getfield 26, 3) := by decide +kernel
theorem dX4_letCut_83 : decode cX4_letCut 83 = .ok (.getfield 278, 3) := by decide +kernel
theorem dX4_letCut_86 : decode cX4_letCut 86 = .ok (.aload_n 0, 1) := by decide +kernel
theorem dX4_letCut_87 : decode cX4_letCut 87 = .ok (.getfield 30, 3) := by decide +kernel
theorem dX4_letCut_90 : decode cX4_letCut 90 = .ok (.iload 7, 2) := by decide +kernel
theorem dX4_letCut_92 : decode cX4_letCut 92 = .ok (.iaload, 1) := by decide +kernel
theorem dX4_letCut_93 : decode cX4_letCut 93 = .ok (.dup2, 1) := by decide +kernel
theorem dX4_letCut_94 : decode cX4_letCut 94 = .ok (.iaload, 1) := by decide +kernel
theorem dX4_letCut_95 : decode cX4_letCut 95 = .ok (.iconst 1, 1) := by decide +kernel
theorem dX4_letCut_96 : decode cX4_letCut 96 = .ok (.iload_n 3, 1) := by decide +kernel
theorem dX4_letCut_97 : decode cX4_letCut 97 = .ok (.ishl, 1) := by decide +kernel
theorem dX4_letCut_98 : decode cX4_letCut 98 = .ok (.ior, 1) := by decide +kernel
theorem dX4_letCut_99 : decode cX4_letCut 99 = .ok (.iastore, 1) := by decide +kernel
theorem dX4_letCut_100 : decode cX4_letCut 100 = .ok (.iinc 7 1, 3) := by decide +kernel
theorem dX4_letCut_103 : decode cX4_letCut 103 = .ok (.goto (-58), 3) := by decide +kernel
theorem dX4_letCut_106 : decode cX4_letCut 106 = .ok (.return_, 1) := by decide +kernel
theorem dX4_drawn_0 : decode cX4_drawn 0 = .ok (.ldc2_w 281, 3) := by decide +kernel
theorem dX4_drawn_3 : decode cX4_drawn 3 = .ok (.iload_n 0, 1) := by decide +kernel
theorem dX4_drawn_4 : decode cX4_drawn 4 = .ok (.i2l, 1) := by decide +kernel
theorem dX4_drawn_5 : decode cX4_drawn 5 = .ok (.lmul, 1) := by decide +kernel
theorem dX4_drawn_6 : decode cX4_drawn 6 = .ok (.ldc2_w 283, 3) := by decide +kernel
theorem dX4_drawn_9 : decode cX4_drawn 9 = .ok (.iload_n 1, 1) := by decide +kernel
theorem dX4_drawn_10 : decode cX4_drawn 10 = .ok (.i2l, 1) := by decide +kernel
theorem dX4_drawn_11 : decode cX4_drawn 11 = .ok (.lmul, 1) := by decide +kernel
theorem dX4_drawn_12 : decode cX4_drawn 12 = .ok (.ladd, 1) := by decide +kernel
theorem dX4_drawn_13 : decode cX4_drawn 13 = .ok (.ldc2_w 285, 3) := by decide +kernel
theorem dX4_drawn_16 : decode cX4_drawn 16 = .ok (.iload_n 2, 1) := by decide +kernel
theorem dX4_drawn_17 : decode cX4_drawn 17 = .ok (.i2l, 1) := by decide +kernel
theorem dX4_drawn_18 : decode cX4_drawn 18 = .ok (.lmul, 1) := by decide +kernel
theorem dX4_drawn_19 : decode cX4_drawn 19 = .ok (.ladd, 1) := by decide +kernel
theorem dX4_drawn_20 : decode cX4_drawn 20 = .ok (.lconst 1, 1) := by decide +kernel
theorem dX4_drawn_21 : decode cX4_drawn 21 = .ok (.ladd, 1) := by decide +kernel
theorem dX4_drawn_22 : decode cX4_drawn 22 = .ok (.lstore_n 3, 1) := by decide +kernel
theorem dX4_drawn_23 : decode cX4_drawn 23 = .ok (.lload_n 3, 1) := by decide +kernel
theorem dX4_drawn_24 : decode cX4_drawn 24 = .ok (.lload_n 3, 1) := by decide +kernel
theorem dX4_drawn_25 : decode cX4_drawn 25 = .ok (.lmul, 1) := by decide +kernel
theorem dX4_drawn_26 : decode cX4_drawn 26 = .ok (.ldc2_w 287, 3) := by decide +kernel
theorem dX4_drawn_29 : decode cX4_drawn 29 = .ok (.lrem, 1) := by decide +kernel
theorem dX4_drawn_30 : decode cX4_drawn 30 = .ok (.ldc2_w 289, 3) := by decide +kernel
theorem dX4_drawn_33 : decode cX4_drawn 33 = .ok (.lrem, 1) := by decide +kernel
theorem dX4_drawn_34 : decode cX4_drawn 34 = .ok (.l2i, 1) := by decide +kernel
theorem dX4_drawn_35 : decode cX4_drawn 35 = .ok (.ireturn, 1) := by decide +kernel
theorem dX4_roundedUp_0 : decode cX4_roundedUp 0 = .ok (.iload_n 1, 1) := by decide +kernel
theorem dX4_roundedUp_1 : decode cX4_roundedUp 1 = .ok (.iconst 1, 1) := by decide +kernel
theorem dX4_roundedUp_2 : decode cX4_roundedUp 2 = .ok (.if_icmp .ge 7, 3) := by decide +kernel
theorem dX4_roundedUp_5 : decode cX4_roundedUp 5 = .ok (.iconst 0, 1) := by decide +kernel
theorem dX4_roundedUp_6 : decode cX4_roundedUp 6 = .ok (.goto 10, 3) := by decide +kernel
theorem dX4_roundedUp_9 : decode cX4_roundedUp 9 = .ok (.iload_n 0, 1) := by decide +kernel
theorem dX4_roundedUp_10 : decode cX4_roundedUp 10 = .ok (.iload_n 1, 1) := by decide +kernel
theorem dX4_roundedUp_11 : decode cX4_roundedUp 11 = .ok (.iadd, 1) := by decide +kernel
theorem dX4_roundedUp_12 : decode cX4_roundedUp 12 = .ok (.iconst 1, 1) := by decide +kernel
theorem dX4_roundedUp_13 : decode cX4_roundedUp 13 = .ok (.isub, 1) := by decide +kernel
theorem dX4_roundedUp_14 : decode cX4_roundedUp 14 = .ok (.iload_n 1, 1) := by decide +kernel
theorem dX4_roundedUp_15 : decode cX4_roundedUp 15 = .ok (.idiv, 1) := by decide +kernel
theorem dX4_roundedUp_16 : decode cX4_roundedUp 16 = .ok (.ireturn, 1) := by decide +kernel
theorem dX4_choices_0 : decode cX4_choices 0 = .ok (.iload_n 1, 1) := by decide +kernel
theorem dX4_choices_1 : decode cX4_choices 1 = .ok (.ifCond .lt 8, 3) := by decide +kernel
theorem dX4_choices_4 : decode cX4_choices 4 = .ok (.iload_n 1, 1) := by decide +kernel
theorem dX4_choices_5 : decode cX4_choices 5 = .ok (.iload_n 0, 1) := by decide +kernel
theorem dX4_choices_6 : decode cX4_choices 6 = .ok (.if_icmp .le 5, 3) := by decide +kernel
theorem dX4_choices_9 : decode cX4_choices 9 = .ok (.lconst 0, 1) := by decide +kernel
theorem dX4_choices_10 : decode cX4_choices 10 = .ok (.lreturn, 1) := by decide +kernel
theorem dX4_choices_11 : decode cX4_choices 11 = .ok (.lconst 1, 1) := by decide +kernel
theorem dX4_choices_12 : decode cX4_choices 12 = .ok (.lstore_n 2, 1) := by decide +kernel
theorem dX4_choices_13 : decode cX4_choices 13 = .ok (.iconst 1, 1) := by decide +kernel
theorem dX4_choices_14 : decode cX4_choices 14 = .ok (.istore 4, 2) := by decide +kernel
theorem dX4_choices_16 : decode cX4_choices 16 = .ok (.iload 4, 2) := by decide +kernel
theorem dX4_choices_18 : decode cX4_choices 18 = .ok (.iload_n 1, 1) := by decide +kernel
theorem dX4_choices_19 : decode cX4_choices 19 = .ok (.if_icmp .gt 23, 3) := by decide +kernel
theorem dX4_choices_22 : decode cX4_choices 22 = .ok (.lload_n 2, 1) := by decide +kernel
theorem dX4_choices_23 : decode cX4_choices 23 = .ok (.iload_n 0, 1) := by decide +kernel
theorem dX4_choices_24 : decode cX4_choices 24 = .ok (.iload_n 1, 1) := by decide +kernel
theorem dX4_choices_25 : decode cX4_choices 25 = .ok (.isub, 1) := by decide +kernel
theorem dX4_choices_26 : decode cX4_choices 26 = .ok (.iload 4, 2) := by decide +kernel
theorem dX4_choices_28 : decode cX4_choices 28 = .ok (.iadd, 1) := by decide +kernel
theorem dX4_choices_29 : decode cX4_choices 29 = .ok (.i2l, 1) := by decide +kernel
theorem dX4_choices_30 : decode cX4_choices 30 = .ok (.lmul, 1) := by decide +kernel
theorem dX4_choices_31 : decode cX4_choices 31 = .ok (.iload 4, 2) := by decide +kernel
theorem dX4_choices_33 : decode cX4_choices 33 = .ok (.i2l, 1) := by decide +kernel
theorem dX4_choices_34 : decode cX4_choices 34 = .ok (.ldiv, 1) := by decide +kernel
theorem dX4_choices_35 : decode cX4_choices 35 = .ok (.lstore_n 2, 1) := by decide +kernel
theorem dX4_choices_36 : decode cX4_choices 36 = .ok (.iinc 4 1, 3) := by decide +kernel
theorem dX4_choices_39 : decode cX4_choices 39 = .ok (.goto (-23), 3) := by decide +kernel
theorem dX4_choices_42 : decode cX4_choices 42 = .ok (.lload_n 2, 1) := by decide +kernel
theorem dX4_choices_43 : decode cX4_choices 43 = .ok (.lreturn, 1) := by decide +kernel
set_option maxRecDepth 20000 in
theorem ggX4_drawsWithShared_X4_choices : GoodIn wsX4_drawsWithShared wsX4_choices := goodIn_r _ [4] (by decide +kernel) (by decide +kernel)
set_option maxRecDepth 20000 in
theorem gX4_drawsWithShared_X4_choices : GoodIn wsX4_drawsWithShared (va_wsS RX4 124 yX4_choices wsX4_choices) := goodIn_app (goodIn_of _ (by decide +kernel)) ggX4_drawsWithShared_X4_choices
theorem dX4_drawsWithShared_0 : decode cX4_drawsWithShared 0 = .ok (.lconst 0, 1) := by decide +kernel
theorem dX4_drawsWithShared_1 : decode cX4_drawsWithShared 1 = .ok (.lstore 4, 2) := by decide +kernel
theorem dX4_drawsWithShared_3 : decode cX4_drawsWithShared 3 = .ok (.iload_n 3, 1) := by decide +kernel
theorem dX4_drawsWithShared_4 : decode cX4_drawsWithShared 4 = .ok (.istore 6, 2) := by decide +kernel
theorem dX4_drawsWithShared_6 : decode cX4_drawsWithShared 6 = .ok (.iload 6, 2) := by decide +kernel
theorem dX4_drawsWithShared_8 : decode cX4_drawsWithShared 8 = .ok (.iload_n 1, 1) := by decide +kernel
theorem dX4_drawsWithShared_9 : decode cX4_drawsWithShared 9 = .ok (.if_icmp .gt 31, 3) := by decide +kernel
theorem dX4_drawsWithShared_12 : decode cX4_drawsWithShared 12 = .ok (.lload 4, 2) := by decide +kernel
theorem dX4_drawsWithShared_14 : decode cX4_drawsWithShared 14 = .ok (.iload_n 1, 1) := by decide +kernel
theorem dX4_drawsWithShared_15 : decode cX4_drawsWithShared 15 = .ok (.iload 6, 2) := by decide +kernel
theorem dX4_drawsWithShared_17 : decode cX4_drawsWithShared 17 = .ok (.invokestatic 124, 3) := by decide +kernel
theorem dX4_drawsWithShared_20 : decode cX4_drawsWithShared 20 = .ok (.iload_n 0, 1) := by decide +kernel
theorem dX4_drawsWithShared_21 : decode cX4_drawsWithShared 21 = .ok (.iload_n 1, 1) := by decide +kernel
theorem dX4_drawsWithShared_22 : decode cX4_drawsWithShared 22 = .ok (.isub, 1) := by decide +kernel
theorem dX4_drawsWithShared_23 : decode cX4_drawsWithShared 23 = .ok (.iload_n 2, 1) := by decide +kernel
theorem dX4_drawsWithShared_24 : decode cX4_drawsWithShared 24 = .ok (.iload 6, 2) := by decide +kernel
theorem dX4_drawsWithShared_26 : decode cX4_drawsWithShared 26 = .ok (.isub, 1) := by decide +kernel
theorem dX4_drawsWithShared_27 : decode cX4_drawsWithShared 27 = .ok (.invokestatic 124, 3) := by decide +kernel
theorem dX4_drawsWithShared_30 : decode cX4_drawsWithShared 30 = .ok (.lmul, 1) := by decide +kernel
theorem dX4_drawsWithShared_31 : decode cX4_drawsWithShared 31 = .ok (.ladd, 1) := by decide +kernel
theorem dX4_drawsWithShared_32 : decode cX4_drawsWithShared 32 = .ok (.lstore 4, 2) := by decide +kernel
theorem dX4_drawsWithShared_34 : decode cX4_drawsWithShared 34 = .ok (.iinc 6 1, 3) := by decide +kernel
theorem dX4_drawsWithShared_37 : decode cX4_drawsWithShared 37 = .ok (.goto (-31), 3) := by decide +kernel
theorem dX4_drawsWithShared_40 : decode cX4_drawsWithShared 40 = .ok (.lload 4, 2) := by decide +kernel
theorem dX4_drawsWithShared_42 : decode cX4_drawsWithShared 42 = .ok (.lreturn, 1) := by decide +kernel
theorem dX4_lowest_0 : decode cX4_lowest 0 = .ok (.lload_n 0, 1) := by decide +kernel
theorem dX4_lowest_1 : decode cX4_lowest 1 = .ok (.lstore 5, 2) := by decide +kernel
theorem dX4_lowest_3 : decode cX4_lowest 3 = .ok (.lload_n 2, 1) := by decide +kernel
theorem dX4_lowest_4 : decode cX4_lowest 4 = .ok (.lstore 7, 2) := by decide +kernel
theorem dX4_lowest_6 : decode cX4_lowest 6 = .ok (.iconst 0, 1) := by decide +kernel
theorem dX4_lowest_7 : decode cX4_lowest 7 = .ok (.istore 9, 2) := by decide +kernel
theorem dX4_lowest_9 : decode cX4_lowest 9 = .ok (.iload 9, 2) := by decide +kernel
theorem dX4_lowest_11 : decode cX4_lowest 11 = .ok (.sipush 200, 3) := by decide +kernel
theorem dX4_lowest_14 : decode cX4_lowest 14 = .ok (.if_icmp .ge 31, 3) := by decide +kernel
theorem dX4_lowest_17 : decode cX4_lowest 17 = .ok (.lload 7, 2) := by decide +kernel
theorem dX4_lowest_19 : decode cX4_lowest 19 = .ok (.lconst 0, 1) := by decide +kernel
theorem dX4_lowest_20 : decode cX4_lowest 20 = .ok (.lcmp, 1) := by decide +kernel
theorem dX4_lowest_21 : decode cX4_lowest 21 = .ok (.ifCond .eq 24, 3) := by decide +kernel
theorem dX4_lowest_24 : decode cX4_lowest 24 = .ok (.lload 5, 2) := by decide +kernel
theorem dX4_lowest_26 : decode cX4_lowest 26 = .ok (.lload 7, 2) := by decide +kernel
theorem dX4_lowest_28 : decode cX4_lowest 28 = .ok (.lrem, 1) := by decide +kernel
theorem dX4_lowest_29 : decode cX4_lowest 29 = .ok (.lstore 10, 2) := by decide +kernel
theorem dX4_lowest_31 : decode cX4_lowest 31 = .ok (.lload 7, 2) := by decide +kernel
theorem dX4_lowest_33 : decode cX4_lowest 33 = .ok (.lstore 5, 2) := by decide +kernel
theorem dX4_lowest_35 : decode cX4_lowest 35 = .ok (.lload 10, 2) := by decide +kernel
theorem dX4_lowest_37 : decode cX4_lowest 37 = .ok (.lstore 7, 2) := by decide +kernel
theorem dX4_lowest_39 : decode cX4_lowest 39 = .ok (.iinc 9 1, 3) := by decide +kernel
theorem dX4_lowest_42 : decode cX4_lowest 42 = .ok (.goto (-33), 3) := by decide +kernel
theorem dX4_lowest_45 : decode cX4_lowest 45 = .ok (.lload 5, 2) := by decide +kernel
theorem dX4_lowest_47 : decode cX4_lowest 47 = .ok (.lconst 0, 1) := by decide +kernel
theorem dX4_lowest_48 : decode cX4_lowest 48 = .ok (.lcmp, 1) := by decide +kernel
theorem dX4_lowest_49 : decode cX4_lowest 49 = .ok (.ifCond .ne 5, 3) := by decide +kernel
theorem dX4_lowest_52 : decode cX4_lowest 52 = .ok (.lconst 0, 1) := by decide +kernel
theorem dX4_lowest_53 : decode cX4_lowest 53 = .ok (.lreturn, 1) := by decide +kernel
theorem dX4_lowest_54 : decode cX4_lowest 54 = .ok (.iload 4, 2) := by decide +kernel
theorem dX4_lowest_56 : decode cX4_lowest 56 = .ok (.ifCond .ne 7, 3) := by decide +kernel
theorem dX4_lowest_59 : decode cX4_lowest 59 = .ok (.lload_n 0, 1) := by decide +kernel
theorem dX4_lowest_60 : decode cX4_lowest 60 = .ok (.goto 4, 3) := by decide +kernel
theorem dX4_lowest_63 : decode cX4_lowest 63 = .ok (.lload_n 2, 1) := by decide +kernel
theorem dX4_lowest_64 : decode cX4_lowest 64 = .ok (.lload 5, 2) := by decide +kernel
theorem dX4_lowest_66 : decode cX4_lowest 66 = .ok (.ldiv, 1) := by decide +kernel
theorem dX4_lowest_67 : decode cX4_lowest 67 = .ok (.lreturn, 1) := by decide +kernel
