theorem dX0_init_0 : decode cX0_init 0 = .ok (.aload_n 0, 1) := by decide +kernel
theorem dX0_init_1 : decode cX0_init 1 = .ok (.invokespecial 3, 3) := by decide +kernel
theorem dX0_init_4 : decode cX0_init 4 = .ok (.aload_n 0, 1) := by decide +kernel
theorem dX0_init_5 : decode cX0_init 5 = .ok (.bipush 6, 2) := by decide +kernel
theorem dX0_init_7 : decode cX0_init 7 = .ok (.newarray .int, 2) := by decide +kernel
theorem dX0_init_9 : decode cX0_init 9 = .ok (.putfield 9, 3) := by decide +kernel
theorem dX0_init_12 : decode cX0_init 12 = .ok (.aload_n 0, 1) := by decide +kernel
theorem dX0_init_13 : decode cX0_init 13 = .ok (.bipush 16, 2) := by decide +kernel
theorem dX0_init_15 : decode cX0_init 15 = .ok (.newarray .int, 2) := by decide +kernel
theorem dX0_init_17 : decode cX0_init 17 = .ok (.putfield 15, 3) := by decide +kernel
theorem dX0_init_20 : decode cX0_init 20 = .ok (.aload_n 0, 1) := by decide +kernel
theorem dX0_init_21 : decode cX0_init 21 = .ok (.bipush 6, 2) := by decide +kernel
theorem dX0_init_23 : decode cX0_init 23 = .ok (.newarray .int, 2) := by decide +kernel
theorem dX0_init_25 : decode cX0_init 25 = .ok (.putfield 18, 3) := by decide +kernel
theorem dX0_init_28 : decode cX0_init 28 = .ok (.aload_n 0, 1) := by decide +kernel
theorem dX0_init_29 : decode cX0_init 29 = .ok (.bipush 64, 2) := by decide +kernel
theorem dX0_init_31 : decode cX0_init 31 = .ok (.newarray .int, 2) := by decide +kernel
theorem dX0_init_33 : decode cX0_init 33 = .ok (.putfield 21, 3) := by decide +kernel
theorem dX0_init_36 : decode cX0_init 36 = .ok (.aload_n 0, 1) := by decide +kernel
theorem dX0_init_37 : decode cX0_init 37 = .ok (.bipush 64, 2) := by decide +kernel
theorem dX0_init_39 : decode cX0_init 39 = .ok (.newarray .int, 2) := by decide +kernel
theorem dX0_init_41 : decode cX0_init 41 = .ok (.putfield 24, 3) := by decide +kernel
theorem dX0_init_44 : decode cX0_init 44 = .ok (.aload_n 0, 1) := by decide +kernel
theorem dX0_init_45 : decode cX0_init 45 = .ok (.bipush 64, 2) := by decide +kernel
theorem dX0_init_47 : decode cX0_init 47 = .ok (.newarray .int, 2) := by decide +kernel
theorem dX0_init_49 : decode cX0_init 49 = .ok (.putfield 27, 3) := by decide +kernel
theorem dX0_init_52 : decode cX0_init 52 = .ok (.aload_n 0, 1) := by decide +kernel
theorem dX0_init_53 : decode cX0_init 53 = .ok (.bipush 64, 2) := by decide +kernel
theorem dX0_init_55 : decode cX0_init 55 = .ok (.newarray .int, 2) := by decide +kernel
theorem dX0_init_57 : decode cX0_init 57 = .ok (.putfield 30, 3) := by decide +kernel
theorem dX0_init_60 : decode cX0_init 60 = .ok (.aload_n 0, 1) := by decide +kernel
theorem dX0_init_61 : decode cX0_init 61 = .ok (.bipush 6, 2) := by decide +kernel
theorem dX0_init_63 : decode cX0_init 63 = .ok (.newarray .int, 2) := by decide +kernel
theorem dX0_init_65 : decode cX0_init 65 = .ok (.putfield 33, 3) := by decide +kernel
theorem dX0_init_68 : decode cX0_init 68 = .ok (.return_, 1) := by decide +kernel
set_option maxRecDepth 20000 in
theorem ggX0_clear_J7_fill_53178 : GoodIn wsX0_clear wsJ7_fill_53178 := goodIn_r _ [8] (by decide +kernel) (by decide +kernel)
set_option maxRecDepth 20000 in
theorem gX0_clear_J7_fill_53178 : GoodIn wsX0_clear (va_wsS RX0 40 yJ7_fill_53178 wsJ7_fill_53178) := goodIn_app (goodIn_of _ (by decide +kernel)) ggX0_clear_J7_fill_53178
theorem dX0_clear_0 : decode cX0_clear 0 = .ok (.aload_n 0, 1) := by decide +kernel
theorem dX0_clear_1 : decode cX0_clear 1 = .ok (.iload_n 1, 1) := by decide +kernel
theorem dX0_clear_2 : decode cX0_clear 2 = .ok (.bipush 63, 2) := by decide +kernel
theorem dX0_clear_4 : decode cX0_clear 4 = .ok (.iand, 1) := by decide +kernel
theorem dX0_clear_5 : decode cX0_clear 5 = .ok (.putfield 36, 3) := by decide +kernel
theorem dX0_clear_8 : decode cX0_clear 8 = .ok (.aload_n 0, 1) := by decide +kernel
theorem dX0_clear_9 : decode cX0_clear 9 = .ok (.getfield 9, 3) := by decide +kernel
theorem dX0_clear_12 : decode cX0_clear 12 = .ok (.iconst 0, 1) := by decide +kernel
theorem dX0_clear_13 : decode cX0_clear 13 = .ok (.invokestatic 40, 3) := by decide +kernel
theorem dX0_clear_16 : decode cX0_clear 16 = .ok (.aload_n 0, 1) := by decide +kernel
theorem dX0_clear_17 : decode cX0_clear 17 = .ok (.getfield 15, 3) := by decide +kernel
theorem dX0_clear_20 : decode cX0_clear 20 = .ok (.iconst 0, 1) := by decide +kernel
theorem dX0_clear_21 : decode cX0_clear 21 = .ok (.invokestatic 40, 3) := by decide +kernel
theorem dX0_clear_24 : decode cX0_clear 24 = .ok (.aload_n 0, 1) := by decide +kernel
theorem dX0_clear_25 : decode cX0_clear 25 = .ok (.getfield 18, 3) := by decide +kernel
theorem dX0_clear_28 : decode cX0_clear 28 = .ok (.iconst 0, 1) := by decide +kernel
theorem dX0_clear_29 : decode cX0_clear 29 = .ok (.invokestatic 40, 3) := by decide +kernel
theorem dX0_clear_32 : decode cX0_clear 32 = .ok (.return_, 1) := by decide +kernel
set_option maxRecDepth 20000 in
theorem ggX0_weighWall_X3_partBits : GoodIn wsX0_weighWall wsX3_partBits := goodIn_r _ [12, 13, 14, 83, 84, 85, 86, 87, 88, 89, 90, 91, 92, 93, 94] (by decide +kernel) (by decide +kernel)
set_option maxRecDepth 20000 in
theorem gX0_weighWall_X3_partBits : GoodIn wsX0_weighWall (wsV RX0 46 RX3 yX3_partBits wsX3_partBits) := goodIn_app (goodIn_of _ (by decide +kernel)) ggX0_weighWall_X3_partBits
set_option maxRecDepth 20000 in
theorem ggX0_weighWall_X0_clear : GoodIn wsX0_weighWall wsX0_clear := goodIn_r _ [19, 7, 4, 2, 5, 20, 21, 22, 23, 95, 96, 97, 98, 99, 100, 101, 102, 103, 104] (by decide +kernel) (by decide +kernel)
set_option maxRecDepth 20000 in
theorem gX0_weighWall_X0_clear : GoodIn wsX0_weighWall (wsV RX0 52 RX0 yX0_clear wsX0_clear) := goodIn_app (goodIn_of _ (by decide +kernel)) ggX0_weighWall_X0_clear
set_option maxRecDepth 20000 in
theorem ggX0_weighWall_X3_signsIn : GoodIn wsX0_weighWall wsX3_signsIn := goodIn_r _ [27, 13, 14, 28, 29, 30, 11, 31, 32, 33, 34, 35, 36, 37, 38, 39, 40, 41, 83, 84, 85, 86, 87, 88, 89, 90, 91, 92, 93, 94] (by decide +kernel) (by decide +kernel)
set_option maxRecDepth 20000 in
theorem gX0_weighWall_X3_signsIn : GoodIn wsX0_weighWall (wsV RX0 60 RX3 yX3_signsIn wsX3_signsIn) := goodIn_app (goodIn_of _ (by decide +kernel)) ggX0_weighWall_X3_signsIn
set_option maxRecDepth 20000 in
theorem ggX0_weighWall_X0_weigh : GoodIn wsX0_weighWall wsX0_weigh := goodIn_r _ [45, 7, 46, 47, 48, 18, 49, 50, 4, 51, 52, 53, 54, 55, 56, 57, 58, 59, 60, 5, 61, 62, 63, 64, 65, 66, 67, 68, 2, 95, 96, 97, 98, 99, 100, 101, 102, 103, 104] (by decide +kernel) (by decide +kernel)
set_option maxRecDepth 20000 in
theorem gX0_weighWall_X0_weigh : GoodIn wsX0_weighWall (wsV RX0 67 RX0 yX0_weigh wsX0_weigh) := goodIn_app (goodIn_of _ (by decide +kernel)) ggX0_weighWall_X0_weigh
set_option maxRecDepth 20000 in
theorem ggX0_weighWall_X0_traceFirstRow : GoodIn wsX0_weighWall wsX0_traceFirstRow := goodIn_r _ [72, 73, 7, 74, 75, 76, 77, 18, 78, 79, 80, 81, 82, 55, 57, 58, 59, 60, 5, 56, 61, 62, 63, 64, 50, 4, 65, 66, 67, 68, 2, 95, 96, 97, 98, 99, 100, 101, 102, 103, 104] (by decide +kernel) (by decide +kernel)
set_option maxRecDepth 20000 in
theorem gX0_weighWall_X0_traceFirstRow : GoodIn wsX0_weighWall (wsV RX0 70 RX0 yX0_traceFirstRow wsX0_traceFirstRow) := goodIn_app (goodIn_of _ (by decide +kernel)) ggX0_weighWall_X0_traceFirstRow
theorem dX0_weighWall_0 : decode cX0_weighWall 0 = .ok (.aload_n 0, 1) := by decide +kernel
theorem dX0_weighWall_1 : decode cX0_weighWall 1 = .ok (.aload_n 1, 1) := by decide +kernel
theorem dX0_weighWall_2 : decode cX0_weighWall 2 = .ok (.invokevirtual 46, 3) := by decide +kernel
theorem dX0_weighWall_5 : decode cX0_weighWall 5 = .ok (.invokevirtual 52, 3) := by decide +kernel
theorem dX0_weighWall_8 : decode cX0_weighWall 8 = .ok (.iconst 0, 1) := by decide +kernel
theorem dX0_weighWall_9 : decode cX0_weighWall 9 = .ok (.istore_n 2, 1) := by decide +kernel
theorem dX0_weighWall_10 : decode cX0_weighWall 10 = .ok (.iload_n 2, 1) := by decide +kernel
theorem dX0_weighWall_11 : decode cX0_weighWall 11 = .ok (.aload_n 1, 1) := by decide +kernel
theorem dX0_weighWall_12 : decode cX0_weighWall 12 = .ok (.getfield 56, 3) := by decide +kernel
theorem dX0_weighWall_15 : decode cX0_weighWall 15 = .ok (.if_icmp .ge 21, 3) := by decide +kernel
theorem dX0_weighWall_18 : decode cX0_weighWall 18 = .ok (.aload_n 0, 1) := by decide +kernel
theorem dX0_weighWall_19 : decode cX0_weighWall 19 = .ok (.getfield 15, 3) := by decide +kernel
theorem dX0_weighWall_22 : decode cX0_weighWall 22 = .ok (.iload_n 2, 1) := by decide +kernel
theorem dX0_weighWall_23 : decode cX0_weighWall 23 = .ok (.aload_n 1, 1) := by decide +kernel
theorem dX0_weighWall_24 : decode cX0_weighWall 24 = .ok (.getfield 59, 3) := by decide +kernel
theorem dX0_weighWall_27 : decode cX0_weighWall 27 = .ok (.iload_n 2, 1) := by decide +kernel
theorem dX0_weighWall_28 : decode cX0_weighWall 28 = .ok (.iaload, 1) := by decide +kernel
theorem dX0_weighWall_29 : decode cX0_weighWall 29 = .ok (.iastore, 1) := by decide +kernel
theorem dX0_weighWall_30 : decode cX0_weighWall 30 = .ok (.iinc 2 1, 3) := by decide +kernel
theorem dX0_weighWall_33 : decode cX0_weighWall 33 = .ok (.goto (-23), 3) := by decide +kernel
theorem dX0_weighWall_36 : decode cX0_weighWall 36 = .ok (.iconst 0, 1) := by decide +kernel
theorem dX0_weighWall_37 : decode cX0_weighWall 37 = .ok (.istore_n 2, 1) := by decide +kernel
theorem dX0_weighWall_38 : decode cX0_weighWall 38 = .ok (.iload_n 2, 1) := by decide +kernel
theorem dX0_weighWall_39 : decode cX0_weighWall 39 = .ok (.bipush 6, 2) := by decide +kernel
theorem dX0_weighWall_41 : decode cX0_weighWall 41 = .ok (.if_icmp .ge 37, 3) := by decide +kernel
theorem dX0_weighWall_44 : decode cX0_weighWall 44 = .ok (.aload_n 0, 1) := by decide +kernel
theorem dX0_weighWall_45 : decode cX0_weighWall 45 = .ok (.getfield 9, 3) := by decide +kernel
theorem dX0_weighWall_48 : decode cX0_weighWall 48 = .ok (.iload_n 2, 1) := by decide +kernel
theorem dX0_weighWall_49 : decode cX0_weighWall 49 = .ok (.aload_n 1, 1) := by decide +kernel
theorem dX0_weighWall_50 : decode cX0_weighWall 50 = .ok (.iload_n 2, 1) := by decide +kernel
theorem dX0_weighWall_51 : decode cX0_weighWall 51 = .ok (.invokevirtual 60, 3) := by decide +kernel
theorem dX0_weighWall_54 : decode cX0_weighWall 54 = .ok (.iastore, 1) := by decide +kernel
theorem dX0_weighWall_55 : decode cX0_weighWall 55 = .ok (.aload_n 0, 1) := by decide +kernel
theorem dX0_weighWall_56 : decode cX0_weighWall 56 = .ok (.getfield 18, 3) := by decide +kernel
theorem dX0_weighWall_59 : decode cX0_weighWall 59 = .ok (.iload_n 2, 1) := by decide +kernel
theorem dX0_weighWall_60 : decode cX0_weighWall 60 = .ok (.aload_n 1, 1) := by decide +kernel
theorem dX0_weighWall_61 : decode cX0_weighWall 61 = .ok (.getfield 64, 3) := by decide +kernel
theorem dX0_weighWall_64 : decode cX0_weighWall 64 = .ok (.iload_n 2, 1) := by decide +kernel
theorem dX0_weighWall_65 : decode cX0_weighWall 65 = .ok (.iaload, 1) := by decide +kernel
theorem dX0_weighWall_66 : decode cX0_weighWall 66 = .ok (.aload_n 0, 1) := by decide +kernel
theorem dX0_weighWall_67 : decode cX0_weighWall 67 = .ok (.getfield 36, 3) := by decide +kernel
theorem dX0_weighWall_70 : decode cX0_weighWall 70 = .ok (.iand, 1) := by decide +kernel
theorem dX0_weighWall_71 : decode cX0_weighWall 71 = .ok (.iastore, 1) := by decide +kernel
theorem dX0_weighWall_72 : decode cX0_weighWall 72 = .ok (.iinc 2 1, 3) := by decide +kernel
theorem dX0_weighWall_75 : decode cX0_weighWall 75 = .ok (.goto (-37), 3) := by decide +kernel
theorem dX0_weighWall_78 : decode cX0_weighWall 78 = .ok (.aload_n 0, 1) := by decide +kernel
theorem dX0_weighWall_79 : decode cX0_weighWall 79 = .ok (.invokevirtual 67, 3) := by decide +kernel
theorem dX0_weighWall_82 : decode cX0_weighWall 82 = .ok (.aload_n 0, 1) := by decide +kernel
theorem dX0_weighWall_83 : decode cX0_weighWall 83 = .ok (.invokevirtual 70, 3) := by decide +kernel
theorem dX0_weighWall_86 : decode cX0_weighWall 86 = .ok (.return_, 1) := by decide +kernel
set_option maxRecDepth 20000 in
theorem ggX0_weigh_X0_gatherSigns : GoodIn wsX0_weigh wsX0_gatherSigns := goodIn_r _ [6, 7, 8, 29, 30, 31, 32, 33, 34, 35, 36, 37, 38] (by decide +kernel) (by decide +kernel)
set_option maxRecDepth 20000 in
theorem gX0_weigh_X0_gatherSigns : GoodIn wsX0_weigh (wsV RX0 73 RX0 yX0_gatherSigns wsX0_gatherSigns) := goodIn_app (goodIn_of _ (by decide +kernel)) ggX0_weigh_X0_gatherSigns
set_option maxRecDepth 20000 in
theorem ggX0_weigh_X0_weighSet : GoodIn wsX0_weigh wsX0_weighSet := goodIn_r _ [12, 13, 14, 1, 15, 16, 17, 5, 18, 19, 20, 21, 22, 23, 7, 8, 24, 25, 26, 27, 28, 29, 30, 31, 32, 33, 34, 35, 36, 37, 38] (by decide +kernel) (by decide +kernel)
set_option maxRecDepth 20000 in
theorem gX0_weigh_X0_weighSet : GoodIn wsX0_weigh (wsV RX0 76 RX0 yX0_weighSet wsX0_weighSet) := goodIn_app (goodIn_of _ (by decide +kernel)) ggX0_weigh_X0_weighSet
theorem dX0_weigh_0 : decode cX0_weigh 0 = .ok (.aload_n 0, 1) := by decide +kernel
theorem dX0_weigh_1 : decode cX0_weigh 1 = .ok (.invokevirtual 73, 3) := by decide +kernel
theorem dX0_weigh_4 : decode cX0_weigh 4 = .ok (.aload_n 0, 1) := by decide +kernel
theorem dX0_weigh_5 : decode cX0_weigh 5 = .ok (.getfield 36, 3) := by decide +kernel
theorem dX0_weigh_8 : decode cX0_weigh 8 = .ok (.istore_n 1, 1) := by decide +kernel
theorem dX0_weigh_9 : decode cX0_weigh 9 = .ok (.iload_n 1, 1) := by decide +kernel
theorem dX0_weigh_10 : decode cX0_weigh 10 = .ok (.ifCond .lt 25, 3) := by decide +kernel
theorem dX0_weigh_13 : decode cX0_weigh 13 = .ok (.iload_n 1, 1) := by decide +kernel
theorem dX0_weigh_14 : decode cX0_weigh 14 = .ok (.aload_n 0, 1) := by decide +kernel
theorem dX0_weigh_15 : decode cX0_weigh 15 = .ok (.getfield 36, 3) := by decide +kernel
theorem dX0_weigh_18 : decode cX0_weigh 18 = .ok (.iconst (-1), 1) := by decide +kernel
theorem dX0_weigh_19 : decode cX0_weigh 19 = .ok (.ixor, 1) := by decide +kernel
theorem dX0_weigh_20 : decode cX0_weigh 20 = .ok (.iand, 1) := by decide +kernel
theorem dX0_weigh_21 : decode cX0_weigh 21 = .ok (.ifCond .ne 8, 3) := by decide +kernel
theorem dX0_weigh_24 : decode cX0_weigh 24 = .ok (.aload_n 0, 1) := by decide +kernel
theorem dX0_weigh_25 : decode cX0_weigh 25 = .ok (.iload_n 1, 1) := by decide +kernel
theorem dX0_weigh_26 : decode cX0_weigh 26 = .ok (.invokevirtual 76, 3) := by decide +kernel
theorem dX0_weigh_29 : decode cX0_weigh 29 = .ok (.iinc 1 (-1), 3) := by decide +kernel
theorem dX0_weigh_32 : decode cX0_weigh 32 = .ok (.goto (-23), 3) := by decide +kernel
theorem dX0_weigh_35 : decode cX0_weigh 35 = .ok (.return_, 1) := by decide +kernel
theorem dX0_gatherSigns_0 : decode cX0_gatherSigns 0 = .ok (.iconst 0, 1) := by decide +kernel
theorem dX0_gatherSigns_1 : decode cX0_gatherSigns 1 = .ok (.istore_n 1, 1) := by decide +kernel
theorem dX0_gatherSigns_2 : decode cX0_gatherSigns 2 = .ok (.iload_n 1, 1) := by decide +kernel
theorem dX0_gatherSigns_3 : decode cX0_gatherSigns 3 = .ok (.bipush 6, 2) := by decide +kernel
theorem dX0_gatherSigns_5 : decode cX0_gatherSigns 5 = .ok (.if_icmp .ge 47, 3) := by decide +kernel
theorem dX0_gatherSigns_8 : decode cX0_gatherSigns 8 = .ok (.iconst 0, 1) := by decide +kernel
theorem dX0_gatherSigns_9 : decode cX0_gatherSigns 9 = .ok (.istore_n 2, 1) := by decide +kernel
theorem dX0_gatherSigns_10 : decode cX0_gatherSigns 10 = .ok (.iload_n 2, 1) := by decide +kernel
theorem dX0_gatherSigns_11 : decode cX0_gatherSigns 11 = .ok (.iconst 1, 1) := by decide +kernel
theorem dX0_gatherSigns_12 : decode cX0_gatherSigns 12 = .ok (.iload_n 1, 1) := by decide +kernel
theorem dX0_gatherSigns_13 : decode cX0_gatherSigns 13 = .ok (.ishl, 1) := by decide +kernel
theorem dX0_gatherSigns_14 : decode cX0_gatherSigns 14 = .ok (.if_icmp .ge 32, 3) := by decide +kernel
theorem dX0_gatherSigns_17 : decode cX0_gatherSigns 17 = .ok (.aload_n 0, 1) := by decide +kernel
theorem dX0_gatherSigns_18 : decode cX0_gatherSigns 18 = .ok (.getfield 30, 3) := by decide +kernel
theorem dX0_gatherSigns_21 : decode cX0_gatherSigns 21 = .ok (.iload_n 2, 1) := by decide +kernel
theorem dX0_gatherSigns_22 : decode cX0_gatherSigns 22 = .ok (.iconst 1, 1) := by decide +kernel
theorem dX0_gatherSigns_23 : decode cX0_gatherSigns 23 = .ok (.iload_n 1, 1) := by decide +kernel
theorem dX0_gatherSigns_24 : decode cX0_gatherSigns 24 = .ok (.ishl, 1) := by decide +kernel
theorem dX0_gatherSigns_25 : decode cX0_gatherSigns 25 = .ok (.ior, 1) := by decide +kernel
theorem dX0_gatherSigns_26 : decode cX0_gatherSigns 26 = .ok (.aload_n 0, 1) := by decide +kernel
theorem dX0_gatherSigns_27 : decode cX0_gatherSigns 27 = .ok (.getfield 30, 3) := by decide +kernel
theorem dX0_gatherSigns_30 : decode cX0_gatherSigns 30 = .ok (.iload_n 2, 1) := by decide +kernel
theorem dX0_gatherSigns_31 : decode cX0_gatherSigns 31 = .ok (.iaload, 1) := by decide +kernel
theorem dX0_gatherSigns_32 : decode cX0_gatherSigns 32 = .ok (.aload_n 0, 1) := by decide +kernel
theorem dX0_gatherSigns_33 : decode cX0_gatherSigns 33 = .ok (.getfield 9, 3) := by decide +kernel
theorem dX0_gatherSigns_36 : decode cX0_gatherSigns 36 = .ok (.iload_n 1, 1) := by decide +kernel
theorem dX0_gatherSigns_37 : decode cX0_gatherSigns 37 = .ok (.iaload, 1) := by decide +kernel
theorem dX0_gatherSigns_38 : decode cX0_gatherSigns 38 = .ok (.ior, 1) := by decide +kernel
theorem dX0_gatherSigns_39 : decode cX0_gatherSigns 39 = .ok (.iastore, 1) := by decide +kernel
theorem dX0_gatherSigns_40 : decode cX0_gatherSigns 40 = .ok (.iinc 2 1, 3) := by decide +kernel
theorem dX0_gatherSigns_43 : decode cX0_gatherSigns 43 = .ok (.goto (-33), 3) := by decide +kernel
theorem dX0_gatherSigns_46 : decode cX0_gatherSigns 46 = .ok (.iinc 1 1, 3) := by decide +kernel
theorem dX0_gatherSigns_49 : decode cX0_gatherSigns 49 = .ok (.goto (-47), 3) := by decide +kernel
theorem dX0_gatherSigns_52 : decode cX0_gatherSigns 52 = .ok (.return_, 1) := by decide +kernel
set_option maxRecDepth 20000 in
theorem ggX0_weighSet_X0_mayFollow : GoodIn wsX0_weighSet wsX0_mayFollow := goodIn_r _ [8, 3, 9, 2, 21, 22, 23, 24, 25, 26, 27, 28, 29, 30] (by decide +kernel) (by decide +kernel)
set_option maxRecDepth 20000 in
theorem gX0_weighSet_X0_mayFollow : GoodIn wsX0_weighSet (wsV RX0 79 RX0 yX0_mayFollow wsX0_mayFollow) := goodIn_app (goodIn_of _ (by decide +kernel)) ggX0_weighSet_X0_mayFollow
set_option maxRecDepth 20000 in
theorem ggX0_weighSet_X0_gapsAdded : GoodIn wsX0_weighSet wsX0_gapsAdded := goodIn_r _ [13, 3, 14, 15, 16, 17, 18, 7, 19, 20, 21, 22, 23, 24, 25, 26, 27, 28, 29, 30] (by decide +kernel) (by decide +kernel)
set_option maxRecDepth 20000 in
theorem gX0_weighSet_X0_gapsAdded : GoodIn wsX0_weighSet (wsV RX0 83 RX0 yX0_gapsAdded wsX0_gapsAdded) := goodIn_app (goodIn_of _ (by decide +kernel)) ggX0_weighSet_X0_gapsAdded
theorem dX0_weighSet_0 : decode cX0_weighSet 0 = .ok (.aload_n 0, 1) := by decide +kernel
theorem dX0_weighSet_1 : decode cX0_weighSet 1 = .ok (.getfield 21, 3) := by decide +kernel
theorem dX0_weighSet_4 : decode cX0_weighSet 4 = .ok (.iload_n 1, 1) := by decide +kernel
theorem dX0_weighSet_5 : decode cX0_weighSet 5 = .ok (.iconst 0, 1) := by decide +kernel
theorem dX0_weighSet_6 : decode cX0_weighSet 6 = .ok (.iastore, 1) := by decide +kernel
theorem dX0_weighSet_7 : decode cX0_weighSet 7 = .ok (.aload_n 0, 1) := by decide +kernel
theorem dX0_weighSet_8 : decode cX0_weighSet 8 = .ok (.getfield 24, 3) := by decide +kernel
theorem dX0_weighSet_11 : decode cX0_weighSet 11 = .ok (.iload_n 1, 1) := by decide +kernel
theorem dX0_weighSet_12 : decode cX0_weighSet 12 = .ok (.iload_n 1, 1) := by decide +kernel
theorem dX0_weighSet_13 : decode cX0_weighSet 13 = .ok (.aload_n 0, 1) := by decide +kernel
theorem dX0_weighSet_14 : decode cX0_weighSet 14 = .ok (.getfield 36, 3) := by decide +kernel
theorem dX0_weighSet_17 : decode cX0_weighSet 17 = .ok (.if_icmp .ne 7, 3) := by decide +kernel
theorem dX0_weighSet_20 : decode cX0_weighSet 20 = .ok (.iconst 1, 1) := by decide +kernel
theorem dX0_weighSet_21 : decode cX0_weighSet 21 = .ok (.goto 4, 3) := by decide +kernel
theorem dX0_weighSet_24 : decode cX0_weighSet 24 = .ok (.iconst 0, 1) := by decide +kernel
theorem dX0_weighSet_25 : decode cX0_weighSet 25 = .ok (.iastore, 1) := by decide +kernel
theorem dX0_weighSet_26 : decode cX0_weighSet 26 = .ok (.iconst 0, 1) := by decide +kernel
theorem dX0_weighSet_27 : decode cX0_weighSet 27 = .ok (.istore_n 2, 1) := by decide +kernel
theorem dX0_weighSet_28 : decode cX0_weighSet 28 = .ok (.iload_n 2, 1) := by decide +kernel
theorem dX0_weighSet_29 : decode cX0_weighSet 29 = .ok (.bipush 6, 2) := by decide +kernel
theorem dX0_weighSet_31 : decode cX0_weighSet 31 = .ok (.if_icmp .ge 108, 3) := by decide +kernel
theorem dX0_weighSet_34 : decode cX0_weighSet 34 = .ok (.aload_n 0, 1) := by decide +kernel
theorem dX0_weighSet_35 : decode cX0_weighSet 35 = .ok (.iload_n 1, 1) := by decide +kernel
theorem dX0_weighSet_36 : decode cX0_weighSet 36 = .ok (.iload_n 2, 1) := by decide +kernel
theorem dX0_weighSet_37 : decode cX0_weighSet 37 = .ok (.invokevirtual 79, 3) := by decide +kernel
theorem dX0_weighSet_40 : decode cX0_weighSet 40 = .ok (.ifCond .eq 93, 3) := by decide +kernel
theorem dX0_weighSet_43 : decode cX0_weighSet 43 = .ok (.iload_n 1, 1) := by decide +kernel
theorem dX0_weighSet_44 : decode cX0_weighSet 44 = .ok (.iconst 1, 1) := by decide +kernel
theorem dX0_weighSet_45 : decode cX0_weighSet 45 = .ok (.iload_n 2, 1) := by decide +kernel
theorem dX0_weighSet_46 : decode cX0_weighSet 46 = .ok (.ishl, 1) := by decide +kernel
theorem dX0_weighSet_47 : decode cX0_weighSet 47 = .ok (.ior, 1) := by decide +kernel
theorem dX0_weighSet_48 : decode cX0_weighSet 48 = .ok (.istore_n 3, 1) := by decide +kernel
theorem dX0_weighSet_49 : decode cX0_weighSet 49 = .ok (.aload_n 0, 1) := by decide +kernel
theorem dX0_weighSet_50 : decode cX0_weighSet 50 = .ok (.iload_n 1, 1) := by decide +kernel
theorem dX0_weighSet_51 : decode cX0_weighSet 51 = .ok (.iload_n 2, 1) := by decide +kernel
theorem dX0_weighSet_52 : decode cX0_weighSet 52 = .ok (.invokevirtual 83, 3) := by decide +kernel
theorem dX0_weighSet_55 : decode cX0_weighSet 55 = .ok (.aload_n 0, 1) := by decide +kernel
theorem dX0_weighSet_56 : decode cX0_weighSet 56 = .ok (.getfield 21, 3) := by decide +kernel
theorem dX0_weighSet_59 : decode cX0_weighSet 59 = .ok (.iload_n 3, 1) := by decide +kernel
theorem dX0_weighSet_60 : decode cX0_weighSet 60 = .ok (.iaload, 1) := by decide +kernel
theorem dX0_weighSet_61 : decode cX0_weighSet 61 = .ok (.iadd, 1) := by decide +kernel
theorem dX0_weighSet_62 : decode cX0_weighSet 62 = .ok (.istore 4, 2) := by decide +kernel
theorem dX0_weighSet_64 : decode cX0_weighSet 64 = .ok (.aload_n 0, 1) := by decide +kernel
theorem dX0_weighSet_65 : decode cX0_weighSet 65 = .ok (.getfield 24, 3) := by decide +kernel
theorem dX0_weighSet_68 : decode cX0_weighSet 68 = .ok (.iload_n 1, 1) := by decide +kernel
theorem dX0_weighSet_69 : decode cX0_weighSet 69 = .ok (.iaload, 1) := by decide +kernel
theorem dX0_weighSet_70 : decode cX0_weighSet 70 = .ok (.ifCond .eq 14, 3) := by decide +kernel
theorem dX0_weighSet_73 : decode cX0_weighSet 73 = .ok (.iload 4, 2) := by decide +kernel
theorem dX0_weighSet_75 : decode cX0_weighSet 75 = .ok (.aload_n 0, 1) := by decide +kernel
theorem dX0_weighSet_76 : decode cX0_weighSet 76 = .ok (.getfield 21, 3) := by decide +kernel
theorem dX0_weighSet_79 : decode cX0_weighSet 79 = .ok (.iload_n 1, 1) := by decide +kernel
theorem dX0_weighSet_80 : decode cX0_weighSet 80 = .ok (.iaload, 1) := by decide +kernel
theorem dX0_weighSet_81 : decode cX0_weighSet 81 = .ok (.if_icmp .ge 26, 3) := by decide +kernel
theorem dX0_weighSet_84 : decode cX0_weighSet 84 = .ok (.aload_n 0, 1) := by decide +kernel
theorem dX0_weighSet_85 : decode cX0_weighSet 85 = .ok (.getfield 21, 3) := by decide +kernel
theorem dX0_weighSet_88 : decode cX0_weighSet 88 = .ok (.iload_n 1, 1) := by decide +kernel
theorem dX0_weighSet_89 : decode cX0_weighSet 89 = .ok (.iload 4, 2) := by decide +kernel
theorem dX0_weighSet_91 : decode cX0_weighSet 91 = .ok (.iastore, 1) := by decide +kernel
theorem dX0_weighSet_92 : decode cX0_weighSet 92 = .ok (.aload_n 0, 1) := by decide +kernel
theorem dX0_weighSet_93 : decode cX0_weighSet 93 = .ok (.getfield 24, 3) := by decide +kernel
theorem dX0_weighSet_96 : decode cX0_weighSet 96 = .ok (.iload_n 1, 1) := by decide +kernel
theorem dX0_weighSet_97 : decode cX0_weighSet 97 = .ok (.aload_n 0, 1) := by decide +kernel
theorem dX0_weighSet_98 : decode cX0_weighSet 98 = .ok (.getfield 24, 3) := by decide +kernel
theorem dX0_weighSet_101 : decode cX0_weighSet 101 = .ok (.iload_n 3, 1) := by decide +kernel
theorem dX0_weighSet_102 : decode cX0_weighSet 102 = .ok (.iaload, 1) := by decide +kernel
theorem dX0_weighSet_103 : decode cX0_weighSet 103 = .ok (.iastore, 1) := by decide +kernel
theorem dX0_weighSet_104 : decode cX0_weighSet 104 = .ok (.goto 29, 3) := by decide +kernel
theorem dX0_weighSet_107 : decode cX0_weighSet 107 = .ok (.iload 4, 2) := by decide +kernel
theorem dX0_weighSet_109 : decode cX0_weighSet 109 = .ok (.aload_n 0, 1) := by decide +kernel
theorem dX0_weighSet_110 : decode cX0_weighSet 110 = .ok (.getfield 21, 3) := by decide +kernel
theorem dX0_weighSet_113 : decode cX0_weighSet 113 = .ok (.iload_n 1, 1) := by decide +kernel
theorem dX0_weighSet_114 : decode cX0_weighSet 114 = .ok (.iaload, 1) := by decide +kernel
theorem dX0_weighSet_115 : decode cX0_weighSet 115 = .ok (.if_icmp .ne 18, 3) := by decide +kernel
theorem dX0_weighSet_118 : decode cX0_weighSet 118 = .ok (.aload_n 0, 1) := by decide +kernel
theorem dX0_weighSet_119 : decode cX0_weighSet 119 = .ok (.getfield 24, 3) := by decide +kernel
theorem dX0_weighSet_122 : decode cX0_weighSet 122 = .ok (.iload_n 1, 1) := by decide +kernel
theorem dX0_weighSet_123 : decode cX0_weighSet 123 = .ok (.dup2, 1) := by decide +kernel
theorem dX0_weighSet_124 : decode cX0_weighSet 124 = .ok (.iaload, 1) := by decide +kernel
theorem dX0_weighSet_125 : decode cX0_weighSet 125 = .ok (.aload_n 0, 1) := by decide +kernel
theorem dX0_weighSet_126 : decode cX0_weighSet 126 = .ok (.getfield 24, 3) := by decide +kernel
theorem dX0_weighSet_129 : decode cX0_weighSet 129 = .ok (.iload_n 3, 1) := by decide +kernel
theorem dX0_weighSet_130 : decode cX0_weighSet 130 = .ok (.iaload, 1) := by decide +kernel
theorem dX0_weighSet_131 : decode cX0_weighSet 131 = .ok (.iadd, 1) := by decide +kernel
theorem dX0_weighSet_132 : decode cX0_weighSet 132 = .ok (.iastore, 1) := by decide +kernel
theorem dX0_weighSet_133 : decode cX0_weighSet 133 = .ok (.iinc 2 1, 3) := by decide +kernel
theorem dX0_weighSet_136 : decode cX0_weighSet 136 = .ok (.goto (-108), 3) := by decide +kernel
theorem dX0_weighSet_139 : decode cX0_weighSet 139 = .ok (.return_, 1) := by decide +kernel
theorem dX0_mayFollow_0 : decode cX0_mayFollow 0 = .ok (.aload_n 0, 1) := by decide +kernel
theorem dX0_mayFollow_1 : decode cX0_mayFollow 1 = .ok (.getfield 36, 3) := by decide +kernel
theorem dX0_mayFollow_4 : decode cX0_mayFollow 4 = .ok (.iload_n 1, 1) := by decide +kernel
theorem dX0_mayFollow_5 : decode cX0_mayFollow 5 = .ok (.iconst (-1), 1) := by decide +kernel
theorem dX0_mayFollow_6 : decode cX0_mayFollow 6 = .ok (.ixor, 1) := by decide +kernel
theorem dX0_mayFollow_7 : decode cX0_mayFollow 7 = .ok (.iand, 1) := by decide +kernel
theorem dX0_mayFollow_8 : decode cX0_mayFollow 8 = .ok (.iconst 1, 1) := by decide +kernel
theorem dX0_mayFollow_9 : decode cX0_mayFollow 9 = .ok (.iload_n 2, 1) := by decide +kernel
theorem dX0_mayFollow_10 : decode cX0_mayFollow 10 = .ok (.ishl, 1) := by decide +kernel
theorem dX0_mayFollow_11 : decode cX0_mayFollow 11 = .ok (.iand, 1) := by decide +kernel
theorem dX0_mayFollow_12 : decode cX0_mayFollow 12 = .ok (.ifCond .eq 7, 3) := by decide +kernel
theorem dX0_mayFollow_15 : decode cX0_mayFollow 15 = .ok (.iconst 1, 1) := by decide +kernel
theorem dX0_mayFollow_16 : decode cX0_mayFollow 16 = .ok (.goto 4, 3) := by decide +kernel
theorem dX0_mayFollow_19 : decode cX0_mayFollow 19 = .ok (.iconst 0, 1) := by decide +kernel
theorem dX0_mayFollow_20 : decode cX0_mayFollow 20 = .ok (.istore_n 3, 1) := by decide +kernel
theorem dX0_mayFollow_21 : decode cX0_mayFollow 21 = .ok (.iload_n 3, 1) := by decide +kernel
theorem dX0_mayFollow_22 : decode cX0_mayFollow 22 = .ok (.ifCond .eq 33, 3) := by decide +kernel
theorem dX0_mayFollow_25 : decode cX0_mayFollow 25 = .ok (.aload_n 0, 1) := by decide +kernel
theorem dX0_mayFollow_26 : decode cX0_mayFollow 26 = .ok (.getfield 18, 3) := by decide +kernel
theorem dX0_mayFollow_29 : decode cX0_mayFollow 29 = .ok (.iload_n 2, 1) := by decide +kernel
theorem dX0_mayFollow_30 : decode cX0_mayFollow 30 = .ok (.iaload, 1) := by decide +kernel
theorem dX0_mayFollow_31 : decode cX0_mayFollow 31 = .ok (.iload_n 1, 1) := by decide +kernel
theorem dX0_mayFollow_32 : decode cX0_mayFollow 32 = .ok (.iconst (-1), 1) := by decide +kernel
theorem dX0_mayFollow_33 : decode cX0_mayFollow 33 = .ok (.ixor, 1) := by decide +kernel
theorem dX0_mayFollow_34 : decode cX0_mayFollow 34 = .ok (.iand, 1) := by decide +kernel
theorem dX0_mayFollow_35 : decode cX0_mayFollow 35 = .ok (.ifCond .ne 20, 3) := by decide +kernel
theorem dX0_mayFollow_38 : decode cX0_mayFollow 38 = .ok (.aload_n 0, 1) := by decide +kernel
theorem dX0_mayFollow_39 : decode cX0_mayFollow 39 = .ok (.getfield 24, 3) := by decide +kernel
theorem dX0_mayFollow_42 : decode cX0_mayFollow 42 = .ok (.iload_n 1, 1) := by decide +kernel
theorem dX0_mayFollow_43 : decode cX0_mayFollow 43 = .ok (.iconst 1, 1) := by decide +kernel
theorem dX0_mayFollow_44 : decode cX0_mayFollow 44 = .ok (.iload_n 2, 1) := by decide +kernel
theorem dX0_mayFollow_45 : decode cX0_mayFollow 45 = .ok (.ishl, 1) := by decide +kernel
theorem dX0_mayFollow_46 : decode cX0_mayFollow 46 = .ok (.ior, 1) := by decide +kernel
theorem dX0_mayFollow_47 : decode cX0_mayFollow 47 = .ok (.iaload, 1) := by decide +kernel
theorem dX0_mayFollow_48 : decode cX0_mayFollow 48 = .ok (.ifCond .le 7, 3) := by decide +kernel
theorem dX0_mayFollow_51 : decode cX0_mayFollow 51 = .ok (.iconst 1, 1) := by decide +kernel
theorem dX0_mayFollow_52 : decode cX0_mayFollow 52 = .ok (.goto 4, 3) := by decide +kernel
theorem dX0_mayFollow_55 : decode cX0_mayFollow 55 = .ok (.iconst 0, 1) := by decide +kernel
theorem dX0_mayFollow_56 : decode cX0_mayFollow 56 = .ok (.ireturn, 1) := by decide +kernel
set_option maxRecDepth 20000 in
theorem ggX0_isBestStep_X0_mayFollow : GoodIn wsX0_isBestStep wsX0_mayFollow := goodIn_r _ [6, 7, 8, 9, 21, 22, 23, 24, 25, 26, 27, 28, 29, 30] (by decide +kernel) (by decide +kernel)
set_option maxRecDepth 20000 in
theorem gX0_isBestStep_X0_mayFollow : GoodIn wsX0_isBestStep (wsV RX0 79 RX0 yX0_mayFollow wsX0_mayFollow) := goodIn_app (goodIn_of _ (by decide +kernel)) ggX0_isBestStep_X0_mayFollow
set_option maxRecDepth 20000 in
theorem ggX0_isBestStep_X0_gapsAdded : GoodIn wsX0_isBestStep wsX0_gapsAdded := goodIn_r _ [13, 7, 14, 15, 16, 17, 18, 5, 19, 20, 21, 22, 23, 24, 25, 26, 27, 28, 29, 30] (by decide +kernel) (by decide +kernel)
set_option maxRecDepth 20000 in
theorem gX0_isBestStep_X0_gapsAdded : GoodIn wsX0_isBestStep (wsV RX0 83 RX0 yX0_gapsAdded wsX0_gapsAdded) := goodIn_app (goodIn_of _ (by decide +kernel)) ggX0_isBestStep_X0_gapsAdded
theorem dX0_isBestStep_0 : decode cX0_isBestStep 0 = .ok (.aload_n 0, 1) := by decide +kernel
theorem dX0_isBestStep_1 : decode cX0_isBestStep 1 = .ok (.iload_n 1, 1) := by decide +kernel
theorem dX0_isBestStep_2 : decode cX0_isBestStep 2 = .ok (.iload_n 2, 1) := by decide +kernel
theorem dX0_isBestStep_3 : decode cX0_isBestStep 3 = .ok (.invokevirtual 79, 3) := by decide +kernel
theorem dX0_isBestStep_6 : decode cX0_isBestStep 6 = .ok (.ifCond .eq 33, 3) := by decide +kernel
theorem dX0_isBestStep_9 : decode cX0_isBestStep 9 = .ok (.aload_n 0, 1) := by decide +kernel
theorem dX0_isBestStep_10 : decode cX0_isBestStep 10 = .ok (.iload_n 1, 1) := by decide +kernel
theorem dX0_isBestStep_11 : decode cX0_isBestStep 11 = .ok (.iload_n 2, 1) := by decide +kernel
theorem dX0_isBestStep_12 : decode cX0_isBestStep 12 = .ok (.invokevirtual 83, 3) := by decide +kernel
theorem dX0_isBestStep_15 : decode cX0_isBestStep 15 = .ok (.aload_n 0, 1) := by decide +kernel
theorem dX0_isBestStep_16 : decode cX0_isBestStep 16 = .ok (.getfield 21, 3) := by decide +kernel
theorem dX0_isBestStep_19 : decode cX0_isBestStep 19 = .ok (.iload_n 1, 1) := by decide +kernel
theorem dX0_isBestStep_20 : decode cX0_isBestStep 20 = .ok (.iconst 1, 1) := by decide +kernel
theorem dX0_isBestStep_21 : decode cX0_isBestStep 21 = .ok (.iload_n 2, 1) := by decide +kernel
theorem dX0_isBestStep_22 : decode cX0_isBestStep 22 = .ok (.ishl, 1) := by decide +kernel
theorem dX0_isBestStep_23 : decode cX0_isBestStep 23 = .ok (.ior, 1) := by decide +kernel
theorem dX0_isBestStep_24 : decode cX0_isBestStep 24 = .ok (.iaload, 1) := by decide +kernel
theorem dX0_isBestStep_25 : decode cX0_isBestStep 25 = .ok (.iadd, 1) := by decide +kernel
theorem dX0_isBestStep_26 : decode cX0_isBestStep 26 = .ok (.aload_n 0, 1) := by decide +kernel
theorem dX0_isBestStep_27 : decode cX0_isBestStep 27 = .ok (.getfield 21, 3) := by decide +kernel
theorem dX0_isBestStep_30 : decode cX0_isBestStep 30 = .ok (.iload_n 1, 1) := by decide +kernel
theorem dX0_isBestStep_31 : decode cX0_isBestStep 31 = .ok (.iaload, 1) := by decide +kernel
theorem dX0_isBestStep_32 : decode cX0_isBestStep 32 = .ok (.if_icmp .ne 7, 3) := by decide +kernel
theorem dX0_isBestStep_35 : decode cX0_isBestStep 35 = .ok (.iconst 1, 1) := by decide +kernel
theorem dX0_isBestStep_36 : decode cX0_isBestStep 36 = .ok (.goto 4, 3) := by decide +kernel
theorem dX0_isBestStep_39 : decode cX0_isBestStep 39 = .ok (.iconst 0, 1) := by decide +kernel
theorem dX0_isBestStep_40 : decode cX0_isBestStep 40 = .ok (.ireturn, 1) := by decide +kernel
set_option maxRecDepth 20000 in
theorem ggX0_gapsAdded_X0_strokesOf : GoodIn wsX0_gapsAdded wsX0_strokesOf := goodIn_r _ [8, 9, 10, 11, 12, 13, 14, 15, 16, 17, 18, 19] (by decide +kernel) (by decide +kernel)
set_option maxRecDepth 20000 in
theorem gX0_gapsAdded_X0_strokesOf : GoodIn wsX0_gapsAdded (wsV RX0 87 RX0 yX0_strokesOf wsX0_strokesOf) := goodIn_app (goodIn_of _ (by decide +kernel)) ggX0_gapsAdded_X0_strokesOf
theorem dX0_gapsAdded_0 : decode cX0_gapsAdded 0 = .ok (.aload_n 0, 1) := by decide +kernel
theorem dX0_gapsAdded_1 : decode cX0_gapsAdded 1 = .ok (.getfield 36, 3) := by decide +kernel
theorem dX0_gapsAdded_4 : decode cX0_gapsAdded 4 = .ok (.iload_n 1, 1) := by decide +kernel
theorem dX0_gapsAdded_5 : decode cX0_gapsAdded 5 = .ok (.iconst (-1), 1) := by decide +kernel
theorem dX0_gapsAdded_6 : decode cX0_gapsAdded 6 = .ok (.ixor, 1) := by decide +kernel
theorem dX0_gapsAdded_7 : decode cX0_gapsAdded 7 = .ok (.iand, 1) := by decide +kernel
theorem dX0_gapsAdded_8 : decode cX0_gapsAdded 8 = .ok (.iconst 1, 1) := by decide +kernel
theorem dX0_gapsAdded_9 : decode cX0_gapsAdded 9 = .ok (.iload_n 2, 1) := by decide +kernel
theorem dX0_gapsAdded_10 : decode cX0_gapsAdded 10 = .ok (.ishl, 1) := by decide +kernel
theorem dX0_gapsAdded_11 : decode cX0_gapsAdded 11 = .ok (.iconst (-1), 1) := by decide +kernel
theorem dX0_gapsAdded_12 : decode cX0_gapsAdded 12 = .ok (.ixor, 1) := by decide +kernel
theorem dX0_gapsAdded_13 : decode cX0_gapsAdded 13 = .ok (.iand, 1) := by decide +kernel
theorem dX0_gapsAdded_14 : decode cX0_gapsAdded 14 = .ok (.istore_n 3, 1) := by decide +kernel
theorem dX0_gapsAdded_15 : decode cX0_gapsAdded 15 = .ok (.aload_n 0, 1) := by decide +kernel
theorem dX0_gapsAdded_16 : decode cX0_gapsAdded 16 = .ok (.aload_n 0, 1) := by decide +kernel
theorem dX0_gapsAdded_17 : decode cX0_gapsAdded 17 = .ok (.getfield 30, 3) := by decide +kernel
theorem dX0_gapsAdded_20 : decode cX0_gapsAdded 20 = .ok (.iload_n 1, 1) := by decide +kernel
theorem dX0_gapsAdded_21 : decode cX0_gapsAdded 21 = .ok (.iaload, 1) := by decide +kernel
theorem dX0_gapsAdded_22 : decode cX0_gapsAdded 22 = .ok (.aload_n 0, 1) := by decide +kernel
theorem dX0_gapsAdded_23 : decode cX0_gapsAdded 23 = .ok (.getfield 30, 3) := by decide +kernel
theorem dX0_gapsAdded_26 : decode cX0_gapsAdded 26 = .ok (.iload_n 3, 1) := by decide +kernel
theorem dX0_gapsAdded_27 : decode cX0_gapsAdded 27 = .ok (.iaload, 1) := by decide +kernel
theorem dX0_gapsAdded_28 : decode cX0_gapsAdded 28 = .ok (.iand, 1) := by decide +kernel
theorem dX0_gapsAdded_29 : decode cX0_gapsAdded 29 = .ok (.aload_n 0, 1) := by decide +kernel
theorem dX0_gapsAdded_30 : decode cX0_gapsAdded 30 = .ok (.getfield 9, 3) := by decide +kernel
theorem dX0_gapsAdded_33 : decode cX0_gapsAdded 33 = .ok (.iload_n 2, 1) := by decide +kernel
theorem dX0_gapsAdded_34 : decode cX0_gapsAdded 34 = .ok (.iaload, 1) := by decide +kernel
theorem dX0_gapsAdded_35 : decode cX0_gapsAdded 35 = .ok (.iconst (-1), 1) := by decide +kernel
theorem dX0_gapsAdded_36 : decode cX0_gapsAdded 36 = .ok (.ixor, 1) := by decide +kernel
theorem dX0_gapsAdded_37 : decode cX0_gapsAdded 37 = .ok (.iand, 1) := by decide +kernel
theorem dX0_gapsAdded_38 : decode cX0_gapsAdded 38 = .ok (.invokevirtual 87, 3) := by decide +kernel
theorem dX0_gapsAdded_41 : decode cX0_gapsAdded 41 = .ok (.ireturn, 1) := by decide +kernel
theorem dX0_strokesOf_0 : decode cX0_strokesOf 0 = .ok (.iconst 0, 1) := by decide +kernel
theorem dX0_strokesOf_1 : decode cX0_strokesOf 1 = .ok (.istore_n 2, 1) := by decide +kernel
theorem dX0_strokesOf_2 : decode cX0_strokesOf 2 = .ok (.iconst 0, 1) := by decide +kernel
theorem dX0_strokesOf_3 : decode cX0_strokesOf 3 = .ok (.istore_n 3, 1) := by decide +kernel
theorem dX0_strokesOf_4 : decode cX0_strokesOf 4 = .ok (.iload_n 3, 1) := by decide +kernel
theorem dX0_strokesOf_5 : decode cX0_strokesOf 5 = .ok (.bipush 16, 2) := by decide +kernel
theorem dX0_strokesOf_7 : decode cX0_strokesOf 7 = .ok (.if_icmp .ge 30, 3) := by decide +kernel
theorem dX0_strokesOf_10 : decode cX0_strokesOf 10 = .ok (.iload_n 1, 1) := by decide +kernel
theorem dX0_strokesOf_11 : decode cX0_strokesOf 11 = .ok (.iload_n 3, 1) := by decide +kernel
theorem dX0_strokesOf_12 : decode cX0_strokesOf 12 = .ok (.ishr, 1) := by decide +kernel
theorem dX0_strokesOf_13 : decode cX0_strokesOf 13 = .ok (.ifCond .eq 24, 3) := by decide +kernel
theorem dX0_strokesOf_16 : decode cX0_strokesOf 16 = .ok (.iload_n 2, 1) := by decide +kernel
theorem dX0_strokesOf_17 : decode cX0_strokesOf 17 = .ok (.iload_n 1, 1) := by decide +kernel
theorem dX0_strokesOf_18 : decode cX0_strokesOf 18 = .ok (.iload_n 3, 1) := by decide +kernel
theorem dX0_strokesOf_19 : decode cX0_strokesOf 19 = .ok (.ishr, 1) := by decide +kernel
theorem dX0_strokesOf_20 : decode cX0_strokesOf 20 = .ok (.iconst 1, 1) := by decide +kernel
theorem dX0_strokesOf_21 : decode cX0_strokesOf 21 = .ok (.iand, 1) := by decide +kernel
theorem dX0_strokesOf_22 : decode cX0_strokesOf 22 = .ok (.aload_n 0, 1) := by decide +kernel
theorem dX0_strokesOf_23 : decode cX0_strokesOf 23 = .ok (.getfield 15, 3) := by decide +kernel
theorem dX0_strokesOf_26 : decode cX0_strokesOf 26 = .ok (.iload_n 3, 1) := by decide +kernel
theorem dX0_strokesOf_27 : decode cX0_strokesOf 27 = .ok (.iaload, 1) := by decide +kernel
theorem dX0_strokesOf_28 : decode cX0_strokesOf 28 = .ok (.imul, 1) := by decide +kernel
theorem dX0_strokesOf_29 : decode cX0_strokesOf 29 = .ok (.iadd, 1) := by decide +kernel
theorem dX0_strokesOf_30 : decode cX0_strokesOf 30 = .ok (.istore_n 2, 1) := by decide +kernel
theorem dX0_strokesOf_31 : decode cX0_strokesOf 31 = .ok (.iinc 3 1, 3) := by decide +kernel
theorem dX0_strokesOf_34 : decode cX0_strokesOf 34 = .ok (.goto (-30), 3) := by decide +kernel
theorem dX0_strokesOf_37 : decode cX0_strokesOf 37 = .ok (.iload_n 2, 1) := by decide +kernel
theorem dX0_strokesOf_38 : decode cX0_strokesOf 38 = .ok (.ireturn, 1) := by decide +kernel
set_option maxRecDepth 20000 in
theorem ggX0_traceFirstRow_X0_firstBestStep : GoodIn wsX0_traceFirstRow wsX0_firstBestStep := goodIn_r _ [8, 9, 10, 11, 7, 12, 13, 14, 15, 16, 17, 2, 18, 19, 20, 21, 22, 23, 24, 25, 26, 27, 28, 29, 30, 31, 32, 33, 34, 35, 36, 37, 38, 39, 40] (by decide +kernel) (by decide +kernel)
set_option maxRecDepth 20000 in
theorem gX0_traceFirstRow_X0_firstBestStep : GoodIn wsX0_traceFirstRow (wsV RX0 93 RX0 yX0_firstBestStep wsX0_firstBestStep) := goodIn_app (goodIn_of _ (by decide +kernel)) ggX0_traceFirstRow_X0_firstBestStep
theorem dX0_traceFirstRow_0 : decode cX0_traceFirstRow 0 = .ok (.aload_n 0, 1) := by decide +kernel
theorem dX0_traceFirstRow_1 : decode cX0_traceFirstRow 1 = .ok (.iconst 0, 1) := by decide +kernel
theorem dX0_traceFirstRow_2 : decode cX0_traceFirstRow 2 = .ok (.putfield 90, 3) := by decide +kernel
theorem dX0_traceFirstRow_5 : decode cX0_traceFirstRow 5 = .ok (.iconst 0, 1) := by decide +kernel
theorem dX0_traceFirstRow_6 : decode cX0_traceFirstRow 6 = .ok (.istore_n 1, 1) := by decide +kernel
theorem dX0_traceFirstRow_7 : decode cX0_traceFirstRow 7 = .ok (.iconst 0, 1) := by decide +kernel
theorem dX0_traceFirstRow_8 : decode cX0_traceFirstRow 8 = .ok (.istore_n 2, 1) := by decide +kernel
theorem dX0_traceFirstRow_9 : decode cX0_traceFirstRow 9 = .ok (.iload_n 2, 1) := by decide +kernel
theorem dX0_traceFirstRow_10 : decode cX0_traceFirstRow 10 = .ok (.bipush 6, 2) := by decide +kernel
theorem dX0_traceFirstRow_12 : decode cX0_traceFirstRow 12 = .ok (.if_icmp .ge 48, 3) := by decide +kernel
theorem dX0_traceFirstRow_15 : decode cX0_traceFirstRow 15 = .ok (.iload_n 1, 1) := by decide +kernel
theorem dX0_traceFirstRow_16 : decode cX0_traceFirstRow 16 = .ok (.aload_n 0, 1) := by decide +kernel
theorem dX0_traceFirstRow_17 : decode cX0_traceFirstRow 17 = .ok (.getfield 36, 3) := by decide +kernel
theorem dX0_traceFirstRow_20 : decode cX0_traceFirstRow 20 = .ok (.if_icmp .eq 40, 3) := by decide +kernel
theorem dX0_traceFirstRow_23 : decode cX0_traceFirstRow 23 = .ok (.aload_n 0, 1) := by decide +kernel
theorem dX0_traceFirstRow_24 : decode cX0_traceFirstRow 24 = .ok (.iload_n 1, 1) := by decide +kernel
theorem dX0_traceFirstRow_25 : decode cX0_traceFirstRow 25 = .ok (.invokevirtual 93, 3) := by decide +kernel
theorem dX0_traceFirstRow_28 : decode cX0_traceFirstRow 28 = .ok (.istore_n 3, 1) := by decide +kernel
theorem dX0_traceFirstRow_29 : decode cX0_traceFirstRow 29 = .ok (.iload_n 3, 1) := by decide +kernel
theorem dX0_traceFirstRow_30 : decode cX0_traceFirstRow 30 = .ok (.ifCond .ge 4, 3) := by decide +kernel
theorem dX0_traceFirstRow_33 : decode cX0_traceFirstRow 33 = .ok (.return_, 1) := by decide +kernel
theorem dX0_traceFirstRow_34 : decode cX0_traceFirstRow 34 = .ok (.aload_n 0, 1) := by decide +kernel
theorem dX0_traceFirstRow_35 : decode cX0_traceFirstRow 35 = .ok (.getfield 33, 3) := by decide +kernel
theorem dX0_traceFirstRow_38 : decode cX0_traceFirstRow 38 = .ok (.iload_n 2, 1) := by decide +kernel
theorem dX0_traceFirstRow_39 : decode cX0_traceFirstRow 39 = .ok (.iload_n 3, 1) := by decide +kernel
theorem dX0_traceFirstRow_40 : decode cX0_traceFirstRow 40 = .ok (.iastore, 1) := by decide +kernel
theorem dX0_traceFirstRow_41 : decode cX0_traceFirstRow 41 = .ok (.aload_n 0, 1) := by decide +kernel
theorem dX0_traceFirstRow_42 : decode cX0_traceFirstRow 42 = .ok (.iload_n 2, 1) := by decide +kernel
theorem dX0_traceFirstRow_43 : decode cX0_traceFirstRow 43 = .ok (.iconst 1, 1) := by decide +kernel
theorem dX0_traceFirstRow_44 : decode cX0_traceFirstRow 44 = .ok (.iadd, 1) := by decide +kernel
theorem dX0_traceFirstRow_45 : decode cX0_traceFirstRow 45 = .ok (.putfield 90, 3) := by decide +kernel
theorem dX0_traceFirstRow_48 : decode cX0_traceFirstRow 48 = .ok (.iload_n 1, 1) := by decide +kernel
theorem dX0_traceFirstRow_49 : decode cX0_traceFirstRow 49 = .ok (.iconst 1, 1) := by decide +kernel
theorem dX0_traceFirstRow_50 : decode cX0_traceFirstRow 50 = .ok (.iload_n 3, 1) := by decide +kernel
theorem dX0_traceFirstRow_51 : decode cX0_traceFirstRow 51 = .ok (.ishl, 1) := by decide +kernel
theorem dX0_traceFirstRow_52 : decode cX0_traceFirstRow 52 = .ok (.ior, 1) := by decide +kernel
theorem dX0_traceFirstRow_53 : decode cX0_traceFirstRow 53 = .ok (.istore_n 1, 1) := by decide +kernel
theorem dX0_traceFirstRow_54 : decode cX0_traceFirstRow 54 = .ok (.iinc 2 1, 3) := by decide +kernel
theorem dX0_traceFirstRow_57 : decode cX0_traceFirstRow 57 = .ok (.goto (-48), 3) := by decide +kernel
theorem dX0_traceFirstRow_60 : decode cX0_traceFirstRow 60 = .ok (.return_, 1) := by decide +kernel
set_option maxRecDepth 20000 in
theorem ggX0_firstBestStep_X0_isBestStep : GoodIn wsX0_firstBestStep wsX0_isBestStep := goodIn_r _ [5, 6, 7, 8, 9, 4, 10, 11, 12, 13, 14, 15, 16, 17, 18, 19, 20, 21, 22, 23, 24, 25, 26, 27, 28, 29, 30, 31, 32, 33, 34] (by decide +kernel) (by decide +kernel)
set_option maxRecDepth 20000 in
theorem gX0_firstBestStep_X0_isBestStep : GoodIn wsX0_firstBestStep (wsV RX0 96 RX0 yX0_isBestStep wsX0_isBestStep) := goodIn_app (goodIn_of _ (by decide +kernel)) ggX0_firstBestStep_X0_isBestStep
theorem dX0_firstBestStep_0 : decode cX0_firstBestStep 0 = .ok (.iconst 0, 1) := by decide +kernel
theorem dX0_firstBestStep_1 : decode cX0_firstBestStep 1 = .ok (.istore_n 2, 1) := by decide +kernel
theorem dX0_firstBestStep_2 : decode cX0_firstBestStep 2 = .ok (.iload_n 2, 1) := by decide +kernel
theorem dX0_firstBestStep_3 : decode cX0_firstBestStep 3 = .ok (.bipush 6, 2) := by decide +kernel
theorem dX0_firstBestStep_5 : decode cX0_firstBestStep 5 = .ok (.if_icmp .ge 20, 3) := by decide +kernel
theorem dX0_firstBestStep_8 : decode cX0_firstBestStep 8 = .ok (.aload_n 0, 1) := by decide +kernel
theorem dX0_firstBestStep_9 : decode cX0_firstBestStep 9 = .ok (.iload_n 1, 1) := by decide +kernel
theorem dX0_firstBestStep_10 : decode cX0_firstBestStep 10 = .ok (.iload_n 2, 1) := by decide +kernel
theorem dX0_firstBestStep_11 : decode cX0_firstBestStep 11 = .ok (.invokevirtual 96, 3) := by decide +kernel
theorem dX0_firstBestStep_14 : decode cX0_firstBestStep 14 = .ok (.ifCond .eq 5, 3) := by decide +kernel
theorem dX0_firstBestStep_17 : decode cX0_firstBestStep 17 = .ok (.iload_n 2, 1) := by decide +kernel
theorem dX0_firstBestStep_18 : decode cX0_firstBestStep 18 = .ok (.ireturn, 1) := by decide +kernel
theorem dX0_firstBestStep_19 : decode cX0_firstBestStep 19 = .ok (.iinc 2 1, 3) := by decide +kernel
theorem dX0_firstBestStep_22 : decode cX0_firstBestStep 22 = .ok (.goto (-20), 3) := by decide +kernel
theorem dX0_firstBestStep_25 : decode cX0_firstBestStep 25 = .ok (.bipush (-4), 2) := by decide +kernel
theorem dX0_firstBestStep_27 : decode cX0_firstBestStep 27 = .ok (.ireturn, 1) := by decide +kernel
theorem dX0_exist_0 : decode cX0_exist 0 = .ok (.aload_n 0, 1) := by decide +kernel
theorem dX0_exist_1 : decode cX0_exist 1 = .ok (.getfield 24, 3) := by decide +kernel
theorem dX0_exist_4 : decode cX0_exist 4 = .ok (.iconst 0, 1) := by decide +kernel
theorem dX0_exist_5 : decode cX0_exist 5 = .ok (.iaload, 1) := by decide +kernel
theorem dX0_exist_6 : decode cX0_exist 6 = .ok (.ifCond .le 7, 3) := by decide +kernel
theorem dX0_exist_9 : decode cX0_exist 9 = .ok (.iconst 1, 1) := by decide +kernel
theorem dX0_exist_10 : decode cX0_exist 10 = .ok (.goto 4, 3) := by decide +kernel
theorem dX0_exist_13 : decode cX0_exist 13 = .ok (.iconst 0, 1) := by decide +kernel
theorem dX0_exist_14 : decode cX0_exist 14 = .ok (.ireturn, 1) := by decide +kernel
theorem dX0_howMany_0 : decode cX0_howMany 0 = .ok (.aload_n 0, 1) := by decide +kernel
theorem dX0_howMany_1 : decode cX0_howMany 1 = .ok (.getfield 24, 3) := by decide +kernel
theorem dX0_howMany_4 : decode cX0_howMany 4 = .ok (.iconst 0, 1) := by decide +kernel
theorem dX0_howMany_5 : decode cX0_howMany 5 = .ok (.iaload, 1) := by decide +kernel
theorem dX0_howMany_6 : decode cX0_howMany 6 = .ok (.ireturn, 1) := by decide +kernel
theorem dX0_fewestGaps_0 : decode cX0_fewestGaps 0 = .ok (.aload_n 0, 1) := by decide +kernel
theorem dX0_fewestGaps_1 : decode cX0_fewestGaps 1 = .ok (.getfield 21, 3) := by decide +kernel
theorem dX0_fewestGaps_4 : decode cX0_fewestGaps 4 = .ok (.iconst 0, 1) := by decide +kernel
theorem dX0_fewestGaps_5 : decode cX0_fewestGaps 5 = .ok (.iaload, 1) := by decide +kernel
theorem dX0_fewestGaps_6 : decode cX0_fewestGaps 6 = .ok (.ireturn, 1) := by decide +kernel
theorem dX0_partAt_0 : decode cX0_partAt 0 = .ok (.iload_n 1, 1) := by decide +kernel
theorem dX0_partAt_1 : decode cX0_partAt 1 = .ok (.ifCond .lt 26, 3) := by decide +kernel
theorem dX0_partAt_4 : decode cX0_partAt 4 = .ok (.iload_n 1, 1) := by decide +kernel
theorem dX0_partAt_5 : decode cX0_partAt 5 = .ok (.aload_n 0, 1) := by decide +kernel
theorem dX0_partAt_6 : decode cX0_partAt 6 = .ok (.getfield 90, 3) := by decide +kernel
theorem dX0_partAt_9 : decode cX0_partAt 9 = .ok (.if_icmp .ge 18, 3) := by decide +kernel
theorem dX0_partAt_12 : decode cX0_partAt 12 = .ok (.iload_n 1, 1) := by decide +kernel
theorem dX0_partAt_13 : decode cX0_partAt 13 = .ok (.bipush 6, 2) := by decide +kernel
theorem dX0_partAt_15 : decode cX0_partAt 15 = .ok (.if_icmp .ge 12, 3) := by decide +kernel
theorem dX0_partAt_18 : decode cX0_partAt 18 = .ok (.aload_n 0, 1) := by decide +kernel
theorem dX0_partAt_19 : decode cX0_partAt 19 = .ok (.getfield 33, 3) := by decide +kernel
theorem dX0_partAt_22 : decode cX0_partAt 22 = .ok (.iload_n 1, 1) := by decide +kernel
theorem dX0_partAt_23 : decode cX0_partAt 23 = .ok (.iaload, 1) := by decide +kernel
theorem dX0_partAt_24 : decode cX0_partAt 24 = .ok (.goto 5, 3) := by decide +kernel
theorem dX0_partAt_27 : decode cX0_partAt 27 = .ok (.bipush (-4), 2) := by decide +kernel
theorem dX0_partAt_29 : decode cX0_partAt 29 = .ok (.ireturn, 1) := by decide +kernel
set_option maxRecDepth 20000 in
theorem ggX0_howManyAhead_J7_fill_53178 : GoodIn wsX0_howManyAhead wsJ7_fill_53178 := goodIn_r _ [7] (by decide +kernel) (by decide +kernel)
set_option maxRecDepth 20000 in
theorem gX0_howManyAhead_J7_fill_53178 : GoodIn wsX0_howManyAhead (va_wsS RX0 40 yJ7_fill_53178 wsJ7_fill_53178) := goodIn_app (goodIn_of _ (by decide +kernel)) ggX0_howManyAhead_J7_fill_53178
set_option maxRecDepth 20000 in
theorem ggX0_howManyAhead_X0_reachFrom : GoodIn wsX0_howManyAhead wsX0_reachFrom := goodIn_r _ [12, 1, 13, 14, 15, 11, 16, 17, 18, 19, 20, 21, 2, 22, 3, 23, 24, 25, 26, 27, 28, 29, 30, 31, 32, 33, 34, 35, 36, 37, 38, 39, 40, 41, 42, 43] (by decide +kernel) (by decide +kernel)
set_option maxRecDepth 20000 in
theorem gX0_howManyAhead_X0_reachFrom : GoodIn wsX0_howManyAhead (wsV RX0 99 RX0 yX0_reachFrom wsX0_reachFrom) := goodIn_app (goodIn_of _ (by decide +kernel)) ggX0_howManyAhead_X0_reachFrom
set_option maxRecDepth 20000 in
theorem ggX0_howManyAhead_X0_isBestStep : GoodIn wsX0_howManyAhead wsX0_isBestStep := goodIn_r _ [16, 17, 18, 19, 20, 11, 21, 2, 22, 3, 23, 24, 25, 26, 27, 28, 29, 30, 31, 32, 33, 34, 35, 36, 37, 38, 39, 40, 41, 42, 43] (by decide +kernel) (by decide +kernel)
set_option maxRecDepth 20000 in
theorem gX0_howManyAhead_X0_isBestStep : GoodIn wsX0_howManyAhead (wsV RX0 96 RX0 yX0_isBestStep wsX0_isBestStep) := goodIn_app (goodIn_of _ (by decide +kernel)) ggX0_howManyAhead_X0_isBestStep
theorem dX0_howManyAhead_0 : decode cX0_howManyAhead 0 = .ok (.aload_n 0, 1) := by decide +kernel
theorem dX0_howManyAhead_1 : decode cX0_howManyAhead 1 = .ok (.getfield 27, 3) := by decide +kernel
theorem dX0_howManyAhead_4 : decode cX0_howManyAhead 4 = .ok (.iconst 0, 1) := by decide +kernel
theorem dX0_howManyAhead_5 : decode cX0_howManyAhead 5 = .ok (.invokestatic 40, 3) := by decide +kernel
theorem dX0_howManyAhead_8 : decode cX0_howManyAhead 8 = .ok (.aload_n 0, 1) := by decide +kernel
theorem dX0_howManyAhead_9 : decode cX0_howManyAhead 9 = .ok (.getfield 27, 3) := by decide +kernel
theorem dX0_howManyAhead_12 : decode cX0_howManyAhead 12 = .ok (.iconst 0, 1) := by decide +kernel
theorem dX0_howManyAhead_13 : decode cX0_howManyAhead 13 = .ok (.iconst 1, 1) := by decide +kernel
theorem dX0_howManyAhead_14 : decode cX0_howManyAhead 14 = .ok (.iastore, 1) := by decide +kernel
theorem dX0_howManyAhead_15 : decode cX0_howManyAhead 15 = .ok (.iconst 0, 1) := by decide +kernel
theorem dX0_howManyAhead_16 : decode cX0_howManyAhead 16 = .ok (.istore_n 3, 1) := by decide +kernel
theorem dX0_howManyAhead_17 : decode cX0_howManyAhead 17 = .ok (.iconst 0, 1) := by decide +kernel
theorem dX0_howManyAhead_18 : decode cX0_howManyAhead 18 = .ok (.istore 4, 2) := by decide +kernel
theorem dX0_howManyAhead_20 : decode cX0_howManyAhead 20 = .ok (.iload 4, 2) := by decide +kernel
theorem dX0_howManyAhead_22 : decode cX0_howManyAhead 22 = .ok (.aload_n 0, 1) := by decide +kernel
theorem dX0_howManyAhead_23 : decode cX0_howManyAhead 23 = .ok (.getfield 36, 3) := by decide +kernel
theorem dX0_howManyAhead_26 : decode cX0_howManyAhead 26 = .ok (.if_icmp .ge 66, 3) := by decide +kernel
theorem dX0_howManyAhead_29 : decode cX0_howManyAhead 29 = .ok (.aload_n 0, 1) := by decide +kernel
theorem dX0_howManyAhead_30 : decode cX0_howManyAhead 30 = .ok (.getfield 27, 3) := by decide +kernel
theorem dX0_howManyAhead_33 : decode cX0_howManyAhead 33 = .ok (.iload 4, 2) := by decide +kernel
theorem dX0_howManyAhead_35 : decode cX0_howManyAhead 35 = .ok (.iaload, 1) := by decide +kernel
theorem dX0_howManyAhead_36 : decode cX0_howManyAhead 36 = .ok (.ifCond .le 50, 3) := by decide +kernel
theorem dX0_howManyAhead_39 : decode cX0_howManyAhead 39 = .ok (.aload_n 0, 1) := by decide +kernel
theorem dX0_howManyAhead_40 : decode cX0_howManyAhead 40 = .ok (.iload 4, 2) := by decide +kernel
theorem dX0_howManyAhead_42 : decode cX0_howManyAhead 42 = .ok (.invokevirtual 99, 3) := by decide +kernel
theorem dX0_howManyAhead_45 : decode cX0_howManyAhead 45 = .ok (.iload 4, 2) := by decide +kernel
theorem dX0_howManyAhead_47 : decode cX0_howManyAhead 47 = .ok (.iload_n 2, 1) := by decide +kernel
theorem dX0_howManyAhead_48 : decode cX0_howManyAhead 48 = .ok (.ishr, 1) := by decide +kernel
theorem dX0_howManyAhead_49 : decode cX0_howManyAhead 49 = .ok (.iconst 1, 1) := by decide +kernel
theorem dX0_howManyAhead_50 : decode cX0_howManyAhead 50 = .ok (.iand, 1) := by decide +kernel
theorem dX0_howManyAhead_51 : decode cX0_howManyAhead 51 = .ok (.ifCond .ne 35, 3) := by decide +kernel
theorem dX0_howManyAhead_54 : decode cX0_howManyAhead 54 = .ok (.aload_n 0, 1) := by decide +kernel
theorem dX0_howManyAhead_55 : decode cX0_howManyAhead 55 = .ok (.iload 4, 2) := by decide +kernel
theorem dX0_howManyAhead_57 : decode cX0_howManyAhead 57 = .ok (.iload_n 1, 1) := by decide +kernel
theorem dX0_howManyAhead_58 : decode cX0_howManyAhead 58 = .ok (.invokevirtual 96, 3) := by decide +kernel
theorem dX0_howManyAhead_61 : decode cX0_howManyAhead 61 = .ok (.ifCond .eq 25, 3) := by decide +kernel
theorem dX0_howManyAhead_64 : decode cX0_howManyAhead 64 = .ok (.iload_n 3, 1) := by decide +kernel
theorem dX0_howManyAhead_65 : decode cX0_howManyAhead 65 = .ok (.aload_n 0, 1) := by decide +kernel
theorem dX0_howManyAhead_66 : decode cX0_howManyAhead 66 = .ok (.getfield 27, 3) := by decide +kernel
theorem dX0_howManyAhead_69 : decode cX0_howManyAhead 69 = .ok (.iload 4, 2) := by decide +kernel
theorem dX0_howManyAhead_71 : decode cX0_howManyAhead 71 = .ok (.iaload, 1) := by decide +kernel
theorem dX0_howManyAhead_72 : decode cX0_howManyAhead 72 = .ok (.aload_n 0, 1) := by decide +kernel
theorem dX0_howManyAhead_73 : decode cX0_howManyAhead 73 = .ok (.getfield 24, 3) := by decide +kernel
theorem dX0_howManyAhead_76 : decode cX0_howManyAhead 76 = .ok (.iload 4, 2) := by decide +kernel
theorem dX0_howManyAhead_78 : decode cX0_howManyAhead 78 = .ok (.iconst 1, 1) := by decide +kernel
theorem dX0_howManyAhead_79 : decode cX0_howManyAhead 79 = .ok (.iload_n 1, 1) := by decide +kernel
theorem dX0_howManyAhead_80 : decode cX0_howManyAhead 80 = .ok (.ishl, 1) := by decide +kernel
theorem dX0_howManyAhead_81 : decode cX0_howManyAhead 81 = .ok (.ior, 1) := by decide +kernel
theorem dX0_howManyAhead_82 : decode cX0_howManyAhead 82 = .ok (.iaload, 1) := by decide +kernel
theorem dX0_howManyAhead_83 : decode cX0_howManyAhead 83 = .ok (.imul, 1) := by decide +kernel
theorem dX0_howManyAhead_84 : decode cX0_howManyAhead 84 = .ok (.iadd, 1) := by decide +kernel
theorem dX0_howManyAhead_85 : decode cX0_howManyAhead 85 = .ok (.istore_n 3, 1) := by decide +kernel
theorem dX0_howManyAhead_86 : decode cX0_howManyAhead 86 = .ok (.iinc 4 1, 3) := by decide +kernel
theorem dX0_howManyAhead_89 : decode cX0_howManyAhead 89 = .ok (.goto (-69), 3) := by decide +kernel
theorem dX0_howManyAhead_92 : decode cX0_howManyAhead 92 = .ok (.iload_n 3, 1) := by decide +kernel
theorem dX0_howManyAhead_93 : decode cX0_howManyAhead 93 = .ok (.ireturn, 1) := by decide +kernel
set_option maxRecDepth 20000 in
theorem ggX0_reachFrom_X0_isBestStep : GoodIn wsX0_reachFrom wsX0_isBestStep := goodIn_r _ [6, 7, 8, 9, 10, 5, 11, 12, 13, 14, 15, 16, 17, 18, 19, 20, 21, 22, 23, 24, 25, 26, 27, 28, 29, 30, 31, 32, 33, 34, 35] (by decide +kernel) (by decide +kernel)
set_option maxRecDepth 20000 in
theorem gX0_reachFrom_X0_isBestStep : GoodIn wsX0_reachFrom (wsV RX0 96 RX0 yX0_isBestStep wsX0_isBestStep) := goodIn_app (goodIn_of _ (by decide +kernel)) ggX0_reachFrom_X0_isBestStep
theorem dX0_reachFrom_0 : decode cX0_reachFrom 0 = .ok (.iconst 0, 1) := by decide +kernel
theorem dX0_reachFrom_1 : decode cX0_reachFrom 1 = .ok (.istore_n 2, 1) := by decide +kernel
theorem dX0_reachFrom_2 : decode cX0_reachFrom 2 = .ok (.iload_n 2, 1) := by decide +kernel
theorem dX0_reachFrom_3 : decode cX0_reachFrom 3 = .ok (.bipush 6, 2) := by decide +kernel
theorem dX0_reachFrom_5 : decode cX0_reachFrom 5 = .ok (.if_icmp .ge 37, 3) := by decide +kernel
theorem dX0_reachFrom_8 : decode cX0_reachFrom 8 = .ok (.aload_n 0, 1) := by decide +kernel
theorem dX0_reachFrom_9 : decode cX0_reachFrom 9 = .ok (.iload_n 1, 1) := by decide +kernel
theorem dX0_reachFrom_10 : decode cX0_reachFrom 10 = .ok (.iload_n 2, 1) := by decide +kernel
theorem dX0_reachFrom_11 : decode cX0_reachFrom 11 = .ok (.invokevirtual 96, 3) := by decide +kernel
theorem dX0_reachFrom_14 : decode cX0_reachFrom 14 = .ok (.ifCond .eq 22, 3) := by decide +kernel
theorem dX0_reachFrom_17 : decode cX0_reachFrom 17 = .ok (.aload_n 0, 1) := by decide +kernel
theorem dX0_reachFrom_18 : decode cX0_reachFrom 18 = .ok (.getfield 27, 3) := by decide +kernel
theorem dX0_reachFrom_21 : decode cX0_reachFrom 21 = .ok (.iload_n 1, 1) := by decide +kernel
theorem dX0_reachFrom_22 : decode cX0_reachFrom 22 = .ok (.iconst 1, 1) := by decide +kernel
theorem dX0_reachFrom_23 : decode cX0_reachFrom 23 = .ok (.iload_n 2, 1) := by decide +kernel
theorem dX0_reachFrom_24 : decode cX0_reachFrom 24 = .ok (.ishl, 1) := by decide +kernel
theorem dX0_reachFrom_25 : decode cX0_reachFrom 25 = .ok (.ior, 1) := by decide +kernel
theorem dX0_reachFrom_26 : decode cX0_reachFrom 26 = .ok (.dup2, 1) := by decide +kernel
theorem dX0_reachFrom_27 : decode cX0_reachFrom 27 = .ok (.iaload, 1) := by decide +kernel
theorem dX0_reachFrom_28 : decode cX0_reachFrom 28 = .ok (.aload_n 0, 1) := by decide +kernel
theorem dX0_reachFrom_29 : decode cX0_reachFrom 29 = .ok (.getfield 27, 3) := by decide +kernel
theorem dX0_reachFrom_32 : decode cX0_reachFrom 32 = .ok (.iload_n 1, 1) := by decide +kernel
theorem dX0_reachFrom_33 : decode cX0_reachFrom 33 = .ok (.iaload, 1) := by decide +kernel
theorem dX0_reachFrom_34 : decode cX0_reachFrom 34 = .ok (.iadd, 1) := by decide +kernel
theorem dX0_reachFrom_35 : decode cX0_reachFrom 35 = .ok (.iastore, 1) := by decide +kernel
theorem dX0_reachFrom_36 : decode cX0_reachFrom 36 = .ok (.iinc 2 1, 3) := by decide +kernel
theorem dX0_reachFrom_39 : decode cX0_reachFrom 39 = .ok (.goto (-37), 3) := by decide +kernel
theorem dX0_reachFrom_42 : decode cX0_reachFrom 42 = .ok (.return_, 1) := by decide +kernel
set_option maxRecDepth 20000 in
theorem ggX0_signsAt_X0_partAt : GoodIn wsX0_signsAt wsX0_partAt := goodIn_r _ [6, 7, 8, 9, 10, 11, 12, 13, 14, 15, 16, 17, 18] (by decide +kernel) (by decide +kernel)
set_option maxRecDepth 20000 in
theorem gX0_signsAt_X0_partAt : GoodIn wsX0_signsAt (wsV RX0 102 RX0 yX0_partAt wsX0_partAt) := goodIn_app (goodIn_of _ (by decide +kernel)) ggX0_signsAt_X0_partAt
theorem dX0_signsAt_0 : decode cX0_signsAt 0 = .ok (.aload_n 0, 1) := by decide +kernel
theorem dX0_signsAt_1 : decode cX0_signsAt 1 = .ok (.iload_n 1, 1) := by decide +kernel
theorem dX0_signsAt_2 : decode cX0_signsAt 2 = .ok (.invokevirtual 102, 3) := by decide +kernel
theorem dX0_signsAt_5 : decode cX0_signsAt 5 = .ok (.istore_n 2, 1) := by decide +kernel
theorem dX0_signsAt_6 : decode cX0_signsAt 6 = .ok (.iload_n 2, 1) := by decide +kernel
theorem dX0_signsAt_7 : decode cX0_signsAt 7 = .ok (.ifCond .lt 12, 3) := by decide +kernel
theorem dX0_signsAt_10 : decode cX0_signsAt 10 = .ok (.aload_n 0, 1) := by decide +kernel
theorem dX0_signsAt_11 : decode cX0_signsAt 11 = .ok (.getfield 9, 3) := by decide +kernel
theorem dX0_signsAt_14 : decode cX0_signsAt 14 = .ok (.iload_n 2, 1) := by decide +kernel
theorem dX0_signsAt_15 : decode cX0_signsAt 15 = .ok (.iaload, 1) := by decide +kernel
theorem dX0_signsAt_16 : decode cX0_signsAt 16 = .ok (.goto 4, 3) := by decide +kernel
theorem dX0_signsAt_19 : decode cX0_signsAt 19 = .ok (.iconst 0, 1) := by decide +kernel
theorem dX0_signsAt_20 : decode cX0_signsAt 20 = .ok (.ireturn, 1) := by decide +kernel
set_option maxRecDepth 20000 in
theorem ggX0_signsUpTo_X0_signsAt : GoodIn wsX0_signsUpTo wsX0_signsAt := goodIn_r _ [5, 6, 7, 8, 9, 4, 10, 11, 12, 13, 14, 15, 16, 17, 18, 19, 20, 21, 22] (by decide +kernel) (by decide +kernel)
set_option maxRecDepth 20000 in
theorem gX0_signsUpTo_X0_signsAt : GoodIn wsX0_signsUpTo (wsV RX0 105 RX0 yX0_signsAt wsX0_signsAt) := goodIn_app (goodIn_of _ (by decide +kernel)) ggX0_signsUpTo_X0_signsAt
theorem dX0_signsUpTo_0 : decode cX0_signsUpTo 0 = .ok (.iconst 0, 1) := by decide +kernel
theorem dX0_signsUpTo_1 : decode cX0_signsUpTo 1 = .ok (.istore_n 2, 1) := by decide +kernel
theorem dX0_signsUpTo_2 : decode cX0_signsUpTo 2 = .ok (.iconst 0, 1) := by decide +kernel
theorem dX0_signsUpTo_3 : decode cX0_signsUpTo 3 = .ok (.istore_n 3, 1) := by decide +kernel
theorem dX0_signsUpTo_4 : decode cX0_signsUpTo 4 = .ok (.iload_n 3, 1) := by decide +kernel
theorem dX0_signsUpTo_5 : decode cX0_signsUpTo 5 = .ok (.bipush 6, 2) := by decide +kernel
theorem dX0_signsUpTo_7 : decode cX0_signsUpTo 7 = .ok (.if_icmp .ge 22, 3) := by decide +kernel
theorem dX0_signsUpTo_10 : decode cX0_signsUpTo 10 = .ok (.iload_n 3, 1) := by decide +kernel
theorem dX0_signsUpTo_11 : decode cX0_signsUpTo 11 = .ok (.iload_n 1, 1) := by decide +kernel
theorem dX0_signsUpTo_12 : decode cX0_signsUpTo 12 = .ok (.if_icmp .gt 17, 3) := by decide +kernel
theorem dX0_signsUpTo_15 : decode cX0_signsUpTo 15 = .ok (.iload_n 2, 1) := by decide +kernel
theorem dX0_signsUpTo_16 : decode cX0_signsUpTo 16 = .ok (.aload_n 0, 1) := by decide +kernel
theorem dX0_signsUpTo_17 : decode cX0_signsUpTo 17 = .ok (.iload_n 3, 1) := by decide +kernel
theorem dX0_signsUpTo_18 : decode cX0_signsUpTo 18 = .ok (.invokevirtual 105, 3) := by decide +kernel
theorem dX0_signsUpTo_21 : decode cX0_signsUpTo 21 = .ok (.ior, 1) := by decide +kernel
theorem dX0_signsUpTo_22 : decode cX0_signsUpTo 22 = .ok (.istore_n 2, 1) := by decide +kernel
theorem dX0_signsUpTo_23 : decode cX0_signsUpTo 23 = .ok (.iinc 3 1, 3) := by decide +kernel
theorem dX0_signsUpTo_26 : decode cX0_signsUpTo 26 = .ok (.goto (-22), 3) := by decide +kernel
theorem dX0_signsUpTo_29 : decode cX0_signsUpTo 29 = .ok (.iload_n 2, 1) := by decide +kernel
theorem dX0_signsUpTo_30 : decode cX0_signsUpTo 30 = .ok (.ireturn, 1) := by decide +kernel
set_option maxRecDepth 20000 in
theorem ggX0_signsBehind_X0_signsAt : GoodIn wsX0_signsBehind wsX0_signsAt := goodIn_r _ [5, 6, 7, 8, 9, 4, 10, 11, 12, 13, 14, 15, 16, 17, 18, 19, 20, 21, 22] (by decide +kernel) (by decide +kernel)
set_option maxRecDepth 20000 in
theorem gX0_signsBehind_X0_signsAt : GoodIn wsX0_signsBehind (wsV RX0 105 RX0 yX0_signsAt wsX0_signsAt) := goodIn_app (goodIn_of _ (by decide +kernel)) ggX0_signsBehind_X0_signsAt
theorem dX0_signsBehind_0 : decode cX0_signsBehind 0 = .ok (.iconst 0, 1) := by decide +kernel
theorem dX0_signsBehind_1 : decode cX0_signsBehind 1 = .ok (.istore_n 2, 1) := by decide +kernel
theorem dX0_signsBehind_2 : decode cX0_signsBehind 2 = .ok (.iload_n 1, 1) := by decide +kernel
theorem dX0_signsBehind_3 : decode cX0_signsBehind 3 = .ok (.iconst 1, 1) := by decide +kernel
theorem dX0_signsBehind_4 : decode cX0_signsBehind 4 = .ok (.iadd, 1) := by decide +kernel
theorem dX0_signsBehind_5 : decode cX0_signsBehind 5 = .ok (.istore_n 3, 1) := by decide +kernel
theorem dX0_signsBehind_6 : decode cX0_signsBehind 6 = .ok (.iload_n 3, 1) := by decide +kernel
theorem dX0_signsBehind_7 : decode cX0_signsBehind 7 = .ok (.bipush 6, 2) := by decide +kernel
theorem dX0_signsBehind_9 : decode cX0_signsBehind 9 = .ok (.if_icmp .ge 17, 3) := by decide +kernel
theorem dX0_signsBehind_12 : decode cX0_signsBehind 12 = .ok (.iload_n 2, 1) := by decide +kernel
theorem dX0_signsBehind_13 : decode cX0_signsBehind 13 = .ok (.aload_n 0, 1) := by decide +kernel
theorem dX0_signsBehind_14 : decode cX0_signsBehind 14 = .ok (.iload_n 3, 1) := by decide +kernel
theorem dX0_signsBehind_15 : decode cX0_signsBehind 15 = .ok (.invokevirtual 105, 3) := by decide +kernel
theorem dX0_signsBehind_18 : decode cX0_signsBehind 18 = .ok (.ior, 1) := by decide +kernel
theorem dX0_signsBehind_19 : decode cX0_signsBehind 19 = .ok (.istore_n 2, 1) := by decide +kernel
theorem dX0_signsBehind_20 : decode cX0_signsBehind 20 = .ok (.iinc 3 1, 3) := by decide +kernel
theorem dX0_signsBehind_23 : decode cX0_signsBehind 23 = .ok (.goto (-17), 3) := by decide +kernel
theorem dX0_signsBehind_26 : decode cX0_signsBehind 26 = .ok (.iload_n 2, 1) := by decide +kernel
theorem dX0_signsBehind_27 : decode cX0_signsBehind 27 = .ok (.ireturn, 1) := by decide +kernel
set_option maxRecDepth 20000 in
theorem ggX0_goingOver_X0_signsUpTo : GoodIn wsX0_goingOver wsX0_signsUpTo := goodIn_r _ [5, 6, 7, 8, 4, 9, 10, 11, 12, 13, 14, 15, 16, 21, 22, 23, 24, 25, 26, 27, 28, 29, 30] (by decide +kernel) (by decide +kernel)
set_option maxRecDepth 20000 in
theorem gX0_goingOver_X0_signsUpTo : GoodIn wsX0_goingOver (wsV RX0 108 RX0 yX0_signsUpTo wsX0_signsUpTo) := goodIn_app (goodIn_of _ (by decide +kernel)) ggX0_goingOver_X0_signsUpTo
set_option maxRecDepth 20000 in
theorem ggX0_goingOver_X0_signsBehind : GoodIn wsX0_goingOver wsX0_signsBehind := goodIn_r _ [20, 6, 7, 8, 4, 9, 10, 11, 12, 13, 14, 15, 16, 21, 22, 23, 24, 25, 26, 27, 28, 29, 30] (by decide +kernel) (by decide +kernel)
set_option maxRecDepth 20000 in
theorem gX0_goingOver_X0_signsBehind : GoodIn wsX0_goingOver (wsV RX0 111 RX0 yX0_signsBehind wsX0_signsBehind) := goodIn_app (goodIn_of _ (by decide +kernel)) ggX0_goingOver_X0_signsBehind
theorem dX0_goingOver_0 : decode cX0_goingOver 0 = .ok (.aload_n 0, 1) := by decide +kernel
theorem dX0_goingOver_1 : decode cX0_goingOver 1 = .ok (.iload_n 1, 1) := by decide +kernel
theorem dX0_goingOver_2 : decode cX0_goingOver 2 = .ok (.invokevirtual 108, 3) := by decide +kernel
theorem dX0_goingOver_5 : decode cX0_goingOver 5 = .ok (.aload_n 0, 1) := by decide +kernel
theorem dX0_goingOver_6 : decode cX0_goingOver 6 = .ok (.iload_n 1, 1) := by decide +kernel
theorem dX0_goingOver_7 : decode cX0_goingOver 7 = .ok (.invokevirtual 111, 3) := by decide +kernel
theorem dX0_goingOver_10 : decode cX0_goingOver 10 = .ok (.iand, 1) := by decide +kernel
theorem dX0_goingOver_11 : decode cX0_goingOver 11 = .ok (.ireturn, 1) := by decide +kernel
set_option maxRecDepth 20000 in
theorem ggX0_endingAt_X0_signsAt : GoodIn wsX0_endingAt wsX0_signsAt := goodIn_r _ [5, 6, 7, 8, 9, 4, 10, 11, 12, 17, 18, 19, 20, 21, 22, 23, 24, 25, 26] (by decide +kernel) (by decide +kernel)
set_option maxRecDepth 20000 in
theorem gX0_endingAt_X0_signsAt : GoodIn wsX0_endingAt (wsV RX0 105 RX0 yX0_signsAt wsX0_signsAt) := goodIn_app (goodIn_of _ (by decide +kernel)) ggX0_endingAt_X0_signsAt
set_option maxRecDepth 20000 in
theorem ggX0_endingAt_X0_signsBehind : GoodIn wsX0_endingAt wsX0_signsBehind := goodIn_r _ [16, 1, 2, 3, 4, 5, 6, 7, 8, 9, 10, 11, 12, 17, 18, 19, 20, 21, 22, 23, 24, 25, 26] (by decide +kernel) (by decide +kernel)
set_option maxRecDepth 20000 in
theorem gX0_endingAt_X0_signsBehind : GoodIn wsX0_endingAt (wsV RX0 111 RX0 yX0_signsBehind wsX0_signsBehind) := goodIn_app (goodIn_of _ (by decide +kernel)) ggX0_endingAt_X0_signsBehind
theorem dX0_endingAt_0 : decode cX0_endingAt 0 = .ok (.aload_n 0, 1) := by decide +kernel
theorem dX0_endingAt_1 : decode cX0_endingAt 1 = .ok (.iload_n 1, 1) := by decide +kernel
theorem dX0_endingAt_2 : decode cX0_endingAt 2 = .ok (.invokevirtual 105, 3) := by decide +kernel
theorem dX0_endingAt_5 : decode cX0_endingAt 5 = .ok (.aload_n 0, 1) := by decide +kernel
theorem dX0_endingAt_6 : decode cX0_endingAt 6 = .ok (.iload_n 1, 1) := by decide +kernel
theorem dX0_endingAt_7 : decode cX0_endingAt 7 = .ok (.invokevirtual 111, 3) := by decide +kernel
theorem dX0_endingAt_10 : decode cX0_endingAt 10 = .ok (.iconst (-1), 1) := by decide +kernel
theorem dX0_endingAt_11 : decode cX0_endingAt 11 = .ok (.ixor, 1) := by decide +kernel
theorem dX0_endingAt_12 : decode cX0_endingAt 12 = .ok (.iand, 1) := by decide +kernel
theorem dX0_endingAt_13 : decode cX0_endingAt 13 = .ok (.ireturn, 1) := by decide +kernel
set_option maxRecDepth 20000 in
theorem ggX0_beginningAt_X0_signsAt : GoodIn wsX0_beginningAt wsX0_signsAt := goodIn_r _ [5, 6, 7, 8, 9, 4, 10, 11, 12, 17, 18, 19, 20, 21, 22, 23, 24, 25, 26] (by decide +kernel) (by decide +kernel)
set_option maxRecDepth 20000 in
theorem gX0_beginningAt_X0_signsAt : GoodIn wsX0_beginningAt (wsV RX0 105 RX0 yX0_signsAt wsX0_signsAt) := goodIn_app (goodIn_of _ (by decide +kernel)) ggX0_beginningAt_X0_signsAt
set_option maxRecDepth 20000 in
theorem ggX0_beginningAt_X0_signsUpTo : GoodIn wsX0_beginningAt wsX0_signsUpTo := goodIn_r _ [16, 1, 2, 3, 4, 5, 6, 7, 8, 9, 10, 11, 12, 17, 18, 19, 20, 21, 22, 23, 24, 25, 26] (by decide +kernel) (by decide +kernel)
set_option maxRecDepth 20000 in
theorem gX0_beginningAt_X0_signsUpTo : GoodIn wsX0_beginningAt (wsV RX0 108 RX0 yX0_signsUpTo wsX0_signsUpTo) := goodIn_app (goodIn_of _ (by decide +kernel)) ggX0_beginningAt_X0_signsUpTo
theorem dX0_beginningAt_0 : decode cX0_beginningAt 0 = .ok (.aload_n 0, 1) := by decide +kernel
theorem dX0_beginningAt_1 : decode cX0_beginningAt 1 = .ok (.iload_n 1, 1) := by decide +kernel
theorem dX0_beginningAt_2 : decode cX0_beginningAt 2 = .ok (.iconst 1, 1) := by decide +kernel
theorem dX0_beginningAt_3 : decode cX0_beginningAt 3 = .ok (.iadd, 1) := by decide +kernel
theorem dX0_beginningAt_4 : decode cX0_beginningAt 4 = .ok (.invokevirtual 105, 3) := by decide +kernel
theorem dX0_beginningAt_7 : decode cX0_beginningAt 7 = .ok (.aload_n 0, 1) := by decide +kernel
theorem dX0_beginningAt_8 : decode cX0_beginningAt 8 = .ok (.iload_n 1, 1) := by decide +kernel
theorem dX0_beginningAt_9 : decode cX0_beginningAt 9 = .ok (.invokevirtual 108, 3) := by decide +kernel
theorem dX0_beginningAt_12 : decode cX0_beginningAt 12 = .ok (.iconst (-1), 1) := by decide +kernel
theorem dX0_beginningAt_13 : decode cX0_beginningAt 13 = .ok (.ixor, 1) := by decide +kernel
theorem dX0_beginningAt_14 : decode cX0_beginningAt 14 = .ok (.iand, 1) := by decide +kernel
theorem dX0_beginningAt_15 : decode cX0_beginningAt 15 = .ok (.ireturn, 1) := by decide +kernel
set_option maxRecDepth 20000 in
theorem ggX0_astrayAt_X0_signsAt : GoodIn wsX0_astrayAt wsX0_signsAt := goodIn_r _ [5, 6, 7, 8, 9, 4, 10, 11, 12, 13, 14, 15, 16, 17, 18, 19, 20, 21, 22] (by decide +kernel) (by decide +kernel)
set_option maxRecDepth 20000 in
theorem gX0_astrayAt_X0_signsAt : GoodIn wsX0_astrayAt (wsV RX0 105 RX0 yX0_signsAt wsX0_signsAt) := goodIn_app (goodIn_of _ (by decide +kernel)) ggX0_astrayAt_X0_signsAt
theorem dX0_astrayAt_0 : decode cX0_astrayAt 0 = .ok (.iconst 0, 1) := by decide +kernel
theorem dX0_astrayAt_1 : decode cX0_astrayAt 1 = .ok (.istore_n 2, 1) := by decide +kernel
theorem dX0_astrayAt_2 : decode cX0_astrayAt 2 = .ok (.iconst 0, 1) := by decide +kernel
theorem dX0_astrayAt_3 : decode cX0_astrayAt 3 = .ok (.istore_n 3, 1) := by decide +kernel
theorem dX0_astrayAt_4 : decode cX0_astrayAt 4 = .ok (.iload_n 3, 1) := by decide +kernel
theorem dX0_astrayAt_5 : decode cX0_astrayAt 5 = .ok (.iconst 5, 1) := by decide +kernel
theorem dX0_astrayAt_6 : decode cX0_astrayAt 6 = .ok (.if_icmp .ge 25, 3) := by decide +kernel
theorem dX0_astrayAt_9 : decode cX0_astrayAt 9 = .ok (.iload_n 2, 1) := by decide +kernel
theorem dX0_astrayAt_10 : decode cX0_astrayAt 10 = .ok (.aload_n 0, 1) := by decide +kernel
theorem dX0_astrayAt_11 : decode cX0_astrayAt 11 = .ok (.iload_n 3, 1) := by decide +kernel
theorem dX0_astrayAt_12 : decode cX0_astrayAt 12 = .ok (.invokevirtual 105, 3) := by decide +kernel
theorem dX0_astrayAt_15 : decode cX0_astrayAt 15 = .ok (.aload_n 0, 1) := by decide +kernel
theorem dX0_astrayAt_16 : decode cX0_astrayAt 16 = .ok (.iload_n 3, 1) := by decide +kernel
theorem dX0_astrayAt_17 : decode cX0_astrayAt 17 = .ok (.iconst 1, 1) := by decide +kernel
theorem dX0_astrayAt_18 : decode cX0_astrayAt 18 = .ok (.iadd, 1) := by decide +kernel
theorem dX0_astrayAt_19 : decode cX0_astrayAt 19 = .ok (.invokevirtual 105, 3) := by decide +kernel
theorem dX0_astrayAt_22 : decode cX0_astrayAt 22 = .ok (.iand, 1) := by decide +kernel
theorem dX0_astrayAt_23 : decode cX0_astrayAt 23 = .ok (.ior, 1) := by decide +kernel
theorem dX0_astrayAt_24 : decode cX0_astrayAt 24 = .ok (.istore_n 2, 1) := by decide +kernel
theorem dX0_astrayAt_25 : decode cX0_astrayAt 25 = .ok (.iinc 3 1, 3) := by decide +kernel
theorem dX0_astrayAt_28 : decode cX0_astrayAt 28 = .ok (.goto (-24), 3) := by decide +kernel
theorem dX0_astrayAt_31 : decode cX0_astrayAt 31 = .ok (.aload_n 0, 1) := by decide +kernel
theorem dX0_astrayAt_32 : decode cX0_astrayAt 32 = .ok (.iload_n 1, 1) := by decide +kernel
theorem dX0_astrayAt_33 : decode cX0_astrayAt 33 = .ok (.invokevirtual 105, 3) := by decide +kernel
theorem dX0_astrayAt_36 : decode cX0_astrayAt 36 = .ok (.aload_n 0, 1) := by decide +kernel
theorem dX0_astrayAt_37 : decode cX0_astrayAt 37 = .ok (.iload_n 1, 1) := by decide +kernel
theorem dX0_astrayAt_38 : decode cX0_astrayAt 38 = .ok (.iconst 1, 1) := by decide +kernel
theorem dX0_astrayAt_39 : decode cX0_astrayAt 39 = .ok (.isub, 1) := by decide +kernel
theorem dX0_astrayAt_40 : decode cX0_astrayAt 40 = .ok (.invokevirtual 105, 3) := by decide +kernel
theorem dX0_astrayAt_43 : decode cX0_astrayAt 43 = .ok (.iconst (-1), 1) := by decide +kernel
theorem dX0_astrayAt_44 : decode cX0_astrayAt 44 = .ok (.ixor, 1) := by decide +kernel
theorem dX0_astrayAt_45 : decode cX0_astrayAt 45 = .ok (.iand, 1) := by decide +kernel
theorem dX0_astrayAt_46 : decode cX0_astrayAt 46 = .ok (.aload_n 0, 1) := by decide +kernel
theorem dX0_astrayAt_47 : decode cX0_astrayAt 47 = .ok (.iload_n 1, 1) := by decide +kernel
theorem dX0_astrayAt_48 : decode cX0_astrayAt 48 = .ok (.iconst 1, 1) := by decide +kernel
theorem dX0_astrayAt_49 : decode cX0_astrayAt 49 = .ok (.iadd, 1) := by decide +kernel
theorem dX0_astrayAt_50 : decode cX0_astrayAt 50 = .ok (.invokevirtual 105, 3) := by decide +kernel
theorem dX0_astrayAt_53 : decode cX0_astrayAt 53 = .ok (.iconst (-1), 1) := by decide +kernel
theorem dX0_astrayAt_54 : decode cX0_astrayAt 54 = .ok (.ixor, 1) := by decide +kernel
theorem dX0_astrayAt_55 : decode cX0_astrayAt 55 = .ok (.iand, 1) := by decide +kernel
theorem dX0_astrayAt_56 : decode cX0_astrayAt 56 = .ok (.iload_n 2, 1) := by decide +kernel
theorem dX0_astrayAt_57 : decode cX0_astrayAt 57 = .ok (.iand, 1) := by decide +kernel
theorem dX0_astrayAt_58 : decode cX0_astrayAt 58 = .ok (.ireturn, 1) := by decide +kernel
set_option maxRecDepth 20000 in
theorem ggX0_mostWithOneMore_X0_weigh : GoodIn wsX0_mostWithOneMore wsX0_weigh := goodIn_r _ [11, 12, 13, 14, 15, 10, 16, 17, 1, 18, 19, 20, 21, 22, 2, 23, 24, 25, 26, 27, 28, 29, 30, 31, 32, 33, 34, 35, 36, 37, 38, 39, 40, 41, 42, 43, 44, 45, 46] (by decide +kernel) (by decide +kernel)
set_option maxRecDepth 20000 in
theorem gX0_mostWithOneMore_X0_weigh : GoodIn wsX0_mostWithOneMore (wsV RX0 67 RX0 yX0_weigh wsX0_weigh) := goodIn_app (goodIn_of _ (by decide +kernel)) ggX0_mostWithOneMore_X0_weigh
theorem dX0_mostWithOneMore_0 : decode cX0_mostWithOneMore 0 = .ok (.aload_n 0, 1) := by decide +kernel
theorem dX0_mostWithOneMore_1 : decode cX0_mostWithOneMore 1 = .ok (.getfield 9, 3) := by decide +kernel
theorem dX0_mostWithOneMore_4 : decode cX0_mostWithOneMore 4 = .ok (.iload_n 1, 1) := by decide +kernel
theorem dX0_mostWithOneMore_5 : decode cX0_mostWithOneMore 5 = .ok (.iaload, 1) := by decide +kernel
theorem dX0_mostWithOneMore_6 : decode cX0_mostWithOneMore 6 = .ok (.istore 4, 2) := by decide +kernel
theorem dX0_mostWithOneMore_8 : decode cX0_mostWithOneMore 8 = .ok (.iconst 0, 1) := by decide +kernel
theorem dX0_mostWithOneMore_9 : decode cX0_mostWithOneMore 9 = .ok (.istore 5, 2) := by decide +kernel
theorem dX0_mostWithOneMore_11 : decode cX0_mostWithOneMore 11 = .ok (.iconst 0, 1) := by decide +kernel
theorem dX0_mostWithOneMore_12 : decode cX0_mostWithOneMore 12 = .ok (.istore 6, 2) := by decide +kernel
theorem dX0_mostWithOneMore_14 : decode cX0_mostWithOneMore 14 = .ok (.iload 6, 2) := by decide +kernel
theorem dX0_mostWithOneMore_16 : decode cX0_mostWithOneMore 16 = .ok (.iload_n 2, 1) := by decide +kernel
theorem dX0_mostWithOneMore_17 : decode cX0_mostWithOneMore 17 = .ok (.if_icmp .ge 49, 3) := by decide +kernel
theorem dX0_mostWithOneMore_20 : decode cX0_mostWithOneMore 20 = .ok (.iload 4, 2) := by decide +kernel
theorem dX0_mostWithOneMore_22 : decode cX0_mostWithOneMore 22 = .ok (.iload 6, 2) := by decide +kernel
theorem dX0_mostWithOneMore_24 : decode cX0_mostWithOneMore 24 = .ok (.ishr, 1) := by decide +kernel
theorem dX0_mostWithOneMore_25 : decode cX0_mostWithOneMore 25 = .ok (.iconst 1, 1) := by decide +kernel
theorem dX0_mostWithOneMore_26 : decode cX0_mostWithOneMore 26 = .ok (.iand, 1) := by decide +kernel
theorem dX0_mostWithOneMore_27 : decode cX0_mostWithOneMore 27 = .ok (.ifCond .ne 33, 3) := by decide +kernel
theorem dX0_mostWithOneMore_30 : decode cX0_mostWithOneMore 30 = .ok (.aload_n 0, 1) := by decide +kernel
theorem dX0_mostWithOneMore_31 : decode cX0_mostWithOneMore 31 = .ok (.getfield 9, 3) := by decide +kernel
theorem dX0_mostWithOneMore_34 : decode cX0_mostWithOneMore 34 = .ok (.iload_n 1, 1) := by decide +kernel
theorem dX0_mostWithOneMore_35 : decode cX0_mostWithOneMore 35 = .ok (.iload 4, 2) := by decide +kernel
theorem dX0_mostWithOneMore_37 : decode cX0_mostWithOneMore 37 = .ok (.iconst 1, 1) := by decide +kernel
theorem dX0_mostWithOneMore_38 : decode cX0_mostWithOneMore 38 = .ok (.iload 6, 2) := by decide +kernel
theorem dX0_mostWithOneMore_40 : decode cX0_mostWithOneMore 40 = .ok (.ishl, 1) := by decide +kernel
theorem dX0_mostWithOneMore_41 : decode cX0_mostWithOneMore 41 = .ok (.ior, 1) := by decide +kernel
theorem dX0_mostWithOneMore_42 : decode cX0_mostWithOneMore 42 = .ok (.iastore, 1) := by decide +kernel
theorem dX0_mostWithOneMore_43 : decode cX0_mostWithOneMore 43 = .ok (.aload_n 0, 1) := by decide +kernel
theorem dX0_mostWithOneMore_44 : decode cX0_mostWithOneMore 44 = .ok (.invokevirtual 67, 3) := by decide +kernel
theorem dX0_mostWithOneMore_47 : decode cX0_mostWithOneMore 47 = .ok (.iload 5, 2) := by decide +kernel
theorem dX0_mostWithOneMore_49 : decode cX0_mostWithOneMore 49 = .ok (.aload_n 0, 1) := by decide +kernel
theorem dX0_mostWithOneMore_50 : decode cX0_mostWithOneMore 50 = .ok (.getfield 24, 3) := by decide +kernel
theorem dX0_mostWithOneMore_53 : decode cX0_mostWithOneMore 53 = .ok (.iconst 0, 1) := by decide +kernel
theorem dX0_mostWithOneMore_54 : decode cX0_mostWithOneMore 54 = .ok (.iaload, 1) := by decide +kernel
theorem dX0_mostWithOneMore_55 : decode cX0_mostWithOneMore 55 = .ok (.invokestatic 114, 3) := by decide +kernel
theorem dX0_mostWithOneMore_58 : decode cX0_mostWithOneMore 58 = .ok (.istore 5, 2) := by decide +kernel
theorem dX0_mostWithOneMore_60 : decode cX0_mostWithOneMore 60 = .ok (.iinc 6 1, 3) := by decide +kernel
theorem dX0_mostWithOneMore_63 : decode cX0_mostWithOneMore 63 = .ok (.goto (-49), 3) := by decide +kernel
theorem dX0_mostWithOneMore_66 : decode cX0_mostWithOneMore 66 = .ok (.aload_n 0, 1) := by decide +kernel
theorem dX0_mostWithOneMore_67 : decode cX0_mostWithOneMore 67 = .ok (.getfield 9, 3) := by decide +kernel
theorem dX0_mostWithOneMore_70 : decode cX0_mostWithOneMore 70 = .ok (.iload_n 1, 1) := by decide +kernel
theorem dX0_mostWithOneMore_71 : decode cX0_mostWithOneMore 71 = .ok (.iload 4, 2) := by decide +kernel
theorem dX0_mostWithOneMore_73 : decode cX0_mostWithOneMore 73 = .ok (.iastore, 1) := by decide +kernel
theorem dX0_mostWithOneMore_74 : decode cX0_mostWithOneMore 74 = .ok (.iload 5, 2) := by decide +kernel
theorem dX0_mostWithOneMore_76 : decode cX0_mostWithOneMore 76 = .ok (.ifCond .le 8, 3) := by decide +kernel
theorem dX0_mostWithOneMore_79 : decode cX0_mostWithOneMore 79 = .ok (.iload 5, 2) := by decide +kernel
theorem dX0_mostWithOneMore_81 : decode cX0_mostWithOneMore 81 = .ok (.goto 4, 3) := by decide +kernel
theorem dX0_mostWithOneMore_84 : decode cX0_mostWithOneMore 84 = .ok (.iload_n 3, 1) := by decide +kernel
theorem dX0_mostWithOneMore_85 : decode cX0_mostWithOneMore 85 = .ok (.ireturn, 1) := by decide +kernel
set_option maxRecDepth 20000 in
theorem ggX0_gapsOf_X0_gapsAdded : GoodIn wsX0_gapsOf wsX0_gapsAdded := goodIn_r _ [5, 6, 7, 8, 9, 10, 11, 4, 12, 13, 14, 15, 16, 17, 18, 19, 20, 21, 22, 23] (by decide +kernel) (by decide +kernel)
set_option maxRecDepth 20000 in
theorem gX0_gapsOf_X0_gapsAdded : GoodIn wsX0_gapsOf (wsV RX0 83 RX0 yX0_gapsAdded wsX0_gapsAdded) := goodIn_app (goodIn_of _ (by decide +kernel)) ggX0_gapsOf_X0_gapsAdded
theorem dX0_gapsOf_0 : decode cX0_gapsOf 0 = .ok (.iconst 0, 1) := by decide +kernel
theorem dX0_gapsOf_1 : decode cX0_gapsOf 1 = .ok (.istore_n 3, 1) := by decide +kernel
theorem dX0_gapsOf_2 : decode cX0_gapsOf 2 = .ok (.iconst 0, 1) := by decide +kernel
theorem dX0_gapsOf_3 : decode cX0_gapsOf 3 = .ok (.istore 4, 2) := by decide +kernel
theorem dX0_gapsOf_5 : decode cX0_gapsOf 5 = .ok (.iconst 0, 1) := by decide +kernel
theorem dX0_gapsOf_6 : decode cX0_gapsOf 6 = .ok (.istore 5, 2) := by decide +kernel
theorem dX0_gapsOf_8 : decode cX0_gapsOf 8 = .ok (.iload 5, 2) := by decide +kernel
theorem dX0_gapsOf_10 : decode cX0_gapsOf 10 = .ok (.iload_n 2, 1) := by decide +kernel
theorem dX0_gapsOf_11 : decode cX0_gapsOf 11 = .ok (.if_icmp .ge 39, 3) := by decide +kernel
theorem dX0_gapsOf_14 : decode cX0_gapsOf 14 = .ok (.iload 5, 2) := by decide +kernel
theorem dX0_gapsOf_16 : decode cX0_gapsOf 16 = .ok (.aload_n 1, 1) := by decide +kernel
theorem dX0_gapsOf_17 : decode cX0_gapsOf 17 = .ok (.arraylength, 1) := by decide +kernel
theorem dX0_gapsOf_18 : decode cX0_gapsOf 18 = .ok (.if_icmp .ge 32, 3) := by decide +kernel
theorem dX0_gapsOf_21 : decode cX0_gapsOf 21 = .ok (.iload 4, 2) := by decide +kernel
theorem dX0_gapsOf_23 : decode cX0_gapsOf 23 = .ok (.aload_n 0, 1) := by decide +kernel
theorem dX0_gapsOf_24 : decode cX0_gapsOf 24 = .ok (.iload_n 3, 1) := by decide +kernel
theorem dX0_gapsOf_25 : decode cX0_gapsOf 25 = .ok (.aload_n 1, 1) := by decide +kernel
theorem dX0_gapsOf_26 : decode cX0_gapsOf 26 = .ok (.iload 5, 2) := by decide +kernel
theorem dX0_gapsOf_28 : decode cX0_gapsOf 28 = .ok (.iaload, 1) := by decide +kernel
theorem dX0_gapsOf_29 : decode cX0_gapsOf 29 = .ok (.invokevirtual 83, 3) := by decide +kernel
theorem dX0_gapsOf_32 : decode cX0_gapsOf 32 = .ok (.iadd, 1) := by decide +kernel
theorem dX0_gapsOf_33 : decode cX0_gapsOf 33 = .ok (.istore 4, 2) := by decide +kernel
theorem dX0_gapsOf_35 : decode cX0_gapsOf 35 = .ok (.iload_n 3, 1) := by decide +kernel
theorem dX0_gapsOf_36 : decode cX0_gapsOf 36 = .ok (.iconst 1, 1) := by decide +kernel
theorem dX0_gapsOf_37 : decode cX0_gapsOf 37 = .ok (.aload_n 1, 1) := by decide +kernel
theorem dX0_gapsOf_38 : decode cX0_gapsOf 38 = .ok (.iload 5, 2) := by decide +kernel
theorem dX0_gapsOf_40 : decode cX0_gapsOf 40 = .ok (.iaload, 1) := by decide +kernel
theorem dX0_gapsOf_41 : decode cX0_gapsOf 41 = .ok (.ishl, 1) := by decide +kernel
theorem dX0_gapsOf_42 : decode cX0_gapsOf 42 = .ok (.ior, 1) := by decide +kernel
theorem dX0_gapsOf_43 : decode cX0_gapsOf 43 = .ok (.istore_n 3, 1) := by decide +kernel
theorem dX0_gapsOf_44 : decode cX0_gapsOf 44 = .ok (.iinc 5 1, 3) := by decide +kernel
theorem dX0_gapsOf_47 : decode cX0_gapsOf 47 = .ok (.goto (-39), 3) := by decide +kernel
theorem dX0_gapsOf_50 : decode cX0_gapsOf 50 = .ok (.iload 4, 2) := by decide +kernel
theorem dX0_gapsOf_52 : decode cX0_gapsOf 52 = .ok (.ireturn, 1) := by decide +kernel
