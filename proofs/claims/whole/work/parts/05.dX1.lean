theorem dX1_init_0 : decode cX1_init 0 = .ok (.aload_n 0, 1) := by decide +kernel
theorem dX1_init_1 : decode cX1_init 1 = .ok (.invokespecial 3, 3) := by decide +kernel
theorem dX1_init_4 : decode cX1_init 4 = .ok (.aload_n 0, 1) := by decide +kernel
theorem dX1_init_5 : decode cX1_init 5 = .ok (.bipush 16, 2) := by decide +kernel
theorem dX1_init_7 : decode cX1_init 7 = .ok (.newarray .int, 2) := by decide +kernel
theorem dX1_init_9 : decode cX1_init 9 = .ok (.putfield 9, 3) := by decide +kernel
theorem dX1_init_12 : decode cX1_init 12 = .ok (.aload_n 0, 1) := by decide +kernel
theorem dX1_init_13 : decode cX1_init 13 = .ok (.bipush 16, 2) := by decide +kernel
theorem dX1_init_15 : decode cX1_init 15 = .ok (.newarray .int, 2) := by decide +kernel
theorem dX1_init_17 : decode cX1_init 17 = .ok (.putfield 15, 3) := by decide +kernel
theorem dX1_init_20 : decode cX1_init 20 = .ok (.aload_n 0, 1) := by decide +kernel
theorem dX1_init_21 : decode cX1_init 21 = .ok (.bipush 16, 2) := by decide +kernel
theorem dX1_init_23 : decode cX1_init 23 = .ok (.newarray .int, 2) := by decide +kernel
theorem dX1_init_25 : decode cX1_init 25 = .ok (.putfield 18, 3) := by decide +kernel
theorem dX1_init_28 : decode cX1_init 28 = .ok (.aload_n 0, 1) := by decide +kernel
theorem dX1_init_29 : decode cX1_init 29 = .ok (.sipush 1024, 3) := by decide +kernel
theorem dX1_init_32 : decode cX1_init 32 = .ok (.newarray .int, 2) := by decide +kernel
theorem dX1_init_34 : decode cX1_init 34 = .ok (.putfield 21, 3) := by decide +kernel
theorem dX1_init_37 : decode cX1_init 37 = .ok (.aload_n 0, 1) := by decide +kernel
theorem dX1_init_38 : decode cX1_init 38 = .ok (.sipush 1024, 3) := by decide +kernel
theorem dX1_init_41 : decode cX1_init 41 = .ok (.newarray .int, 2) := by decide +kernel
theorem dX1_init_43 : decode cX1_init 43 = .ok (.putfield 24, 3) := by decide +kernel
theorem dX1_init_46 : decode cX1_init 46 = .ok (.return_, 1) := by decide +kernel
set_option maxRecDepth 20000 in
theorem ggX1_callOver_X3_hasSign : GoodIn wsX1_callOver wsX3_hasSign := goodIn_r _ [14, 15, 80, 81, 82, 83, 84, 85, 86, 87, 88, 89, 90, 91] (by decide +kernel) (by decide +kernel)
set_option maxRecDepth 20000 in
theorem gX1_callOver_X3_hasSign : GoodIn wsX1_callOver (wsV RX1 43 RX3 yX3_hasSign wsX3_hasSign) := goodIn_app (goodIn_of _ (by decide +kernel)) ggX1_callOver_X3_hasSign
set_option maxRecDepth 20000 in
theorem ggX1_callOver_X3_stonesShowing : GoodIn wsX1_callOver wsX3_stonesShowing := goodIn_r _ [19, 20, 21, 22, 23, 13, 24, 25, 26, 27, 28, 29, 80, 81, 82, 83, 84, 85, 86, 87, 88, 89, 90, 91] (by decide +kernel) (by decide +kernel)
set_option maxRecDepth 20000 in
theorem gX1_callOver_X3_stonesShowing : GoodIn wsX1_callOver (wsV RX1 47 RX3 yX3_stonesShowing wsX3_stonesShowing) := goodIn_app (goodIn_of _ (by decide +kernel)) ggX1_callOver_X3_stonesShowing
set_option maxRecDepth 20000 in
theorem ggX1_callOver_X1_cuttersOf : GoodIn wsX1_callOver wsX1_cuttersOf := goodIn_r _ [34, 6, 35, 36, 37, 13, 38, 20, 39, 40, 41, 42, 43, 44, 45, 46, 47, 48, 49, 50, 51, 52, 53, 54, 55, 56, 57, 58, 59, 60, 61, 21, 22, 23, 24, 25, 26, 27, 28, 29, 62, 63, 64, 92, 93, 94, 95, 96, 97, 98, 80, 81, 82, 83, 84, 85, 86, 87, 88, 89, 90, 91] (by decide +kernel) (by decide +kernel)
set_option maxRecDepth 20000 in
theorem gX1_callOver_X1_cuttersOf : GoodIn wsX1_callOver (wsV RX1 51 RX1 yX1_cuttersOf wsX1_cuttersOf) := goodIn_app (goodIn_of _ (by decide +kernel)) ggX1_callOver_X1_cuttersOf
set_option maxRecDepth 20000 in
theorem ggX1_callOver_X1_countGiven : GoodIn wsX1_callOver wsX1_countGiven := goodIn_r _ [68, 69, 6, 70, 51, 52, 53, 54, 55, 56, 71, 72, 73, 33, 74, 7, 9, 92, 93, 94, 95, 96, 97, 98] (by decide +kernel) (by decide +kernel)
set_option maxRecDepth 20000 in
theorem gX1_callOver_X1_countGiven : GoodIn wsX1_callOver (wsV RX1 55 RX1 yX1_countGiven wsX1_countGiven) := goodIn_app (goodIn_of _ (by decide +kernel)) ggX1_callOver_X1_countGiven
set_option maxRecDepth 20000 in
theorem ggX1_callOver_X1_countToGive : GoodIn wsX1_callOver wsX1_countToGive := goodIn_r _ [78, 6, 7, 79, 70, 51, 52, 53, 54, 55, 56, 71, 72, 73, 33, 74, 9, 92, 93, 94, 95, 96, 97, 98] (by decide +kernel) (by decide +kernel)
set_option maxRecDepth 20000 in
theorem gX1_callOver_X1_countToGive : GoodIn wsX1_callOver (wsV RX1 58 RX1 yX1_countToGive wsX1_countToGive) := goodIn_app (goodIn_of _ (by decide +kernel)) ggX1_callOver_X1_countToGive
theorem dX1_callOver_0 : decode cX1_callOver 0 = .ok (.aload_n 0, 1) := by decide +kernel
theorem dX1_callOver_1 : decode cX1_callOver 1 = .ok (.aload_n 1, 1) := by decide +kernel
theorem dX1_callOver_2 : decode cX1_callOver 2 = .ok (.getfield 27, 3) := by decide +kernel
theorem dX1_callOver_5 : decode cX1_callOver 5 = .ok (.bipush 10, 2) := by decide +kernel
theorem dX1_callOver_7 : decode cX1_callOver 7 = .ok (.invokestatic 33, 3) := by decide +kernel
theorem dX1_callOver_10 : decode cX1_callOver 10 = .ok (.putfield 39, 3) := by decide +kernel
theorem dX1_callOver_13 : decode cX1_callOver 13 = .ok (.aload_n 0, 1) := by decide +kernel
theorem dX1_callOver_14 : decode cX1_callOver 14 = .ok (.iconst 0, 1) := by decide +kernel
theorem dX1_callOver_15 : decode cX1_callOver 15 = .ok (.putfield 40, 3) := by decide +kernel
theorem dX1_callOver_18 : decode cX1_callOver 18 = .ok (.iconst 0, 1) := by decide +kernel
theorem dX1_callOver_19 : decode cX1_callOver 19 = .ok (.istore_n 2, 1) := by decide +kernel
theorem dX1_callOver_20 : decode cX1_callOver 20 = .ok (.iload_n 2, 1) := by decide +kernel
theorem dX1_callOver_21 : decode cX1_callOver 21 = .ok (.bipush 16, 2) := by decide +kernel
theorem dX1_callOver_23 : decode cX1_callOver 23 = .ok (.if_icmp .ge 68, 3) := by decide +kernel
theorem dX1_callOver_26 : decode cX1_callOver 26 = .ok (.aload_n 0, 1) := by decide +kernel
theorem dX1_callOver_27 : decode cX1_callOver 27 = .ok (.getfield 9, 3) := by decide +kernel
theorem dX1_callOver_30 : decode cX1_callOver 30 = .ok (.iload_n 2, 1) := by decide +kernel
theorem dX1_callOver_31 : decode cX1_callOver 31 = .ok (.bipush (-4), 2) := by decide +kernel
theorem dX1_callOver_33 : decode cX1_callOver 33 = .ok (.iastore, 1) := by decide +kernel
theorem dX1_callOver_34 : decode cX1_callOver 34 = .ok (.aload_n 1, 1) := by decide +kernel
theorem dX1_callOver_35 : decode cX1_callOver 35 = .ok (.iload_n 2, 1) := by decide +kernel
theorem dX1_callOver_36 : decode cX1_callOver 36 = .ok (.invokevirtual 43, 3) := by decide +kernel
theorem dX1_callOver_39 : decode cX1_callOver 39 = .ok (.ifCond .eq 46, 3) := by decide +kernel
theorem dX1_callOver_42 : decode cX1_callOver 42 = .ok (.aload_n 1, 1) := by decide +kernel
theorem dX1_callOver_43 : decode cX1_callOver 43 = .ok (.iload_n 2, 1) := by decide +kernel
theorem dX1_callOver_44 : decode cX1_callOver 44 = .ok (.invokevirtual 47, 3) := by decide +kernel
theorem dX1_callOver_47 : decode cX1_callOver 47 = .ok (.ifCond .le 38, 3) := by decide +kernel
theorem dX1_callOver_50 : decode cX1_callOver 50 = .ok (.aload_n 0, 1) := by decide +kernel
theorem dX1_callOver_51 : decode cX1_callOver 51 = .ok (.getfield 9, 3) := by decide +kernel
theorem dX1_callOver_54 : decode cX1_callOver 54 = .ok (.iload_n 2, 1) := by decide +kernel
theorem dX1_callOver_55 : decode cX1_callOver 55 = .ok (.aload_n 0, 1) := by decide +kernel
theorem dX1_callOver_56 : decode cX1_callOver 56 = .ok (.getfield 40, 3) := by decide +kernel
theorem dX1_callOver_59 : decode cX1_callOver 59 = .ok (.iastore, 1) := by decide +kernel
theorem dX1_callOver_60 : decode cX1_callOver 60 = .ok (.aload_n 0, 1) := by decide +kernel
theorem dX1_callOver_61 : decode cX1_callOver 61 = .ok (.getfield 15, 3) := by decide +kernel
theorem dX1_callOver_64 : decode cX1_callOver 64 = .ok (.aload_n 0, 1) := by decide +kernel
theorem dX1_callOver_65 : decode cX1_callOver 65 = .ok (.getfield 40, 3) := by decide +kernel
theorem dX1_callOver_68 : decode cX1_callOver 68 = .ok (.aload_n 0, 1) := by decide +kernel
theorem dX1_callOver_69 : decode cX1_callOver 69 = .ok (.aload_n 1, 1) := by decide +kernel
theorem dX1_callOver_70 : decode cX1_callOver 70 = .ok (.iload_n 2, 1) := by decide +kernel
theorem dX1_callOver_71 : decode cX1_callOver 71 = .ok (.invokevirtual 51, 3) := by decide +kernel
theorem dX1_callOver_74 : decode cX1_callOver 74 = .ok (.iastore, 1) := by decide +kernel
theorem dX1_callOver_75 : decode cX1_callOver 75 = .ok (.aload_n 0, 1) := by decide +kernel
theorem dX1_callOver_76 : decode cX1_callOver 76 = .ok (.dup, 1) := by decide +kernel
theorem dX1_callOver_77 : decode cX1_callOver 77 = .ok (.getfield 40, 3) := by decide +kernel
theorem dX1_callOver_80 : decode cX1_callOver 80 = .ok (.iconst 1, 1) := by decide +kernel
theorem dX1_callOver_81 : decode cX1_callOver 81 = .ok (.iadd, 1) := by decide +kernel
theorem dX1_callOver_82 : decode cX1_callOver 82 = .ok (.putfield 40, 3) := by decide +kernel
theorem dX1_callOver_85 : decode cX1_callOver 85 = .ok (.iinc 2 1, 3) := by decide +kernel
theorem dX1_callOver_88 : decode cX1_callOver 88 = .ok (.goto (-68), 3) := by decide +kernel
theorem dX1_callOver_91 : decode cX1_callOver 91 = .ok (.aload_n 0, 1) := by decide +kernel
theorem dX1_callOver_92 : decode cX1_callOver 92 = .ok (.invokevirtual 55, 3) := by decide +kernel
theorem dX1_callOver_95 : decode cX1_callOver 95 = .ok (.aload_n 0, 1) := by decide +kernel
theorem dX1_callOver_96 : decode cX1_callOver 96 = .ok (.invokevirtual 58, 3) := by decide +kernel
theorem dX1_callOver_99 : decode cX1_callOver 99 = .ok (.return_, 1) := by decide +kernel
set_option maxRecDepth 20000 in
theorem ggX1_cuttersOf_X3_mayHaveCut : GoodIn wsX1_cuttersOf wsX3_mayHaveCut := goodIn_r _ [6, 7, 8, 9, 10, 11, 12, 13, 5, 14, 15, 16, 17, 18, 19, 20, 21, 22, 23, 24, 25, 26, 27, 28, 29, 30, 31, 32, 33, 34, 35, 36, 37, 38, 39, 40, 41, 42, 50, 51, 52, 53, 54, 55, 56, 57, 58, 59, 60, 61] (by decide +kernel) (by decide +kernel)
set_option maxRecDepth 20000 in
theorem gX1_cuttersOf_X3_mayHaveCut : GoodIn wsX1_cuttersOf (wsV RX1 61 RX3 yX3_mayHaveCut wsX3_mayHaveCut) := goodIn_app (goodIn_of _ (by decide +kernel)) ggX1_cuttersOf_X3_mayHaveCut
theorem dX1_cuttersOf_0 : decode cX1_cuttersOf 0 = .ok (.iconst 0, 1) := by decide +kernel
theorem dX1_cuttersOf_1 : decode cX1_cuttersOf 1 = .ok (.istore_n 3, 1) := by decide +kernel
theorem dX1_cuttersOf_2 : decode cX1_cuttersOf 2 = .ok (.iconst 0, 1) := by decide +kernel
theorem dX1_cuttersOf_3 : decode cX1_cuttersOf 3 = .ok (.istore 4, 2) := by decide +kernel
theorem dX1_cuttersOf_5 : decode cX1_cuttersOf 5 = .ok (.iload 4, 2) := by decide +kernel
theorem dX1_cuttersOf_7 : decode cX1_cuttersOf 7 = .ok (.aload_n 0, 1) := by decide +kernel
theorem dX1_cuttersOf_8 : decode cX1_cuttersOf 8 = .ok (.getfield 39, 3) := by decide +kernel
theorem dX1_cuttersOf_11 : decode cX1_cuttersOf 11 = .ok (.if_icmp .ge 26, 3) := by decide +kernel
theorem dX1_cuttersOf_14 : decode cX1_cuttersOf 14 = .ok (.aload_n 1, 1) := by decide +kernel
theorem dX1_cuttersOf_15 : decode cX1_cuttersOf 15 = .ok (.iload 4, 2) := by decide +kernel
theorem dX1_cuttersOf_17 : decode cX1_cuttersOf 17 = .ok (.iload_n 2, 1) := by decide +kernel
theorem dX1_cuttersOf_18 : decode cX1_cuttersOf 18 = .ok (.invokevirtual 61, 3) := by decide +kernel
theorem dX1_cuttersOf_21 : decode cX1_cuttersOf 21 = .ok (.ifCond .eq 10, 3) := by decide +kernel
theorem dX1_cuttersOf_24 : decode cX1_cuttersOf 24 = .ok (.iload_n 3, 1) := by decide +kernel
theorem dX1_cuttersOf_25 : decode cX1_cuttersOf 25 = .ok (.iconst 1, 1) := by decide +kernel
theorem dX1_cuttersOf_26 : decode cX1_cuttersOf 26 = .ok (.iload 4, 2) := by decide +kernel
theorem dX1_cuttersOf_28 : decode cX1_cuttersOf 28 = .ok (.ishl, 1) := by decide +kernel
theorem dX1_cuttersOf_29 : decode cX1_cuttersOf 29 = .ok (.ior, 1) := by decide +kernel
theorem dX1_cuttersOf_30 : decode cX1_cuttersOf 30 = .ok (.istore_n 3, 1) := by decide +kernel
theorem dX1_cuttersOf_31 : decode cX1_cuttersOf 31 = .ok (.iinc 4 1, 3) := by decide +kernel
theorem dX1_cuttersOf_34 : decode cX1_cuttersOf 34 = .ok (.goto (-29), 3) := by decide +kernel
theorem dX1_cuttersOf_37 : decode cX1_cuttersOf 37 = .ok (.iload_n 3, 1) := by decide +kernel
theorem dX1_cuttersOf_38 : decode cX1_cuttersOf 38 = .ok (.ireturn, 1) := by decide +kernel
theorem dX1_mayOwnAt_0 : decode cX1_mayOwnAt 0 = .ok (.iload_n 1, 1) := by decide +kernel
theorem dX1_mayOwnAt_1 : decode cX1_mayOwnAt 1 = .ok (.ifCond .lt 26, 3) := by decide +kernel
theorem dX1_mayOwnAt_4 : decode cX1_mayOwnAt 4 = .ok (.iload_n 1, 1) := by decide +kernel
theorem dX1_mayOwnAt_5 : decode cX1_mayOwnAt 5 = .ok (.aload_n 0, 1) := by decide +kernel
theorem dX1_mayOwnAt_6 : decode cX1_mayOwnAt 6 = .ok (.getfield 40, 3) := by decide +kernel
theorem dX1_mayOwnAt_9 : decode cX1_mayOwnAt 9 = .ok (.if_icmp .ge 18, 3) := by decide +kernel
theorem dX1_mayOwnAt_12 : decode cX1_mayOwnAt 12 = .ok (.iload_n 1, 1) := by decide +kernel
theorem dX1_mayOwnAt_13 : decode cX1_mayOwnAt 13 = .ok (.bipush 16, 2) := by decide +kernel
theorem dX1_mayOwnAt_15 : decode cX1_mayOwnAt 15 = .ok (.if_icmp .ge 12, 3) := by decide +kernel
theorem dX1_mayOwnAt_18 : decode cX1_mayOwnAt 18 = .ok (.aload_n 0, 1) := by decide +kernel
theorem dX1_mayOwnAt_19 : decode cX1_mayOwnAt 19 = .ok (.getfield 15, 3) := by decide +kernel
theorem dX1_mayOwnAt_22 : decode cX1_mayOwnAt 22 = .ok (.iload_n 1, 1) := by decide +kernel
theorem dX1_mayOwnAt_23 : decode cX1_mayOwnAt 23 = .ok (.iaload, 1) := by decide +kernel
theorem dX1_mayOwnAt_24 : decode cX1_mayOwnAt 24 = .ok (.goto 4, 3) := by decide +kernel
theorem dX1_mayOwnAt_27 : decode cX1_mayOwnAt 27 = .ok (.iconst 0, 1) := by decide +kernel
theorem dX1_mayOwnAt_28 : decode cX1_mayOwnAt 28 = .ok (.ireturn, 1) := by decide +kernel
set_option maxRecDepth 20000 in
theorem ggX1_countGiven_J6_bitCount_0f7a4 : GoodIn wsX1_countGiven wsJ6_bitCount_0f7a4 := goodIn_r _ [6, 7, 8, 9] (by decide +kernel) (by decide +kernel)
set_option maxRecDepth 20000 in
theorem gX1_countGiven_J6_bitCount_0f7a4 : GoodIn wsX1_countGiven (va_wsS RX1 65 yJ6_bitCount_0f7a4 wsJ6_bitCount_0f7a4) := goodIn_app (goodIn_of _ (by decide +kernel)) ggX1_countGiven_J6_bitCount_0f7a4
set_option maxRecDepth 20000 in
theorem ggX1_countGiven_X1_mayOwnAt : GoodIn wsX1_countGiven wsX1_mayOwnAt := goodIn_r _ [14, 15, 16, 17, 18, 19, 20, 21, 22, 23] (by decide +kernel) (by decide +kernel)
set_option maxRecDepth 20000 in
theorem gX1_countGiven_X1_mayOwnAt : GoodIn wsX1_countGiven (wsV RX1 70 RX1 yX1_mayOwnAt wsX1_mayOwnAt) := goodIn_app (goodIn_of _ (by decide +kernel)) ggX1_countGiven_X1_mayOwnAt
theorem dX1_countGiven_0 : decode cX1_countGiven 0 = .ok (.aload_n 0, 1) := by decide +kernel
theorem dX1_countGiven_1 : decode cX1_countGiven 1 = .ok (.getfield 21, 3) := by decide +kernel
theorem dX1_countGiven_4 : decode cX1_countGiven 4 = .ok (.iconst 0, 1) := by decide +kernel
theorem dX1_countGiven_5 : decode cX1_countGiven 5 = .ok (.iconst 1, 1) := by decide +kernel
theorem dX1_countGiven_6 : decode cX1_countGiven 6 = .ok (.iastore, 1) := by decide +kernel
theorem dX1_countGiven_7 : decode cX1_countGiven 7 = .ok (.iconst 1, 1) := by decide +kernel
theorem dX1_countGiven_8 : decode cX1_countGiven 8 = .ok (.istore_n 1, 1) := by decide +kernel
theorem dX1_countGiven_9 : decode cX1_countGiven 9 = .ok (.iload_n 1, 1) := by decide +kernel
theorem dX1_countGiven_10 : decode cX1_countGiven 10 = .ok (.iconst 1, 1) := by decide +kernel
theorem dX1_countGiven_11 : decode cX1_countGiven 11 = .ok (.aload_n 0, 1) := by decide +kernel
theorem dX1_countGiven_12 : decode cX1_countGiven 12 = .ok (.getfield 39, 3) := by decide +kernel
theorem dX1_countGiven_15 : decode cX1_countGiven 15 = .ok (.ishl, 1) := by decide +kernel
theorem dX1_countGiven_16 : decode cX1_countGiven 16 = .ok (.if_icmp .ge 75, 3) := by decide +kernel
theorem dX1_countGiven_19 : decode cX1_countGiven 19 = .ok (.aload_n 0, 1) := by decide +kernel
theorem dX1_countGiven_20 : decode cX1_countGiven 20 = .ok (.iload_n 1, 1) := by decide +kernel
theorem dX1_countGiven_21 : decode cX1_countGiven 21 = .ok (.invokestatic 65, 3) := by decide +kernel
theorem dX1_countGiven_24 : decode cX1_countGiven 24 = .ok (.iconst 1, 1) := by decide +kernel
theorem dX1_countGiven_25 : decode cX1_countGiven 25 = .ok (.isub, 1) := by decide +kernel
theorem dX1_countGiven_26 : decode cX1_countGiven 26 = .ok (.invokevirtual 70, 3) := by decide +kernel
theorem dX1_countGiven_29 : decode cX1_countGiven 29 = .ok (.iload_n 1, 1) := by decide +kernel
theorem dX1_countGiven_30 : decode cX1_countGiven 30 = .ok (.iand, 1) := by decide +kernel
theorem dX1_countGiven_31 : decode cX1_countGiven 31 = .ok (.istore_n 2, 1) := by decide +kernel
theorem dX1_countGiven_32 : decode cX1_countGiven 32 = .ok (.iconst 0, 1) := by decide +kernel
theorem dX1_countGiven_33 : decode cX1_countGiven 33 = .ok (.istore_n 3, 1) := by decide +kernel
theorem dX1_countGiven_34 : decode cX1_countGiven 34 = .ok (.iconst 0, 1) := by decide +kernel
theorem dX1_countGiven_35 : decode cX1_countGiven 35 = .ok (.istore 4, 2) := by decide +kernel
theorem dX1_countGiven_37 : decode cX1_countGiven 37 = .ok (.iload 4, 2) := by decide +kernel
theorem dX1_countGiven_39 : decode cX1_countGiven 39 = .ok (.aload_n 0, 1) := by decide +kernel
theorem dX1_countGiven_40 : decode cX1_countGiven 40 = .ok (.getfield 39, 3) := by decide +kernel
theorem dX1_countGiven_43 : decode cX1_countGiven 43 = .ok (.if_icmp .ge 35, 3) := by decide +kernel
theorem dX1_countGiven_46 : decode cX1_countGiven 46 = .ok (.iload_n 2, 1) := by decide +kernel
theorem dX1_countGiven_47 : decode cX1_countGiven 47 = .ok (.iload 4, 2) := by decide +kernel
theorem dX1_countGiven_49 : decode cX1_countGiven 49 = .ok (.ishr, 1) := by decide +kernel
theorem dX1_countGiven_50 : decode cX1_countGiven 50 = .ok (.iconst 1, 1) := by decide +kernel
theorem dX1_countGiven_51 : decode cX1_countGiven 51 = .ok (.iand, 1) := by decide +kernel
theorem dX1_countGiven_52 : decode cX1_countGiven 52 = .ok (.iconst 1, 1) := by decide +kernel
theorem dX1_countGiven_53 : decode cX1_countGiven 53 = .ok (.if_icmp .ne 19, 3) := by decide +kernel
theorem dX1_countGiven_56 : decode cX1_countGiven 56 = .ok (.iload_n 3, 1) := by decide +kernel
theorem dX1_countGiven_57 : decode cX1_countGiven 57 = .ok (.aload_n 0, 1) := by decide +kernel
theorem dX1_countGiven_58 : decode cX1_countGiven 58 = .ok (.getfield 21, 3) := by decide +kernel
theorem dX1_countGiven_61 : decode cX1_countGiven 61 = .ok (.iload_n 1, 1) := by decide +kernel
theorem dX1_countGiven_62 : decode cX1_countGiven 62 = .ok (.iconst 1, 1) := by decide +kernel
theorem dX1_countGiven_63 : decode cX1_countGiven 63 = .ok (.iload 4, 2) := by decide +kernel
theorem dX1_countGiven_65 : decode cX1_countGiven 65 = .ok (.ishl, 1) := by decide +kernel
theorem dX1_countGiven_66 : decode cX1_countGiven 66 = .ok (.iconst (-1), 1) := by decide +kernel
theorem dX1_countGiven_67 : decode cX1_countGiven 67 = .ok (.ixor, 1) := by decide +kernel
theorem dX1_countGiven_68 : decode cX1_countGiven 68 = .ok (.iand, 1) := by decide +kernel
theorem dX1_countGiven_69 : decode cX1_countGiven 69 = .ok (.iaload, 1) := by decide +kernel
theorem dX1_countGiven_70 : decode cX1_countGiven 70 = .ok (.iadd, 1) := by decide +kernel
theorem dX1_countGiven_71 : decode cX1_countGiven 71 = .ok (.istore_n 3, 1) := by decide +kernel
theorem dX1_countGiven_72 : decode cX1_countGiven 72 = .ok (.iinc 4 1, 3) := by decide +kernel
theorem dX1_countGiven_75 : decode cX1_countGiven 75 = .ok (.goto (-38), 3) := by decide +kernel
theorem dX1_countGiven_78 : decode cX1_countGiven 78 = .ok (.aload_n 0, 1) := by decide +kernel
theorem dX1_countGiven_79 : decode cX1_countGiven 79 = .ok (.getfield 21, 3) := by decide +kernel
theorem dX1_countGiven_82 : decode cX1_countGiven 82 = .ok (.iload_n 1, 1) := by decide +kernel
theorem dX1_countGiven_83 : decode cX1_countGiven 83 = .ok (.iload_n 3, 1) := by decide +kernel
theorem dX1_countGiven_84 : decode cX1_countGiven 84 = .ok (.iastore, 1) := by decide +kernel
theorem dX1_countGiven_85 : decode cX1_countGiven 85 = .ok (.iinc 1 1, 3) := by decide +kernel
theorem dX1_countGiven_88 : decode cX1_countGiven 88 = .ok (.goto (-79), 3) := by decide +kernel
theorem dX1_countGiven_91 : decode cX1_countGiven 91 = .ok (.return_, 1) := by decide +kernel
set_option maxRecDepth 20000 in
theorem ggX1_countToGive_J6_bitCount_0f7a4 : GoodIn wsX1_countToGive wsJ6_bitCount_0f7a4 := goodIn_r _ [7, 8, 9, 10] (by decide +kernel) (by decide +kernel)
set_option maxRecDepth 20000 in
theorem gX1_countToGive_J6_bitCount_0f7a4 : GoodIn wsX1_countToGive (va_wsS RX1 65 yJ6_bitCount_0f7a4 wsJ6_bitCount_0f7a4) := goodIn_app (goodIn_of _ (by decide +kernel)) ggX1_countToGive_J6_bitCount_0f7a4
set_option maxRecDepth 20000 in
theorem ggX1_countToGive_X1_mayOwnAt : GoodIn wsX1_countToGive wsX1_mayOwnAt := goodIn_r _ [15, 2, 16, 17, 18, 19, 20, 21, 22, 23] (by decide +kernel) (by decide +kernel)
set_option maxRecDepth 20000 in
theorem gX1_countToGive_X1_mayOwnAt : GoodIn wsX1_countToGive (wsV RX1 70 RX1 yX1_mayOwnAt wsX1_mayOwnAt) := goodIn_app (goodIn_of _ (by decide +kernel)) ggX1_countToGive_X1_mayOwnAt
theorem dX1_countToGive_0 : decode cX1_countToGive 0 = .ok (.iconst 1, 1) := by decide +kernel
theorem dX1_countToGive_1 : decode cX1_countToGive 1 = .ok (.aload_n 0, 1) := by decide +kernel
theorem dX1_countToGive_2 : decode cX1_countToGive 2 = .ok (.getfield 39, 3) := by decide +kernel
theorem dX1_countToGive_5 : decode cX1_countToGive 5 = .ok (.ishl, 1) := by decide +kernel
theorem dX1_countToGive_6 : decode cX1_countToGive 6 = .ok (.iconst 1, 1) := by decide +kernel
theorem dX1_countToGive_7 : decode cX1_countToGive 7 = .ok (.isub, 1) := by decide +kernel
theorem dX1_countToGive_8 : decode cX1_countToGive 8 = .ok (.istore_n 1, 1) := by decide +kernel
theorem dX1_countToGive_9 : decode cX1_countToGive 9 = .ok (.iload_n 1, 1) := by decide +kernel
theorem dX1_countToGive_10 : decode cX1_countToGive 10 = .ok (.ifCond .lt 89, 3) := by decide +kernel
theorem dX1_countToGive_13 : decode cX1_countToGive 13 = .ok (.iload_n 1, 1) := by decide +kernel
theorem dX1_countToGive_14 : decode cX1_countToGive 14 = .ok (.invokestatic 65, 3) := by decide +kernel
theorem dX1_countToGive_17 : decode cX1_countToGive 17 = .ok (.istore_n 2, 1) := by decide +kernel
theorem dX1_countToGive_18 : decode cX1_countToGive 18 = .ok (.iload_n 2, 1) := by decide +kernel
theorem dX1_countToGive_19 : decode cX1_countToGive 19 = .ok (.aload_n 0, 1) := by decide +kernel
theorem dX1_countToGive_20 : decode cX1_countToGive 20 = .ok (.getfield 40, 3) := by decide +kernel
theorem dX1_countToGive_23 : decode cX1_countToGive 23 = .ok (.if_icmp .ne 7, 3) := by decide +kernel
theorem dX1_countToGive_26 : decode cX1_countToGive 26 = .ok (.iconst 1, 1) := by decide +kernel
theorem dX1_countToGive_27 : decode cX1_countToGive 27 = .ok (.goto 4, 3) := by decide +kernel
theorem dX1_countToGive_30 : decode cX1_countToGive 30 = .ok (.iconst 0, 1) := by decide +kernel
theorem dX1_countToGive_31 : decode cX1_countToGive 31 = .ok (.istore_n 3, 1) := by decide +kernel
theorem dX1_countToGive_32 : decode cX1_countToGive 32 = .ok (.aload_n 0, 1) := by decide +kernel
theorem dX1_countToGive_33 : decode cX1_countToGive 33 = .ok (.iload_n 2, 1) := by decide +kernel
theorem dX1_countToGive_34 : decode cX1_countToGive 34 = .ok (.invokevirtual 70, 3) := by decide +kernel
theorem dX1_countToGive_37 : decode cX1_countToGive 37 = .ok (.iload_n 1, 1) := by decide +kernel
theorem dX1_countToGive_38 : decode cX1_countToGive 38 = .ok (.iconst (-1), 1) := by decide +kernel
theorem dX1_countToGive_39 : decode cX1_countToGive 39 = .ok (.ixor, 1) := by decide +kernel
theorem dX1_countToGive_40 : decode cX1_countToGive 40 = .ok (.iand, 1) := by decide +kernel
theorem dX1_countToGive_41 : decode cX1_countToGive 41 = .ok (.istore 4, 2) := by decide +kernel
theorem dX1_countToGive_43 : decode cX1_countToGive 43 = .ok (.iconst 0, 1) := by decide +kernel
theorem dX1_countToGive_44 : decode cX1_countToGive 44 = .ok (.istore 5, 2) := by decide +kernel
theorem dX1_countToGive_46 : decode cX1_countToGive 46 = .ok (.iload 5, 2) := by decide +kernel
theorem dX1_countToGive_48 : decode cX1_countToGive 48 = .ok (.aload_n 0, 1) := by decide +kernel
theorem dX1_countToGive_49 : decode cX1_countToGive 49 = .ok (.getfield 39, 3) := by decide +kernel
theorem dX1_countToGive_52 : decode cX1_countToGive 52 = .ok (.if_icmp .ge 34, 3) := by decide +kernel
theorem dX1_countToGive_55 : decode cX1_countToGive 55 = .ok (.iload 4, 2) := by decide +kernel
theorem dX1_countToGive_57 : decode cX1_countToGive 57 = .ok (.iload 5, 2) := by decide +kernel
theorem dX1_countToGive_59 : decode cX1_countToGive 59 = .ok (.ishr, 1) := by decide +kernel
theorem dX1_countToGive_60 : decode cX1_countToGive 60 = .ok (.iconst 1, 1) := by decide +kernel
theorem dX1_countToGive_61 : decode cX1_countToGive 61 = .ok (.iand, 1) := by decide +kernel
theorem dX1_countToGive_62 : decode cX1_countToGive 62 = .ok (.iconst 1, 1) := by decide +kernel
theorem dX1_countToGive_63 : decode cX1_countToGive 63 = .ok (.if_icmp .ne 17, 3) := by decide +kernel
theorem dX1_countToGive_66 : decode cX1_countToGive 66 = .ok (.iload_n 3, 1) := by decide +kernel
theorem dX1_countToGive_67 : decode cX1_countToGive 67 = .ok (.aload_n 0, 1) := by decide +kernel
theorem dX1_countToGive_68 : decode cX1_countToGive 68 = .ok (.getfield 24, 3) := by decide +kernel
theorem dX1_countToGive_71 : decode cX1_countToGive 71 = .ok (.iload_n 1, 1) := by decide +kernel
theorem dX1_countToGive_72 : decode cX1_countToGive 72 = .ok (.iconst 1, 1) := by decide +kernel
theorem dX1_countToGive_73 : decode cX1_countToGive 73 = .ok (.iload 5, 2) := by decide +kernel
theorem dX1_countToGive_75 : decode cX1_countToGive 75 = .ok (.ishl, 1) := by decide +kernel
theorem dX1_countToGive_76 : decode cX1_countToGive 76 = .ok (.ior, 1) := by decide +kernel
theorem dX1_countToGive_77 : decode cX1_countToGive 77 = .ok (.iaload, 1) := by decide +kernel
theorem dX1_countToGive_78 : decode cX1_countToGive 78 = .ok (.iadd, 1) := by decide +kernel
theorem dX1_countToGive_79 : decode cX1_countToGive 79 = .ok (.istore_n 3, 1) := by decide +kernel
theorem dX1_countToGive_80 : decode cX1_countToGive 80 = .ok (.iinc 5 1, 3) := by decide +kernel
theorem dX1_countToGive_83 : decode cX1_countToGive 83 = .ok (.goto (-37), 3) := by decide +kernel
theorem dX1_countToGive_86 : decode cX1_countToGive 86 = .ok (.aload_n 0, 1) := by decide +kernel
theorem dX1_countToGive_87 : decode cX1_countToGive 87 = .ok (.getfield 24, 3) := by decide +kernel
theorem dX1_countToGive_90 : decode cX1_countToGive 90 = .ok (.iload_n 1, 1) := by decide +kernel
theorem dX1_countToGive_91 : decode cX1_countToGive 91 = .ok (.iload_n 3, 1) := by decide +kernel
theorem dX1_countToGive_92 : decode cX1_countToGive 92 = .ok (.iastore, 1) := by decide +kernel
theorem dX1_countToGive_93 : decode cX1_countToGive 93 = .ok (.iinc 1 (-1), 3) := by decide +kernel
theorem dX1_countToGive_96 : decode cX1_countToGive 96 = .ok (.goto (-87), 3) := by decide +kernel
theorem dX1_countToGive_99 : decode cX1_countToGive 99 = .ok (.return_, 1) := by decide +kernel
theorem dX1_allWays_0 : decode cX1_allWays 0 = .ok (.aload_n 0, 1) := by decide +kernel
theorem dX1_allWays_1 : decode cX1_allWays 1 = .ok (.getfield 24, 3) := by decide +kernel
theorem dX1_allWays_4 : decode cX1_allWays 4 = .ok (.iconst 0, 1) := by decide +kernel
theorem dX1_allWays_5 : decode cX1_allWays 5 = .ok (.iaload, 1) := by decide +kernel
theorem dX1_allWays_6 : decode cX1_allWays 6 = .ok (.i2l, 1) := by decide +kernel
theorem dX1_allWays_7 : decode cX1_allWays 7 = .ok (.lreturn, 1) := by decide +kernel
theorem dX1_isShown_0 : decode cX1_isShown 0 = .ok (.iload_n 1, 1) := by decide +kernel
theorem dX1_isShown_1 : decode cX1_isShown 1 = .ok (.ifCond .lt 22, 3) := by decide +kernel
theorem dX1_isShown_4 : decode cX1_isShown 4 = .ok (.iload_n 1, 1) := by decide +kernel
theorem dX1_isShown_5 : decode cX1_isShown 5 = .ok (.bipush 16, 2) := by decide +kernel
theorem dX1_isShown_7 : decode cX1_isShown 7 = .ok (.if_icmp .ge 16, 3) := by decide +kernel
theorem dX1_isShown_10 : decode cX1_isShown 10 = .ok (.aload_n 0, 1) := by decide +kernel
theorem dX1_isShown_11 : decode cX1_isShown 11 = .ok (.getfield 9, 3) := by decide +kernel
theorem dX1_isShown_14 : decode cX1_isShown 14 = .ok (.iload_n 1, 1) := by decide +kernel
theorem dX1_isShown_15 : decode cX1_isShown 15 = .ok (.iaload, 1) := by decide +kernel
theorem dX1_isShown_16 : decode cX1_isShown 16 = .ok (.ifCond .lt 7, 3) := by decide +kernel
theorem dX1_isShown_19 : decode cX1_isShown 19 = .ok (.iconst 1, 1) := by decide +kernel
theorem dX1_isShown_20 : decode cX1_isShown 20 = .ok (.goto 4, 3) := by decide +kernel
theorem dX1_isShown_23 : decode cX1_isShown 23 = .ok (.iconst 0, 1) := by decide +kernel
theorem dX1_isShown_24 : decode cX1_isShown 24 = .ok (.ireturn, 1) := by decide +kernel
set_option maxRecDepth 20000 in
theorem ggX1_waysTogether_X1_isShown : GoodIn wsX1_waysTogether wsX1_isShown := goodIn_r _ [9, 1, 23, 24, 25, 26, 27, 28, 29] (by decide +kernel) (by decide +kernel)
set_option maxRecDepth 20000 in
theorem gX1_waysTogether_X1_isShown : GoodIn wsX1_waysTogether (wsV RX1 73 RX1 yX1_isShown wsX1_isShown) := goodIn_app (goodIn_of _ (by decide +kernel)) ggX1_waysTogether_X1_isShown
set_option maxRecDepth 20000 in
theorem ggX1_waysTogether_J6_bitCount_0f7a4 : GoodIn wsX1_waysTogether wsJ6_bitCount_0f7a4 := goodIn_r _ [13, 14, 15, 16] (by decide +kernel) (by decide +kernel)
set_option maxRecDepth 20000 in
theorem gX1_waysTogether_J6_bitCount_0f7a4 : GoodIn wsX1_waysTogether (va_wsS RX1 65 yJ6_bitCount_0f7a4 wsJ6_bitCount_0f7a4) := goodIn_app (goodIn_of _ (by decide +kernel)) ggX1_waysTogether_J6_bitCount_0f7a4
set_option maxRecDepth 20000 in
theorem ggX1_waysTogether_X1_mayOwnAt : GoodIn wsX1_waysTogether wsX1_mayOwnAt := goodIn_r _ [20, 21, 22, 23, 24, 25, 26, 27, 28, 29] (by decide +kernel) (by decide +kernel)
set_option maxRecDepth 20000 in
theorem gX1_waysTogether_X1_mayOwnAt : GoodIn wsX1_waysTogether (wsV RX1 70 RX1 yX1_mayOwnAt wsX1_mayOwnAt) := goodIn_app (goodIn_of _ (by decide +kernel)) ggX1_waysTogether_X1_mayOwnAt
theorem dX1_waysTogether_0 : decode cX1_waysTogether 0 = .ok (.aload_n 0, 1) := by decide +kernel
theorem dX1_waysTogether_1 : decode cX1_waysTogether 1 = .ok (.iload_n 2, 1) := by decide +kernel
theorem dX1_waysTogether_2 : decode cX1_waysTogether 2 = .ok (.invokevirtual 73, 3) := by decide +kernel
theorem dX1_waysTogether_5 : decode cX1_waysTogether 5 = .ok (.ifCond .eq 12, 3) := by decide +kernel
theorem dX1_waysTogether_8 : decode cX1_waysTogether 8 = .ok (.aload_n 0, 1) := by decide +kernel
theorem dX1_waysTogether_9 : decode cX1_waysTogether 9 = .ok (.getfield 9, 3) := by decide +kernel
theorem dX1_waysTogether_12 : decode cX1_waysTogether 12 = .ok (.iload_n 2, 1) := by decide +kernel
theorem dX1_waysTogether_13 : decode cX1_waysTogether 13 = .ok (.iaload, 1) := by decide +kernel
theorem dX1_waysTogether_14 : decode cX1_waysTogether 14 = .ok (.goto 5, 3) := by decide +kernel
theorem dX1_waysTogether_17 : decode cX1_waysTogether 17 = .ok (.bipush (-4), 2) := by decide +kernel
theorem dX1_waysTogether_19 : decode cX1_waysTogether 19 = .ok (.istore_n 3, 1) := by decide +kernel
theorem dX1_waysTogether_20 : decode cX1_waysTogether 20 = .ok (.lconst 0, 1) := by decide +kernel
theorem dX1_waysTogether_21 : decode cX1_waysTogether 21 = .ok (.lstore 4, 2) := by decide +kernel
theorem dX1_waysTogether_23 : decode cX1_waysTogether 23 = .ok (.iconst 0, 1) := by decide +kernel
theorem dX1_waysTogether_24 : decode cX1_waysTogether 24 = .ok (.istore 6, 2) := by decide +kernel
theorem dX1_waysTogether_26 : decode cX1_waysTogether 26 = .ok (.iload 6, 2) := by decide +kernel
theorem dX1_waysTogether_28 : decode cX1_waysTogether 28 = .ok (.iconst 1, 1) := by decide +kernel
theorem dX1_waysTogether_29 : decode cX1_waysTogether 29 = .ok (.aload_n 0, 1) := by decide +kernel
theorem dX1_waysTogether_30 : decode cX1_waysTogether 30 = .ok (.getfield 39, 3) := by decide +kernel
theorem dX1_waysTogether_33 : decode cX1_waysTogether 33 = .ok (.ishl, 1) := by decide +kernel
theorem dX1_waysTogether_34 : decode cX1_waysTogether 34 = .ok (.if_icmp .ge 61, 3) := by decide +kernel
theorem dX1_waysTogether_37 : decode cX1_waysTogether 37 = .ok (.iload 6, 2) := by decide +kernel
theorem dX1_waysTogether_39 : decode cX1_waysTogether 39 = .ok (.invokestatic 65, 3) := by decide +kernel
theorem dX1_waysTogether_42 : decode cX1_waysTogether 42 = .ok (.iload_n 3, 1) := by decide +kernel
theorem dX1_waysTogether_43 : decode cX1_waysTogether 43 = .ok (.if_icmp .ne 46, 3) := by decide +kernel
theorem dX1_waysTogether_46 : decode cX1_waysTogether 46 = .ok (.aload_n 0, 1) := by decide +kernel
theorem dX1_waysTogether_47 : decode cX1_waysTogether 47 = .ok (.iload_n 3, 1) := by decide +kernel
theorem dX1_waysTogether_48 : decode cX1_waysTogether 48 = .ok (.invokevirtual 70, 3) := by decide +kernel
theorem dX1_waysTogether_51 : decode cX1_waysTogether 51 = .ok (.iload 6, 2) := by decide +kernel
theorem dX1_waysTogether_53 : decode cX1_waysTogether 53 = .ok (.iconst (-1), 1) := by decide +kernel
theorem dX1_waysTogether_54 : decode cX1_waysTogether 54 = .ok (.ixor, 1) := by decide +kernel
theorem dX1_waysTogether_55 : decode cX1_waysTogether 55 = .ok (.iand, 1) := by decide +kernel
theorem dX1_waysTogether_56 : decode cX1_waysTogether 56 = .ok (.iconst 1, 1) := by decide +kernel
theorem dX1_waysTogether_57 : decode cX1_waysTogether 57 = .ok (.iload_n 1, 1) := by decide +kernel
theorem dX1_waysTogether_58 : decode cX1_waysTogether 58 = .ok (.ishl, 1) := by decide +kernel
theorem dX1_waysTogether_59 : decode cX1_waysTogether 59 = .ok (.iand, 1) := by decide +kernel
theorem dX1_waysTogether_60 : decode cX1_waysTogether 60 = .ok (.ifCond .eq 29, 3) := by decide +kernel
theorem dX1_waysTogether_63 : decode cX1_waysTogether 63 = .ok (.lload 4, 2) := by decide +kernel
theorem dX1_waysTogether_65 : decode cX1_waysTogether 65 = .ok (.aload_n 0, 1) := by decide +kernel
theorem dX1_waysTogether_66 : decode cX1_waysTogether 66 = .ok (.getfield 21, 3) := by decide +kernel
theorem dX1_waysTogether_69 : decode cX1_waysTogether 69 = .ok (.iload 6, 2) := by decide +kernel
theorem dX1_waysTogether_71 : decode cX1_waysTogether 71 = .ok (.iaload, 1) := by decide +kernel
theorem dX1_waysTogether_72 : decode cX1_waysTogether 72 = .ok (.i2l, 1) := by decide +kernel
theorem dX1_waysTogether_73 : decode cX1_waysTogether 73 = .ok (.aload_n 0, 1) := by decide +kernel
theorem dX1_waysTogether_74 : decode cX1_waysTogether 74 = .ok (.getfield 24, 3) := by decide +kernel
theorem dX1_waysTogether_77 : decode cX1_waysTogether 77 = .ok (.iload 6, 2) := by decide +kernel
theorem dX1_waysTogether_79 : decode cX1_waysTogether 79 = .ok (.iconst 1, 1) := by decide +kernel
theorem dX1_waysTogether_80 : decode cX1_waysTogether 80 = .ok (.iload_n 1, 1) := by decide +kernel
theorem dX1_waysTogether_81 : decode cX1_waysTogether 81 = .ok (.ishl, 1) := by decide +kernel
theorem dX1_waysTogether_82 : decode cX1_waysTogether 82 = .ok (.ior, 1) := by decide +kernel
theorem dX1_waysTogether_83 : decode cX1_waysTogether 83 = .ok (.iaload, 1) := by decide +kernel
theorem dX1_waysTogether_84 : decode cX1_waysTogether 84 = .ok (.i2l, 1) := by decide +kernel
theorem dX1_waysTogether_85 : decode cX1_waysTogether 85 = .ok (.lmul, 1) := by decide +kernel
theorem dX1_waysTogether_86 : decode cX1_waysTogether 86 = .ok (.ladd, 1) := by decide +kernel
theorem dX1_waysTogether_87 : decode cX1_waysTogether 87 = .ok (.lstore 4, 2) := by decide +kernel
theorem dX1_waysTogether_89 : decode cX1_waysTogether 89 = .ok (.iinc 6 1, 3) := by decide +kernel
theorem dX1_waysTogether_92 : decode cX1_waysTogether 92 = .ok (.goto (-66), 3) := by decide +kernel
theorem dX1_waysTogether_95 : decode cX1_waysTogether 95 = .ok (.lload 4, 2) := by decide +kernel
theorem dX1_waysTogether_97 : decode cX1_waysTogether 97 = .ok (.lreturn, 1) := by decide +kernel
set_option maxRecDepth 20000 in
theorem ggX1_listOwners_J7_fill_53178 : GoodIn wsX1_listOwners wsJ7_fill_53178 := goodIn_r _ [8] (by decide +kernel) (by decide +kernel)
set_option maxRecDepth 20000 in
theorem gX1_listOwners_J7_fill_53178 : GoodIn wsX1_listOwners (va_wsS RX1 76 yJ7_fill_53178 wsJ7_fill_53178) := goodIn_app (goodIn_of _ (by decide +kernel)) ggX1_listOwners_J7_fill_53178
set_option maxRecDepth 20000 in
theorem ggX1_listOwners_J6_bitCount_0f7a4 : GoodIn wsX1_listOwners wsJ6_bitCount_0f7a4 := goodIn_r _ [12, 13, 14, 15] (by decide +kernel) (by decide +kernel)
set_option maxRecDepth 20000 in
theorem gX1_listOwners_J6_bitCount_0f7a4 : GoodIn wsX1_listOwners (va_wsS RX1 65 yJ6_bitCount_0f7a4 wsJ6_bitCount_0f7a4) := goodIn_app (goodIn_of _ (by decide +kernel)) ggX1_listOwners_J6_bitCount_0f7a4
set_option maxRecDepth 20000 in
theorem ggX1_listOwners_X1_mayOwnAt : GoodIn wsX1_listOwners wsX1_mayOwnAt := goodIn_r _ [20, 3, 21, 27, 28, 29, 30, 31, 32, 33] (by decide +kernel) (by decide +kernel)
set_option maxRecDepth 20000 in
theorem gX1_listOwners_X1_mayOwnAt : GoodIn wsX1_listOwners (wsV RX1 70 RX1 yX1_mayOwnAt wsX1_mayOwnAt) := goodIn_app (goodIn_of _ (by decide +kernel)) ggX1_listOwners_X1_mayOwnAt
set_option maxRecDepth 20000 in
theorem ggX1_listOwners_X1_ownersBehind : GoodIn wsX1_listOwners wsX1_ownersBehind := goodIn_r _ [25, 2, 26, 27, 28, 29, 30, 31, 32, 33] (by decide +kernel) (by decide +kernel)
set_option maxRecDepth 20000 in
theorem gX1_listOwners_X1_ownersBehind : GoodIn wsX1_listOwners (wsV RX1 82 RX1 yX1_ownersBehind wsX1_ownersBehind) := goodIn_app (goodIn_of _ (by decide +kernel)) ggX1_listOwners_X1_ownersBehind
theorem dX1_listOwners_0 : decode cX1_listOwners 0 = .ok (.aload_n 0, 1) := by decide +kernel
theorem dX1_listOwners_1 : decode cX1_listOwners 1 = .ok (.getfield 18, 3) := by decide +kernel
theorem dX1_listOwners_4 : decode cX1_listOwners 4 = .ok (.iconst 0, 1) := by decide +kernel
theorem dX1_listOwners_5 : decode cX1_listOwners 5 = .ok (.invokestatic 76, 3) := by decide +kernel
theorem dX1_listOwners_8 : decode cX1_listOwners 8 = .ok (.iconst 0, 1) := by decide +kernel
theorem dX1_listOwners_9 : decode cX1_listOwners 9 = .ok (.istore_n 1, 1) := by decide +kernel
theorem dX1_listOwners_10 : decode cX1_listOwners 10 = .ok (.iload_n 1, 1) := by decide +kernel
theorem dX1_listOwners_11 : decode cX1_listOwners 11 = .ok (.iconst 1, 1) := by decide +kernel
theorem dX1_listOwners_12 : decode cX1_listOwners 12 = .ok (.aload_n 0, 1) := by decide +kernel
theorem dX1_listOwners_13 : decode cX1_listOwners 13 = .ok (.getfield 39, 3) := by decide +kernel
theorem dX1_listOwners_16 : decode cX1_listOwners 16 = .ok (.ishl, 1) := by decide +kernel
theorem dX1_listOwners_17 : decode cX1_listOwners 17 = .ok (.if_icmp .ge 60, 3) := by decide +kernel
theorem dX1_listOwners_20 : decode cX1_listOwners 20 = .ok (.iload_n 1, 1) := by decide +kernel
theorem dX1_listOwners_21 : decode cX1_listOwners 21 = .ok (.invokestatic 65, 3) := by decide +kernel
theorem dX1_listOwners_24 : decode cX1_listOwners 24 = .ok (.istore_n 2, 1) := by decide +kernel
theorem dX1_listOwners_25 : decode cX1_listOwners 25 = .ok (.iload_n 2, 1) := by decide +kernel
theorem dX1_listOwners_26 : decode cX1_listOwners 26 = .ok (.aload_n 0, 1) := by decide +kernel
theorem dX1_listOwners_27 : decode cX1_listOwners 27 = .ok (.getfield 40, 3) := by decide +kernel
theorem dX1_listOwners_30 : decode cX1_listOwners 30 = .ok (.if_icmp .ge 41, 3) := by decide +kernel
theorem dX1_listOwners_33 : decode cX1_listOwners 33 = .ok (.iload_n 2, 1) := by decide +kernel
theorem dX1_listOwners_34 : decode cX1_listOwners 34 = .ok (.bipush 16, 2) := by decide +kernel
theorem dX1_listOwners_36 : decode cX1_listOwners 36 = .ok (.if_icmp .ge 35, 3) := by decide +kernel
theorem dX1_listOwners_39 : decode cX1_listOwners 39 = .ok (.aload_n 0, 1) := by decide +kernel
theorem dX1_listOwners_40 : decode cX1_listOwners 40 = .ok (.getfield 21, 3) := by decide +kernel
theorem dX1_listOwners_43 : decode cX1_listOwners 43 = .ok (.iload_n 1, 1) := by decide +kernel
theorem dX1_listOwners_44 : decode cX1_listOwners 44 = .ok (.iaload, 1) := by decide +kernel
theorem dX1_listOwners_45 : decode cX1_listOwners 45 = .ok (.ifCond .le 26, 3) := by decide +kernel
theorem dX1_listOwners_48 : decode cX1_listOwners 48 = .ok (.aload_n 0, 1) := by decide +kernel
theorem dX1_listOwners_49 : decode cX1_listOwners 49 = .ok (.getfield 18, 3) := by decide +kernel
theorem dX1_listOwners_52 : decode cX1_listOwners 52 = .ok (.iload_n 2, 1) := by decide +kernel
theorem dX1_listOwners_53 : decode cX1_listOwners 53 = .ok (.dup2, 1) := by decide +kernel
theorem dX1_listOwners_54 : decode cX1_listOwners 54 = .ok (.iaload, 1) := by decide +kernel
theorem dX1_listOwners_55 : decode cX1_listOwners 55 = .ok (.aload_n 0, 1) := by decide +kernel
theorem dX1_listOwners_56 : decode cX1_listOwners 56 = .ok (.iload_n 1, 1) := by decide +kernel
theorem dX1_listOwners_57 : decode cX1_listOwners 57 = .ok (.aload_n 0, 1) := by decide +kernel
theorem dX1_listOwners_58 : decode cX1_listOwners 58 = .ok (.iload_n 2, 1) := by decide +kernel
theorem dX1_listOwners_59 : decode cX1_listOwners 59 = .ok (.invokevirtual 70, 3) := by decide +kernel
theorem dX1_listOwners_62 : decode cX1_listOwners 62 = .ok (.iload_n 1, 1) := by decide +kernel
theorem dX1_listOwners_63 : decode cX1_listOwners 63 = .ok (.iconst (-1), 1) := by decide +kernel
theorem dX1_listOwners_64 : decode cX1_listOwners 64 = .ok (.ixor, 1) := by decide +kernel
theorem dX1_listOwners_65 : decode cX1_listOwners 65 = .ok (.iand, 1) := by decide +kernel
theorem dX1_listOwners_66 : decode cX1_listOwners 66 = .ok (.invokevirtual 82, 3) := by decide +kernel
theorem dX1_listOwners_69 : decode cX1_listOwners 69 = .ok (.ior, 1) := by decide +kernel
theorem dX1_listOwners_70 : decode cX1_listOwners 70 = .ok (.iastore, 1) := by decide +kernel
theorem dX1_listOwners_71 : decode cX1_listOwners 71 = .ok (.iinc 1 1, 3) := by decide +kernel
theorem dX1_listOwners_74 : decode cX1_listOwners 74 = .ok (.goto (-64), 3) := by decide +kernel
theorem dX1_listOwners_77 : decode cX1_listOwners 77 = .ok (.return_, 1) := by decide +kernel
theorem dX1_ownersBehind_0 : decode cX1_ownersBehind 0 = .ok (.iconst 0, 1) := by decide +kernel
theorem dX1_ownersBehind_1 : decode cX1_ownersBehind 1 = .ok (.istore_n 3, 1) := by decide +kernel
theorem dX1_ownersBehind_2 : decode cX1_ownersBehind 2 = .ok (.iconst 0, 1) := by decide +kernel
theorem dX1_ownersBehind_3 : decode cX1_ownersBehind 3 = .ok (.istore 4, 2) := by decide +kernel
theorem dX1_ownersBehind_5 : decode cX1_ownersBehind 5 = .ok (.iload 4, 2) := by decide +kernel
theorem dX1_ownersBehind_7 : decode cX1_ownersBehind 7 = .ok (.aload_n 0, 1) := by decide +kernel
theorem dX1_ownersBehind_8 : decode cX1_ownersBehind 8 = .ok (.getfield 39, 3) := by decide +kernel
theorem dX1_ownersBehind_11 : decode cX1_ownersBehind 11 = .ok (.if_icmp .ge 40, 3) := by decide +kernel
theorem dX1_ownersBehind_14 : decode cX1_ownersBehind 14 = .ok (.iload_n 2, 1) := by decide +kernel
theorem dX1_ownersBehind_15 : decode cX1_ownersBehind 15 = .ok (.iload 4, 2) := by decide +kernel
theorem dX1_ownersBehind_17 : decode cX1_ownersBehind 17 = .ok (.ishr, 1) := by decide +kernel
theorem dX1_ownersBehind_18 : decode cX1_ownersBehind 18 = .ok (.iconst 1, 1) := by decide +kernel
theorem dX1_ownersBehind_19 : decode cX1_ownersBehind 19 = .ok (.iand, 1) := by decide +kernel
theorem dX1_ownersBehind_20 : decode cX1_ownersBehind 20 = .ok (.iconst 1, 1) := by decide +kernel
theorem dX1_ownersBehind_21 : decode cX1_ownersBehind 21 = .ok (.if_icmp .ne 24, 3) := by decide +kernel
theorem dX1_ownersBehind_24 : decode cX1_ownersBehind 24 = .ok (.aload_n 0, 1) := by decide +kernel
theorem dX1_ownersBehind_25 : decode cX1_ownersBehind 25 = .ok (.getfield 24, 3) := by decide +kernel
theorem dX1_ownersBehind_28 : decode cX1_ownersBehind 28 = .ok (.iload_n 1, 1) := by decide +kernel
theorem dX1_ownersBehind_29 : decode cX1_ownersBehind 29 = .ok (.iconst 1, 1) := by decide +kernel
theorem dX1_ownersBehind_30 : decode cX1_ownersBehind 30 = .ok (.iload 4, 2) := by decide +kernel
theorem dX1_ownersBehind_32 : decode cX1_ownersBehind 32 = .ok (.ishl, 1) := by decide +kernel
theorem dX1_ownersBehind_33 : decode cX1_ownersBehind 33 = .ok (.ior, 1) := by decide +kernel
theorem dX1_ownersBehind_34 : decode cX1_ownersBehind 34 = .ok (.iaload, 1) := by decide +kernel
theorem dX1_ownersBehind_35 : decode cX1_ownersBehind 35 = .ok (.ifCond .le 10, 3) := by decide +kernel
theorem dX1_ownersBehind_38 : decode cX1_ownersBehind 38 = .ok (.iload_n 3, 1) := by decide +kernel
theorem dX1_ownersBehind_39 : decode cX1_ownersBehind 39 = .ok (.iconst 1, 1) := by decide +kernel
theorem dX1_ownersBehind_40 : decode cX1_ownersBehind 40 = .ok (.iload 4, 2) := by decide +kernel
theorem dX1_ownersBehind_42 : decode cX1_ownersBehind 42 = .ok (.ishl, 1) := by decide +kernel
theorem dX1_ownersBehind_43 : decode cX1_ownersBehind 43 = .ok (.ior, 1) := by decide +kernel
theorem dX1_ownersBehind_44 : decode cX1_ownersBehind 44 = .ok (.istore_n 3, 1) := by decide +kernel
theorem dX1_ownersBehind_45 : decode cX1_ownersBehind 45 = .ok (.iinc 4 1, 3) := by decide +kernel
theorem dX1_ownersBehind_48 : decode cX1_ownersBehind 48 = .ok (.goto (-43), 3) := by decide +kernel
theorem dX1_ownersBehind_51 : decode cX1_ownersBehind 51 = .ok (.iload_n 3, 1) := by decide +kernel
theorem dX1_ownersBehind_52 : decode cX1_ownersBehind 52 = .ok (.ireturn, 1) := by decide +kernel
set_option maxRecDepth 20000 in
theorem ggX1_signsWithOneOwner_J6_bitCount_0f7a4 : GoodIn wsX1_signsWithOneOwner wsJ6_bitCount_0f7a4 := goodIn_r _ [6, 7, 8, 9] (by decide +kernel) (by decide +kernel)
set_option maxRecDepth 20000 in
theorem gX1_signsWithOneOwner_J6_bitCount_0f7a4 : GoodIn wsX1_signsWithOneOwner (va_wsS RX1 65 yJ6_bitCount_0f7a4 wsJ6_bitCount_0f7a4) := goodIn_app (goodIn_of _ (by decide +kernel)) ggX1_signsWithOneOwner_J6_bitCount_0f7a4
theorem dX1_signsWithOneOwner_0 : decode cX1_signsWithOneOwner 0 = .ok (.iconst 0, 1) := by decide +kernel
theorem dX1_signsWithOneOwner_1 : decode cX1_signsWithOneOwner 1 = .ok (.istore_n 1, 1) := by decide +kernel
theorem dX1_signsWithOneOwner_2 : decode cX1_signsWithOneOwner 2 = .ok (.iconst 0, 1) := by decide +kernel
theorem dX1_signsWithOneOwner_3 : decode cX1_signsWithOneOwner 3 = .ok (.istore_n 2, 1) := by decide +kernel
theorem dX1_signsWithOneOwner_4 : decode cX1_signsWithOneOwner 4 = .ok (.iload_n 2, 1) := by decide +kernel
theorem dX1_signsWithOneOwner_5 : decode cX1_signsWithOneOwner 5 = .ok (.aload_n 0, 1) := by decide +kernel
theorem dX1_signsWithOneOwner_6 : decode cX1_signsWithOneOwner 6 = .ok (.getfield 40, 3) := by decide +kernel
theorem dX1_signsWithOneOwner_9 : decode cX1_signsWithOneOwner 9 = .ok (.if_icmp .ge 31, 3) := by decide +kernel
theorem dX1_signsWithOneOwner_12 : decode cX1_signsWithOneOwner 12 = .ok (.iload_n 2, 1) := by decide +kernel
theorem dX1_signsWithOneOwner_13 : decode cX1_signsWithOneOwner 13 = .ok (.bipush 16, 2) := by decide +kernel
theorem dX1_signsWithOneOwner_15 : decode cX1_signsWithOneOwner 15 = .ok (.if_icmp .ge 25, 3) := by decide +kernel
theorem dX1_signsWithOneOwner_18 : decode cX1_signsWithOneOwner 18 = .ok (.aload_n 0, 1) := by decide +kernel
theorem dX1_signsWithOneOwner_19 : decode cX1_signsWithOneOwner 19 = .ok (.getfield 18, 3) := by decide +kernel
theorem dX1_signsWithOneOwner_22 : decode cX1_signsWithOneOwner 22 = .ok (.iload_n 2, 1) := by decide +kernel
theorem dX1_signsWithOneOwner_23 : decode cX1_signsWithOneOwner 23 = .ok (.iaload, 1) := by decide +kernel
theorem dX1_signsWithOneOwner_24 : decode cX1_signsWithOneOwner 24 = .ok (.invokestatic 65, 3) := by decide +kernel
theorem dX1_signsWithOneOwner_27 : decode cX1_signsWithOneOwner 27 = .ok (.iconst 1, 1) := by decide +kernel
theorem dX1_signsWithOneOwner_28 : decode cX1_signsWithOneOwner 28 = .ok (.if_icmp .ne 6, 3) := by decide +kernel
theorem dX1_signsWithOneOwner_31 : decode cX1_signsWithOneOwner 31 = .ok (.iinc 1 1, 3) := by decide +kernel
theorem dX1_signsWithOneOwner_34 : decode cX1_signsWithOneOwner 34 = .ok (.iinc 2 1, 3) := by decide +kernel
theorem dX1_signsWithOneOwner_37 : decode cX1_signsWithOneOwner 37 = .ok (.goto (-33), 3) := by decide +kernel
theorem dX1_signsWithOneOwner_40 : decode cX1_signsWithOneOwner 40 = .ok (.iload_n 1, 1) := by decide +kernel
theorem dX1_signsWithOneOwner_41 : decode cX1_signsWithOneOwner 41 = .ok (.ireturn, 1) := by decide +kernel
set_option maxRecDepth 20000 in
theorem ggX1_onlyOwner_X1_isShown : GoodIn wsX1_onlyOwner wsX1_isShown := goodIn_r _ [7, 2, 19, 20, 21, 22, 23, 24, 25] (by decide +kernel) (by decide +kernel)
set_option maxRecDepth 20000 in
theorem gX1_onlyOwner_X1_isShown : GoodIn wsX1_onlyOwner (wsV RX1 73 RX1 yX1_isShown wsX1_isShown) := goodIn_app (goodIn_of _ (by decide +kernel)) ggX1_onlyOwner_X1_isShown
set_option maxRecDepth 20000 in
theorem ggX1_onlyOwner_J6_bitCount_0f7a4 : GoodIn wsX1_onlyOwner wsJ6_bitCount_0f7a4 := goodIn_r _ [11, 12, 13, 14] (by decide +kernel) (by decide +kernel)
set_option maxRecDepth 20000 in
theorem gX1_onlyOwner_J6_bitCount_0f7a4 : GoodIn wsX1_onlyOwner (va_wsS RX1 65 yJ6_bitCount_0f7a4 wsJ6_bitCount_0f7a4) := goodIn_app (goodIn_of _ (by decide +kernel)) ggX1_onlyOwner_J6_bitCount_0f7a4
set_option maxRecDepth 20000 in
theorem ggX1_onlyOwner_J6_numberOfTrailingZeros_0f7a4 : GoodIn wsX1_onlyOwner wsJ6_numberOfTrailingZeros_0f7a4 := goodIn_r _ [17, 18] (by decide +kernel) (by decide +kernel)
set_option maxRecDepth 20000 in
theorem gX1_onlyOwner_J6_numberOfTrailingZeros_0f7a4 : GoodIn wsX1_onlyOwner (va_wsS RX1 85 yJ6_numberOfTrailingZeros_0f7a4 wsJ6_numberOfTrailingZeros_0f7a4) := goodIn_app (goodIn_of _ (by decide +kernel)) ggX1_onlyOwner_J6_numberOfTrailingZeros_0f7a4
theorem dX1_onlyOwner_0 : decode cX1_onlyOwner 0 = .ok (.aload_n 0, 1) := by decide +kernel
theorem dX1_onlyOwner_1 : decode cX1_onlyOwner 1 = .ok (.iload_n 1, 1) := by decide +kernel
theorem dX1_onlyOwner_2 : decode cX1_onlyOwner 2 = .ok (.invokevirtual 73, 3) := by decide +kernel
theorem dX1_onlyOwner_5 : decode cX1_onlyOwner 5 = .ok (.ifCond .eq 17, 3) := by decide +kernel
theorem dX1_onlyOwner_8 : decode cX1_onlyOwner 8 = .ok (.aload_n 0, 1) := by decide +kernel
theorem dX1_onlyOwner_9 : decode cX1_onlyOwner 9 = .ok (.getfield 18, 3) := by decide +kernel
theorem dX1_onlyOwner_12 : decode cX1_onlyOwner 12 = .ok (.aload_n 0, 1) := by decide +kernel
theorem dX1_onlyOwner_13 : decode cX1_onlyOwner 13 = .ok (.getfield 9, 3) := by decide +kernel
theorem dX1_onlyOwner_16 : decode cX1_onlyOwner 16 = .ok (.iload_n 1, 1) := by decide +kernel
theorem dX1_onlyOwner_17 : decode cX1_onlyOwner 17 = .ok (.iaload, 1) := by decide +kernel
theorem dX1_onlyOwner_18 : decode cX1_onlyOwner 18 = .ok (.iaload, 1) := by decide +kernel
theorem dX1_onlyOwner_19 : decode cX1_onlyOwner 19 = .ok (.goto 4, 3) := by decide +kernel
theorem dX1_onlyOwner_22 : decode cX1_onlyOwner 22 = .ok (.iconst 0, 1) := by decide +kernel
theorem dX1_onlyOwner_23 : decode cX1_onlyOwner 23 = .ok (.istore_n 2, 1) := by decide +kernel
theorem dX1_onlyOwner_24 : decode cX1_onlyOwner 24 = .ok (.iload_n 2, 1) := by decide +kernel
theorem dX1_onlyOwner_25 : decode cX1_onlyOwner 25 = .ok (.invokestatic 65, 3) := by decide +kernel
theorem dX1_onlyOwner_28 : decode cX1_onlyOwner 28 = .ok (.iconst 1, 1) := by decide +kernel
theorem dX1_onlyOwner_29 : decode cX1_onlyOwner 29 = .ok (.if_icmp .ne 10, 3) := by decide +kernel
theorem dX1_onlyOwner_32 : decode cX1_onlyOwner 32 = .ok (.iload_n 2, 1) := by decide +kernel
theorem dX1_onlyOwner_33 : decode cX1_onlyOwner 33 = .ok (.invokestatic 85, 3) := by decide +kernel
theorem dX1_onlyOwner_36 : decode cX1_onlyOwner 36 = .ok (.goto 5, 3) := by decide +kernel
theorem dX1_onlyOwner_39 : decode cX1_onlyOwner 39 = .ok (.bipush (-4), 2) := by decide +kernel
theorem dX1_onlyOwner_41 : decode cX1_onlyOwner 41 = .ok (.ireturn, 1) := by decide +kernel
