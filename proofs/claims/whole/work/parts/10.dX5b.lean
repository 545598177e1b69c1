theorem dX5_gaps_14 : decode cX5_gaps 14 = .ok (.iconst (-1), 1) := by decide +kernel
theorem dX5_gaps_15 : decode cX5_gaps 15 = .ok (.istore 4, 2) := by decide +kernel
theorem dX5_gaps_17 : decode cX5_gaps 17 = .ok (.iconst 0, 1) := by decide +kernel
theorem dX5_gaps_18 : decode cX5_gaps 18 = .ok (.istore 5, 2) := by decide +kernel
theorem dX5_gaps_20 : decode cX5_gaps 20 = .ok (.iconst 0, 1) := by decide +kernel
theorem dX5_gaps_21 : decode cX5_gaps 21 = .ok (.istore 6, 2) := by decide +kernel
theorem dX5_gaps_23 : decode cX5_gaps 23 = .ok (.iload 6, 2) := by decide +kernel
theorem dX5_gaps_25 : decode cX5_gaps 25 = .ok (.aload_n 0, 1) := by decide +kernel
theorem dX5_gaps_26 : decode cX5_gaps 26 = .ok (.getfield 186, 3) := by decide +kernel
theorem dX5_gaps_29 : decode cX5_gaps 29 = .ok (.if_icmp .ge 47, 3) := by decide +kernel
theorem dX5_gaps_32 : decode cX5_gaps 32 = .ok (.aload_n 0, 1) := by decide +kernel
theorem dX5_gaps_33 : decode cX5_gaps 33 = .ok (.getfield 44, 3) := by decide +kernel
theorem dX5_gaps_36 : decode cX5_gaps 36 = .ok (.iload_n 2, 1) := by decide +kernel
theorem dX5_gaps_37 : decode cX5_gaps 37 = .ok (.iaload, 1) := by decide +kernel
theorem dX5_gaps_38 : decode cX5_gaps 38 = .ok (.aload_n 0, 1) := by decide +kernel
theorem dX5_gaps_39 : decode cX5_gaps 39 = .ok (.getfield 53, 3) := by decide +kernel
theorem dX5_gaps_42 : decode cX5_gaps 42 = .ok (.iload 6, 2) := by decide +kernel
theorem dX5_gaps_44 : decode cX5_gaps 44 = .ok (.iaload, 1) := by decide +kernel
theorem dX5_gaps_45 : decode cX5_gaps 45 = .ok (.ishr, 1) := by decide +kernel
theorem dX5_gaps_46 : decode cX5_gaps 46 = .ok (.iconst 1, 1) := by decide +kernel
theorem dX5_gaps_47 : decode cX5_gaps 47 = .ok (.iand, 1) := by decide +kernel
theorem dX5_gaps_48 : decode cX5_gaps 48 = .ok (.iconst 1, 1) := by decide +kernel
theorem dX5_gaps_49 : decode cX5_gaps 49 = .ok (.if_icmp .ne 21, 3) := by decide +kernel
theorem dX5_gaps_52 : decode cX5_gaps 52 = .ok (.iload_n 3, 1) := by decide +kernel
theorem dX5_gaps_53 : decode cX5_gaps 53 = .ok (.ifCond .ge 8, 3) := by decide +kernel
theorem dX5_gaps_56 : decode cX5_gaps 56 = .ok (.iload 6, 2) := by decide +kernel
theorem dX5_gaps_58 : decode cX5_gaps 58 = .ok (.goto 4, 3) := by decide +kernel
theorem dX5_gaps_61 : decode cX5_gaps 61 = .ok (.iload_n 3, 1) := by decide +kernel
theorem dX5_gaps_62 : decode cX5_gaps 62 = .ok (.istore_n 3, 1) := by decide +kernel
theorem dX5_gaps_63 : decode cX5_gaps 63 = .ok (.iload 6, 2) := by decide +kernel
theorem dX5_gaps_65 : decode cX5_gaps 65 = .ok (.istore 4, 2) := by decide +kernel
theorem dX5_gaps_67 : decode cX5_gaps 67 = .ok (.iinc 5 1, 3) := by decide +kernel
theorem dX5_gaps_70 : decode cX5_gaps 70 = .ok (.iinc 6 1, 3) := by decide +kernel
theorem dX5_gaps_73 : decode cX5_gaps 73 = .ok (.goto (-50), 3) := by decide +kernel
theorem dX5_gaps_76 : decode cX5_gaps 76 = .ok (.iload_n 1, 1) := by decide +kernel
theorem dX5_gaps_77 : decode cX5_gaps 77 = .ok (.iload 5, 2) := by decide +kernel
theorem dX5_gaps_79 : decode cX5_gaps 79 = .ok (.ifCond .ne 7, 3) := by decide +kernel
theorem dX5_gaps_82 : decode cX5_gaps 82 = .ok (.iconst 0, 1) := by decide +kernel
theorem dX5_gaps_83 : decode cX5_gaps 83 = .ok (.goto 19, 3) := by decide +kernel
theorem dX5_gaps_86 : decode cX5_gaps 86 = .ok (.aload_n 0, 1) := by decide +kernel
theorem dX5_gaps_87 : decode cX5_gaps 87 = .ok (.getfield 47, 3) := by decide +kernel
theorem dX5_gaps_90 : decode cX5_gaps 90 = .ok (.iload_n 2, 1) := by decide +kernel
theorem dX5_gaps_91 : decode cX5_gaps 91 = .ok (.iaload, 1) := by decide +kernel
theorem dX5_gaps_92 : decode cX5_gaps 92 = .ok (.iload 4, 2) := by decide +kernel
theorem dX5_gaps_94 : decode cX5_gaps 94 = .ok (.iload_n 3, 1) := by decide +kernel
theorem dX5_gaps_95 : decode cX5_gaps 95 = .ok (.isub, 1) := by decide +kernel
theorem dX5_gaps_96 : decode cX5_gaps 96 = .ok (.iconst 1, 1) := by decide +kernel
theorem dX5_gaps_97 : decode cX5_gaps 97 = .ok (.iadd, 1) := by decide +kernel
theorem dX5_gaps_98 : decode cX5_gaps 98 = .ok (.iload 5, 2) := by decide +kernel
theorem dX5_gaps_100 : decode cX5_gaps 100 = .ok (.isub, 1) := by decide +kernel
theorem dX5_gaps_101 : decode cX5_gaps 101 = .ok (.imul, 1) := by decide +kernel
theorem dX5_gaps_102 : decode cX5_gaps 102 = .ok (.iadd, 1) := by decide +kernel
theorem dX5_gaps_103 : decode cX5_gaps 103 = .ok (.istore_n 1, 1) := by decide +kernel
theorem dX5_gaps_104 : decode cX5_gaps 104 = .ok (.iinc 2 1, 3) := by decide +kernel
theorem dX5_gaps_107 : decode cX5_gaps 107 = .ok (.goto (-103), 3) := by decide +kernel
theorem dX5_gaps_110 : decode cX5_gaps 110 = .ok (.iload_n 1, 1) := by decide +kernel
theorem dX5_gaps_111 : decode cX5_gaps 111 = .ok (.ireturn, 1) := by decide +kernel
theorem dX5_begins_0 : decode cX5_begins 0 = .ok (.iconst 0, 1) := by decide +kernel
theorem dX5_begins_1 : decode cX5_begins 1 = .ok (.istore_n 1, 1) := by decide +kernel
theorem dX5_begins_2 : decode cX5_begins 2 = .ok (.iload_n 1, 1) := by decide +kernel
theorem dX5_begins_3 : decode cX5_begins 3 = .ok (.aload_n 0, 1) := by decide +kernel
theorem dX5_begins_4 : decode cX5_begins 4 = .ok (.getfield 186, 3) := by decide +kernel
theorem dX5_begins_7 : decode cX5_begins 7 = .ok (.if_icmp .ge 21, 3) := by decide +kernel
theorem dX5_begins_10 : decode cX5_begins 10 = .ok (.aload_n 0, 1) := by decide +kernel
theorem dX5_begins_11 : decode cX5_begins 11 = .ok (.getfield 53, 3) := by decide +kernel
theorem dX5_begins_14 : decode cX5_begins 14 = .ok (.iload_n 1, 1) := by decide +kernel
theorem dX5_begins_15 : decode cX5_begins 15 = .ok (.aload_n 0, 1) := by decide +kernel
theorem dX5_begins_16 : decode cX5_begins 16 = .ok (.getfield 41, 3) := by decide +kernel
theorem dX5_begins_19 : decode cX5_begins 19 = .ok (.iload_n 1, 1) := by decide +kernel
theorem dX5_begins_20 : decode cX5_begins 20 = .ok (.iaload, 1) := by decide +kernel
theorem dX5_begins_21 : decode cX5_begins 21 = .ok (.iastore, 1) := by decide +kernel
theorem dX5_begins_22 : decode cX5_begins 22 = .ok (.iinc 1 1, 3) := by decide +kernel
theorem dX5_begins_25 : decode cX5_begins 25 = .ok (.goto (-23), 3) := by decide +kernel
theorem dX5_begins_28 : decode cX5_begins 28 = .ok (.return_, 1) := by decide +kernel
set_option maxRecDepth 20000 in
theorem ggX5_orders_X5_begins : GoodIn wsX5_orders wsX5_begins := goodIn_r _ [7, 8, 9, 10, 33, 34, 35, 36, 37, 38, 39, 40, 41, 42, 43, 44, 45, 46, 47, 48, 49, 50, 51, 52, 53, 54, 55, 56, 57, 58, 59, 60, 61] (by decide +kernel) (by decide +kernel)
set_option maxRecDepth 20000 in
theorem gX5_orders_X5_begins : GoodIn wsX5_orders (wsV RX5 198 RX5 yX5_begins wsX5_begins) := goodIn_app (goodIn_of _ (by decide +kernel)) ggX5_orders_X5_begins
set_option maxRecDepth 20000 in
theorem ggX5_orders_X5_mayBe : GoodIn wsX5_orders wsX5_mayBe := goodIn_r _ [14, 8, 15, 9, 33, 34, 35, 36, 37, 38, 39, 40, 41, 42, 43, 44, 45, 46, 47, 48, 49, 50, 51, 52, 53, 54, 55, 56, 57, 58, 59, 60, 61] (by decide +kernel) (by decide +kernel)
set_option maxRecDepth 20000 in
theorem gX5_orders_X5_mayBe : GoodIn wsX5_orders (wsV RX5 201 RX5 yX5_mayBe wsX5_mayBe) := goodIn_app (goodIn_of _ (by decide +kernel)) ggX5_orders_X5_mayBe
set_option maxRecDepth 20000 in
theorem ggX5_orders_X5_gaps : GoodIn wsX5_orders wsX5_gaps := goodIn_r _ [19, 20, 8, 21, 9, 22, 33, 34, 35, 36, 37, 38, 39, 40, 41, 42, 43, 44, 45, 46, 47, 48, 49, 50, 51, 52, 53, 54, 55, 56, 57, 58, 59, 60, 61] (by decide +kernel) (by decide +kernel)
set_option maxRecDepth 20000 in
theorem gX5_orders_X5_gaps : GoodIn wsX5_orders (wsV RX5 204 RX5 yX5_gaps wsX5_gaps) := goodIn_app (goodIn_of _ (by decide +kernel)) ggX5_orders_X5_gaps
set_option maxRecDepth 20000 in
theorem ggX5_orders_X5_takes : GoodIn wsX5_orders wsX5_takes := goodIn_r _ [26, 2, 1, 27, 28, 8, 9, 33, 34, 35, 36, 37, 38, 39, 40, 41, 42, 43, 44, 45, 46, 47, 48, 49, 50, 51, 52, 53, 54, 55, 56, 57, 58, 59, 60, 61] (by decide +kernel) (by decide +kernel)
set_option maxRecDepth 20000 in
theorem gX5_orders_X5_takes : GoodIn wsX5_orders (wsV RX5 207 RX5 yX5_takes wsX5_takes) := goodIn_app (goodIn_of _ (by decide +kernel)) ggX5_orders_X5_takes
set_option maxRecDepth 20000 in
theorem ggX5_orders_X5_follows : GoodIn wsX5_orders wsX5_follows := goodIn_r _ [32, 8, 9, 33, 34, 35, 36, 37, 38, 39, 40, 41, 42, 43, 44, 45, 46, 47, 48, 49, 50, 51, 52, 53, 54, 55, 56, 57, 58, 59, 60, 61] (by decide +kernel) (by decide +kernel)
set_option maxRecDepth 20000 in
theorem gX5_orders_X5_follows : GoodIn wsX5_orders (wsV RX5 211 RX5 yX5_follows wsX5_follows) := goodIn_app (goodIn_of _ (by decide +kernel)) ggX5_orders_X5_follows
theorem dX5_orders_0 : decode cX5_orders 0 = .ok (.aload_n 0, 1) := by decide +kernel
theorem dX5_orders_1 : decode cX5_orders 1 = .ok (.iconst 0, 1) := by decide +kernel
theorem dX5_orders_2 : decode cX5_orders 2 = .ok (.putfield 192, 3) := by decide +kernel
theorem dX5_orders_5 : decode cX5_orders 5 = .ok (.aload_n 0, 1) := by decide +kernel
theorem dX5_orders_6 : decode cX5_orders 6 = .ok (.iconst (-1), 1) := by decide +kernel
theorem dX5_orders_7 : decode cX5_orders 7 = .ok (.putfield 195, 3) := by decide +kernel
theorem dX5_orders_10 : decode cX5_orders 10 = .ok (.aload_n 0, 1) := by decide +kernel
theorem dX5_orders_11 : decode cX5_orders 11 = .ok (.invokevirtual 198, 3) := by decide +kernel
theorem dX5_orders_14 : decode cX5_orders 14 = .ok (.iconst 1, 1) := by decide +kernel
theorem dX5_orders_15 : decode cX5_orders 15 = .ok (.istore_n 1, 1) := by decide +kernel
theorem dX5_orders_16 : decode cX5_orders 16 = .ok (.iload_n 1, 1) := by decide +kernel
theorem dX5_orders_17 : decode cX5_orders 17 = .ok (.ifCond .eq 26, 3) := by decide +kernel
theorem dX5_orders_20 : decode cX5_orders 20 = .ok (.aload_n 0, 1) := by decide +kernel
theorem dX5_orders_21 : decode cX5_orders 21 = .ok (.invokevirtual 201, 3) := by decide +kernel
theorem dX5_orders_24 : decode cX5_orders 24 = .ok (.ifCond .eq 11, 3) := by decide +kernel
theorem dX5_orders_27 : decode cX5_orders 27 = .ok (.aload_n 0, 1) := by decide +kernel
theorem dX5_orders_28 : decode cX5_orders 28 = .ok (.aload_n 0, 1) := by decide +kernel
theorem dX5_orders_29 : decode cX5_orders 29 = .ok (.invokevirtual 204, 3) := by decide +kernel
theorem dX5_orders_32 : decode cX5_orders 32 = .ok (.invokevirtual 207, 3) := by decide +kernel
theorem dX5_orders_35 : decode cX5_orders 35 = .ok (.aload_n 0, 1) := by decide +kernel
theorem dX5_orders_36 : decode cX5_orders 36 = .ok (.invokevirtual 211, 3) := by decide +kernel
theorem dX5_orders_39 : decode cX5_orders 39 = .ok (.istore_n 1, 1) := by decide +kernel
theorem dX5_orders_40 : decode cX5_orders 40 = .ok (.goto (-24), 3) := by decide +kernel
theorem dX5_orders_43 : decode cX5_orders 43 = .ok (.return_, 1) := by decide +kernel
theorem dX5_takes_0 : decode cX5_takes 0 = .ok (.aload_n 0, 1) := by decide +kernel
theorem dX5_takes_1 : decode cX5_takes 1 = .ok (.getfield 195, 3) := by decide +kernel
theorem dX5_takes_4 : decode cX5_takes 4 = .ok (.ifCond .lt 12, 3) := by decide +kernel
theorem dX5_takes_7 : decode cX5_takes 7 = .ok (.iload_n 1, 1) := by decide +kernel
theorem dX5_takes_8 : decode cX5_takes 8 = .ok (.aload_n 0, 1) := by decide +kernel
theorem dX5_takes_9 : decode cX5_takes 9 = .ok (.getfield 195, 3) := by decide +kernel
theorem dX5_takes_12 : decode cX5_takes 12 = .ok (.if_icmp .le 4, 3) := by decide +kernel
theorem dX5_takes_15 : decode cX5_takes 15 = .ok (.return_, 1) := by decide +kernel
theorem dX5_takes_16 : decode cX5_takes 16 = .ok (.aload_n 0, 1) := by decide +kernel
theorem dX5_takes_17 : decode cX5_takes 17 = .ok (.getfield 195, 3) := by decide +kernel
theorem dX5_takes_20 : decode cX5_takes 20 = .ok (.ifCond .lt 11, 3) := by decide +kernel
theorem dX5_takes_23 : decode cX5_takes 23 = .ok (.iload_n 1, 1) := by decide +kernel
theorem dX5_takes_24 : decode cX5_takes 24 = .ok (.aload_n 0, 1) := by decide +kernel
theorem dX5_takes_25 : decode cX5_takes 25 = .ok (.getfield 195, 3) := by decide +kernel
theorem dX5_takes_28 : decode cX5_takes 28 = .ok (.if_icmp .ge 58, 3) := by decide +kernel
theorem dX5_takes_31 : decode cX5_takes 31 = .ok (.aload_n 0, 1) := by decide +kernel
theorem dX5_takes_32 : decode cX5_takes 32 = .ok (.iload_n 1, 1) := by decide +kernel
theorem dX5_takes_33 : decode cX5_takes 33 = .ok (.putfield 195, 3) := by decide +kernel
theorem dX5_takes_36 : decode cX5_takes 36 = .ok (.aload_n 0, 1) := by decide +kernel
theorem dX5_takes_37 : decode cX5_takes 37 = .ok (.iconst 0, 1) := by decide +kernel
theorem dX5_takes_38 : decode cX5_takes 38 = .ok (.putfield 192, 3) := by decide +kernel
theorem dX5_takes_41 : decode cX5_takes 41 = .ok (.iconst 0, 1) := by decide +kernel
theorem dX5_takes_42 : decode cX5_takes 42 = .ok (.istore_n 2, 1) := by decide +kernel
theorem dX5_takes_43 : decode cX5_takes 43 = .ok (.iload_n 2, 1) := by decide +kernel
theorem dX5_takes_44 : decode cX5_takes 44 = .ok (.bipush 6, 2) := by decide +kernel
theorem dX5_takes_46 : decode cX5_takes 46 = .ok (.if_icmp .ge 40, 3) := by decide +kernel
theorem dX5_takes_49 : decode cX5_takes 49 = .ok (.aload_n 0, 1) := by decide +kernel
theorem dX5_takes_50 : decode cX5_takes 50 = .ok (.getfield 59, 3) := by decide +kernel
theorem dX5_takes_53 : decode cX5_takes 53 = .ok (.iload_n 2, 1) := by decide +kernel
theorem dX5_takes_54 : decode cX5_takes 54 = .ok (.iconst 0, 1) := by decide +kernel
theorem dX5_takes_55 : decode cX5_takes 55 = .ok (.iastore, 1) := by decide +kernel
theorem dX5_takes_56 : decode cX5_takes 56 = .ok (.aload_n 0, 1) := by decide +kernel
theorem dX5_takes_57 : decode cX5_takes 57 = .ok (.getfield 56, 3) := by decide +kernel
theorem dX5_takes_60 : decode cX5_takes 60 = .ok (.iload_n 2, 1) := by decide +kernel
theorem dX5_takes_61 : decode cX5_takes 61 = .ok (.iload_n 2, 1) := by decide +kernel
theorem dX5_takes_62 : decode cX5_takes 62 = .ok (.aload_n 0, 1) := by decide +kernel
theorem dX5_takes_63 : decode cX5_takes 63 = .ok (.getfield 186, 3) := by decide +kernel
theorem dX5_takes_66 : decode cX5_takes 66 = .ok (.if_icmp .ge 12, 3) := by decide +kernel
theorem dX5_takes_69 : decode cX5_takes 69 = .ok (.aload_n 0, 1) := by decide +kernel
theorem dX5_takes_70 : decode cX5_takes 70 = .ok (.getfield 53, 3) := by decide +kernel
theorem dX5_takes_73 : decode cX5_takes 73 = .ok (.iload_n 2, 1) := by decide +kernel
theorem dX5_takes_74 : decode cX5_takes 74 = .ok (.iaload, 1) := by decide +kernel
theorem dX5_takes_75 : decode cX5_takes 75 = .ok (.goto 4, 3) := by decide +kernel
theorem dX5_takes_78 : decode cX5_takes 78 = .ok (.iconst 0, 1) := by decide +kernel
theorem dX5_takes_79 : decode cX5_takes 79 = .ok (.iastore, 1) := by decide +kernel
theorem dX5_takes_80 : decode cX5_takes 80 = .ok (.iinc 2 1, 3) := by decide +kernel
theorem dX5_takes_83 : decode cX5_takes 83 = .ok (.goto (-40), 3) := by decide +kernel
theorem dX5_takes_86 : decode cX5_takes 86 = .ok (.aload_n 0, 1) := by decide +kernel
theorem dX5_takes_87 : decode cX5_takes 87 = .ok (.dup, 1) := by decide +kernel
theorem dX5_takes_88 : decode cX5_takes 88 = .ok (.getfield 192, 3) := by decide +kernel
theorem dX5_takes_91 : decode cX5_takes 91 = .ok (.iconst 1, 1) := by decide +kernel
theorem dX5_takes_92 : decode cX5_takes 92 = .ok (.iadd, 1) := by decide +kernel
theorem dX5_takes_93 : decode cX5_takes 93 = .ok (.putfield 192, 3) := by decide +kernel
theorem dX5_takes_96 : decode cX5_takes 96 = .ok (.iconst 0, 1) := by decide +kernel
theorem dX5_takes_97 : decode cX5_takes 97 = .ok (.istore_n 2, 1) := by decide +kernel
theorem dX5_takes_98 : decode cX5_takes 98 = .ok (.iconst 0, 1) := by decide +kernel
theorem dX5_takes_99 : decode cX5_takes 99 = .ok (.istore_n 3, 1) := by decide +kernel
theorem dX5_takes_100 : decode cX5_takes 100 = .ok (.iload_n 3, 1) := by decide +kernel
theorem dX5_takes_101 : decode cX5_takes 101 = .ok (.aload_n 0, 1) := by decide +kernel
theorem dX5_takes_102 : decode cX5_takes 102 = .ok (.getfield 186, 3) := by decide +kernel
theorem dX5_takes_105 : decode cX5_takes 105 = .ok (.if_icmp .ge 35, 3) := by decide +kernel
theorem dX5_takes_108 : decode cX5_takes 108 = .ok (.aload_n 0, 1) := by decide +kernel
theorem dX5_takes_109 : decode cX5_takes 109 = .ok (.getfield 59, 3) := by decide +kernel
theorem dX5_takes_112 : decode cX5_takes 112 = .ok (.aload_n 0, 1) := by decide +kernel
theorem dX5_takes_113 : decode cX5_takes 113 = .ok (.getfield 53, 3) := by decide +kernel
theorem dX5_takes_116 : decode cX5_takes 116 = .ok (.iload_n 3, 1) := by decide +kernel
theorem dX5_takes_117 : decode cX5_takes 117 = .ok (.iaload, 1) := by decide +kernel
theorem dX5_takes_118 : decode cX5_takes 118 = .ok (.dup2, 1) := by decide +kernel
theorem dX5_takes_119 : decode cX5_takes 119 = .ok (.iaload, 1) := by decide +kernel
theorem dX5_takes_120 : decode cX5_takes 120 = .ok (.iload_n 2, 1) := by decide +kernel
theorem dX5_takes_121 : decode cX5_takes 121 = .ok (.ior, 1) := by decide +kernel
theorem dX5_takes_122 : decode cX5_takes 122 = .ok (.iastore, 1) := by decide +kernel
theorem dX5_takes_123 : decode cX5_takes 123 = .ok (.iload_n 2, 1) := by decide +kernel
theorem dX5_takes_124 : decode cX5_takes 124 = .ok (.iconst 1, 1) := by decide +kernel
theorem dX5_takes_125 : decode cX5_takes 125 = .ok (.aload_n 0, 1) := by decide +kernel
theorem dX5_takes_126 : decode cX5_takes 126 = .ok (.getfield 53, 3) := by decide +kernel
theorem dX5_takes_129 : decode cX5_takes 129 = .ok (.iload_n 3, 1) := by decide +kernel
theorem dX5_takes_130 : decode cX5_takes 130 = .ok (.iaload, 1) := by decide +kernel
theorem dX5_takes_131 : decode cX5_takes 131 = .ok (.ishl, 1) := by decide +kernel
theorem dX5_takes_132 : decode cX5_takes 132 = .ok (.ior, 1) := by decide +kernel
theorem dX5_takes_133 : decode cX5_takes 133 = .ok (.istore_n 2, 1) := by decide +kernel
theorem dX5_takes_134 : decode cX5_takes 134 = .ok (.iinc 3 1, 3) := by decide +kernel
theorem dX5_takes_137 : decode cX5_takes 137 = .ok (.goto (-37), 3) := by decide +kernel
theorem dX5_takes_140 : decode cX5_takes 140 = .ok (.return_, 1) := by decide +kernel
set_option maxRecDepth 20000 in
theorem ggX5_seeks_X5_lays : GoodIn wsX5_seeks wsX5_lays := goodIn_r _ [5, 6, 7, 8, 9, 10, 11, 12, 13, 14, 15, 16, 17, 4, 18, 19, 20, 21, 22, 23, 24, 25, 55, 56, 57, 58, 59, 60, 61, 62, 63, 64, 65, 66, 67, 68, 69, 70, 71, 72, 73, 74, 75, 76, 77, 78, 79, 80, 81, 82, 83] (by decide +kernel) (by decide +kernel)
set_option maxRecDepth 20000 in
theorem gX5_seeks_X5_lays : GoodIn wsX5_seeks (wsV RX5 214 RX5 yX5_lays wsX5_lays) := goodIn_app (goodIn_of _ (by decide +kernel)) ggX5_seeks_X5_lays
set_option maxRecDepth 20000 in
theorem ggX5_seeks_X5_orders : GoodIn wsX5_seeks wsX5_orders := goodIn_r _ [29, 30, 31, 32, 33, 34, 4, 35, 6, 36, 9, 37, 38, 39, 40, 7, 41, 42, 43, 44, 11, 12, 13, 45, 46, 47, 48, 49, 50, 51, 52, 53, 54, 55, 56, 57, 58, 59, 60, 61, 62, 63, 64, 65, 66, 67, 68, 69, 70, 71, 72, 73, 74, 75, 76, 77, 78, 79, 80, 81, 82, 83] (by decide +kernel) (by decide +kernel)
set_option maxRecDepth 20000 in
theorem gX5_seeks_X5_orders : GoodIn wsX5_seeks (wsV RX5 217 RX5 yX5_orders wsX5_orders) := goodIn_app (goodIn_of _ (by decide +kernel)) ggX5_seeks_X5_orders
theorem dX5_seeks_0 : decode cX5_seeks 0 = .ok (.aload_n 0, 1) := by decide +kernel
theorem dX5_seeks_1 : decode cX5_seeks 1 = .ok (.invokevirtual 214, 3) := by decide +kernel
theorem dX5_seeks_4 : decode cX5_seeks 4 = .ok (.aload_n 0, 1) := by decide +kernel
theorem dX5_seeks_5 : decode cX5_seeks 5 = .ok (.invokevirtual 217, 3) := by decide +kernel
theorem dX5_seeks_8 : decode cX5_seeks 8 = .ok (.return_, 1) := by decide +kernel
set_option maxRecDepth 20000 in
theorem ggX5_best_X5_seeks : GoodIn wsX5_best wsX5_seeks := goodIn_r _ [9, 10, 11, 12, 8, 13, 2, 14, 15, 16, 17, 18, 19, 20, 21, 22, 23, 24, 25, 26, 27, 28, 29, 30, 31, 32, 33, 34, 35, 36, 1, 3, 37, 38, 39, 40, 41, 42, 43, 44, 45, 46, 47, 48, 49, 50, 51, 52, 53, 54, 4, 55, 56, 57, 58, 59, 60, 61, 62, 63, 64, 65, 66, 67, 68, 69, 70, 71, 72, 73, 74, 75, 76, 77, 78, 79, 80, 81, 82, 83, 84, 85, 86, 87] (by decide +kernel) (by decide +kernel)
set_option maxRecDepth 20000 in
theorem gX5_best_X5_seeks : GoodIn wsX5_best (wsV RX5 220 RX5 yX5_seeks wsX5_seeks) := goodIn_app (goodIn_of _ (by decide +kernel)) ggX5_best_X5_seeks
theorem dX5_best_0 : decode cX5_best 0 = .ok (.iload_n 1, 1) := by decide +kernel
theorem dX5_best_1 : decode cX5_best 1 = .ok (.bipush (-2), 2) := by decide +kernel
theorem dX5_best_3 : decode cX5_best 3 = .ok (.if_icmp .ge 5, 3) := by decide +kernel
theorem dX5_best_6 : decode cX5_best 6 = .ok (.iconst (-1), 1) := by decide +kernel
theorem dX5_best_7 : decode cX5_best 7 = .ok (.ireturn, 1) := by decide +kernel
theorem dX5_best_8 : decode cX5_best 8 = .ok (.aload_n 0, 1) := by decide +kernel
theorem dX5_best_9 : decode cX5_best 9 = .ok (.invokevirtual 220, 3) := by decide +kernel
theorem dX5_best_12 : decode cX5_best 12 = .ok (.aload_n 0, 1) := by decide +kernel
theorem dX5_best_13 : decode cX5_best 13 = .ok (.getfield 192, 3) := by decide +kernel
theorem dX5_best_16 : decode cX5_best 16 = .ok (.ifCond .eq 11, 3) := by decide +kernel
theorem dX5_best_19 : decode cX5_best 19 = .ok (.iload_n 1, 1) := by decide +kernel
theorem dX5_best_20 : decode cX5_best 20 = .ok (.aload_n 0, 1) := by decide +kernel
theorem dX5_best_21 : decode cX5_best 21 = .ok (.getfield 186, 3) := by decide +kernel
theorem dX5_best_24 : decode cX5_best 24 = .ok (.if_icmp .lt 8, 3) := by decide +kernel
theorem dX5_best_27 : decode cX5_best 27 = .ok (.bipush (-4), 2) := by decide +kernel
theorem dX5_best_29 : decode cX5_best 29 = .ok (.goto 34, 3) := by decide +kernel
theorem dX5_best_32 : decode cX5_best 32 = .ok (.iload_n 1, 1) := by decide +kernel
theorem dX5_best_33 : decode cX5_best 33 = .ok (.bipush (-2), 2) := by decide +kernel
theorem dX5_best_35 : decode cX5_best 35 = .ok (.if_icmp .ne 10, 3) := by decide +kernel
theorem dX5_best_38 : decode cX5_best 38 = .ok (.aload_n 0, 1) := by decide +kernel
theorem dX5_best_39 : decode cX5_best 39 = .ok (.getfield 192, 3) := by decide +kernel
theorem dX5_best_42 : decode cX5_best 42 = .ok (.goto 21, 3) := by decide +kernel
theorem dX5_best_45 : decode cX5_best 45 = .ok (.iload_n 1, 1) := by decide +kernel
theorem dX5_best_46 : decode cX5_best 46 = .ok (.iconst (-1), 1) := by decide +kernel
theorem dX5_best_47 : decode cX5_best 47 = .ok (.if_icmp .ne 10, 3) := by decide +kernel
theorem dX5_best_50 : decode cX5_best 50 = .ok (.aload_n 0, 1) := by decide +kernel
theorem dX5_best_51 : decode cX5_best 51 = .ok (.getfield 195, 3) := by decide +kernel
theorem dX5_best_54 : decode cX5_best 54 = .ok (.goto 9, 3) := by decide +kernel
theorem dX5_best_57 : decode cX5_best 57 = .ok (.aload_n 0, 1) := by decide +kernel
theorem dX5_best_58 : decode cX5_best 58 = .ok (.getfield 56, 3) := by decide +kernel
theorem dX5_best_61 : decode cX5_best 61 = .ok (.iload_n 1, 1) := by decide +kernel
theorem dX5_best_62 : decode cX5_best 62 = .ok (.iaload, 1) := by decide +kernel
theorem dX5_best_63 : decode cX5_best 63 = .ok (.ireturn, 1) := by decide +kernel
set_option maxRecDepth 20000 in
theorem ggX5_sure_X5_areTwo : GoodIn wsX5_sure wsX5_areTwo := goodIn_r _ [7, 8, 9, 10, 6, 11, 12, 13, 14, 15, 16, 17, 18, 19, 20, 21, 71, 72, 73, 74, 75, 76, 77, 78, 79, 80, 81, 82, 83, 84, 85, 86, 87, 88, 89, 90, 91, 92, 93, 94, 95, 96, 97, 98, 99] (by decide +kernel) (by decide +kernel)
set_option maxRecDepth 20000 in
theorem gX5_sure_X5_areTwo : GoodIn wsX5_sure (wsV RX5 164 RX5 yX5_areTwo wsX5_areTwo) := goodIn_app (goodIn_of _ (by decide +kernel)) ggX5_sure_X5_areTwo
set_option maxRecDepth 20000 in
theorem ggX5_sure_X5_seeks : GoodIn wsX5_sure wsX5_seeks := goodIn_r _ [25, 26, 27, 28, 6, 29, 30, 31, 32, 33, 34, 35, 36, 37, 38, 16, 17, 18, 19, 20, 21, 39, 40, 41, 42, 43, 44, 45, 46, 47, 1, 48, 49, 50, 51, 52, 53, 54, 55, 56, 57, 58, 59, 60, 61, 62, 63, 64, 65, 2, 66, 67, 68, 69, 70, 71, 72, 73, 74, 75, 76, 77, 78, 79, 80, 81, 82, 83, 84, 85, 86, 87, 88, 89, 90, 91, 92, 93, 94, 95, 96, 97, 98, 99] (by decide +kernel) (by decide +kernel)
set_option maxRecDepth 20000 in
theorem gX5_sure_X5_seeks : GoodIn wsX5_sure (wsV RX5 220 RX5 yX5_seeks wsX5_seeks) := goodIn_app (goodIn_of _ (by decide +kernel)) ggX5_sure_X5_seeks
theorem dX5_sure_0 : decode cX5_sure 0 = .ok (.aload_n 0, 1) := by decide +kernel
theorem dX5_sure_1 : decode cX5_sure 1 = .ok (.iload_n 1, 1) := by decide +kernel
theorem dX5_sure_2 : decode cX5_sure 2 = .ok (.iload_n 2, 1) := by decide +kernel
theorem dX5_sure_3 : decode cX5_sure 3 = .ok (.invokevirtual 164, 3) := by decide +kernel
theorem dX5_sure_6 : decode cX5_sure 6 = .ok (.ifCond .ne 5, 3) := by decide +kernel
theorem dX5_sure_9 : decode cX5_sure 9 = .ok (.iconst (-1), 1) := by decide +kernel
theorem dX5_sure_10 : decode cX5_sure 10 = .ok (.ireturn, 1) := by decide +kernel
theorem dX5_sure_11 : decode cX5_sure 11 = .ok (.aload_n 0, 1) := by decide +kernel
theorem dX5_sure_12 : decode cX5_sure 12 = .ok (.invokevirtual 220, 3) := by decide +kernel
theorem dX5_sure_15 : decode cX5_sure 15 = .ok (.aload_n 0, 1) := by decide +kernel
theorem dX5_sure_16 : decode cX5_sure 16 = .ok (.getfield 192, 3) := by decide +kernel
theorem dX5_sure_19 : decode cX5_sure 19 = .ok (.ifCond .ne 6, 3) := by decide +kernel
theorem dX5_sure_22 : decode cX5_sure 22 = .ok (.bipush (-4), 2) := by decide +kernel
theorem dX5_sure_24 : decode cX5_sure 24 = .ok (.ireturn, 1) := by decide +kernel
theorem dX5_sure_25 : decode cX5_sure 25 = .ok (.aload_n 0, 1) := by decide +kernel
theorem dX5_sure_26 : decode cX5_sure 26 = .ok (.getfield 59, 3) := by decide +kernel
theorem dX5_sure_29 : decode cX5_sure 29 = .ok (.iload_n 2, 1) := by decide +kernel
theorem dX5_sure_30 : decode cX5_sure 30 = .ok (.iaload, 1) := by decide +kernel
theorem dX5_sure_31 : decode cX5_sure 31 = .ok (.iload_n 1, 1) := by decide +kernel
theorem dX5_sure_32 : decode cX5_sure 32 = .ok (.ishr, 1) := by decide +kernel
theorem dX5_sure_33 : decode cX5_sure 33 = .ok (.iconst 1, 1) := by decide +kernel
theorem dX5_sure_34 : decode cX5_sure 34 = .ok (.iand, 1) := by decide +kernel
theorem dX5_sure_35 : decode cX5_sure 35 = .ok (.iconst 1, 1) := by decide +kernel
theorem dX5_sure_36 : decode cX5_sure 36 = .ok (.if_icmp .ne 7, 3) := by decide +kernel
theorem dX5_sure_39 : decode cX5_sure 39 = .ok (.iconst 1, 1) := by decide +kernel
theorem dX5_sure_40 : decode cX5_sure 40 = .ok (.goto 4, 3) := by decide +kernel
theorem dX5_sure_43 : decode cX5_sure 43 = .ok (.iconst 0, 1) := by decide +kernel
theorem dX5_sure_44 : decode cX5_sure 44 = .ok (.istore_n 3, 1) := by decide +kernel
theorem dX5_sure_45 : decode cX5_sure 45 = .ok (.aload_n 0, 1) := by decide +kernel
theorem dX5_sure_46 : decode cX5_sure 46 = .ok (.getfield 59, 3) := by decide +kernel
theorem dX5_sure_49 : decode cX5_sure 49 = .ok (.iload_n 1, 1) := by decide +kernel
theorem dX5_sure_50 : decode cX5_sure 50 = .ok (.iaload, 1) := by decide +kernel
theorem dX5_sure_51 : decode cX5_sure 51 = .ok (.iload_n 2, 1) := by decide +kernel
theorem dX5_sure_52 : decode cX5_sure 52 = .ok (.ishr, 1) := by decide +kernel
theorem dX5_sure_53 : decode cX5_sure 53 = .ok (.iconst 1, 1) := by decide +kernel
theorem dX5_sure_54 : decode cX5_sure 54 = .ok (.iand, 1) := by decide +kernel
theorem dX5_sure_55 : decode cX5_sure 55 = .ok (.iconst 1, 1) := by decide +kernel
theorem dX5_sure_56 : decode cX5_sure 56 = .ok (.if_icmp .ne 7, 3) := by decide +kernel
theorem dX5_sure_59 : decode cX5_sure 59 = .ok (.iconst 1, 1) := by decide +kernel
theorem dX5_sure_60 : decode cX5_sure 60 = .ok (.goto 4, 3) := by decide +kernel
theorem dX5_sure_63 : decode cX5_sure 63 = .ok (.iconst 0, 1) := by decide +kernel
theorem dX5_sure_64 : decode cX5_sure 64 = .ok (.istore 4, 2) := by decide +kernel
theorem dX5_sure_66 : decode cX5_sure 66 = .ok (.iload 4, 2) := by decide +kernel
theorem dX5_sure_68 : decode cX5_sure 68 = .ok (.ifCond .ne 7, 3) := by decide +kernel
theorem dX5_sure_71 : decode cX5_sure 71 = .ok (.iconst 1, 1) := by decide +kernel
theorem dX5_sure_72 : decode cX5_sure 72 = .ok (.goto 12, 3) := by decide +kernel
theorem dX5_sure_75 : decode cX5_sure 75 = .ok (.iload_n 3, 1) := by decide +kernel
theorem dX5_sure_76 : decode cX5_sure 76 = .ok (.ifCond .ne 7, 3) := by decide +kernel
theorem dX5_sure_79 : decode cX5_sure 79 = .ok (.iconst 2, 1) := by decide +kernel
theorem dX5_sure_80 : decode cX5_sure 80 = .ok (.goto 4, 3) := by decide +kernel
theorem dX5_sure_83 : decode cX5_sure 83 = .ok (.iconst 0, 1) := by decide +kernel
theorem dX5_sure_84 : decode cX5_sure 84 = .ok (.ireturn, 1) := by decide +kernel
theorem dX5_upTo_0 : decode cX5_upTo 0 = .ok (.iconst 0, 1) := by decide +kernel
theorem dX5_upTo_1 : decode cX5_upTo 1 = .ok (.istore_n 2, 1) := by decide +kernel
theorem dX5_upTo_2 : decode cX5_upTo 2 = .ok (.iconst 0, 1) := by decide +kernel
theorem dX5_upTo_3 : decode cX5_upTo 3 = .ok (.istore_n 3, 1) := by decide +kernel
theorem dX5_upTo_4 : decode cX5_upTo 4 = .ok (.iload_n 3, 1) := by decide +kernel
theorem dX5_upTo_5 : decode cX5_upTo 5 = .ok (.iload_n 1, 1) := by decide +kernel
theorem dX5_upTo_6 : decode cX5_upTo 6 = .ok (.if_icmp .gt 20, 3) := by decide +kernel
theorem dX5_upTo_9 : decode cX5_upTo 9 = .ok (.iload_n 2, 1) := by decide +kernel
theorem dX5_upTo_10 : decode cX5_upTo 10 = .ok (.iconst 1, 1) := by decide +kernel
theorem dX5_upTo_11 : decode cX5_upTo 11 = .ok (.aload_n 0, 1) := by decide +kernel
theorem dX5_upTo_12 : decode cX5_upTo 12 = .ok (.getfield 56, 3) := by decide +kernel
theorem dX5_upTo_15 : decode cX5_upTo 15 = .ok (.iload_n 3, 1) := by decide +kernel
theorem dX5_upTo_16 : decode cX5_upTo 16 = .ok (.iaload, 1) := by decide +kernel
theorem dX5_upTo_17 : decode cX5_upTo 17 = .ok (.ishl, 1) := by decide +kernel
theorem dX5_upTo_18 : decode cX5_upTo 18 = .ok (.ior, 1) := by decide +kernel
theorem dX5_upTo_19 : decode cX5_upTo 19 = .ok (.istore_n 2, 1) := by decide +kernel
theorem dX5_upTo_20 : decode cX5_upTo 20 = .ok (.iinc 3 1, 3) := by decide +kernel
theorem dX5_upTo_23 : decode cX5_upTo 23 = .ok (.goto (-19), 3) := by decide +kernel
theorem dX5_upTo_26 : decode cX5_upTo 26 = .ok (.iload_n 2, 1) := by decide +kernel
theorem dX5_upTo_27 : decode cX5_upTo 27 = .ok (.ireturn, 1) := by decide +kernel
set_option maxRecDepth 20000 in
theorem ggX5_seamOf_X5_upTo : GoodIn wsX5_seamOf wsX5_upTo := goodIn_r _ [9, 3, 10, 11, 12, 13, 14, 15, 16, 17, 18, 19, 20, 21, 22, 23, 24, 25, 26, 27, 28, 29, 30, 31, 32, 33, 34, 35, 36, 37, 38] (by decide +kernel) (by decide +kernel)
set_option maxRecDepth 20000 in
theorem gX5_seamOf_X5_upTo : GoodIn wsX5_seamOf (wsV RX5 223 RX5 yX5_upTo wsX5_upTo) := goodIn_app (goodIn_of _ (by decide +kernel)) ggX5_seamOf_X5_upTo
theorem dX5_seamOf_0 : decode cX5_seamOf 0 = .ok (.aload_n 0, 1) := by decide +kernel
theorem dX5_seamOf_1 : decode cX5_seamOf 1 = .ok (.iload_n 1, 1) := by decide +kernel
theorem dX5_seamOf_2 : decode cX5_seamOf 2 = .ok (.invokevirtual 223, 3) := by decide +kernel
theorem dX5_seamOf_5 : decode cX5_seamOf 5 = .ok (.istore 4, 2) := by decide +kernel
theorem dX5_seamOf_7 : decode cX5_seamOf 7 = .ok (.iconst 0, 1) := by decide +kernel
theorem dX5_seamOf_8 : decode cX5_seamOf 8 = .ok (.istore 5, 2) := by decide +kernel
theorem dX5_seamOf_10 : decode cX5_seamOf 10 = .ok (.iconst 0, 1) := by decide +kernel
theorem dX5_seamOf_11 : decode cX5_seamOf 11 = .ok (.istore 6, 2) := by decide +kernel
theorem dX5_seamOf_13 : decode cX5_seamOf 13 = .ok (.iload 6, 2) := by decide +kernel
theorem dX5_seamOf_15 : decode cX5_seamOf 15 = .ok (.aload_n 0, 1) := by decide +kernel
theorem dX5_seamOf_16 : decode cX5_seamOf 16 = .ok (.getfield 189, 3) := by decide +kernel
theorem dX5_seamOf_19 : decode cX5_seamOf 19 = .ok (.if_icmp .ge 198, 3) := by decide +kernel
theorem dX5_seamOf_22 : decode cX5_seamOf 22 = .ok (.aload_n 0, 1) := by decide +kernel
theorem dX5_seamOf_23 : decode cX5_seamOf 23 = .ok (.getfield 44, 3) := by decide +kernel
theorem dX5_seamOf_26 : decode cX5_seamOf 26 = .ok (.iload 6, 2) := by decide +kernel
theorem dX5_seamOf_28 : decode cX5_seamOf 28 = .ok (.iaload, 1) := by decide +kernel
theorem dX5_seamOf_29 : decode cX5_seamOf 29 = .ok (.iload 4, 2) := by decide +kernel
theorem dX5_seamOf_31 : decode cX5_seamOf 31 = .ok (.iand, 1) := by decide +kernel
theorem dX5_seamOf_32 : decode cX5_seamOf 32 = .ok (.ifCond .eq 7, 3) := by decide +kernel
theorem dX5_seamOf_35 : decode cX5_seamOf 35 = .ok (.iconst 1, 1) := by decide +kernel
theorem dX5_seamOf_36 : decode cX5_seamOf 36 = .ok (.goto 4, 3) := by decide +kernel
theorem dX5_seamOf_39 : decode cX5_seamOf 39 = .ok (.iconst 0, 1) := by decide +kernel
theorem dX5_seamOf_40 : decode cX5_seamOf 40 = .ok (.istore 7, 2) := by decide +kernel
theorem dX5_seamOf_42 : decode cX5_seamOf 42 = .ok (.aload_n 0, 1) := by decide +kernel
theorem dX5_seamOf_43 : decode cX5_seamOf 43 = .ok (.getfield 44, 3) := by decide +kernel
theorem dX5_seamOf_46 : decode cX5_seamOf 46 = .ok (.iload 6, 2) := by decide +kernel
theorem dX5_seamOf_48 : decode cX5_seamOf 48 = .ok (.iaload, 1) := by decide +kernel
theorem dX5_seamOf_49 : decode cX5_seamOf 49 = .ok (.iload 4, 2) := by decide +kernel
theorem dX5_seamOf_51 : decode cX5_seamOf 51 = .ok (.iconst (-1), 1) := by decide +kernel
theorem dX5_seamOf_52 : decode cX5_seamOf 52 = .ok (.ixor, 1) := by decide +kernel
theorem dX5_seamOf_53 : decode cX5_seamOf 53 = .ok (.iand, 1) := by decide +kernel
theorem dX5_seamOf_54 : decode cX5_seamOf 54 = .ok (.ifCond .eq 7, 3) := by decide +kernel
theorem dX5_seamOf_57 : decode cX5_seamOf 57 = .ok (.iconst 1, 1) := by decide +kernel
theorem dX5_seamOf_58 : decode cX5_seamOf 58 = .ok (.goto 4, 3) := by decide +kernel
theorem dX5_seamOf_61 : decode cX5_seamOf 61 = .ok (.iconst 0, 1) := by decide +kernel
theorem dX5_seamOf_62 : decode cX5_seamOf 62 = .ok (.istore 8, 2) := by decide +kernel
theorem dX5_seamOf_64 : decode cX5_seamOf 64 = .ok (.aload_n 0, 1) := by decide +kernel
theorem dX5_seamOf_65 : decode cX5_seamOf 65 = .ok (.getfield 44, 3) := by decide +kernel
theorem dX5_seamOf_68 : decode cX5_seamOf 68 = .ok (.iload 6, 2) := by decide +kernel
theorem dX5_seamOf_70 : decode cX5_seamOf 70 = .ok (.iaload, 1) := by decide +kernel
theorem dX5_seamOf_71 : decode cX5_seamOf 71 = .ok (.aload_n 0, 1) := by decide +kernel
theorem dX5_seamOf_72 : decode cX5_seamOf 72 = .ok (.getfield 56, 3) := by decide +kernel
theorem dX5_seamOf_75 : decode cX5_seamOf 75 = .ok (.iload_n 1, 1) := by decide +kernel
theorem dX5_seamOf_76 : decode cX5_seamOf 76 = .ok (.iaload, 1) := by decide +kernel
theorem dX5_seamOf_77 : decode cX5_seamOf 77 = .ok (.ishr, 1) := by decide +kernel
theorem dX5_seamOf_78 : decode cX5_seamOf 78 = .ok (.iconst 1, 1) := by decide +kernel
theorem dX5_seamOf_79 : decode cX5_seamOf 79 = .ok (.iand, 1) := by decide +kernel
theorem dX5_seamOf_80 : decode cX5_seamOf 80 = .ok (.iconst 1, 1) := by decide +kernel
theorem dX5_seamOf_81 : decode cX5_seamOf 81 = .ok (.if_icmp .ne 7, 3) := by decide +kernel
theorem dX5_seamOf_84 : decode cX5_seamOf 84 = .ok (.iconst 1, 1) := by decide +kernel
theorem dX5_seamOf_85 : decode cX5_seamOf 85 = .ok (.goto 4, 3) := by decide +kernel
theorem dX5_seamOf_88 : decode cX5_seamOf 88 = .ok (.iconst 0, 1) := by decide +kernel
theorem dX5_seamOf_89 : decode cX5_seamOf 89 = .ok (.istore 9, 2) := by decide +kernel
theorem dX5_seamOf_91 : decode cX5_seamOf 91 = .ok (.aload_n 0, 1) := by decide +kernel
theorem dX5_seamOf_92 : decode cX5_seamOf 92 = .ok (.getfield 44, 3) := by decide +kernel
theorem dX5_seamOf_95 : decode cX5_seamOf 95 = .ok (.iload 6, 2) := by decide +kernel
theorem dX5_seamOf_97 : decode cX5_seamOf 97 = .ok (.iaload, 1) := by decide +kernel
theorem dX5_seamOf_98 : decode cX5_seamOf 98 = .ok (.aload_n 0, 1) := by decide +kernel
theorem dX5_seamOf_99 : decode cX5_seamOf 99 = .ok (.getfield 56, 3) := by decide +kernel
theorem dX5_seamOf_102 : decode cX5_seamOf 102 = .ok (.iload_n 1, 1) := by decide +kernel
theorem dX5_seamOf_103 : decode cX5_seamOf 103 = .ok (.iconst 1, 1) := by decide +kernel
theorem dX5_seamOf_104 : decode cX5_seamOf 104 = .ok (.iadd, 1) := by decide +kernel
theorem dX5_seamOf_105 : decode cX5_seamOf 105 = .ok (.iaload, 1) := by decide +kernel
theorem dX5_seamOf_106 : decode cX5_seamOf 106 = .ok (.ishr, 1) := by decide +kernel
theorem dX5_seamOf_107 : decode cX5_seamOf 107 = .ok (.iconst 1, 1) := by decide +kernel
theorem dX5_seamOf_108 : decode cX5_seamOf 108 = .ok (.iand, 1) := by decide +kernel
theorem dX5_seamOf_109 : decode cX5_seamOf 109 = .ok (.iconst 1, 1) := by decide +kernel
theorem dX5_seamOf_110 : decode cX5_seamOf 110 = .ok (.if_icmp .ne 7, 3) := by decide +kernel
theorem dX5_seamOf_113 : decode cX5_seamOf 113 = .ok (.iconst 1, 1) := by decide +kernel
theorem dX5_seamOf_114 : decode cX5_seamOf 114 = .ok (.goto 4, 3) := by decide +kernel
theorem dX5_seamOf_117 : decode cX5_seamOf 117 = .ok (.iconst 0, 1) := by decide +kernel
theorem dX5_seamOf_118 : decode cX5_seamOf 118 = .ok (.istore 10, 2) := by decide +kernel
theorem dX5_seamOf_120 : decode cX5_seamOf 120 = .ok (.iload_n 2, 1) := by decide +kernel
theorem dX5_seamOf_121 : decode cX5_seamOf 121 = .ok (.ifCond .ne 21, 3) := by decide +kernel
theorem dX5_seamOf_124 : decode cX5_seamOf 124 = .ok (.iload 7, 2) := by decide +kernel
theorem dX5_seamOf_126 : decode cX5_seamOf 126 = .ok (.ifCond .eq 12, 3) := by decide +kernel
theorem dX5_seamOf_129 : decode cX5_seamOf 129 = .ok (.iload 8, 2) := by decide +kernel
theorem dX5_seamOf_131 : decode cX5_seamOf 131 = .ok (.ifCond .eq 7, 3) := by decide +kernel
theorem dX5_seamOf_134 : decode cX5_seamOf 134 = .ok (.iconst 1, 1) := by decide +kernel
theorem dX5_seamOf_135 : decode cX5_seamOf 135 = .ok (.goto 45, 3) := by decide +kernel
theorem dX5_seamOf_138 : decode cX5_seamOf 138 = .ok (.iconst 0, 1) := by decide +kernel
theorem dX5_seamOf_139 : decode cX5_seamOf 139 = .ok (.goto 41, 3) := by decide +kernel
theorem dX5_seamOf_142 : decode cX5_seamOf 142 = .ok (.iload_n 2, 1) := by decide +kernel
theorem dX5_seamOf_143 : decode cX5_seamOf 143 = .ok (.iconst 1, 1) := by decide +kernel
theorem dX5_seamOf_144 : decode cX5_seamOf 144 = .ok (.if_icmp .ne 21, 3) := by decide +kernel
theorem dX5_seamOf_147 : decode cX5_seamOf 147 = .ok (.iload 9, 2) := by decide +kernel
theorem dX5_seamOf_149 : decode cX5_seamOf 149 = .ok (.ifCond .eq 12, 3) := by decide +kernel
theorem dX5_seamOf_152 : decode cX5_seamOf 152 = .ok (.iload 8, 2) := by decide +kernel
theorem dX5_seamOf_154 : decode cX5_seamOf 154 = .ok (.ifCond .ne 7, 3) := by decide +kernel
theorem dX5_seamOf_157 : decode cX5_seamOf 157 = .ok (.iconst 1, 1) := by decide +kernel
theorem dX5_seamOf_158 : decode cX5_seamOf 158 = .ok (.goto 22, 3) := by decide +kernel
theorem dX5_seamOf_161 : decode cX5_seamOf 161 = .ok (.iconst 0, 1) := by decide +kernel
theorem dX5_seamOf_162 : decode cX5_seamOf 162 = .ok (.goto 18, 3) := by decide +kernel
theorem dX5_seamOf_165 : decode cX5_seamOf 165 = .ok (.iload 10, 2) := by decide +kernel
theorem dX5_seamOf_167 : decode cX5_seamOf 167 = .ok (.ifCond .eq 12, 3) := by decide +kernel
theorem dX5_seamOf_170 : decode cX5_seamOf 170 = .ok (.iload 7, 2) := by decide +kernel
theorem dX5_seamOf_172 : decode cX5_seamOf 172 = .ok (.ifCond .ne 7, 3) := by decide +kernel
theorem dX5_seamOf_175 : decode cX5_seamOf 175 = .ok (.iconst 1, 1) := by decide +kernel
theorem dX5_seamOf_176 : decode cX5_seamOf 176 = .ok (.goto 4, 3) := by decide +kernel
theorem dX5_seamOf_179 : decode cX5_seamOf 179 = .ok (.iconst 0, 1) := by decide +kernel
theorem dX5_seamOf_180 : decode cX5_seamOf 180 = .ok (.istore 11, 2) := by decide +kernel
theorem dX5_seamOf_182 : decode cX5_seamOf 182 = .ok (.iload 5, 2) := by decide +kernel
theorem dX5_seamOf_184 : decode cX5_seamOf 184 = .ok (.iload 11, 2) := by decide +kernel
theorem dX5_seamOf_186 : decode cX5_seamOf 186 = .ok (.ifCond .eq 21, 3) := by decide +kernel
theorem dX5_seamOf_189 : decode cX5_seamOf 189 = .ok (.iload_n 3, 1) := by decide +kernel
theorem dX5_seamOf_190 : decode cX5_seamOf 190 = .ok (.ifCond .eq 13, 3) := by decide +kernel
theorem dX5_seamOf_193 : decode cX5_seamOf 193 = .ok (.aload_n 0, 1) := by decide +kernel
theorem dX5_seamOf_194 : decode cX5_seamOf 194 = .ok (.getfield 47, 3) := by decide +kernel
theorem dX5_seamOf_197 : decode cX5_seamOf 197 = .ok (.iload 6, 2) := by decide +kernel
theorem dX5_seamOf_199 : decode cX5_seamOf 199 = .ok (.iaload, 1) := by decide +kernel
theorem dX5_seamOf_200 : decode cX5_seamOf 200 = .ok (.goto 8, 3) := by decide +kernel
theorem dX5_seamOf_203 : decode cX5_seamOf 203 = .ok (.iconst 1, 1) := by decide +kernel
theorem dX5_seamOf_204 : decode cX5_seamOf 204 = .ok (.goto 4, 3) := by decide +kernel
theorem dX5_seamOf_207 : decode cX5_seamOf 207 = .ok (.iconst 0, 1) := by decide +kernel
theorem dX5_seamOf_208 : decode cX5_seamOf 208 = .ok (.iadd, 1) := by decide +kernel
theorem dX5_seamOf_209 : decode cX5_seamOf 209 = .ok (.istore 5, 2) := by decide +kernel
theorem dX5_seamOf_211 : decode cX5_seamOf 211 = .ok (.iinc 6 1, 3) := by decide +kernel
theorem dX5_seamOf_214 : decode cX5_seamOf 214 = .ok (.goto (-201), 3) := by decide +kernel
theorem dX5_seamOf_217 : decode cX5_seamOf 217 = .ok (.iload 5, 2) := by decide +kernel
theorem dX5_seamOf_219 : decode cX5_seamOf 219 = .ok (.ireturn, 1) := by decide +kernel
set_option maxRecDepth 20000 in
theorem ggX5_seam_X5_seeks : GoodIn wsX5_seam wsX5_seeks := goodIn_r _ [8, 9, 10, 11, 7, 12, 1, 13, 14, 15, 16, 17, 18, 19, 20, 21, 22, 23, 24, 25, 26, 27, 28, 29, 30, 31, 32, 33, 34, 35, 3, 36, 37, 38, 39, 40, 41, 42, 43, 44, 45, 46, 47, 48, 49, 50, 51, 52, 53, 54, 55, 56, 57, 58, 59, 71, 72, 73, 74, 75, 76, 77, 78, 79, 80, 81, 82, 83, 84, 85, 86, 87, 88, 89, 90, 91, 92, 93, 94, 95, 96, 97, 98, 99] (by decide +kernel) (by decide +kernel)
set_option maxRecDepth 20000 in
theorem gX5_seam_X5_seeks : GoodIn wsX5_seam (wsV RX5 220 RX5 yX5_seeks wsX5_seeks) := goodIn_app (goodIn_of _ (by decide +kernel)) ggX5_seam_X5_seeks
set_option maxRecDepth 20000 in
theorem ggX5_seam_X5_between : GoodIn wsX5_seam wsX5_between := goodIn_r _ [62] (by decide +kernel) (by decide +kernel)
set_option maxRecDepth 20000 in
theorem gX5_seam_X5_between : GoodIn wsX5_seam (va_wsS RX5 74 yX5_between wsX5_between) := goodIn_app (goodIn_of _ (by decide +kernel)) ggX5_seam_X5_between
set_option maxRecDepth 20000 in
theorem ggX5_seam_X5_seamOf : GoodIn wsX5_seam wsX5_seamOf := goodIn_r _ [66, 17, 18, 55, 19, 67, 68, 69, 7, 70, 71, 72, 73, 74, 75, 76, 77, 78, 79, 80, 81, 82, 83, 84, 85, 86, 87, 88, 89, 90, 91, 92, 93, 94, 95, 96, 97, 98, 99] (by decide +kernel) (by decide +kernel)
set_option maxRecDepth 20000 in
theorem gX5_seam_X5_seamOf : GoodIn wsX5_seam (wsV RX5 226 RX5 yX5_seamOf wsX5_seamOf) := goodIn_app (goodIn_of _ (by decide +kernel)) ggX5_seam_X5_seamOf
theorem dX5_seam_0 : decode cX5_seam 0 = .ok (.aload_n 0, 1) := by decide +kernel
theorem dX5_seam_1 : decode cX5_seam 1 = .ok (.invokevirtual 220, 3) := by decide +kernel
theorem dX5_seam_4 : decode cX5_seam 4 = .ok (.iload_n 1, 1) := by decide +kernel
theorem dX5_seam_5 : decode cX5_seam 5 = .ok (.i2l, 1) := by decide +kernel
theorem dX5_seam_6 : decode cX5_seam 6 = .ok (.lconst 0, 1) := by decide +kernel
theorem dX5_seam_7 : decode cX5_seam 7 = .ok (.aload_n 0, 1) := by decide +kernel
theorem dX5_seam_8 : decode cX5_seam 8 = .ok (.getfield 186, 3) := by decide +kernel
theorem dX5_seam_11 : decode cX5_seam 11 = .ok (.iconst 2, 1) := by decide +kernel
theorem dX5_seam_12 : decode cX5_seam 12 = .ok (.isub, 1) := by decide +kernel
theorem dX5_seam_13 : decode cX5_seam 13 = .ok (.i2l, 1) := by decide +kernel
theorem dX5_seam_14 : decode cX5_seam 14 = .ok (.invokestatic 74, 3) := by decide +kernel
theorem dX5_seam_17 : decode cX5_seam 17 = .ok (.ifCond .eq 15, 3) := by decide +kernel
theorem dX5_seam_20 : decode cX5_seam 20 = .ok (.iload_n 2, 1) := by decide +kernel
theorem dX5_seam_21 : decode cX5_seam 21 = .ok (.i2l, 1) := by decide +kernel
theorem dX5_seam_22 : decode cX5_seam 22 = .ok (.lconst 0, 1) := by decide +kernel
theorem dX5_seam_23 : decode cX5_seam 23 = .ok (.ldc2_w 174, 3) := by decide +kernel
theorem dX5_seam_26 : decode cX5_seam 26 = .ok (.invokestatic 74, 3) := by decide +kernel
theorem dX5_seam_29 : decode cX5_seam 29 = .ok (.ifCond .ne 5, 3) := by decide +kernel
theorem dX5_seam_32 : decode cX5_seam 32 = .ok (.iconst (-1), 1) := by decide +kernel
theorem dX5_seam_33 : decode cX5_seam 33 = .ok (.ireturn, 1) := by decide +kernel
theorem dX5_seam_34 : decode cX5_seam 34 = .ok (.aload_n 0, 1) := by decide +kernel
theorem dX5_seam_35 : decode cX5_seam 35 = .ok (.getfield 192, 3) := by decide +kernel
theorem dX5_seam_38 : decode cX5_seam 38 = .ok (.ifCond .ne 8, 3) := by decide +kernel
theorem dX5_seam_41 : decode cX5_seam 41 = .ok (.bipush (-4), 2) := by decide +kernel
theorem dX5_seam_43 : decode cX5_seam 43 = .ok (.goto 10, 3) := by decide +kernel
theorem dX5_seam_46 : decode cX5_seam 46 = .ok (.aload_n 0, 1) := by decide +kernel
theorem dX5_seam_47 : decode cX5_seam 47 = .ok (.iload_n 1, 1) := by decide +kernel
theorem dX5_seam_48 : decode cX5_seam 48 = .ok (.iload_n 2, 1) := by decide +kernel
theorem dX5_seam_49 : decode cX5_seam 49 = .ok (.iconst 0, 1) := by decide +kernel
theorem dX5_seam_50 : decode cX5_seam 50 = .ok (.invokevirtual 226, 3) := by decide +kernel
theorem dX5_seam_53 : decode cX5_seam 53 = .ok (.ireturn, 1) := by decide +kernel
set_option maxRecDepth 20000 in
theorem ggX5_pause_X5_seeks : GoodIn wsX5_pause wsX5_seeks := goodIn_r _ [7, 8, 9, 10, 6, 11, 1, 12, 13, 14, 15, 16, 17, 18, 19, 20, 21, 22, 23, 24, 25, 26, 27, 28, 29, 30, 31, 32, 33, 34, 2, 35, 36, 37, 38, 39, 40, 41, 42, 43, 44, 45, 46, 47, 48, 49, 50, 51, 52, 53, 54, 55, 56, 57, 58, 67, 68, 69, 70, 71, 72, 73, 74, 75, 76, 77, 78, 79, 80, 81, 82, 83, 84, 85, 86, 87, 88, 89, 90, 91, 92, 93, 94, 95] (by decide +kernel) (by decide +kernel)
set_option maxRecDepth 20000 in
theorem gX5_pause_X5_seeks : GoodIn wsX5_pause (wsV RX5 220 RX5 yX5_seeks wsX5_seeks) := goodIn_app (goodIn_of _ (by decide +kernel)) ggX5_pause_X5_seeks
set_option maxRecDepth 20000 in
theorem ggX5_pause_X5_seamOf : GoodIn wsX5_pause wsX5_seamOf := goodIn_r _ [62, 16, 17, 54, 18, 63, 64, 65, 6, 66, 67, 68, 69, 70, 71, 72, 73, 74, 75, 76, 77, 78, 79, 80, 81, 82, 83, 84, 85, 86, 87, 88, 89, 90, 91, 92, 93, 94, 95] (by decide +kernel) (by decide +kernel)
set_option maxRecDepth 20000 in
theorem gX5_pause_X5_seamOf : GoodIn wsX5_pause (wsV RX5 226 RX5 yX5_seamOf wsX5_seamOf) := goodIn_app (goodIn_of _ (by decide +kernel)) ggX5_pause_X5_seamOf
theorem dX5_pause_0 : decode cX5_pause 0 = .ok (.aload_n 0, 1) := by decide +kernel
theorem dX5_pause_1 : decode cX5_pause 1 = .ok (.invokevirtual 220, 3) := by decide +kernel
theorem dX5_pause_4 : decode cX5_pause 4 = .ok (.bipush (-4), 2) := by decide +kernel
theorem dX5_pause_6 : decode cX5_pause 6 = .ok (.istore_n 1, 1) := by decide +kernel
theorem dX5_pause_7 : decode cX5_pause 7 = .ok (.iconst 0, 1) := by decide +kernel
theorem dX5_pause_8 : decode cX5_pause 8 = .ok (.istore_n 2, 1) := by decide +kernel
theorem dX5_pause_9 : decode cX5_pause 9 = .ok (.iload_n 2, 1) := by decide +kernel
theorem dX5_pause_10 : decode cX5_pause 10 = .ok (.aload_n 0, 1) := by decide +kernel
theorem dX5_pause_11 : decode cX5_pause 11 = .ok (.getfield 186, 3) := by decide +kernel
theorem dX5_pause_14 : decode cX5_pause 14 = .ok (.iconst 1, 1) := by decide +kernel
theorem dX5_pause_15 : decode cX5_pause 15 = .ok (.isub, 1) := by decide +kernel
theorem dX5_pause_16 : decode cX5_pause 16 = .ok (.if_icmp .ge 43, 3) := by decide +kernel
theorem dX5_pause_19 : decode cX5_pause 19 = .ok (.aload_n 0, 1) := by decide +kernel
theorem dX5_pause_20 : decode cX5_pause 20 = .ok (.getfield 192, 3) := by decide +kernel
theorem dX5_pause_23 : decode cX5_pause 23 = .ok (.ifCond .le 36, 3) := by decide +kernel
theorem dX5_pause_26 : decode cX5_pause 26 = .ok (.iload_n 1, 1) := by decide +kernel
theorem dX5_pause_27 : decode cX5_pause 27 = .ok (.ifCond .lt 20, 3) := by decide +kernel
theorem dX5_pause_30 : decode cX5_pause 30 = .ok (.aload_n 0, 1) := by decide +kernel
theorem dX5_pause_31 : decode cX5_pause 31 = .ok (.iload_n 2, 1) := by decide +kernel
theorem dX5_pause_32 : decode cX5_pause 32 = .ok (.iconst 0, 1) := by decide +kernel
theorem dX5_pause_33 : decode cX5_pause 33 = .ok (.iconst 1, 1) := by decide +kernel
theorem dX5_pause_34 : decode cX5_pause 34 = .ok (.invokevirtual 226, 3) := by decide +kernel
theorem dX5_pause_37 : decode cX5_pause 37 = .ok (.aload_n 0, 1) := by decide +kernel
theorem dX5_pause_38 : decode cX5_pause 38 = .ok (.iload_n 1, 1) := by decide +kernel
theorem dX5_pause_39 : decode cX5_pause 39 = .ok (.iconst 0, 1) := by decide +kernel
theorem dX5_pause_40 : decode cX5_pause 40 = .ok (.iconst 1, 1) := by decide +kernel
theorem dX5_pause_41 : decode cX5_pause 41 = .ok (.invokevirtual 226, 3) := by decide +kernel
theorem dX5_pause_44 : decode cX5_pause 44 = .ok (.if_icmp .ge 7, 3) := by decide +kernel
theorem dX5_pause_47 : decode cX5_pause 47 = .ok (.iload_n 2, 1) := by decide +kernel
theorem dX5_pause_48 : decode cX5_pause 48 = .ok (.goto 4, 3) := by decide +kernel
theorem dX5_pause_51 : decode cX5_pause 51 = .ok (.iload_n 1, 1) := by decide +kernel
theorem dX5_pause_52 : decode cX5_pause 52 = .ok (.istore_n 1, 1) := by decide +kernel
theorem dX5_pause_53 : decode cX5_pause 53 = .ok (.iinc 2 1, 3) := by decide +kernel
theorem dX5_pause_56 : decode cX5_pause 56 = .ok (.goto (-47), 3) := by decide +kernel
theorem dX5_pause_59 : decode cX5_pause 59 = .ok (.iload_n 1, 1) := by decide +kernel
theorem dX5_pause_60 : decode cX5_pause 60 = .ok (.ireturn, 1) := by decide +kernel
set_option maxRecDepth 20000 in
theorem ggX5_next_X5_seeks : GoodIn wsX5_next wsX5_seeks := goodIn_r _ [8, 9, 10, 11, 7, 12, 13, 14, 15, 16, 17, 2, 3, 18, 19, 20, 21, 22, 23, 24, 25, 26, 27, 28, 29, 30, 31, 32, 33, 34, 1, 35, 36, 37, 38, 39, 40, 41, 42, 43, 44, 45, 46, 47, 48, 49, 50, 51, 52, 53, 54, 55, 56, 57, 58, 74, 75, 76, 77, 78, 79, 80, 81, 82, 83, 84, 85, 86, 87, 88, 89, 90, 91, 92, 93, 94, 95, 96, 97, 98, 99, 100, 101, 102] (by decide +kernel) (by decide +kernel)
set_option maxRecDepth 20000 in
theorem gX5_next_X5_seeks : GoodIn wsX5_next (wsV RX5 220 RX5 yX5_seeks wsX5_seeks) := goodIn_app (goodIn_of _ (by decide +kernel)) ggX5_next_X5_seeks
set_option maxRecDepth 20000 in
theorem ggX5_next_X5_isPart : GoodIn wsX5_next wsX5_isPart := goodIn_r _ [62, 63, 64, 65, 7, 66, 20, 21, 22, 23, 24, 25, 74, 75, 76, 77, 78, 79, 80, 81, 82, 83, 84, 85, 86, 87, 88, 89, 90, 91, 92, 93, 94, 95, 96, 97, 98, 99, 100, 101, 102] (by decide +kernel) (by decide +kernel)
set_option maxRecDepth 20000 in
theorem gX5_next_X5_isPart : GoodIn wsX5_next (wsV RX5 158 RX5 yX5_isPart wsX5_isPart) := goodIn_app (goodIn_of _ (by decide +kernel)) ggX5_next_X5_isPart
set_option maxRecDepth 20000 in
theorem ggX5_next_X5_inPart : GoodIn wsX5_next wsX5_inPart := goodIn_r _ [70, 24, 25, 30, 71, 72, 7, 73, 74, 75, 76, 77, 78, 79, 80, 81, 82, 83, 84, 85, 86, 87, 88, 89, 90, 91, 92, 93, 94, 95, 96, 97, 98, 99, 100, 101, 102] (by decide +kernel) (by decide +kernel)
set_option maxRecDepth 20000 in
theorem gX5_next_X5_inPart : GoodIn wsX5_next (wsV RX5 161 RX5 yX5_inPart wsX5_inPart) := goodIn_app (goodIn_of _ (by decide +kernel)) ggX5_next_X5_inPart
set_option maxRecDepth 20000 in
theorem ggX5_next_X5_orders : GoodIn wsX5_next wsX5_orders := goodIn_r _ [34, 1, 35, 36, 37, 38, 7, 39, 13, 40, 16, 41, 42, 43, 44, 14, 45, 46, 47, 48, 2, 3, 18, 49, 50, 51, 52, 53, 54, 55, 56, 57, 58, 74, 75, 76, 77, 78, 79, 80, 81, 82, 83, 84, 85, 86, 87, 88, 89, 90, 91, 92, 93, 94, 95, 96, 97, 98, 99, 100, 101, 102] (by decide +kernel) (by decide +kernel)
set_option maxRecDepth 20000 in
theorem gX5_next_X5_orders : GoodIn wsX5_next (wsV RX5 217 RX5 yX5_orders wsX5_orders) := goodIn_app (goodIn_of _ (by decide +kernel)) ggX5_next_X5_orders
theorem dX5_next_0 : decode cX5_next 0 = .ok (.aload_n 0, 1) := by decide +kernel
theorem dX5_next_1 : decode cX5_next 1 = .ok (.invokevirtual 220, 3) := by decide +kernel
theorem dX5_next_4 : decode cX5_next 4 = .ok (.aload_n 0, 1) := by decide +kernel
theorem dX5_next_5 : decode cX5_next 5 = .ok (.getfield 192, 3) := by decide +kernel
theorem dX5_next_8 : decode cX5_next 8 = .ok (.istore_n 1, 1) := by decide +kernel
theorem dX5_next_9 : decode cX5_next 9 = .ok (.bipush (-4), 2) := by decide +kernel
theorem dX5_next_11 : decode cX5_next 11 = .ok (.istore_n 2, 1) := by decide +kernel
theorem dX5_next_12 : decode cX5_next 12 = .ok (.iconst 0, 1) := by decide +kernel
theorem dX5_next_13 : decode cX5_next 13 = .ok (.istore_n 3, 1) := by decide +kernel
theorem dX5_next_14 : decode cX5_next 14 = .ok (.iconst 0, 1) := by decide +kernel
theorem dX5_next_15 : decode cX5_next 15 = .ok (.istore 4, 2) := by decide +kernel
theorem dX5_next_17 : decode cX5_next 17 = .ok (.iload 4, 2) := by decide +kernel
theorem dX5_next_19 : decode cX5_next 19 = .ok (.bipush 6, 2) := by decide +kernel
theorem dX5_next_21 : decode cX5_next 21 = .ok (.if_icmp .ge 152, 3) := by decide +kernel
theorem dX5_next_24 : decode cX5_next 24 = .ok (.iload_n 1, 1) := by decide +kernel
theorem dX5_next_25 : decode cX5_next 25 = .ok (.ifCond .le 148, 3) := by decide +kernel
theorem dX5_next_28 : decode cX5_next 28 = .ok (.aload_n 0, 1) := by decide +kernel
theorem dX5_next_29 : decode cX5_next 29 = .ok (.iload 4, 2) := by decide +kernel
theorem dX5_next_31 : decode cX5_next 31 = .ok (.invokevirtual 158, 3) := by decide +kernel
theorem dX5_next_34 : decode cX5_next 34 = .ok (.ifCond .eq 133, 3) := by decide +kernel
theorem dX5_next_37 : decode cX5_next 37 = .ok (.aload_n 0, 1) := by decide +kernel
theorem dX5_next_38 : decode cX5_next 38 = .ok (.iload 4, 2) := by decide +kernel
theorem dX5_next_40 : decode cX5_next 40 = .ok (.bipush 99, 2) := by decide +kernel
theorem dX5_next_42 : decode cX5_next 42 = .ok (.invokevirtual 161, 3) := by decide +kernel
theorem dX5_next_45 : decode cX5_next 45 = .ok (.ifCond .le 122, 3) := by decide +kernel
theorem dX5_next_48 : decode cX5_next 48 = .ok (.iconst 0, 1) := by decide +kernel
theorem dX5_next_49 : decode cX5_next 49 = .ok (.istore 5, 2) := by decide +kernel
theorem dX5_next_51 : decode cX5_next 51 = .ok (.iconst 0, 1) := by decide +kernel
theorem dX5_next_52 : decode cX5_next 52 = .ok (.istore 6, 2) := by decide +kernel
theorem dX5_next_54 : decode cX5_next 54 = .ok (.iload 6, 2) := by decide +kernel
theorem dX5_next_56 : decode cX5_next 56 = .ok (.aload_n 0, 1) := by decide +kernel
theorem dX5_next_57 : decode cX5_next 57 = .ok (.getfield 189, 3) := by decide +kernel
theorem dX5_next_60 : decode cX5_next 60 = .ok (.if_icmp .ge 78, 3) := by decide +kernel
theorem dX5_next_63 : decode cX5_next 63 = .ok (.aload_n 0, 1) := by decide +kernel
theorem dX5_next_64 : decode cX5_next 64 = .ok (.getfield 44, 3) := by decide +kernel
theorem dX5_next_67 : decode cX5_next 67 = .ok (.iload 6, 2) := by decide +kernel
theorem dX5_next_69 : decode cX5_next 69 = .ok (.iaload, 1) := by decide +kernel
theorem dX5_next_70 : decode cX5_next 70 = .ok (.iload 4, 2) := by decide +kernel
theorem dX5_next_72 : decode cX5_next 72 = .ok (.ishr, 1) := by decide +kernel
theorem dX5_next_73 : decode cX5_next 73 = .ok (.iconst 1, 1) := by decide +kernel
theorem dX5_next_74 : decode cX5_next 74 = .ok (.iand, 1) := by decide +kernel
theorem dX5_next_75 : decode cX5_next 75 = .ok (.ifCond .ne 57, 3) := by decide +kernel
theorem dX5_next_78 : decode cX5_next 78 = .ok (.aload_n 0, 1) := by decide +kernel
theorem dX5_next_79 : decode cX5_next 79 = .ok (.getfield 44, 3) := by decide +kernel
theorem dX5_next_82 : decode cX5_next 82 = .ok (.iload 6, 2) := by decide +kernel
theorem dX5_next_84 : decode cX5_next 84 = .ok (.dup2, 1) := by decide +kernel
theorem dX5_next_85 : decode cX5_next 85 = .ok (.iaload, 1) := by decide +kernel
theorem dX5_next_86 : decode cX5_next 86 = .ok (.iconst 1, 1) := by decide +kernel
theorem dX5_next_87 : decode cX5_next 87 = .ok (.iload 4, 2) := by decide +kernel
theorem dX5_next_89 : decode cX5_next 89 = .ok (.ishl, 1) := by decide +kernel
theorem dX5_next_90 : decode cX5_next 90 = .ok (.ior, 1) := by decide +kernel
theorem dX5_next_91 : decode cX5_next 91 = .ok (.iastore, 1) := by decide +kernel
theorem dX5_next_92 : decode cX5_next 92 = .ok (.aload_n 0, 1) := by decide +kernel
theorem dX5_next_93 : decode cX5_next 93 = .ok (.invokevirtual 217, 3) := by decide +kernel
theorem dX5_next_96 : decode cX5_next 96 = .ok (.aload_n 0, 1) := by decide +kernel
theorem dX5_next_97 : decode cX5_next 97 = .ok (.getfield 192, 3) := by decide +kernel
theorem dX5_next_100 : decode cX5_next 100 = .ok (.iload 5, 2) := by decide +kernel
theorem dX5_next_102 : decode cX5_next 102 = .ok (.if_icmp .le 10, 3) := by decide +kernel
theorem dX5_next_105 : decode cX5_next 105 = .ok (.aload_n 0, 1) := by decide +kernel
theorem dX5_next_106 : decode cX5_next 106 = .ok (.getfield 192, 3) := by decide +kernel
theorem dX5_next_109 : decode cX5_next 109 = .ok (.goto 5, 3) := by decide +kernel
theorem dX5_next_112 : decode cX5_next 112 = .ok (.iload 5, 2) := by decide +kernel
theorem dX5_next_114 : decode cX5_next 114 = .ok (.istore 5, 2) := by decide +kernel
theorem dX5_next_116 : decode cX5_next 116 = .ok (.aload_n 0, 1) := by decide +kernel
theorem dX5_next_117 : decode cX5_next 117 = .ok (.getfield 44, 3) := by decide +kernel
theorem dX5_next_120 : decode cX5_next 120 = .ok (.iload 6, 2) := by decide +kernel
theorem dX5_next_122 : decode cX5_next 122 = .ok (.dup2, 1) := by decide +kernel
theorem dX5_next_123 : decode cX5_next 123 = .ok (.iaload, 1) := by decide +kernel
theorem dX5_next_124 : decode cX5_next 124 = .ok (.iconst 1, 1) := by decide +kernel
theorem dX5_next_125 : decode cX5_next 125 = .ok (.iload 4, 2) := by decide +kernel
theorem dX5_next_127 : decode cX5_next 127 = .ok (.ishl, 1) := by decide +kernel
theorem dX5_next_128 : decode cX5_next 128 = .ok (.iconst (-1), 1) := by decide +kernel
theorem dX5_next_129 : decode cX5_next 129 = .ok (.ixor, 1) := by decide +kernel
theorem dX5_next_130 : decode cX5_next 130 = .ok (.iand, 1) := by decide +kernel
theorem dX5_next_131 : decode cX5_next 131 = .ok (.iastore, 1) := by decide +kernel
theorem dX5_next_132 : decode cX5_next 132 = .ok (.iinc 6 1, 3) := by decide +kernel
theorem dX5_next_135 : decode cX5_next 135 = .ok (.goto (-81), 3) := by decide +kernel
theorem dX5_next_138 : decode cX5_next 138 = .ok (.iload 5, 2) := by decide +kernel
theorem dX5_next_140 : decode cX5_next 140 = .ok (.ifCond .ne 7, 3) := by decide +kernel
theorem dX5_next_143 : decode cX5_next 143 = .ok (.iload_n 1, 1) := by decide +kernel
theorem dX5_next_144 : decode cX5_next 144 = .ok (.goto 5, 3) := by decide +kernel
theorem dX5_next_147 : decode cX5_next 147 = .ok (.iload 5, 2) := by decide +kernel
theorem dX5_next_149 : decode cX5_next 149 = .ok (.istore 5, 2) := by decide +kernel
theorem dX5_next_151 : decode cX5_next 151 = .ok (.iload_n 2, 1) := by decide +kernel
theorem dX5_next_152 : decode cX5_next 152 = .ok (.ifCond .lt 9, 3) := by decide +kernel
theorem dX5_next_155 : decode cX5_next 155 = .ok (.iload 5, 2) := by decide +kernel
theorem dX5_next_157 : decode cX5_next 157 = .ok (.iload_n 3, 1) := by decide +kernel
theorem dX5_next_158 : decode cX5_next 158 = .ok (.if_icmp .ge 9, 3) := by decide +kernel
theorem dX5_next_161 : decode cX5_next 161 = .ok (.iload 4, 2) := by decide +kernel
theorem dX5_next_163 : decode cX5_next 163 = .ok (.istore_n 2, 1) := by decide +kernel
theorem dX5_next_164 : decode cX5_next 164 = .ok (.iload 5, 2) := by decide +kernel
theorem dX5_next_166 : decode cX5_next 166 = .ok (.istore_n 3, 1) := by decide +kernel
theorem dX5_next_167 : decode cX5_next 167 = .ok (.iinc 4 1, 3) := by decide +kernel
theorem dX5_next_170 : decode cX5_next 170 = .ok (.goto (-153), 3) := by decide +kernel
theorem dX5_next_173 : decode cX5_next 173 = .ok (.iload_n 2, 1) := by decide +kernel
theorem dX5_next_174 : decode cX5_next 174 = .ok (.ireturn, 1) := by decide +kernel
theorem dX5_allOf_0 : decode cX5_allOf 0 = .ok (.iconst 0, 1) := by decide +kernel
theorem dX5_allOf_1 : decode cX5_allOf 1 = .ok (.istore_n 2, 1) := by decide +kernel
theorem dX5_allOf_2 : decode cX5_allOf 2 = .ok (.iconst 0, 1) := by decide +kernel
theorem dX5_allOf_3 : decode cX5_allOf 3 = .ok (.istore_n 3, 1) := by decide +kernel
theorem dX5_allOf_4 : decode cX5_allOf 4 = .ok (.iload_n 3, 1) := by decide +kernel
theorem dX5_allOf_5 : decode cX5_allOf 5 = .ok (.bipush 18, 2) := by decide +kernel
theorem dX5_allOf_7 : decode cX5_allOf 7 = .ok (.if_icmp .ge 23, 3) := by decide +kernel
theorem dX5_allOf_10 : decode cX5_allOf 10 = .ok (.iload_n 2, 1) := by decide +kernel
theorem dX5_allOf_11 : decode cX5_allOf 11 = .ok (.aload_n 0, 1) := by decide +kernel
theorem dX5_allOf_12 : decode cX5_allOf 12 = .ok (.getfield 38, 3) := by decide +kernel
theorem dX5_allOf_15 : decode cX5_allOf 15 = .ok (.bipush 18, 2) := by decide +kernel
theorem dX5_allOf_17 : decode cX5_allOf 17 = .ok (.iload_n 1, 1) := by decide +kernel
theorem dX5_allOf_18 : decode cX5_allOf 18 = .ok (.imul, 1) := by decide +kernel
theorem dX5_allOf_19 : decode cX5_allOf 19 = .ok (.iload_n 3, 1) := by decide +kernel
theorem dX5_allOf_20 : decode cX5_allOf 20 = .ok (.iadd, 1) := by decide +kernel
theorem dX5_allOf_21 : decode cX5_allOf 21 = .ok (.iaload, 1) := by decide +kernel
theorem dX5_allOf_22 : decode cX5_allOf 22 = .ok (.iadd, 1) := by decide +kernel
theorem dX5_allOf_23 : decode cX5_allOf 23 = .ok (.istore_n 2, 1) := by decide +kernel
theorem dX5_allOf_24 : decode cX5_allOf 24 = .ok (.iinc 3 1, 3) := by decide +kernel
theorem dX5_allOf_27 : decode cX5_allOf 27 = .ok (.goto (-23), 3) := by decide +kernel
theorem dX5_allOf_30 : decode cX5_allOf 30 = .ok (.iload_n 2, 1) := by decide +kernel
theorem dX5_allOf_31 : decode cX5_allOf 31 = .ok (.ireturn, 1) := by decide +kernel
theorem dX5_lasts_0 : decode cX5_lasts 0 = .ok (.aload_n 0, 1) := by decide +kernel
theorem dX5_lasts_1 : decode cX5_lasts 1 = .ok (.getfield 23, 3) := by decide +kernel
theorem dX5_lasts_4 : decode cX5_lasts 4 = .ok (.iconst 3, 1) := by decide +kernel
theorem dX5_lasts_5 : decode cX5_lasts 5 = .ok (.iload_n 1, 1) := by decide +kernel
theorem dX5_lasts_6 : decode cX5_lasts 6 = .ok (.imul, 1) := by decide +kernel
theorem dX5_lasts_7 : decode cX5_lasts 7 = .ok (.iconst 2, 1) := by decide +kernel
theorem dX5_lasts_8 : decode cX5_lasts 8 = .ok (.iadd, 1) := by decide +kernel
theorem dX5_lasts_9 : decode cX5_lasts 9 = .ok (.iaload, 1) := by decide +kernel
theorem dX5_lasts_10 : decode cX5_lasts 10 = .ok (.aload_n 0, 1) := by decide +kernel
theorem dX5_lasts_11 : decode cX5_lasts 11 = .ok (.getfield 23, 3) := by decide +kernel
theorem dX5_lasts_14 : decode cX5_lasts 14 = .ok (.iconst 3, 1) := by decide +kernel
theorem dX5_lasts_15 : decode cX5_lasts 15 = .ok (.iload_n 1, 1) := by decide +kernel
theorem dX5_lasts_16 : decode cX5_lasts 16 = .ok (.imul, 1) := by decide +kernel
theorem dX5_lasts_17 : decode cX5_lasts 17 = .ok (.iconst 1, 1) := by decide +kernel
theorem dX5_lasts_18 : decode cX5_lasts 18 = .ok (.iadd, 1) := by decide +kernel
theorem dX5_lasts_19 : decode cX5_lasts 19 = .ok (.iaload, 1) := by decide +kernel
theorem dX5_lasts_20 : decode cX5_lasts 20 = .ok (.isub, 1) := by decide +kernel
theorem dX5_lasts_21 : decode cX5_lasts 21 = .ok (.iconst 1, 1) := by decide +kernel
theorem dX5_lasts_22 : decode cX5_lasts 22 = .ok (.iadd, 1) := by decide +kernel
theorem dX5_lasts_23 : decode cX5_lasts 23 = .ok (.ireturn, 1) := by decide +kernel
theorem dX5_up_0 : decode cX5_up 0 = .ok (.iload_n 0, 1) := by decide +kernel
theorem dX5_up_1 : decode cX5_up 1 = .ok (.iload_n 1, 1) := by decide +kernel
theorem dX5_up_2 : decode cX5_up 2 = .ok (.iadd, 1) := by decide +kernel
theorem dX5_up_3 : decode cX5_up 3 = .ok (.iconst 1, 1) := by decide +kernel
theorem dX5_up_4 : decode cX5_up 4 = .ok (.isub, 1) := by decide +kernel
theorem dX5_up_5 : decode cX5_up 5 = .ok (.iload_n 1, 1) := by decide +kernel
theorem dX5_up_6 : decode cX5_up 6 = .ok (.idiv, 1) := by decide +kernel
theorem dX5_up_7 : decode cX5_up 7 = .ok (.ireturn, 1) := by decide +kernel
set_option maxRecDepth 20000 in
theorem ggX5_men_X5_isCourse : GoodIn wsX5_men wsX5_isCourse := goodIn_r _ [8, 9, 10, 11, 7, 12, 25, 26, 27, 28, 29, 30, 31, 32, 33, 34, 35, 36, 37, 38, 39, 40, 41, 42, 43, 44, 45, 46, 47, 48, 49, 50, 51, 52, 53] (by decide +kernel) (by decide +kernel)
set_option maxRecDepth 20000 in
theorem gX5_men_X5_isCourse : GoodIn wsX5_men (wsV RX5 152 RX5 yX5_isCourse wsX5_isCourse) := goodIn_app (goodIn_of _ (by decide +kernel)) ggX5_men_X5_isCourse
set_option maxRecDepth 20000 in
theorem ggX5_men_X5_between : GoodIn wsX5_men wsX5_between := goodIn_r _ [12] (by decide +kernel) (by decide +kernel)
set_option maxRecDepth 20000 in
theorem gX5_men_X5_between : GoodIn wsX5_men (va_wsS RX5 74 yX5_between wsX5_between) := goodIn_app (goodIn_of _ (by decide +kernel)) ggX5_men_X5_between
set_option maxRecDepth 20000 in
theorem ggX5_men_X5_allOf : GoodIn wsX5_men wsX5_allOf := goodIn_r _ [16, 2, 25, 26, 27, 28, 29, 30, 31, 32, 33, 34, 35, 36, 37, 38, 39, 40, 41, 42, 43, 44, 45, 46, 47, 48, 49, 50, 51, 52, 53] (by decide +kernel) (by decide +kernel)
set_option maxRecDepth 20000 in
theorem gX5_men_X5_allOf : GoodIn wsX5_men (wsV RX5 230 RX5 yX5_allOf wsX5_allOf) := goodIn_app (goodIn_of _ (by decide +kernel)) ggX5_men_X5_allOf
set_option maxRecDepth 20000 in
theorem ggX5_men_X5_lasts : GoodIn wsX5_men wsX5_lasts := goodIn_r _ [20, 21, 25, 26, 27, 28, 29, 30, 31, 32, 33, 34, 35, 36, 37, 38, 39, 40, 41, 42, 43, 44, 45, 46, 47, 48, 49, 50, 51, 52, 53] (by decide +kernel) (by decide +kernel)
set_option maxRecDepth 20000 in
theorem gX5_men_X5_lasts : GoodIn wsX5_men (wsV RX5 233 RX5 yX5_lasts wsX5_lasts) := goodIn_app (goodIn_of _ (by decide +kernel)) ggX5_men_X5_lasts
set_option maxRecDepth 20000 in
theorem ggX5_men_X5_up : GoodIn wsX5_men wsX5_up := goodIn_r _ [24] (by decide +kernel) (by decide +kernel)
set_option maxRecDepth 20000 in
theorem gX5_men_X5_up : GoodIn wsX5_men (va_wsS RX5 236 yX5_up wsX5_up) := goodIn_app (goodIn_of _ (by decide +kernel)) ggX5_men_X5_up
theorem dX5_men_0 : decode cX5_men 0 = .ok (.aload_n 0, 1) := by decide +kernel
theorem dX5_men_1 : decode cX5_men 1 = .ok (.iload_n 1, 1) := by decide +kernel
theorem dX5_men_2 : decode cX5_men 2 = .ok (.invokevirtual 152, 3) := by decide +kernel
theorem dX5_men_5 : decode cX5_men 5 = .ok (.ifCond .eq 15, 3) := by decide +kernel
theorem dX5_men_8 : decode cX5_men 8 = .ok (.iload_n 2, 1) := by decide +kernel
theorem dX5_men_9 : decode cX5_men 9 = .ok (.i2l, 1) := by decide +kernel
theorem dX5_men_10 : decode cX5_men 10 = .ok (.lconst 0, 1) := by decide +kernel
theorem dX5_men_11 : decode cX5_men 11 = .ok (.ldc2_w 174, 3) := by decide +kernel
theorem dX5_men_14 : decode cX5_men 14 = .ok (.invokestatic 74, 3) := by decide +kernel
theorem dX5_men_17 : decode cX5_men 17 = .ok (.ifCond .ne 5, 3) := by decide +kernel
theorem dX5_men_20 : decode cX5_men 20 = .ok (.iconst (-1), 1) := by decide +kernel
theorem dX5_men_21 : decode cX5_men 21 = .ok (.ireturn, 1) := by decide +kernel
theorem dX5_men_22 : decode cX5_men 22 = .ok (.iload_n 2, 1) := by decide +kernel
theorem dX5_men_23 : decode cX5_men 23 = .ok (.iconst 2, 1) := by decide +kernel
theorem dX5_men_24 : decode cX5_men 24 = .ok (.if_icmp .ne 17, 3) := by decide +kernel
theorem dX5_men_27 : decode cX5_men 27 = .ok (.aload_n 0, 1) := by decide +kernel
theorem dX5_men_28 : decode cX5_men 28 = .ok (.iload_n 1, 1) := by decide +kernel
theorem dX5_men_29 : decode cX5_men 29 = .ok (.invokevirtual 230, 3) := by decide +kernel
theorem dX5_men_32 : decode cX5_men 32 = .ok (.aload_n 0, 1) := by decide +kernel
theorem dX5_men_33 : decode cX5_men 33 = .ok (.iload_n 1, 1) := by decide +kernel
theorem dX5_men_34 : decode cX5_men 34 = .ok (.invokevirtual 233, 3) := by decide +kernel
theorem dX5_men_37 : decode cX5_men 37 = .ok (.invokestatic 236, 3) := by decide +kernel
theorem dX5_men_40 : decode cX5_men 40 = .ok (.ireturn, 1) := by decide +kernel
theorem dX5_men_41 : decode cX5_men 41 = .ok (.iconst 0, 1) := by decide +kernel
theorem dX5_men_42 : decode cX5_men 42 = .ok (.istore_n 3, 1) := by decide +kernel
theorem dX5_men_43 : decode cX5_men 43 = .ok (.iconst 0, 1) := by decide +kernel
theorem dX5_men_44 : decode cX5_men 44 = .ok (.istore 4, 2) := by decide +kernel
theorem dX5_men_46 : decode cX5_men 46 = .ok (.iload 4, 2) := by decide +kernel
theorem dX5_men_48 : decode cX5_men 48 = .ok (.bipush 16, 2) := by decide +kernel
theorem dX5_men_50 : decode cX5_men 50 = .ok (.if_icmp .ge 32, 3) := by decide +kernel
theorem dX5_men_53 : decode cX5_men 53 = .ok (.iload_n 3, 1) := by decide +kernel
theorem dX5_men_54 : decode cX5_men 54 = .ok (.aload_n 0, 1) := by decide +kernel
theorem dX5_men_55 : decode cX5_men 55 = .ok (.getfield 38, 3) := by decide +kernel
theorem dX5_men_58 : decode cX5_men 58 = .ok (.bipush 18, 2) := by decide +kernel
theorem dX5_men_60 : decode cX5_men 60 = .ok (.iload_n 1, 1) := by decide +kernel
theorem dX5_men_61 : decode cX5_men 61 = .ok (.imul, 1) := by decide +kernel
theorem dX5_men_62 : decode cX5_men 62 = .ok (.iload 4, 2) := by decide +kernel
theorem dX5_men_64 : decode cX5_men 64 = .ok (.iadd, 1) := by decide +kernel
theorem dX5_men_65 : decode cX5_men 65 = .ok (.iaload, 1) := by decide +kernel
theorem dX5_men_66 : decode cX5_men 66 = .ok (.ifCond .le 7, 3) := by decide +kernel
theorem dX5_men_69 : decode cX5_men 69 = .ok (.iconst 1, 1) := by decide +kernel
theorem dX5_men_70 : decode cX5_men 70 = .ok (.goto 4, 3) := by decide +kernel
theorem dX5_men_73 : decode cX5_men 73 = .ok (.iconst 0, 1) := by decide +kernel
theorem dX5_men_74 : decode cX5_men 74 = .ok (.iadd, 1) := by decide +kernel
theorem dX5_men_75 : decode cX5_men 75 = .ok (.istore_n 3, 1) := by decide +kernel
theorem dX5_men_76 : decode cX5_men 76 = .ok (.iinc 4 1, 3) := by decide +kernel
theorem dX5_men_79 : decode cX5_men 79 = .ok (.goto (-33), 3) := by decide +kernel
theorem dX5_men_82 : decode cX5_men 82 = .ok (.aload_n 0, 1) := by decide +kernel
theorem dX5_men_83 : decode cX5_men 83 = .ok (.iload_n 1, 1) := by decide +kernel
theorem dX5_men_84 : decode cX5_men 84 = .ok (.invokevirtual 230, 3) := by decide +kernel
theorem dX5_men_87 : decode cX5_men 87 = .ok (.aload_n 0, 1) := by decide +kernel
theorem dX5_men_88 : decode cX5_men 88 = .ok (.getfield 35, 3) := by decide +kernel
theorem dX5_men_91 : decode cX5_men 91 = .ok (.iconst 0, 1) := by decide +kernel
theorem dX5_men_92 : decode cX5_men 92 = .ok (.iaload, 1) := by decide +kernel
theorem dX5_men_93 : decode cX5_men 93 = .ok (.aload_n 0, 1) := by decide +kernel
theorem dX5_men_94 : decode cX5_men 94 = .ok (.iload_n 1, 1) := by decide +kernel
theorem dX5_men_95 : decode cX5_men 95 = .ok (.invokevirtual 233, 3) := by decide +kernel
theorem dX5_men_98 : decode cX5_men 98 = .ok (.imul, 1) := by decide +kernel
theorem dX5_men_99 : decode cX5_men 99 = .ok (.invokestatic 236, 3) := by decide +kernel
theorem dX5_men_102 : decode cX5_men 102 = .ok (.istore 4, 2) := by decide +kernel
theorem dX5_men_104 : decode cX5_men 104 = .ok (.iload 4, 2) := by decide +kernel
theorem dX5_men_106 : decode cX5_men 106 = .ok (.iload_n 3, 1) := by decide +kernel
theorem dX5_men_107 : decode cX5_men 107 = .ok (.if_icmp .le 8, 3) := by decide +kernel
theorem dX5_men_110 : decode cX5_men 110 = .ok (.iload 4, 2) := by decide +kernel
theorem dX5_men_112 : decode cX5_men 112 = .ok (.goto 4, 3) := by decide +kernel
theorem dX5_men_115 : decode cX5_men 115 = .ok (.iload_n 3, 1) := by decide +kernel
theorem dX5_men_116 : decode cX5_men 116 = .ok (.istore 5, 2) := by decide +kernel
theorem dX5_men_118 : decode cX5_men 118 = .ok (.iload_n 3, 1) := by decide +kernel
theorem dX5_men_119 : decode cX5_men 119 = .ok (.aload_n 0, 1) := by decide +kernel
theorem dX5_men_120 : decode cX5_men 120 = .ok (.getfield 38, 3) := by decide +kernel
theorem dX5_men_123 : decode cX5_men 123 = .ok (.bipush 18, 2) := by decide +kernel
theorem dX5_men_125 : decode cX5_men 125 = .ok (.iload_n 1, 1) := by decide +kernel
theorem dX5_men_126 : decode cX5_men 126 = .ok (.imul, 1) := by decide +kernel
theorem dX5_men_127 : decode cX5_men 127 = .ok (.bipush 16, 2) := by decide +kernel
theorem dX5_men_129 : decode cX5_men 129 = .ok (.iadd, 1) := by decide +kernel
theorem dX5_men_130 : decode cX5_men 130 = .ok (.iaload, 1) := by decide +kernel
theorem dX5_men_131 : decode cX5_men 131 = .ok (.iadd, 1) := by decide +kernel
theorem dX5_men_132 : decode cX5_men 132 = .ok (.aload_n 0, 1) := by decide +kernel
theorem dX5_men_133 : decode cX5_men 133 = .ok (.getfield 38, 3) := by decide +kernel
theorem dX5_men_136 : decode cX5_men 136 = .ok (.bipush 18, 2) := by decide +kernel
theorem dX5_men_138 : decode cX5_men 138 = .ok (.iload_n 1, 1) := by decide +kernel
theorem dX5_men_139 : decode cX5_men 139 = .ok (.imul, 1) := by decide +kernel
theorem dX5_men_140 : decode cX5_men 140 = .ok (.bipush 17, 2) := by decide +kernel
theorem dX5_men_142 : decode cX5_men 142 = .ok (.iadd, 1) := by decide +kernel
theorem dX5_men_143 : decode cX5_men 143 = .ok (.iaload, 1) := by decide +kernel
theorem dX5_men_144 : decode cX5_men 144 = .ok (.iadd, 1) := by decide +kernel
theorem dX5_men_145 : decode cX5_men 145 = .ok (.istore 6, 2) := by decide +kernel
theorem dX5_men_147 : decode cX5_men 147 = .ok (.iload_n 2, 1) := by decide +kernel
theorem dX5_men_148 : decode cX5_men 148 = .ok (.ifCond .ne 8, 3) := by decide +kernel
theorem dX5_men_151 : decode cX5_men 151 = .ok (.iload 5, 2) := by decide +kernel
theorem dX5_men_153 : decode cX5_men 153 = .ok (.goto 17, 3) := by decide +kernel
theorem dX5_men_156 : decode cX5_men 156 = .ok (.iload 6, 2) := by decide +kernel
theorem dX5_men_158 : decode cX5_men 158 = .ok (.iload 5, 2) := by decide +kernel
theorem dX5_men_160 : decode cX5_men 160 = .ok (.if_icmp .ge 8, 3) := by decide +kernel
theorem dX5_men_163 : decode cX5_men 163 = .ok (.iload 5, 2) := by decide +kernel
theorem dX5_men_165 : decode cX5_men 165 = .ok (.goto 5, 3) := by decide +kernel
theorem dX5_men_168 : decode cX5_men 168 = .ok (.iload 6, 2) := by decide +kernel
theorem dX5_men_170 : decode cX5_men 170 = .ok (.ireturn, 1) := by decide +kernel
set_option maxRecDepth 20000 in
theorem ggX5_asksOf_X5_up : GoodIn wsX5_asksOf wsX5_up := goodIn_r _ [6] (by decide +kernel) (by decide +kernel)
set_option maxRecDepth 20000 in
theorem gX5_asksOf_X5_up : GoodIn wsX5_asksOf (va_wsS RX5 236 yX5_up wsX5_up) := goodIn_app (goodIn_of _ (by decide +kernel)) ggX5_asksOf_X5_up
theorem dX5_asksOf_0 : decode cX5_asksOf 0 = .ok (.aload_n 0, 1) := by decide +kernel
theorem dX5_asksOf_1 : decode cX5_asksOf 1 = .ok (.getfield 38, 3) := by decide +kernel
theorem dX5_asksOf_4 : decode cX5_asksOf 4 = .ok (.bipush 18, 2) := by decide +kernel
theorem dX5_asksOf_6 : decode cX5_asksOf 6 = .ok (.iload_n 2, 1) := by decide +kernel
theorem dX5_asksOf_7 : decode cX5_asksOf 7 = .ok (.imul, 1) := by decide +kernel
theorem dX5_asksOf_8 : decode cX5_asksOf 8 = .ok (.iload_n 1, 1) := by decide +kernel
theorem dX5_asksOf_9 : decode cX5_asksOf 9 = .ok (.iadd, 1) := by decide +kernel
theorem dX5_asksOf_10 : decode cX5_asksOf 10 = .ok (.iaload, 1) := by decide +kernel
theorem dX5_asksOf_11 : decode cX5_asksOf 11 = .ok (.aload_n 0, 1) := by decide +kernel
theorem dX5_asksOf_12 : decode cX5_asksOf 12 = .ok (.getfield 35, 3) := by decide +kernel
theorem dX5_asksOf_15 : decode cX5_asksOf 15 = .ok (.iconst 0, 1) := by decide +kernel
theorem dX5_asksOf_16 : decode cX5_asksOf 16 = .ok (.iaload, 1) := by decide +kernel
theorem dX5_asksOf_17 : decode cX5_asksOf 17 = .ok (.invokestatic 236, 3) := by decide +kernel
theorem dX5_asksOf_20 : decode cX5_asksOf 20 = .ok (.ireturn, 1) := by decide +kernel
set_option maxRecDepth 20000 in
theorem ggX5_asks_X5_isSign : GoodIn wsX5_asks wsX5_isSign := goodIn_r _ [5, 6, 7, 8, 4, 9, 24, 25, 26, 27, 28, 29, 30, 31, 32, 33, 34, 35, 36, 37, 38, 39, 40, 41, 42, 43, 44, 45, 46, 47, 48, 49, 50, 51, 52] (by decide +kernel) (by decide +kernel)
set_option maxRecDepth 20000 in
theorem gX5_asks_X5_isSign : GoodIn wsX5_asks (wsV RX5 140 RX5 yX5_isSign wsX5_isSign) := goodIn_app (goodIn_of _ (by decide +kernel)) ggX5_asks_X5_isSign
set_option maxRecDepth 20000 in
theorem ggX5_asks_X5_isCourse : GoodIn wsX5_asks wsX5_isCourse := goodIn_r _ [13, 14, 7, 8, 4, 9, 24, 25, 26, 27, 28, 29, 30, 31, 32, 33, 34, 35, 36, 37, 38, 39, 40, 41, 42, 43, 44, 45, 46, 47, 48, 49, 50, 51, 52] (by decide +kernel) (by decide +kernel)
set_option maxRecDepth 20000 in
theorem gX5_asks_X5_isCourse : GoodIn wsX5_asks (wsV RX5 152 RX5 yX5_isCourse wsX5_isCourse) := goodIn_app (goodIn_of _ (by decide +kernel)) ggX5_asks_X5_isCourse
set_option maxRecDepth 20000 in
theorem ggX5_asks_X5_asksOf : GoodIn wsX5_asks wsX5_asksOf := goodIn_r _ [18, 19, 20, 21, 22, 4, 23, 24, 25, 26, 27, 28, 29, 30, 31, 32, 33, 34, 35, 36, 37, 38, 39, 40, 41, 42, 43, 44, 45, 46, 47, 48, 49, 50, 51, 52] (by decide +kernel) (by decide +kernel)
set_option maxRecDepth 20000 in
theorem gX5_asks_X5_asksOf : GoodIn wsX5_asks (wsV RX5 239 RX5 yX5_asksOf wsX5_asksOf) := goodIn_app (goodIn_of _ (by decide +kernel)) ggX5_asks_X5_asksOf
theorem dX5_asks_0 : decode cX5_asks 0 = .ok (.aload_n 0, 1) := by decide +kernel
theorem dX5_asks_1 : decode cX5_asks 1 = .ok (.iload_n 1, 1) := by decide +kernel
theorem dX5_asks_2 : decode cX5_asks 2 = .ok (.invokevirtual 140, 3) := by decide +kernel
theorem dX5_asks_5 : decode cX5_asks 5 = .ok (.ifCond .eq 20, 3) := by decide +kernel
theorem dX5_asks_8 : decode cX5_asks 8 = .ok (.aload_n 0, 1) := by decide +kernel
theorem dX5_asks_9 : decode cX5_asks 9 = .ok (.iload_n 2, 1) := by decide +kernel
theorem dX5_asks_10 : decode cX5_asks 10 = .ok (.invokevirtual 152, 3) := by decide +kernel
theorem dX5_asks_13 : decode cX5_asks 13 = .ok (.ifCond .eq 12, 3) := by decide +kernel
theorem dX5_asks_16 : decode cX5_asks 16 = .ok (.aload_n 0, 1) := by decide +kernel
theorem dX5_asks_17 : decode cX5_asks 17 = .ok (.iload_n 1, 1) := by decide +kernel
theorem dX5_asks_18 : decode cX5_asks 18 = .ok (.iload_n 2, 1) := by decide +kernel
theorem dX5_asks_19 : decode cX5_asks 19 = .ok (.invokevirtual 239, 3) := by decide +kernel
theorem dX5_asks_22 : decode cX5_asks 22 = .ok (.goto 4, 3) := by decide +kernel
theorem dX5_asks_25 : decode cX5_asks 25 = .ok (.iconst (-1), 1) := by decide +kernel
theorem dX5_asks_26 : decode cX5_asks 26 = .ok (.ireturn, 1) := by decide +kernel
theorem dX5_bits_0 : decode cX5_bits 0 = .ok (.iconst 0, 1) := by decide +kernel
theorem dX5_bits_1 : decode cX5_bits 1 = .ok (.istore_n 1, 1) := by decide +kernel
theorem dX5_bits_2 : decode cX5_bits 2 = .ok (.iconst 0, 1) := by decide +kernel
theorem dX5_bits_3 : decode cX5_bits 3 = .ok (.istore_n 2, 1) := by decide +kernel
theorem dX5_bits_4 : decode cX5_bits 4 = .ok (.iload_n 2, 1) := by decide +kernel
theorem dX5_bits_5 : decode cX5_bits 5 = .ok (.bipush 24, 2) := by decide +kernel
theorem dX5_bits_7 : decode cX5_bits 7 = .ok (.if_icmp .ge 17, 3) := by decide +kernel
theorem dX5_bits_10 : decode cX5_bits 10 = .ok (.iload_n 1, 1) := by decide +kernel
theorem dX5_bits_11 : decode cX5_bits 11 = .ok (.iload_n 0, 1) := by decide +kernel
theorem dX5_bits_12 : decode cX5_bits 12 = .ok (.iload_n 2, 1) := by decide +kernel
theorem dX5_bits_13 : decode cX5_bits 13 = .ok (.ishr, 1) := by decide +kernel
theorem dX5_bits_14 : decode cX5_bits 14 = .ok (.iconst 1, 1) := by decide +kernel
theorem dX5_bits_15 : decode cX5_bits 15 = .ok (.iand, 1) := by decide +kernel
theorem dX5_bits_16 : decode cX5_bits 16 = .ok (.iadd, 1) := by decide +kernel
theorem dX5_bits_17 : decode cX5_bits 17 = .ok (.istore_n 1, 1) := by decide +kernel
theorem dX5_bits_18 : decode cX5_bits 18 = .ok (.iinc 2 1, 3) := by decide +kernel
theorem dX5_bits_21 : decode cX5_bits 21 = .ok (.goto (-17), 3) := by decide +kernel
theorem dX5_bits_24 : decode cX5_bits 24 = .ok (.iload_n 1, 1) := by decide +kernel
theorem dX5_bits_25 : decode cX5_bits 25 = .ok (.ireturn, 1) := by decide +kernel
set_option maxRecDepth 20000 in
theorem ggX5_mayCut_X5_weeks : GoodIn wsX5_mayCut wsX5_weeks := goodIn_r _ [8] (by decide +kernel) (by decide +kernel)
set_option maxRecDepth 20000 in
theorem gX5_mayCut_X5_weeks : GoodIn wsX5_mayCut (va_wsS RX5 122 yX5_weeks wsX5_weeks) := goodIn_app (goodIn_of _ (by decide +kernel)) ggX5_mayCut_X5_weeks
set_option maxRecDepth 20000 in
theorem ggX5_mayCut_X5_bits : GoodIn wsX5_mayCut wsX5_bits := goodIn_r _ [11] (by decide +kernel) (by decide +kernel)
set_option maxRecDepth 20000 in
theorem gX5_mayCut_X5_bits : GoodIn wsX5_mayCut (va_wsS RX5 242 yX5_bits wsX5_bits) := goodIn_app (goodIn_of _ (by decide +kernel)) ggX5_mayCut_X5_bits
set_option maxRecDepth 20000 in
theorem ggX5_mayCut_X5_asksOf : GoodIn wsX5_mayCut wsX5_asksOf := goodIn_r _ [15, 4, 16, 17, 18, 7, 19, 20, 21, 22, 23, 24, 25, 26, 27, 28, 29, 30, 31, 32, 33, 34, 35, 36, 37, 38, 39, 40, 41, 42, 43, 44, 45, 46, 47, 48] (by decide +kernel) (by decide +kernel)
set_option maxRecDepth 20000 in
theorem gX5_mayCut_X5_asksOf : GoodIn wsX5_mayCut (wsV RX5 239 RX5 yX5_asksOf wsX5_asksOf) := goodIn_app (goodIn_of _ (by decide +kernel)) ggX5_mayCut_X5_asksOf
theorem dX5_mayCut_0 : decode cX5_mayCut 0 = .ok (.iconst 1, 1) := by decide +kernel
theorem dX5_mayCut_1 : decode cX5_mayCut 1 = .ok (.istore_n 3, 1) := by decide +kernel
theorem dX5_mayCut_2 : decode cX5_mayCut 2 = .ok (.iconst 0, 1) := by decide +kernel
theorem dX5_mayCut_3 : decode cX5_mayCut 3 = .ok (.istore 4, 2) := by decide +kernel
theorem dX5_mayCut_5 : decode cX5_mayCut 5 = .ok (.iload 4, 2) := by decide +kernel
theorem dX5_mayCut_7 : decode cX5_mayCut 7 = .ok (.aload_n 0, 1) := by decide +kernel
theorem dX5_mayCut_8 : decode cX5_mayCut 8 = .ok (.getfield 20, 3) := by decide +kernel
theorem dX5_mayCut_11 : decode cX5_mayCut 11 = .ok (.iconst 0, 1) := by decide +kernel
theorem dX5_mayCut_12 : decode cX5_mayCut 12 = .ok (.iaload, 1) := by decide +kernel
theorem dX5_mayCut_13 : decode cX5_mayCut 13 = .ok (.if_icmp .ge 83, 3) := by decide +kernel
theorem dX5_mayCut_16 : decode cX5_mayCut 16 = .ok (.aload_n 0, 1) := by decide +kernel
theorem dX5_mayCut_17 : decode cX5_mayCut 17 = .ok (.getfield 32, 3) := by decide +kernel
theorem dX5_mayCut_20 : decode cX5_mayCut 20 = .ok (.iload_n 1, 1) := by decide +kernel
theorem dX5_mayCut_21 : decode cX5_mayCut 21 = .ok (.iaload, 1) := by decide +kernel
theorem dX5_mayCut_22 : decode cX5_mayCut 22 = .ok (.aload_n 0, 1) := by decide +kernel
theorem dX5_mayCut_23 : decode cX5_mayCut 23 = .ok (.getfield 23, 3) := by decide +kernel
theorem dX5_mayCut_26 : decode cX5_mayCut 26 = .ok (.iconst 3, 1) := by decide +kernel
theorem dX5_mayCut_27 : decode cX5_mayCut 27 = .ok (.iload 4, 2) := by decide +kernel
theorem dX5_mayCut_29 : decode cX5_mayCut 29 = .ok (.imul, 1) := by decide +kernel
theorem dX5_mayCut_30 : decode cX5_mayCut 30 = .ok (.iconst 1, 1) := by decide +kernel
theorem dX5_mayCut_31 : decode cX5_mayCut 31 = .ok (.iadd, 1) := by decide +kernel
theorem dX5_mayCut_32 : decode cX5_mayCut 32 = .ok (.iaload, 1) := by decide +kernel
theorem dX5_mayCut_33 : decode cX5_mayCut 33 = .ok (.aload_n 0, 1) := by decide +kernel
theorem dX5_mayCut_34 : decode cX5_mayCut 34 = .ok (.getfield 23, 3) := by decide +kernel
theorem dX5_mayCut_37 : decode cX5_mayCut 37 = .ok (.iconst 3, 1) := by decide +kernel
theorem dX5_mayCut_38 : decode cX5_mayCut 38 = .ok (.iload 4, 2) := by decide +kernel
theorem dX5_mayCut_40 : decode cX5_mayCut 40 = .ok (.imul, 1) := by decide +kernel
theorem dX5_mayCut_41 : decode cX5_mayCut 41 = .ok (.iconst 2, 1) := by decide +kernel
theorem dX5_mayCut_42 : decode cX5_mayCut 42 = .ok (.iadd, 1) := by decide +kernel
theorem dX5_mayCut_43 : decode cX5_mayCut 43 = .ok (.iaload, 1) := by decide +kernel
theorem dX5_mayCut_44 : decode cX5_mayCut 44 = .ok (.invokestatic 122, 3) := by decide +kernel
theorem dX5_mayCut_47 : decode cX5_mayCut 47 = .ok (.iand, 1) := by decide +kernel
theorem dX5_mayCut_48 : decode cX5_mayCut 48 = .ok (.invokestatic 242, 3) := by decide +kernel
theorem dX5_mayCut_51 : decode cX5_mayCut 51 = .ok (.istore 5, 2) := by decide +kernel
theorem dX5_mayCut_53 : decode cX5_mayCut 53 = .ok (.iload_n 3, 1) := by decide +kernel
theorem dX5_mayCut_54 : decode cX5_mayCut 54 = .ok (.ifCond .eq 34, 3) := by decide +kernel
theorem dX5_mayCut_57 : decode cX5_mayCut 57 = .ok (.aload_n 0, 1) := by decide +kernel
theorem dX5_mayCut_58 : decode cX5_mayCut 58 = .ok (.getfield 38, 3) := by decide +kernel
theorem dX5_mayCut_61 : decode cX5_mayCut 61 = .ok (.bipush 18, 2) := by decide +kernel
theorem dX5_mayCut_63 : decode cX5_mayCut 63 = .ok (.iload 4, 2) := by decide +kernel
theorem dX5_mayCut_65 : decode cX5_mayCut 65 = .ok (.imul, 1) := by decide +kernel
theorem dX5_mayCut_66 : decode cX5_mayCut 66 = .ok (.iload_n 2, 1) := by decide +kernel
theorem dX5_mayCut_67 : decode cX5_mayCut 67 = .ok (.iadd, 1) := by decide +kernel
theorem dX5_mayCut_68 : decode cX5_mayCut 68 = .ok (.iaload, 1) := by decide +kernel
theorem dX5_mayCut_69 : decode cX5_mayCut 69 = .ok (.ifCond .eq 15, 3) := by decide +kernel
theorem dX5_mayCut_72 : decode cX5_mayCut 72 = .ok (.iload 5, 2) := by decide +kernel
theorem dX5_mayCut_74 : decode cX5_mayCut 74 = .ok (.aload_n 0, 1) := by decide +kernel
theorem dX5_mayCut_75 : decode cX5_mayCut 75 = .ok (.iload_n 2, 1) := by decide +kernel
theorem dX5_mayCut_76 : decode cX5_mayCut 76 = .ok (.iload 4, 2) := by decide +kernel
theorem dX5_mayCut_78 : decode cX5_mayCut 78 = .ok (.invokevirtual 239, 3) := by decide +kernel
theorem dX5_mayCut_81 : decode cX5_mayCut 81 = .ok (.if_icmp .lt 7, 3) := by decide +kernel
theorem dX5_mayCut_84 : decode cX5_mayCut 84 = .ok (.iconst 1, 1) := by decide +kernel
theorem dX5_mayCut_85 : decode cX5_mayCut 85 = .ok (.goto 4, 3) := by decide +kernel
theorem dX5_mayCut_88 : decode cX5_mayCut 88 = .ok (.iconst 0, 1) := by decide +kernel
theorem dX5_mayCut_89 : decode cX5_mayCut 89 = .ok (.istore_n 3, 1) := by decide +kernel
theorem dX5_mayCut_90 : decode cX5_mayCut 90 = .ok (.iinc 4 1, 3) := by decide +kernel
theorem dX5_mayCut_93 : decode cX5_mayCut 93 = .ok (.goto (-88), 3) := by decide +kernel
theorem dX5_mayCut_96 : decode cX5_mayCut 96 = .ok (.iload_n 3, 1) := by decide +kernel
theorem dX5_mayCut_97 : decode cX5_mayCut 97 = .ok (.ireturn, 1) := by decide +kernel
set_option maxRecDepth 20000 in
theorem ggX5_may_X5_isNameOf : GoodIn wsX5_may wsX5_isNameOf := goodIn_r _ [5, 6, 7, 8, 4, 9, 37, 38, 39, 40, 41, 42, 43, 44, 45, 46, 47, 48, 49, 50, 51, 52, 53, 54, 55, 56, 57, 58, 59, 60, 61, 62, 63, 64, 65] (by decide +kernel) (by decide +kernel)
set_option maxRecDepth 20000 in
theorem gX5_may_X5_isNameOf : GoodIn wsX5_may (wsV RX5 245 RX5 yX5_isNameOf wsX5_isNameOf) := goodIn_app (goodIn_of _ (by decide +kernel)) ggX5_may_X5_isNameOf
set_option maxRecDepth 20000 in
theorem ggX5_may_X5_isSign : GoodIn wsX5_may wsX5_isSign := goodIn_r _ [13, 14, 7, 8, 4, 9, 37, 38, 39, 40, 41, 42, 43, 44, 45, 46, 47, 48, 49, 50, 51, 52, 53, 54, 55, 56, 57, 58, 59, 60, 61, 62, 63, 64, 65] (by decide +kernel) (by decide +kernel)
set_option maxRecDepth 20000 in
theorem gX5_may_X5_isSign : GoodIn wsX5_may (wsV RX5 140 RX5 yX5_isSign wsX5_isSign) := goodIn_app (goodIn_of _ (by decide +kernel)) ggX5_may_X5_isSign
set_option maxRecDepth 20000 in
theorem ggX5_may_X5_mayCut : GoodIn wsX5_may wsX5_mayCut := goodIn_r _ [18, 19, 20, 21, 22, 23, 24, 4, 25, 26, 27, 28, 29, 30, 31, 32, 33, 34, 35, 36, 37, 38, 39, 40, 41, 42, 43, 44, 45, 46, 47, 48, 49, 50, 51, 52, 53, 54, 55, 56, 57, 58, 59, 60, 61, 62, 63, 64, 65] (by decide +kernel) (by decide +kernel)
set_option maxRecDepth 20000 in
theorem gX5_may_X5_mayCut : GoodIn wsX5_may (wsV RX5 248 RX5 yX5_mayCut wsX5_mayCut) := goodIn_app (goodIn_of _ (by decide +kernel)) ggX5_may_X5_mayCut
theorem dX5_may_0 : decode cX5_may 0 = .ok (.aload_n 0, 1) := by decide +kernel
theorem dX5_may_1 : decode cX5_may 1 = .ok (.iload_n 1, 1) := by decide +kernel
theorem dX5_may_2 : decode cX5_may 2 = .ok (.invokevirtual 245, 3) := by decide +kernel
theorem dX5_may_5 : decode cX5_may 5 = .ok (.ifCond .eq 11, 3) := by decide +kernel
theorem dX5_may_8 : decode cX5_may 8 = .ok (.aload_n 0, 1) := by decide +kernel
theorem dX5_may_9 : decode cX5_may 9 = .ok (.iload_n 2, 1) := by decide +kernel
theorem dX5_may_10 : decode cX5_may 10 = .ok (.invokevirtual 140, 3) := by decide +kernel
theorem dX5_may_13 : decode cX5_may 13 = .ok (.ifCond .ne 7, 3) := by decide +kernel
theorem dX5_may_16 : decode cX5_may 16 = .ok (.iconst (-1), 1) := by decide +kernel
theorem dX5_may_17 : decode cX5_may 17 = .ok (.goto 17, 3) := by decide +kernel
theorem dX5_may_20 : decode cX5_may 20 = .ok (.aload_n 0, 1) := by decide +kernel
theorem dX5_may_21 : decode cX5_may 21 = .ok (.iload_n 1, 1) := by decide +kernel
theorem dX5_may_22 : decode cX5_may 22 = .ok (.iload_n 2, 1) := by decide +kernel
theorem dX5_may_23 : decode cX5_may 23 = .ok (.invokevirtual 248, 3) := by decide +kernel
theorem dX5_may_26 : decode cX5_may 26 = .ok (.ifCond .eq 7, 3) := by decide +kernel
theorem dX5_may_29 : decode cX5_may 29 = .ok (.iconst 1, 1) := by decide +kernel
theorem dX5_may_30 : decode cX5_may 30 = .ok (.goto 4, 3) := by decide +kernel
theorem dX5_may_33 : decode cX5_may 33 = .ok (.iconst 0, 1) := by decide +kernel
theorem dX5_may_34 : decode cX5_may 34 = .ok (.ireturn, 1) := by decide +kernel
set_option maxRecDepth 20000 in
theorem ggX5_waysOf_X5_ofSign : GoodIn wsX5_waysOf wsX5_ofSign := goodIn_r _ [9, 10, 11, 32, 33, 34, 35, 36, 37, 38, 39, 40, 41, 42, 43, 44, 45, 46, 47, 48, 49, 50, 51, 52, 53, 54, 55, 56, 57, 58, 59, 60] (by decide +kernel) (by decide +kernel)
set_option maxRecDepth 20000 in
theorem gX5_waysOf_X5_ofSign : GoodIn wsX5_waysOf (wsV RX5 146 RX5 yX5_ofSign wsX5_ofSign) := goodIn_app (goodIn_of _ (by decide +kernel)) ggX5_waysOf_X5_ofSign
set_option maxRecDepth 20000 in
theorem ggX5_waysOf_X5_mayCut : GoodIn wsX5_waysOf wsX5_mayCut := goodIn_r _ [15, 10, 16, 17, 11, 18, 19, 8, 20, 21, 22, 23, 24, 25, 26, 27, 28, 29, 30, 31, 32, 33, 34, 35, 36, 37, 38, 39, 40, 41, 42, 43, 44, 45, 46, 47, 48, 49, 50, 51, 52, 53, 54, 55, 56, 57, 58, 59, 60] (by decide +kernel) (by decide +kernel)
set_option maxRecDepth 20000 in
theorem gX5_waysOf_X5_mayCut : GoodIn wsX5_waysOf (wsV RX5 248 RX5 yX5_mayCut wsX5_mayCut) := goodIn_app (goodIn_of _ (by decide +kernel)) ggX5_waysOf_X5_mayCut
theorem dX5_waysOf_0 : decode cX5_waysOf 0 = .ok (.iconst 0, 1) := by decide +kernel
theorem dX5_waysOf_1 : decode cX5_waysOf 1 = .ok (.istore_n 3, 1) := by decide +kernel
theorem dX5_waysOf_2 : decode cX5_waysOf 2 = .ok (.iload_n 3, 1) := by decide +kernel
theorem dX5_waysOf_3 : decode cX5_waysOf 3 = .ok (.sipush 1024, 3) := by decide +kernel
theorem dX5_waysOf_6 : decode cX5_waysOf 6 = .ok (.if_icmp .ge 24, 3) := by decide +kernel
theorem dX5_waysOf_9 : decode cX5_waysOf 9 = .ok (.aload_n 0, 1) := by decide +kernel
theorem dX5_waysOf_10 : decode cX5_waysOf 10 = .ok (.getfield 62, 3) := by decide +kernel
theorem dX5_waysOf_13 : decode cX5_waysOf 13 = .ok (.iload_n 3, 1) := by decide +kernel
theorem dX5_waysOf_14 : decode cX5_waysOf 14 = .ok (.iload_n 3, 1) := by decide +kernel
theorem dX5_waysOf_15 : decode cX5_waysOf 15 = .ok (.ifCond .ne 7, 3) := by decide +kernel
theorem dX5_waysOf_18 : decode cX5_waysOf 18 = .ok (.lconst 1, 1) := by decide +kernel
theorem dX5_waysOf_19 : decode cX5_waysOf 19 = .ok (.goto 4, 3) := by decide +kernel
theorem dX5_waysOf_22 : decode cX5_waysOf 22 = .ok (.lconst 0, 1) := by decide +kernel
theorem dX5_waysOf_23 : decode cX5_waysOf 23 = .ok (.lastore, 1) := by decide +kernel
theorem dX5_waysOf_24 : decode cX5_waysOf 24 = .ok (.iinc 3 1, 3) := by decide +kernel
theorem dX5_waysOf_27 : decode cX5_waysOf 27 = .ok (.goto (-25), 3) := by decide +kernel
theorem dX5_waysOf_30 : decode cX5_waysOf 30 = .ok (.iconst 0, 1) := by decide +kernel
theorem dX5_waysOf_31 : decode cX5_waysOf 31 = .ok (.istore_n 3, 1) := by decide +kernel
theorem dX5_waysOf_32 : decode cX5_waysOf 32 = .ok (.iload_n 3, 1) := by decide +kernel
theorem dX5_waysOf_33 : decode cX5_waysOf 33 = .ok (.aload_n 0, 1) := by decide +kernel
theorem dX5_waysOf_34 : decode cX5_waysOf 34 = .ok (.getfield 13, 3) := by decide +kernel
theorem dX5_waysOf_37 : decode cX5_waysOf 37 = .ok (.iconst 0, 1) := by decide +kernel
theorem dX5_waysOf_38 : decode cX5_waysOf 38 = .ok (.iaload, 1) := by decide +kernel
theorem dX5_waysOf_39 : decode cX5_waysOf 39 = .ok (.if_icmp .ge 179, 3) := by decide +kernel
theorem dX5_waysOf_42 : decode cX5_waysOf 42 = .ok (.aload_n 0, 1) := by decide +kernel
theorem dX5_waysOf_43 : decode cX5_waysOf 43 = .ok (.iload_n 3, 1) := by decide +kernel
theorem dX5_waysOf_44 : decode cX5_waysOf 44 = .ok (.invokevirtual 146, 3) := by decide +kernel
theorem dX5_waysOf_47 : decode cX5_waysOf 47 = .ok (.ifCond .le 165, 3) := by decide +kernel
theorem dX5_waysOf_50 : decode cX5_waysOf 50 = .ok (.iconst 0, 1) := by decide +kernel
theorem dX5_waysOf_51 : decode cX5_waysOf 51 = .ok (.istore 4, 2) := by decide +kernel
theorem dX5_waysOf_53 : decode cX5_waysOf 53 = .ok (.iload 4, 2) := by decide +kernel
theorem dX5_waysOf_55 : decode cX5_waysOf 55 = .ok (.sipush 1024, 3) := by decide +kernel
theorem dX5_waysOf_58 : decode cX5_waysOf 58 = .ok (.if_icmp .ge 17, 3) := by decide +kernel
theorem dX5_waysOf_61 : decode cX5_waysOf 61 = .ok (.aload_n 0, 1) := by decide +kernel
theorem dX5_waysOf_62 : decode cX5_waysOf 62 = .ok (.getfield 66, 3) := by decide +kernel
theorem dX5_waysOf_65 : decode cX5_waysOf 65 = .ok (.iload 4, 2) := by decide +kernel
theorem dX5_waysOf_67 : decode cX5_waysOf 67 = .ok (.lconst 0, 1) := by decide +kernel
theorem dX5_waysOf_68 : decode cX5_waysOf 68 = .ok (.lastore, 1) := by decide +kernel
theorem dX5_waysOf_69 : decode cX5_waysOf 69 = .ok (.iinc 4 1, 3) := by decide +kernel
theorem dX5_waysOf_72 : decode cX5_waysOf 72 = .ok (.goto (-19), 3) := by decide +kernel
theorem dX5_waysOf_75 : decode cX5_waysOf 75 = .ok (.iconst 0, 1) := by decide +kernel
theorem dX5_waysOf_76 : decode cX5_waysOf 76 = .ok (.istore 4, 2) := by decide +kernel
theorem dX5_waysOf_78 : decode cX5_waysOf 78 = .ok (.iload 4, 2) := by decide +kernel
theorem dX5_waysOf_80 : decode cX5_waysOf 80 = .ok (.aload_n 0, 1) := by decide +kernel
theorem dX5_waysOf_81 : decode cX5_waysOf 81 = .ok (.getfield 29, 3) := by decide +kernel
theorem dX5_waysOf_84 : decode cX5_waysOf 84 = .ok (.iconst 0, 1) := by decide +kernel
theorem dX5_waysOf_85 : decode cX5_waysOf 85 = .ok (.iaload, 1) := by decide +kernel
theorem dX5_waysOf_86 : decode cX5_waysOf 86 = .ok (.if_icmp .ge 95, 3) := by decide +kernel
theorem dX5_waysOf_89 : decode cX5_waysOf 89 = .ok (.aload_n 0, 1) := by decide +kernel
theorem dX5_waysOf_90 : decode cX5_waysOf 90 = .ok (.iload 4, 2) := by decide +kernel
theorem dX5_waysOf_92 : decode cX5_waysOf 92 = .ok (.iload_n 3, 1) := by decide +kernel
theorem dX5_waysOf_93 : decode cX5_waysOf 93 = .ok (.invokevirtual 248, 3) := by decide +kernel
theorem dX5_waysOf_96 : decode cX5_waysOf 96 = .ok (.ifCond .eq 18, 3) := by decide +kernel
theorem dX5_waysOf_99 : decode cX5_waysOf 99 = .ok (.iload_n 3, 1) := by decide +kernel
theorem dX5_waysOf_100 : decode cX5_waysOf 100 = .ok (.iload_n 2, 1) := by decide +kernel
theorem dX5_waysOf_101 : decode cX5_waysOf 101 = .ok (.if_icmp .ne 9, 3) := by decide +kernel
theorem dX5_waysOf_104 : decode cX5_waysOf 104 = .ok (.iload 4, 2) := by decide +kernel
theorem dX5_waysOf_106 : decode cX5_waysOf 106 = .ok (.iload_n 1, 1) := by decide +kernel
theorem dX5_waysOf_107 : decode cX5_waysOf 107 = .ok (.if_icmp .ne 7, 3) := by decide +kernel
theorem dX5_waysOf_110 : decode cX5_waysOf 110 = .ok (.iconst 1, 1) := by decide +kernel
theorem dX5_waysOf_111 : decode cX5_waysOf 111 = .ok (.goto 4, 3) := by decide +kernel
theorem dX5_waysOf_114 : decode cX5_waysOf 114 = .ok (.iconst 0, 1) := by decide +kernel
theorem dX5_waysOf_115 : decode cX5_waysOf 115 = .ok (.istore 5, 2) := by decide +kernel
theorem dX5_waysOf_117 : decode cX5_waysOf 117 = .ok (.iconst 0, 1) := by decide +kernel
theorem dX5_waysOf_118 : decode cX5_waysOf 118 = .ok (.istore 6, 2) := by decide +kernel
theorem dX5_waysOf_120 : decode cX5_waysOf 120 = .ok (.iload 6, 2) := by decide +kernel
theorem dX5_waysOf_122 : decode cX5_waysOf 122 = .ok (.sipush 1024, 3) := by decide +kernel
theorem dX5_waysOf_125 : decode cX5_waysOf 125 = .ok (.if_icmp .ge 50, 3) := by decide +kernel
theorem dX5_waysOf_128 : decode cX5_waysOf 128 = .ok (.iload 5, 2) := by decide +kernel
theorem dX5_waysOf_130 : decode cX5_waysOf 130 = .ok (.ifCond .eq 45, 3) := by decide +kernel
theorem dX5_waysOf_133 : decode cX5_waysOf 133 = .ok (.aload_n 0, 1) := by decide +kernel
theorem dX5_waysOf_134 : decode cX5_waysOf 134 = .ok (.getfield 66, 3) := by decide +kernel
theorem dX5_waysOf_137 : decode cX5_waysOf 137 = .ok (.iload 6, 2) := by decide +kernel
theorem dX5_waysOf_139 : decode cX5_waysOf 139 = .ok (.iconst 1, 1) := by decide +kernel
theorem dX5_waysOf_140 : decode cX5_waysOf 140 = .ok (.iload 4, 2) := by decide +kernel
theorem dX5_waysOf_142 : decode cX5_waysOf 142 = .ok (.ishl, 1) := by decide +kernel
theorem dX5_waysOf_143 : decode cX5_waysOf 143 = .ok (.ior, 1) := by decide +kernel
theorem dX5_waysOf_144 : decode cX5_waysOf 144 = .ok (.dup2, 1) := by decide +kernel
theorem dX5_waysOf_145 : decode cX5_waysOf 145 = .ok (.laload, 1) := by decide +kernel
theorem dX5_waysOf_146 : decode cX5_waysOf 146 = .ok (.iload 6, 2) := by decide +kernel
theorem dX5_waysOf_148 : decode cX5_waysOf 148 = .ok (.iload 4, 2) := by decide +kernel
theorem dX5_waysOf_150 : decode cX5_waysOf 150 = .ok (.ishr, 1) := by decide +kernel
theorem dX5_waysOf_151 : decode cX5_waysOf 151 = .ok (.iconst 1, 1) := by decide +kernel
theorem dX5_waysOf_152 : decode cX5_waysOf 152 = .ok (.iand, 1) := by decide +kernel
theorem dX5_waysOf_153 : decode cX5_waysOf 153 = .ok (.ifCond .ne 13, 3) := by decide +kernel
theorem dX5_waysOf_156 : decode cX5_waysOf 156 = .ok (.aload_n 0, 1) := by decide +kernel
theorem dX5_waysOf_157 : decode cX5_waysOf 157 = .ok (.getfield 62, 3) := by decide +kernel
theorem dX5_waysOf_160 : decode cX5_waysOf 160 = .ok (.iload 6, 2) := by decide +kernel
theorem dX5_waysOf_162 : decode cX5_waysOf 162 = .ok (.laload, 1) := by decide +kernel
theorem dX5_waysOf_163 : decode cX5_waysOf 163 = .ok (.goto 4, 3) := by decide +kernel
theorem dX5_waysOf_166 : decode cX5_waysOf 166 = .ok (.lconst 0, 1) := by decide +kernel
theorem dX5_waysOf_167 : decode cX5_waysOf 167 = .ok (.ladd, 1) := by decide +kernel
theorem dX5_waysOf_168 : decode cX5_waysOf 168 = .ok (.lastore, 1) := by decide +kernel
theorem dX5_waysOf_169 : decode cX5_waysOf 169 = .ok (.iinc 6 1, 3) := by decide +kernel
theorem dX5_waysOf_172 : decode cX5_waysOf 172 = .ok (.goto (-52), 3) := by decide +kernel
theorem dX5_waysOf_175 : decode cX5_waysOf 175 = .ok (.iinc 4 1, 3) := by decide +kernel
theorem dX5_waysOf_178 : decode cX5_waysOf 178 = .ok (.goto (-100), 3) := by decide +kernel
theorem dX5_waysOf_181 : decode cX5_waysOf 181 = .ok (.iconst 0, 1) := by decide +kernel
theorem dX5_waysOf_182 : decode cX5_waysOf 182 = .ok (.istore 4, 2) := by decide +kernel
theorem dX5_waysOf_184 : decode cX5_waysOf 184 = .ok (.iload 4, 2) := by decide +kernel
theorem dX5_waysOf_186 : decode cX5_waysOf 186 = .ok (.sipush 1024, 3) := by decide +kernel
theorem dX5_waysOf_189 : decode cX5_waysOf 189 = .ok (.if_icmp .ge 23, 3) := by decide +kernel
theorem dX5_waysOf_192 : decode cX5_waysOf 192 = .ok (.aload_n 0, 1) := by decide +kernel
theorem dX5_waysOf_193 : decode cX5_waysOf 193 = .ok (.getfield 62, 3) := by decide +kernel
theorem dX5_waysOf_196 : decode cX5_waysOf 196 = .ok (.iload 4, 2) := by decide +kernel
theorem dX5_waysOf_198 : decode cX5_waysOf 198 = .ok (.aload_n 0, 1) := by decide +kernel
theorem dX5_waysOf_199 : decode cX5_waysOf 199 = .ok (.getfield 66, 3) := by decide +kernel
theorem dX5_waysOf_202 : decode cX5_waysOf 202 = .ok (.iload 4, 2) := by decide +kernel
theorem dX5_waysOf_204 : decode cX5_waysOf 204 = .ok (.laload, 1) := by decide +kernel
theorem dX5_waysOf_205 : decode cX5_waysOf 205 = .ok (.lastore, 1) := by decide +kernel
theorem dX5_waysOf_206 : decode cX5_waysOf 206 = .ok (.iinc 4 1, 3) := by decide +kernel
theorem dX5_waysOf_209 : decode cX5_waysOf 209 = .ok (.goto (-25), 3) := by decide +kernel
theorem dX5_waysOf_212 : decode cX5_waysOf 212 = .ok (.iinc 3 1, 3) := by decide +kernel
theorem dX5_waysOf_215 : decode cX5_waysOf 215 = .ok (.goto (-183), 3) := by decide +kernel
theorem dX5_waysOf_218 : decode cX5_waysOf 218 = .ok (.lconst 0, 1) := by decide +kernel
theorem dX5_waysOf_219 : decode cX5_waysOf 219 = .ok (.lstore_n 3, 1) := by decide +kernel
theorem dX5_waysOf_220 : decode cX5_waysOf 220 = .ok (.iconst 0, 1) := by decide +kernel
theorem dX5_waysOf_221 : decode cX5_waysOf 221 = .ok (.istore 5, 2) := by decide +kernel
theorem dX5_waysOf_223 : decode cX5_waysOf 223 = .ok (.iload 5, 2) := by decide +kernel
theorem dX5_waysOf_225 : decode cX5_waysOf 225 = .ok (.sipush 1024, 3) := by decide +kernel
theorem dX5_waysOf_228 : decode cX5_waysOf 228 = .ok (.if_icmp .ge 19, 3) := by decide +kernel
theorem dX5_waysOf_231 : decode cX5_waysOf 231 = .ok (.lload_n 3, 1) := by decide +kernel
theorem dX5_waysOf_232 : decode cX5_waysOf 232 = .ok (.aload_n 0, 1) := by decide +kernel
theorem dX5_waysOf_233 : decode cX5_waysOf 233 = .ok (.getfield 62, 3) := by decide +kernel
theorem dX5_waysOf_236 : decode cX5_waysOf 236 = .ok (.iload 5, 2) := by decide +kernel
theorem dX5_waysOf_238 : decode cX5_waysOf 238 = .ok (.laload, 1) := by decide +kernel
theorem dX5_waysOf_239 : decode cX5_waysOf 239 = .ok (.ladd, 1) := by decide +kernel
theorem dX5_waysOf_240 : decode cX5_waysOf 240 = .ok (.lstore_n 3, 1) := by decide +kernel
theorem dX5_waysOf_241 : decode cX5_waysOf 241 = .ok (.iinc 5 1, 3) := by decide +kernel
theorem dX5_waysOf_244 : decode cX5_waysOf 244 = .ok (.goto (-21), 3) := by decide +kernel
theorem dX5_waysOf_247 : decode cX5_waysOf 247 = .ok (.lload_n 3, 1) := by decide +kernel
theorem dX5_waysOf_248 : decode cX5_waysOf 248 = .ok (.lreturn, 1) := by decide +kernel
set_option maxRecDepth 20000 in
theorem ggX5_partings_X5_waysOf : GoodIn wsX5_partings wsX5_waysOf := goodIn_r _ [5, 6, 7, 8, 9, 10, 11, 12, 4, 13, 14, 15, 16, 17, 18, 19, 20, 21, 22, 23, 24, 25, 26, 27, 28, 29, 30, 31, 32, 33, 34, 35, 36, 37, 38, 39, 40, 41, 42, 43, 44, 45, 46, 47, 48, 49, 50, 51, 52, 53, 54, 55, 56, 57, 58, 59, 60, 61, 62, 63, 64] (by decide +kernel) (by decide +kernel)
set_option maxRecDepth 20000 in
theorem gX5_partings_X5_waysOf : GoodIn wsX5_partings (wsV RX5 251 RX5 yX5_waysOf wsX5_waysOf) := goodIn_app (goodIn_of _ (by decide +kernel)) ggX5_partings_X5_waysOf
theorem dX5_partings_0 : decode cX5_partings 0 = .ok (.aload_n 0, 1) := by decide +kernel
theorem dX5_partings_1 : decode cX5_partings 1 = .ok (.iconst (-1), 1) := by decide +kernel
theorem dX5_partings_2 : decode cX5_partings 2 = .ok (.iconst (-1), 1) := by decide +kernel
theorem dX5_partings_3 : decode cX5_partings 3 = .ok (.invokevirtual 251, 3) := by decide +kernel
theorem dX5_partings_6 : decode cX5_partings 6 = .ok (.lreturn, 1) := by decide +kernel
set_option maxRecDepth 20000 in
theorem ggX5_odds_X5_isNameOf : GoodIn wsX5_odds wsX5_isNameOf := goodIn_r _ [9, 10, 11, 12, 8, 13, 55, 56, 57, 58, 59, 60, 61, 62, 63, 64, 65, 66, 67, 68, 69, 70, 71, 72, 73, 74, 75, 76, 77, 78, 79, 80, 81, 82, 83] (by decide +kernel) (by decide +kernel)
set_option maxRecDepth 20000 in
theorem gX5_odds_X5_isNameOf : GoodIn wsX5_odds (wsV RX5 245 RX5 yX5_isNameOf wsX5_isNameOf) := goodIn_app (goodIn_of _ (by decide +kernel)) ggX5_odds_X5_isNameOf
set_option maxRecDepth 20000 in
theorem ggX5_odds_X5_isSign : GoodIn wsX5_odds wsX5_isSign := goodIn_r _ [17, 18, 11, 12, 8, 13, 55, 56, 57, 58, 59, 60, 61, 62, 63, 64, 65, 66, 67, 68, 69, 70, 71, 72, 73, 74, 75, 76, 77, 78, 79, 80, 81, 82, 83] (by decide +kernel) (by decide +kernel)
set_option maxRecDepth 20000 in
theorem gX5_odds_X5_isSign : GoodIn wsX5_odds (wsV RX5 140 RX5 yX5_isSign wsX5_isSign) := goodIn_app (goodIn_of _ (by decide +kernel)) ggX5_odds_X5_isSign
set_option maxRecDepth 20000 in
theorem ggX5_odds_X5_between : GoodIn wsX5_odds wsX5_between := goodIn_r _ [13] (by decide +kernel) (by decide +kernel)
set_option maxRecDepth 20000 in
theorem gX5_odds_X5_between : GoodIn wsX5_odds (va_wsS RX5 74 yX5_between wsX5_between) := goodIn_app (goodIn_of _ (by decide +kernel)) ggX5_odds_X5_between
set_option maxRecDepth 20000 in
theorem ggX5_odds_X5_waysOf : GoodIn wsX5_odds wsX5_waysOf := goodIn_r _ [22, 23, 18, 24, 10, 25, 26, 27, 8, 28, 29, 30, 31, 32, 33, 34, 35, 36, 37, 38, 39, 40, 41, 42, 43, 44, 45, 46, 47, 48, 49, 50, 55, 56, 57, 58, 59, 60, 61, 62, 63, 64, 65, 66, 67, 68, 69, 70, 71, 72, 73, 74, 75, 76, 77, 78, 79, 80, 81, 82, 83] (by decide +kernel) (by decide +kernel)
set_option maxRecDepth 20000 in
theorem gX5_odds_X5_waysOf : GoodIn wsX5_odds (wsV RX5 251 RX5 yX5_waysOf wsX5_waysOf) := goodIn_app (goodIn_of _ (by decide +kernel)) ggX5_odds_X5_waysOf
set_option maxRecDepth 20000 in
theorem ggX5_odds_X5_ofSign : GoodIn wsX5_odds wsX5_ofSign := goodIn_r _ [28, 29, 30, 55, 56, 57, 58, 59, 60, 61, 62, 63, 64, 65, 66, 67, 68, 69, 70, 71, 72, 73, 74, 75, 76, 77, 78, 79, 80, 81, 82, 83] (by decide +kernel) (by decide +kernel)
set_option maxRecDepth 20000 in
theorem gX5_odds_X5_ofSign : GoodIn wsX5_odds (wsV RX5 146 RX5 yX5_ofSign wsX5_ofSign) := goodIn_app (goodIn_of _ (by decide +kernel)) ggX5_odds_X5_ofSign
set_option maxRecDepth 20000 in
theorem ggX5_odds_X5_lowest : GoodIn wsX5_odds wsX5_lowest := goodIn_r _ [54, 3, 4, 55, 56, 57, 58, 59, 60, 61, 62, 63, 64, 65, 66, 67, 68, 69, 70, 71, 72, 73, 74, 75, 76, 77, 78, 79, 80, 81, 82, 83] (by decide +kernel) (by decide +kernel)
set_option maxRecDepth 20000 in
theorem gX5_odds_X5_lowest : GoodIn wsX5_odds (wsV RX5 182 RX5 yX5_lowest wsX5_lowest) := goodIn_app (goodIn_of _ (by decide +kernel)) ggX5_odds_X5_lowest
theorem dX5_odds_0 : decode cX5_odds 0 = .ok (.aload_n 0, 1) := by decide +kernel
theorem dX5_odds_1 : decode cX5_odds 1 = .ok (.iload_n 1, 1) := by decide +kernel
theorem dX5_odds_2 : decode cX5_odds 2 = .ok (.invokevirtual 245, 3) := by decide +kernel
theorem dX5_odds_5 : decode cX5_odds 5 = .ok (.ifCond .eq 21, 3) := by decide +kernel
theorem dX5_odds_8 : decode cX5_odds 8 = .ok (.aload_n 0, 1) := by decide +kernel
theorem dX5_odds_9 : decode cX5_odds 9 = .ok (.iload_n 2, 1) := by decide +kernel
theorem dX5_odds_10 : decode cX5_odds 10 = .ok (.invokevirtual 140, 3) := by decide +kernel
theorem dX5_odds_13 : decode cX5_odds 13 = .ok (.ifCond .eq 13, 3) := by decide +kernel
theorem dX5_odds_16 : decode cX5_odds 16 = .ok (.iload_n 3, 1) := by decide +kernel
theorem dX5_odds_17 : decode cX5_odds 17 = .ok (.i2l, 1) := by decide +kernel
theorem dX5_odds_18 : decode cX5_odds 18 = .ok (.lconst 0, 1) := by decide +kernel
theorem dX5_odds_19 : decode cX5_odds 19 = .ok (.lconst 1, 1) := by decide +kernel
theorem dX5_odds_20 : decode cX5_odds 20 = .ok (.invokestatic 74, 3) := by decide +kernel
theorem dX5_odds_23 : decode cX5_odds 23 = .ok (.ifCond .ne 7, 3) := by decide +kernel
theorem dX5_odds_26 : decode cX5_odds 26 = .ok (.ldc2_w 176, 3) := by decide +kernel
theorem dX5_odds_29 : decode cX5_odds 29 = .ok (.lreturn, 1) := by decide +kernel
theorem dX5_odds_30 : decode cX5_odds 30 = .ok (.aload_n 0, 1) := by decide +kernel
theorem dX5_odds_31 : decode cX5_odds 31 = .ok (.iconst (-1), 1) := by decide +kernel
theorem dX5_odds_32 : decode cX5_odds 32 = .ok (.iconst (-1), 1) := by decide +kernel
theorem dX5_odds_33 : decode cX5_odds 33 = .ok (.invokevirtual 251, 3) := by decide +kernel
theorem dX5_odds_36 : decode cX5_odds 36 = .ok (.lstore 4, 2) := by decide +kernel
theorem dX5_odds_38 : decode cX5_odds 38 = .ok (.lload 4, 2) := by decide +kernel
theorem dX5_odds_40 : decode cX5_odds 40 = .ok (.lconst 0, 1) := by decide +kernel
theorem dX5_odds_41 : decode cX5_odds 41 = .ok (.lcmp, 1) := by decide +kernel
theorem dX5_odds_42 : decode cX5_odds 42 = .ok (.ifCond .eq 11, 3) := by decide +kernel
theorem dX5_odds_45 : decode cX5_odds 45 = .ok (.aload_n 0, 1) := by decide +kernel
theorem dX5_odds_46 : decode cX5_odds 46 = .ok (.iload_n 2, 1) := by decide +kernel
theorem dX5_odds_47 : decode cX5_odds 47 = .ok (.invokevirtual 146, 3) := by decide +kernel
theorem dX5_odds_50 : decode cX5_odds 50 = .ok (.ifCond .ne 7, 3) := by decide +kernel
theorem dX5_odds_53 : decode cX5_odds 53 = .ok (.ldc2_w 254, 3) := by decide +kernel
theorem dX5_odds_56 : decode cX5_odds 56 = .ok (.lreturn, 1) := by decide +kernel
theorem dX5_odds_57 : decode cX5_odds 57 = .ok (.aload_n 0, 1) := by decide +kernel
theorem dX5_odds_58 : decode cX5_odds 58 = .ok (.aload_n 0, 1) := by decide +kernel
theorem dX5_odds_59 : decode cX5_odds 59 = .ok (.iload_n 1, 1) := by decide +kernel
theorem dX5_odds_60 : decode cX5_odds 60 = .ok (.iload_n 2, 1) := by decide +kernel
theorem dX5_odds_61 : decode cX5_odds 61 = .ok (.invokevirtual 251, 3) := by decide +kernel
theorem dX5_odds_64 : decode cX5_odds 64 = .ok (.lload 4, 2) := by decide +kernel
theorem dX5_odds_66 : decode cX5_odds 66 = .ok (.invokevirtual 182, 3) := by decide +kernel
theorem dX5_odds_69 : decode cX5_odds 69 = .ok (.iload_n 3, 1) := by decide +kernel
theorem dX5_odds_70 : decode cX5_odds 70 = .ok (.ifCond .ne 10, 3) := by decide +kernel
theorem dX5_odds_73 : decode cX5_odds 73 = .ok (.aload_n 0, 1) := by decide +kernel
theorem dX5_odds_74 : decode cX5_odds 74 = .ok (.getfield 167, 3) := by decide +kernel
theorem dX5_odds_77 : decode cX5_odds 77 = .ok (.goto 7, 3) := by decide +kernel
theorem dX5_odds_80 : decode cX5_odds 80 = .ok (.aload_n 0, 1) := by decide +kernel
theorem dX5_odds_81 : decode cX5_odds 81 = .ok (.getfield 171, 3) := by decide +kernel
theorem dX5_odds_84 : decode cX5_odds 84 = .ok (.lreturn, 1) := by decide +kernel
set_option maxRecDepth 20000 in
theorem ggX5_nameOf_X5_ofSign : GoodIn wsX5_nameOf wsX5_ofSign := goodIn_r _ [6, 7, 8, 36, 37, 38, 39, 40, 41, 42, 43, 44, 45, 46, 47, 48, 49, 50, 51, 52, 53, 54, 55, 56, 57, 58, 59, 60, 61, 62, 63, 64] (by decide +kernel) (by decide +kernel)
set_option maxRecDepth 20000 in
theorem gX5_nameOf_X5_ofSign : GoodIn wsX5_nameOf (wsV RX5 146 RX5 yX5_ofSign wsX5_ofSign) := goodIn_app (goodIn_of _ (by decide +kernel)) ggX5_nameOf_X5_ofSign
set_option maxRecDepth 20000 in
theorem ggX5_nameOf_X5_waysOf : GoodIn wsX5_nameOf wsX5_waysOf := goodIn_r _ [12, 13, 14, 15, 1, 2, 3, 4, 5, 6, 7, 8, 16, 17, 18, 19, 20, 21, 22, 23, 24, 25, 26, 27, 28, 29, 30, 31, 32, 33, 34, 35, 36, 37, 38, 39, 40, 41, 42, 43, 44, 45, 46, 47, 48, 49, 50, 51, 52, 53, 54, 55, 56, 57, 58, 59, 60, 61, 62, 63, 64] (by decide +kernel) (by decide +kernel)
set_option maxRecDepth 20000 in
theorem gX5_nameOf_X5_waysOf : GoodIn wsX5_nameOf (wsV RX5 251 RX5 yX5_waysOf wsX5_waysOf) := goodIn_app (goodIn_of _ (by decide +kernel)) ggX5_nameOf_X5_waysOf
theorem dX5_nameOf_0 : decode cX5_nameOf 0 = .ok (.bipush (-4), 2) := by decide +kernel
theorem dX5_nameOf_2 : decode cX5_nameOf 2 = .ok (.istore 4, 2) := by decide +kernel
theorem dX5_nameOf_4 : decode cX5_nameOf 4 = .ok (.iconst 0, 1) := by decide +kernel
theorem dX5_nameOf_5 : decode cX5_nameOf 5 = .ok (.istore 5, 2) := by decide +kernel
theorem dX5_nameOf_7 : decode cX5_nameOf 7 = .ok (.iload 5, 2) := by decide +kernel
theorem dX5_nameOf_9 : decode cX5_nameOf 9 = .ok (.aload_n 0, 1) := by decide +kernel
theorem dX5_nameOf_10 : decode cX5_nameOf 10 = .ok (.getfield 29, 3) := by decide +kernel
theorem dX5_nameOf_13 : decode cX5_nameOf 13 = .ok (.iconst 0, 1) := by decide +kernel
theorem dX5_nameOf_14 : decode cX5_nameOf 14 = .ok (.iaload, 1) := by decide +kernel
theorem dX5_nameOf_15 : decode cX5_nameOf 15 = .ok (.if_icmp .ge 38, 3) := by decide +kernel
theorem dX5_nameOf_18 : decode cX5_nameOf 18 = .ok (.aload_n 0, 1) := by decide +kernel
theorem dX5_nameOf_19 : decode cX5_nameOf 19 = .ok (.iload_n 1, 1) := by decide +kernel
theorem dX5_nameOf_20 : decode cX5_nameOf 20 = .ok (.invokevirtual 146, 3) := by decide +kernel
theorem dX5_nameOf_23 : decode cX5_nameOf 23 = .ok (.ifCond .le 30, 3) := by decide +kernel
theorem dX5_nameOf_26 : decode cX5_nameOf 26 = .ok (.aload_n 0, 1) := by decide +kernel
theorem dX5_nameOf_27 : decode cX5_nameOf 27 = .ok (.iload 5, 2) := by decide +kernel
theorem dX5_nameOf_29 : decode cX5_nameOf 29 = .ok (.iload_n 1, 1) := by decide +kernel
theorem dX5_nameOf_30 : decode cX5_nameOf 30 = .ok (.invokevirtual 251, 3) := by decide +kernel
theorem dX5_nameOf_33 : decode cX5_nameOf 33 = .ok (.lload_n 2, 1) := by decide +kernel
theorem dX5_nameOf_34 : decode cX5_nameOf 34 = .ok (.lcmp, 1) := by decide +kernel
theorem dX5_nameOf_35 : decode cX5_nameOf 35 = .ok (.ifCond .ne 8, 3) := by decide +kernel
theorem dX5_nameOf_38 : decode cX5_nameOf 38 = .ok (.iload 5, 2) := by decide +kernel
theorem dX5_nameOf_40 : decode cX5_nameOf 40 = .ok (.goto 5, 3) := by decide +kernel
theorem dX5_nameOf_43 : decode cX5_nameOf 43 = .ok (.iload 4, 2) := by decide +kernel
theorem dX5_nameOf_45 : decode cX5_nameOf 45 = .ok (.istore 4, 2) := by decide +kernel
theorem dX5_nameOf_47 : decode cX5_nameOf 47 = .ok (.iinc 5 1, 3) := by decide +kernel
theorem dX5_nameOf_50 : decode cX5_nameOf 50 = .ok (.goto (-43), 3) := by decide +kernel
theorem dX5_nameOf_53 : decode cX5_nameOf 53 = .ok (.iload 4, 2) := by decide +kernel
theorem dX5_nameOf_55 : decode cX5_nameOf 55 = .ok (.ireturn, 1) := by decide +kernel
set_option maxRecDepth 20000 in
theorem ggX5_named_X5_isSign : GoodIn wsX5_named wsX5_isSign := goodIn_r _ [6, 1, 7, 8, 5, 9, 47, 48, 49, 50, 51, 52, 53, 54, 55, 56, 57, 58, 59, 60, 61, 62, 63, 64, 65, 66, 67, 68, 69, 70, 71, 72, 73, 74, 75] (by decide +kernel) (by decide +kernel)
set_option maxRecDepth 20000 in
theorem gX5_named_X5_isSign : GoodIn wsX5_named (wsV RX5 140 RX5 yX5_isSign wsX5_isSign) := goodIn_app (goodIn_of _ (by decide +kernel)) ggX5_named_X5_isSign
set_option maxRecDepth 20000 in
theorem ggX5_named_X5_waysOf : GoodIn wsX5_named wsX5_waysOf := goodIn_r _ [13, 14, 1, 15, 16, 17, 18, 19, 5, 20, 21, 22, 23, 24, 25, 26, 27, 28, 29, 30, 31, 32, 33, 34, 35, 36, 37, 38, 39, 40, 41, 42, 47, 48, 49, 50, 51, 52, 53, 54, 55, 56, 57, 58, 59, 60, 61, 62, 63, 64, 65, 66, 67, 68, 69, 70, 71, 72, 73, 74, 75] (by decide +kernel) (by decide +kernel)
set_option maxRecDepth 20000 in
theorem gX5_named_X5_waysOf : GoodIn wsX5_named (wsV RX5 251 RX5 yX5_waysOf wsX5_waysOf) := goodIn_app (goodIn_of _ (by decide +kernel)) ggX5_named_X5_waysOf
set_option maxRecDepth 20000 in
theorem ggX5_named_X5_nameOf : GoodIn wsX5_named wsX5_nameOf := goodIn_r _ [46, 16, 17, 18, 19, 5, 20, 21, 22, 10, 11, 12, 13, 14, 1, 15, 23, 24, 25, 26, 27, 28, 29, 30, 31, 32, 33, 34, 35, 36, 37, 38, 39, 40, 41, 42, 47, 48, 49, 50, 51, 52, 53, 54, 55, 56, 57, 58, 59, 60, 61, 62, 63, 64, 65, 66, 67, 68, 69, 70, 71, 72, 73, 74, 75] (by decide +kernel) (by decide +kernel)
set_option maxRecDepth 20000 in
theorem gX5_named_X5_nameOf : GoodIn wsX5_named (wsV RX5 256 RX5 yX5_nameOf wsX5_nameOf) := goodIn_app (goodIn_of _ (by decide +kernel)) ggX5_named_X5_nameOf
theorem dX5_named_0 : decode cX5_named 0 = .ok (.iload_n 1, 1) := by decide +kernel
theorem dX5_named_1 : decode cX5_named 1 = .ok (.iconst (-1), 1) := by decide +kernel
theorem dX5_named_2 : decode cX5_named 2 = .ok (.if_icmp .eq 13, 3) := by decide +kernel
theorem dX5_named_5 : decode cX5_named 5 = .ok (.aload_n 0, 1) := by decide +kernel
theorem dX5_named_6 : decode cX5_named 6 = .ok (.iload_n 1, 1) := by decide +kernel
theorem dX5_named_7 : decode cX5_named 7 = .ok (.invokevirtual 140, 3) := by decide +kernel
theorem dX5_named_10 : decode cX5_named 10 = .ok (.ifCond .ne 5, 3) := by decide +kernel
theorem dX5_named_13 : decode cX5_named 13 = .ok (.iconst (-1), 1) := by decide +kernel
theorem dX5_named_14 : decode cX5_named 14 = .ok (.ireturn, 1) := by decide +kernel
theorem dX5_named_15 : decode cX5_named 15 = .ok (.aload_n 0, 1) := by decide +kernel
theorem dX5_named_16 : decode cX5_named 16 = .ok (.iconst (-1), 1) := by decide +kernel
theorem dX5_named_17 : decode cX5_named 17 = .ok (.iconst (-1), 1) := by decide +kernel
theorem dX5_named_18 : decode cX5_named 18 = .ok (.invokevirtual 251, 3) := by decide +kernel
theorem dX5_named_21 : decode cX5_named 21 = .ok (.lstore_n 2, 1) := by decide +kernel
theorem dX5_named_22 : decode cX5_named 22 = .ok (.lload_n 2, 1) := by decide +kernel
theorem dX5_named_23 : decode cX5_named 23 = .ok (.lconst 0, 1) := by decide +kernel
theorem dX5_named_24 : decode cX5_named 24 = .ok (.lcmp, 1) := by decide +kernel
theorem dX5_named_25 : decode cX5_named 25 = .ok (.ifCond .ne 6, 3) := by decide +kernel
theorem dX5_named_28 : decode cX5_named 28 = .ok (.bipush (-2), 2) := by decide +kernel
theorem dX5_named_30 : decode cX5_named 30 = .ok (.ireturn, 1) := by decide +kernel
theorem dX5_named_31 : decode cX5_named 31 = .ok (.iload_n 1, 1) := by decide +kernel
theorem dX5_named_32 : decode cX5_named 32 = .ok (.ifCond .lt 10, 3) := by decide +kernel
theorem dX5_named_35 : decode cX5_named 35 = .ok (.aload_n 0, 1) := by decide +kernel
theorem dX5_named_36 : decode cX5_named 36 = .ok (.iload_n 1, 1) := by decide +kernel
theorem dX5_named_37 : decode cX5_named 37 = .ok (.lload_n 2, 1) := by decide +kernel
theorem dX5_named_38 : decode cX5_named 38 = .ok (.invokevirtual 256, 3) := by decide +kernel
theorem dX5_named_41 : decode cX5_named 41 = .ok (.ireturn, 1) := by decide +kernel
theorem dX5_named_42 : decode cX5_named 42 = .ok (.iconst 0, 1) := by decide +kernel
theorem dX5_named_43 : decode cX5_named 43 = .ok (.istore 4, 2) := by decide +kernel
theorem dX5_named_45 : decode cX5_named 45 = .ok (.iconst 0, 1) := by decide +kernel
theorem dX5_named_46 : decode cX5_named 46 = .ok (.istore 5, 2) := by decide +kernel
theorem dX5_named_48 : decode cX5_named 48 = .ok (.iload 5, 2) := by decide +kernel
theorem dX5_named_50 : decode cX5_named 50 = .ok (.aload_n 0, 1) := by decide +kernel
theorem dX5_named_51 : decode cX5_named 51 = .ok (.getfield 13, 3) := by decide +kernel
theorem dX5_named_54 : decode cX5_named 54 = .ok (.iconst 0, 1) := by decide +kernel
theorem dX5_named_55 : decode cX5_named 55 = .ok (.iaload, 1) := by decide +kernel
theorem dX5_named_56 : decode cX5_named 56 = .ok (.if_icmp .ge 29, 3) := by decide +kernel
theorem dX5_named_59 : decode cX5_named 59 = .ok (.iload 4, 2) := by decide +kernel
theorem dX5_named_61 : decode cX5_named 61 = .ok (.aload_n 0, 1) := by decide +kernel
theorem dX5_named_62 : decode cX5_named 62 = .ok (.iload 5, 2) := by decide +kernel
theorem dX5_named_64 : decode cX5_named 64 = .ok (.lload_n 2, 1) := by decide +kernel
theorem dX5_named_65 : decode cX5_named 65 = .ok (.invokevirtual 256, 3) := by decide +kernel
theorem dX5_named_68 : decode cX5_named 68 = .ok (.ifCond .lt 7, 3) := by decide +kernel
theorem dX5_named_71 : decode cX5_named 71 = .ok (.iconst 1, 1) := by decide +kernel
theorem dX5_named_72 : decode cX5_named 72 = .ok (.goto 4, 3) := by decide +kernel
theorem dX5_named_75 : decode cX5_named 75 = .ok (.iconst 0, 1) := by decide +kernel
theorem dX5_named_76 : decode cX5_named 76 = .ok (.iadd, 1) := by decide +kernel
theorem dX5_named_77 : decode cX5_named 77 = .ok (.istore 4, 2) := by decide +kernel
theorem dX5_named_79 : decode cX5_named 79 = .ok (.iinc 5 1, 3) := by decide +kernel
theorem dX5_named_82 : decode cX5_named 82 = .ok (.goto (-34), 3) := by decide +kernel
theorem dX5_named_85 : decode cX5_named 85 = .ok (.iload 4, 2) := by decide +kernel
theorem dX5_named_87 : decode cX5_named 87 = .ok (.ireturn, 1) := by decide +kernel
theorem dX5_firstWeek_0 : decode cX5_firstWeek 0 = .ok (.bipush 24, 2) := by decide +kernel
theorem dX5_firstWeek_2 : decode cX5_firstWeek 2 = .ok (.istore_n 2, 1) := by decide +kernel
theorem dX5_firstWeek_3 : decode cX5_firstWeek 3 = .ok (.iconst 0, 1) := by decide +kernel
theorem dX5_firstWeek_4 : decode cX5_firstWeek 4 = .ok (.istore_n 3, 1) := by decide +kernel
theorem dX5_firstWeek_5 : decode cX5_firstWeek 5 = .ok (.iload_n 3, 1) := by decide +kernel
theorem dX5_firstWeek_6 : decode cX5_firstWeek 6 = .ok (.aload_n 0, 1) := by decide +kernel
theorem dX5_firstWeek_7 : decode cX5_firstWeek 7 = .ok (.getfield 20, 3) := by decide +kernel
theorem dX5_firstWeek_10 : decode cX5_firstWeek 10 = .ok (.iconst 0, 1) := by decide +kernel
theorem dX5_firstWeek_11 : decode cX5_firstWeek 11 = .ok (.iaload, 1) := by decide +kernel
theorem dX5_firstWeek_12 : decode cX5_firstWeek 12 = .ok (.if_icmp .ge 52, 3) := by decide +kernel
theorem dX5_firstWeek_15 : decode cX5_firstWeek 15 = .ok (.aload_n 0, 1) := by decide +kernel
theorem dX5_firstWeek_16 : decode cX5_firstWeek 16 = .ok (.getfield 38, 3) := by decide +kernel
theorem dX5_firstWeek_19 : decode cX5_firstWeek 19 = .ok (.bipush 18, 2) := by decide +kernel
theorem dX5_firstWeek_21 : decode cX5_firstWeek 21 = .ok (.iload_n 3, 1) := by decide +kernel
theorem dX5_firstWeek_22 : decode cX5_firstWeek 22 = .ok (.imul, 1) := by decide +kernel
theorem dX5_firstWeek_23 : decode cX5_firstWeek 23 = .ok (.iload_n 1, 1) := by decide +kernel
theorem dX5_firstWeek_24 : decode cX5_firstWeek 24 = .ok (.iadd, 1) := by decide +kernel
theorem dX5_firstWeek_25 : decode cX5_firstWeek 25 = .ok (.iaload, 1) := by decide +kernel
theorem dX5_firstWeek_26 : decode cX5_firstWeek 26 = .ok (.ifCond .le 30, 3) := by decide +kernel
theorem dX5_firstWeek_29 : decode cX5_firstWeek 29 = .ok (.aload_n 0, 1) := by decide +kernel
theorem dX5_firstWeek_30 : decode cX5_firstWeek 30 = .ok (.getfield 23, 3) := by decide +kernel
theorem dX5_firstWeek_33 : decode cX5_firstWeek 33 = .ok (.iconst 3, 1) := by decide +kernel
theorem dX5_firstWeek_34 : decode cX5_firstWeek 34 = .ok (.iload_n 3, 1) := by decide +kernel
theorem dX5_firstWeek_35 : decode cX5_firstWeek 35 = .ok (.imul, 1) := by decide +kernel
theorem dX5_firstWeek_36 : decode cX5_firstWeek 36 = .ok (.iconst 1, 1) := by decide +kernel
theorem dX5_firstWeek_37 : decode cX5_firstWeek 37 = .ok (.iadd, 1) := by decide +kernel
theorem dX5_firstWeek_38 : decode cX5_firstWeek 38 = .ok (.iaload, 1) := by decide +kernel
theorem dX5_firstWeek_39 : decode cX5_firstWeek 39 = .ok (.iload_n 2, 1) := by decide +kernel
theorem dX5_firstWeek_40 : decode cX5_firstWeek 40 = .ok (.if_icmp .ge 16, 3) := by decide +kernel
theorem dX5_firstWeek_43 : decode cX5_firstWeek 43 = .ok (.aload_n 0, 1) := by decide +kernel
theorem dX5_firstWeek_44 : decode cX5_firstWeek 44 = .ok (.getfield 23, 3) := by decide +kernel
theorem dX5_firstWeek_47 : decode cX5_firstWeek 47 = .ok (.iconst 3, 1) := by decide +kernel
theorem dX5_firstWeek_48 : decode cX5_firstWeek 48 = .ok (.iload_n 3, 1) := by decide +kernel
theorem dX5_firstWeek_49 : decode cX5_firstWeek 49 = .ok (.imul, 1) := by decide +kernel
theorem dX5_firstWeek_50 : decode cX5_firstWeek 50 = .ok (.iconst 1, 1) := by decide +kernel
theorem dX5_firstWeek_51 : decode cX5_firstWeek 51 = .ok (.iadd, 1) := by decide +kernel
theorem dX5_firstWeek_52 : decode cX5_firstWeek 52 = .ok (.iaload, 1) := by decide +kernel
theorem dX5_firstWeek_53 : decode cX5_firstWeek 53 = .ok (.goto 4, 3) := by decide +kernel
theorem dX5_firstWeek_56 : decode cX5_firstWeek 56 = .ok (.iload_n 2, 1) := by decide +kernel
theorem dX5_firstWeek_57 : decode cX5_firstWeek 57 = .ok (.istore_n 2, 1) := by decide +kernel
theorem dX5_firstWeek_58 : decode cX5_firstWeek 58 = .ok (.iinc 3 1, 3) := by decide +kernel
theorem dX5_firstWeek_61 : decode cX5_firstWeek 61 = .ok (.goto (-56), 3) := by decide +kernel
theorem dX5_firstWeek_64 : decode cX5_firstWeek 64 = .ok (.iload_n 2, 1) := by decide +kernel
theorem dX5_firstWeek_65 : decode cX5_firstWeek 65 = .ok (.ireturn, 1) := by decide +kernel
set_option maxRecDepth 20000 in
theorem ggX5_grown_X5_isSign : GoodIn wsX5_grown wsX5_isSign := goodIn_r _ [8, 9, 10, 11, 7, 12, 22, 23, 24, 25, 26, 27, 28, 29, 30, 31, 32, 33, 34, 35, 36, 37, 38, 39, 40, 41, 42, 43, 44, 45, 46, 47, 48, 49, 50] (by decide +kernel) (by decide +kernel)
set_option maxRecDepth 20000 in
theorem gX5_grown_X5_isSign : GoodIn wsX5_grown (wsV RX5 140 RX5 yX5_isSign wsX5_isSign) := goodIn_app (goodIn_of _ (by decide +kernel)) ggX5_grown_X5_isSign
set_option maxRecDepth 20000 in
theorem ggX5_grown_X5_ofSign : GoodIn wsX5_grown wsX5_ofSign := goodIn_r _ [16, 2, 3, 22, 23, 24, 25, 26, 27, 28, 29, 30, 31, 32, 33, 34, 35, 36, 37, 38, 39, 40, 41, 42, 43, 44, 45, 46, 47, 48, 49, 50] (by decide +kernel) (by decide +kernel)
set_option maxRecDepth 20000 in
theorem gX5_grown_X5_ofSign : GoodIn wsX5_grown (wsV RX5 146 RX5 yX5_ofSign wsX5_ofSign) := goodIn_app (goodIn_of _ (by decide +kernel)) ggX5_grown_X5_ofSign
set_option maxRecDepth 20000 in
theorem ggX5_grown_X5_firstWeek : GoodIn wsX5_grown wsX5_firstWeek := goodIn_r _ [20, 2, 3, 21, 22, 23, 24, 25, 26, 27, 28, 29, 30, 31, 32, 33, 34, 35, 36, 37, 38, 39, 40, 41, 42, 43, 44, 45, 46, 47, 48, 49, 50] (by decide +kernel) (by decide +kernel)
set_option maxRecDepth 20000 in
theorem gX5_grown_X5_firstWeek : GoodIn wsX5_grown (wsV RX5 260 RX5 yX5_firstWeek wsX5_firstWeek) := goodIn_app (goodIn_of _ (by decide +kernel)) ggX5_grown_X5_firstWeek
theorem dX5_grown_0 : decode cX5_grown 0 = .ok (.aload_n 0, 1) := by decide +kernel
theorem dX5_grown_1 : decode cX5_grown 1 = .ok (.iload_n 1, 1) := by decide +kernel
theorem dX5_grown_2 : decode cX5_grown 2 = .ok (.invokevirtual 140, 3) := by decide +kernel
theorem dX5_grown_5 : decode cX5_grown 5 = .ok (.ifCond .ne 5, 3) := by decide +kernel
theorem dX5_grown_8 : decode cX5_grown 8 = .ok (.iconst (-1), 1) := by decide +kernel
theorem dX5_grown_9 : decode cX5_grown 9 = .ok (.ireturn, 1) := by decide +kernel
theorem dX5_grown_10 : decode cX5_grown 10 = .ok (.aload_n 0, 1) := by decide +kernel
theorem dX5_grown_11 : decode cX5_grown 11 = .ok (.getfield 17, 3) := by decide +kernel
theorem dX5_grown_14 : decode cX5_grown 14 = .ok (.iconst 2, 1) := by decide +kernel
theorem dX5_grown_15 : decode cX5_grown 15 = .ok (.iload_n 1, 1) := by decide +kernel
theorem dX5_grown_16 : decode cX5_grown 16 = .ok (.imul, 1) := by decide +kernel
theorem dX5_grown_17 : decode cX5_grown 17 = .ok (.iconst 1, 1) := by decide +kernel
theorem dX5_grown_18 : decode cX5_grown 18 = .ok (.iadd, 1) := by decide +kernel
theorem dX5_grown_19 : decode cX5_grown 19 = .ok (.iaload, 1) := by decide +kernel
theorem dX5_grown_20 : decode cX5_grown 20 = .ok (.istore_n 2, 1) := by decide +kernel
theorem dX5_grown_21 : decode cX5_grown 21 = .ok (.iload_n 2, 1) := by decide +kernel
theorem dX5_grown_22 : decode cX5_grown 22 = .ok (.ifCond .lt 19, 3) := by decide +kernel
theorem dX5_grown_25 : decode cX5_grown 25 = .ok (.aload_n 0, 1) := by decide +kernel
theorem dX5_grown_26 : decode cX5_grown 26 = .ok (.iload_n 1, 1) := by decide +kernel
theorem dX5_grown_27 : decode cX5_grown 27 = .ok (.invokevirtual 146, 3) := by decide +kernel
theorem dX5_grown_30 : decode cX5_grown 30 = .ok (.ifCond .eq 11, 3) := by decide +kernel
theorem dX5_grown_33 : decode cX5_grown 33 = .ok (.aload_n 0, 1) := by decide +kernel
theorem dX5_grown_34 : decode cX5_grown 34 = .ok (.iload_n 2, 1) := by decide +kernel
theorem dX5_grown_35 : decode cX5_grown 35 = .ok (.invokevirtual 146, 3) := by decide +kernel
theorem dX5_grown_38 : decode cX5_grown 38 = .ok (.ifCond .ne 6, 3) := by decide +kernel
theorem dX5_grown_41 : decode cX5_grown 41 = .ok (.bipush (-2), 2) := by decide +kernel
theorem dX5_grown_43 : decode cX5_grown 43 = .ok (.ireturn, 1) := by decide +kernel
theorem dX5_grown_44 : decode cX5_grown 44 = .ok (.iconst 0, 1) := by decide +kernel
theorem dX5_grown_45 : decode cX5_grown 45 = .ok (.istore_n 3, 1) := by decide +kernel
theorem dX5_grown_46 : decode cX5_grown 46 = .ok (.iload_n 3, 1) := by decide +kernel
theorem dX5_grown_47 : decode cX5_grown 47 = .ok (.aload_n 0, 1) := by decide +kernel
theorem dX5_grown_48 : decode cX5_grown 48 = .ok (.getfield 20, 3) := by decide +kernel
theorem dX5_grown_51 : decode cX5_grown 51 = .ok (.iconst 0, 1) := by decide +kernel
theorem dX5_grown_52 : decode cX5_grown 52 = .ok (.iaload, 1) := by decide +kernel
theorem dX5_grown_53 : decode cX5_grown 53 = .ok (.if_icmp .ge 39, 3) := by decide +kernel
theorem dX5_grown_56 : decode cX5_grown 56 = .ok (.aload_n 0, 1) := by decide +kernel
theorem dX5_grown_57 : decode cX5_grown 57 = .ok (.getfield 38, 3) := by decide +kernel
theorem dX5_grown_60 : decode cX5_grown 60 = .ok (.bipush 18, 2) := by decide +kernel
theorem dX5_grown_62 : decode cX5_grown 62 = .ok (.iload_n 3, 1) := by decide +kernel
theorem dX5_grown_63 : decode cX5_grown 63 = .ok (.imul, 1) := by decide +kernel
theorem dX5_grown_64 : decode cX5_grown 64 = .ok (.iload_n 1, 1) := by decide +kernel
theorem dX5_grown_65 : decode cX5_grown 65 = .ok (.iadd, 1) := by decide +kernel
theorem dX5_grown_66 : decode cX5_grown 66 = .ok (.iaload, 1) := by decide +kernel
theorem dX5_grown_67 : decode cX5_grown 67 = .ok (.ifCond .le 19, 3) := by decide +kernel
theorem dX5_grown_70 : decode cX5_grown 70 = .ok (.aload_n 0, 1) := by decide +kernel
theorem dX5_grown_71 : decode cX5_grown 71 = .ok (.getfield 38, 3) := by decide +kernel
theorem dX5_grown_74 : decode cX5_grown 74 = .ok (.bipush 18, 2) := by decide +kernel
theorem dX5_grown_76 : decode cX5_grown 76 = .ok (.iload_n 3, 1) := by decide +kernel
theorem dX5_grown_77 : decode cX5_grown 77 = .ok (.imul, 1) := by decide +kernel
theorem dX5_grown_78 : decode cX5_grown 78 = .ok (.iload_n 2, 1) := by decide +kernel
theorem dX5_grown_79 : decode cX5_grown 79 = .ok (.iadd, 1) := by decide +kernel
theorem dX5_grown_80 : decode cX5_grown 80 = .ok (.iaload, 1) := by decide +kernel
theorem dX5_grown_81 : decode cX5_grown 81 = .ok (.ifCond .le 5, 3) := by decide +kernel
theorem dX5_grown_84 : decode cX5_grown 84 = .ok (.iconst 1, 1) := by decide +kernel
theorem dX5_grown_85 : decode cX5_grown 85 = .ok (.ireturn, 1) := by decide +kernel
theorem dX5_grown_86 : decode cX5_grown 86 = .ok (.iinc 3 1, 3) := by decide +kernel
theorem dX5_grown_89 : decode cX5_grown 89 = .ok (.goto (-43), 3) := by decide +kernel
theorem dX5_grown_92 : decode cX5_grown 92 = .ok (.aload_n 0, 1) := by decide +kernel
theorem dX5_grown_93 : decode cX5_grown 93 = .ok (.iload_n 1, 1) := by decide +kernel
theorem dX5_grown_94 : decode cX5_grown 94 = .ok (.invokevirtual 260, 3) := by decide +kernel
theorem dX5_grown_97 : decode cX5_grown 97 = .ok (.aload_n 0, 1) := by decide +kernel
theorem dX5_grown_98 : decode cX5_grown 98 = .ok (.iload_n 2, 1) := by decide +kernel
theorem dX5_grown_99 : decode cX5_grown 99 = .ok (.invokevirtual 260, 3) := by decide +kernel
theorem dX5_grown_102 : decode cX5_grown 102 = .ok (.if_icmp .lt 7, 3) := by decide +kernel
theorem dX5_grown_105 : decode cX5_grown 105 = .ok (.iconst 2, 1) := by decide +kernel
theorem dX5_grown_106 : decode cX5_grown 106 = .ok (.goto 4, 3) := by decide +kernel
theorem dX5_grown_109 : decode cX5_grown 109 = .ok (.iconst 3, 1) := by decide +kernel
theorem dX5_grown_110 : decode cX5_grown 110 = .ok (.ireturn, 1) := by decide +kernel
set_option maxRecDepth 20000 in
theorem ggX5_isIn_X5_between : GoodIn wsX5_isIn wsX5_between := goodIn_r _ [7] (by decide +kernel) (by decide +kernel)
set_option maxRecDepth 20000 in
theorem gX5_isIn_X5_between : GoodIn wsX5_isIn (va_wsS RX5 74 yX5_between wsX5_between) := goodIn_app (goodIn_of _ (by decide +kernel)) ggX5_isIn_X5_between
theorem dX5_isIn_0 : decode cX5_isIn 0 = .ok (.iload_n 2, 1) := by decide +kernel
theorem dX5_isIn_1 : decode cX5_isIn 1 = .ok (.i2l, 1) := by decide +kernel
theorem dX5_isIn_2 : decode cX5_isIn 2 = .ok (.lconst 0, 1) := by decide +kernel
theorem dX5_isIn_3 : decode cX5_isIn 3 = .ok (.aload_n 0, 1) := by decide +kernel
theorem dX5_isIn_4 : decode cX5_isIn 4 = .ok (.getfield 186, 3) := by decide +kernel
theorem dX5_isIn_7 : decode cX5_isIn 7 = .ok (.iconst 1, 1) := by decide +kernel
theorem dX5_isIn_8 : decode cX5_isIn 8 = .ok (.isub, 1) := by decide +kernel
theorem dX5_isIn_9 : decode cX5_isIn 9 = .ok (.i2l, 1) := by decide +kernel
theorem dX5_isIn_10 : decode cX5_isIn 10 = .ok (.invokestatic 74, 3) := by decide +kernel
theorem dX5_isIn_13 : decode cX5_isIn 13 = .ok (.ifCond .eq 26, 3) := by decide +kernel
theorem dX5_isIn_16 : decode cX5_isIn 16 = .ok (.aload_n 0, 1) := by decide +kernel
theorem dX5_isIn_17 : decode cX5_isIn 17 = .ok (.getfield 44, 3) := by decide +kernel
theorem dX5_isIn_20 : decode cX5_isIn 20 = .ok (.iload_n 1, 1) := by decide +kernel
theorem dX5_isIn_21 : decode cX5_isIn 21 = .ok (.iaload, 1) := by decide +kernel
theorem dX5_isIn_22 : decode cX5_isIn 22 = .ok (.aload_n 0, 1) := by decide +kernel
theorem dX5_isIn_23 : decode cX5_isIn 23 = .ok (.getfield 56, 3) := by decide +kernel
theorem dX5_isIn_26 : decode cX5_isIn 26 = .ok (.iload_n 2, 1) := by decide +kernel
theorem dX5_isIn_27 : decode cX5_isIn 27 = .ok (.iaload, 1) := by decide +kernel
theorem dX5_isIn_28 : decode cX5_isIn 28 = .ok (.ishr, 1) := by decide +kernel
theorem dX5_isIn_29 : decode cX5_isIn 29 = .ok (.iconst 1, 1) := by decide +kernel
theorem dX5_isIn_30 : decode cX5_isIn 30 = .ok (.iand, 1) := by decide +kernel
theorem dX5_isIn_31 : decode cX5_isIn 31 = .ok (.iconst 1, 1) := by decide +kernel
theorem dX5_isIn_32 : decode cX5_isIn 32 = .ok (.if_icmp .ne 7, 3) := by decide +kernel
theorem dX5_isIn_35 : decode cX5_isIn 35 = .ok (.iconst 1, 1) := by decide +kernel
theorem dX5_isIn_36 : decode cX5_isIn 36 = .ok (.goto 4, 3) := by decide +kernel
theorem dX5_isIn_39 : decode cX5_isIn 39 = .ok (.iconst 0, 1) := by decide +kernel
theorem dX5_isIn_40 : decode cX5_isIn 40 = .ok (.ireturn, 1) := by decide +kernel
set_option maxRecDepth 20000 in
theorem ggX5_again_X5_seeks : GoodIn wsX5_again wsX5_seeks := goodIn_r _ [9, 10, 11, 12, 8, 13, 3, 14, 15, 16, 17, 2, 18, 19, 20, 21, 22, 23, 24, 25, 26, 27, 28, 29, 30, 31, 32, 33, 34, 35, 1, 36, 37, 38, 39, 40, 41, 42, 43, 44, 45, 46, 47, 48, 49, 50, 51, 52, 53, 54, 4, 55, 56, 57, 58, 73, 74, 75, 76, 77, 78, 79, 80, 81, 82, 83, 84, 85, 86, 87, 88, 89, 90, 91, 92, 93, 94, 95, 96, 97, 98, 99, 100, 101] (by decide +kernel) (by decide +kernel)
set_option maxRecDepth 20000 in
theorem gX5_again_X5_seeks : GoodIn wsX5_again (wsV RX5 220 RX5 yX5_seeks wsX5_seeks) := goodIn_app (goodIn_of _ (by decide +kernel)) ggX5_again_X5_seeks
set_option maxRecDepth 20000 in
theorem ggX5_again_X5_isIn : GoodIn wsX5_again wsX5_isIn := goodIn_r _ [62, 3, 18, 4, 63, 64, 8, 65, 73, 74, 75, 76, 77, 78, 79, 80, 81, 82, 83, 84, 85, 86, 87, 88, 89, 90, 91, 92, 93, 94, 95, 96, 97, 98, 99, 100, 101] (by decide +kernel) (by decide +kernel)
set_option maxRecDepth 20000 in
theorem gX5_again_X5_isIn : GoodIn wsX5_again (wsV RX5 263 RX5 yX5_isIn wsX5_isIn) := goodIn_app (goodIn_of _ (by decide +kernel)) ggX5_again_X5_isIn
set_option maxRecDepth 20000 in
theorem ggX5_again_X5_inPart : GoodIn wsX5_again wsX5_inPart := goodIn_r _ [69, 25, 26, 31, 70, 71, 8, 72, 73, 74, 75, 76, 77, 78, 79, 80, 81, 82, 83, 84, 85, 86, 87, 88, 89, 90, 91, 92, 93, 94, 95, 96, 97, 98, 99, 100, 101] (by decide +kernel) (by decide +kernel)
set_option maxRecDepth 20000 in
theorem gX5_again_X5_inPart : GoodIn wsX5_again (wsV RX5 161 RX5 yX5_inPart wsX5_inPart) := goodIn_app (goodIn_of _ (by decide +kernel)) ggX5_again_X5_inPart
theorem dX5_again_0 : decode cX5_again 0 = .ok (.aload_n 0, 1) := by decide +kernel
theorem dX5_again_1 : decode cX5_again 1 = .ok (.invokevirtual 220, 3) := by decide +kernel
theorem dX5_again_4 : decode cX5_again 4 = .ok (.aload_n 0, 1) := by decide +kernel
theorem dX5_again_5 : decode cX5_again 5 = .ok (.getfield 192, 3) := by decide +kernel
theorem dX5_again_8 : decode cX5_again 8 = .ok (.ifCond .ne 6, 3) := by decide +kernel
theorem dX5_again_11 : decode cX5_again 11 = .ok (.bipush (-4), 2) := by decide +kernel
theorem dX5_again_13 : decode cX5_again 13 = .ok (.ireturn, 1) := by decide +kernel
theorem dX5_again_14 : decode cX5_again 14 = .ok (.iconst 0, 1) := by decide +kernel
theorem dX5_again_15 : decode cX5_again 15 = .ok (.istore_n 1, 1) := by decide +kernel
theorem dX5_again_16 : decode cX5_again 16 = .ok (.iconst 0, 1) := by decide +kernel
theorem dX5_again_17 : decode cX5_again 17 = .ok (.istore_n 2, 1) := by decide +kernel
theorem dX5_again_18 : decode cX5_again 18 = .ok (.iload_n 2, 1) := by decide +kernel
theorem dX5_again_19 : decode cX5_again 19 = .ok (.aload_n 0, 1) := by decide +kernel
theorem dX5_again_20 : decode cX5_again 20 = .ok (.getfield 189, 3) := by decide +kernel
theorem dX5_again_23 : decode cX5_again 23 = .ok (.if_icmp .ge 150, 3) := by decide +kernel
theorem dX5_again_26 : decode cX5_again 26 = .ok (.iconst 0, 1) := by decide +kernel
theorem dX5_again_27 : decode cX5_again 27 = .ok (.istore_n 3, 1) := by decide +kernel
theorem dX5_again_28 : decode cX5_again 28 = .ok (.iload_n 3, 1) := by decide +kernel
theorem dX5_again_29 : decode cX5_again 29 = .ok (.aload_n 0, 1) := by decide +kernel
theorem dX5_again_30 : decode cX5_again 30 = .ok (.getfield 186, 3) := by decide +kernel
theorem dX5_again_33 : decode cX5_again 33 = .ok (.if_icmp .ge 134, 3) := by decide +kernel
theorem dX5_again_36 : decode cX5_again 36 = .ok (.iconst 0, 1) := by decide +kernel
theorem dX5_again_37 : decode cX5_again 37 = .ok (.istore 4, 2) := by decide +kernel
theorem dX5_again_39 : decode cX5_again 39 = .ok (.iconst 0, 1) := by decide +kernel
theorem dX5_again_40 : decode cX5_again 40 = .ok (.istore 5, 2) := by decide +kernel
theorem dX5_again_42 : decode cX5_again 42 = .ok (.iload 5, 2) := by decide +kernel
theorem dX5_again_44 : decode cX5_again 44 = .ok (.aload_n 0, 1) := by decide +kernel
theorem dX5_again_45 : decode cX5_again 45 = .ok (.getfield 186, 3) := by decide +kernel
theorem dX5_again_48 : decode cX5_again 48 = .ok (.iconst 1, 1) := by decide +kernel
theorem dX5_again_49 : decode cX5_again 49 = .ok (.isub, 1) := by decide +kernel
theorem dX5_again_50 : decode cX5_again 50 = .ok (.if_icmp .ge 57, 3) := by decide +kernel
theorem dX5_again_53 : decode cX5_again 53 = .ok (.iload 4, 2) := by decide +kernel
theorem dX5_again_55 : decode cX5_again 55 = .ok (.ifCond .ne 39, 3) := by decide +kernel
theorem dX5_again_58 : decode cX5_again 58 = .ok (.iload 5, 2) := by decide +kernel
theorem dX5_again_60 : decode cX5_again 60 = .ok (.iload_n 3, 1) := by decide +kernel
theorem dX5_again_61 : decode cX5_again 61 = .ok (.if_icmp .eq 37, 3) := by decide +kernel
theorem dX5_again_64 : decode cX5_again 64 = .ok (.iload 5, 2) := by decide +kernel
theorem dX5_again_66 : decode cX5_again 66 = .ok (.iconst 1, 1) := by decide +kernel
theorem dX5_again_67 : decode cX5_again 67 = .ok (.iadd, 1) := by decide +kernel
theorem dX5_again_68 : decode cX5_again 68 = .ok (.iload_n 3, 1) := by decide +kernel
theorem dX5_again_69 : decode cX5_again 69 = .ok (.if_icmp .eq 29, 3) := by decide +kernel
theorem dX5_again_72 : decode cX5_again 72 = .ok (.aload_n 0, 1) := by decide +kernel
theorem dX5_again_73 : decode cX5_again 73 = .ok (.iload_n 2, 1) := by decide +kernel
theorem dX5_again_74 : decode cX5_again 74 = .ok (.iload 5, 2) := by decide +kernel
theorem dX5_again_76 : decode cX5_again 76 = .ok (.invokevirtual 263, 3) := by decide +kernel
theorem dX5_again_79 : decode cX5_again 79 = .ok (.ifCond .eq 19, 3) := by decide +kernel
theorem dX5_again_82 : decode cX5_again 82 = .ok (.aload_n 0, 1) := by decide +kernel
theorem dX5_again_83 : decode cX5_again 83 = .ok (.iload_n 2, 1) := by decide +kernel
theorem dX5_again_84 : decode cX5_again 84 = .ok (.iload 5, 2) := by decide +kernel
theorem dX5_again_86 : decode cX5_again 86 = .ok (.iconst 1, 1) := by decide +kernel
theorem dX5_again_87 : decode cX5_again 87 = .ok (.iadd, 1) := by decide +kernel
theorem dX5_again_88 : decode cX5_again 88 = .ok (.invokevirtual 263, 3) := by decide +kernel
theorem dX5_again_91 : decode cX5_again 91 = .ok (.ifCond .eq 7, 3) := by decide +kernel
theorem dX5_again_94 : decode cX5_again 94 = .ok (.iconst 1, 1) := by decide +kernel
theorem dX5_again_95 : decode cX5_again 95 = .ok (.goto 4, 3) := by decide +kernel
theorem dX5_again_98 : decode cX5_again 98 = .ok (.iconst 0, 1) := by decide +kernel
theorem dX5_again_99 : decode cX5_again 99 = .ok (.istore 4, 2) := by decide +kernel
theorem dX5_again_101 : decode cX5_again 101 = .ok (.iinc 5 1, 3) := by decide +kernel
theorem dX5_again_104 : decode cX5_again 104 = .ok (.goto (-62), 3) := by decide +kernel
theorem dX5_again_107 : decode cX5_again 107 = .ok (.iload_n 1, 1) := by decide +kernel
theorem dX5_again_108 : decode cX5_again 108 = .ok (.iload 4, 2) := by decide +kernel
theorem dX5_again_110 : decode cX5_again 110 = .ok (.ifCond .eq 48, 3) := by decide +kernel
theorem dX5_again_113 : decode cX5_again 113 = .ok (.aload_n 0, 1) := by decide +kernel
theorem dX5_again_114 : decode cX5_again 114 = .ok (.iload_n 2, 1) := by decide +kernel
theorem dX5_again_115 : decode cX5_again 115 = .ok (.iload_n 3, 1) := by decide +kernel
theorem dX5_again_116 : decode cX5_again 116 = .ok (.invokevirtual 263, 3) := by decide +kernel
theorem dX5_again_119 : decode cX5_again 119 = .ok (.ifCond .eq 39, 3) := by decide +kernel
theorem dX5_again_122 : decode cX5_again 122 = .ok (.aload_n 0, 1) := by decide +kernel
theorem dX5_again_123 : decode cX5_again 123 = .ok (.iload_n 2, 1) := by decide +kernel
theorem dX5_again_124 : decode cX5_again 124 = .ok (.iload_n 3, 1) := by decide +kernel
theorem dX5_again_125 : decode cX5_again 125 = .ok (.iconst 1, 1) := by decide +kernel
theorem dX5_again_126 : decode cX5_again 126 = .ok (.isub, 1) := by decide +kernel
theorem dX5_again_127 : decode cX5_again 127 = .ok (.invokevirtual 263, 3) := by decide +kernel
theorem dX5_again_130 : decode cX5_again 130 = .ok (.ifCond .ne 28, 3) := by decide +kernel
theorem dX5_again_133 : decode cX5_again 133 = .ok (.aload_n 0, 1) := by decide +kernel
theorem dX5_again_134 : decode cX5_again 134 = .ok (.iload_n 2, 1) := by decide +kernel
theorem dX5_again_135 : decode cX5_again 135 = .ok (.iload_n 3, 1) := by decide +kernel
theorem dX5_again_136 : decode cX5_again 136 = .ok (.iconst 1, 1) := by decide +kernel
theorem dX5_again_137 : decode cX5_again 137 = .ok (.iadd, 1) := by decide +kernel
theorem dX5_again_138 : decode cX5_again 138 = .ok (.invokevirtual 263, 3) := by decide +kernel
theorem dX5_again_141 : decode cX5_again 141 = .ok (.ifCond .ne 17, 3) := by decide +kernel
theorem dX5_again_144 : decode cX5_again 144 = .ok (.aload_n 0, 1) := by decide +kernel
theorem dX5_again_145 : decode cX5_again 145 = .ok (.aload_n 0, 1) := by decide +kernel
theorem dX5_again_146 : decode cX5_again 146 = .ok (.getfield 56, 3) := by decide +kernel
theorem dX5_again_149 : decode cX5_again 149 = .ok (.iload_n 3, 1) := by decide +kernel
theorem dX5_again_150 : decode cX5_again 150 = .ok (.iaload, 1) := by decide +kernel
theorem dX5_again_151 : decode cX5_again 151 = .ok (.iload_n 2, 1) := by decide +kernel
theorem dX5_again_152 : decode cX5_again 152 = .ok (.invokevirtual 161, 3) := by decide +kernel
theorem dX5_again_155 : decode cX5_again 155 = .ok (.goto 4, 3) := by decide +kernel
theorem dX5_again_158 : decode cX5_again 158 = .ok (.iconst 0, 1) := by decide +kernel
theorem dX5_again_159 : decode cX5_again 159 = .ok (.iadd, 1) := by decide +kernel
theorem dX5_again_160 : decode cX5_again 160 = .ok (.istore_n 1, 1) := by decide +kernel
theorem dX5_again_161 : decode cX5_again 161 = .ok (.iinc 3 1, 3) := by decide +kernel
theorem dX5_again_164 : decode cX5_again 164 = .ok (.goto (-136), 3) := by decide +kernel
theorem dX5_again_167 : decode cX5_again 167 = .ok (.iinc 2 1, 3) := by decide +kernel
theorem dX5_again_170 : decode cX5_again 170 = .ok (.goto (-152), 3) := by decide +kernel
theorem dX5_again_173 : decode cX5_again 173 = .ok (.iload_n 1, 1) := by decide +kernel
theorem dX5_again_174 : decode cX5_again 174 = .ok (.ireturn, 1) := by decide +kernel
theorem dX5_draw_0 : decode cX5_draw 0 = .ok (.ldc2_w 266, 3) := by decide +kernel
theorem dX5_draw_3 : decode cX5_draw 3 = .ok (.iload_n 0, 1) := by decide +kernel
theorem dX5_draw_4 : decode cX5_draw 4 = .ok (.i2l, 1) := by decide +kernel
theorem dX5_draw_5 : decode cX5_draw 5 = .ok (.lmul, 1) := by decide +kernel
theorem dX5_draw_6 : decode cX5_draw 6 = .ok (.ldc2_w 268, 3) := by decide +kernel
theorem dX5_draw_9 : decode cX5_draw 9 = .ok (.iload_n 1, 1) := by decide +kernel
theorem dX5_draw_10 : decode cX5_draw 10 = .ok (.i2l, 1) := by decide +kernel
theorem dX5_draw_11 : decode cX5_draw 11 = .ok (.lmul, 1) := by decide +kernel
theorem dX5_draw_12 : decode cX5_draw 12 = .ok (.ladd, 1) := by decide +kernel
theorem dX5_draw_13 : decode cX5_draw 13 = .ok (.ldc2_w 270, 3) := by decide +kernel
theorem dX5_draw_16 : decode cX5_draw 16 = .ok (.iload_n 2, 1) := by decide +kernel
theorem dX5_draw_17 : decode cX5_draw 17 = .ok (.i2l, 1) := by decide +kernel
theorem dX5_draw_18 : decode cX5_draw 18 = .ok (.lmul, 1) := by decide +kernel
theorem dX5_draw_19 : decode cX5_draw 19 = .ok (.ladd, 1) := by decide +kernel
theorem dX5_draw_20 : decode cX5_draw 20 = .ok (.lconst 1, 1) := by decide +kernel
theorem dX5_draw_21 : decode cX5_draw 21 = .ok (.ladd, 1) := by decide +kernel
theorem dX5_draw_22 : decode cX5_draw 22 = .ok (.lstore_n 3, 1) := by decide +kernel
theorem dX5_draw_23 : decode cX5_draw 23 = .ok (.lload_n 3, 1) := by decide +kernel
theorem dX5_draw_24 : decode cX5_draw 24 = .ok (.lload_n 3, 1) := by decide +kernel
theorem dX5_draw_25 : decode cX5_draw 25 = .ok (.lmul, 1) := by decide +kernel
theorem dX5_draw_26 : decode cX5_draw 26 = .ok (.ldc2_w 272, 3) := by decide +kernel
theorem dX5_draw_29 : decode cX5_draw 29 = .ok (.lrem, 1) := by decide +kernel
theorem dX5_draw_30 : decode cX5_draw 30 = .ok (.ldc2_w 274, 3) := by decide +kernel
theorem dX5_draw_33 : decode cX5_draw 33 = .ok (.lrem, 1) := by decide +kernel
theorem dX5_draw_34 : decode cX5_draw 34 = .ok (.l2i, 1) := by decide +kernel
theorem dX5_draw_35 : decode cX5_draw 35 = .ok (.ireturn, 1) := by decide +kernel
theorem dX5_factorial_0 : decode cX5_factorial 0 = .ok (.iconst 1, 1) := by decide +kernel
theorem dX5_factorial_1 : decode cX5_factorial 1 = .ok (.istore_n 1, 1) := by decide +kernel
theorem dX5_factorial_2 : decode cX5_factorial 2 = .ok (.iconst 2, 1) := by decide +kernel
theorem dX5_factorial_3 : decode cX5_factorial 3 = .ok (.istore_n 2, 1) := by decide +kernel
theorem dX5_factorial_4 : decode cX5_factorial 4 = .ok (.iload_n 2, 1) := by decide +kernel
theorem dX5_factorial_5 : decode cX5_factorial 5 = .ok (.iload_n 0, 1) := by decide +kernel
theorem dX5_factorial_6 : decode cX5_factorial 6 = .ok (.if_icmp .gt 13, 3) := by decide +kernel
theorem dX5_factorial_9 : decode cX5_factorial 9 = .ok (.iload_n 1, 1) := by decide +kernel
theorem dX5_factorial_10 : decode cX5_factorial 10 = .ok (.iload_n 2, 1) := by decide +kernel
theorem dX5_factorial_11 : decode cX5_factorial 11 = .ok (.imul, 1) := by decide +kernel
theorem dX5_factorial_12 : decode cX5_factorial 12 = .ok (.istore_n 1, 1) := by decide +kernel
theorem dX5_factorial_13 : decode cX5_factorial 13 = .ok (.iinc 2 1, 3) := by decide +kernel
theorem dX5_factorial_16 : decode cX5_factorial 16 = .ok (.goto (-12), 3) := by decide +kernel
theorem dX5_factorial_19 : decode cX5_factorial 19 = .ok (.iload_n 1, 1) := by decide +kernel
theorem dX5_factorial_20 : decode cX5_factorial 20 = .ok (.ireturn, 1) := by decide +kernel
set_option maxRecDepth 20000 in
theorem ggX5_found_X5_between : GoodIn wsX5_found wsX5_between := goodIn_r _ [18] (by decide +kernel) (by decide +kernel)
set_option maxRecDepth 20000 in
theorem gX5_found_X5_between : GoodIn wsX5_found (va_wsS RX5 74 yX5_between wsX5_between) := goodIn_app (goodIn_of _ (by decide +kernel)) ggX5_found_X5_between
set_option maxRecDepth 20000 in
theorem ggX5_found_X5_factorial : GoodIn wsX5_found wsX5_factorial := goodIn_r _ [21] (by decide +kernel) (by decide +kernel)
set_option maxRecDepth 20000 in
theorem gX5_found_X5_factorial : GoodIn wsX5_found (va_wsS RX5 280 yX5_factorial wsX5_factorial) := goodIn_app (goodIn_of _ (by decide +kernel)) ggX5_found_X5_factorial
set_option maxRecDepth 20000 in
theorem ggX5_found_X5_begins : GoodIn wsX5_found wsX5_begins := goodIn_r _ [25, 6, 12, 8, 56, 57, 58, 59, 60, 61, 62, 63, 64, 65, 66, 67, 68, 69, 70, 71, 72, 73, 74, 75, 76, 77, 78, 79, 80, 81, 82, 83, 84] (by decide +kernel) (by decide +kernel)
set_option maxRecDepth 20000 in
theorem gX5_found_X5_begins : GoodIn wsX5_found (wsV RX5 198 RX5 yX5_begins wsX5_begins) := goodIn_app (goodIn_of _ (by decide +kernel)) ggX5_found_X5_begins
set_option maxRecDepth 20000 in
theorem ggX5_found_X5_follows : GoodIn wsX5_found wsX5_follows := goodIn_r _ [29, 6, 12, 56, 57, 58, 59, 60, 61, 62, 63, 64, 65, 66, 67, 68, 69, 70, 71, 72, 73, 74, 75, 76, 77, 78, 79, 80, 81, 82, 83, 84] (by decide +kernel) (by decide +kernel)
set_option maxRecDepth 20000 in
theorem gX5_found_X5_follows : GoodIn wsX5_found (wsV RX5 211 RX5 yX5_follows wsX5_follows) := goodIn_app (goodIn_of _ (by decide +kernel)) ggX5_found_X5_follows
set_option maxRecDepth 20000 in
theorem ggX5_found_X5_draw : GoodIn wsX5_found wsX5_draw := goodIn_r _ [32, 33, 34, 35, 36, 37] (by decide +kernel) (by decide +kernel)
set_option maxRecDepth 20000 in
theorem gX5_found_X5_draw : GoodIn wsX5_found (va_wsS RX5 287 yX5_draw wsX5_draw) := goodIn_app (goodIn_of _ (by decide +kernel)) ggX5_found_X5_draw
set_option maxRecDepth 20000 in
theorem ggX5_found_X5_gaps : GoodIn wsX5_found wsX5_gaps := goodIn_r _ [41, 7, 6, 11, 12, 10, 56, 57, 58, 59, 60, 61, 62, 63, 64, 65, 66, 67, 68, 69, 70, 71, 72, 73, 74, 75, 76, 77, 78, 79, 80, 81, 82, 83, 84] (by decide +kernel) (by decide +kernel)
set_option maxRecDepth 20000 in
theorem gX5_found_X5_gaps : GoodIn wsX5_found (wsV RX5 204 RX5 yX5_gaps wsX5_gaps) := goodIn_app (goodIn_of _ (by decide +kernel)) ggX5_found_X5_gaps
set_option maxRecDepth 20000 in
theorem ggX5_found_X5_orders : GoodIn wsX5_found wsX5_orders := goodIn_r _ [45, 14, 13, 22, 23, 24, 17, 25, 6, 12, 8, 46, 47, 48, 49, 9, 38, 39, 40, 41, 7, 11, 10, 50, 51, 52, 53, 54, 55, 26, 27, 28, 29, 56, 57, 58, 59, 60, 61, 62, 63, 64, 65, 66, 67, 68, 69, 70, 71, 72, 73, 74, 75, 76, 77, 78, 79, 80, 81, 82, 83, 84] (by decide +kernel) (by decide +kernel)
set_option maxRecDepth 20000 in
theorem gX5_found_X5_orders : GoodIn wsX5_found (wsV RX5 217 RX5 yX5_orders wsX5_orders) := goodIn_app (goodIn_of _ (by decide +kernel)) ggX5_found_X5_orders
theorem dX5_found_0 : decode cX5_found 0 = .ok (.iload_n 1, 1) := by decide +kernel
theorem dX5_found_1 : decode cX5_found 1 = .ok (.i2l, 1) := by decide +kernel
theorem dX5_found_2 : decode cX5_found 2 = .ok (.lconst 0, 1) := by decide +kernel
theorem dX5_found_3 : decode cX5_found 3 = .ok (.ldc2_w 276, 3) := by decide +kernel
theorem dX5_found_6 : decode cX5_found 6 = .ok (.invokestatic 74, 3) := by decide +kernel
theorem dX5_found_9 : decode cX5_found 9 = .ok (.ifCond .eq 72, 3) := by decide +kernel
theorem dX5_found_12 : decode cX5_found 12 = .ok (.iload_n 2, 1) := by decide +kernel
theorem dX5_found_13 : decode cX5_found 13 = .ok (.i2l, 1) := by decide +kernel
theorem dX5_found_14 : decode cX5_found 14 = .ok (.ldc2_w 174, 3) := by decide +kernel
theorem dX5_found_17 : decode cX5_found 17 = .ok (.ldc2_w 278, 3) := by decide +kernel
theorem dX5_found_20 : decode cX5_found 20 = .ok (.invokestatic 74, 3) := by decide +kernel
theorem dX5_found_23 : decode cX5_found 23 = .ok (.ifCond .eq 58, 3) := by decide +kernel
theorem dX5_found_26 : decode cX5_found 26 = .ok (.iload_n 3, 1) := by decide +kernel
theorem dX5_found_27 : decode cX5_found 27 = .ok (.i2l, 1) := by decide +kernel
theorem dX5_found_28 : decode cX5_found 28 = .ok (.lconst 0, 1) := by decide +kernel
theorem dX5_found_29 : decode cX5_found 29 = .ok (.iload_n 2, 1) := by decide +kernel
theorem dX5_found_30 : decode cX5_found 30 = .ok (.invokestatic 280, 3) := by decide +kernel
theorem dX5_found_33 : decode cX5_found 33 = .ok (.iconst 1, 1) := by decide +kernel
theorem dX5_found_34 : decode cX5_found 34 = .ok (.isub, 1) := by decide +kernel
theorem dX5_found_35 : decode cX5_found 35 = .ok (.i2l, 1) := by decide +kernel
theorem dX5_found_36 : decode cX5_found 36 = .ok (.invokestatic 74, 3) := by decide +kernel
theorem dX5_found_39 : decode cX5_found 39 = .ok (.ifCond .eq 42, 3) := by decide +kernel
theorem dX5_found_42 : decode cX5_found 42 = .ok (.iload 4, 2) := by decide +kernel
theorem dX5_found_44 : decode cX5_found 44 = .ok (.i2l, 1) := by decide +kernel
theorem dX5_found_45 : decode cX5_found 45 = .ok (.lconst 1, 1) := by decide +kernel
theorem dX5_found_46 : decode cX5_found 46 = .ok (.ldc2_w 283, 3) := by decide +kernel
theorem dX5_found_49 : decode cX5_found 49 = .ok (.invokestatic 74, 3) := by decide +kernel
theorem dX5_found_52 : decode cX5_found 52 = .ok (.ifCond .eq 29, 3) := by decide +kernel
theorem dX5_found_55 : decode cX5_found 55 = .ok (.iload 5, 2) := by decide +kernel
theorem dX5_found_57 : decode cX5_found 57 = .ok (.i2l, 1) := by decide +kernel
theorem dX5_found_58 : decode cX5_found 58 = .ok (.lconst 0, 1) := by decide +kernel
theorem dX5_found_59 : decode cX5_found 59 = .ok (.ldc2_w 285, 3) := by decide +kernel
theorem dX5_found_62 : decode cX5_found 62 = .ok (.invokestatic 74, 3) := by decide +kernel
theorem dX5_found_65 : decode cX5_found 65 = .ok (.ifCond .eq 16, 3) := by decide +kernel
theorem dX5_found_68 : decode cX5_found 68 = .ok (.iload 6, 2) := by decide +kernel
theorem dX5_found_70 : decode cX5_found 70 = .ok (.i2l, 1) := by decide +kernel
theorem dX5_found_71 : decode cX5_found 71 = .ok (.lconst 0, 1) := by decide +kernel
theorem dX5_found_72 : decode cX5_found 72 = .ok (.ldc2_w 174, 3) := by decide +kernel
theorem dX5_found_75 : decode cX5_found 75 = .ok (.invokestatic 74, 3) := by decide +kernel
theorem dX5_found_78 : decode cX5_found 78 = .ok (.ifCond .ne 5, 3) := by decide +kernel
theorem dX5_found_81 : decode cX5_found 81 = .ok (.iconst (-1), 1) := by decide +kernel
theorem dX5_found_82 : decode cX5_found 82 = .ok (.ireturn, 1) := by decide +kernel
theorem dX5_found_83 : decode cX5_found 83 = .ok (.aload_n 0, 1) := by decide +kernel
theorem dX5_found_84 : decode cX5_found 84 = .ok (.iload_n 2, 1) := by decide +kernel
theorem dX5_found_85 : decode cX5_found 85 = .ok (.putfield 186, 3) := by decide +kernel
theorem dX5_found_88 : decode cX5_found 88 = .ok (.aload_n 0, 1) := by decide +kernel
theorem dX5_found_89 : decode cX5_found 89 = .ok (.iload 4, 2) := by decide +kernel
theorem dX5_found_91 : decode cX5_found 91 = .ok (.putfield 189, 3) := by decide +kernel
theorem dX5_found_94 : decode cX5_found 94 = .ok (.iconst 0, 1) := by decide +kernel
theorem dX5_found_95 : decode cX5_found 95 = .ok (.istore 7, 2) := by decide +kernel
theorem dX5_found_97 : decode cX5_found 97 = .ok (.iload 7, 2) := by decide +kernel
theorem dX5_found_99 : decode cX5_found 99 = .ok (.bipush 6, 2) := by decide +kernel
theorem dX5_found_101 : decode cX5_found 101 = .ok (.if_icmp .ge 26, 3) := by decide +kernel
theorem dX5_found_104 : decode cX5_found 104 = .ok (.aload_n 0, 1) := by decide +kernel
theorem dX5_found_105 : decode cX5_found 105 = .ok (.getfield 41, 3) := by decide +kernel
theorem dX5_found_108 : decode cX5_found 108 = .ok (.iload 7, 2) := by decide +kernel
theorem dX5_found_110 : decode cX5_found 110 = .ok (.iload 7, 2) := by decide +kernel
theorem dX5_found_112 : decode cX5_found 112 = .ok (.iastore, 1) := by decide +kernel
theorem dX5_found_113 : decode cX5_found 113 = .ok (.aload_n 0, 1) := by decide +kernel
theorem dX5_found_114 : decode cX5_found 114 = .ok (.getfield 50, 3) := by decide +kernel
theorem dX5_found_117 : decode cX5_found 117 = .ok (.iload 7, 2) := by decide +kernel
theorem dX5_found_119 : decode cX5_found 119 = .ok (.iconst 0, 1) := by decide +kernel
theorem dX5_found_120 : decode cX5_found 120 = .ok (.iastore, 1) := by decide +kernel
theorem dX5_found_121 : decode cX5_found 121 = .ok (.iinc 7 1, 3) := by decide +kernel
theorem dX5_found_124 : decode cX5_found 124 = .ok (.goto (-27), 3) := by decide +kernel
theorem dX5_found_127 : decode cX5_found 127 = .ok (.aload_n 0, 1) := by decide +kernel
theorem dX5_found_128 : decode cX5_found 128 = .ok (.invokevirtual 198, 3) := by decide +kernel
theorem dX5_found_131 : decode cX5_found 131 = .ok (.iconst 0, 1) := by decide +kernel
theorem dX5_found_132 : decode cX5_found 132 = .ok (.istore 7, 2) := by decide +kernel
theorem dX5_found_134 : decode cX5_found 134 = .ok (.iload 7, 2) := by decide +kernel
theorem dX5_found_136 : decode cX5_found 136 = .ok (.iload_n 3, 1) := by decide +kernel
theorem dX5_found_137 : decode cX5_found 137 = .ok (.if_icmp .ge 14, 3) := by decide +kernel
theorem dX5_found_140 : decode cX5_found 140 = .ok (.aload_n 0, 1) := by decide +kernel
theorem dX5_found_141 : decode cX5_found 141 = .ok (.invokevirtual 211, 3) := by decide +kernel
theorem dX5_found_144 : decode cX5_found 144 = .ok (.pop, 1) := by decide +kernel
theorem dX5_found_145 : decode cX5_found 145 = .ok (.iinc 7 1, 3) := by decide +kernel
theorem dX5_found_148 : decode cX5_found 148 = .ok (.goto (-14), 3) := by decide +kernel
theorem dX5_found_151 : decode cX5_found 151 = .ok (.iconst 0, 1) := by decide +kernel
theorem dX5_found_152 : decode cX5_found 152 = .ok (.istore 7, 2) := by decide +kernel
theorem dX5_found_154 : decode cX5_found 154 = .ok (.iload 7, 2) := by decide +kernel
theorem dX5_found_156 : decode cX5_found 156 = .ok (.iload 4, 2) := by decide +kernel
theorem dX5_found_158 : decode cX5_found 158 = .ok (.if_icmp .ge 127, 3) := by decide +kernel
theorem dX5_found_161 : decode cX5_found 161 = .ok (.iload_n 1, 1) := by decide +kernel
theorem dX5_found_162 : decode cX5_found 162 = .ok (.iload 7, 2) := by decide +kernel
theorem dX5_found_164 : decode cX5_found 164 = .ok (.iconst 0, 1) := by decide +kernel
theorem dX5_found_165 : decode cX5_found 165 = .ok (.invokestatic 287, 3) := by decide +kernel
theorem dX5_found_168 : decode cX5_found 168 = .ok (.iload_n 2, 1) := by decide +kernel
theorem dX5_found_169 : decode cX5_found 169 = .ok (.irem, 1) := by decide +kernel
theorem dX5_found_170 : decode cX5_found 170 = .ok (.istore 8, 2) := by decide +kernel
theorem dX5_found_172 : decode cX5_found 172 = .ok (.iconst 1, 1) := by decide +kernel
theorem dX5_found_173 : decode cX5_found 173 = .ok (.iload_n 1, 1) := by decide +kernel
theorem dX5_found_174 : decode cX5_found 174 = .ok (.iload 7, 2) := by decide +kernel
theorem dX5_found_176 : decode cX5_found 176 = .ok (.iconst 1, 1) := by decide +kernel
theorem dX5_found_177 : decode cX5_found 177 = .ok (.invokestatic 287, 3) := by decide +kernel
theorem dX5_found_180 : decode cX5_found 180 = .ok (.iconst 3, 1) := by decide +kernel
theorem dX5_found_181 : decode cX5_found 181 = .ok (.irem, 1) := by decide +kernel
theorem dX5_found_182 : decode cX5_found 182 = .ok (.iadd, 1) := by decide +kernel
theorem dX5_found_183 : decode cX5_found 183 = .ok (.istore 9, 2) := by decide +kernel
theorem dX5_found_185 : decode cX5_found 185 = .ok (.aload_n 0, 1) := by decide +kernel
theorem dX5_found_186 : decode cX5_found 186 = .ok (.getfield 47, 3) := by decide +kernel
theorem dX5_found_189 : decode cX5_found 189 = .ok (.iload 7, 2) := by decide +kernel
theorem dX5_found_191 : decode cX5_found 191 = .ok (.iconst 1, 1) := by decide +kernel
theorem dX5_found_192 : decode cX5_found 192 = .ok (.iload_n 1, 1) := by decide +kernel
theorem dX5_found_193 : decode cX5_found 193 = .ok (.iload 7, 2) := by decide +kernel
theorem dX5_found_195 : decode cX5_found 195 = .ok (.iconst 2, 1) := by decide +kernel
theorem dX5_found_196 : decode cX5_found 196 = .ok (.invokestatic 287, 3) := by decide +kernel
theorem dX5_found_199 : decode cX5_found 199 = .ok (.iconst 5, 1) := by decide +kernel
theorem dX5_found_200 : decode cX5_found 200 = .ok (.irem, 1) := by decide +kernel
theorem dX5_found_201 : decode cX5_found 201 = .ok (.iadd, 1) := by decide +kernel
theorem dX5_found_202 : decode cX5_found 202 = .ok (.iastore, 1) := by decide +kernel
theorem dX5_found_203 : decode cX5_found 203 = .ok (.aload_n 0, 1) := by decide +kernel
theorem dX5_found_204 : decode cX5_found 204 = .ok (.getfield 44, 3) := by decide +kernel
theorem dX5_found_207 : decode cX5_found 207 = .ok (.iload 7, 2) := by decide +kernel
theorem dX5_found_209 : decode cX5_found 209 = .ok (.iconst 0, 1) := by decide +kernel
theorem dX5_found_210 : decode cX5_found 210 = .ok (.iastore, 1) := by decide +kernel
theorem dX5_found_211 : decode cX5_found 211 = .ok (.iload 8, 2) := by decide +kernel
theorem dX5_found_213 : decode cX5_found 213 = .ok (.istore 10, 2) := by decide +kernel
theorem dX5_found_215 : decode cX5_found 215 = .ok (.iload 10, 2) := by decide +kernel
theorem dX5_found_217 : decode cX5_found 217 = .ok (.iload_n 2, 1) := by decide +kernel
theorem dX5_found_218 : decode cX5_found 218 = .ok (.if_icmp .ge 61, 3) := by decide +kernel
theorem dX5_found_221 : decode cX5_found 221 = .ok (.iload 10, 2) := by decide +kernel
theorem dX5_found_223 : decode cX5_found 223 = .ok (.iload 8, 2) := by decide +kernel
theorem dX5_found_225 : decode cX5_found 225 = .ok (.iload 9, 2) := by decide +kernel
theorem dX5_found_227 : decode cX5_found 227 = .ok (.iadd, 1) := by decide +kernel
theorem dX5_found_228 : decode cX5_found 228 = .ok (.if_icmp .ge 51, 3) := by decide +kernel
theorem dX5_found_231 : decode cX5_found 231 = .ok (.aload_n 0, 1) := by decide +kernel
theorem dX5_found_232 : decode cX5_found 232 = .ok (.getfield 44, 3) := by decide +kernel
theorem dX5_found_235 : decode cX5_found 235 = .ok (.iload 7, 2) := by decide +kernel
theorem dX5_found_237 : decode cX5_found 237 = .ok (.dup2, 1) := by decide +kernel
theorem dX5_found_238 : decode cX5_found 238 = .ok (.iaload, 1) := by decide +kernel
theorem dX5_found_239 : decode cX5_found 239 = .ok (.iload_n 1, 1) := by decide +kernel
theorem dX5_found_240 : decode cX5_found 240 = .ok (.iload 7, 2) := by decide +kernel
theorem dX5_found_242 : decode cX5_found 242 = .ok (.bipush 10, 2) := by decide +kernel
theorem dX5_found_244 : decode cX5_found 244 = .ok (.iload 10, 2) := by decide +kernel
theorem dX5_found_246 : decode cX5_found 246 = .ok (.iadd, 1) := by decide +kernel
theorem dX5_found_247 : decode cX5_found 247 = .ok (.invokestatic 287, 3) := by decide +kernel
theorem dX5_found_250 : decode cX5_found 250 = .ok (.bipush 100, 2) := by decide +kernel
theorem dX5_found_252 : decode cX5_found 252 = .ok (.irem, 1) := by decide +kernel
theorem dX5_found_253 : decode cX5_found 253 = .ok (.iload 5, 2) := by decide +kernel
theorem dX5_found_255 : decode cX5_found 255 = .ok (.if_icmp .ge 15, 3) := by decide +kernel
theorem dX5_found_258 : decode cX5_found 258 = .ok (.iconst 1, 1) := by decide +kernel
theorem dX5_found_259 : decode cX5_found 259 = .ok (.aload_n 0, 1) := by decide +kernel
theorem dX5_found_260 : decode cX5_found 260 = .ok (.getfield 53, 3) := by decide +kernel
theorem dX5_found_263 : decode cX5_found 263 = .ok (.iload 10, 2) := by decide +kernel
theorem dX5_found_265 : decode cX5_found 265 = .ok (.iaload, 1) := by decide +kernel
theorem dX5_found_266 : decode cX5_found 266 = .ok (.ishl, 1) := by decide +kernel
theorem dX5_found_267 : decode cX5_found 267 = .ok (.goto 4, 3) := by decide +kernel
theorem dX5_found_270 : decode cX5_found 270 = .ok (.iconst 0, 1) := by decide +kernel
theorem dX5_found_271 : decode cX5_found 271 = .ok (.ior, 1) := by decide +kernel
theorem dX5_found_272 : decode cX5_found 272 = .ok (.iastore, 1) := by decide +kernel
theorem dX5_found_273 : decode cX5_found 273 = .ok (.iinc 10 1, 3) := by decide +kernel
theorem dX5_found_276 : decode cX5_found 276 = .ok (.goto (-61), 3) := by decide +kernel
theorem dX5_found_279 : decode cX5_found 279 = .ok (.iinc 7 1, 3) := by decide +kernel
theorem dX5_found_282 : decode cX5_found 282 = .ok (.goto (-128), 3) := by decide +kernel
theorem dX5_found_285 : decode cX5_found 285 = .ok (.aload_n 0, 1) := by decide +kernel
theorem dX5_found_286 : decode cX5_found 286 = .ok (.invokevirtual 204, 3) := by decide +kernel
theorem dX5_found_289 : decode cX5_found 289 = .ok (.istore 7, 2) := by decide +kernel
theorem dX5_found_291 : decode cX5_found 291 = .ok (.aload_n 0, 1) := by decide +kernel
theorem dX5_found_292 : decode cX5_found 292 = .ok (.invokevirtual 217, 3) := by decide +kernel
theorem dX5_found_295 : decode cX5_found 295 = .ok (.iload 6, 2) := by decide +kernel
theorem dX5_found_297 : decode cX5_found 297 = .ok (.ifCond .ne 10, 3) := by decide +kernel
theorem dX5_found_300 : decode cX5_found 300 = .ok (.aload_n 0, 1) := by decide +kernel
theorem dX5_found_301 : decode cX5_found 301 = .ok (.getfield 195, 3) := by decide +kernel
theorem dX5_found_304 : decode cX5_found 304 = .ok (.goto 30, 3) := by decide +kernel
theorem dX5_found_307 : decode cX5_found 307 = .ok (.iload 6, 2) := by decide +kernel
theorem dX5_found_309 : decode cX5_found 309 = .ok (.iconst 1, 1) := by decide +kernel
theorem dX5_found_310 : decode cX5_found 310 = .ok (.if_icmp .ne 10, 3) := by decide +kernel
theorem dX5_found_313 : decode cX5_found 313 = .ok (.aload_n 0, 1) := by decide +kernel
theorem dX5_found_314 : decode cX5_found 314 = .ok (.getfield 192, 3) := by decide +kernel
theorem dX5_found_317 : decode cX5_found 317 = .ok (.goto 17, 3) := by decide +kernel
theorem dX5_found_320 : decode cX5_found 320 = .ok (.iload 7, 2) := by decide +kernel
theorem dX5_found_322 : decode cX5_found 322 = .ok (.aload_n 0, 1) := by decide +kernel
theorem dX5_found_323 : decode cX5_found 323 = .ok (.getfield 195, 3) := by decide +kernel
theorem dX5_found_326 : decode cX5_found 326 = .ok (.if_icmp .ne 7, 3) := by decide +kernel
theorem dX5_found_329 : decode cX5_found 329 = .ok (.iconst 1, 1) := by decide +kernel
theorem dX5_found_330 : decode cX5_found 330 = .ok (.goto 4, 3) := by decide +kernel
theorem dX5_found_333 : decode cX5_found 333 = .ok (.iconst 0, 1) := by decide +kernel
theorem dX5_found_334 : decode cX5_found 334 = .ok (.ireturn, 1) := by decide +kernel
set_option maxRecDepth 20000 in
theorem ggX5_keep_X5_copies : GoodIn wsX5_keep wsX5_copies := goodIn_r _ [6, 7, 8, 9, 10, 11, 12, 13, 14, 15, 16, 17, 18, 19, 20, 21, 22, 23, 24, 25, 26, 27, 28, 29, 30, 31, 32, 33, 34, 35, 36] (by decide +kernel) (by decide +kernel)
set_option maxRecDepth 20000 in
theorem gX5_keep_X5_copies : GoodIn wsX5_keep (wsV RX5 133 RX5 yX5_copies wsX5_copies) := goodIn_app (goodIn_of _ (by decide +kernel)) ggX5_keep_X5_copies
theorem dX5_keep_0 : decode cX5_keep 0 = .ok (.aload_n 0, 1) := by decide +kernel
theorem dX5_keep_1 : decode cX5_keep 1 = .ok (.getfield 137, 3) := by decide +kernel
theorem dX5_keep_4 : decode cX5_keep 4 = .ok (.iconst 2, 1) := by decide +kernel
theorem dX5_keep_5 : decode cX5_keep 5 = .ok (.if_icmp .ne 6, 3) := by decide +kernel
theorem dX5_keep_8 : decode cX5_keep 8 = .ok (.bipush (-3), 2) := by decide +kernel
theorem dX5_keep_10 : decode cX5_keep 10 = .ok (.ireturn, 1) := by decide +kernel
theorem dX5_keep_11 : decode cX5_keep 11 = .ok (.aload_n 0, 1) := by decide +kernel
theorem dX5_keep_12 : decode cX5_keep 12 = .ok (.dup, 1) := by decide +kernel
theorem dX5_keep_13 : decode cX5_keep 13 = .ok (.getfield 137, 3) := by decide +kernel
theorem dX5_keep_16 : decode cX5_keep 16 = .ok (.iconst 1, 1) := by decide +kernel
theorem dX5_keep_17 : decode cX5_keep 17 = .ok (.iadd, 1) := by decide +kernel
theorem dX5_keep_18 : decode cX5_keep 18 = .ok (.putfield 137, 3) := by decide +kernel
theorem dX5_keep_21 : decode cX5_keep 21 = .ok (.aload_n 0, 1) := by decide +kernel
theorem dX5_keep_22 : decode cX5_keep 22 = .ok (.iconst 0, 1) := by decide +kernel
theorem dX5_keep_23 : decode cX5_keep 23 = .ok (.aload_n 0, 1) := by decide +kernel
theorem dX5_keep_24 : decode cX5_keep 24 = .ok (.getfield 137, 3) := by decide +kernel
theorem dX5_keep_27 : decode cX5_keep 27 = .ok (.invokevirtual 133, 3) := by decide +kernel
theorem dX5_keep_30 : decode cX5_keep 30 = .ok (.aload_n 0, 1) := by decide +kernel
theorem dX5_keep_31 : decode cX5_keep 31 = .ok (.getfield 137, 3) := by decide +kernel
theorem dX5_keep_34 : decode cX5_keep 34 = .ok (.ireturn, 1) := by decide +kernel
set_option maxRecDepth 20000 in
theorem ggX5_back_X5_copies : GoodIn wsX5_back wsX5_copies := goodIn_r _ [6, 7, 8, 9, 10, 11, 12, 13, 14, 15, 16, 17, 18, 19, 20, 21, 22, 23, 24, 25, 26, 27, 28, 29, 30, 31, 32, 33, 34, 35, 36] (by decide +kernel) (by decide +kernel)
set_option maxRecDepth 20000 in
theorem gX5_back_X5_copies : GoodIn wsX5_back (wsV RX5 133 RX5 yX5_copies wsX5_copies) := goodIn_app (goodIn_of _ (by decide +kernel)) ggX5_back_X5_copies
theorem dX5_back_0 : decode cX5_back 0 = .ok (.aload_n 0, 1) := by decide +kernel
theorem dX5_back_1 : decode cX5_back 1 = .ok (.getfield 137, 3) := by decide +kernel
theorem dX5_back_4 : decode cX5_back 4 = .ok (.ifCond .ne 6, 3) := by decide +kernel
theorem dX5_back_7 : decode cX5_back 7 = .ok (.bipush (-2), 2) := by decide +kernel
theorem dX5_back_9 : decode cX5_back 9 = .ok (.ireturn, 1) := by decide +kernel
theorem dX5_back_10 : decode cX5_back 10 = .ok (.aload_n 0, 1) := by decide +kernel
theorem dX5_back_11 : decode cX5_back 11 = .ok (.aload_n 0, 1) := by decide +kernel
theorem dX5_back_12 : decode cX5_back 12 = .ok (.getfield 137, 3) := by decide +kernel
theorem dX5_back_15 : decode cX5_back 15 = .ok (.iconst 0, 1) := by decide +kernel
theorem dX5_back_16 : decode cX5_back 16 = .ok (.invokevirtual 133, 3) := by decide +kernel
theorem dX5_back_19 : decode cX5_back 19 = .ok (.aload_n 0, 1) := by decide +kernel
theorem dX5_back_20 : decode cX5_back 20 = .ok (.dup, 1) := by decide +kernel
theorem dX5_back_21 : decode cX5_back 21 = .ok (.getfield 137, 3) := by decide +kernel
theorem dX5_back_24 : decode cX5_back 24 = .ok (.iconst 1, 1) := by decide +kernel
theorem dX5_back_25 : decode cX5_back 25 = .ok (.isub, 1) := by decide +kernel
theorem dX5_back_26 : decode cX5_back 26 = .ok (.putfield 137, 3) := by decide +kernel
theorem dX5_back_29 : decode cX5_back 29 = .ok (.aload_n 0, 1) := by decide +kernel
theorem dX5_back_30 : decode cX5_back 30 = .ok (.getfield 137, 3) := by decide +kernel
theorem dX5_back_33 : decode cX5_back 33 = .ok (.ireturn, 1) := by decide +kernel
set_option maxRecDepth 20000 in
theorem ggX5_count_X5_allOf : GoodIn wsX5_count wsX5_allOf := goodIn_r _ [10, 11, 20, 21, 22, 23, 24, 25, 26, 27, 28, 29, 30, 31, 32, 33, 34, 35, 36, 37, 38, 39, 40, 41, 42, 43, 44, 45, 46, 47, 48] (by decide +kernel) (by decide +kernel)
set_option maxRecDepth 20000 in
theorem gX5_count_X5_allOf : GoodIn wsX5_count (wsV RX5 230 RX5 yX5_allOf wsX5_allOf) := goodIn_app (goodIn_of _ (by decide +kernel)) ggX5_count_X5_allOf
set_option maxRecDepth 20000 in
theorem ggX5_count_X5_thereAre : GoodIn wsX5_count wsX5_thereAre := goodIn_r _ [15, 1, 16, 20, 21, 22, 23, 24, 25, 26, 27, 28, 29, 30, 31, 32, 33, 34, 35, 36, 37, 38, 39, 40, 41, 42, 43, 44, 45, 46, 47, 48] (by decide +kernel) (by decide +kernel)
set_option maxRecDepth 20000 in
theorem gX5_count_X5_thereAre : GoodIn wsX5_count (wsV RX5 143 RX5 yX5_thereAre wsX5_thereAre) := goodIn_app (goodIn_of _ (by decide +kernel)) ggX5_count_X5_thereAre
set_option maxRecDepth 20000 in
theorem ggX5_count_X5_bits : GoodIn wsX5_count wsX5_bits := goodIn_r _ [19] (by decide +kernel) (by decide +kernel)
set_option maxRecDepth 20000 in
theorem gX5_count_X5_bits : GoodIn wsX5_count (va_wsS RX5 242 yX5_bits wsX5_bits) := goodIn_app (goodIn_of _ (by decide +kernel)) ggX5_count_X5_bits
theorem dX5_count_0 : decode cX5_count 0 = .ok (.iconst 0, 1) := by decide +kernel
theorem dX5_count_1 : decode cX5_count 1 = .ok (.istore_n 2, 1) := by decide +kernel
theorem dX5_count_2 : decode cX5_count 2 = .ok (.iconst 0, 1) := by decide +kernel
theorem dX5_count_3 : decode cX5_count 3 = .ok (.istore_n 3, 1) := by decide +kernel
theorem dX5_count_4 : decode cX5_count 4 = .ok (.iload_n 3, 1) := by decide +kernel
theorem dX5_count_5 : decode cX5_count 5 = .ok (.aload_n 0, 1) := by decide +kernel
theorem dX5_count_6 : decode cX5_count 6 = .ok (.getfield 20, 3) := by decide +kernel
theorem dX5_count_9 : decode cX5_count 9 = .ok (.iconst 0, 1) := by decide +kernel
theorem dX5_count_10 : decode cX5_count 10 = .ok (.iaload, 1) := by decide +kernel
theorem dX5_count_11 : decode cX5_count 11 = .ok (.if_icmp .ge 17, 3) := by decide +kernel
theorem dX5_count_14 : decode cX5_count 14 = .ok (.iload_n 2, 1) := by decide +kernel
theorem dX5_count_15 : decode cX5_count 15 = .ok (.aload_n 0, 1) := by decide +kernel
theorem dX5_count_16 : decode cX5_count 16 = .ok (.iload_n 3, 1) := by decide +kernel
theorem dX5_count_17 : decode cX5_count 17 = .ok (.invokevirtual 230, 3) := by decide +kernel
theorem dX5_count_20 : decode cX5_count 20 = .ok (.iadd, 1) := by decide +kernel
theorem dX5_count_21 : decode cX5_count 21 = .ok (.istore_n 2, 1) := by decide +kernel
theorem dX5_count_22 : decode cX5_count 22 = .ok (.iinc 3 1, 3) := by decide +kernel
theorem dX5_count_25 : decode cX5_count 25 = .ok (.goto (-21), 3) := by decide +kernel
theorem dX5_count_28 : decode cX5_count 28 = .ok (.iload_n 1, 1) := by decide +kernel
theorem dX5_count_29 : decode cX5_count 29 = .ok (.ifCond .ne 12, 3) := by decide +kernel
theorem dX5_count_32 : decode cX5_count 32 = .ok (.aload_n 0, 1) := by decide +kernel
theorem dX5_count_33 : decode cX5_count 33 = .ok (.getfield 13, 3) := by decide +kernel
theorem dX5_count_36 : decode cX5_count 36 = .ok (.iconst 0, 1) := by decide +kernel
theorem dX5_count_37 : decode cX5_count 37 = .ok (.iaload, 1) := by decide +kernel
theorem dX5_count_38 : decode cX5_count 38 = .ok (.goto 81, 3) := by decide +kernel
theorem dX5_count_41 : decode cX5_count 41 = .ok (.iload_n 1, 1) := by decide +kernel
theorem dX5_count_42 : decode cX5_count 42 = .ok (.iconst 1, 1) := by decide +kernel
theorem dX5_count_43 : decode cX5_count 43 = .ok (.if_icmp .ne 12, 3) := by decide +kernel
theorem dX5_count_46 : decode cX5_count 46 = .ok (.aload_n 0, 1) := by decide +kernel
theorem dX5_count_47 : decode cX5_count 47 = .ok (.getfield 20, 3) := by decide +kernel
theorem dX5_count_50 : decode cX5_count 50 = .ok (.iconst 0, 1) := by decide +kernel
theorem dX5_count_51 : decode cX5_count 51 = .ok (.iaload, 1) := by decide +kernel
theorem dX5_count_52 : decode cX5_count 52 = .ok (.goto 67, 3) := by decide +kernel
theorem dX5_count_55 : decode cX5_count 55 = .ok (.iload_n 1, 1) := by decide +kernel
theorem dX5_count_56 : decode cX5_count 56 = .ok (.iconst 2, 1) := by decide +kernel
theorem dX5_count_57 : decode cX5_count 57 = .ok (.if_icmp .ne 13, 3) := by decide +kernel
theorem dX5_count_60 : decode cX5_count 60 = .ok (.aload_n 0, 1) := by decide +kernel
theorem dX5_count_61 : decode cX5_count 61 = .ok (.invokevirtual 143, 3) := by decide +kernel
theorem dX5_count_64 : decode cX5_count 64 = .ok (.invokestatic 242, 3) := by decide +kernel
theorem dX5_count_67 : decode cX5_count 67 = .ok (.goto 52, 3) := by decide +kernel
theorem dX5_count_70 : decode cX5_count 70 = .ok (.iload_n 1, 1) := by decide +kernel
theorem dX5_count_71 : decode cX5_count 71 = .ok (.iconst 3, 1) := by decide +kernel
theorem dX5_count_72 : decode cX5_count 72 = .ok (.if_icmp .ne 12, 3) := by decide +kernel
theorem dX5_count_75 : decode cX5_count 75 = .ok (.aload_n 0, 1) := by decide +kernel
theorem dX5_count_76 : decode cX5_count 76 = .ok (.getfield 29, 3) := by decide +kernel
theorem dX5_count_79 : decode cX5_count 79 = .ok (.iconst 0, 1) := by decide +kernel
theorem dX5_count_80 : decode cX5_count 80 = .ok (.iaload, 1) := by decide +kernel
theorem dX5_count_81 : decode cX5_count 81 = .ok (.goto 38, 3) := by decide +kernel
theorem dX5_count_84 : decode cX5_count 84 = .ok (.iload_n 1, 1) := by decide +kernel
theorem dX5_count_85 : decode cX5_count 85 = .ok (.iconst 4, 1) := by decide +kernel
theorem dX5_count_86 : decode cX5_count 86 = .ok (.if_icmp .ne 10, 3) := by decide +kernel
theorem dX5_count_89 : decode cX5_count 89 = .ok (.aload_n 0, 1) := by decide +kernel
theorem dX5_count_90 : decode cX5_count 90 = .ok (.getfield 78, 3) := by decide +kernel
theorem dX5_count_93 : decode cX5_count 93 = .ok (.goto 26, 3) := by decide +kernel
theorem dX5_count_96 : decode cX5_count 96 = .ok (.iload_n 1, 1) := by decide +kernel
theorem dX5_count_97 : decode cX5_count 97 = .ok (.iconst 5, 1) := by decide +kernel
theorem dX5_count_98 : decode cX5_count 98 = .ok (.if_icmp .ne 10, 3) := by decide +kernel
theorem dX5_count_101 : decode cX5_count 101 = .ok (.aload_n 0, 1) := by decide +kernel
theorem dX5_count_102 : decode cX5_count 102 = .ok (.getfield 137, 3) := by decide +kernel
theorem dX5_count_105 : decode cX5_count 105 = .ok (.goto 14, 3) := by decide +kernel
theorem dX5_count_108 : decode cX5_count 108 = .ok (.iload_n 1, 1) := by decide +kernel
theorem dX5_count_109 : decode cX5_count 109 = .ok (.bipush 6, 2) := by decide +kernel
theorem dX5_count_111 : decode cX5_count 111 = .ok (.if_icmp .ne 7, 3) := by decide +kernel
theorem dX5_count_114 : decode cX5_count 114 = .ok (.iload_n 2, 1) := by decide +kernel
theorem dX5_count_115 : decode cX5_count 115 = .ok (.goto 4, 3) := by decide +kernel
theorem dX5_count_118 : decode cX5_count 118 = .ok (.iconst (-1), 1) := by decide +kernel
theorem dX5_count_119 : decode cX5_count 119 = .ok (.ireturn, 1) := by decide +kernel
