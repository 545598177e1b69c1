set_option maxRecDepth 100000 in
theorem wl_21 : GoodIn lw_tbl wsL_law_r21 := goodIn_r _ [483, 485, 17, 486, 146, 487, 489, 18, 490, 491, 493, 19, 494, 495, 496, 497, 498, 499, 500, 501, 502, 503, 504, 505] (by decide +kernel) (by decide +kernel)
set_option maxRecDepth 100000 in
theorem wl_22 : GoodIn lw_tbl wsL_law_r22 := goodIn_r _ [506, 507, 508, 509, 510, 984, 985, 986, 987, 787, 779, 788, 988, 990, 46, 991, 992, 994, 47, 995, 781, 996, 998, 48] (by decide +kernel) (by decide +kernel)
set_option maxRecDepth 100000 in
theorem wl_23 : GoodIn lw_tbl wsL_law_r23 := goodIn_r _ [999, 1000, 1002, 49, 1003, 1004, 1006, 50, 1007, 1008, 1010, 51, 1011, 1012, 1014, 52, 1015, 1016, 1018, 53, 1019, 511, 512, 513] (by decide +kernel) (by decide +kernel)
set_option maxRecDepth 100000 in
theorem wl_24 : GoodIn lw_tbl wsL_law_r24 := goodIn_r _ [514, 515, 516, 517, 518, 519, 521, 20, 522, 1020, 1021, 1022, 1023, 523, 524, 525, 526, 527, 528, 529, 530, 531, 532, 534] (by decide +kernel) (by decide +kernel)
set_option maxRecDepth 100000 in
theorem wl_25 : GoodIn lw_tbl wsL_law_r25 := goodIn_r _ [21, 535, 536, 538, 22, 539, 540, 541, 543, 23, 544, 545, 546, 547, 548, 549, 550, 551, 552, 1024, 1025, 1026, 1027, 1028] (by decide +kernel) (by decide +kernel)
set_option maxRecDepth 100000 in
theorem wl_26 : GoodIn lw_tbl wsL_law_r26 := goodIn_r _ [1030, 54, 1031, 1032, 1034, 55, 1035, 553, 554, 555, 556, 147, 557, 1036, 1037, 1038, 1039, 558, 559, 560, 561, 562, 563, 564] (by decide +kernel) (by decide +kernel)
set_option maxRecDepth 100000 in
theorem wl_27 : GoodIn lw_tbl wsL_law_r27 := goodIn_r _ [565, 566, 567, 74, 568, 1040, 1041, 1042, 1043, 569, 570, 571, 572, 573, 574, 575, 576, 589, 577, 578, 579, 580, 581, 582] (by decide +kernel) (by decide +kernel)
set_option maxRecDepth 100000 in
theorem wl_28 : GoodIn lw_tbl wsL_law_r28 := goodIn_r _ [583, 584, 585, 587, 588, 590, 591, 592, 593, 594, 595, 596, 597, 1044, 1045, 1046, 1047, 1048, 1050, 56, 1051, 1052, 1054, 57] (by decide +kernel) (by decide +kernel)
set_option maxRecDepth 100000 in
theorem wl_29 : GoodIn lw_tbl wsL_law_r29 := goodIn_r _ [1055, 1056, 1057, 1058, 598, 599, 600, 601, 602, 603, 604, 605, 1059, 1060, 1061, 1062, 1063, 1065, 58, 1066, 606, 607, 608, 609] (by decide +kernel) (by decide +kernel)
set_option maxRecDepth 100000 in
theorem wl_30 : GoodIn lw_tbl wsL_law_r30 := goodIn_r _ [610, 611, 612, 613, 614, 615, 1067, 1068, 1069, 1070, 1071, 1073, 59, 1074, 1075, 1077, 60, 1078, 1079, 1080, 1081, 616, 617, 618] (by decide +kernel) (by decide +kernel)
set_option maxRecDepth 100000 in
theorem wl_31 : GoodIn lw_tbl wsL_law_r31 := goodIn_r _ [619, 620, 621, 622, 623, 194, 624, 625, 626, 115, 114, 627, 628, 629, 631, 24, 632, 633, 634, 636, 25, 637, 638, 639] (by decide +kernel) (by decide +kernel)
set_option maxRecDepth 100000 in
theorem wl_32 : GoodIn lw_tbl wsL_law_r32 := goodIn_r _ [641, 26, 642, 643, 645, 27, 646, 647, 648, 649, 650, 1082, 1083, 1084, 1085, 1086, 1088, 61, 1089, 651, 652, 653, 654, 659] (by decide +kernel) (by decide +kernel)
set_option maxRecDepth 100000 in
theorem wl_33 : GoodIn lw_tbl wsL_law_r33 := goodIn_r _ [655, 656, 657, 658, 660, 661, 662, 663, 664, 1090, 1091, 1092, 1093, 1094, 665, 666, 667, 668, 669, 670, 671, 672, 673, 674] (by decide +kernel) (by decide +kernel)
set_option maxRecDepth 100000 in
theorem wl_34 : GoodIn lw_tbl wsL_law_r34 := goodIn_r _ [676, 28, 677, 678, 679, 680, 681, 682, 683, 684, 685, 686, 687, 688, 689, 1095, 1096, 1097, 1098, 1099, 1101, 62, 1102, 690] (by decide +kernel) (by decide +kernel)
set_option maxRecDepth 100000 in
theorem wl_35 : GoodIn lw_tbl wsL_law_r35 := goodIn_r _ [691, 692, 693, 694, 695, 696, 697, 698, 699, 700, 701, 1103, 1104, 1105, 1106, 1107, 1109, 63, 1110, 702, 703, 704, 705, 706] (by decide +kernel) (by decide +kernel)
set_option maxRecDepth 100000 in
theorem wl_36 : GoodIn lw_tbl wsL_law_r36 := goodIn_r _ [707, 708, 709, 1111, 1112, 1113, 1114, 1115, 1117, 64, 1118, 710, 711, 712, 713, 714, 716, 718, 29, 719, 720, 721, 722, 723] (by decide +kernel) (by decide +kernel)
set_option maxRecDepth 100000 in
theorem wl_37 : GoodIn lw_tbl wsL_law_r37 := goodIn_r _ [724, 726, 30, 727, 140, 138, 728, 729, 730, 731, 732, 733, 734, 735, 736, 737, 738, 739, 740, 1119, 1120, 1121, 1122, 1123] (by decide +kernel) (by decide +kernel)
set_option maxRecDepth 100000 in
theorem wl_38 : GoodIn lw_tbl wsL_law_r38 := goodIn_r _ [1124, 1128, 1129, 1125, 1126, 1127, 1130, 1131, 1132, 1133, 1134, 1135, 1136, 1137, 741, 742, 743, 744, 185, 745, 747, 746, 75, 1138] (by decide +kernel) (by decide +kernel)
set_option maxRecDepth 100000 in
theorem wl_39 : GoodIn lw_tbl wsL_law_r39 := goodIn_r _ [1139, 1140, 1141, 748, 749, 750, 751, 1142, 1143, 1144, 1145, 752, 753, 754, 755, 196, 756, 757, 758, 759, 1146, 1147, 1148, 1149] (by decide +kernel) (by decide +kernel)
set_option maxRecDepth 100000 in
theorem wu_X4 : GoodIn lw_tbl wsX40 := goodIn_r _ [231, 233, 235, 237, 239, 241, 243, 245] (by decide +kernel) (by decide +kernel)
set_option maxRecDepth 100000 in
theorem wu_X5 : GoodIn lw_tbl wsX50 := goodIn_r _ [795, 797, 799, 801, 803, 805, 807, 809, 811, 813, 815, 817, 819, 821, 823, 825, 827, 829, 831, 833, 835, 837, 839, 841, 843, 845, 847, 849, 851] (by decide +kernel) (by decide +kernel)
set_option maxRecDepth 100000 in
theorem wu_X2 : GoodIn lw_tbl wsX20 := goodIn_r _ [94, 96, 98] (by decide +kernel) (by decide +kernel)
set_option maxRecDepth 100000 in
theorem wu_X1 : GoodIn lw_tbl wsX10 := goodIn_r _ [116, 118, 120, 122, 124, 126, 128] (by decide +kernel) (by decide +kernel)
set_option maxRecDepth 100000 in
theorem wu_X0 : GoodIn lw_tbl wsX00 := goodIn_r _ [149, 151, 153, 155, 157, 159, 161, 163, 165] (by decide +kernel) (by decide +kernel)
set_option maxRecDepth 100000 in
theorem wu_X3 : GoodIn lw_tbl wsX30 := goodIn_r _ [198, 200, 202, 204, 206, 208, 210, 212, 214, 216, 218, 220] (by decide +kernel) (by decide +kernel)
def wsL_law : List Cond := (wsL_law_r1 ++ (wsL_law_r2 ++ (wsL_law_r3 ++ (wsL_law_r4 ++ (wsL_law_r5 ++ (wsL_law_r6 ++ (wsL_law_r7 ++ (wsL_law_r8 ++ (wsL_law_r9 ++ (wsL_law_r10 ++ (wsL_law_r11 ++ (wsL_law_r12 ++ (wsL_law_r13 ++ (wsL_law_r14 ++ (wsL_law_r15 ++ (wsL_law_r16 ++ (wsL_law_r17 ++ (wsL_law_r18 ++ (wsL_law_r19 ++ (wsL_law_r20 ++ (wsL_law_r21 ++ (wsL_law_r22 ++ (wsL_law_r23 ++ (wsL_law_r24 ++ (wsL_law_r25 ++ (wsL_law_r26 ++ (wsL_law_r27 ++ (wsL_law_r28 ++ (wsL_law_r29 ++ (wsL_law_r30 ++ (wsL_law_r31 ++ (wsL_law_r32 ++ (wsL_law_r33 ++ (wsL_law_r34 ++ (wsL_law_r35 ++ (wsL_law_r36 ++ (wsL_law_r37 ++ (wsL_law_r38 ++ wsL_law_r39)))))))))))))))))))))))))))))))))))))) ++ wsX40 ++ wsX50 ++ wsX20 ++ wsX10 ++ wsX00 ++ wsX30 ++ ([] : List Cond)
theorem wsL_good : GoodIn lw_tbl wsL_law := goodIn_app (goodIn_app (goodIn_app (goodIn_app (goodIn_app (goodIn_app (goodIn_app (goodIn_app wl_1 (goodIn_app wl_2 (goodIn_app wl_3 (goodIn_app wl_4 (goodIn_app wl_5 (goodIn_app wl_6 (goodIn_app wl_7 (goodIn_app wl_8 (goodIn_app wl_9 (goodIn_app wl_10 (goodIn_app wl_11 (goodIn_app wl_12 (goodIn_app wl_13 (goodIn_app wl_14 (goodIn_app wl_15 (goodIn_app wl_16 (goodIn_app wl_17 (goodIn_app wl_18 (goodIn_app wl_19 (goodIn_app wl_20 (goodIn_app wl_21 (goodIn_app wl_22 (goodIn_app wl_23 (goodIn_app wl_24 (goodIn_app wl_25 (goodIn_app wl_26 (goodIn_app wl_27 (goodIn_app wl_28 (goodIn_app wl_29 (goodIn_app wl_30 (goodIn_app wl_31 (goodIn_app wl_32 (goodIn_app wl_33 (goodIn_app wl_34 (goodIn_app wl_35 (goodIn_app wl_36 (goodIn_app wl_37 (goodIn_app wl_38 (wl_39))))))))))))))))))))))))))))))))))))))) wu_X4) wu_X5) wu_X2) wu_X1) wu_X0) wu_X3) (fun _ h => absurd h List.not_mem_nil)
theorem wsL_law_in : ∀ w ∈ wsL_law, w ∈ lw_tbl := fun w h => (wsL_good w h).1
theorem inlX0 : ∀ w ∈ wsX00, w ∈ wsL_law := fun _ h => List.mem_append_left _ (List.mem_append_left _ (List.mem_append_right _ h))
theorem inlX1 : ∀ w ∈ wsX10, w ∈ wsL_law := fun _ h => List.mem_append_left _ (List.mem_append_left _ (List.mem_append_left _ (List.mem_append_right _ h)))
theorem inlX2 : ∀ w ∈ wsX20, w ∈ wsL_law := fun _ h => List.mem_append_left _ (List.mem_append_left _ (List.mem_append_left _ (List.mem_append_left _ (List.mem_append_right _ h))))
theorem inlX3 : ∀ w ∈ wsX30, w ∈ wsL_law := fun _ h => List.mem_append_left _ (List.mem_append_right _ h)
theorem inlX4 : ∀ w ∈ wsX40, w ∈ wsL_law := fun _ h => List.mem_append_left _ (List.mem_append_left _ (List.mem_append_left _ (List.mem_append_left _ (List.mem_append_left _ (List.mem_append_left _ (List.mem_append_right _ h))))))
theorem inlX5 : ∀ w ∈ wsX50, w ∈ wsL_law := fun _ h => List.mem_append_left _ (List.mem_append_left _ (List.mem_append_left _ (List.mem_append_left _ (List.mem_append_left _ (List.mem_append_right _ h)))))
