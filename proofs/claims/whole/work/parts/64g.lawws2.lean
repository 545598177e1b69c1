set_option maxRecDepth 100000 in
theorem wl_21 : GoodIn lw_tbl wsL_law_r21 := goodIn_r _ [485, 486, 488, 17, 489, 147, 490, 492, 18, 493, 494, 496, 19, 497, 498, 499, 500, 501, 502, 503, 504, 505, 506, 507] (by decide +kernel) (by decide +kernel)
set_option maxRecDepth 100000 in
theorem wl_22 : GoodIn lw_tbl wsL_law_r22 := goodIn_r _ [508, 509, 510, 511, 512, 513, 987, 988, 989, 990, 790, 782, 791, 991, 993, 46, 994, 995, 997, 47, 998, 784, 999, 1001] (by decide +kernel) (by decide +kernel)
set_option maxRecDepth 100000 in
theorem wl_23 : GoodIn lw_tbl wsL_law_r23 := goodIn_r _ [48, 1002, 1003, 1005, 49, 1006, 1007, 1009, 50, 1010, 1011, 1013, 51, 1014, 1015, 1017, 52, 1018, 1019, 1021, 53, 1022, 514, 515] (by decide +kernel) (by decide +kernel)
set_option maxRecDepth 100000 in
theorem wl_24 : GoodIn lw_tbl wsL_law_r24 := goodIn_r _ [516, 517, 518, 519, 520, 521, 522, 524, 20, 525, 1023, 1024, 1025, 1026, 526, 527, 528, 529, 530, 531, 532, 533, 534, 535] (by decide +kernel) (by decide +kernel)
set_option maxRecDepth 100000 in
theorem wl_25 : GoodIn lw_tbl wsL_law_r25 := goodIn_r _ [537, 21, 538, 539, 541, 22, 542, 543, 544, 546, 23, 547, 548, 549, 550, 551, 552, 553, 554, 555, 1027, 1028, 1029, 1030] (by decide +kernel) (by decide +kernel)
set_option maxRecDepth 100000 in
theorem wl_26 : GoodIn lw_tbl wsL_law_r26 := goodIn_r _ [1031, 1033, 54, 1034, 1035, 1037, 55, 1038, 556, 557, 558, 559, 148, 560, 1039, 1040, 1041, 1042, 561, 562, 563, 564, 565, 566] (by decide +kernel) (by decide +kernel)
set_option maxRecDepth 100000 in
theorem wl_27 : GoodIn lw_tbl wsL_law_r27 := goodIn_r _ [567, 568, 569, 570, 74, 571, 1043, 1044, 1045, 1046, 572, 573, 574, 575, 576, 577, 578, 579, 592, 580, 581, 582, 583, 584] (by decide +kernel) (by decide +kernel)
set_option maxRecDepth 100000 in
theorem wl_28 : GoodIn lw_tbl wsL_law_r28 := goodIn_r _ [585, 586, 587, 588, 590, 591, 593, 594, 595, 596, 597, 598, 599, 600, 1047, 1048, 1049, 1050, 1051, 1053, 56, 1054, 1055, 1057] (by decide +kernel) (by decide +kernel)
set_option maxRecDepth 100000 in
theorem wl_29 : GoodIn lw_tbl wsL_law_r29 := goodIn_r _ [57, 1058, 1059, 1060, 1061, 601, 602, 603, 604, 605, 606, 607, 608, 1062, 1063, 1064, 1065, 1066, 1068, 58, 1069, 609, 610, 611] (by decide +kernel) (by decide +kernel)
set_option maxRecDepth 100000 in
theorem wl_30 : GoodIn lw_tbl wsL_law_r30 := goodIn_r _ [612, 613, 614, 615, 616, 617, 618, 1070, 1071, 1072, 1073, 1074, 1076, 59, 1077, 1078, 1080, 60, 1081, 1082, 1083, 1084, 619, 620] (by decide +kernel) (by decide +kernel)
set_option maxRecDepth 100000 in
theorem wl_31 : GoodIn lw_tbl wsL_law_r31 := goodIn_r _ [621, 622, 623, 624, 625, 626, 197, 627, 628, 629, 115, 114, 630, 631, 632, 634, 24, 635, 636, 637, 639, 25, 640, 641] (by decide +kernel) (by decide +kernel)
set_option maxRecDepth 100000 in
theorem wl_32 : GoodIn lw_tbl wsL_law_r32 := goodIn_r _ [642, 644, 26, 645, 646, 648, 27, 649, 650, 651, 652, 653, 1085, 1086, 1087, 1088, 1089, 1091, 61, 1092, 654, 655, 656, 657] (by decide +kernel) (by decide +kernel)
set_option maxRecDepth 100000 in
theorem wl_33 : GoodIn lw_tbl wsL_law_r33 := goodIn_r _ [662, 658, 659, 660, 661, 663, 664, 665, 666, 667, 1093, 1094, 1095, 1096, 1097, 668, 669, 670, 671, 672, 673, 674, 675, 676] (by decide +kernel) (by decide +kernel)
set_option maxRecDepth 100000 in
theorem wl_34 : GoodIn lw_tbl wsL_law_r34 := goodIn_r _ [677, 679, 28, 680, 681, 682, 683, 684, 685, 686, 687, 688, 689, 690, 691, 692, 1098, 1099, 1100, 1101, 1102, 1104, 62, 1105] (by decide +kernel) (by decide +kernel)
set_option maxRecDepth 100000 in
theorem wl_35 : GoodIn lw_tbl wsL_law_r35 := goodIn_r _ [693, 694, 695, 696, 697, 698, 699, 700, 701, 702, 703, 704, 1106, 1107, 1108, 1109, 1110, 1112, 63, 1113, 705, 706, 707, 708] (by decide +kernel) (by decide +kernel)
set_option maxRecDepth 100000 in
theorem wl_36 : GoodIn lw_tbl wsL_law_r36 := goodIn_r _ [709, 710, 711, 712, 1114, 1115, 1116, 1117, 1118, 1120, 64, 1121, 713, 714, 715, 716, 717, 719, 721, 29, 722, 723, 724, 725] (by decide +kernel) (by decide +kernel)
set_option maxRecDepth 100000 in
theorem wl_37 : GoodIn lw_tbl wsL_law_r37 := goodIn_r _ [726, 727, 729, 30, 730, 140, 138, 731, 732, 733, 734, 735, 736, 737, 738, 739, 740, 741, 742, 743, 1122, 1123, 1124, 1125] (by decide +kernel) (by decide +kernel)
set_option maxRecDepth 100000 in
theorem wl_38 : GoodIn lw_tbl wsL_law_r38 := goodIn_r _ [1126, 1127, 1131, 1132, 1128, 1129, 1130, 1133, 1134, 1135, 1136, 1137, 1138, 1139, 1140, 744, 745, 746, 747, 188, 748, 750, 749, 75] (by decide +kernel) (by decide +kernel)
set_option maxRecDepth 100000 in
theorem wl_39 : GoodIn lw_tbl wsL_law_r39 := goodIn_r _ [1141, 1142, 1143, 1144, 751, 752, 753, 754, 1145, 1146, 1147, 1148, 755, 756, 757, 758, 199, 759, 760, 761, 762, 1149, 1150, 1151] (by decide +kernel) (by decide +kernel)
set_option maxRecDepth 100000 in
theorem wl_40 : GoodIn lw_tbl wsL_law_r40 := goodIn_r _ [1152] (by decide +kernel) (by decide +kernel)
set_option maxRecDepth 100000 in
theorem wu_X4 : GoodIn lw_tbl wsX40 := goodIn_r _ [234, 236, 238, 240, 242, 244, 246, 248] (by decide +kernel) (by decide +kernel)
set_option maxRecDepth 100000 in
theorem wu_X5 : GoodIn lw_tbl wsX50 := goodIn_r _ [798, 800, 802, 804, 806, 808, 810, 812, 814, 816, 818, 820, 822, 824, 826, 828, 830, 832, 834, 836, 838, 840, 842, 844, 846, 848, 850, 852, 854] (by decide +kernel) (by decide +kernel)
set_option maxRecDepth 100000 in
theorem wu_X2 : GoodIn lw_tbl wsX20 := goodIn_r _ [94, 96, 98] (by decide +kernel) (by decide +kernel)
set_option maxRecDepth 100000 in
theorem wu_X1 : GoodIn lw_tbl wsX10 := goodIn_r _ [116, 118, 120, 122, 124, 126, 128] (by decide +kernel) (by decide +kernel)
set_option maxRecDepth 100000 in
theorem wu_X0 : GoodIn lw_tbl wsX00 := goodIn_r _ [150, 152, 154, 156, 158, 160, 162, 164, 166, 168] (by decide +kernel) (by decide +kernel)
set_option maxRecDepth 100000 in
theorem wu_X3 : GoodIn lw_tbl wsX30 := goodIn_r _ [201, 203, 205, 207, 209, 211, 213, 215, 217, 219, 221, 223] (by decide +kernel) (by decide +kernel)
def wsL_law : List Cond := (wsL_law_r1 ++ (wsL_law_r2 ++ (wsL_law_r3 ++ (wsL_law_r4 ++ (wsL_law_r5 ++ (wsL_law_r6 ++ (wsL_law_r7 ++ (wsL_law_r8 ++ (wsL_law_r9 ++ (wsL_law_r10 ++ (wsL_law_r11 ++ (wsL_law_r12 ++ (wsL_law_r13 ++ (wsL_law_r14 ++ (wsL_law_r15 ++ (wsL_law_r16 ++ (wsL_law_r17 ++ (wsL_law_r18 ++ (wsL_law_r19 ++ (wsL_law_r20 ++ (wsL_law_r21 ++ (wsL_law_r22 ++ (wsL_law_r23 ++ (wsL_law_r24 ++ (wsL_law_r25 ++ (wsL_law_r26 ++ (wsL_law_r27 ++ (wsL_law_r28 ++ (wsL_law_r29 ++ (wsL_law_r30 ++ (wsL_law_r31 ++ (wsL_law_r32 ++ (wsL_law_r33 ++ (wsL_law_r34 ++ (wsL_law_r35 ++ (wsL_law_r36 ++ (wsL_law_r37 ++ (wsL_law_r38 ++ (wsL_law_r39 ++ wsL_law_r40))))))))))))))))))))))))))))))))))))))) ++ wsX40 ++ wsX50 ++ wsX20 ++ wsX10 ++ wsX00 ++ wsX30 ++ ([] : List Cond)
theorem wsL_good : GoodIn lw_tbl wsL_law := goodIn_app (goodIn_app (goodIn_app (goodIn_app (goodIn_app (goodIn_app (goodIn_app (goodIn_app wl_1 (goodIn_app wl_2 (goodIn_app wl_3 (goodIn_app wl_4 (goodIn_app wl_5 (goodIn_app wl_6 (goodIn_app wl_7 (goodIn_app wl_8 (goodIn_app wl_9 (goodIn_app wl_10 (goodIn_app wl_11 (goodIn_app wl_12 (goodIn_app wl_13 (goodIn_app wl_14 (goodIn_app wl_15 (goodIn_app wl_16 (goodIn_app wl_17 (goodIn_app wl_18 (goodIn_app wl_19 (goodIn_app wl_20 (goodIn_app wl_21 (goodIn_app wl_22 (goodIn_app wl_23 (goodIn_app wl_24 (goodIn_app wl_25 (goodIn_app wl_26 (goodIn_app wl_27 (goodIn_app wl_28 (goodIn_app wl_29 (goodIn_app wl_30 (goodIn_app wl_31 (goodIn_app wl_32 (goodIn_app wl_33 (goodIn_app wl_34 (goodIn_app wl_35 (goodIn_app wl_36 (goodIn_app wl_37 (goodIn_app wl_38 (goodIn_app wl_39 (wl_40)))))))))))))))))))))))))))))))))))))))) wu_X4) wu_X5) wu_X2) wu_X1) wu_X0) wu_X3) (fun _ h => absurd h List.not_mem_nil)
theorem wsL_law_in : ∀ w ∈ wsL_law, w ∈ lw_tbl := fun w h => (wsL_good w h).1
theorem inlX0 : ∀ w ∈ wsX00, w ∈ wsL_law := fun _ h => List.mem_append_left _ (List.mem_append_left _ (List.mem_append_right _ h))
theorem inlX1 : ∀ w ∈ wsX10, w ∈ wsL_law := fun _ h => List.mem_append_left _ (List.mem_append_left _ (List.mem_append_left _ (List.mem_append_right _ h)))
theorem inlX2 : ∀ w ∈ wsX20, w ∈ wsL_law := fun _ h => List.mem_append_left _ (List.mem_append_left _ (List.mem_append_left _ (List.mem_append_left _ (List.mem_append_right _ h))))
theorem inlX3 : ∀ w ∈ wsX30, w ∈ wsL_law := fun _ h => List.mem_append_left _ (List.mem_append_right _ h)
theorem inlX4 : ∀ w ∈ wsX40, w ∈ wsL_law := fun _ h => List.mem_append_left _ (List.mem_append_left _ (List.mem_append_left _ (List.mem_append_left _ (List.mem_append_left _ (List.mem_append_left _ (List.mem_append_right _ h))))))
theorem inlX5 : ∀ w ∈ wsX50, w ∈ wsL_law := fun _ h => List.mem_append_left _ (List.mem_append_left _ (List.mem_append_left _ (List.mem_append_left _ (List.mem_append_left _ (List.mem_append_right _ h)))))
