set_option maxRecDepth 20000 in
theorem ggL_law_X4_next : GoodIn wsL_law wsX4_next := goodIn_r _ [621, 24, 32, 406, 442, 443, 444, 23, 445, 446, 53, 447, 52, 54, 448, 449, 450, 341, 342, 31, 343, 137, 65, 451, 452, 453, 454, 455, 140, 141, 142, 456, 382, 383, 384, 385, 386, 387, 388, 136, 289, 290, 291, 292, 68, 192, 193, 194, 195, 457, 458, 459, 460, 461, 462, 463, 464, 58, 465, 466, 467, 468, 55, 56, 469, 470, 471, 472, 473, 474, 475, 476, 477, 478, 479, 480, 481, 482, 483, 484, 485, 59, 486, 487, 488, 489, 490, 491, 492, 493, 494, 495, 496, 497, 502, 503, 504, 505, 344, 345, 346, 347, 622, 623, 624, 625, 626, 627, 628, 629, 937, 938, 939, 940, 941, 942, 943, 944, 994, 995, 996, 997, 998, 999, 1000, 1001, 1002, 1003, 1004, 1005, 984, 985, 986, 987, 988, 989, 990, 991, 992, 993] (by decide +kernel) (by decide +kernel)
set_option maxRecDepth 20000 in
theorem gL_law_X4_next : GoodIn wsL_law (wsV RL 76 RX4 yX4_next wsX4_next) := goodIn_app (goodIn_of _ (by decide +kernel)) ggL_law_X4_next
set_option maxRecDepth 20000 in
theorem ggL_law_X5_next : GoodIn wsL_law wsX5_next := goodIn_r _ [633, 514, 525, 87, 517, 518, 519, 5, 520, 521, 522, 523, 524, 515, 89, 81, 86, 77, 88, 78, 356, 357, 358, 359, 79, 80, 309, 310, 311, 312, 85, 526, 527, 528, 529, 516, 530, 531, 532, 533, 90, 534, 535, 536, 537, 538, 539, 540, 541, 542, 543, 544, 545, 92, 91, 546, 547, 548, 549, 352, 353, 354, 355, 247, 113, 114, 115, 360, 361, 362, 363, 253, 254, 255, 945, 946, 947, 948, 949, 950, 951, 952, 953, 954, 955, 956, 957, 958, 959, 960, 961, 962, 963, 964, 965, 966, 967, 968, 969, 970, 971, 972, 973] (by decide +kernel) (by decide +kernel)
set_option maxRecDepth 20000 in
theorem gL_law_X5_next : GoodIn wsL_law (wsV RL 79 RX5 yX5_next wsX5_next) := goodIn_app (goodIn_of _ (by decide +kernel)) ggL_law_X5_next
set_option maxRecDepth 20000 in
theorem ggL_law_X4_men : GoodIn wsL_law wsX4_men := goodIn_r _ [637, 32, 318, 193, 194, 31, 195, 137, 638, 639, 640, 641, 71, 642, 627, 628, 629, 385, 386, 387, 388, 136, 289, 290, 291, 292, 68, 192, 643, 408, 409, 410, 411, 412, 413, 644, 645, 646, 647, 648, 649, 650, 651, 67, 66, 652, 2, 653, 654, 655, 656, 657, 658, 659, 660, 661, 937, 938, 939, 940, 941, 942, 943, 944, 994, 995, 996, 997, 998, 999, 1000, 1001, 1002, 1003, 1004, 1005] (by decide +kernel) (by decide +kernel)
set_option maxRecDepth 20000 in
theorem gL_law_X4_men : GoodIn wsL_law (wsV RL 80 RX4 yX4_men wsX4_men) := goodIn_app (goodIn_of _ (by decide +kernel)) ggL_law_X4_men
set_option maxRecDepth 20000 in
theorem ggL_law_X5_men : GoodIn wsL_law wsX5_men := goodIn_r _ [665, 427, 85, 84, 324, 325, 326, 5, 327, 79, 113, 114, 115, 666, 667, 668, 669, 670, 671, 672, 673, 80, 674, 675, 676, 945, 946, 947, 948, 949, 950, 951, 952, 953, 954, 955, 956, 957, 958, 959, 960, 961, 962, 963, 964, 965, 966, 967, 968, 969, 970, 971, 972, 973] (by decide +kernel) (by decide +kernel)
set_option maxRecDepth 20000 in
theorem gL_law_X5_men : GoodIn wsL_law (wsV RL 83 RX5 yX5_men wsX5_men) := goodIn_app (goodIn_of _ (by decide +kernel)) ggL_law_X5_men
set_option maxRecDepth 20000 in
theorem ggL_law_X4_asks : GoodIn wsL_law wsX4_asks := goodIn_r _ [680, 32, 284, 174, 175, 31, 176, 136, 318, 193, 194, 195, 137, 681, 682, 683, 684, 71, 289, 290, 291, 292, 68, 192, 652, 2, 653, 937, 938, 939, 940, 941, 942, 943, 944, 994, 995, 996, 997, 998, 999, 1000, 1001, 1002, 1003, 1004, 1005] (by decide +kernel) (by decide +kernel)
set_option maxRecDepth 20000 in
theorem gL_law_X4_asks : GoodIn wsL_law (wsV RL 84 RX4 yX4_asks wsX4_asks) := goodIn_app (goodIn_of _ (by decide +kernel)) ggL_law_X4_asks
set_option maxRecDepth 20000 in
theorem ggL_law_X5_asks : GoodIn wsL_law wsX5_asks := goodIn_r _ [688, 301, 302, 303, 5, 304, 77, 113, 114, 115, 324, 325, 326, 327, 79, 689, 690, 691, 692, 85, 84, 674, 675, 676, 945, 946, 947, 948, 949, 950, 951, 952, 953, 954, 955, 956, 957, 958, 959, 960, 961, 962, 963, 964, 965, 966, 967, 968, 969, 970, 971, 972, 973] (by decide +kernel) (by decide +kernel)
set_option maxRecDepth 20000 in
theorem gL_law_X5_asks : GoodIn wsL_law (wsV RL 87 RX5 yX5_asks wsX5_asks) := goodIn_app (goodIn_of _ (by decide +kernel)) ggL_law_X5_asks
set_option maxRecDepth 20000 in
theorem ggL_law_X4_may : GoodIn wsL_law wsX4_may := goodIn_r _ [696, 32, 697, 216, 217, 31, 218, 138, 284, 174, 175, 176, 136, 698, 699, 700, 701, 137, 70, 66, 67, 215, 208, 209, 210, 643, 408, 409, 410, 411, 412, 413, 702, 682, 683, 684, 71, 289, 290, 291, 292, 68, 192, 193, 194, 195, 652, 2, 653, 937, 938, 939, 940, 941, 942, 943, 944, 994, 995, 996, 997, 998, 999, 1000, 1001, 1002, 1003, 1004, 1005] (by decide +kernel) (by decide +kernel)
set_option maxRecDepth 20000 in
theorem gL_law_X4_may : GoodIn wsL_law (wsV RL 88 RX4 yX4_may wsX4_may) := goodIn_app (goodIn_of _ (by decide +kernel)) ggL_law_X4_may
set_option maxRecDepth 20000 in
theorem ggL_law_X5_may : GoodIn wsL_law wsX5_may := goodIn_r _ [706, 707, 708, 709, 5, 710, 82, 113, 114, 115, 301, 302, 303, 304, 77, 711, 712, 713, 714, 79, 83, 80, 85, 260, 261, 262, 715, 716, 717, 689, 690, 691, 692, 84, 674, 675, 676, 945, 946, 947, 948, 949, 950, 951, 952, 953, 954, 955, 956, 957, 958, 959, 960, 961, 962, 963, 964, 965, 966, 967, 968, 969, 970, 971, 972, 973] (by decide +kernel) (by decide +kernel)
set_option maxRecDepth 20000 in
theorem gL_law_X5_may : GoodIn wsL_law (wsV RL 91 RX5 yX5_may wsX5_may) := goodIn_app (goodIn_of _ (by decide +kernel)) ggL_law_X5_may
set_option maxRecDepth 20000 in
theorem ggL_law_X4_partings : GoodIn wsL_law wsX4_partings := goodIn_r _ [721, 20, 32, 722, 723, 724, 19, 725, 726, 727, 728, 628, 729, 730, 731, 44, 45, 732, 174, 175, 31, 176, 136, 733, 286, 287, 288, 137, 289, 290, 291, 292, 68, 192, 193, 194, 195, 734, 735, 736, 737, 738, 699, 700, 701, 70, 66, 67, 215, 216, 217, 218, 138, 208, 209, 210, 643, 408, 409, 410, 411, 412, 413, 702, 682, 683, 684, 71, 652, 2, 653, 739, 740, 741, 742, 47, 743, 744, 745, 746, 747, 748, 749, 750, 751, 48, 752, 753, 754, 755, 937, 938, 939, 940, 941, 942, 943, 944, 994, 995, 996, 997, 998, 999, 1000, 1001, 1002, 1003, 1004, 1005, 977, 978, 979, 980, 981, 982, 983] (by decide +kernel) (by decide +kernel)
set_option maxRecDepth 20000 in
theorem gL_law_X4_partings : GoodIn wsL_law (wsV RL 92 RX4 yX4_partings wsX4_partings) := goodIn_app (goodIn_of _ (by decide +kernel)) ggL_law_X4_partings
set_option maxRecDepth 20000 in
theorem ggL_law_X5_partings : GoodIn wsL_law wsX5_partings := goodIn_r _ [759, 760, 761, 762, 5, 763, 94, 77, 95, 82, 305, 306, 307, 308, 79, 85, 711, 712, 713, 714, 83, 80, 260, 261, 262, 715, 716, 717, 689, 690, 691, 692, 84, 674, 675, 676, 945, 946, 947, 948, 949, 950, 951, 952, 953, 954, 955, 956, 957, 958, 959, 960, 961, 962, 963, 964, 965, 966, 967, 968, 969, 970, 971, 972, 973] (by decide +kernel) (by decide +kernel)
set_option maxRecDepth 20000 in
theorem gL_law_X5_partings : GoodIn wsL_law (wsV RL 96 RX5 yX5_partings wsX5_partings) := goodIn_app (goodIn_of _ (by decide +kernel)) ggL_law_X5_partings
set_option maxRecDepth 20000 in
theorem ggL_law_X4_odds : GoodIn wsL_law wsX4_odds := goodIn_r _ [767, 32, 405, 20, 768, 697, 216, 217, 31, 218, 138, 284, 174, 175, 176, 136, 722, 723, 724, 19, 725, 726, 727, 728, 628, 729, 730, 731, 44, 45, 732, 733, 286, 287, 288, 137, 289, 290, 291, 292, 68, 192, 193, 194, 195, 734, 735, 736, 737, 738, 699, 700, 701, 70, 66, 67, 215, 208, 209, 210, 643, 408, 409, 410, 411, 412, 413, 702, 682, 683, 684, 71, 652, 2, 653, 739, 740, 741, 742, 47, 743, 744, 745, 746, 747, 748, 749, 750, 751, 48, 752, 753, 754, 755, 769, 770, 771, 772, 773, 774, 775, 776, 777, 420, 421, 422, 937, 938, 939, 940, 941, 942, 943, 944, 994, 995, 996, 997, 998, 999, 1000, 1001, 1002, 1003, 1004, 1005, 977, 978, 979, 980, 981, 982, 983] (by decide +kernel) (by decide +kernel)
set_option maxRecDepth 20000 in
theorem gL_law_X4_odds : GoodIn wsL_law (wsV RL 97 RX4 yX4_odds wsX4_odds) := goodIn_app (goodIn_of _ (by decide +kernel)) ggL_law_X4_odds
set_option maxRecDepth 20000 in
theorem ggL_law_X5_odds : GoodIn wsL_law wsX5_odds := goodIn_r _ [781, 428, 782, 429, 430, 707, 708, 709, 5, 710, 82, 113, 114, 115, 301, 302, 303, 304, 77, 760, 761, 762, 763, 94, 95, 305, 306, 307, 308, 79, 85, 711, 712, 713, 714, 83, 80, 260, 261, 262, 715, 716, 717, 689, 690, 691, 692, 84, 674, 675, 676, 434, 435, 436, 437, 945, 946, 947, 948, 949, 950, 951, 952, 953, 954, 955, 956, 957, 958, 959, 960, 961, 962, 963, 964, 965, 966, 967, 968, 969, 970, 971, 972, 973] (by decide +kernel) (by decide +kernel)
set_option maxRecDepth 20000 in
theorem gL_law_X5_odds : GoodIn wsL_law (wsV RL 100 RX5 yX5_odds wsX5_odds) := goodIn_app (goodIn_of _ (by decide +kernel)) ggL_law_X5_odds
set_option maxRecDepth 20000 in
theorem ggL_law_X4_named : GoodIn wsL_law wsX4_named := goodIn_r _ [786, 32, 20, 284, 174, 175, 31, 176, 136, 722, 723, 724, 19, 725, 726, 727, 728, 628, 729, 730, 731, 44, 45, 732, 733, 286, 287, 288, 137, 289, 290, 291, 292, 68, 192, 193, 194, 195, 734, 735, 736, 737, 738, 699, 700, 701, 70, 66, 67, 215, 216, 217, 218, 138, 208, 209, 210, 643, 408, 409, 410, 411, 412, 413, 702, 682, 683, 684, 71, 652, 2, 653, 739, 740, 741, 742, 47, 743, 744, 745, 746, 747, 748, 749, 750, 751, 48, 752, 753, 754, 755, 787, 788, 789, 790, 46, 791, 140, 141, 142, 792, 793, 794, 795, 796, 797, 798, 799, 800, 801, 802, 803, 777, 770, 771, 772, 804, 805, 806, 807, 937, 938, 939, 940, 941, 942, 943, 944, 994, 995, 996, 997, 998, 999, 1000, 1001, 1002, 1003, 1004, 1005, 977, 978, 979, 980, 981, 982, 983] (by decide +kernel) (by decide +kernel)
set_option maxRecDepth 20000 in
theorem gL_law_X4_named : GoodIn wsL_law (wsV RL 101 RX4 yX4_named wsX4_named) := goodIn_app (goodIn_of _ (by decide +kernel)) ggL_law_X4_named
set_option maxRecDepth 20000 in
theorem ggL_law_X5_named : GoodIn wsL_law wsX5_named := goodIn_r _ [811, 77, 301, 302, 303, 5, 304, 113, 114, 115, 760, 761, 762, 763, 94, 95, 82, 305, 306, 307, 308, 79, 85, 711, 712, 713, 714, 83, 80, 260, 261, 262, 715, 716, 717, 689, 690, 691, 692, 84, 674, 675, 676, 812, 813, 814, 815, 945, 946, 947, 948, 949, 950, 951, 952, 953, 954, 955, 956, 957, 958, 959, 960, 961, 962, 963, 964, 965, 966, 967, 968, 969, 970, 971, 972, 973] (by decide +kernel) (by decide +kernel)
set_option maxRecDepth 20000 in
theorem gL_law_X5_named : GoodIn wsL_law (wsV RL 104 RX5 yX5_named wsX5_named) := goodIn_app (goodIn_of _ (by decide +kernel)) ggL_law_X5_named
set_option maxRecDepth 20000 in
theorem ggL_law_X4_grown : GoodIn wsL_law wsX4_grown := goodIn_r _ [819, 32, 283, 284, 174, 175, 31, 176, 136, 820, 821, 822, 823, 137, 66, 289, 290, 291, 292, 68, 192, 193, 194, 195, 824, 825, 826, 827, 937, 938, 939, 940, 941, 942, 943, 944, 994, 995, 996, 997, 998, 999, 1000, 1001, 1002, 1003, 1004, 1005] (by decide +kernel) (by decide +kernel)
set_option maxRecDepth 20000 in
theorem gL_law_X4_grown : GoodIn wsL_law (wsV RL 105 RX4 yX4_grown wsX4_grown) := goodIn_app (goodIn_of _ (by decide +kernel)) ggL_law_X4_grown
