set_option maxRecDepth 20000 in
theorem ggL_law_X4_next : GoodIn wsL_law wsX4_next := goodIn_r _ [620, 24, 32, 405, 441, 442, 443, 23, 444, 445, 53, 446, 52, 54, 447, 448, 449, 340, 341, 31, 342, 136, 64, 450, 451, 452, 453, 454, 139, 140, 141, 455, 381, 382, 383, 384, 385, 386, 387, 135, 288, 289, 290, 291, 67, 191, 192, 193, 194, 456, 457, 458, 459, 460, 461, 462, 463, 55, 56, 464, 465, 466, 467, 468, 469, 470, 471, 472, 473, 474, 475, 476, 477, 478, 479, 480, 481, 482, 483, 484, 58, 485, 486, 487, 488, 489, 490, 491, 492, 493, 494, 495, 496, 501, 502, 503, 504, 343, 344, 345, 346, 621, 622, 623, 624, 625, 626, 627, 628, 936, 937, 938, 939, 940, 941, 942, 943, 992, 993, 994, 995, 996, 997, 998, 999, 1000, 1001, 1002, 1003, 983, 984, 985, 986, 987, 988, 989, 990, 991] (by decide +kernel) (by decide +kernel)
set_option maxRecDepth 20000 in
theorem gL_law_X4_next : GoodIn wsL_law (wsV RL 76 RX4 yX4_next wsX4_next) := goodIn_app (goodIn_of _ (by decide +kernel)) ggL_law_X4_next
set_option maxRecDepth 20000 in
theorem ggL_law_X5_next : GoodIn wsL_law wsX5_next := goodIn_r _ [632, 513, 524, 86, 516, 517, 518, 5, 519, 520, 521, 522, 523, 514, 88, 80, 85, 76, 87, 77, 355, 356, 357, 358, 78, 79, 308, 309, 310, 311, 84, 525, 526, 527, 528, 515, 529, 530, 531, 532, 89, 533, 534, 535, 536, 537, 538, 539, 540, 541, 542, 543, 544, 91, 90, 545, 546, 547, 548, 351, 352, 353, 354, 246, 112, 113, 114, 359, 360, 361, 362, 252, 253, 254, 944, 945, 946, 947, 948, 949, 950, 951, 952, 953, 954, 955, 956, 957, 958, 959, 960, 961, 962, 963, 964, 965, 966, 967, 968, 969, 970, 971, 972] (by decide +kernel) (by decide +kernel)
set_option maxRecDepth 20000 in
theorem gL_law_X5_next : GoodIn wsL_law (wsV RL 79 RX5 yX5_next wsX5_next) := goodIn_app (goodIn_of _ (by decide +kernel)) ggL_law_X5_next
set_option maxRecDepth 20000 in
theorem ggL_law_X4_men : GoodIn wsL_law wsX4_men := goodIn_r _ [636, 32, 317, 192, 193, 31, 194, 136, 637, 638, 639, 640, 70, 641, 626, 627, 628, 384, 385, 386, 387, 135, 288, 289, 290, 291, 67, 191, 642, 407, 408, 409, 410, 411, 412, 643, 644, 645, 646, 647, 648, 649, 650, 66, 65, 651, 2, 652, 653, 654, 655, 656, 657, 658, 659, 660, 936, 937, 938, 939, 940, 941, 942, 943, 992, 993, 994, 995, 996, 997, 998, 999, 1000, 1001, 1002, 1003] (by decide +kernel) (by decide +kernel)
set_option maxRecDepth 20000 in
theorem gL_law_X4_men : GoodIn wsL_law (wsV RL 80 RX4 yX4_men wsX4_men) := goodIn_app (goodIn_of _ (by decide +kernel)) ggL_law_X4_men
set_option maxRecDepth 20000 in
theorem ggL_law_X5_men : GoodIn wsL_law wsX5_men := goodIn_r _ [664, 426, 84, 83, 323, 324, 325, 5, 326, 78, 112, 113, 114, 665, 666, 667, 668, 669, 670, 671, 672, 79, 673, 674, 675, 944, 945, 946, 947, 948, 949, 950, 951, 952, 953, 954, 955, 956, 957, 958, 959, 960, 961, 962, 963, 964, 965, 966, 967, 968, 969, 970, 971, 972] (by decide +kernel) (by decide +kernel)
set_option maxRecDepth 20000 in
theorem gL_law_X5_men : GoodIn wsL_law (wsV RL 83 RX5 yX5_men wsX5_men) := goodIn_app (goodIn_of _ (by decide +kernel)) ggL_law_X5_men
set_option maxRecDepth 20000 in
theorem ggL_law_X4_asks : GoodIn wsL_law wsX4_asks := goodIn_r _ [679, 32, 283, 173, 174, 31, 175, 135, 317, 192, 193, 194, 136, 680, 681, 682, 683, 70, 288, 289, 290, 291, 67, 191, 651, 2, 652, 936, 937, 938, 939, 940, 941, 942, 943, 992, 993, 994, 995, 996, 997, 998, 999, 1000, 1001, 1002, 1003] (by decide +kernel) (by decide +kernel)
set_option maxRecDepth 20000 in
theorem gL_law_X4_asks : GoodIn wsL_law (wsV RL 84 RX4 yX4_asks wsX4_asks) := goodIn_app (goodIn_of _ (by decide +kernel)) ggL_law_X4_asks
set_option maxRecDepth 20000 in
theorem ggL_law_X5_asks : GoodIn wsL_law wsX5_asks := goodIn_r _ [687, 300, 301, 302, 5, 303, 76, 112, 113, 114, 323, 324, 325, 326, 78, 688, 689, 690, 691, 84, 83, 673, 674, 675, 944, 945, 946, 947, 948, 949, 950, 951, 952, 953, 954, 955, 956, 957, 958, 959, 960, 961, 962, 963, 964, 965, 966, 967, 968, 969, 970, 971, 972] (by decide +kernel) (by decide +kernel)
set_option maxRecDepth 20000 in
theorem gL_law_X5_asks : GoodIn wsL_law (wsV RL 87 RX5 yX5_asks wsX5_asks) := goodIn_app (goodIn_of _ (by decide +kernel)) ggL_law_X5_asks
set_option maxRecDepth 20000 in
theorem ggL_law_X4_may : GoodIn wsL_law wsX4_may := goodIn_r _ [695, 32, 696, 215, 216, 31, 217, 137, 283, 173, 174, 175, 135, 697, 698, 699, 700, 136, 69, 65, 66, 214, 207, 208, 209, 642, 407, 408, 409, 410, 411, 412, 701, 681, 682, 683, 70, 288, 289, 290, 291, 67, 191, 192, 193, 194, 651, 2, 652, 936, 937, 938, 939, 940, 941, 942, 943, 992, 993, 994, 995, 996, 997, 998, 999, 1000, 1001, 1002, 1003] (by decide +kernel) (by decide +kernel)
set_option maxRecDepth 20000 in
theorem gL_law_X4_may : GoodIn wsL_law (wsV RL 88 RX4 yX4_may wsX4_may) := goodIn_app (goodIn_of _ (by decide +kernel)) ggL_law_X4_may
set_option maxRecDepth 20000 in
theorem ggL_law_X5_may : GoodIn wsL_law wsX5_may := goodIn_r _ [705, 706, 707, 708, 5, 709, 81, 112, 113, 114, 300, 301, 302, 303, 76, 710, 711, 712, 713, 78, 82, 79, 84, 259, 260, 261, 714, 715, 716, 688, 689, 690, 691, 83, 673, 674, 675, 944, 945, 946, 947, 948, 949, 950, 951, 952, 953, 954, 955, 956, 957, 958, 959, 960, 961, 962, 963, 964, 965, 966, 967, 968, 969, 970, 971, 972] (by decide +kernel) (by decide +kernel)
set_option maxRecDepth 20000 in
theorem gL_law_X5_may : GoodIn wsL_law (wsV RL 91 RX5 yX5_may wsX5_may) := goodIn_app (goodIn_of _ (by decide +kernel)) ggL_law_X5_may
set_option maxRecDepth 20000 in
theorem ggL_law_X4_partings : GoodIn wsL_law wsX4_partings := goodIn_r _ [720, 20, 32, 721, 722, 723, 19, 724, 725, 726, 727, 627, 728, 729, 730, 44, 45, 731, 173, 174, 31, 175, 135, 732, 285, 286, 287, 136, 288, 289, 290, 291, 67, 191, 192, 193, 194, 733, 734, 735, 736, 737, 698, 699, 700, 69, 65, 66, 214, 215, 216, 217, 137, 207, 208, 209, 642, 407, 408, 409, 410, 411, 412, 701, 681, 682, 683, 70, 651, 2, 652, 738, 739, 740, 741, 47, 742, 743, 744, 745, 746, 747, 748, 749, 750, 48, 751, 752, 753, 754, 936, 937, 938, 939, 940, 941, 942, 943, 992, 993, 994, 995, 996, 997, 998, 999, 1000, 1001, 1002, 1003, 976, 977, 978, 979, 980, 981, 982] (by decide +kernel) (by decide +kernel)
set_option maxRecDepth 20000 in
theorem gL_law_X4_partings : GoodIn wsL_law (wsV RL 92 RX4 yX4_partings wsX4_partings) := goodIn_app (goodIn_of _ (by decide +kernel)) ggL_law_X4_partings
set_option maxRecDepth 20000 in
theorem ggL_law_X5_partings : GoodIn wsL_law wsX5_partings := goodIn_r _ [758, 759, 760, 761, 5, 762, 93, 76, 94, 81, 304, 305, 306, 307, 78, 84, 710, 711, 712, 713, 82, 79, 259, 260, 261, 714, 715, 716, 688, 689, 690, 691, 83, 673, 674, 675, 944, 945, 946, 947, 948, 949, 950, 951, 952, 953, 954, 955, 956, 957, 958, 959, 960, 961, 962, 963, 964, 965, 966, 967, 968, 969, 970, 971, 972] (by decide +kernel) (by decide +kernel)
set_option maxRecDepth 20000 in
theorem gL_law_X5_partings : GoodIn wsL_law (wsV RL 96 RX5 yX5_partings wsX5_partings) := goodIn_app (goodIn_of _ (by decide +kernel)) ggL_law_X5_partings
set_option maxRecDepth 20000 in
theorem ggL_law_X4_odds : GoodIn wsL_law wsX4_odds := goodIn_r _ [766, 32, 404, 20, 767, 696, 215, 216, 31, 217, 137, 283, 173, 174, 175, 135, 721, 722, 723, 19, 724, 725, 726, 727, 627, 728, 729, 730, 44, 45, 731, 732, 285, 286, 287, 136, 288, 289, 290, 291, 67, 191, 192, 193, 194, 733, 734, 735, 736, 737, 698, 699, 700, 69, 65, 66, 214, 207, 208, 209, 642, 407, 408, 409, 410, 411, 412, 701, 681, 682, 683, 70, 651, 2, 652, 738, 739, 740, 741, 47, 742, 743, 744, 745, 746, 747, 748, 749, 750, 48, 751, 752, 753, 754, 768, 769, 770, 771, 772, 773, 774, 775, 776, 419, 420, 421, 936, 937, 938, 939, 940, 941, 942, 943, 992, 993, 994, 995, 996, 997, 998, 999, 1000, 1001, 1002, 1003, 976, 977, 978, 979, 980, 981, 982] (by decide +kernel) (by decide +kernel)
set_option maxRecDepth 20000 in
theorem gL_law_X4_odds : GoodIn wsL_law (wsV RL 97 RX4 yX4_odds wsX4_odds) := goodIn_app (goodIn_of _ (by decide +kernel)) ggL_law_X4_odds
set_option maxRecDepth 20000 in
theorem ggL_law_X5_odds : GoodIn wsL_law wsX5_odds := goodIn_r _ [780, 427, 781, 428, 429, 706, 707, 708, 5, 709, 81, 112, 113, 114, 300, 301, 302, 303, 76, 759, 760, 761, 762, 93, 94, 304, 305, 306, 307, 78, 84, 710, 711, 712, 713, 82, 79, 259, 260, 261, 714, 715, 716, 688, 689, 690, 691, 83, 673, 674, 675, 433, 434, 435, 436, 944, 945, 946, 947, 948, 949, 950, 951, 952, 953, 954, 955, 956, 957, 958, 959, 960, 961, 962, 963, 964, 965, 966, 967, 968, 969, 970, 971, 972] (by decide +kernel) (by decide +kernel)
set_option maxRecDepth 20000 in
theorem gL_law_X5_odds : GoodIn wsL_law (wsV RL 100 RX5 yX5_odds wsX5_odds) := goodIn_app (goodIn_of _ (by decide +kernel)) ggL_law_X5_odds
set_option maxRecDepth 20000 in
theorem ggL_law_X4_named : GoodIn wsL_law wsX4_named := goodIn_r _ [785, 32, 20, 283, 173, 174, 31, 175, 135, 721, 722, 723, 19, 724, 725, 726, 727, 627, 728, 729, 730, 44, 45, 731, 732, 285, 286, 287, 136, 288, 289, 290, 291, 67, 191, 192, 193, 194, 733, 734, 735, 736, 737, 698, 699, 700, 69, 65, 66, 214, 215, 216, 217, 137, 207, 208, 209, 642, 407, 408, 409, 410, 411, 412, 701, 681, 682, 683, 70, 651, 2, 652, 738, 739, 740, 741, 47, 742, 743, 744, 745, 746, 747, 748, 749, 750, 48, 751, 752, 753, 754, 786, 787, 788, 789, 46, 790, 139, 140, 141, 791, 792, 793, 794, 795, 796, 797, 798, 799, 800, 801, 802, 776, 769, 770, 771, 803, 804, 805, 806, 936, 937, 938, 939, 940, 941, 942, 943, 992, 993, 994, 995, 996, 997, 998, 999, 1000, 1001, 1002, 1003, 976, 977, 978, 979, 980, 981, 982] (by decide +kernel) (by decide +kernel)
set_option maxRecDepth 20000 in
theorem gL_law_X4_named : GoodIn wsL_law (wsV RL 101 RX4 yX4_named wsX4_named) := goodIn_app (goodIn_of _ (by decide +kernel)) ggL_law_X4_named
set_option maxRecDepth 20000 in
theorem ggL_law_X5_named : GoodIn wsL_law wsX5_named := goodIn_r _ [810, 76, 300, 301, 302, 5, 303, 112, 113, 114, 759, 760, 761, 762, 93, 94, 81, 304, 305, 306, 307, 78, 84, 710, 711, 712, 713, 82, 79, 259, 260, 261, 714, 715, 716, 688, 689, 690, 691, 83, 673, 674, 675, 811, 812, 813, 814, 944, 945, 946, 947, 948, 949, 950, 951, 952, 953, 954, 955, 956, 957, 958, 959, 960, 961, 962, 963, 964, 965, 966, 967, 968, 969, 970, 971, 972] (by decide +kernel) (by decide +kernel)
set_option maxRecDepth 20000 in
theorem gL_law_X5_named : GoodIn wsL_law (wsV RL 104 RX5 yX5_named wsX5_named) := goodIn_app (goodIn_of _ (by decide +kernel)) ggL_law_X5_named
set_option maxRecDepth 20000 in
theorem ggL_law_X4_grown : GoodIn wsL_law wsX4_grown := goodIn_r _ [818, 32, 282, 283, 173, 174, 31, 175, 135, 819, 820, 821, 822, 136, 65, 288, 289, 290, 291, 67, 191, 192, 193, 194, 823, 824, 825, 826, 936, 937, 938, 939, 940, 941, 942, 943, 992, 993, 994, 995, 996, 997, 998, 999, 1000, 1001, 1002, 1003] (by decide +kernel) (by decide +kernel)
set_option maxRecDepth 20000 in
theorem gL_law_X4_grown : GoodIn wsL_law (wsV RL 105 RX4 yX4_grown wsX4_grown) := goodIn_app (goodIn_of _ (by decide +kernel)) ggL_law_X4_grown
