set_option maxRecDepth 20000 in
theorem ggL_law_X5_grown : GoodIn wsL_law wsX5_grown := goodIn_r _ [830, 77, 78, 84, 300, 301, 302, 5, 303, 76, 112, 113, 114, 304, 305, 306, 307, 831, 832, 833, 834, 79, 944, 945, 946, 947, 948, 949, 950, 951, 952, 953, 954, 955, 956, 957, 958, 959, 960, 961, 962, 963, 964, 965, 966, 967, 968, 969, 970, 971, 972] (by decide +kernel) (by decide +kernel)
set_option maxRecDepth 20000 in
theorem gL_law_X5_grown : GoodIn wsL_law (wsV RL 108 RX5 yX5_grown wsX5_grown) := goodIn_app (goodIn_of _ (by decide +kernel)) ggL_law_X5_grown
set_option maxRecDepth 20000 in
theorem ggL_law_X4_again : GoodIn wsL_law wsX4_again := goodIn_r _ [838, 24, 32, 611, 441, 442, 443, 23, 444, 445, 53, 446, 52, 54, 447, 448, 449, 340, 341, 31, 342, 136, 64, 450, 451, 452, 453, 454, 139, 140, 141, 455, 381, 382, 383, 384, 385, 386, 387, 135, 288, 289, 290, 291, 67, 191, 192, 193, 194, 456, 457, 458, 459, 460, 461, 462, 463, 55, 56, 464, 465, 466, 467, 468, 469, 470, 471, 472, 473, 474, 475, 476, 477, 478, 479, 480, 481, 482, 483, 484, 58, 485, 486, 487, 488, 489, 490, 491, 492, 493, 494, 495, 496, 839, 840, 841, 842, 578, 579, 580, 581, 582, 506, 507, 508, 505, 343, 344, 345, 346, 936, 937, 938, 939, 940, 941, 942, 943, 983, 984, 985, 986, 987, 988, 989, 990, 991, 992, 993, 994, 995, 996, 997, 998, 999, 1000, 1001, 1002, 1003] (by decide +kernel) (by decide +kernel)
set_option maxRecDepth 20000 in
theorem gL_law_X4_again : GoodIn wsL_law (wsV RL 109 RX4 yX4_again wsX4_again) := goodIn_app (goodIn_of _ (by decide +kernel)) ggL_law_X4_again
set_option maxRecDepth 20000 in
theorem ggL_law_X5_again : GoodIn wsL_law wsX5_again := goodIn_r _ [846, 513, 524, 514, 90, 516, 517, 518, 5, 519, 520, 521, 522, 523, 88, 80, 85, 76, 86, 87, 77, 355, 356, 357, 358, 78, 79, 308, 309, 310, 311, 84, 525, 526, 527, 528, 515, 529, 530, 531, 532, 89, 533, 534, 535, 536, 537, 538, 539, 540, 541, 542, 543, 544, 91, 545, 546, 547, 548, 847, 848, 849, 850, 112, 113, 114, 359, 360, 361, 362, 252, 253, 254, 944, 945, 946, 947, 948, 949, 950, 951, 952, 953, 954, 955, 956, 957, 958, 959, 960, 961, 962, 963, 964, 965, 966, 967, 968, 969, 970, 971, 972] (by decide +kernel) (by decide +kernel)
set_option maxRecDepth 20000 in
theorem gL_law_X5_again : GoodIn wsL_law (wsV RL 112 RX5 yX5_again wsX5_again) := goodIn_app (goodIn_of _ (by decide +kernel)) ggL_law_X5_again
set_option maxRecDepth 20000 in
theorem ggL_law_X4_found : GoodIn wsL_law wsX4_found := goodIn_r _ [854, 855, 24, 26, 856, 857, 858, 2, 859, 860, 861, 862, 863, 451, 452, 23, 453, 448, 52, 53, 54, 454, 139, 140, 141, 864, 865, 866, 867, 868, 869, 870, 871, 872, 873, 874, 875, 876, 877, 878, 457, 458, 459, 460, 461, 462, 463, 55, 56, 464, 465, 466, 467, 468, 469, 470, 471, 472, 473, 474, 475, 476, 477, 478, 479, 497, 498, 499, 500, 501, 502, 503, 504, 879, 880, 881, 882, 936, 937, 938, 939, 940, 941, 942, 943, 983, 984, 985, 986, 987, 988, 989, 990, 991] (by decide +kernel) (by decide +kernel)
set_option maxRecDepth 20000 in
theorem gL_law_X4_found : GoodIn wsL_law (wsV RL 113 RX4 yX4_found wsX4_found) := goodIn_app (goodIn_of _ (by decide +kernel)) ggL_law_X4_found
set_option maxRecDepth 20000 in
theorem ggL_law_X5_found : GoodIn wsL_law wsX5_found := goodIn_r _ [886, 887, 426, 888, 889, 890, 514, 524, 85, 88, 87, 86, 89, 515, 513, 112, 113, 5, 114, 891, 892, 893, 529, 530, 531, 532, 545, 546, 547, 548, 894, 895, 896, 897, 898, 899, 900, 901, 537, 538, 539, 540, 525, 526, 527, 528, 533, 534, 535, 536, 541, 542, 543, 544, 91, 90, 944, 945, 946, 947, 948, 949, 950, 951, 952, 953, 954, 955, 956, 957, 958, 959, 960, 961, 962, 963, 964, 965, 966, 967, 968, 969, 970, 971, 972] (by decide +kernel) (by decide +kernel)
set_option maxRecDepth 20000 in
theorem gL_law_X5_found : GoodIn wsL_law (wsV RL 117 RX5 yX5_found wsX5_found) := goodIn_app (goodIn_of _ (by decide +kernel)) ggL_law_X5_found
set_option maxRecDepth 20000 in
theorem ggL_law_X4_keep : GoodIn wsL_law wsX4_keep := goodIn_r _ [905, 34, 32, 906, 28, 907, 908, 909, 910, 936, 937, 938, 939, 940, 941, 942, 943, 992, 993, 994, 995, 996, 997, 998, 999, 1000, 1001, 1002, 1003] (by decide +kernel) (by decide +kernel)
set_option maxRecDepth 20000 in
theorem gL_law_X4_keep : GoodIn wsL_law (wsV RL 118 RX4 yX4_keep wsX4_keep) := goodIn_app (goodIn_of _ (by decide +kernel)) ggL_law_X4_keep
set_option maxRecDepth 20000 in
theorem ggL_law_X5_keep : GoodIn wsL_law wsX5_keep := goodIn_r _ [914, 271, 273, 274, 275, 5, 276, 84, 944, 945, 946, 947, 948, 949, 950, 951, 952, 953, 954, 955, 956, 957, 958, 959, 960, 961, 962, 963, 964, 965, 966, 967, 968, 969, 970, 971, 972] (by decide +kernel) (by decide +kernel)
set_option maxRecDepth 20000 in
theorem gL_law_X5_keep : GoodIn wsL_law (wsV RL 121 RX5 yX5_keep wsX5_keep) := goodIn_app (goodIn_of _ (by decide +kernel)) ggL_law_X5_keep
set_option maxRecDepth 20000 in
theorem ggL_law_X4_back : GoodIn wsL_law wsX4_back := goodIn_r _ [918, 34, 28, 32, 906, 907, 908, 909, 910, 936, 937, 938, 939, 940, 941, 942, 943, 992, 993, 994, 995, 996, 997, 998, 999, 1000, 1001, 1002, 1003] (by decide +kernel) (by decide +kernel)
set_option maxRecDepth 20000 in
theorem gL_law_X4_back : GoodIn wsL_law (wsV RL 122 RX4 yX4_back wsX4_back) := goodIn_app (goodIn_of _ (by decide +kernel)) ggL_law_X4_back
set_option maxRecDepth 20000 in
theorem ggL_law_X5_back : GoodIn wsL_law wsX5_back := goodIn_r _ [922, 271, 273, 274, 275, 5, 276, 84, 944, 945, 946, 947, 948, 949, 950, 951, 952, 953, 954, 955, 956, 957, 958, 959, 960, 961, 962, 963, 964, 965, 966, 967, 968, 969, 970, 971, 972] (by decide +kernel) (by decide +kernel)
set_option maxRecDepth 20000 in
theorem gL_law_X5_back : GoodIn wsL_law (wsV RL 125 RX5 yX5_back wsX5_back) := goodIn_app (goodIn_of _ (by decide +kernel)) ggL_law_X5_back
set_option maxRecDepth 20000 in
theorem ggL_law_X4_count : GoodIn wsL_law wsX4_count := goodIn_r _ [926, 32, 405, 266, 927, 16, 100, 34, 569, 340, 341, 31, 342, 136, 64, 406, 407, 408, 409, 410, 411, 412, 928, 929, 930, 931, 643, 644, 645, 646, 288, 289, 290, 291, 67, 191, 192, 193, 194, 936, 937, 938, 939, 940, 941, 942, 943, 992, 993, 994, 995, 996, 997, 998, 999, 1000, 1001, 1002, 1003, 973, 974, 975] (by decide +kernel) (by decide +kernel)
set_option maxRecDepth 20000 in
theorem gL_law_X4_count : GoodIn wsL_law (wsV RL 126 RX4 yX4_count wsX4_count) := goodIn_app (goodIn_of _ (by decide +kernel)) ggL_law_X4_count
set_option maxRecDepth 20000 in
theorem ggL_law_X5_count : GoodIn wsL_law wsX5_count := goodIn_r _ [935, 78, 76, 81, 111, 271, 665, 666, 667, 5, 668, 84, 355, 356, 357, 358, 79, 714, 715, 716, 944, 945, 946, 947, 948, 949, 950, 951, 952, 953, 954, 955, 956, 957, 958, 959, 960, 961, 962, 963, 964, 965, 966, 967, 968, 969, 970, 971, 972] (by decide +kernel) (by decide +kernel)
set_option maxRecDepth 20000 in
theorem gL_law_X5_count : GoodIn wsL_law (wsV RL 129 RX5 yX5_count wsX5_count) := goodIn_app (goodIn_of _ (by decide +kernel)) ggL_law_X5_count
