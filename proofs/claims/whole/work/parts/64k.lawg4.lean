set_option maxRecDepth 20000 in
theorem ggL_law_X5_grown : GoodIn wsL_law wsX5_grown := goodIn_r _ [831, 78, 79, 85, 301, 302, 303, 5, 304, 77, 113, 114, 115, 305, 306, 307, 308, 832, 833, 834, 835, 80, 945, 946, 947, 948, 949, 950, 951, 952, 953, 954, 955, 956, 957, 958, 959, 960, 961, 962, 963, 964, 965, 966, 967, 968, 969, 970, 971, 972, 973] (by decide +kernel) (by decide +kernel)
set_option maxRecDepth 20000 in
theorem gL_law_X5_grown : GoodIn wsL_law (wsV RL 108 RX5 yX5_grown wsX5_grown) := goodIn_app (goodIn_of _ (by decide +kernel)) ggL_law_X5_grown
set_option maxRecDepth 20000 in
theorem ggL_law_X4_again : GoodIn wsL_law wsX4_again := goodIn_r _ [839, 24, 32, 612, 442, 443, 444, 23, 445, 446, 53, 447, 52, 54, 448, 449, 450, 341, 342, 31, 343, 137, 65, 451, 452, 453, 454, 455, 140, 141, 142, 456, 382, 383, 384, 385, 386, 387, 388, 136, 289, 290, 291, 292, 68, 192, 193, 194, 195, 457, 458, 459, 460, 461, 462, 463, 464, 58, 465, 466, 467, 468, 55, 56, 469, 470, 471, 472, 473, 474, 475, 476, 477, 478, 479, 480, 481, 482, 483, 484, 485, 59, 486, 487, 488, 489, 490, 491, 492, 493, 494, 495, 496, 497, 840, 841, 842, 843, 579, 580, 581, 582, 583, 507, 508, 509, 506, 344, 345, 346, 347, 937, 938, 939, 940, 941, 942, 943, 944, 984, 985, 986, 987, 988, 989, 990, 991, 992, 993, 994, 995, 996, 997, 998, 999, 1000, 1001, 1002, 1003, 1004, 1005] (by decide +kernel) (by decide +kernel)
set_option maxRecDepth 20000 in
theorem gL_law_X4_again : GoodIn wsL_law (wsV RL 109 RX4 yX4_again wsX4_again) := goodIn_app (goodIn_of _ (by decide +kernel)) ggL_law_X4_again
set_option maxRecDepth 20000 in
theorem ggL_law_X5_again : GoodIn wsL_law wsX5_again := goodIn_r _ [847, 514, 525, 515, 91, 517, 518, 519, 5, 520, 521, 522, 523, 524, 89, 81, 86, 77, 87, 88, 78, 356, 357, 358, 359, 79, 80, 309, 310, 311, 312, 85, 526, 527, 528, 529, 516, 530, 531, 532, 533, 90, 534, 535, 536, 537, 538, 539, 540, 541, 542, 543, 544, 545, 92, 546, 547, 548, 549, 848, 849, 850, 851, 113, 114, 115, 360, 361, 362, 363, 253, 254, 255, 945, 946, 947, 948, 949, 950, 951, 952, 953, 954, 955, 956, 957, 958, 959, 960, 961, 962, 963, 964, 965, 966, 967, 968, 969, 970, 971, 972, 973] (by decide +kernel) (by decide +kernel)
set_option maxRecDepth 20000 in
theorem gL_law_X5_again : GoodIn wsL_law (wsV RL 112 RX5 yX5_again wsX5_again) := goodIn_app (goodIn_of _ (by decide +kernel)) ggL_law_X5_again
set_option maxRecDepth 20000 in
theorem ggL_law_X4_found : GoodIn wsL_law wsX4_found := goodIn_r _ [855, 856, 24, 26, 857, 858, 859, 2, 860, 861, 862, 863, 864, 452, 453, 23, 454, 449, 52, 53, 54, 455, 140, 141, 142, 865, 866, 867, 868, 869, 870, 871, 872, 873, 874, 875, 876, 877, 878, 879, 458, 459, 460, 461, 462, 463, 464, 58, 465, 466, 467, 468, 55, 56, 469, 470, 471, 472, 473, 474, 475, 476, 477, 478, 479, 480, 498, 499, 500, 501, 502, 503, 504, 505, 880, 881, 882, 883, 937, 938, 939, 940, 941, 942, 943, 944, 984, 985, 986, 987, 988, 989, 990, 991, 992, 993] (by decide +kernel) (by decide +kernel)
set_option maxRecDepth 20000 in
theorem gL_law_X4_found : GoodIn wsL_law (wsV RL 113 RX4 yX4_found wsX4_found) := goodIn_app (goodIn_of _ (by decide +kernel)) ggL_law_X4_found
set_option maxRecDepth 20000 in
theorem ggL_law_X5_found : GoodIn wsL_law wsX5_found := goodIn_r _ [887, 888, 427, 889, 890, 891, 515, 525, 86, 89, 88, 87, 90, 516, 514, 113, 114, 5, 115, 892, 893, 894, 530, 531, 532, 533, 546, 547, 548, 549, 895, 896, 897, 898, 899, 900, 901, 902, 538, 539, 540, 541, 526, 527, 528, 529, 534, 535, 536, 537, 542, 543, 544, 545, 92, 91, 945, 946, 947, 948, 949, 950, 951, 952, 953, 954, 955, 956, 957, 958, 959, 960, 961, 962, 963, 964, 965, 966, 967, 968, 969, 970, 971, 972, 973] (by decide +kernel) (by decide +kernel)
set_option maxRecDepth 20000 in
theorem gL_law_X5_found : GoodIn wsL_law (wsV RL 117 RX5 yX5_found wsX5_found) := goodIn_app (goodIn_of _ (by decide +kernel)) ggL_law_X5_found
set_option maxRecDepth 20000 in
theorem ggL_law_X4_keep : GoodIn wsL_law wsX4_keep := goodIn_r _ [906, 34, 32, 907, 28, 908, 909, 910, 911, 937, 938, 939, 940, 941, 942, 943, 944, 994, 995, 996, 997, 998, 999, 1000, 1001, 1002, 1003, 1004, 1005] (by decide +kernel) (by decide +kernel)
set_option maxRecDepth 20000 in
theorem gL_law_X4_keep : GoodIn wsL_law (wsV RL 118 RX4 yX4_keep wsX4_keep) := goodIn_app (goodIn_of _ (by decide +kernel)) ggL_law_X4_keep
set_option maxRecDepth 20000 in
theorem ggL_law_X5_keep : GoodIn wsL_law wsX5_keep := goodIn_r _ [915, 272, 274, 275, 276, 5, 277, 85, 945, 946, 947, 948, 949, 950, 951, 952, 953, 954, 955, 956, 957, 958, 959, 960, 961, 962, 963, 964, 965, 966, 967, 968, 969, 970, 971, 972, 973] (by decide +kernel) (by decide +kernel)
set_option maxRecDepth 20000 in
theorem gL_law_X5_keep : GoodIn wsL_law (wsV RL 121 RX5 yX5_keep wsX5_keep) := goodIn_app (goodIn_of _ (by decide +kernel)) ggL_law_X5_keep
set_option maxRecDepth 20000 in
theorem ggL_law_X4_back : GoodIn wsL_law wsX4_back := goodIn_r _ [919, 34, 28, 32, 907, 908, 909, 910, 911, 937, 938, 939, 940, 941, 942, 943, 944, 994, 995, 996, 997, 998, 999, 1000, 1001, 1002, 1003, 1004, 1005] (by decide +kernel) (by decide +kernel)
set_option maxRecDepth 20000 in
theorem gL_law_X4_back : GoodIn wsL_law (wsV RL 122 RX4 yX4_back wsX4_back) := goodIn_app (goodIn_of _ (by decide +kernel)) ggL_law_X4_back
set_option maxRecDepth 20000 in
theorem ggL_law_X5_back : GoodIn wsL_law wsX5_back := goodIn_r _ [923, 272, 274, 275, 276, 5, 277, 85, 945, 946, 947, 948, 949, 950, 951, 952, 953, 954, 955, 956, 957, 958, 959, 960, 961, 962, 963, 964, 965, 966, 967, 968, 969, 970, 971, 972, 973] (by decide +kernel) (by decide +kernel)
set_option maxRecDepth 20000 in
theorem gL_law_X5_back : GoodIn wsL_law (wsV RL 125 RX5 yX5_back wsX5_back) := goodIn_app (goodIn_of _ (by decide +kernel)) ggL_law_X5_back
set_option maxRecDepth 20000 in
theorem ggL_law_X4_count : GoodIn wsL_law wsX4_count := goodIn_r _ [927, 32, 406, 267, 928, 16, 101, 34, 570, 341, 342, 31, 343, 137, 65, 407, 408, 409, 410, 411, 412, 413, 929, 930, 931, 932, 644, 645, 646, 647, 289, 290, 291, 292, 68, 192, 193, 194, 195, 937, 938, 939, 940, 941, 942, 943, 944, 994, 995, 996, 997, 998, 999, 1000, 1001, 1002, 1003, 1004, 1005, 974, 975, 976] (by decide +kernel) (by decide +kernel)
set_option maxRecDepth 20000 in
theorem gL_law_X4_count : GoodIn wsL_law (wsV RL 126 RX4 yX4_count wsX4_count) := goodIn_app (goodIn_of _ (by decide +kernel)) ggL_law_X4_count
set_option maxRecDepth 20000 in
theorem ggL_law_X5_count : GoodIn wsL_law wsX5_count := goodIn_r _ [936, 79, 77, 82, 112, 272, 666, 667, 668, 5, 669, 85, 356, 357, 358, 359, 80, 715, 716, 717, 945, 946, 947, 948, 949, 950, 951, 952, 953, 954, 955, 956, 957, 958, 959, 960, 961, 962, 963, 964, 965, 966, 967, 968, 969, 970, 971, 972, 973] (by decide +kernel) (by decide +kernel)
set_option maxRecDepth 20000 in
theorem gL_law_X5_count : GoodIn wsL_law (wsV RL 129 RX5 yX5_count wsX5_count) := goodIn_app (goodIn_of _ (by decide +kernel)) ggL_law_X5_count
