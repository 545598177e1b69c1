set_option maxRecDepth 20000 in
theorem ggL_law_X5_in : GoodIn wsL_law wsX5_in := goodIn_r _ [350, 351, 352, 353, 5, 354, 246, 112, 113, 114, 355, 356, 357, 358, 78, 79, 327, 328, 329, 330, 300, 301, 302, 303, 76, 359, 360, 361, 362, 84, 252, 253, 254, 944, 945, 946, 947, 948, 949, 950, 951, 952, 953, 954, 955, 956, 957, 958, 959, 960, 961, 962, 963, 964, 965, 966, 967, 968, 969, 970, 971, 972] (by decide +kernel) (by decide +kernel)
set_option maxRecDepth 20000 in
theorem gL_law_X5_in : GoodIn wsL_law (wsV RL 45 RX5 yX5_in wsX5_in) := goodIn_app (goodIn_of _ (by decide +kernel)) ggL_law_X5_in
set_option maxRecDepth 20000 in
theorem ggL_law_X4_read : GoodIn wsL_law wsX4_read := goodIn_r _ [366, 32, 316, 188, 189, 31, 190, 172, 173, 174, 175, 135, 317, 192, 193, 194, 136, 318, 289, 290, 291, 67, 191, 367, 196, 197, 198, 936, 937, 938, 939, 940, 941, 942, 943, 992, 993, 994, 995, 996, 997, 998, 999, 1000, 1001, 1002, 1003] (by decide +kernel) (by decide +kernel)
set_option maxRecDepth 20000 in
theorem gL_law_X4_read : GoodIn wsL_law (wsV RL 46 RX4 yX4_read wsX4_read) := goodIn_app (goodIn_of _ (by decide +kernel)) ggL_law_X4_read
set_option maxRecDepth 20000 in
theorem ggL_law_X5_read : GoodIn wsL_law wsX5_read := goodIn_r _ [371, 84, 323, 324, 325, 5, 326, 78, 112, 113, 114, 300, 301, 302, 303, 76, 252, 253, 254, 944, 945, 946, 947, 948, 949, 950, 951, 952, 953, 954, 955, 956, 957, 958, 959, 960, 961, 962, 963, 964, 965, 966, 967, 968, 969, 970, 971, 972] (by decide +kernel) (by decide +kernel)
set_option maxRecDepth 20000 in
theorem gL_law_X5_read : GoodIn wsL_law (wsV RL 49 RX5 yX5_read wsX5_read) := goodIn_app (goodIn_of _ (by decide +kernel)) ggL_law_X5_read
set_option maxRecDepth 20000 in
theorem ggL_law_X4_alike : GoodIn wsL_law wsX4_alike := goodIn_r _ [375, 32, 376, 377, 378, 2, 379, 335, 336, 337, 31, 338, 339, 340, 341, 342, 136, 64, 380, 381, 382, 383, 384, 385, 386, 387, 135, 288, 289, 290, 291, 67, 191, 192, 193, 194, 388, 389, 390, 391, 62, 936, 937, 938, 939, 940, 941, 942, 943, 992, 993, 994, 995, 996, 997, 998, 999, 1000, 1001, 1002, 1003] (by decide +kernel) (by decide +kernel)
set_option maxRecDepth 20000 in
theorem gL_law_X4_alike : GoodIn wsL_law (wsV RL 50 RX4 yX4_alike wsX4_alike) := goodIn_app (goodIn_of _ (by decide +kernel)) ggL_law_X4_alike
set_option maxRecDepth 20000 in
theorem ggL_law_X5_alike : GoodIn wsL_law wsX5_alike := goodIn_r _ [395, 76, 77, 396, 397, 398, 5, 399, 351, 352, 353, 354, 246, 112, 113, 114, 355, 356, 357, 358, 78, 79, 308, 309, 310, 311, 84, 944, 945, 946, 947, 948, 949, 950, 951, 952, 953, 954, 955, 956, 957, 958, 959, 960, 961, 962, 963, 964, 965, 966, 967, 968, 969, 970, 971, 972] (by decide +kernel) (by decide +kernel)
set_option maxRecDepth 20000 in
theorem gL_law_X5_alike : GoodIn wsL_law (wsV RL 53 RX5 yX5_alike wsX5_alike) := goodIn_app (goodIn_of _ (by decide +kernel)) ggL_law_X5_alike
set_option maxRecDepth 20000 in
theorem ggL_law_X4_chance : GoodIn wsL_law wsX4_chance := goodIn_r _ [403, 404, 32, 405, 376, 377, 378, 2, 379, 335, 336, 337, 31, 338, 339, 340, 341, 342, 136, 64, 380, 381, 382, 383, 384, 385, 386, 387, 135, 288, 289, 290, 291, 67, 191, 192, 193, 194, 406, 407, 408, 409, 410, 411, 412, 413, 414, 415, 416, 417, 418, 419, 420, 421, 936, 937, 938, 939, 940, 941, 942, 943, 992, 993, 994, 995, 996, 997, 998, 999, 1000, 1001, 1002, 1003] (by decide +kernel) (by decide +kernel)
set_option maxRecDepth 20000 in
theorem gL_law_X4_chance : GoodIn wsL_law (wsV RL 54 RX4 yX4_chance wsX4_chance) := goodIn_app (goodIn_of _ (by decide +kernel)) ggL_law_X4_chance
set_option maxRecDepth 20000 in
theorem ggL_law_X5_chance : GoodIn wsL_law wsX5_chance := goodIn_r _ [425, 426, 427, 76, 428, 429, 396, 397, 398, 5, 399, 351, 352, 353, 354, 246, 112, 113, 114, 355, 356, 357, 358, 78, 79, 308, 309, 310, 311, 84, 430, 431, 432, 433, 434, 435, 436, 944, 945, 946, 947, 948, 949, 950, 951, 952, 953, 954, 955, 956, 957, 958, 959, 960, 961, 962, 963, 964, 965, 966, 967, 968, 969, 970, 971, 972] (by decide +kernel) (by decide +kernel)
set_option maxRecDepth 20000 in
theorem gL_law_X5_chance : GoodIn wsL_law (wsV RL 58 RX5 yX5_chance wsX5_chance) := goodIn_app (goodIn_of _ (by decide +kernel)) ggL_law_X5_chance
set_option maxRecDepth 20000 in
theorem ggL_law_X4_best : GoodIn wsL_law wsX4_best := goodIn_r _ [440, 24, 32, 441, 442, 443, 23, 444, 445, 53, 446, 52, 54, 447, 448, 449, 340, 341, 31, 342, 136, 64, 450, 451, 452, 453, 454, 139, 140, 141, 455, 381, 382, 383, 384, 385, 386, 387, 135, 288, 289, 290, 291, 67, 191, 192, 193, 194, 456, 457, 458, 459, 460, 461, 462, 463, 55, 56, 464, 465, 466, 467, 468, 469, 470, 471, 472, 473, 474, 475, 476, 477, 478, 479, 480, 481, 482, 483, 484, 58, 485, 486, 487, 488, 489, 490, 491, 492, 493, 494, 495, 496, 497, 498, 499, 500, 501, 502, 503, 504, 505, 506, 507, 508, 936, 937, 938, 939, 940, 941, 942, 943, 992, 993, 994, 995, 996, 997, 998, 999, 1000, 1001, 1002, 1003, 983, 984, 985, 986, 987, 988, 989, 990, 991] (by decide +kernel) (by decide +kernel)
set_option maxRecDepth 20000 in
theorem gL_law_X4_best : GoodIn wsL_law (wsV RL 59 RX4 yX4_best wsX4_best) := goodIn_app (goodIn_of _ (by decide +kernel)) ggL_law_X4_best
set_option maxRecDepth 20000 in
theorem ggL_law_X5_best : GoodIn wsL_law wsX5_best := goodIn_r _ [512, 513, 514, 515, 90, 516, 517, 518, 5, 519, 520, 521, 522, 523, 88, 80, 85, 76, 524, 86, 87, 77, 355, 356, 357, 358, 78, 79, 308, 309, 310, 311, 84, 525, 526, 527, 528, 529, 530, 531, 532, 89, 533, 534, 535, 536, 537, 538, 539, 540, 541, 542, 543, 544, 91, 545, 546, 547, 548, 944, 945, 946, 947, 948, 949, 950, 951, 952, 953, 954, 955, 956, 957, 958, 959, 960, 961, 962, 963, 964, 965, 966, 967, 968, 969, 970, 971, 972] (by decide +kernel) (by decide +kernel)
set_option maxRecDepth 20000 in
theorem gL_law_X5_best : GoodIn wsL_law (wsV RL 63 RX5 yX5_best wsX5_best) := goodIn_app (goodIn_of _ (by decide +kernel)) ggL_law_X5_best
set_option maxRecDepth 20000 in
theorem ggL_law_X4_sure : GoodIn wsL_law wsX4_sure := goodIn_r _ [552, 24, 32, 376, 377, 378, 2, 379, 335, 336, 337, 31, 338, 339, 340, 341, 342, 136, 64, 441, 442, 443, 23, 444, 445, 53, 446, 52, 54, 447, 448, 449, 450, 451, 452, 453, 454, 139, 140, 141, 455, 381, 382, 383, 384, 385, 386, 387, 135, 288, 289, 290, 291, 67, 191, 192, 193, 194, 456, 457, 458, 459, 460, 461, 462, 463, 55, 56, 464, 465, 466, 467, 468, 469, 470, 471, 472, 473, 474, 475, 476, 477, 478, 479, 480, 481, 482, 483, 484, 58, 485, 486, 487, 488, 489, 490, 491, 492, 493, 494, 495, 496, 553, 554, 555, 556, 57, 557, 558, 559, 560, 501, 502, 503, 504, 936, 937, 938, 939, 940, 941, 942, 943, 992, 993, 994, 995, 996, 997, 998, 999, 1000, 1001, 1002, 1003, 983, 984, 985, 986, 987, 988, 989, 990, 991] (by decide +kernel) (by decide +kernel)
set_option maxRecDepth 20000 in
theorem gL_law_X4_sure : GoodIn wsL_law (wsV RL 64 RX4 yX4_sure wsX4_sure) := goodIn_app (goodIn_of _ (by decide +kernel)) ggL_law_X4_sure
set_option maxRecDepth 20000 in
theorem ggL_law_X5_sure : GoodIn wsL_law wsX5_sure := goodIn_r _ [564, 513, 91, 396, 397, 398, 5, 399, 351, 352, 353, 354, 246, 112, 113, 114, 355, 356, 357, 358, 78, 79, 516, 517, 518, 519, 520, 521, 522, 523, 514, 88, 80, 85, 76, 524, 86, 87, 77, 308, 309, 310, 311, 84, 525, 526, 527, 528, 515, 529, 530, 531, 532, 89, 533, 534, 535, 536, 537, 538, 539, 540, 541, 542, 543, 544, 90, 545, 546, 547, 548, 944, 945, 946, 947, 948, 949, 950, 951, 952, 953, 954, 955, 956, 957, 958, 959, 960, 961, 962, 963, 964, 965, 966, 967, 968, 969, 970, 971, 972] (by decide +kernel) (by decide +kernel)
set_option maxRecDepth 20000 in
theorem gL_law_X5_sure : GoodIn wsL_law (wsV RL 67 RX5 yX5_sure wsX5_sure) := goodIn_app (goodIn_of _ (by decide +kernel)) ggL_law_X5_sure
set_option maxRecDepth 20000 in
theorem ggL_law_X4_seam : GoodIn wsL_law wsX4_seam := goodIn_r _ [568, 32, 24, 569, 340, 341, 31, 342, 136, 64, 406, 407, 408, 409, 410, 411, 412, 441, 442, 443, 23, 444, 445, 53, 446, 52, 54, 447, 448, 449, 450, 451, 452, 453, 454, 139, 140, 141, 455, 381, 382, 383, 384, 385, 386, 387, 135, 288, 289, 290, 291, 67, 191, 192, 193, 194, 456, 457, 458, 459, 460, 461, 462, 463, 55, 56, 464, 465, 466, 467, 468, 469, 470, 471, 472, 473, 474, 475, 476, 477, 478, 479, 480, 481, 482, 483, 484, 58, 485, 486, 487, 488, 489, 490, 491, 492, 493, 494, 495, 496, 570, 571, 572, 573, 574, 575, 576, 577, 578, 579, 580, 581, 582, 506, 507, 508, 583, 584, 585, 586, 587, 588, 589, 590, 591, 592, 593, 594, 936, 937, 938, 939, 940, 941, 942, 943, 992, 993, 994, 995, 996, 997, 998, 999, 1000, 1001, 1002, 1003, 983, 984, 985, 986, 987, 988, 989, 990, 991] (by decide +kernel) (by decide +kernel)
set_option maxRecDepth 20000 in
theorem gL_law_X4_seam : GoodIn wsL_law (wsV RL 68 RX4 yX4_seam wsX4_seam) := goodIn_app (goodIn_of _ (by decide +kernel)) ggL_law_X4_seam
set_option maxRecDepth 20000 in
theorem ggL_law_X5_seam : GoodIn wsL_law wsX5_seam := goodIn_r _ [598, 514, 426, 513, 516, 517, 518, 5, 519, 520, 521, 522, 523, 88, 80, 85, 76, 524, 86, 87, 77, 355, 356, 357, 358, 78, 79, 308, 309, 310, 311, 84, 525, 526, 527, 528, 515, 529, 530, 531, 532, 89, 533, 534, 535, 536, 537, 538, 539, 540, 541, 542, 543, 544, 91, 90, 545, 546, 547, 548, 112, 113, 114, 599, 600, 601, 602, 603, 604, 605, 606, 944, 945, 946, 947, 948, 949, 950, 951, 952, 953, 954, 955, 956, 957, 958, 959, 960, 961, 962, 963, 964, 965, 966, 967, 968, 969, 970, 971, 972] (by decide +kernel) (by decide +kernel)
set_option maxRecDepth 20000 in
theorem gL_law_X5_seam : GoodIn wsL_law (wsV RL 71 RX5 yX5_seam wsX5_seam) := goodIn_app (goodIn_of _ (by decide +kernel)) ggL_law_X5_seam
set_option maxRecDepth 20000 in
theorem ggL_law_X4_pause : GoodIn wsL_law wsX4_pause := goodIn_r _ [610, 24, 32, 611, 441, 442, 443, 23, 444, 445, 53, 446, 52, 54, 447, 448, 449, 340, 341, 31, 342, 136, 64, 450, 451, 452, 453, 454, 139, 140, 141, 455, 381, 382, 383, 384, 385, 386, 387, 135, 288, 289, 290, 291, 67, 191, 192, 193, 194, 456, 457, 458, 459, 460, 461, 462, 463, 55, 56, 464, 465, 466, 467, 468, 469, 470, 471, 472, 473, 474, 475, 476, 477, 478, 479, 480, 481, 482, 483, 484, 58, 485, 486, 487, 488, 489, 490, 491, 492, 570, 571, 572, 573, 574, 575, 576, 577, 578, 579, 580, 581, 582, 506, 507, 508, 583, 584, 585, 586, 612, 936, 937, 938, 939, 940, 941, 942, 943, 983, 984, 985, 986, 987, 988, 989, 990, 991, 992, 993, 994, 995, 996, 997, 998, 999, 1000, 1001, 1002, 1003] (by decide +kernel) (by decide +kernel)
set_option maxRecDepth 20000 in
theorem gL_law_X4_pause : GoodIn wsL_law (wsV RL 72 RX4 yX4_pause wsX4_pause) := goodIn_app (goodIn_of _ (by decide +kernel)) ggL_law_X4_pause
set_option maxRecDepth 20000 in
theorem ggL_law_X5_pause : GoodIn wsL_law wsX5_pause := goodIn_r _ [616, 514, 513, 516, 517, 518, 5, 519, 520, 521, 522, 523, 88, 80, 85, 76, 524, 86, 87, 77, 355, 356, 357, 358, 78, 79, 308, 309, 310, 311, 84, 525, 526, 527, 528, 515, 529, 530, 531, 532, 89, 533, 534, 535, 536, 537, 538, 539, 540, 541, 542, 543, 544, 91, 90, 545, 546, 547, 548, 599, 600, 601, 602, 603, 604, 605, 606, 944, 945, 946, 947, 948, 949, 950, 951, 952, 953, 954, 955, 956, 957, 958, 959, 960, 961, 962, 963, 964, 965, 966, 967, 968, 969, 970, 971, 972] (by decide +kernel) (by decide +kernel)
set_option maxRecDepth 20000 in
theorem gL_law_X5_pause : GoodIn wsL_law (wsV RL 75 RX5 yX5_pause wsX5_pause) := goodIn_app (goodIn_of _ (by decide +kernel)) ggL_law_X5_pause
