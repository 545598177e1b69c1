set_option maxRecDepth 20000 in
theorem ggL_law_X5_in : GoodIn wsL_law wsX5_in := goodIn_r _ [351, 352, 353, 354, 5, 355, 247, 113, 114, 115, 356, 357, 358, 359, 79, 80, 328, 329, 330, 331, 301, 302, 303, 304, 77, 360, 361, 362, 363, 85, 253, 254, 255, 945, 946, 947, 948, 949, 950, 951, 952, 953, 954, 955, 956, 957, 958, 959, 960, 961, 962, 963, 964, 965, 966, 967, 968, 969, 970, 971, 972, 973] (by decide +kernel) (by decide +kernel)
set_option maxRecDepth 20000 in
theorem gL_law_X5_in : GoodIn wsL_law (wsV RL 45 RX5 yX5_in wsX5_in) := goodIn_app (goodIn_of _ (by decide +kernel)) ggL_law_X5_in
set_option maxRecDepth 20000 in
theorem ggL_law_X4_read : GoodIn wsL_law wsX4_read := goodIn_r _ [367, 32, 317, 189, 190, 31, 191, 173, 174, 175, 176, 136, 318, 193, 194, 195, 137, 319, 290, 291, 292, 68, 192, 368, 197, 198, 199, 937, 938, 939, 940, 941, 942, 943, 944, 994, 995, 996, 997, 998, 999, 1000, 1001, 1002, 1003, 1004, 1005] (by decide +kernel) (by decide +kernel)
set_option maxRecDepth 20000 in
theorem gL_law_X4_read : GoodIn wsL_law (wsV RL 46 RX4 yX4_read wsX4_read) := goodIn_app (goodIn_of _ (by decide +kernel)) ggL_law_X4_read
set_option maxRecDepth 20000 in
theorem ggL_law_X5_read : GoodIn wsL_law wsX5_read := goodIn_r _ [372, 85, 324, 325, 326, 5, 327, 79, 113, 114, 115, 301, 302, 303, 304, 77, 253, 254, 255, 945, 946, 947, 948, 949, 950, 951, 952, 953, 954, 955, 956, 957, 958, 959, 960, 961, 962, 963, 964, 965, 966, 967, 968, 969, 970, 971, 972, 973] (by decide +kernel) (by decide +kernel)
set_option maxRecDepth 20000 in
theorem gL_law_X5_read : GoodIn wsL_law (wsV RL 49 RX5 yX5_read wsX5_read) := goodIn_app (goodIn_of _ (by decide +kernel)) ggL_law_X5_read
set_option maxRecDepth 20000 in
theorem ggL_law_X4_alike : GoodIn wsL_law wsX4_alike := goodIn_r _ [376, 32, 377, 378, 379, 2, 380, 336, 337, 338, 31, 339, 340, 341, 342, 343, 137, 65, 381, 382, 383, 384, 385, 386, 387, 388, 136, 289, 290, 291, 292, 68, 192, 193, 194, 195, 389, 390, 391, 392, 63, 937, 938, 939, 940, 941, 942, 943, 944, 994, 995, 996, 997, 998, 999, 1000, 1001, 1002, 1003, 1004, 1005] (by decide +kernel) (by decide +kernel)
set_option maxRecDepth 20000 in
theorem gL_law_X4_alike : GoodIn wsL_law (wsV RL 50 RX4 yX4_alike wsX4_alike) := goodIn_app (goodIn_of _ (by decide +kernel)) ggL_law_X4_alike
set_option maxRecDepth 20000 in
theorem ggL_law_X5_alike : GoodIn wsL_law wsX5_alike := goodIn_r _ [396, 77, 78, 397, 398, 399, 5, 400, 352, 353, 354, 355, 247, 113, 114, 115, 356, 357, 358, 359, 79, 80, 309, 310, 311, 312, 85, 945, 946, 947, 948, 949, 950, 951, 952, 953, 954, 955, 956, 957, 958, 959, 960, 961, 962, 963, 964, 965, 966, 967, 968, 969, 970, 971, 972, 973] (by decide +kernel) (by decide +kernel)
set_option maxRecDepth 20000 in
theorem gL_law_X5_alike : GoodIn wsL_law (wsV RL 53 RX5 yX5_alike wsX5_alike) := goodIn_app (goodIn_of _ (by decide +kernel)) ggL_law_X5_alike
set_option maxRecDepth 20000 in
theorem ggL_law_X4_chance : GoodIn wsL_law wsX4_chance := goodIn_r _ [404, 405, 32, 406, 377, 378, 379, 2, 380, 336, 337, 338, 31, 339, 340, 341, 342, 343, 137, 65, 381, 382, 383, 384, 385, 386, 387, 388, 136, 289, 290, 291, 292, 68, 192, 193, 194, 195, 407, 408, 409, 410, 411, 412, 413, 414, 415, 416, 417, 418, 419, 420, 421, 422, 937, 938, 939, 940, 941, 942, 943, 944, 994, 995, 996, 997, 998, 999, 1000, 1001, 1002, 1003, 1004, 1005] (by decide +kernel) (by decide +kernel)
set_option maxRecDepth 20000 in
theorem gL_law_X4_chance : GoodIn wsL_law (wsV RL 54 RX4 yX4_chance wsX4_chance) := goodIn_app (goodIn_of _ (by decide +kernel)) ggL_law_X4_chance
set_option maxRecDepth 20000 in
theorem ggL_law_X5_chance : GoodIn wsL_law wsX5_chance := goodIn_r _ [426, 427, 428, 77, 429, 430, 397, 398, 399, 5, 400, 352, 353, 354, 355, 247, 113, 114, 115, 356, 357, 358, 359, 79, 80, 309, 310, 311, 312, 85, 431, 432, 433, 434, 435, 436, 437, 945, 946, 947, 948, 949, 950, 951, 952, 953, 954, 955, 956, 957, 958, 959, 960, 961, 962, 963, 964, 965, 966, 967, 968, 969, 970, 971, 972, 973] (by decide +kernel) (by decide +kernel)
set_option maxRecDepth 20000 in
theorem gL_law_X5_chance : GoodIn wsL_law (wsV RL 58 RX5 yX5_chance wsX5_chance) := goodIn_app (goodIn_of _ (by decide +kernel)) ggL_law_X5_chance
set_option maxRecDepth 20000 in
theorem ggL_law_X4_best : GoodIn wsL_law wsX4_best := goodIn_r _ [441, 24, 32, 442, 443, 444, 23, 445, 446, 53, 447, 52, 54, 448, 449, 450, 341, 342, 31, 343, 137, 65, 451, 452, 453, 454, 455, 140, 141, 142, 456, 382, 383, 384, 385, 386, 387, 388, 136, 289, 290, 291, 292, 68, 192, 193, 194, 195, 457, 458, 459, 460, 461, 462, 463, 464, 58, 465, 466, 467, 468, 55, 56, 469, 470, 471, 472, 473, 474, 475, 476, 477, 478, 479, 480, 481, 482, 483, 484, 485, 59, 486, 487, 488, 489, 490, 491, 492, 493, 494, 495, 496, 497, 498, 499, 500, 501, 502, 503, 504, 505, 506, 507, 508, 509, 937, 938, 939, 940, 941, 942, 943, 944, 994, 995, 996, 997, 998, 999, 1000, 1001, 1002, 1003, 1004, 1005, 984, 985, 986, 987, 988, 989, 990, 991, 992, 993] (by decide +kernel) (by decide +kernel)
set_option maxRecDepth 20000 in
theorem gL_law_X4_best : GoodIn wsL_law (wsV RL 59 RX4 yX4_best wsX4_best) := goodIn_app (goodIn_of _ (by decide +kernel)) ggL_law_X4_best
set_option maxRecDepth 20000 in
theorem ggL_law_X5_best : GoodIn wsL_law wsX5_best := goodIn_r _ [513, 514, 515, 516, 91, 517, 518, 519, 5, 520, 521, 522, 523, 524, 89, 81, 86, 77, 525, 87, 88, 78, 356, 357, 358, 359, 79, 80, 309, 310, 311, 312, 85, 526, 527, 528, 529, 530, 531, 532, 533, 90, 534, 535, 536, 537, 538, 539, 540, 541, 542, 543, 544, 545, 92, 546, 547, 548, 549, 945, 946, 947, 948, 949, 950, 951, 952, 953, 954, 955, 956, 957, 958, 959, 960, 961, 962, 963, 964, 965, 966, 967, 968, 969, 970, 971, 972, 973] (by decide +kernel) (by decide +kernel)
set_option maxRecDepth 20000 in
theorem gL_law_X5_best : GoodIn wsL_law (wsV RL 63 RX5 yX5_best wsX5_best) := goodIn_app (goodIn_of _ (by decide +kernel)) ggL_law_X5_best
set_option maxRecDepth 20000 in
theorem ggL_law_X4_sure : GoodIn wsL_law wsX4_sure := goodIn_r _ [553, 24, 32, 377, 378, 379, 2, 380, 336, 337, 338, 31, 339, 340, 341, 342, 343, 137, 65, 442, 443, 444, 23, 445, 446, 53, 447, 52, 54, 448, 449, 450, 451, 452, 453, 454, 455, 140, 141, 142, 456, 382, 383, 384, 385, 386, 387, 388, 136, 289, 290, 291, 292, 68, 192, 193, 194, 195, 457, 458, 459, 460, 461, 462, 463, 464, 58, 465, 466, 467, 468, 55, 56, 469, 470, 471, 472, 473, 474, 475, 476, 477, 478, 479, 480, 481, 482, 483, 484, 485, 59, 486, 487, 488, 489, 490, 491, 492, 493, 494, 495, 496, 497, 554, 555, 556, 557, 57, 558, 559, 560, 561, 502, 503, 504, 505, 937, 938, 939, 940, 941, 942, 943, 944, 994, 995, 996, 997, 998, 999, 1000, 1001, 1002, 1003, 1004, 1005, 984, 985, 986, 987, 988, 989, 990, 991, 992, 993] (by decide +kernel) (by decide +kernel)
set_option maxRecDepth 20000 in
theorem gL_law_X4_sure : GoodIn wsL_law (wsV RL 64 RX4 yX4_sure wsX4_sure) := goodIn_app (goodIn_of _ (by decide +kernel)) ggL_law_X4_sure
set_option maxRecDepth 20000 in
theorem ggL_law_X5_sure : GoodIn wsL_law wsX5_sure := goodIn_r _ [565, 514, 92, 397, 398, 399, 5, 400, 352, 353, 354, 355, 247, 113, 114, 115, 356, 357, 358, 359, 79, 80, 517, 518, 519, 520, 521, 522, 523, 524, 515, 89, 81, 86, 77, 525, 87, 88, 78, 309, 310, 311, 312, 85, 526, 527, 528, 529, 516, 530, 531, 532, 533, 90, 534, 535, 536, 537, 538, 539, 540, 541, 542, 543, 544, 545, 91, 546, 547, 548, 549, 945, 946, 947, 948, 949, 950, 951, 952, 953, 954, 955, 956, 957, 958, 959, 960, 961, 962, 963, 964, 965, 966, 967, 968, 969, 970, 971, 972, 973] (by decide +kernel) (by decide +kernel)
set_option maxRecDepth 20000 in
theorem gL_law_X5_sure : GoodIn wsL_law (wsV RL 67 RX5 yX5_sure wsX5_sure) := goodIn_app (goodIn_of _ (by decide +kernel)) ggL_law_X5_sure
set_option maxRecDepth 20000 in
theorem ggL_law_X4_seam : GoodIn wsL_law wsX4_seam := goodIn_r _ [569, 32, 24, 570, 341, 342, 31, 343, 137, 65, 407, 408, 409, 410, 411, 412, 413, 442, 443, 444, 23, 445, 446, 53, 447, 52, 54, 448, 449, 450, 451, 452, 453, 454, 455, 140, 141, 142, 456, 382, 383, 384, 385, 386, 387, 388, 136, 289, 290, 291, 292, 68, 192, 193, 194, 195, 457, 458, 459, 460, 461, 462, 463, 464, 58, 465, 466, 467, 468, 55, 56, 469, 470, 471, 472, 473, 474, 475, 476, 477, 478, 479, 480, 481, 482, 483, 484, 485, 59, 486, 487, 488, 489, 490, 491, 492, 493, 494, 495, 496, 497, 571, 572, 573, 574, 575, 576, 577, 578, 579, 580, 581, 582, 583, 507, 508, 509, 584, 585, 586, 587, 588, 589, 590, 591, 592, 593, 594, 595, 937, 938, 939, 940, 941, 942, 943, 944, 994, 995, 996, 997, 998, 999, 1000, 1001, 1002, 1003, 1004, 1005, 984, 985, 986, 987, 988, 989, 990, 991, 992, 993] (by decide +kernel) (by decide +kernel)
set_option maxRecDepth 20000 in
theorem gL_law_X4_seam : GoodIn wsL_law (wsV RL 68 RX4 yX4_seam wsX4_seam) := goodIn_app (goodIn_of _ (by decide +kernel)) ggL_law_X4_seam
set_option maxRecDepth 20000 in
theorem ggL_law_X5_seam : GoodIn wsL_law wsX5_seam := goodIn_r _ [599, 515, 427, 514, 517, 518, 519, 5, 520, 521, 522, 523, 524, 89, 81, 86, 77, 525, 87, 88, 78, 356, 357, 358, 359, 79, 80, 309, 310, 311, 312, 85, 526, 527, 528, 529, 516, 530, 531, 532, 533, 90, 534, 535, 536, 537, 538, 539, 540, 541, 542, 543, 544, 545, 92, 91, 546, 547, 548, 549, 113, 114, 115, 600, 601, 602, 603, 604, 605, 606, 607, 945, 946, 947, 948, 949, 950, 951, 952, 953, 954, 955, 956, 957, 958, 959, 960, 961, 962, 963, 964, 965, 966, 967, 968, 969, 970, 971, 972, 973] (by decide +kernel) (by decide +kernel)
set_option maxRecDepth 20000 in
theorem gL_law_X5_seam : GoodIn wsL_law (wsV RL 71 RX5 yX5_seam wsX5_seam) := goodIn_app (goodIn_of _ (by decide +kernel)) ggL_law_X5_seam
set_option maxRecDepth 20000 in
theorem ggL_law_X4_pause : GoodIn wsL_law wsX4_pause := goodIn_r _ [611, 24, 32, 612, 442, 443, 444, 23, 445, 446, 53, 447, 52, 54, 448, 449, 450, 341, 342, 31, 343, 137, 65, 451, 452, 453, 454, 455, 140, 141, 142, 456, 382, 383, 384, 385, 386, 387, 388, 136, 289, 290, 291, 292, 68, 192, 193, 194, 195, 457, 458, 459, 460, 461, 462, 463, 464, 58, 465, 466, 467, 468, 55, 56, 469, 470, 471, 472, 473, 474, 475, 476, 477, 478, 479, 480, 481, 482, 483, 484, 485, 59, 486, 487, 488, 489, 490, 491, 492, 493, 571, 572, 573, 574, 575, 576, 577, 578, 579, 580, 581, 582, 583, 507, 508, 509, 584, 585, 586, 587, 613, 937, 938, 939, 940, 941, 942, 943, 944, 984, 985, 986, 987, 988, 989, 990, 991, 992, 993, 994, 995, 996, 997, 998, 999, 1000, 1001, 1002, 1003, 1004, 1005] (by decide +kernel) (by decide +kernel)
set_option maxRecDepth 20000 in
theorem gL_law_X4_pause : GoodIn wsL_law (wsV RL 72 RX4 yX4_pause wsX4_pause) := goodIn_app (goodIn_of _ (by decide +kernel)) ggL_law_X4_pause
set_option maxRecDepth 20000 in
theorem ggL_law_X5_pause : GoodIn wsL_law wsX5_pause := goodIn_r _ [617, 515, 514, 517, 518, 519, 5, 520, 521, 522, 523, 524, 89, 81, 86, 77, 525, 87, 88, 78, 356, 357, 358, 359, 79, 80, 309, 310, 311, 312, 85, 526, 527, 528, 529, 516, 530, 531, 532, 533, 90, 534, 535, 536, 537, 538, 539, 540, 541, 542, 543, 544, 545, 92, 91, 546, 547, 548, 549, 600, 601, 602, 603, 604, 605, 606, 607, 945, 946, 947, 948, 949, 950, 951, 952, 953, 954, 955, 956, 957, 958, 959, 960, 961, 962, 963, 964, 965, 966, 967, 968, 969, 970, 971, 972, 973] (by decide +kernel) (by decide +kernel)
set_option maxRecDepth 20000 in
theorem gL_law_X5_pause : GoodIn wsL_law (wsV RL 75 RX5 yX5_pause wsX5_pause) := goodIn_app (goodIn_of _ (by decide +kernel)) ggL_law_X5_pause
