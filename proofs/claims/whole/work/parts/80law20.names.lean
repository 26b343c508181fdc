set_option maxRecDepth 20000 in
theorem gL_law_X6_addPlayer : GoodIn wsL_law (wsV RL 149 RX6 yX6_addPlayer wsX6_addPlayer) := goodIn_app (goodIn_of _ (by decide +kernel)) ggL_law_X6_addPlayer
set_option maxRecDepth 20000 in
theorem ggL_law_L_ready : GoodIn wsL_law wsL_ready := goodIn_ca (goodIn_ca (goodIn_r _ [635, 452, 113, 636, 637, 638, 2, 639, 33, 21, 502, 503, 504, 505, 461, 462, 506, 258, 259, 20, 260, 62, 457, 458, 459, 460, 463, 262, 263, 264, 61, 121, 122, 123, 124, 125, 596, 597, 598, 32, 599, 88, 600, 224, 601, 602, 603, 604, 47, 48, 49, 50, 51, 52, 53, 54, 55, 56, 63, 64, 65, 66, 67, 605, 606, 607, 541, 542, 543, 544, 265, 266, 267, 640, 254, 255, 256, 257, 261, 962, 963, 964, 965, 966, 967, 968, 985, 986, 987, 988, 989, 990, 991, 992, 993, 994, 995, 996, 997, 998, 999, 1000, 1001, 1009, 1010, 1011] (by decide +kernel) (by decide +kernel)) (goodIn_sub (fun _ h => List.mem_append_right _ h) (by decide +kernel))) (goodIn_sub (fun _ h => List.mem_append_left _ (List.mem_append_right _ h)) (by decide +kernel))
set_option maxRecDepth 20000 in
theorem gL_law_L_ready : GoodIn wsL_law (va_wsS RL 150 yL_ready wsL_ready) := goodIn_app (goodIn_of _ (by decide +kernel)) ggL_law_L_ready
set_option maxRecDepth 20000 in
theorem ggL_law_X6_ready : GoodIn wsL_law wsX6_ready := goodIn_r _ [644, 144, 94, 409, 410, 5, 411, 106, 107, 108, 406, 407, 408, 146, 147, 148, 149, 613, 614, 615, 616, 358, 96, 617, 618, 619, 397, 398, 399, 969, 970, 971, 972, 973, 974, 975, 976, 977, 978, 979, 980, 981, 982] (by decide +kernel) (by decide +kernel)
set_option maxRecDepth 20000 in
theorem gL_law_X6_ready : GoodIn wsL_law (wsV RL 152 RX6 yX6_ready wsX6_ready) := goodIn_app (goodIn_of _ (by decide +kernel)) ggL_law_X6_ready
set_option maxRecDepth 20000 in
theorem ggL_law_L_first : GoodIn wsL_law wsL_first := goodIn_ca (goodIn_r _ [647, 452, 648, 649, 650, 2, 651, 33, 21, 457, 458, 459, 460, 461, 462, 463, 262, 263, 20, 264, 61, 502, 503, 504, 505, 506, 258, 259, 260, 62, 596, 597, 598, 32, 599, 88, 600, 224, 601, 602, 603, 604, 47, 48, 49, 50, 51, 52, 53, 54, 55, 56, 63, 64, 65, 66, 67, 605, 606, 607, 468, 469, 470, 471, 652, 269, 270, 271, 261, 257, 962, 963, 964, 965, 966, 967, 968, 985, 986, 987, 988, 989, 990, 991, 992, 993, 994, 995, 996, 997, 998, 999, 1000, 1001, 1009, 1010, 1011] (by decide +kernel) (by decide +kernel)) (goodIn_sub (fun _ h => List.mem_append_right _ h) (by decide +kernel))
set_option maxRecDepth 20000 in
theorem gL_law_L_first : GoodIn wsL_law (va_wsS RL 153 yL_first wsL_first) := goodIn_app (goodIn_of _ (by decide +kernel)) ggL_law_L_first
set_option maxRecDepth 20000 in
theorem ggL_law_X6_first : GoodIn wsL_law wsX6_first := goodIn_r _ [656, 144, 94, 406, 407, 5, 408, 106, 107, 108, 409, 410, 411, 146, 147, 148, 149, 613, 614, 615, 616, 358, 96, 617, 618, 619, 969, 970, 971, 972, 973, 974, 975, 976, 977, 978, 979, 980, 981, 982] (by decide +kernel) (by decide +kernel)
