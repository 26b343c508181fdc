set_option maxRecDepth 20000 in
theorem gL_law_X6_role : GoodIn wsL_law (wsV RL 130 RX6 yX6_role wsX6_role) := goodIn_app (goodIn_of _ (by decide +kernel)) ggL_law_X6_role
set_option maxRecDepth 20000 in
theorem ggL_law_L_player : GoodIn wsL_law wsL_player := goodIn_ca (goodIn_ca (goodIn_r _ [497, 452, 113, 498, 499, 500, 2, 501, 124, 125, 21, 25, 502, 503, 504, 505, 461, 462, 506, 258, 259, 20, 260, 62, 507, 508, 509, 510, 52, 511, 512, 513, 514, 53, 515, 516, 517, 518, 54, 63, 519, 327, 328, 329, 520, 293, 294, 295, 56, 521, 522, 523, 524, 55, 472, 289, 290, 291, 292, 473, 297, 298, 24, 299, 300, 301, 75, 74, 302, 303, 281, 282, 283, 61, 304, 305, 306, 307, 308, 309, 310, 311, 312, 313, 314, 50, 47, 48, 265, 266, 267, 315, 316, 317, 318, 319, 320, 321, 322, 323, 324, 325, 326, 330, 331, 332, 333, 334, 335, 336, 337, 76, 525, 351, 352, 353, 962, 963, 964, 965, 966, 967, 968, 985, 986, 987, 988, 989, 990, 991, 992, 993, 994, 995, 996, 997, 998, 999, 1000, 1001, 1002, 1003, 1004, 1005, 1006, 1007] (by decide +kernel) (by decide +kernel)) (goodIn_sub (fun _ h => List.mem_append_left _ (List.mem_append_right _ h)) (by decide +kernel))) (goodIn_sub (fun _ h => List.mem_append_right _ h) (by decide +kernel))
set_option maxRecDepth 20000 in
theorem gL_law_L_player : GoodIn wsL_law (va_wsS RL 131 yL_player wsL_player) := goodIn_app (goodIn_of _ (by decide +kernel)) ggL_law_L_player
set_option maxRecDepth 20000 in
theorem ggL_law_X6_player : GoodIn wsL_law wsX6_player := goodIn_r _ [529, 144, 94, 409, 410, 5, 411, 106, 107, 108, 146, 147, 148, 149, 530, 531, 532, 533, 101, 380, 381, 382, 383, 100, 384, 385, 386, 387, 388, 389, 390, 391, 392, 393, 394, 395, 396, 397, 398, 399, 400, 401, 402, 969, 970, 971, 972, 973, 974, 975, 976, 977, 978, 979, 980, 981, 982] (by decide +kernel) (by decide +kernel)
set_option maxRecDepth 20000 in
theorem gL_law_X6_player : GoodIn wsL_law (wsV RL 133 RX6 yX6_player wsX6_player) := goodIn_app (goodIn_of _ (by decide +kernel)) ggL_law_X6_player
set_option maxRecDepth 20000 in
theorem ggL_law_L_both : GoodIn wsL_law wsL_both := goodIn_ca (goodIn_ca (goodIn_r _ [536, 452, 113, 537, 538, 539, 2, 540, 124, 125, 21, 502, 503, 504, 505, 461, 462, 506, 258, 259, 20, 260, 62, 457, 458, 459, 460, 463, 262, 263, 264, 61, 541, 542, 543, 544, 50, 265, 266, 267, 545, 546, 547, 548, 51, 549, 312, 313, 314, 47, 48, 962, 963, 964, 965, 966, 967, 968, 985, 986, 987, 988, 989, 990, 991, 992, 993, 994, 995, 996, 997, 998, 999, 1000, 1001] (by decide +kernel) (by decide +kernel)) (goodIn_sub (fun _ h => List.mem_append_left _ (List.mem_append_right _ h)) (by decide +kernel))) (goodIn_sub (fun _ h => List.mem_append_right _ h) (by decide +kernel))
set_option maxRecDepth 20000 in
theorem gL_law_L_both : GoodIn wsL_law (va_wsS RL 134 yL_both wsL_both) := goodIn_app (goodIn_of _ (by decide +kernel)) ggL_law_L_both
set_option maxRecDepth 20000 in
theorem ggL_law_X6_both : GoodIn wsL_law wsX6_both := goodIn_r _ [553, 144, 94, 409, 410, 5, 411, 106, 107, 108, 406, 407, 408, 146, 147, 148, 149, 397, 398, 399, 400, 401, 402, 969, 970, 971, 972, 973, 974, 975, 976, 977, 978, 979, 980, 981, 982] (by decide +kernel) (by decide +kernel)
