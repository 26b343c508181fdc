set_option maxRecDepth 20000 in
theorem gL_law_X6_strength : GoodIn wsL_law (wsV RL 180 RX6 yX6_strength wsX6_strength) := goodIn_app (goodIn_of _ (by decide +kernel)) ggL_law_X6_strength
set_option maxRecDepth 20000 in
theorem ggL_law_L_without : GoodIn wsL_law wsL_without := goodIn_ca (goodIn_r _ [788, 452, 789, 790, 791, 2, 792, 25, 21, 502, 503, 504, 505, 461, 462, 506, 258, 259, 20, 260, 62, 793, 794, 795, 796, 288, 289, 290, 291, 292, 293, 294, 295, 54, 63, 53, 56, 473, 297, 298, 24, 299, 300, 301, 75, 74, 302, 303, 281, 282, 283, 61, 304, 305, 306, 307, 308, 309, 310, 311, 312, 313, 314, 50, 47, 48, 265, 266, 267, 315, 316, 317, 318, 319, 320, 321, 322, 323, 324, 325, 326, 327, 328, 329, 330, 331, 332, 333, 334, 335, 336, 337, 76, 962, 963, 964, 965, 966, 967, 968, 985, 986, 987, 988, 989, 990, 991, 992, 993, 994, 995, 996, 997, 998, 999, 1000, 1001, 1002, 1003, 1004, 1005, 1006, 1007] (by decide +kernel) (by decide +kernel)) (goodIn_sub (fun _ h => List.mem_append_right _ h) (by decide +kernel))
set_option maxRecDepth 20000 in
theorem gL_law_L_without : GoodIn wsL_law (va_wsS RL 181 yL_without wsL_without) := goodIn_app (goodIn_of _ (by decide +kernel)) ggL_law_L_without
set_option maxRecDepth 20000 in
theorem ggL_law_X6_without : GoodIn wsL_law wsX6_without := goodIn_r _ [800, 144, 94, 409, 410, 5, 411, 106, 107, 108, 801, 802, 803, 804, 95, 805, 806, 807, 808, 617, 618, 619, 380, 381, 382, 383, 100, 101, 384, 385, 386, 387, 388, 389, 390, 391, 392, 393, 394, 395, 396, 397, 398, 399, 400, 401, 402, 146, 147, 148, 149, 969, 970, 971, 972, 973, 974, 975, 976, 977, 978, 979, 980, 981, 982] (by decide +kernel) (by decide +kernel)
set_option maxRecDepth 20000 in
theorem gL_law_X6_without : GoodIn wsL_law (wsV RL 183 RX6 yX6_without wsX6_without) := goodIn_app (goodIn_of _ (by decide +kernel)) ggL_law_X6_without
set_option maxRecDepth 20000 in
theorem ggL_law_X5_missed : GoodIn wsL_law wsX5_missed := goodIn_r _ [812, 21, 25, 419, 281, 282, 20, 283, 61, 472, 289, 290, 291, 62, 292, 293, 294, 295, 54, 63, 53, 56, 473, 297, 298, 24, 299, 300, 301, 75, 74, 302, 303, 304, 305, 306, 307, 308, 309, 310, 311, 312, 313, 314, 50, 47, 48, 265, 266, 267, 315, 316, 317, 318, 319, 320, 321, 322, 323, 324, 325, 326, 327, 328, 329, 330, 331, 332, 333, 334, 335, 336, 337, 76, 813, 814, 815, 816, 817, 818, 794, 795, 796, 288, 819, 962, 963, 964, 965, 966, 967, 968, 985, 986, 987, 988, 989, 990, 991, 992, 993, 994, 995, 996, 997, 998, 999, 1000, 1001, 1002, 1003, 1004, 1005, 1006, 1007] (by decide +kernel) (by decide +kernel)
set_option maxRecDepth 20000 in
theorem gL_law_X5_missed : GoodIn wsL_law (wsV RL 184 RX5 yX5_missed wsX5_missed) := goodIn_app (goodIn_of _ (by decide +kernel)) ggL_law_X5_missed
set_option maxRecDepth 20000 in
theorem ggL_law_X6_missed : GoodIn wsL_law wsX6_missed := goodIn_r _ [823, 144, 94, 380, 381, 382, 5, 383, 100, 101, 384, 385, 386, 387, 388, 389, 390, 391, 392, 393, 394, 395, 396, 397, 398, 399, 400, 401, 402, 801, 802, 803, 804, 95, 805, 806, 807, 808, 617, 618, 619, 969, 970, 971, 972, 973, 974, 975, 976, 977, 978, 979, 980, 981, 982] (by decide +kernel) (by decide +kernel)
