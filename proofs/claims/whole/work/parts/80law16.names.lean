set_option maxRecDepth 20000 in
theorem gL_law_X6_load : GoodIn wsL_law (wsV RL 123 RX6 yX6_load wsX6_load) := goodIn_app (goodIn_of _ (by decide +kernel)) ggL_law_X6_load
set_option maxRecDepth 20000 in
theorem ggL_law_L_about : GoodIn wsL_law wsL_about := goodIn_ca (goodIn_r _ [414, 113, 415, 416, 417, 2, 418, 124, 125, 21, 419, 281, 282, 20, 283, 61, 420, 305, 306, 307, 62, 421, 422, 423, 424, 63, 425, 426, 427, 428, 64, 429, 430, 431, 432, 65, 433, 434, 435, 436, 52, 437, 438, 439, 440, 67, 441, 442, 443, 444, 66, 962, 963, 964, 965, 966, 967, 968, 985, 986, 987, 988, 989, 990, 991, 992, 993, 994, 995, 996, 997, 998, 999, 1000, 1001] (by decide +kernel) (by decide +kernel)) (goodIn_sub (fun _ h => List.mem_append_left _ (List.mem_append_right _ h)) (by decide +kernel))
set_option maxRecDepth 20000 in
theorem gL_law_L_about : GoodIn wsL_law (va_wsS RL 124 yL_about wsL_about) := goodIn_app (goodIn_of _ (by decide +kernel)) ggL_law_L_about
set_option maxRecDepth 20000 in
theorem ggL_law_X6_about : GoodIn wsL_law wsX6_about := goodIn_r _ [448, 144, 94, 106, 107, 5, 108, 146, 147, 148, 149, 969, 970, 971, 972, 973, 974, 975, 976, 977, 978, 979, 980, 981, 982] (by decide +kernel) (by decide +kernel)
set_option maxRecDepth 20000 in
theorem gL_law_X6_about : GoodIn wsL_law (wsV RL 126 RX6 yX6_about wsX6_about) := goodIn_app (goodIn_of _ (by decide +kernel)) ggL_law_X6_about
set_option maxRecDepth 20000 in
theorem ggL_law_L_role : GoodIn wsL_law wsL_role := goodIn_ca (goodIn_ca (goodIn_r _ [451, 452, 113, 453, 454, 455, 2, 456, 124, 125, 21, 25, 457, 458, 459, 460, 461, 462, 463, 262, 263, 20, 264, 61, 464, 465, 466, 467, 47, 468, 469, 470, 471, 48, 472, 289, 290, 291, 62, 292, 293, 294, 295, 54, 63, 53, 56, 473, 297, 298, 24, 299, 300, 301, 75, 74, 302, 303, 281, 282, 283, 304, 305, 306, 307, 308, 309, 310, 311, 312, 313, 314, 50, 265, 266, 267, 315, 316, 317, 318, 319, 320, 321, 322, 323, 324, 325, 326, 327, 328, 329, 330, 331, 332, 333, 334, 335, 336, 337, 76, 474, 343, 344, 345, 475, 476, 477, 478, 67, 49, 479, 480, 481, 482, 962, 963, 964, 965, 966, 967, 968, 985, 986, 987, 988, 989, 990, 991, 992, 993, 994, 995, 996, 997, 998, 999, 1000, 1001, 1002, 1003, 1004, 1005, 1006, 1007] (by decide +kernel) (by decide +kernel)) (goodIn_sub (fun _ h => List.mem_append_left _ (List.mem_append_right _ h)) (by decide +kernel))) (goodIn_sub (fun _ h => List.mem_append_right _ h) (by decide +kernel))
set_option maxRecDepth 20000 in
theorem gL_law_L_role : GoodIn wsL_law (va_wsS RL 127 yL_role wsL_role) := goodIn_app (goodIn_of _ (by decide +kernel)) ggL_law_L_role
set_option maxRecDepth 20000 in
theorem ggL_law_X6_role : GoodIn wsL_law wsX6_role := goodIn_r _ [486, 144, 94, 406, 407, 5, 408, 106, 107, 108, 146, 147, 148, 149, 487, 488, 489, 490, 491, 492, 493, 494, 101, 380, 381, 382, 383, 100, 384, 385, 386, 387, 388, 389, 390, 391, 392, 393, 394, 395, 396, 397, 398, 399, 400, 401, 402, 969, 970, 971, 972, 973, 974, 975, 976, 977, 978, 979, 980, 981, 982] (by decide +kernel) (by decide +kernel)
