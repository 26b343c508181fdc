set_option maxRecDepth 20000 in
theorem gL_law_X6_dark : GoodIn wsL_law (wsV RL 167 RX6 yX6_dark wsX6_dark) := goodIn_app (goodIn_of _ (by decide +kernel)) ggL_law_X6_dark
set_option maxRecDepth 20000 in
theorem ggL_law_L_promote : GoodIn wsL_law wsL_promote := goodIn_ca (goodIn_ca (goodIn_r _ [718, 452, 114, 719, 720, 721, 2, 722, 119, 120, 21, 33, 457, 458, 459, 460, 461, 462, 463, 262, 263, 20, 264, 61, 723, 724, 725, 726, 48, 51, 62, 257, 258, 259, 260, 265, 266, 267, 596, 597, 598, 32, 599, 88, 600, 224, 601, 602, 603, 604, 47, 49, 50, 52, 53, 54, 55, 56, 63, 64, 65, 66, 67, 605, 606, 607, 652, 269, 270, 271, 261, 962, 963, 964, 965, 966, 967, 968, 985, 986, 987, 988, 989, 990, 991, 992, 993, 994, 995, 996, 997, 998, 999, 1000, 1001, 1009, 1010, 1011] (by decide +kernel) (by decide +kernel)) (goodIn_sub (fun _ h => List.mem_append_left _ (List.mem_append_left _ (List.mem_append_right _ h))) (by decide +kernel))) (goodIn_sub (fun _ h => List.mem_append_right _ h) (by decide +kernel))
set_option maxRecDepth 20000 in
theorem gL_law_L_promote : GoodIn wsL_law (va_wsS RL 168 yL_promote wsL_promote) := goodIn_app (goodIn_of _ (by decide +kernel)) ggL_law_L_promote
set_option maxRecDepth 20000 in
theorem ggL_law_X6_promote : GoodIn wsL_law wsX6_promote := goodIn_r _ [730, 144, 94, 406, 407, 5, 408, 106, 107, 108, 146, 147, 148, 149, 731, 732, 733, 734, 613, 614, 615, 616, 358, 96, 617, 618, 619, 969, 970, 971, 972, 973, 974, 975, 976, 977, 978, 979, 980, 981, 982] (by decide +kernel) (by decide +kernel)
set_option maxRecDepth 20000 in
theorem gL_law_X6_promote : GoodIn wsL_law (wsV RL 170 RX6 yX6_promote wsX6_promote) := goodIn_app (goodIn_of _ (by decide +kernel)) ggL_law_X6_promote
set_option maxRecDepth 20000 in
theorem ggL_law_L_set : GoodIn wsL_law wsL_set := goodIn_ca (goodIn_r _ [737, 113, 738, 739, 740, 2, 741, 742, 743, 33, 21, 121, 122, 123, 124, 125, 596, 597, 598, 32, 599, 88, 600, 224, 601, 602, 603, 20, 604, 47, 48, 49, 50, 51, 52, 53, 54, 55, 56, 61, 62, 63, 64, 65, 66, 67, 605, 606, 607, 561, 562, 563, 564, 744, 745, 746, 747, 962, 963, 964, 965, 966, 967, 968, 1009, 1010, 1011, 985, 986, 987, 988, 989, 990, 991, 992, 993, 994, 995, 996, 997, 998, 999, 1000, 1001] (by decide +kernel) (by decide +kernel)) (goodIn_sub (fun _ h => List.mem_append_left _ (List.mem_append_right _ h)) (by decide +kernel))
set_option maxRecDepth 20000 in
theorem gL_law_L_set : GoodIn wsL_law (va_wsS RL 171 yL_set wsL_set) := goodIn_app (goodIn_of _ (by decide +kernel)) ggL_law_L_set
set_option maxRecDepth 20000 in
theorem ggL_law_X6_set : GoodIn wsL_law wsX6_set := goodIn_r _ [751, 144, 94, 106, 107, 5, 108, 752, 753, 754, 146, 147, 148, 149, 613, 614, 615, 616, 358, 96, 617, 618, 619, 969, 970, 971, 972, 973, 974, 975, 976, 977, 978, 979, 980, 981, 982] (by decide +kernel) (by decide +kernel)
