set_option maxRecDepth 20000 in
theorem gL_law_X6_ranked : GoodIn wsL_law (wsV RL 143 RX6 yX6_ranked wsX6_ranked) := goodIn_app (goodIn_of _ (by decide +kernel)) ggL_law_X6_ranked
set_option maxRecDepth 20000 in
theorem ggL_law_L_addRole : GoodIn wsL_law wsL_addRole := goodIn_ca (goodIn_ca (goodIn_r _ [590, 113, 114, 591, 592, 593, 2, 594, 119, 120, 21, 33, 121, 122, 123, 124, 125, 595, 242, 243, 20, 244, 61, 67, 596, 597, 598, 32, 599, 88, 600, 224, 601, 602, 603, 604, 47, 48, 49, 50, 51, 52, 53, 54, 55, 56, 62, 63, 64, 65, 66, 605, 606, 607, 608, 238, 239, 240, 241, 419, 281, 282, 283, 962, 963, 964, 965, 966, 967, 968, 985, 986, 987, 988, 989, 990, 991, 992, 993, 994, 995, 996, 997, 998, 999, 1000, 1001, 1009, 1010, 1011] (by decide +kernel) (by decide +kernel)) (goodIn_sub (fun _ h => List.mem_append_left _ (List.mem_append_left _ (List.mem_append_right _ h))) (by decide +kernel))) (goodIn_sub (fun _ h => List.mem_append_left _ (List.mem_append_right _ h)) (by decide +kernel))
set_option maxRecDepth 20000 in
theorem gL_law_L_addRole : GoodIn wsL_law (va_wsS RL 144 yL_addRole wsL_addRole) := goodIn_app (goodIn_of _ (by decide +kernel)) ggL_law_L_addRole
set_option maxRecDepth 20000 in
theorem ggL_law_X6_addRole : GoodIn wsL_law wsX6_addRole := goodIn_r _ [612, 144, 94, 106, 107, 5, 108, 146, 147, 148, 149, 613, 614, 615, 616, 358, 96, 617, 618, 619, 363, 364, 365, 366, 969, 970, 971, 972, 973, 974, 975, 976, 977, 978, 979, 980, 981, 982] (by decide +kernel) (by decide +kernel)
set_option maxRecDepth 20000 in
theorem gL_law_X6_addRole : GoodIn wsL_law (wsV RL 146 RX6 yX6_addRole wsX6_addRole) := goodIn_app (goodIn_of _ (by decide +kernel)) ggL_law_X6_addRole
set_option maxRecDepth 20000 in
theorem ggL_law_L_addPlayer : GoodIn wsL_law wsL_addPlayer := goodIn_ca (goodIn_r _ [622, 114, 623, 624, 625, 2, 626, 119, 120, 21, 33, 627, 250, 251, 20, 252, 62, 596, 597, 598, 32, 599, 88, 600, 224, 601, 602, 603, 604, 47, 48, 49, 50, 51, 52, 53, 54, 55, 56, 61, 63, 64, 65, 66, 67, 605, 606, 607, 628, 246, 247, 248, 249, 420, 305, 306, 307, 962, 963, 964, 965, 966, 967, 968, 985, 986, 987, 988, 989, 990, 991, 992, 993, 994, 995, 996, 997, 998, 999, 1000, 1001, 1009, 1010, 1011] (by decide +kernel) (by decide +kernel)) (goodIn_sub (fun _ h => List.mem_append_left _ (List.mem_append_left _ (List.mem_append_right _ h))) (by decide +kernel))
set_option maxRecDepth 20000 in
theorem gL_law_L_addPlayer : GoodIn wsL_law (va_wsS RL 147 yL_addPlayer wsL_addPlayer) := goodIn_app (goodIn_of _ (by decide +kernel)) ggL_law_L_addPlayer
set_option maxRecDepth 20000 in
theorem ggL_law_X6_addPlayer : GoodIn wsL_law wsX6_addPlayer := goodIn_r _ [632, 144, 94, 146, 147, 148, 5, 149, 613, 614, 615, 616, 358, 96, 617, 618, 619, 969, 970, 971, 972, 973, 974, 975, 976, 977, 978, 979, 980, 981, 982] (by decide +kernel) (by decide +kernel)
