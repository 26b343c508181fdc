set_option maxRecDepth 20000 in
theorem gL_act_X5_about : GoodIn wsL_act (wsV RL 30 RX5 yX5_about wsX5_about) := goodIn_app (goodIn_of _ (by decide +kernel)) ggL_act_X5_about
set_option maxRecDepth 20000 in
theorem ggL_act_L_cell : GoodIn wsL_act wsL_cell := goodIn_r _ [53, 54] (by decide +kernel) (by decide +kernel)
set_option maxRecDepth 20000 in
theorem gL_act_L_cell : GoodIn wsL_act (va_wsS RL 53 yL_cell wsL_cell) := goodIn_app (goodIn_of _ (by decide +kernel)) ggL_act_L_cell
set_option maxRecDepth 20000 in
theorem ggL_act_L_low : GoodIn wsL_act wsL_low := goodIn_r _ [57, 58] (by decide +kernel) (by decide +kernel)
set_option maxRecDepth 20000 in
theorem gL_act_L_low : GoodIn wsL_act (va_wsS RL 59 yL_low wsL_low) := goodIn_app (goodIn_of _ (by decide +kernel)) ggL_act_L_low
set_option maxRecDepth 20000 in
theorem ggL_act_L_comes : GoodIn wsL_act wsL_comes := goodIn_ca (goodIn_ca (goodIn_r _ [61, 62, 63, 64, 65, 4, 66, 67, 68, 8, 69, 70, 71, 72, 6, 7, 73, 74, 75, 12, 76, 14, 44, 77, 78, 79, 80, 81, 82, 83, 84, 85, 86, 87, 88, 89, 90, 91, 92, 93, 39, 94, 95, 96, 97, 19, 24, 29, 34, 49, 98, 99, 100, 101, 102, 103, 104, 105, 9, 10, 11, 13, 298, 299, 300, 301, 302, 303, 304, 305, 306, 307, 308, 309, 310, 311, 312, 313, 314, 315, 316, 317, 318, 319, 320, 321, 322, 323, 324] (by decide +kernel) (by decide +kernel)) (goodIn_sub (fun _ h => List.mem_cons_of_mem _ (List.mem_append_left _ (List.mem_append_right _ h))) (by decide +kernel))) (goodIn_sub (fun _ h => List.mem_cons_of_mem _ (List.mem_append_left _ (List.mem_append_left _ (List.mem_append_right _ h)))) (by decide +kernel))
set_option maxRecDepth 20000 in
theorem gL_act_L_comes : GoodIn wsL_act (va_wsS RL 62 yL_comes wsL_comes) := goodIn_app (goodIn_of _ (by decide +kernel)) ggL_act_L_comes
set_option maxRecDepth 20000 in
theorem ggL_act_X5_addPlayer : GoodIn wsL_act wsX5_addPlayer := goodIn_ca (goodIn_r _ [109, 67, 68, 8, 69, 110, 111, 112, 12, 113, 19, 77, 78, 79, 80, 81, 82, 83, 84, 85, 86, 87, 88, 89, 90, 91, 92, 93, 39, 94, 95, 96, 97, 14, 24, 29, 34, 49, 44, 98, 99, 100, 114, 115, 116, 117, 118, 15, 16, 17, 18, 298, 299, 300, 301, 302, 303, 304, 305, 306, 307, 308, 309, 310, 311, 312, 313, 314, 315, 316, 317, 318, 319, 320, 321, 322, 323, 324] (by decide +kernel) (by decide +kernel)) (goodIn_sub (fun _ h => List.mem_cons_of_mem _ (List.mem_append_left _ (List.mem_append_right _ h))) (by decide +kernel))
