set_option maxRecDepth 20000 in
theorem gL_play_X5_play : GoodIn wsL_play (wsV RL 17 RX5 yX5_play wsX5_play) := goodIn_app (goodIn_of _ (by decide +kernel)) ggL_play_X5_play
theorem dL_play_0 : decode cL_play 0 = .ok (.aload_n 0, 1) := by decide +kernel
theorem dL_play_1 : decode cL_play 1 = .ok (.invokevirtual 17, 3) := by decide +kernel
theorem dL_play_4 : decode cL_play 4 = .ok (.ireturn, 1) := by decide +kernel
theorem dL_play_5 : decode cL_play 5 = .ok (.astore_n 1, 1) := by decide +kernel
theorem dL_play_6 : decode cL_play 6 = .ok (.bipush (-3), 2) := by decide +kernel
theorem dL_play_8 : decode cL_play 8 = .ok (.ireturn, 1) := by decide +kernel
set_option maxRecDepth 20000 in
theorem ggL_promote_X5_promote : GoodIn wsL_promote wsX5_promote := goodIn_ca (goodIn_ca (goodIn_r _ [6, 7, 8, 9, 10, 11, 12, 13, 5, 14, 15, 16, 17, 18, 19, 20, 21, 22, 23, 24, 25, 26, 27, 28, 29, 30, 31, 32, 33, 34, 35, 36, 37, 38, 39, 40, 41, 42, 43, 44, 45, 46, 47, 48, 49, 50, 51, 52, 53, 54, 55, 56, 57, 58, 59, 60, 61, 62, 63, 64, 65, 66, 67, 68, 69, 70, 71, 72, 73, 74, 75, 76, 77, 78, 79, 80, 81, 82, 83, 84, 85, 86, 87, 88, 89, 90, 91, 92, 93, 94, 95, 96] (by decide +kernel) (by decide +kernel)) (goodIn_sub (fun _ h => List.mem_cons_of_mem _ (List.mem_append_left _ (List.mem_append_right _ h))) (by decide +kernel))) (goodIn_sub (fun _ h => List.mem_cons_of_mem _ (List.mem_append_right _ h)) (by decide +kernel))
set_option maxRecDepth 20000 in
theorem gL_promote_X5_promote : GoodIn wsL_promote (wsV RL 20 RX5 yX5_promote wsX5_promote) := goodIn_app (goodIn_of _ (by decide +kernel)) ggL_promote_X5_promote
theorem dL_promote_0 : decode cL_promote 0 = .ok (.aload_n 0, 1) := by decide +kernel
theorem dL_promote_1 : decode cL_promote 1 = .ok (.iload_n 1, 1) := by decide +kernel
theorem dL_promote_2 : decode cL_promote 2 = .ok (.invokevirtual 20, 3) := by decide +kernel
theorem dL_promote_5 : decode cL_promote 5 = .ok (.ireturn, 1) := by decide +kernel
theorem dL_promote_6 : decode cL_promote 6 = .ok (.astore_n 2, 1) := by decide +kernel
theorem dL_promote_7 : decode cL_promote 7 = .ok (.bipush (-3), 2) := by decide +kernel
theorem dL_promote_9 : decode cL_promote 9 = .ok (.ireturn, 1) := by decide +kernel
set_option maxRecDepth 20000 in
theorem ggL_comes_X5_addRole : GoodIn wsL_comes wsX5_addRole := goodIn_ca (goodIn_ca (goodIn_r _ [6, 7, 8, 9, 10, 11, 12, 5, 13, 14, 15, 16, 17, 18, 19, 20, 21, 22, 23, 24, 25, 26, 27, 28, 29, 30, 31, 32, 33, 34, 35, 36, 37, 38, 39, 40, 41, 42, 43, 44, 45, 46, 47, 48, 49, 50, 51, 52, 53, 54, 55, 56, 57, 58, 59, 60, 61, 62, 63, 64, 65, 66, 67, 68, 69, 70, 71, 72, 73, 74, 75, 76, 77, 78, 79, 80, 81, 82, 83, 84, 85, 86, 87, 88] (by decide +kernel) (by decide +kernel)) (goodIn_sub (fun _ h => List.mem_cons_of_mem _ (List.mem_append_left _ (List.mem_append_right _ h))) (by decide +kernel))) (goodIn_sub (fun _ h => List.mem_cons_of_mem _ (List.mem_append_right _ h)) (by decide +kernel))
set_option maxRecDepth 20000 in
theorem gL_comes_X5_addRole : GoodIn wsL_comes (wsV RL 24 RX5 yX5_addRole wsX5_addRole) := goodIn_app (goodIn_of _ (by decide +kernel)) ggL_comes_X5_addRole
theorem dL_comes_0 : decode cL_comes 0 = .ok (.aload_n 0, 1) := by decide +kernel
theorem dL_comes_1 : decode cL_comes 1 = .ok (.iload_n 1, 1) := by decide +kernel
theorem dL_comes_2 : decode cL_comes 2 = .ok (.invokevirtual 24, 3) := by decide +kernel
theorem dL_comes_5 : decode cL_comes 5 = .ok (.ireturn, 1) := by decide +kernel
theorem dL_comes_6 : decode cL_comes 6 = .ok (.astore_n 2, 1) := by decide +kernel
theorem dL_comes_7 : decode cL_comes 7 = .ok (.bipush (-3), 2) := by decide +kernel
theorem dL_comes_9 : decode cL_comes 9 = .ok (.ireturn, 1) := by decide +kernel
set_option maxRecDepth 20000 in
theorem ggL_undo_X5_undo : GoodIn wsL_undo wsX5_undo := goodIn_ca (goodIn_r _ [6, 7, 8, 9, 10, 11, 12, 13, 14, 15, 16, 17, 18, 19, 20, 21, 22, 23, 24, 25, 26, 27, 28, 29, 30, 31, 32, 33, 34, 35, 36, 37, 38, 39, 40, 41, 42, 43, 44, 45, 46, 47, 48, 49, 50, 51, 52, 53, 54, 55, 56, 57, 58, 59, 60, 61, 62, 63, 64, 65, 66, 67, 68, 69, 70, 71, 72, 73, 74, 75, 76, 77, 78] (by decide +kernel) (by decide +kernel)) (goodIn_sub (fun _ h => List.mem_cons_of_mem _ (List.mem_append_right _ h)) (by decide +kernel))
