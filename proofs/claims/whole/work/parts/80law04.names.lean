set_option maxRecDepth 20000 in
theorem gL_ranked_X5_ranked : GoodIn wsL_ranked (wsV RL 40 RX5 yX5_ranked wsX5_ranked) := goodIn_app (goodIn_of _ (by decide +kernel)) ggL_ranked_X5_ranked
theorem dL_ranked_0 : decode cL_ranked 0 = .ok (.aload_n 2, 1) := by decide +kernel
theorem dL_ranked_1 : decode cL_ranked 1 = .ok (.iconst 0, 1) := by decide +kernel
theorem dL_ranked_2 : decode cL_ranked 2 = .ok (.aload_n 0, 1) := by decide +kernel
theorem dL_ranked_3 : decode cL_ranked 3 = .ok (.iload_n 1, 1) := by decide +kernel
theorem dL_ranked_4 : decode cL_ranked 4 = .ok (.invokevirtual 40, 3) := by decide +kernel
theorem dL_ranked_7 : decode cL_ranked 7 = .ok (.i2l, 1) := by decide +kernel
theorem dL_ranked_8 : decode cL_ranked 8 = .ok (.lastore, 1) := by decide +kernel
theorem dL_ranked_9 : decode cL_ranked 9 = .ok (.goto 6, 3) := by decide +kernel
theorem dL_ranked_12 : decode cL_ranked 12 = .ok (.astore_n 3, 1) := by decide +kernel
theorem dL_ranked_13 : decode cL_ranked 13 = .ok (.iconst 1, 1) := by decide +kernel
theorem dL_ranked_14 : decode cL_ranked 14 = .ok (.ireturn, 1) := by decide +kernel
theorem dL_ranked_15 : decode cL_ranked 15 = .ok (.iconst 0, 1) := by decide +kernel
theorem dL_ranked_16 : decode cL_ranked 16 = .ok (.ireturn, 1) := by decide +kernel
set_option maxRecDepth 20000 in
theorem ggL_addRole_X5_addRole : GoodIn wsL_addRole wsX5_addRole := goodIn_ca (goodIn_ca (goodIn_r _ [7, 8, 9, 10, 11, 12, 13, 6, 14, 15, 16, 17, 18, 19, 20, 21, 22, 23, 24, 25, 26, 27, 28, 29, 30, 31, 32, 33, 34, 35, 36, 37, 38, 39, 40, 41, 42, 43, 44, 45, 46, 47, 48, 49, 50, 51, 52, 53, 54, 55, 56, 57, 58, 59, 60, 61, 62, 63, 64, 65, 66, 67, 68, 69, 70, 71, 72, 73, 74, 75, 76, 77, 78, 79, 80, 81, 82, 83, 84, 85, 86, 87, 88, 89] (by decide +kernel) (by decide +kernel)) (goodIn_sub (fun _ h => List.mem_cons_of_mem _ (List.mem_append_left _ (List.mem_append_right _ h))) (by decide +kernel))) (goodIn_sub (fun _ h => List.mem_cons_of_mem _ (List.mem_append_right _ h)) (by decide +kernel))
set_option maxRecDepth 20000 in
theorem gL_addRole_X5_addRole : GoodIn wsL_addRole (wsV RL 43 RX5 yX5_addRole wsX5_addRole) := goodIn_app (goodIn_of _ (by decide +kernel)) ggL_addRole_X5_addRole
theorem dL_addRole_0 : decode cL_addRole 0 = .ok (.aload_n 2, 1) := by decide +kernel
theorem dL_addRole_1 : decode cL_addRole 1 = .ok (.iconst 0, 1) := by decide +kernel
theorem dL_addRole_2 : decode cL_addRole 2 = .ok (.aload_n 0, 1) := by decide +kernel
theorem dL_addRole_3 : decode cL_addRole 3 = .ok (.iload_n 1, 1) := by decide +kernel
theorem dL_addRole_4 : decode cL_addRole 4 = .ok (.invokevirtual 43, 3) := by decide +kernel
theorem dL_addRole_7 : decode cL_addRole 7 = .ok (.i2l, 1) := by decide +kernel
theorem dL_addRole_8 : decode cL_addRole 8 = .ok (.lastore, 1) := by decide +kernel
theorem dL_addRole_9 : decode cL_addRole 9 = .ok (.goto 9, 3) := by decide +kernel
theorem dL_addRole_12 : decode cL_addRole 12 = .ok (.astore_n 3, 1) := by decide +kernel
theorem dL_addRole_13 : decode cL_addRole 13 = .ok (.iconst 1, 1) := by decide +kernel
theorem dL_addRole_14 : decode cL_addRole 14 = .ok (.ireturn, 1) := by decide +kernel
theorem dL_addRole_15 : decode cL_addRole 15 = .ok (.astore_n 3, 1) := by decide +kernel
theorem dL_addRole_16 : decode cL_addRole 16 = .ok (.iconst 2, 1) := by decide +kernel
theorem dL_addRole_17 : decode cL_addRole 17 = .ok (.ireturn, 1) := by decide +kernel
theorem dL_addRole_18 : decode cL_addRole 18 = .ok (.iconst 0, 1) := by decide +kernel
theorem dL_addRole_19 : decode cL_addRole 19 = .ok (.ireturn, 1) := by decide +kernel
set_option maxRecDepth 20000 in
theorem ggL_addPlayer_X5_addPlayer : GoodIn wsL_addPlayer wsX5_addPlayer := goodIn_ca (goodIn_r _ [6, 7, 8, 9, 10, 11, 12, 13, 14, 15, 16, 17, 18, 19, 20, 21, 22, 23, 24, 25, 26, 27, 28, 29, 30, 31, 32, 33, 34, 35, 36, 37, 38, 39, 40, 41, 42, 43, 44, 45, 46, 47, 48, 49, 50, 51, 52, 53, 54, 55, 56, 57, 58, 59, 60, 61, 62, 63, 64, 65, 66, 67, 68, 69, 70, 71, 72, 73, 74, 75, 76, 77, 78, 79, 80, 81, 82, 83] (by decide +kernel) (by decide +kernel)) (goodIn_sub (fun _ h => List.mem_cons_of_mem _ (List.mem_append_right _ h)) (by decide +kernel))
