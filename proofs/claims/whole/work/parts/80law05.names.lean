set_option maxRecDepth 20000 in
theorem gL_addPlayer_X5_addPlayer : GoodIn wsL_addPlayer (wsV RL 46 RX5 yX5_addPlayer wsX5_addPlayer) := goodIn_app (goodIn_of _ (by decide +kernel)) ggL_addPlayer_X5_addPlayer
theorem dL_addPlayer_0 : decode cL_addPlayer 0 = .ok (.aload_n 1, 1) := by decide +kernel
theorem dL_addPlayer_1 : decode cL_addPlayer 1 = .ok (.iconst 0, 1) := by decide +kernel
theorem dL_addPlayer_2 : decode cL_addPlayer 2 = .ok (.aload_n 0, 1) := by decide +kernel
theorem dL_addPlayer_3 : decode cL_addPlayer 3 = .ok (.invokevirtual 46, 3) := by decide +kernel
theorem dL_addPlayer_6 : decode cL_addPlayer 6 = .ok (.i2l, 1) := by decide +kernel
theorem dL_addPlayer_7 : decode cL_addPlayer 7 = .ok (.lastore, 1) := by decide +kernel
theorem dL_addPlayer_8 : decode cL_addPlayer 8 = .ok (.goto 6, 3) := by decide +kernel
theorem dL_addPlayer_11 : decode cL_addPlayer 11 = .ok (.astore_n 2, 1) := by decide +kernel
theorem dL_addPlayer_12 : decode cL_addPlayer 12 = .ok (.iconst 1, 1) := by decide +kernel
theorem dL_addPlayer_13 : decode cL_addPlayer 13 = .ok (.ireturn, 1) := by decide +kernel
theorem dL_addPlayer_14 : decode cL_addPlayer 14 = .ok (.iconst 0, 1) := by decide +kernel
theorem dL_addPlayer_15 : decode cL_addPlayer 15 = .ok (.ireturn, 1) := by decide +kernel
set_option maxRecDepth 20000 in
theorem ggL_ready_X5_ready : GoodIn wsL_ready wsX5_ready := goodIn_ca (goodIn_ca (goodIn_r _ [7, 8, 9, 10, 11, 12, 6, 13, 14, 15, 16, 17, 18, 19, 20, 21, 22, 23, 24, 25, 26, 27, 28, 29, 30, 31, 32, 33, 34, 35, 36, 37, 38, 39, 40, 41, 42, 43, 44, 45, 46, 47, 48, 49, 50, 51, 52, 53, 54, 55, 56, 57, 58, 59, 60, 61, 62, 63, 64, 65, 66, 67, 68, 69, 70, 71, 72, 73, 74, 75, 76, 77, 78, 79, 80, 81, 82, 83, 84, 85, 86, 87, 88, 89, 90, 91, 92, 93, 94, 95, 96, 97, 98, 99, 100, 101, 102, 103, 104, 105] (by decide +kernel) (by decide +kernel)) (goodIn_sub (fun _ h => List.mem_cons_of_mem _ (List.mem_append_left _ (List.mem_append_right _ h))) (by decide +kernel))) (goodIn_sub (fun _ h => List.mem_cons_of_mem _ (List.mem_append_right _ h)) (by decide +kernel))
set_option maxRecDepth 20000 in
theorem gL_ready_X5_ready : GoodIn wsL_ready (wsV RL 49 RX5 yX5_ready wsX5_ready) := goodIn_app (goodIn_of _ (by decide +kernel)) ggL_ready_X5_ready
theorem dL_ready_0 : decode cL_ready 0 = .ok (.aload 4, 2) := by decide +kernel
theorem dL_ready_2 : decode cL_ready 2 = .ok (.iconst 0, 1) := by decide +kernel
theorem dL_ready_3 : decode cL_ready 3 = .ok (.aload_n 0, 1) := by decide +kernel
theorem dL_ready_4 : decode cL_ready 4 = .ok (.iload_n 1, 1) := by decide +kernel
theorem dL_ready_5 : decode cL_ready 5 = .ok (.iload_n 2, 1) := by decide +kernel
theorem dL_ready_6 : decode cL_ready 6 = .ok (.iload_n 3, 1) := by decide +kernel
theorem dL_ready_7 : decode cL_ready 7 = .ok (.invokevirtual 49, 3) := by decide +kernel
theorem dL_ready_10 : decode cL_ready 10 = .ok (.i2l, 1) := by decide +kernel
theorem dL_ready_11 : decode cL_ready 11 = .ok (.lastore, 1) := by decide +kernel
theorem dL_ready_12 : decode cL_ready 12 = .ok (.goto 11, 3) := by decide +kernel
theorem dL_ready_15 : decode cL_ready 15 = .ok (.astore 5, 2) := by decide +kernel
theorem dL_ready_17 : decode cL_ready 17 = .ok (.iconst 1, 1) := by decide +kernel
theorem dL_ready_18 : decode cL_ready 18 = .ok (.ireturn, 1) := by decide +kernel
theorem dL_ready_19 : decode cL_ready 19 = .ok (.astore 5, 2) := by decide +kernel
theorem dL_ready_21 : decode cL_ready 21 = .ok (.iconst 2, 1) := by decide +kernel
theorem dL_ready_22 : decode cL_ready 22 = .ok (.ireturn, 1) := by decide +kernel
theorem dL_ready_23 : decode cL_ready 23 = .ok (.iconst 0, 1) := by decide +kernel
theorem dL_ready_24 : decode cL_ready 24 = .ok (.ireturn, 1) := by decide +kernel
set_option maxRecDepth 20000 in
theorem ggL_first_X5_first : GoodIn wsL_first wsX5_first := goodIn_ca (goodIn_r _ [6, 7, 8, 9, 10, 11, 5, 12, 13, 14, 15, 16, 17, 18, 19, 20, 21, 22, 23, 24, 25, 26, 27, 28, 29, 30, 31, 32, 33, 34, 35, 36, 37, 38, 39, 40, 41, 42, 43, 44, 45, 46, 47, 48, 49, 50, 51, 52, 53, 54, 55, 56, 57, 58, 59, 60, 61, 62, 63, 64, 65, 66, 67, 68, 69, 70, 71, 72, 73, 74, 75, 76, 77, 78, 79, 80, 81, 82, 83, 84, 85, 86, 87, 88, 89, 90, 91, 92, 93, 94, 95, 96] (by decide +kernel) (by decide +kernel)) (goodIn_sub (fun _ h => List.mem_cons_of_mem _ (List.mem_append_right _ h)) (by decide +kernel))
