set_option maxRecDepth 20000 in
theorem gL_first_X5_first : GoodIn wsL_first (wsV RL 52 RX5 yX5_first wsX5_first) := goodIn_app (goodIn_of _ (by decide +kernel)) ggL_first_X5_first
theorem dL_first_0 : decode cL_first 0 = .ok (.aload_n 3, 1) := by decide +kernel
theorem dL_first_1 : decode cL_first 1 = .ok (.iconst 0, 1) := by decide +kernel
theorem dL_first_2 : decode cL_first 2 = .ok (.aload_n 0, 1) := by decide +kernel
theorem dL_first_3 : decode cL_first 3 = .ok (.iload_n 1, 1) := by decide +kernel
theorem dL_first_4 : decode cL_first 4 = .ok (.iload_n 2, 1) := by decide +kernel
theorem dL_first_5 : decode cL_first 5 = .ok (.invokevirtual 52, 3) := by decide +kernel
theorem dL_first_8 : decode cL_first 8 = .ok (.i2l, 1) := by decide +kernel
theorem dL_first_9 : decode cL_first 9 = .ok (.lastore, 1) := by decide +kernel
theorem dL_first_10 : decode cL_first 10 = .ok (.goto 7, 3) := by decide +kernel
theorem dL_first_13 : decode cL_first 13 = .ok (.astore 4, 2) := by decide +kernel
theorem dL_first_15 : decode cL_first 15 = .ok (.iconst 1, 1) := by decide +kernel
theorem dL_first_16 : decode cL_first 16 = .ok (.ireturn, 1) := by decide +kernel
theorem dL_first_17 : decode cL_first 17 = .ok (.iconst 0, 1) := by decide +kernel
theorem dL_first_18 : decode cL_first 18 = .ok (.ireturn, 1) := by decide +kernel
set_option maxRecDepth 20000 in
theorem ggL_away_X5_away : GoodIn wsL_away wsX5_away := goodIn_ca (goodIn_ca (goodIn_r _ [7, 8, 9, 10, 11, 12, 6, 13, 14, 15, 16, 17, 18, 19, 20, 21, 22, 23, 24, 25, 26, 27, 28, 29, 30, 31, 32, 33, 34, 35, 36, 37, 38, 39, 40, 41, 42, 43, 44, 45, 46, 47, 48, 49, 50, 51, 52, 53, 54, 55, 56, 57, 58, 59, 60, 61, 62, 63, 64, 65, 66, 67, 68, 69, 70, 71, 72, 73, 74, 75, 76, 77, 78, 79, 80, 81, 82, 83, 84, 85, 86, 87, 88, 89, 90, 91, 92, 93] (by decide +kernel) (by decide +kernel)) (goodIn_sub (fun _ h => List.mem_cons_of_mem _ (List.mem_append_left _ (List.mem_append_right _ h))) (by decide +kernel))) (goodIn_sub (fun _ h => List.mem_cons_of_mem _ (List.mem_append_right _ h)) (by decide +kernel))
set_option maxRecDepth 20000 in
theorem gL_away_X5_away : GoodIn wsL_away (wsV RL 55 RX5 yX5_away wsX5_away) := goodIn_app (goodIn_of _ (by decide +kernel)) ggL_away_X5_away
theorem dL_away_0 : decode cL_away 0 = .ok (.aload_n 3, 1) := by decide +kernel
theorem dL_away_1 : decode cL_away 1 = .ok (.iconst 0, 1) := by decide +kernel
theorem dL_away_2 : decode cL_away 2 = .ok (.aload_n 0, 1) := by decide +kernel
theorem dL_away_3 : decode cL_away 3 = .ok (.iload_n 1, 1) := by decide +kernel
theorem dL_away_4 : decode cL_away 4 = .ok (.iload_n 2, 1) := by decide +kernel
theorem dL_away_5 : decode cL_away 5 = .ok (.invokevirtual 55, 3) := by decide +kernel
theorem dL_away_8 : decode cL_away 8 = .ok (.i2l, 1) := by decide +kernel
theorem dL_away_9 : decode cL_away 9 = .ok (.lastore, 1) := by decide +kernel
theorem dL_away_10 : decode cL_away 10 = .ok (.goto 11, 3) := by decide +kernel
theorem dL_away_13 : decode cL_away 13 = .ok (.astore 4, 2) := by decide +kernel
theorem dL_away_15 : decode cL_away 15 = .ok (.iconst 1, 1) := by decide +kernel
theorem dL_away_16 : decode cL_away 16 = .ok (.ireturn, 1) := by decide +kernel
theorem dL_away_17 : decode cL_away 17 = .ok (.astore 4, 2) := by decide +kernel
theorem dL_away_19 : decode cL_away 19 = .ok (.iconst 2, 1) := by decide +kernel
theorem dL_away_20 : decode cL_away 20 = .ok (.ireturn, 1) := by decide +kernel
theorem dL_away_21 : decode cL_away 21 = .ok (.iconst 0, 1) := by decide +kernel
theorem dL_away_22 : decode cL_away 22 = .ok (.ireturn, 1) := by decide +kernel
set_option maxRecDepth 20000 in
theorem ggL_post_X5_post : GoodIn wsL_post wsX5_post := goodIn_ca (goodIn_r _ [6, 7, 8, 9, 10, 11, 12, 13, 14, 15, 16, 17, 18, 19, 20, 21, 22, 23, 24, 25, 26, 27, 28, 29, 30, 31, 32, 33, 34, 35, 36, 37, 38, 39, 40, 41, 42, 43, 44, 45, 46, 47, 48, 49, 50, 51, 52, 53, 54, 55, 56, 57, 58, 59, 60, 61, 62, 63, 64, 65, 66, 67, 68, 69, 70, 71, 72, 73, 74, 75, 76, 77, 78, 79, 80, 81, 82, 83, 84, 85, 86, 87, 88, 89, 90, 91, 92, 93, 94, 95, 96, 97, 98, 99, 100, 101, 102, 103, 104, 105, 106, 107, 108, 109, 110, 111, 112, 113, 114, 115, 116, 117, 118, 119, 120, 121, 122, 123, 124, 125, 126, 127, 128, 129, 130, 131, 132, 133, 134, 135, 136, 137, 138, 139, 140, 141, 142, 143, 144, 145, 146, 147, 148] (by decide +kernel) (by decide +kernel)) (goodIn_sub (fun _ h => List.mem_cons_of_mem _ (List.mem_append_right _ h)) (by decide +kernel))
