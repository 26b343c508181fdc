set_option maxRecDepth 20000 in
theorem gL_cast_X5_player : GoodIn wsL_cast (wsV RL 40 RX5 yX5_player wsX5_player) := goodIn_app (goodIn_of _ (by decide +kernel)) ggL_cast_X5_player
set_option maxRecDepth 20000 in
theorem ggL_cast_X5_both : GoodIn wsL_cast wsX5_both := goodIn_ca (goodIn_ca (goodIn_r _ [188, 6, 7, 8, 154, 155, 156, 4, 157, 123, 124, 158, 159, 160, 12, 161, 19, 119, 120, 121, 122, 125, 126, 127, 128, 14, 189, 190, 191, 192, 85, 88, 89, 90, 193, 194, 195, 196, 197, 198, 82, 83, 84, 86, 87, 208, 209, 210, 211, 212, 213, 214, 215, 216, 217, 218, 219, 220, 221, 222, 223, 224, 225, 226, 227, 228, 229, 230, 231] (by decide +kernel) (by decide +kernel)) (goodIn_sub (fun _ h => List.mem_cons_of_mem _ (List.mem_append_left _ (List.mem_append_right _ h))) (by decide +kernel))) (goodIn_sub (fun _ h => List.mem_cons_of_mem _ (List.mem_append_right _ h)) (by decide +kernel))
set_option maxRecDepth 20000 in
theorem gL_cast_X5_both : GoodIn wsL_cast (wsV RL 43 RX5 yX5_both wsX5_both) := goodIn_app (goodIn_of _ (by decide +kernel)) ggL_cast_X5_both
set_option maxRecDepth 20000 in
theorem ggL_cast_X5_without : GoodIn wsL_cast wsX5_without := goodIn_ca (goodIn_r _ [202, 54, 8, 154, 155, 156, 4, 157, 123, 124, 158, 159, 160, 12, 161, 19, 203, 204, 205, 206, 207, 56, 57, 58, 59, 60, 61, 62, 63, 24, 64, 65, 66, 67, 68, 69, 70, 71, 72, 73, 74, 75, 76, 10, 11, 13, 14, 77, 16, 17, 18, 78, 79, 80, 81, 82, 83, 84, 85, 86, 87, 88, 89, 90, 91, 92, 93, 94, 95, 96, 97, 98, 99, 100, 101, 102, 103, 104, 105, 106, 107, 108, 109, 110, 111, 112, 113, 114, 208, 209, 210, 211, 212, 213, 214, 215, 216, 217, 218, 219, 220, 221, 222, 223, 224, 225, 226, 227, 228, 229, 230, 231, 232, 233, 234, 235, 236, 237] (by decide +kernel) (by decide +kernel)) (goodIn_sub (fun _ h => List.mem_cons_of_mem _ (List.mem_append_right _ h)) (by decide +kernel))
set_option maxRecDepth 20000 in
theorem gL_cast_X5_without : GoodIn wsL_cast (wsV RL 47 RX5 yX5_without wsX5_without) := goodIn_app (goodIn_of _ (by decide +kernel)) ggL_cast_X5_without
theorem dL_cast_0 : decode cL_cast 0 = .ok (.aload_n 0, 1) := by decide +kernel
theorem dL_cast_1 : decode cL_cast 1 = .ok (.iconst 0, 1) := by decide +kernel
theorem dL_cast_2 : decode cL_cast 2 = .ok (.invokevirtual 30, 3) := by decide +kernel
theorem dL_cast_5 : decode cL_cast 5 = .ok (.istore_n 1, 1) := by decide +kernel
theorem dL_cast_6 : decode cL_cast 6 = .ok (.aload_n 0, 1) := by decide +kernel
theorem dL_cast_7 : decode cL_cast 7 = .ok (.invokevirtual 33, 3) := by decide +kernel
theorem dL_cast_10 : decode cL_cast 10 = .ok (.istore_n 2, 1) := by decide +kernel
theorem dL_cast_11 : decode cL_cast 11 = .ok (.iconst 0, 1) := by decide +kernel
theorem dL_cast_12 : decode cL_cast 12 = .ok (.istore_n 3, 1) := by decide +kernel
theorem dL_cast_13 : decode cL_cast 13 = .ok (.iconst 0, 1) := by decide +kernel
theorem dL_cast_14 : decode cL_cast 14 = .ok (.istore 4, 2) := by decide +kernel
theorem dL_cast_16 : decode cL_cast 16 = .ok (.iload_n 1, 1) := by decide +kernel
theorem dL_cast_17 : decode cL_cast 17 = .ok (.ifCond .gt 7, 3) := by decide +kernel
theorem dL_cast_20 : decode cL_cast 20 = .ok (.iload_n 2, 1) := by decide +kernel
theorem dL_cast_21 : decode cL_cast 21 = .ok (.ifCond .ne 7, 3) := by decide +kernel
theorem dL_cast_24 : decode cL_cast 24 = .ok (.iconst 1, 1) := by decide +kernel
theorem dL_cast_25 : decode cL_cast 25 = .ok (.goto 4, 3) := by decide +kernel
theorem dL_cast_28 : decode cL_cast 28 = .ok (.iconst 0, 1) := by decide +kernel
theorem dL_cast_29 : decode cL_cast 29 = .ok (.istore 5, 2) := by decide +kernel
theorem dL_cast_31 : decode cL_cast 31 = .ok (.iconst 0, 1) := by decide +kernel
theorem dL_cast_32 : decode cL_cast 32 = .ok (.istore 6, 2) := by decide +kernel
theorem dL_cast_34 : decode cL_cast 34 = .ok (.iload 6, 2) := by decide +kernel
theorem dL_cast_36 : decode cL_cast 36 = .ok (.iload_n 1, 1) := by decide +kernel
