set_option maxRecDepth 20000 in
theorem gL_without_X5_without : GoodIn wsL_without (wsV RL 76 RX5 yX5_without wsX5_without) := goodIn_app (goodIn_of _ (by decide +kernel)) ggL_without_X5_without
theorem dL_without_0 : decode cL_without 0 = .ok (.aload_n 2, 1) := by decide +kernel
theorem dL_without_1 : decode cL_without 1 = .ok (.iconst 0, 1) := by decide +kernel
theorem dL_without_2 : decode cL_without 2 = .ok (.aload_n 0, 1) := by decide +kernel
theorem dL_without_3 : decode cL_without 3 = .ok (.iload_n 1, 1) := by decide +kernel
theorem dL_without_4 : decode cL_without 4 = .ok (.invokevirtual 76, 3) := by decide +kernel
theorem dL_without_7 : decode cL_without 7 = .ok (.i2l, 1) := by decide +kernel
theorem dL_without_8 : decode cL_without 8 = .ok (.lastore, 1) := by decide +kernel
theorem dL_without_9 : decode cL_without 9 = .ok (.goto 6, 3) := by decide +kernel
theorem dL_without_12 : decode cL_without 12 = .ok (.astore_n 3, 1) := by decide +kernel
theorem dL_without_13 : decode cL_without 13 = .ok (.iconst 1, 1) := by decide +kernel
theorem dL_without_14 : decode cL_without 14 = .ok (.ireturn, 1) := by decide +kernel
theorem dL_without_15 : decode cL_without 15 = .ok (.iconst 0, 1) := by decide +kernel
theorem dL_without_16 : decode cL_without 16 = .ok (.ireturn, 1) := by decide +kernel
set_option maxRecDepth 20000 in
theorem ggL_coming_X5_coming : GoodIn wsL_coming wsX5_coming := goodIn_ca (goodIn_ca (goodIn_r _ [7, 8, 9, 10, 11, 12, 6, 13, 14, 15, 16, 17, 18, 19, 20, 21, 22, 23, 24, 25, 26, 27, 28, 29, 30, 31, 32, 33, 34, 35, 36, 37, 38, 39, 40, 41, 42, 43, 44, 45, 46, 47, 48, 49, 50, 51, 52, 53, 54, 55, 56, 57, 58, 59, 60, 61, 62, 63, 64, 65, 66, 67, 68, 69, 70, 71, 72, 73, 74, 75, 76, 77, 78, 79, 80, 81, 82, 83, 84, 85, 86, 87, 88, 89, 90, 91, 92, 93, 94, 95, 96, 97, 98, 99, 100, 101, 102, 103, 104, 105, 106, 107, 108, 109, 110, 111, 112, 113, 114, 115, 116, 117, 118, 119, 120, 121, 122, 123, 124, 125, 126, 127, 128, 129, 130, 131, 132, 133, 134, 135, 136, 137, 138, 139, 140, 141, 142, 143, 144, 145, 146, 147, 148, 149, 150, 151, 152, 153, 154, 155, 156, 157, 158, 159, 160, 161, 162, 163, 164, 165, 166, 167, 168, 169, 170, 171, 172] (by decide +kernel) (by decide +kernel)) (goodIn_sub (fun _ h => List.mem_cons_of_mem _ (List.mem_append_left _ (List.mem_append_right _ h))) (by decide +kernel))) (goodIn_sub (fun _ h => List.mem_cons_of_mem _ (List.mem_append_right _ h)) (by decide +kernel))
set_option maxRecDepth 20000 in
theorem gL_coming_X5_coming : GoodIn wsL_coming (wsV RL 79 RX5 yX5_coming wsX5_coming) := goodIn_app (goodIn_of _ (by decide +kernel)) ggL_coming_X5_coming
theorem dL_coming_0 : decode cL_coming 0 = .ok (.aload_n 2, 1) := by decide +kernel
theorem dL_coming_1 : decode cL_coming 1 = .ok (.iconst 0, 1) := by decide +kernel
theorem dL_coming_2 : decode cL_coming 2 = .ok (.aload_n 0, 1) := by decide +kernel
theorem dL_coming_3 : decode cL_coming 3 = .ok (.iload_n 1, 1) := by decide +kernel
theorem dL_coming_4 : decode cL_coming 4 = .ok (.invokevirtual 79, 3) := by decide +kernel
theorem dL_coming_7 : decode cL_coming 7 = .ok (.i2l, 1) := by decide +kernel
theorem dL_coming_8 : decode cL_coming 8 = .ok (.lastore, 1) := by decide +kernel
theorem dL_coming_9 : decode cL_coming 9 = .ok (.goto 9, 3) := by decide +kernel
theorem dL_coming_12 : decode cL_coming 12 = .ok (.astore_n 3, 1) := by decide +kernel
theorem dL_coming_13 : decode cL_coming 13 = .ok (.iconst 1, 1) := by decide +kernel
theorem dL_coming_14 : decode cL_coming 14 = .ok (.ireturn, 1) := by decide +kernel
theorem dL_coming_15 : decode cL_coming 15 = .ok (.astore_n 3, 1) := by decide +kernel
theorem dL_coming_16 : decode cL_coming 16 = .ok (.iconst 2, 1) := by decide +kernel
theorem dL_coming_17 : decode cL_coming 17 = .ok (.ireturn, 1) := by decide +kernel
theorem dL_coming_18 : decode cL_coming 18 = .ok (.iconst 0, 1) := by decide +kernel
theorem dL_coming_19 : decode cL_coming 19 = .ok (.ireturn, 1) := by decide +kernel
set_option maxRecDepth 20000 in
theorem ggL_degreeFor_X5_degreeFor : GoodIn wsL_degreeFor wsX5_degreeFor := goodIn_ca (goodIn_r _ [6, 7, 8, 9, 10, 11, 12, 5, 13, 14, 15, 16, 17, 18, 19, 20, 21, 22, 23, 24, 25, 26, 27, 28, 29, 30, 31, 32, 33, 34, 35, 36, 37, 38, 39, 40, 41, 42, 43, 44, 45, 46, 47, 48, 49, 50, 51, 52, 53, 54, 55, 56, 57, 58, 59, 60, 61, 62, 63, 64, 65, 66, 67, 68, 69, 70, 71, 72, 73, 74, 75, 76, 77, 78, 79, 80, 81, 82, 83, 84, 85, 86, 87, 88, 89, 90, 91, 92, 93, 94, 95, 96, 97, 98, 99, 100, 101, 102, 103, 104, 105, 106, 107, 108, 109, 110, 111, 112, 113, 114, 115, 116, 117, 118, 119, 120, 121, 122, 123, 124, 125, 126, 127, 128, 129, 130, 131, 132, 133, 134, 135, 136, 137, 138, 139, 140, 141, 142, 143, 144, 145, 146, 147, 148, 149, 150, 151, 152, 153, 154, 155, 156, 157, 158, 159, 160, 161, 162, 163, 164, 165, 166, 167, 168] (by decide +kernel) (by decide +kernel)) (goodIn_sub (fun _ h => List.mem_cons_of_mem _ (List.mem_append_right _ h)) (by decide +kernel))
