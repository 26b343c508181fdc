theorem dL_append_2 : decode cL_append 2 = .ok (.aload_n 0, 1) := by decide +kernel
theorem dL_append_3 : decode cL_append 3 = .ok (.iload_n 1, 1) := by decide +kernel
theorem dL_append_4 : decode cL_append 4 = .ok (.invokevirtual 7, 3) := by decide +kernel
theorem dL_append_7 : decode cL_append 7 = .ok (.i2l, 1) := by decide +kernel
theorem dL_append_8 : decode cL_append 8 = .ok (.lastore, 1) := by decide +kernel
theorem dL_append_9 : decode cL_append 9 = .ok (.goto 9, 3) := by decide +kernel
theorem dL_append_12 : decode cL_append 12 = .ok (.astore_n 3, 1) := by decide +kernel
theorem dL_append_13 : decode cL_append 13 = .ok (.iconst 1, 1) := by decide +kernel
theorem dL_append_14 : decode cL_append 14 = .ok (.ireturn, 1) := by decide +kernel
theorem dL_append_15 : decode cL_append 15 = .ok (.astore_n 3, 1) := by decide +kernel
theorem dL_append_16 : decode cL_append 16 = .ok (.iconst 2, 1) := by decide +kernel
theorem dL_append_17 : decode cL_append 17 = .ok (.ireturn, 1) := by decide +kernel
theorem dL_append_18 : decode cL_append 18 = .ok (.iconst 0, 1) := by decide +kernel
theorem dL_append_19 : decode cL_append 19 = .ok (.ireturn, 1) := by decide +kernel
set_option maxRecDepth 20000 in
theorem ggL_load_X5_load : GoodIn wsL_load wsX5_load := goodIn_ca (goodIn_r _ [6, 7, 8, 9, 10, 11, 12, 13, 14, 15, 16, 17, 18, 19, 20, 21, 22, 23, 24, 25, 26, 27, 28, 29, 30, 31, 32, 33, 34, 35, 36, 37, 38, 39, 40, 41, 42, 43, 44, 45, 46, 47, 48, 49, 50, 51, 52, 53, 54, 55, 56, 57, 58, 59, 60, 61, 62, 63, 64, 65, 66, 67, 68, 69, 70, 71, 72, 73, 74, 75, 76, 77, 78, 79, 80, 81, 82, 83, 84, 85, 86, 87, 88, 89, 90, 91, 92, 93, 94, 95, 96, 97, 98, 99, 100, 101, 102, 103, 104, 105, 106, 107, 108, 109, 110, 111, 112, 113, 114, 115, 116, 117, 118, 119, 120, 121, 122, 123, 124, 125, 126, 127, 128, 129, 130, 131, 132, 133, 134, 135, 136, 137, 138, 139, 140, 141, 142, 143, 144, 145, 146, 147, 148, 149, 150, 151, 152, 153, 154, 155, 156, 157, 158, 159, 160, 161, 162, 163, 164, 165, 166, 167, 168, 169, 170, 171, 172, 173, 174, 175, 176, 177, 178, 179, 180, 181, 182, 183, 184, 185, 186, 187, 188, 189, 190, 191, 192, 193, 194, 195, 196, 197, 198, 199, 200, 201, 202, 203, 204, 205, 206, 207, 208, 209, 210, 211, 212, 213, 214, 215, 216, 217, 218, 219, 220, 221, 222, 223, 224, 225, 226, 227, 228, 229, 230, 231, 232, 233, 234, 235] (by decide +kernel) (by decide +kernel)) (goodIn_sub (fun _ h => List.mem_cons_of_mem _ (List.mem_append_right _ h)) (by decide +kernel))
set_option maxRecDepth 20000 in
theorem gL_load_X5_load : GoodIn wsL_load (wsV RL 17 RX5 yX5_load wsX5_load) := goodIn_app (goodIn_of _ (by decide +kernel)) ggL_load_X5_load
theorem dL_load_0 : decode cL_load 0 = .ok (.aload_n 1, 1) := by decide +kernel
theorem dL_load_1 : decode cL_load 1 = .ok (.iconst 0, 1) := by decide +kernel
theorem dL_load_2 : decode cL_load 2 = .ok (.aload_n 0, 1) := by decide +kernel
theorem dL_load_3 : decode cL_load 3 = .ok (.invokevirtual 17, 3) := by decide +kernel
theorem dL_load_6 : decode cL_load 6 = .ok (.i2l, 1) := by decide +kernel
theorem dL_load_7 : decode cL_load 7 = .ok (.lastore, 1) := by decide +kernel
theorem dL_load_8 : decode cL_load 8 = .ok (.goto 6, 3) := by decide +kernel
theorem dL_load_11 : decode cL_load 11 = .ok (.astore_n 2, 1) := by decide +kernel
theorem dL_load_12 : decode cL_load 12 = .ok (.iconst 1, 1) := by decide +kernel
theorem dL_load_13 : decode cL_load 13 = .ok (.ireturn, 1) := by decide +kernel
theorem dL_load_14 : decode cL_load 14 = .ok (.iconst 0, 1) := by decide +kernel
theorem dL_load_15 : decode cL_load 15 = .ok (.ireturn, 1) := by decide +kernel
set_option maxRecDepth 20000 in
theorem ggL_about_X5_about : GoodIn wsL_about wsX5_about := goodIn_ca (goodIn_r _ [6, 7, 8, 9, 10, 11, 12, 13, 14, 15, 16, 17, 18, 19, 20, 21, 22, 23, 24, 25, 26, 27, 28, 29, 30, 31, 32, 33, 34, 35, 36, 37, 38, 39, 40, 41, 42, 43, 44, 45, 46, 47, 48, 49, 50, 51, 52, 53, 54, 55, 56, 57, 58, 59, 60, 61, 62, 63, 64, 65, 66, 67, 68, 69, 70, 71, 72, 73, 74] (by decide +kernel) (by decide +kernel)) (goodIn_sub (fun _ h => List.mem_cons_of_mem _ (List.mem_append_right _ h)) (by decide +kernel))
set_option maxRecDepth 20000 in
theorem gL_about_X5_about : GoodIn wsL_about (wsV RL 21 RX5 yX5_about wsX5_about) := goodIn_app (goodIn_of _ (by decide +kernel)) ggL_about_X5_about
theorem dL_about_0 : decode cL_about 0 = .ok (.aload_n 2, 1) := by decide +kernel
theorem dL_about_1 : decode cL_about 1 = .ok (.iconst 0, 1) := by decide +kernel
theorem dL_about_2 : decode cL_about 2 = .ok (.aload_n 0, 1) := by decide +kernel
theorem dL_about_3 : decode cL_about 3 = .ok (.iload_n 1, 1) := by decide +kernel
theorem dL_about_4 : decode cL_about 4 = .ok (.invokevirtual 21, 3) := by decide +kernel
theorem dL_about_7 : decode cL_about 7 = .ok (.i2l, 1) := by decide +kernel
theorem dL_about_8 : decode cL_about 8 = .ok (.lastore, 1) := by decide +kernel
theorem dL_about_9 : decode cL_about 9 = .ok (.goto 6, 3) := by decide +kernel
theorem dL_about_12 : decode cL_about 12 = .ok (.astore_n 3, 1) := by decide +kernel
theorem dL_about_13 : decode cL_about 13 = .ok (.iconst 1, 1) := by decide +kernel
theorem dL_about_14 : decode cL_about 14 = .ok (.ireturn, 1) := by decide +kernel
theorem dL_about_15 : decode cL_about 15 = .ok (.iconst 0, 1) := by decide +kernel
theorem dL_about_16 : decode cL_about 16 = .ok (.ireturn, 1) := by decide +kernel
set_option maxRecDepth 20000 in
theorem ggL_role_X5_role : GoodIn wsL_role wsX5_role := goodIn_ca (goodIn_ca (goodIn_r _ [7, 8, 9, 10, 11, 12, 13, 14, 6, 15, 16, 17, 18, 19, 20, 21, 22, 23, 24, 25, 26, 27, 28, 29, 30, 31, 32, 33, 34, 35, 36, 37, 38, 39, 40, 41, 42, 43, 44, 45, 46, 47, 48, 49, 50, 51, 52, 53, 54, 55, 56, 57, 58, 59, 60, 61, 62, 63, 64, 65, 66, 67, 68, 69, 70, 71, 72, 73, 74, 75, 76, 77, 78, 79, 80, 81, 82, 83, 84, 85, 86, 87, 88, 89, 90, 91, 92, 93, 94, 95, 96, 97, 98, 99, 100, 101, 102, 103, 104, 105, 106, 107, 108, 109, 110, 111, 112, 113, 114, 115, 116, 117, 118, 119, 120, 121, 122, 123, 124, 125, 126, 127, 128, 129, 130, 131, 132, 133, 134, 135, 136, 137, 138, 139, 140, 141, 142, 143] (by decide +kernel) (by decide +kernel)) (goodIn_sub (fun _ h => List.mem_cons_of_mem _ (List.mem_append_left _ (List.mem_append_right _ h))) (by decide +kernel))) (goodIn_sub (fun _ h => List.mem_cons_of_mem _ (List.mem_append_right _ h)) (by decide +kernel))
set_option maxRecDepth 20000 in
theorem gL_role_X5_role : GoodIn wsL_role (wsV RL 24 RX5 yX5_role wsX5_role) := goodIn_app (goodIn_of _ (by decide +kernel)) ggL_role_X5_role
theorem dL_role_0 : decode cL_role 0 = .ok (.aload_n 3, 1) := by decide +kernel
theorem dL_role_1 : decode cL_role 1 = .ok (.iconst 0, 1) := by decide +kernel
theorem dL_role_2 : decode cL_role 2 = .ok (.aload_n 0, 1) := by decide +kernel
theorem dL_role_3 : decode cL_role 3 = .ok (.iload_n 1, 1) := by decide +kernel
theorem dL_role_4 : decode cL_role 4 = .ok (.iload_n 2, 1) := by decide +kernel
theorem dL_role_5 : decode cL_role 5 = .ok (.invokevirtual 24, 3) := by decide +kernel
theorem dL_role_8 : decode cL_role 8 = .ok (.i2l, 1) := by decide +kernel
theorem dL_role_9 : decode cL_role 9 = .ok (.lastore, 1) := by decide +kernel
theorem dL_role_10 : decode cL_role 10 = .ok (.goto 11, 3) := by decide +kernel
theorem dL_role_13 : decode cL_role 13 = .ok (.astore 4, 2) := by decide +kernel
theorem dL_role_15 : decode cL_role 15 = .ok (.iconst 1, 1) := by decide +kernel
theorem dL_role_16 : decode cL_role 16 = .ok (.ireturn, 1) := by decide +kernel
theorem dL_role_17 : decode cL_role 17 = .ok (.astore 4, 2) := by decide +kernel
theorem dL_role_19 : decode cL_role 19 = .ok (.iconst 2, 1) := by decide +kernel
theorem dL_role_20 : decode cL_role 20 = .ok (.ireturn, 1) := by decide +kernel
theorem dL_role_21 : decode cL_role 21 = .ok (.iconst 0, 1) := by decide +kernel
theorem dL_role_22 : decode cL_role 22 = .ok (.ireturn, 1) := by decide +kernel
set_option maxRecDepth 20000 in
theorem ggL_player_X5_player : GoodIn wsL_player wsX5_player := goodIn_ca (goodIn_ca (goodIn_r _ [7, 8, 9, 10, 11, 12, 13, 14, 6, 15, 16, 17, 18, 19, 20, 21, 22, 23, 24, 25, 26, 27, 28, 29, 30, 31, 32, 33, 34, 35, 36, 37, 38, 39, 40, 41, 42, 43, 44, 45, 46, 47, 48, 49, 50, 51, 52, 53, 54, 55, 56, 57, 58, 59, 60, 61, 62, 63, 64, 65, 66, 67, 68, 69, 70, 71, 72, 73, 74, 75, 76, 77, 78, 79, 80, 81, 82, 83, 84, 85, 86, 87, 88, 89, 90, 91, 92, 93, 94, 95, 96, 97, 98, 99, 100, 101, 102, 103, 104, 105, 106, 107, 108, 109, 110, 111, 112, 113, 114, 115, 116, 117, 118, 119, 120, 121, 122, 123, 124, 125, 126, 127, 128, 129, 130, 131, 132, 133, 134, 135, 136, 137, 138, 139, 140, 141, 142, 143, 144, 145] (by decide +kernel) (by decide +kernel)) (goodIn_sub (fun _ h => List.mem_cons_of_mem _ (List.mem_append_left _ (List.mem_append_right _ h))) (by decide +kernel))) (goodIn_sub (fun _ h => List.mem_cons_of_mem _ (List.mem_append_right _ h)) (by decide +kernel))
set_option maxRecDepth 20000 in
theorem gL_player_X5_player : GoodIn wsL_player (wsV RL 30 RX5 yX5_player wsX5_player) := goodIn_app (goodIn_of _ (by decide +kernel)) ggL_player_X5_player
theorem dL_player_0 : decode cL_player 0 = .ok (.aload_n 3, 1) := by decide +kernel
theorem dL_player_1 : decode cL_player 1 = .ok (.iconst 0, 1) := by decide +kernel
theorem dL_player_2 : decode cL_player 2 = .ok (.aload_n 0, 1) := by decide +kernel
theorem dL_player_3 : decode cL_player 3 = .ok (.iload_n 1, 1) := by decide +kernel
theorem dL_player_4 : decode cL_player 4 = .ok (.iload_n 2, 1) := by decide +kernel
theorem dL_player_5 : decode cL_player 5 = .ok (.invokevirtual 30, 3) := by decide +kernel
theorem dL_player_8 : decode cL_player 8 = .ok (.i2l, 1) := by decide +kernel
theorem dL_player_9 : decode cL_player 9 = .ok (.lastore, 1) := by decide +kernel
theorem dL_player_10 : decode cL_player 10 = .ok (.goto 11, 3) := by decide +kernel
theorem dL_player_13 : decode cL_player 13 = .ok (.astore 4, 2) := by decide +kernel
theorem dL_player_15 : decode cL_player 15 = .ok (.iconst 1, 1) := by decide +kernel
theorem dL_player_16 : decode cL_player 16 = .ok (.ireturn, 1) := by decide +kernel
theorem dL_player_17 : decode cL_player 17 = .ok (.astore 4, 2) := by decide +kernel
theorem dL_player_19 : decode cL_player 19 = .ok (.iconst 2, 1) := by decide +kernel
theorem dL_player_20 : decode cL_player 20 = .ok (.ireturn, 1) := by decide +kernel
theorem dL_player_21 : decode cL_player 21 = .ok (.iconst 0, 1) := by decide +kernel
theorem dL_player_22 : decode cL_player 22 = .ok (.ireturn, 1) := by decide +kernel
set_option maxRecDepth 20000 in
theorem ggL_both_X5_both : GoodIn wsL_both wsX5_both := goodIn_ca (goodIn_ca (goodIn_r _ [7, 8, 9, 10, 11, 12, 13, 6, 14, 15, 16, 17, 18, 19, 20, 21, 22, 23, 24, 25, 26, 27, 28, 29, 30, 31, 32, 33, 34, 35, 36, 37, 38, 39, 40, 41, 42, 43, 44, 45, 46, 47, 48, 49, 50, 51, 52, 53, 54, 55, 56, 57, 58, 59, 60, 61, 62, 63, 64, 65, 66, 67, 68, 69, 70, 71, 72, 73, 74] (by decide +kernel) (by decide +kernel)) (goodIn_sub (fun _ h => List.mem_cons_of_mem _ (List.mem_append_left _ (List.mem_append_right _ h))) (by decide +kernel))) (goodIn_sub (fun _ h => List.mem_cons_of_mem _ (List.mem_append_right _ h)) (by decide +kernel))
set_option maxRecDepth 20000 in
theorem gL_both_X5_both : GoodIn wsL_both (wsV RL 33 RX5 yX5_both wsX5_both) := goodIn_app (goodIn_of _ (by decide +kernel)) ggL_both_X5_both
theorem dL_both_0 : decode cL_both 0 = .ok (.aload 4, 2) := by decide +kernel
theorem dL_both_2 : decode cL_both 2 = .ok (.iconst 0, 1) := by decide +kernel
theorem dL_both_3 : decode cL_both 3 = .ok (.aload_n 0, 1) := by decide +kernel
theorem dL_both_4 : decode cL_both 4 = .ok (.iload_n 1, 1) := by decide +kernel
theorem dL_both_5 : decode cL_both 5 = .ok (.iload_n 2, 1) := by decide +kernel
theorem dL_both_6 : decode cL_both 6 = .ok (.iload_n 3, 1) := by decide +kernel
theorem dL_both_7 : decode cL_both 7 = .ok (.invokevirtual 33, 3) := by decide +kernel
theorem dL_both_10 : decode cL_both 10 = .ok (.i2l, 1) := by decide +kernel
theorem dL_both_11 : decode cL_both 11 = .ok (.lastore, 1) := by decide +kernel
theorem dL_both_12 : decode cL_both 12 = .ok (.goto 11, 3) := by decide +kernel
theorem dL_both_15 : decode cL_both 15 = .ok (.astore 5, 2) := by decide +kernel
theorem dL_both_17 : decode cL_both 17 = .ok (.iconst 1, 1) := by decide +kernel
theorem dL_both_18 : decode cL_both 18 = .ok (.ireturn, 1) := by decide +kernel
theorem dL_both_19 : decode cL_both 19 = .ok (.astore 5, 2) := by decide +kernel
theorem dL_both_21 : decode cL_both 21 = .ok (.iconst 2, 1) := by decide +kernel
theorem dL_both_22 : decode cL_both 22 = .ok (.ireturn, 1) := by decide +kernel
theorem dL_both_23 : decode cL_both 23 = .ok (.iconst 0, 1) := by decide +kernel
theorem dL_both_24 : decode cL_both 24 = .ok (.ireturn, 1) := by decide +kernel
set_option maxRecDepth 20000 in
theorem ggL_setting_X5_setting : GoodIn wsL_setting wsX5_setting := goodIn_ca (goodIn_r _ [6, 7, 8, 9, 5, 10, 11, 12, 13, 14, 15, 16, 17, 18, 19, 20, 21, 22, 23, 24, 25, 26, 27, 28, 29, 30, 31, 32, 33, 34, 35, 36, 37, 38, 39, 40, 41, 42] (by decide +kernel) (by decide +kernel)) (goodIn_sub (fun _ h => List.mem_cons_of_mem _ (List.mem_append_right _ h)) (by decide +kernel))
set_option maxRecDepth 20000 in
theorem gL_setting_X5_setting : GoodIn wsL_setting (wsV RL 37 RX5 yX5_setting wsX5_setting) := goodIn_app (goodIn_of _ (by decide +kernel)) ggL_setting_X5_setting
theorem dL_setting_0 : decode cL_setting 0 = .ok (.aload_n 2, 1) := by decide +kernel
theorem dL_setting_1 : decode cL_setting 1 = .ok (.iconst 0, 1) := by decide +kernel
theorem dL_setting_2 : decode cL_setting 2 = .ok (.aload_n 0, 1) := by decide +kernel
theorem dL_setting_3 : decode cL_setting 3 = .ok (.iload_n 1, 1) := by decide +kernel
theorem dL_setting_4 : decode cL_setting 4 = .ok (.invokevirtual 37, 3) := by decide +kernel
theorem dL_setting_7 : decode cL_setting 7 = .ok (.i2l, 1) := by decide +kernel
theorem dL_setting_8 : decode cL_setting 8 = .ok (.lastore, 1) := by decide +kernel
theorem dL_setting_9 : decode cL_setting 9 = .ok (.goto 6, 3) := by decide +kernel
theorem dL_setting_12 : decode cL_setting 12 = .ok (.astore_n 3, 1) := by decide +kernel
theorem dL_setting_13 : decode cL_setting 13 = .ok (.iconst 1, 1) := by decide +kernel
theorem dL_setting_14 : decode cL_setting 14 = .ok (.ireturn, 1) := by decide +kernel
theorem dL_setting_15 : decode cL_setting 15 = .ok (.iconst 0, 1) := by decide +kernel
theorem dL_setting_16 : decode cL_setting 16 = .ok (.ireturn, 1) := by decide +kernel
set_option maxRecDepth 20000 in
theorem ggL_ranked_X5_ranked : GoodIn wsL_ranked wsX5_ranked := goodIn_ca (goodIn_r _ [6, 7, 8, 9, 10, 11, 12, 13, 14, 15, 16, 17, 18, 19, 20, 21, 22, 23, 24, 25, 26, 27, 28, 29, 30, 31, 32, 33, 34, 35, 36, 37, 38, 39, 40, 41, 42, 43, 44] (by decide +kernel) (by decide +kernel)) (goodIn_sub (fun _ h => List.mem_cons_of_mem _ (List.mem_append_right _ h)) (by decide +kernel))
set_option maxRecDepth 20000 in
theorem gL_ranked_X5_ranked : GoodIn wsL_ranked (wsV RL 40 RX5 yX5_ranked wsX5_ranked) := goodIn_app (goodIn_of _ (by decide +kernel)) ggL_ranked_X5_ranked
theorem dL_ranked_0 : decode cL_ranked 0 = .ok (.aload_n 2, 1) := by decide +kernel
theorem dL_ranked_1 : decode cL_ranked 1 = .ok (.iconst 0, 1) := by decide +kernel
theorem dL_ranked_2 : decode cL_ranked 2 = .ok (.aload_n 0, 1) := by decide +kernel
theorem dL_ranked_3 : decode cL_ranked 3 = .ok (.iload_n 1, 1) := by decide +kernel
theorem dL_ranked_4 : decode cL_ranked 4 = .ok (.invokevirtual 40, 3) := by decide +kernel
theorem dL_ranked_7 : decode cL_ranked 7 = .ok (.i2l, 1) := by decide +kernel
theorem dL_ranked_8 : decode cL_ranked 8 = .ok (.lastore, 1) := by decide +kernel
theorem dL_ranked_9 : decode cL_ranked 9 = .ok (.goto 6, 3) := by decide +kernel
theorem dL_ranked_12 : decode cL_ranked 12 = .ok (.astore_n 3, 1) := by decide +kernel
theorem dL_ranked_13 : decode cL_ranked 13 = .ok (.iconst 1, 1) := by decide +kernel
theorem dL_ranked_14 : decode cL_ranked 14 = .ok (.ireturn, 1) := by decide +kernel
theorem dL_ranked_15 : decode cL_ranked 15 = .ok (.iconst 0, 1) := by decide +kernel
theorem dL_ranked_16 : decode cL_ranked 16 = .ok (.ireturn, 1) := by decide +kernel
set_option maxRecDepth 20000 in
theorem ggL_addRole_X5_addRole : GoodIn wsL_addRole wsX5_addRole := goodIn_ca (goodIn_ca (goodIn_r _ [7, 8, 9, 10, 11, 12, 13, 6, 14, 15, 16, 17, 18, 19, 20, 21, 22, 23, 24, 25, 26, 27, 28, 29, 30, 31, 32, 33, 34, 35, 36, 37, 38, 39, 40, 41, 42, 43, 44, 45, 46, 47, 48, 49, 50, 51, 52, 53, 54, 55, 56, 57, 58, 59, 60, 61, 62, 63, 64, 65, 66, 67, 68, 69, 70, 71, 72, 73, 74, 75, 76, 77, 78, 79, 80, 81, 82, 83, 84, 85, 86, 87, 88, 89] (by decide +kernel) (by decide +kernel)) (goodIn_sub (fun _ h => List.mem_cons_of_mem _ (List.mem_append_left _ (List.mem_append_right _ h))) (by decide +kernel))) (goodIn_sub (fun _ h => List.mem_cons_of_mem _ (List.mem_append_right _ h)) (by decide +kernel))
set_option maxRecDepth 20000 in
theorem gL_addRole_X5_addRole : GoodIn wsL_addRole (wsV RL 43 RX5 yX5_addRole wsX5_addRole) := goodIn_app (goodIn_of _ (by decide +kernel)) ggL_addRole_X5_addRole
theorem dL_addRole_0 : decode cL_addRole 0 = .ok (.aload_n 2, 1) := by decide +kernel
theorem dL_addRole_1 : decode cL_addRole 1 = .ok (.iconst 0, 1) := by decide +kernel
theorem dL_addRole_2 : decode cL_addRole 2 = .ok (.aload_n 0, 1) := by decide +kernel
theorem dL_addRole_3 : decode cL_addRole 3 = .ok (.iload_n 1, 1) := by decide +kernel
theorem dL_addRole_4 : decode cL_addRole 4 = .ok (.invokevirtual 43, 3) := by decide +kernel
theorem dL_addRole_7 : decode cL_addRole 7 = .ok (.i2l, 1) := by decide +kernel
theorem dL_addRole_8 : decode cL_addRole 8 = .ok (.lastore, 1) := by decide +kernel
theorem dL_addRole_9 : decode cL_addRole 9 = .ok (.goto 9, 3) := by decide +kernel
theorem dL_addRole_12 : decode cL_addRole 12 = .ok (.astore_n 3, 1) := by decide +kernel
theorem dL_addRole_13 : decode cL_addRole 13 = .ok (.iconst 1, 1) := by decide +kernel
theorem dL_addRole_14 : decode cL_addRole 14 = .ok (.ireturn, 1) := by decide +kernel
theorem dL_addRole_15 : decode cL_addRole 15 = .ok (.astore_n 3, 1) := by decide +kernel
theorem dL_addRole_16 : decode cL_addRole 16 = .ok (.iconst 2, 1) := by decide +kernel
theorem dL_addRole_17 : decode cL_addRole 17 = .ok (.ireturn, 1) := by decide +kernel
theorem dL_addRole_18 : decode cL_addRole 18 = .ok (.iconst 0, 1) := by decide +kernel
theorem dL_addRole_19 : decode cL_addRole 19 = .ok (.ireturn, 1) := by decide +kernel
set_option maxRecDepth 20000 in
theorem ggL_addPlayer_X5_addPlayer : GoodIn wsL_addPlayer wsX5_addPlayer := goodIn_ca (goodIn_r _ [6, 7, 8, 9, 10, 11, 12, 13, 14, 15, 16, 17, 18, 19, 20, 21, 22, 23, 24, 25, 26, 27, 28, 29, 30, 31, 32, 33, 34, 35, 36, 37, 38, 39, 40, 41, 42, 43, 44, 45, 46, 47, 48, 49, 50, 51, 52, 53, 54, 55, 56, 57, 58, 59, 60, 61, 62, 63, 64, 65, 66, 67, 68, 69, 70, 71, 72, 73, 74, 75, 76, 77, 78, 79, 80, 81, 82, 83] (by decide +kernel) (by decide +kernel)) (goodIn_sub (fun _ h => List.mem_cons_of_mem _ (List.mem_append_right _ h)) (by decide +kernel))
set_option maxRecDepth 20000 in
theorem gL_addPlayer_X5_addPlayer : GoodIn wsL_addPlayer (wsV RL 46 RX5 yX5_addPlayer wsX5_addPlayer) := goodIn_app (goodIn_of _ (by decide +kernel)) ggL_addPlayer_X5_addPlayer
theorem dL_addPlayer_0 : decode cL_addPlayer 0 = .ok (.aload_n 1, 1) := by decide +kernel
theorem dL_addPlayer_1 : decode cL_addPlayer 1 = .ok (.iconst 0, 1) := by decide +kernel
theorem dL_addPlayer_2 : decode cL_addPlayer 2 = .ok (.aload_n 0, 1) := by decide +kernel
theorem dL_addPlayer_3 : decode cL_addPlayer 3 = .ok (.invokevirtual 46, 3) := by decide +kernel
theorem dL_addPlayer_6 : decode cL_addPlayer 6 = .ok (.i2l, 1) := by decide +kernel
theorem dL_addPlayer_7 : decode cL_addPlayer 7 = .ok (.lastore, 1) := by decide +kernel
theorem dL_addPlayer_8 : decode cL_addPlayer 8 = .ok (.goto 6, 3) := by decide +kernel
theorem dL_addPlayer_11 : decode cL_addPlayer 11 = .ok (.astore_n 2, 1) := by decide +kernel
theorem dL_addPlayer_12 : decode cL_addPlayer 12 = .ok (.iconst 1, 1) := by decide +kernel
theorem dL_addPlayer_13 : decode cL_addPlayer 13 = .ok (.ireturn, 1) := by decide +kernel
theorem dL_addPlayer_14 : decode cL_addPlayer 14 = .ok (.iconst 0, 1) := by decide +kernel
theorem dL_addPlayer_15 : decode cL_addPlayer 15 = .ok (.ireturn, 1) := by decide +kernel
set_option maxRecDepth 20000 in
theorem ggL_ready_X5_ready : GoodIn wsL_ready wsX5_ready := goodIn_ca (goodIn_ca (goodIn_r _ [7, 8, 9, 10, 11, 12, 6, 13, 14, 15, 16, 17, 18, 19, 20, 21, 22, 23, 24, 25, 26, 27, 28, 29, 30, 31, 32, 33, 34, 35, 36, 37, 38, 39, 40, 41, 42, 43, 44, 45, 46, 47, 48, 49, 50, 51, 52, 53, 54, 55, 56, 57, 58, 59, 60, 61, 62, 63, 64, 65, 66, 67, 68, 69, 70, 71, 72, 73, 74, 75, 76, 77, 78, 79, 80, 81, 82, 83, 84, 85, 86, 87, 88, 89, 90, 91, 92, 93, 94, 95, 96, 97, 98, 99, 100, 101, 102, 103, 104, 105] (by decide +kernel) (by decide +kernel)) (goodIn_sub (fun _ h => List.mem_cons_of_mem _ (List.mem_append_left _ (List.mem_append_right _ h))) (by decide +kernel))) (goodIn_sub (fun _ h => List.mem_cons_of_mem _ (List.mem_append_right _ h)) (by decide +kernel))
set_option maxRecDepth 20000 in
theorem gL_ready_X5_ready : GoodIn wsL_ready (wsV RL 49 RX5 yX5_ready wsX5_ready) := goodIn_app (goodIn_of _ (by decide +kernel)) ggL_ready_X5_ready
theorem dL_ready_0 : decode cL_ready 0 = .ok (.aload 4, 2) := by decide +kernel
theorem dL_ready_2 : decode cL_ready 2 = .ok (.iconst 0, 1) := by decide +kernel
theorem dL_ready_3 : decode cL_ready 3 = .ok (.aload_n 0, 1) := by decide +kernel
theorem dL_ready_4 : decode cL_ready 4 = .ok (.iload_n 1, 1) := by decide +kernel
theorem dL_ready_5 : decode cL_ready 5 = .ok (.iload_n 2, 1) := by decide +kernel
theorem dL_ready_6 : decode cL_ready 6 = .ok (.iload_n 3, 1) := by decide +kernel
theorem dL_ready_7 : decode cL_ready 7 = .ok (.invokevirtual 49, 3) := by decide +kernel
theorem dL_ready_10 : decode cL_ready 10 = .ok (.i2l, 1) := by decide +kernel
theorem dL_ready_11 : decode cL_ready 11 = .ok (.lastore, 1) := by decide +kernel
theorem dL_ready_12 : decode cL_ready 12 = .ok (.goto 11, 3) := by decide +kernel
theorem dL_ready_15 : decode cL_ready 15 = .ok (.astore 5, 2) := by decide +kernel
theorem dL_ready_17 : decode cL_ready 17 = .ok (.iconst 1, 1) := by decide +kernel
theorem dL_ready_18 : decode cL_ready 18 = .ok (.ireturn, 1) := by decide +kernel
theorem dL_ready_19 : decode cL_ready 19 = .ok (.astore 5, 2) := by decide +kernel
theorem dL_ready_21 : decode cL_ready 21 = .ok (.iconst 2, 1) := by decide +kernel
theorem dL_ready_22 : decode cL_ready 22 = .ok (.ireturn, 1) := by decide +kernel
theorem dL_ready_23 : decode cL_ready 23 = .ok (.iconst 0, 1) := by decide +kernel
theorem dL_ready_24 : decode cL_ready 24 = .ok (.ireturn, 1) := by decide +kernel
set_option maxRecDepth 20000 in
theorem ggL_first_X5_first : GoodIn wsL_first wsX5_first := goodIn_ca (goodIn_r _ [6, 7, 8, 9, 10, 11, 5, 12, 13, 14, 15, 16, 17, 18, 19, 20, 21, 22, 23, 24, 25, 26, 27, 28, 29, 30, 31, 32, 33, 34, 35, 36, 37, 38, 39, 40, 41, 42, 43, 44, 45, 46, 47, 48, 49, 50, 51, 52, 53, 54, 55, 56, 57, 58, 59, 60, 61, 62, 63, 64, 65, 66, 67, 68, 69, 70, 71, 72, 73, 74, 75, 76, 77, 78, 79, 80, 81, 82, 83, 84, 85, 86, 87, 88, 89, 90, 91, 92, 93, 94, 95, 96] (by decide +kernel) (by decide +kernel)) (goodIn_sub (fun _ h => List.mem_cons_of_mem _ (List.mem_append_right _ h)) (by decide +kernel))
set_option maxRecDepth 20000 in
theorem gL_first_X5_first : GoodIn wsL_first (wsV RL 52 RX5 yX5_first wsX5_first) := goodIn_app (goodIn_of _ (by decide +kernel)) ggL_first_X5_first
theorem dL_first_0 : decode cL_first 0 = .ok (.aload_n 3, 1) := by decide +kernel
theorem dL_first_1 : decode cL_first 1 = .ok (.iconst 0, 1) := by decide +kernel
theorem dL_first_2 : decode cL_first 2 = .ok (.aload_n 0, 1) := by decide +kernel
theorem dL_first_3 : decode cL_first 3 = .ok (.iload_n 1, 1) := by decide +kernel
theorem dL_first_4 : decode cL_first 4 = .ok (.iload_n 2, 1) := by decide +kernel
theorem dL_first_5 : decode cL_first 5 = .ok (.invokevirtual 52, 3) := by decide +kernel
theorem dL_first_8 : decode cL_first 8 = .ok (.i2l, 1) := by decide +kernel
theorem dL_first_9 : decode cL_first 9 = .ok (.lastore, 1) := by decide +kernel
theorem dL_first_10 : decode cL_first 10 = .ok (.goto 7, 3) := by decide +kernel
theorem dL_first_13 : decode cL_first 13 = .ok (.astore 4, 2) := by decide +kernel
theorem dL_first_15 : decode cL_first 15 = .ok (.iconst 1, 1) := by decide +kernel
theorem dL_first_16 : decode cL_first 16 = .ok (.ireturn, 1) := by decide +kernel
theorem dL_first_17 : decode cL_first 17 = .ok (.iconst 0, 1) := by decide +kernel
theorem dL_first_18 : decode cL_first 18 = .ok (.ireturn, 1) := by decide +kernel
set_option maxRecDepth 20000 in
theorem ggL_away_X5_away : GoodIn wsL_away wsX5_away := goodIn_ca (goodIn_ca (goodIn_r _ [7, 8, 9, 10, 11, 12, 6, 13, 14, 15, 16, 17, 18, 19, 20, 21, 22, 23, 24, 25, 26, 27, 28, 29, 30, 31, 32, 33, 34, 35, 36, 37, 38, 39, 40, 41, 42, 43, 44, 45, 46, 47, 48, 49, 50, 51, 52, 53, 54, 55, 56, 57, 58, 59, 60, 61, 62, 63, 64, 65, 66, 67, 68, 69, 70, 71, 72, 73, 74, 75, 76, 77, 78, 79, 80, 81, 82, 83, 84, 85, 86, 87, 88, 89, 90, 91, 92, 93] (by decide +kernel) (by decide +kernel)) (goodIn_sub (fun _ h => List.mem_cons_of_mem _ (List.mem_append_left _ (List.mem_append_right _ h))) (by decide +kernel))) (goodIn_sub (fun _ h => List.mem_cons_of_mem _ (List.mem_append_right _ h)) (by decide +kernel))
set_option maxRecDepth 20000 in
theorem gL_away_X5_away : GoodIn wsL_away (wsV RL 55 RX5 yX5_away wsX5_away) := goodIn_app (goodIn_of _ (by decide +kernel)) ggL_away_X5_away
theorem dL_away_0 : decode cL_away 0 = .ok (.aload_n 3, 1) := by decide +kernel
theorem dL_away_1 : decode cL_away 1 = .ok (.iconst 0, 1) := by decide +kernel
theorem dL_away_2 : decode cL_away 2 = .ok (.aload_n 0, 1) := by decide +kernel
theorem dL_away_3 : decode cL_away 3 = .ok (.iload_n 1, 1) := by decide +kernel
theorem dL_away_4 : decode cL_away 4 = .ok (.iload_n 2, 1) := by decide +kernel
theorem dL_away_5 : decode cL_away 5 = .ok (.invokevirtual 55, 3) := by decide +kernel
theorem dL_away_8 : decode cL_away 8 = .ok (.i2l, 1) := by decide +kernel
theorem dL_away_9 : decode cL_away 9 = .ok (.lastore, 1) := by decide +kernel
theorem dL_away_10 : decode cL_away 10 = .ok (.goto 11, 3) := by decide +kernel
theorem dL_away_13 : decode cL_away 13 = .ok (.astore 4, 2) := by decide +kernel
theorem dL_away_15 : decode cL_away 15 = .ok (.iconst 1, 1) := by decide +kernel
theorem dL_away_16 : decode cL_away 16 = .ok (.ireturn, 1) := by decide +kernel
theorem dL_away_17 : decode cL_away 17 = .ok (.astore 4, 2) := by decide +kernel
theorem dL_away_19 : decode cL_away 19 = .ok (.iconst 2, 1) := by decide +kernel
theorem dL_away_20 : decode cL_away 20 = .ok (.ireturn, 1) := by decide +kernel
theorem dL_away_21 : decode cL_away 21 = .ok (.iconst 0, 1) := by decide +kernel
theorem dL_away_22 : decode cL_away 22 = .ok (.ireturn, 1) := by decide +kernel
set_option maxRecDepth 20000 in
theorem ggL_post_X5_post : GoodIn wsL_post wsX5_post := goodIn_ca (goodIn_r _ [6, 7, 8, 9, 10, 11, 12, 13, 14, 15, 16, 17, 18, 19, 20, 21, 22, 23, 24, 25, 26, 27, 28, 29, 30, 31, 32, 33, 34, 35, 36, 37, 38, 39, 40, 41, 42, 43, 44, 45, 46, 47, 48, 49, 50, 51, 52, 53, 54, 55, 56, 57, 58, 59, 60, 61, 62, 63, 64, 65, 66, 67, 68, 69, 70, 71, 72, 73, 74, 75, 76, 77, 78, 79, 80, 81, 82, 83, 84, 85, 86, 87, 88, 89, 90, 91, 92, 93, 94, 95, 96, 97, 98, 99, 100, 101, 102, 103, 104, 105, 106, 107, 108, 109, 110, 111, 112, 113, 114, 115, 116, 117, 118, 119, 120, 121, 122, 123, 124, 125, 126, 127, 128, 129, 130, 131, 132, 133, 134, 135, 136, 137, 138, 139, 140, 141, 142, 143, 144, 145, 146, 147, 148] (by decide +kernel) (by decide +kernel)) (goodIn_sub (fun _ h => List.mem_cons_of_mem _ (List.mem_append_right _ h)) (by decide +kernel))
set_option maxRecDepth 20000 in
theorem gL_post_X5_post : GoodIn wsL_post (wsV RL 58 RX5 yX5_post wsX5_post) := goodIn_app (goodIn_of _ (by decide +kernel)) ggL_post_X5_post
theorem dL_post_0 : decode cL_post 0 = .ok (.aload_n 1, 1) := by decide +kernel
theorem dL_post_1 : decode cL_post 1 = .ok (.iconst 0, 1) := by decide +kernel
theorem dL_post_2 : decode cL_post 2 = .ok (.aload_n 0, 1) := by decide +kernel
theorem dL_post_3 : decode cL_post 3 = .ok (.invokevirtual 58, 3) := by decide +kernel
theorem dL_post_6 : decode cL_post 6 = .ok (.i2l, 1) := by decide +kernel
theorem dL_post_7 : decode cL_post 7 = .ok (.lastore, 1) := by decide +kernel
theorem dL_post_8 : decode cL_post 8 = .ok (.goto 6, 3) := by decide +kernel
theorem dL_post_11 : decode cL_post 11 = .ok (.astore_n 2, 1) := by decide +kernel
theorem dL_post_12 : decode cL_post 12 = .ok (.iconst 1, 1) := by decide +kernel
theorem dL_post_13 : decode cL_post 13 = .ok (.ireturn, 1) := by decide +kernel
theorem dL_post_14 : decode cL_post 14 = .ok (.iconst 0, 1) := by decide +kernel
theorem dL_post_15 : decode cL_post 15 = .ok (.ireturn, 1) := by decide +kernel
set_option maxRecDepth 20000 in
theorem ggL_play_X5_play : GoodIn wsL_play wsX5_play := goodIn_ca (goodIn_r _ [6, 7, 8, 9, 10, 11, 12, 5, 13, 14, 15, 16, 17, 18, 19, 20, 21, 22, 23, 24, 25, 26, 27, 28, 29, 30, 31, 32, 33, 34, 35, 36, 37, 38, 39, 40, 41, 42, 43, 44, 45, 46, 47, 48, 49, 50, 51, 52, 53, 54, 55, 56, 57, 58, 59, 60, 61, 62, 63, 64, 65, 66, 67, 68, 69, 70, 71, 72, 73, 74, 75, 76, 77, 78, 79, 80, 81, 82, 83, 84, 85, 86, 87, 88, 89, 90, 91, 92, 93, 94, 95, 96, 97, 98, 99, 100, 101, 102, 103, 104, 105, 106, 107, 108, 109, 110, 111, 112, 113, 114, 115, 116, 117, 118, 119, 120, 121, 122, 123, 124, 125, 126, 127, 128, 129, 130, 131, 132, 133, 134, 135, 136, 137, 138, 139, 140, 141, 142, 143, 144, 145, 146, 147, 148, 149, 150, 151, 152, 153, 154, 155, 156, 157, 158, 159, 160, 161, 162, 163, 164, 165, 166] (by decide +kernel) (by decide +kernel)) (goodIn_sub (fun _ h => List.mem_cons_of_mem _ (List.mem_append_right _ h)) (by decide +kernel))
set_option maxRecDepth 20000 in
theorem gL_play_X5_play : GoodIn wsL_play (wsV RL 61 RX5 yX5_play wsX5_play) := goodIn_app (goodIn_of _ (by decide +kernel)) ggL_play_X5_play
theorem dL_play_0 : decode cL_play 0 = .ok (.aload_n 1, 1) := by decide +kernel
theorem dL_play_1 : decode cL_play 1 = .ok (.iconst 0, 1) := by decide +kernel
theorem dL_play_2 : decode cL_play 2 = .ok (.aload_n 0, 1) := by decide +kernel
theorem dL_play_3 : decode cL_play 3 = .ok (.invokevirtual 61, 3) := by decide +kernel
theorem dL_play_6 : decode cL_play 6 = .ok (.i2l, 1) := by decide +kernel
theorem dL_play_7 : decode cL_play 7 = .ok (.lastore, 1) := by decide +kernel
theorem dL_play_8 : decode cL_play 8 = .ok (.goto 6, 3) := by decide +kernel
theorem dL_play_11 : decode cL_play 11 = .ok (.astore_n 2, 1) := by decide +kernel
theorem dL_play_12 : decode cL_play 12 = .ok (.iconst 1, 1) := by decide +kernel
theorem dL_play_13 : decode cL_play 13 = .ok (.ireturn, 1) := by decide +kernel
theorem dL_play_14 : decode cL_play 14 = .ok (.iconst 0, 1) := by decide +kernel
theorem dL_play_15 : decode cL_play 15 = .ok (.ireturn, 1) := by decide +kernel
set_option maxRecDepth 20000 in
theorem ggL_dark_X5_dark : GoodIn wsL_dark wsX5_dark := goodIn_ca (goodIn_r _ [6, 7, 8, 9, 10, 5, 11, 12, 13, 14, 15, 16, 17, 18, 19, 20, 21, 22, 23, 24, 25, 26, 27, 28, 29, 30, 31, 32, 33, 34, 35, 36, 37, 38, 39, 40, 41, 42, 43, 44, 45, 46, 47, 48, 49, 50, 51, 52, 53, 54, 55, 56, 57, 58, 59, 60, 61, 62, 63, 64, 65, 66, 67, 68, 69, 70, 71, 72, 73, 74, 75, 76, 77, 78, 79, 80, 81, 82, 83, 84] (by decide +kernel) (by decide +kernel)) (goodIn_sub (fun _ h => List.mem_cons_of_mem _ (List.mem_append_right _ h)) (by decide +kernel))
set_option maxRecDepth 20000 in
theorem gL_dark_X5_dark : GoodIn wsL_dark (wsV RL 64 RX5 yX5_dark wsX5_dark) := goodIn_app (goodIn_of _ (by decide +kernel)) ggL_dark_X5_dark
theorem dL_dark_0 : decode cL_dark 0 = .ok (.aload_n 2, 1) := by decide +kernel
theorem dL_dark_1 : decode cL_dark 1 = .ok (.iconst 0, 1) := by decide +kernel
theorem dL_dark_2 : decode cL_dark 2 = .ok (.aload_n 0, 1) := by decide +kernel
theorem dL_dark_3 : decode cL_dark 3 = .ok (.iload_n 1, 1) := by decide +kernel
theorem dL_dark_4 : decode cL_dark 4 = .ok (.invokevirtual 64, 3) := by decide +kernel
theorem dL_dark_7 : decode cL_dark 7 = .ok (.i2l, 1) := by decide +kernel
theorem dL_dark_8 : decode cL_dark 8 = .ok (.lastore, 1) := by decide +kernel
theorem dL_dark_9 : decode cL_dark 9 = .ok (.goto 6, 3) := by decide +kernel
theorem dL_dark_12 : decode cL_dark 12 = .ok (.astore_n 3, 1) := by decide +kernel
theorem dL_dark_13 : decode cL_dark 13 = .ok (.iconst 1, 1) := by decide +kernel
theorem dL_dark_14 : decode cL_dark 14 = .ok (.ireturn, 1) := by decide +kernel
theorem dL_dark_15 : decode cL_dark 15 = .ok (.iconst 0, 1) := by decide +kernel
theorem dL_dark_16 : decode cL_dark 16 = .ok (.ireturn, 1) := by decide +kernel
set_option maxRecDepth 20000 in
theorem ggL_promote_X5_promote : GoodIn wsL_promote wsX5_promote := goodIn_ca (goodIn_ca (goodIn_r _ [7, 8, 9, 10, 11, 12, 13, 14, 6, 15, 16, 17, 18, 19, 20, 21, 22, 23, 24, 25, 26, 27, 28, 29, 30, 31, 32, 33, 34, 35, 36, 37, 38, 39, 40, 41, 42, 43, 44, 45, 46, 47, 48, 49, 50, 51, 52, 53, 54, 55, 56, 57, 58, 59, 60, 61, 62, 63, 64, 65, 66, 67, 68, 69, 70, 71, 72, 73, 74, 75, 76, 77, 78, 79, 80, 81, 82, 83, 84, 85, 86, 87, 88, 89, 90, 91, 92, 93, 94, 95, 96, 97] (by decide +kernel) (by decide +kernel)) (goodIn_sub (fun _ h => List.mem_cons_of_mem _ (List.mem_append_left _ (List.mem_append_right _ h))) (by decide +kernel))) (goodIn_sub (fun _ h => List.mem_cons_of_mem _ (List.mem_append_right _ h)) (by decide +kernel))
set_option maxRecDepth 20000 in
theorem gL_promote_X5_promote : GoodIn wsL_promote (wsV RL 67 RX5 yX5_promote wsX5_promote) := goodIn_app (goodIn_of _ (by decide +kernel)) ggL_promote_X5_promote
theorem dL_promote_0 : decode cL_promote 0 = .ok (.aload_n 2, 1) := by decide +kernel
theorem dL_promote_1 : decode cL_promote 1 = .ok (.iconst 0, 1) := by decide +kernel
theorem dL_promote_2 : decode cL_promote 2 = .ok (.aload_n 0, 1) := by decide +kernel
theorem dL_promote_3 : decode cL_promote 3 = .ok (.iload_n 1, 1) := by decide +kernel
theorem dL_promote_4 : decode cL_promote 4 = .ok (.invokevirtual 67, 3) := by decide +kernel
theorem dL_promote_7 : decode cL_promote 7 = .ok (.i2l, 1) := by decide +kernel
theorem dL_promote_8 : decode cL_promote 8 = .ok (.lastore, 1) := by decide +kernel
theorem dL_promote_9 : decode cL_promote 9 = .ok (.goto 9, 3) := by decide +kernel
theorem dL_promote_12 : decode cL_promote 12 = .ok (.astore_n 3, 1) := by decide +kernel
theorem dL_promote_13 : decode cL_promote 13 = .ok (.iconst 1, 1) := by decide +kernel
theorem dL_promote_14 : decode cL_promote 14 = .ok (.ireturn, 1) := by decide +kernel
theorem dL_promote_15 : decode cL_promote 15 = .ok (.astore_n 3, 1) := by decide +kernel
theorem dL_promote_16 : decode cL_promote 16 = .ok (.iconst 2, 1) := by decide +kernel
theorem dL_promote_17 : decode cL_promote 17 = .ok (.ireturn, 1) := by decide +kernel
theorem dL_promote_18 : decode cL_promote 18 = .ok (.iconst 0, 1) := by decide +kernel
theorem dL_promote_19 : decode cL_promote 19 = .ok (.ireturn, 1) := by decide +kernel
set_option maxRecDepth 20000 in
theorem ggL_set_X5_set : GoodIn wsL_set wsX5_set := goodIn_ca (goodIn_r _ [6, 7, 8, 9, 10, 11, 12, 5, 13, 14, 15, 16, 17, 18, 19, 20, 21, 22, 23, 24, 25, 26, 27, 28, 29, 30, 31, 32, 33, 34, 35, 36, 37, 38, 39, 40, 41, 42, 43, 44, 45, 46, 47, 48, 49, 50, 51, 52, 53, 54, 55, 56, 57, 58, 59, 60, 61, 62, 63, 64, 65, 66, 67, 68, 69, 70, 71, 72, 73, 74, 75, 76, 77, 78, 79, 80, 81, 82, 83] (by decide +kernel) (by decide +kernel)) (goodIn_sub (fun _ h => List.mem_cons_of_mem _ (List.mem_append_right _ h)) (by decide +kernel))
set_option maxRecDepth 20000 in
theorem gL_set_X5_set : GoodIn wsL_set (wsV RL 70 RX5 yX5_set wsX5_set) := goodIn_app (goodIn_of _ (by decide +kernel)) ggL_set_X5_set
theorem dL_set_0 : decode cL_set 0 = .ok (.aload_n 3, 1) := by decide +kernel
theorem dL_set_1 : decode cL_set 1 = .ok (.iconst 0, 1) := by decide +kernel
theorem dL_set_2 : decode cL_set 2 = .ok (.aload_n 0, 1) := by decide +kernel
theorem dL_set_3 : decode cL_set 3 = .ok (.iload_n 1, 1) := by decide +kernel
theorem dL_set_4 : decode cL_set 4 = .ok (.iload_n 2, 1) := by decide +kernel
theorem dL_set_5 : decode cL_set 5 = .ok (.invokevirtual 70, 3) := by decide +kernel
theorem dL_set_8 : decode cL_set 8 = .ok (.i2l, 1) := by decide +kernel
theorem dL_set_9 : decode cL_set 9 = .ok (.lastore, 1) := by decide +kernel
theorem dL_set_10 : decode cL_set 10 = .ok (.goto 7, 3) := by decide +kernel
theorem dL_set_13 : decode cL_set 13 = .ok (.astore 4, 2) := by decide +kernel
theorem dL_set_15 : decode cL_set 15 = .ok (.iconst 1, 1) := by decide +kernel
theorem dL_set_16 : decode cL_set 16 = .ok (.ireturn, 1) := by decide +kernel
theorem dL_set_17 : decode cL_set 17 = .ok (.iconst 0, 1) := by decide +kernel
theorem dL_set_18 : decode cL_set 18 = .ok (.ireturn, 1) := by decide +kernel
set_option maxRecDepth 20000 in
theorem ggL_undo_X5_undo : GoodIn wsL_undo wsX5_undo := goodIn_ca (goodIn_r _ [6, 7, 8, 9, 10, 11, 12, 13, 14, 15, 16, 17, 18, 19, 20, 21, 22, 23, 24, 25, 26, 27, 28, 29, 30, 31, 32, 33, 34, 35, 36, 37, 38, 39, 40, 41, 42, 43, 44, 45, 46, 47, 48, 49, 50, 51, 52, 53, 54, 55, 56, 57, 58, 59, 60, 61, 62, 63, 64, 65, 66, 67, 68, 69, 70, 71, 72, 73, 74, 75, 76, 77, 78] (by decide +kernel) (by decide +kernel)) (goodIn_sub (fun _ h => List.mem_cons_of_mem _ (List.mem_append_right _ h)) (by decide +kernel))
set_option maxRecDepth 20000 in
theorem gL_undo_X5_undo : GoodIn wsL_undo (wsV RL 73 RX5 yX5_undo wsX5_undo) := goodIn_app (goodIn_of _ (by decide +kernel)) ggL_undo_X5_undo
theorem dL_undo_0 : decode cL_undo 0 = .ok (.aload_n 1, 1) := by decide +kernel
theorem dL_undo_1 : decode cL_undo 1 = .ok (.iconst 0, 1) := by decide +kernel
theorem dL_undo_2 : decode cL_undo 2 = .ok (.aload_n 0, 1) := by decide +kernel
theorem dL_undo_3 : decode cL_undo 3 = .ok (.invokevirtual 73, 3) := by decide +kernel
theorem dL_undo_6 : decode cL_undo 6 = .ok (.i2l, 1) := by decide +kernel
theorem dL_undo_7 : decode cL_undo 7 = .ok (.lastore, 1) := by decide +kernel
theorem dL_undo_8 : decode cL_undo 8 = .ok (.goto 6, 3) := by decide +kernel
theorem dL_undo_11 : decode cL_undo 11 = .ok (.astore_n 2, 1) := by decide +kernel
theorem dL_undo_12 : decode cL_undo 12 = .ok (.iconst 1, 1) := by decide +kernel
theorem dL_undo_13 : decode cL_undo 13 = .ok (.ireturn, 1) := by decide +kernel
theorem dL_undo_14 : decode cL_undo 14 = .ok (.iconst 0, 1) := by decide +kernel
theorem dL_undo_15 : decode cL_undo 15 = .ok (.ireturn, 1) := by decide +kernel
set_option maxRecDepth 20000 in
theorem ggL_without_X5_without : GoodIn wsL_without wsX5_without := goodIn_ca (goodIn_r _ [6, 7, 8, 9, 10, 11, 5, 12, 13, 14, 15, 16, 17, 18, 19, 20, 21, 22, 23, 24, 25, 26, 27, 28, 29, 30, 31, 32, 33, 34, 35, 36, 37, 38, 39, 40, 41, 42, 43, 44, 45, 46, 47, 48, 49, 50, 51, 52, 53, 54, 55, 56, 57, 58, 59, 60, 61, 62, 63, 64, 65, 66, 67, 68, 69, 70, 71, 72, 73, 74, 75, 76, 77, 78, 79, 80, 81, 82, 83, 84, 85, 86, 87, 88, 89, 90, 91, 92, 93, 94, 95, 96, 97, 98, 99, 100, 101, 102, 103, 104, 105, 106, 107, 108, 109, 110, 111, 112, 113, 114, 115, 116, 117, 118, 119, 120, 121, 122] (by decide +kernel) (by decide +kernel)) (goodIn_sub (fun _ h => List.mem_cons_of_mem _ (List.mem_append_right _ h)) (by decide +kernel))
set_option maxRecDepth 20000 in
theorem gL_without_X5_without : GoodIn wsL_without (wsV RL 76 RX5 yX5_without wsX5_without) := goodIn_app (goodIn_of _ (by decide +kernel)) ggL_without_X5_without
theorem dL_without_0 : decode cL_without 0 = .ok (.aload_n 2, 1) := by decide +kernel
theorem dL_without_1 : decode cL_without 1 = .ok (.iconst 0, 1) := by decide +kernel
theorem dL_without_2 : decode cL_without 2 = .ok (.aload_n 0, 1) := by decide +kernel
theorem dL_without_3 : decode cL_without 3 = .ok (.iload_n 1, 1) := by decide +kernel
theorem dL_without_4 : decode cL_without 4 = .ok (.invokevirtual 76, 3) := by decide +kernel
theorem dL_without_7 : decode cL_without 7 = .ok (.i2l, 1) := by decide +kernel
theorem dL_without_8 : decode cL_without 8 = .ok (.lastore, 1) := by decide +kernel
theorem dL_without_9 : decode cL_without 9 = .ok (.goto 6, 3) := by decide +kernel
theorem dL_without_12 : decode cL_without 12 = .ok (.astore_n 3, 1) := by decide +kernel
theorem dL_without_13 : decode cL_without 13 = .ok (.iconst 1, 1) := by decide +kernel
theorem dL_without_14 : decode cL_without 14 = .ok (.ireturn, 1) := by decide +kernel
theorem dL_without_15 : decode cL_without 15 = .ok (.iconst 0, 1) := by decide +kernel
theorem dL_without_16 : decode cL_without 16 = .ok (.ireturn, 1) := by decide +kernel
set_option maxRecDepth 20000 in
theorem ggL_coming_X5_coming : GoodIn wsL_coming wsX5_coming := goodIn_ca (goodIn_ca (goodIn_r _ [7, 8, 9, 10, 11, 12, 6, 13, 14, 15, 16, 17, 18, 19, 20, 21, 22, 23, 24, 25, 26, 27, 28, 29, 30, 31, 32, 33, 34, 35, 36, 37, 38, 39, 40, 41, 42, 43, 44, 45, 46, 47, 48, 49, 50, 51, 52, 53, 54, 55, 56, 57, 58, 59, 60, 61, 62, 63, 64, 65, 66, 67, 68, 69, 70, 71, 72, 73, 74, 75, 76, 77, 78, 79, 80, 81, 82, 83, 84, 85, 86, 87, 88, 89, 90, 91, 92, 93, 94, 95, 96, 97, 98, 99, 100, 101, 102, 103, 104, 105, 106, 107, 108, 109, 110, 111, 112, 113, 114, 115, 116, 117, 118, 119, 120, 121, 122, 123, 124, 125, 126, 127, 128, 129, 130, 131, 132, 133, 134, 135, 136, 137, 138, 139, 140, 141, 142, 143, 144, 145, 146, 147, 148, 149, 150, 151, 152, 153, 154, 155, 156, 157, 158, 159, 160, 161, 162, 163, 164, 165, 166, 167, 168, 169, 170, 171, 172] (by decide +kernel) (by decide +kernel)) (goodIn_sub (fun _ h => List.mem_cons_of_mem _ (List.mem_append_left _ (List.mem_append_right _ h))) (by decide +kernel))) (goodIn_sub (fun _ h => List.mem_cons_of_mem _ (List.mem_append_right _ h)) (by decide +kernel))
set_option maxRecDepth 20000 in
theorem gL_coming_X5_coming : GoodIn wsL_coming (wsV RL 79 RX5 yX5_coming wsX5_coming) := goodIn_app (goodIn_of _ (by decide +kernel)) ggL_coming_X5_coming
theorem dL_coming_0 : decode cL_coming 0 = .ok (.aload_n 2, 1) := by decide +kernel
theorem dL_coming_1 : decode cL_coming 1 = .ok (.iconst 0, 1) := by decide +kernel
theorem dL_coming_2 : decode cL_coming 2 = .ok (.aload_n 0, 1) := by decide +kernel
theorem dL_coming_3 : decode cL_coming 3 = .ok (.iload_n 1, 1) := by decide +kernel
theorem dL_coming_4 : decode cL_coming 4 = .ok (.invokevirtual 79, 3) := by decide +kernel
theorem dL_coming_7 : decode cL_coming 7 = .ok (.i2l, 1) := by decide +kernel
theorem dL_coming_8 : decode cL_coming 8 = .ok (.lastore, 1) := by decide +kernel
theorem dL_coming_9 : decode cL_coming 9 = .ok (.goto 9, 3) := by decide +kernel
theorem dL_coming_12 : decode cL_coming 12 = .ok (.astore_n 3, 1) := by decide +kernel
theorem dL_coming_13 : decode cL_coming 13 = .ok (.iconst 1, 1) := by decide +kernel
theorem dL_coming_14 : decode cL_coming 14 = .ok (.ireturn, 1) := by decide +kernel
theorem dL_coming_15 : decode cL_coming 15 = .ok (.astore_n 3, 1) := by decide +kernel
theorem dL_coming_16 : decode cL_coming 16 = .ok (.iconst 2, 1) := by decide +kernel
theorem dL_coming_17 : decode cL_coming 17 = .ok (.ireturn, 1) := by decide +kernel
theorem dL_coming_18 : decode cL_coming 18 = .ok (.iconst 0, 1) := by decide +kernel
theorem dL_coming_19 : decode cL_coming 19 = .ok (.ireturn, 1) := by decide +kernel
set_option maxRecDepth 20000 in
theorem ggL_degreeFor_X5_degreeFor : GoodIn wsL_degreeFor wsX5_degreeFor := goodIn_ca (goodIn_r _ [6, 7, 8, 9, 10, 11, 12, 5, 13, 14, 15, 16, 17, 18, 19, 20, 21, 22, 23, 24, 25, 26, 27, 28, 29, 30, 31, 32, 33, 34, 35, 36, 37, 38, 39, 40, 41, 42, 43, 44, 45, 46, 47, 48, 49, 50, 51, 52, 53, 54, 55, 56, 57, 58, 59, 60, 61, 62, 63, 64, 65, 66, 67, 68, 69, 70, 71, 72, 73, 74, 75, 76, 77, 78, 79, 80, 81, 82, 83, 84, 85, 86, 87, 88, 89, 90, 91, 92, 93, 94, 95, 96, 97, 98, 99, 100, 101, 102, 103, 104, 105, 106, 107, 108, 109, 110, 111, 112, 113, 114, 115, 116, 117, 118, 119, 120, 121, 122, 123, 124, 125, 126, 127, 128, 129, 130, 131, 132, 133, 134, 135, 136, 137, 138, 139, 140, 141, 142, 143, 144, 145, 146, 147, 148, 149, 150, 151, 152, 153, 154, 155, 156, 157, 158, 159, 160, 161, 162, 163, 164, 165, 166, 167, 168] (by decide +kernel) (by decide +kernel)) (goodIn_sub (fun _ h => List.mem_cons_of_mem _ (List.mem_append_right _ h)) (by decide +kernel))
set_option maxRecDepth 20000 in
theorem gL_degreeFor_X5_degreeFor : GoodIn wsL_degreeFor (wsV RL 82 RX5 yX5_degreeFor wsX5_degreeFor) := goodIn_app (goodIn_of _ (by decide +kernel)) ggL_degreeFor_X5_degreeFor
theorem dL_degreeFor_0 : decode cL_degreeFor 0 = .ok (.aload_n 3, 1) := by decide +kernel
theorem dL_degreeFor_1 : decode cL_degreeFor 1 = .ok (.iconst 0, 1) := by decide +kernel
theorem dL_degreeFor_2 : decode cL_degreeFor 2 = .ok (.aload_n 0, 1) := by decide +kernel
theorem dL_degreeFor_3 : decode cL_degreeFor 3 = .ok (.iload_n 1, 1) := by decide +kernel
theorem dL_degreeFor_4 : decode cL_degreeFor 4 = .ok (.iload_n 2, 1) := by decide +kernel
theorem dL_degreeFor_5 : decode cL_degreeFor 5 = .ok (.invokevirtual 82, 3) := by decide +kernel
theorem dL_degreeFor_8 : decode cL_degreeFor 8 = .ok (.i2l, 1) := by decide +kernel
theorem dL_degreeFor_9 : decode cL_degreeFor 9 = .ok (.lastore, 1) := by decide +kernel
theorem dL_degreeFor_10 : decode cL_degreeFor 10 = .ok (.goto 7, 3) := by decide +kernel
theorem dL_degreeFor_13 : decode cL_degreeFor 13 = .ok (.astore 4, 2) := by decide +kernel
theorem dL_degreeFor_15 : decode cL_degreeFor 15 = .ok (.iconst 1, 1) := by decide +kernel
theorem dL_degreeFor_16 : decode cL_degreeFor 16 = .ok (.ireturn, 1) := by decide +kernel
theorem dL_degreeFor_17 : decode cL_degreeFor 17 = .ok (.iconst 0, 1) := by decide +kernel
theorem dL_degreeFor_18 : decode cL_degreeFor 18 = .ok (.ireturn, 1) := by decide +kernel
set_option maxRecDepth 20000 in
theorem ggL_runScript_X5_runScript : GoodIn wsL_runScript wsX5_runScript := goodIn_ca (goodIn_r _ [6, 7, 8, 9, 10, 11, 12, 13, 5, 14, 15, 16, 17, 18, 19, 20, 21, 22, 23, 24, 25, 26, 27, 28, 29, 30, 31, 32, 33, 34, 35, 36, 37, 38, 39, 40, 41, 42, 43, 44, 45, 46, 47, 48, 49, 50, 51, 52, 53, 54, 55, 56, 57, 58, 59, 60, 61, 62, 63, 64, 65, 66, 67, 68, 69, 70, 71, 72, 73, 74, 75, 76, 77, 78, 79, 80, 81, 82, 83, 84, 85, 86, 87, 88, 89, 90, 91, 92, 93, 94, 95, 96, 97, 98, 99, 100, 101, 102, 103, 104, 105, 106, 107, 108, 109, 110, 111, 112, 113, 114, 115, 116, 117, 118, 119, 120, 121, 122, 123, 124, 125, 126, 127, 128, 129, 130, 131, 132, 133, 134, 135, 136, 137, 138, 139, 140, 141, 142, 143, 144, 145, 146, 147, 148, 149, 150, 151, 152, 153, 154, 155, 156, 157, 158, 159, 160, 161, 162, 163, 164, 165, 166, 167, 168, 169, 170, 171, 172, 173, 174, 175, 176, 177, 178, 179, 180, 181, 182, 183, 184, 185, 186, 187, 188, 189, 190, 191, 192, 193, 194, 195, 196, 197, 198, 199, 200, 201, 202, 203, 204, 205, 206, 207, 208, 209, 210, 211, 212, 213] (by decide +kernel) (by decide +kernel)) (goodIn_sub (fun _ h => List.mem_cons_of_mem _ (List.mem_append_right _ h)) (by decide +kernel))
set_option maxRecDepth 20000 in
theorem gL_runScript_X5_runScript : GoodIn wsL_runScript (wsV RL 85 RX5 yX5_runScript wsX5_runScript) := goodIn_app (goodIn_of _ (by decide +kernel)) ggL_runScript_X5_runScript
theorem dL_runScript_0 : decode cL_runScript 0 = .ok (.aload 4, 2) := by decide +kernel
theorem dL_runScript_2 : decode cL_runScript 2 = .ok (.iconst 0, 1) := by decide +kernel
theorem dL_runScript_3 : decode cL_runScript 3 = .ok (.aload_n 0, 1) := by decide +kernel
theorem dL_runScript_4 : decode cL_runScript 4 = .ok (.iload_n 1, 1) := by decide +kernel
theorem dL_runScript_5 : decode cL_runScript 5 = .ok (.lload_n 2, 1) := by decide +kernel
theorem dL_runScript_6 : decode cL_runScript 6 = .ok (.invokevirtual 85, 3) := by decide +kernel
theorem dL_runScript_9 : decode cL_runScript 9 = .ok (.i2l, 1) := by decide +kernel
theorem dL_runScript_10 : decode cL_runScript 10 = .ok (.lastore, 1) := by decide +kernel
theorem dL_runScript_11 : decode cL_runScript 11 = .ok (.goto 7, 3) := by decide +kernel
theorem dL_runScript_14 : decode cL_runScript 14 = .ok (.astore 5, 2) := by decide +kernel
theorem dL_runScript_16 : decode cL_runScript 16 = .ok (.iconst 1, 1) := by decide +kernel
theorem dL_runScript_17 : decode cL_runScript 17 = .ok (.ireturn, 1) := by decide +kernel
theorem dL_runScript_18 : decode cL_runScript 18 = .ok (.iconst 0, 1) := by decide +kernel
theorem dL_runScript_19 : decode cL_runScript 19 = .ok (.ireturn, 1) := by decide +kernel
set_option maxRecDepth 20000 in
theorem ggL_simulate_X5_simulate : GoodIn wsL_simulate wsX5_simulate := goodIn_ca (goodIn_r _ [6, 7, 8, 9, 10, 11, 5, 12, 13, 14, 15, 16, 17, 18, 19, 20, 21, 22, 23, 24, 25, 26, 27, 28, 29, 30, 31, 32, 33, 34, 35, 36, 37, 38, 39, 40, 41, 42, 43, 44, 45, 46, 47, 48, 49, 50, 51, 52, 53, 54, 55, 56, 57, 58, 59, 60, 61, 62, 63, 64, 65, 66, 67, 68, 69, 70, 71, 72, 73, 74, 75, 76, 77, 78, 79, 80, 81, 82, 83, 84, 85, 86, 87, 88, 89, 90, 91, 92, 93, 94, 95, 96, 97, 98, 99, 100, 101, 102, 103, 104, 105, 106, 107, 108, 109, 110, 111, 112, 113, 114, 115, 116, 117, 118, 119, 120, 121, 122, 123, 124, 125, 126, 127, 128, 129, 130, 131, 132, 133, 134, 135, 136, 137, 138, 139, 140, 141, 142, 143, 144, 145, 146, 147, 148, 149, 150, 151, 152, 153, 154, 155, 156, 157, 158, 159, 160, 161, 162, 163, 164, 165, 166, 167, 168, 169, 170, 171, 172, 173, 174, 175, 176, 177, 178, 179, 180, 181, 182, 183, 184, 185, 186, 187, 188, 189, 190, 191, 192, 193, 194, 195] (by decide +kernel) (by decide +kernel)) (goodIn_sub (fun _ h => List.mem_cons_of_mem _ (List.mem_append_right _ h)) (by decide +kernel))
set_option maxRecDepth 20000 in
theorem gL_simulate_X5_simulate : GoodIn wsL_simulate (wsV RL 89 RX5 yX5_simulate wsX5_simulate) := goodIn_app (goodIn_of _ (by decide +kernel)) ggL_simulate_X5_simulate
theorem dL_simulate_0 : decode cL_simulate 0 = .ok (.aload 4, 2) := by decide +kernel
theorem dL_simulate_2 : decode cL_simulate 2 = .ok (.iconst 0, 1) := by decide +kernel
theorem dL_simulate_3 : decode cL_simulate 3 = .ok (.aload_n 0, 1) := by decide +kernel
theorem dL_simulate_4 : decode cL_simulate 4 = .ok (.lload_n 1, 1) := by decide +kernel
theorem dL_simulate_5 : decode cL_simulate 5 = .ok (.iload_n 3, 1) := by decide +kernel
theorem dL_simulate_6 : decode cL_simulate 6 = .ok (.invokevirtual 89, 3) := by decide +kernel
theorem dL_simulate_9 : decode cL_simulate 9 = .ok (.i2l, 1) := by decide +kernel
theorem dL_simulate_10 : decode cL_simulate 10 = .ok (.lastore, 1) := by decide +kernel
theorem dL_simulate_11 : decode cL_simulate 11 = .ok (.goto 7, 3) := by decide +kernel
theorem dL_simulate_14 : decode cL_simulate 14 = .ok (.astore 5, 2) := by decide +kernel
theorem dL_simulate_16 : decode cL_simulate 16 = .ok (.iconst 1, 1) := by decide +kernel
theorem dL_simulate_17 : decode cL_simulate 17 = .ok (.ireturn, 1) := by decide +kernel
theorem dL_simulate_18 : decode cL_simulate 18 = .ok (.iconst 0, 1) := by decide +kernel
theorem dL_simulate_19 : decode cL_simulate 19 = .ok (.ireturn, 1) := by decide +kernel
set_option maxRecDepth 20000 in
theorem ggL_save_X5_save : GoodIn wsL_save wsX5_save := goodIn_ca (goodIn_r _ [6, 7, 8, 9, 10, 11, 5, 12, 13, 14, 15, 16, 17, 18, 19, 20, 21, 22, 23, 24, 25, 26, 27, 28, 29, 30, 31, 32, 33, 34, 35, 36, 37, 38, 39, 40, 41, 42, 43, 44, 45, 46, 47, 48, 49, 50, 51, 52, 53, 54, 55, 56, 57, 58, 59, 60, 61, 62, 63, 64, 65, 66, 67] (by decide +kernel) (by decide +kernel)) (goodIn_sub (fun _ h => List.mem_cons_of_mem _ (List.mem_append_right _ h)) (by decide +kernel))
set_option maxRecDepth 20000 in
theorem gL_save_X5_save : GoodIn wsL_save (wsV RL 93 RX5 yX5_save wsX5_save) := goodIn_app (goodIn_of _ (by decide +kernel)) ggL_save_X5_save
theorem dL_save_0 : decode cL_save 0 = .ok (.aload_n 2, 1) := by decide +kernel
theorem dL_save_1 : decode cL_save 1 = .ok (.iconst 0, 1) := by decide +kernel
theorem dL_save_2 : decode cL_save 2 = .ok (.aload_n 0, 1) := by decide +kernel
theorem dL_save_3 : decode cL_save 3 = .ok (.iload_n 1, 1) := by decide +kernel
theorem dL_save_4 : decode cL_save 4 = .ok (.invokevirtual 93, 3) := by decide +kernel
theorem dL_save_7 : decode cL_save 7 = .ok (.i2l, 1) := by decide +kernel
theorem dL_save_8 : decode cL_save 8 = .ok (.lastore, 1) := by decide +kernel
theorem dL_save_9 : decode cL_save 9 = .ok (.goto 6, 3) := by decide +kernel
theorem dL_save_12 : decode cL_save 12 = .ok (.astore_n 3, 1) := by decide +kernel
theorem dL_save_13 : decode cL_save 13 = .ok (.iconst 1, 1) := by decide +kernel
theorem dL_save_14 : decode cL_save 14 = .ok (.ireturn, 1) := by decide +kernel
theorem dL_save_15 : decode cL_save 15 = .ok (.iconst 0, 1) := by decide +kernel
theorem dL_save_16 : decode cL_save 16 = .ok (.ireturn, 1) := by decide +kernel
set_option maxRecDepth 20000 in
theorem ggL_restore_X5_restore : GoodIn wsL_restore wsX5_restore := goodIn_ca (goodIn_ca (goodIn_r _ [7, 8, 9, 10, 11, 12, 13, 14, 15, 6, 16, 17, 18, 19, 20, 21, 22, 23, 24, 25, 26, 27, 28, 29, 30, 31, 32, 33, 34, 35, 36, 37, 38, 39, 40, 41, 42, 43, 44, 45, 46, 47, 48, 49, 50, 51, 52, 53, 54, 55, 56, 57, 58, 59, 60, 61, 62, 63, 64, 65, 66, 67, 68, 69, 70, 71, 72, 73, 74, 75, 76, 77, 78, 79, 80] (by decide +kernel) (by decide +kernel)) (goodIn_sub (fun _ h => List.mem_cons_of_mem _ (List.mem_append_left _ (List.mem_append_right _ h))) (by decide +kernel))) (goodIn_sub (fun _ h => List.mem_cons_of_mem _ (List.mem_append_right _ h)) (by decide +kernel))
set_option maxRecDepth 20000 in
theorem gL_restore_X5_restore : GoodIn wsL_restore (wsV RL 96 RX5 yX5_restore wsX5_restore) := goodIn_app (goodIn_of _ (by decide +kernel)) ggL_restore_X5_restore
theorem dL_restore_0 : decode cL_restore 0 = .ok (.aload_n 2, 1) := by decide +kernel
theorem dL_restore_1 : decode cL_restore 1 = .ok (.iconst 0, 1) := by decide +kernel
theorem dL_restore_2 : decode cL_restore 2 = .ok (.aload_n 0, 1) := by decide +kernel
theorem dL_restore_3 : decode cL_restore 3 = .ok (.iload_n 1, 1) := by decide +kernel
theorem dL_restore_4 : decode cL_restore 4 = .ok (.invokevirtual 96, 3) := by decide +kernel
theorem dL_restore_7 : decode cL_restore 7 = .ok (.i2l, 1) := by decide +kernel
theorem dL_restore_8 : decode cL_restore 8 = .ok (.lastore, 1) := by decide +kernel
theorem dL_restore_9 : decode cL_restore 9 = .ok (.goto 9, 3) := by decide +kernel
theorem dL_restore_12 : decode cL_restore 12 = .ok (.astore_n 3, 1) := by decide +kernel
theorem dL_restore_13 : decode cL_restore 13 = .ok (.iconst 1, 1) := by decide +kernel
theorem dL_restore_14 : decode cL_restore 14 = .ok (.ireturn, 1) := by decide +kernel
theorem dL_restore_15 : decode cL_restore 15 = .ok (.astore_n 3, 1) := by decide +kernel
theorem dL_restore_16 : decode cL_restore 16 = .ok (.iconst 2, 1) := by decide +kernel
theorem dL_restore_17 : decode cL_restore 17 = .ok (.ireturn, 1) := by decide +kernel
theorem dL_restore_18 : decode cL_restore 18 = .ok (.iconst 0, 1) := by decide +kernel
theorem dL_restore_19 : decode cL_restore 19 = .ok (.ireturn, 1) := by decide +kernel
set_option maxRecDepth 20000 in
theorem ggL_law_X5_init : GoodIn wsL_law wsX5_init := goodIn_r _ [10, 11, 12, 13, 14, 15, 16, 17, 18, 19, 20, 21, 22, 23, 24, 25, 26, 27, 28, 29, 30, 31, 32, 33, 34, 35, 36, 37, 38, 39, 40, 41, 42, 43, 44, 45, 46, 47, 48, 49, 50, 51, 52, 53, 54, 55, 56, 57, 58, 59, 60, 61, 62, 63, 64, 65, 66, 67, 68, 69, 70, 71, 72, 73, 74, 75, 76, 77, 78, 79, 80, 81, 82, 83, 84, 85, 86, 87, 88, 89, 983, 984, 962, 963, 964, 965, 966, 967, 968, 985, 986, 987, 988, 989, 990, 991, 992, 993, 994, 995, 996, 997, 998, 999, 1000, 1001, 1002, 1003, 1004, 1005, 1006, 1007, 1008, 1009, 1010, 1011] (by decide +kernel) (by decide +kernel)
set_option maxRecDepth 20000 in
theorem gL_law_X5_init : GoodIn wsL_law (wsX5_init) := ggL_law_X5_init
set_option maxRecDepth 20000 in
theorem ggL_law_X6_init : GoodIn wsL_law wsX6_init := goodIn_r _ [92, 93, 12, 13, 46, 94, 95, 96, 97, 35, 98, 99, 100, 101, 102, 103, 104, 5, 105, 106, 107, 108, 969, 970, 971, 972, 973, 974, 975, 976, 977, 978, 979, 980, 981, 982] (by decide +kernel) (by decide +kernel)
set_option maxRecDepth 20000 in
theorem gL_law_X6_init : GoodIn wsL_law (wsX6_init) := ggL_law_X6_init
set_option maxRecDepth 20000 in
theorem ggL_law_L_append : GoodIn wsL_law wsL_append := goodIn_ca (goodIn_ca (goodIn_r _ [112, 113, 114, 115, 116, 117, 2, 118, 119, 120, 17, 121, 122, 123, 124, 125, 126, 127, 128, 16, 129, 130, 131, 132, 133, 134, 41, 135, 136, 137, 138, 139, 962, 963, 964, 965, 966, 967, 968, 983, 984] (by decide +kernel) (by decide +kernel)) (goodIn_sub (fun _ h => List.mem_append_left _ (List.mem_append_left _ (List.mem_append_right _ h))) (by decide +kernel))) (goodIn_sub (fun _ h => List.mem_append_left _ (List.mem_append_right _ h)) (by decide +kernel))
set_option maxRecDepth 20000 in
theorem gL_law_L_append : GoodIn wsL_law (va_wsS RL 103 yL_append wsL_append) := goodIn_app (goodIn_of _ (by decide +kernel)) ggL_law_L_append
set_option maxRecDepth 20000 in
theorem ggL_law_X6_append : GoodIn wsL_law wsX6_append := goodIn_r _ [143, 144, 145, 99, 106, 107, 5, 108, 146, 147, 148, 149, 969, 970, 971, 972, 973, 974, 975, 976, 977, 978, 979, 980, 981, 982] (by decide +kernel) (by decide +kernel)
set_option maxRecDepth 20000 in
theorem gL_law_X6_append : GoodIn wsL_law (wsV RL 108 RX6 yX6_append wsX6_append) := goodIn_app (goodIn_of _ (by decide +kernel)) ggL_law_X6_append
set_option maxRecDepth 20000 in
theorem ggL_law_X6_thrown : GoodIn wsL_law wsX6_thrown := goodIn_r _ [153, 144, 969, 970, 971, 972, 973, 974, 975, 976, 977, 978, 979, 980, 981, 982] (by decide +kernel) (by decide +kernel)
set_option maxRecDepth 20000 in
theorem gL_law_X6_thrown : GoodIn wsL_law (wsV RL 109 RX6 yX6_thrown wsX6_thrown) := goodIn_app (goodIn_of _ (by decide +kernel)) ggL_law_X6_thrown
set_option maxRecDepth 20000 in
theorem ggL_law_X5_clearText : GoodIn wsL_law wsX5_clearText := goodIn_r _ [157, 17, 136, 137, 138, 16, 139, 130, 158, 159, 160, 161, 962, 963, 964, 965, 966, 967, 968, 983, 984] (by decide +kernel) (by decide +kernel)
set_option maxRecDepth 20000 in
theorem gL_law_X5_clearText : GoodIn wsL_law (wsV RL 112 RX5 yX5_clearText wsX5_clearText) := goodIn_app (goodIn_of _ (by decide +kernel)) ggL_law_X5_clearText
set_option maxRecDepth 20000 in
theorem ggL_law_X6_clearText : GoodIn wsL_law wsX6_clearText := goodIn_r _ [165, 144, 145, 969, 970, 971, 972, 973, 974, 975, 976, 977, 978, 979, 980, 981, 982] (by decide +kernel) (by decide +kernel)
set_option maxRecDepth 20000 in
theorem gL_law_X6_clearText : GoodIn wsL_law (wsV RL 115 RX6 yX6_clearText wsX6_clearText) := goodIn_app (goodIn_of _ (by decide +kernel)) ggL_law_X6_clearText
set_option maxRecDepth 20000 in
theorem ggL_law_X5_errorPosition : GoodIn wsL_law wsX5_errorPosition := goodIn_r _ [169, 17, 170, 171, 172, 16, 173, 130, 41, 174, 175, 176, 177, 178, 179, 180, 181, 182, 183, 184, 185, 186, 187, 188, 189, 962, 963, 964, 965, 966, 967, 968, 983, 984] (by decide +kernel) (by decide +kernel)
set_option maxRecDepth 20000 in
theorem gL_law_X5_errorPosition : GoodIn wsL_law (wsV RL 116 RX5 yX5_errorPosition wsX5_errorPosition) := goodIn_app (goodIn_of _ (by decide +kernel)) ggL_law_X5_errorPosition
set_option maxRecDepth 20000 in
theorem ggL_law_X6_errorPosition : GoodIn wsL_law wsX6_errorPosition := goodIn_r _ [193, 144, 194, 195, 196, 197, 5, 198, 199, 145, 200, 201, 202, 203, 99, 106, 107, 108, 204, 205, 206, 207, 102, 208, 209, 210, 211, 969, 970, 971, 972, 973, 974, 975, 976, 977, 978, 979, 980, 981, 982] (by decide +kernel) (by decide +kernel)
set_option maxRecDepth 20000 in
theorem gL_law_X6_errorPosition : GoodIn wsL_law (wsV RL 119 RX6 yX6_errorPosition wsX6_errorPosition) := goodIn_app (goodIn_of _ (by decide +kernel)) ggL_law_X6_errorPosition
set_option maxRecDepth 20000 in
theorem ggL_law_L_load : GoodIn wsL_law wsL_load := goodIn_ca (goodIn_r _ [214, 114, 215, 216, 217, 2, 218, 119, 120, 17, 21, 33, 36, 25, 170, 171, 172, 16, 173, 130, 41, 174, 175, 176, 177, 178, 179, 180, 181, 182, 183, 184, 185, 186, 187, 188, 189, 219, 58, 59, 20, 60, 47, 48, 49, 50, 51, 52, 53, 54, 55, 56, 61, 62, 63, 64, 65, 66, 67, 68, 69, 70, 220, 221, 222, 32, 223, 224, 225, 226, 227, 228, 229, 230, 231, 232, 233, 234, 235, 236, 237, 238, 239, 240, 241, 242, 243, 244, 245, 246, 247, 248, 249, 250, 251, 252, 253, 254, 255, 256, 257, 258, 259, 260, 261, 262, 263, 264, 265, 266, 267, 268, 269, 270, 271, 272, 273, 274, 275, 276, 277, 278, 279, 280, 281, 282, 283, 284, 285, 286, 287, 288, 289, 290, 291, 292, 293, 294, 295, 296, 297, 298, 24, 299, 300, 301, 75, 74, 302, 303, 304, 305, 306, 307, 308, 309, 310, 311, 312, 313, 314, 315, 316, 317, 318, 319, 320, 321, 322, 323, 324, 325, 326, 327, 328, 329, 330, 331, 332, 333, 334, 335, 336, 337, 76, 338, 339, 340, 341, 342, 343, 344, 345, 346, 347, 348, 349, 350, 351, 352, 353, 962, 963, 964, 965, 966, 967, 968, 983, 984, 985, 986, 987, 988, 989, 990, 991, 992, 993, 994, 995, 996, 997, 998, 999, 1000, 1001, 1009, 1010, 1011, 1002, 1003, 1004, 1005, 1006, 1007] (by decide +kernel) (by decide +kernel)) (goodIn_sub (fun _ h => List.mem_append_left _ (List.mem_append_left _ (List.mem_append_right _ h))) (by decide +kernel))
set_option maxRecDepth 20000 in
theorem gL_law_L_load : GoodIn wsL_law (va_wsS RL 120 yL_load wsL_load) := goodIn_app (goodIn_of _ (by decide +kernel)) ggL_law_L_load
set_option maxRecDepth 20000 in
theorem ggL_law_X6_load : GoodIn wsL_law wsX6_load := goodIn_r _ [357, 144, 94, 358, 98, 199, 195, 196, 197, 5, 198, 194, 145, 200, 201, 202, 203, 99, 106, 107, 108, 204, 205, 206, 207, 102, 208, 209, 210, 211, 146, 147, 148, 149, 103, 104, 105, 359, 360, 361, 362, 363, 364, 365, 366, 367, 368, 369, 370, 371, 372, 373, 374, 375, 376, 377, 378, 379, 101, 380, 381, 382, 383, 100, 384, 385, 386, 387, 388, 389, 390, 391, 392, 393, 394, 395, 396, 397, 398, 399, 400, 401, 402, 403, 404, 405, 406, 407, 408, 409, 410, 411, 969, 970, 971, 972, 973, 974, 975, 976, 977, 978, 979, 980, 981, 982] (by decide +kernel) (by decide +kernel)
set_option maxRecDepth 20000 in
theorem gL_law_X6_load : GoodIn wsL_law (wsV RL 123 RX6 yX6_load wsX6_load) := goodIn_app (goodIn_of _ (by decide +kernel)) ggL_law_X6_load
set_option maxRecDepth 20000 in
theorem ggL_law_L_about : GoodIn wsL_law wsL_about := goodIn_ca (goodIn_r _ [414, 113, 415, 416, 417, 2, 418, 124, 125, 21, 419, 281, 282, 20, 283, 61, 420, 305, 306, 307, 62, 421, 422, 423, 424, 63, 425, 426, 427, 428, 64, 429, 430, 431, 432, 65, 433, 434, 435, 436, 52, 437, 438, 439, 440, 67, 441, 442, 443, 444, 66, 962, 963, 964, 965, 966, 967, 968, 985, 986, 987, 988, 989, 990, 991, 992, 993, 994, 995, 996, 997, 998, 999, 1000, 1001] (by decide +kernel) (by decide +kernel)) (goodIn_sub (fun _ h => List.mem_append_left _ (List.mem_append_right _ h)) (by decide +kernel))
set_option maxRecDepth 20000 in
theorem gL_law_L_about : GoodIn wsL_law (va_wsS RL 124 yL_about wsL_about) := goodIn_app (goodIn_of _ (by decide +kernel)) ggL_law_L_about
set_option maxRecDepth 20000 in
theorem ggL_law_X6_about : GoodIn wsL_law wsX6_about := goodIn_r _ [448, 144, 94, 106, 107, 5, 108, 146, 147, 148, 149, 969, 970, 971, 972, 973, 974, 975, 976, 977, 978, 979, 980, 981, 982] (by decide +kernel) (by decide +kernel)
set_option maxRecDepth 20000 in
theorem gL_law_X6_about : GoodIn wsL_law (wsV RL 126 RX6 yX6_about wsX6_about) := goodIn_app (goodIn_of _ (by decide +kernel)) ggL_law_X6_about
set_option maxRecDepth 20000 in
theorem ggL_law_L_role : GoodIn wsL_law wsL_role := goodIn_ca (goodIn_ca (goodIn_r _ [451, 452, 113, 453, 454, 455, 2, 456, 124, 125, 21, 25, 457, 458, 459, 460, 461, 462, 463, 262, 263, 20, 264, 61, 464, 465, 466, 467, 47, 468, 469, 470, 471, 48, 472, 289, 290, 291, 62, 292, 293, 294, 295, 54, 63, 53, 56, 473, 297, 298, 24, 299, 300, 301, 75, 74, 302, 303, 281, 282, 283, 304, 305, 306, 307, 308, 309, 310, 311, 312, 313, 314, 50, 265, 266, 267, 315, 316, 317, 318, 319, 320, 321, 322, 323, 324, 325, 326, 327, 328, 329, 330, 331, 332, 333, 334, 335, 336, 337, 76, 474, 343, 344, 345, 475, 476, 477, 478, 67, 49, 479, 480, 481, 482, 962, 963, 964, 965, 966, 967, 968, 985, 986, 987, 988, 989, 990, 991, 992, 993, 994, 995, 996, 997, 998, 999, 1000, 1001, 1002, 1003, 1004, 1005, 1006, 1007] (by decide +kernel) (by decide +kernel)) (goodIn_sub (fun _ h => List.mem_append_left _ (List.mem_append_right _ h)) (by decide +kernel))) (goodIn_sub (fun _ h => List.mem_append_right _ h) (by decide +kernel))
set_option maxRecDepth 20000 in
theorem gL_law_L_role : GoodIn wsL_law (va_wsS RL 127 yL_role wsL_role) := goodIn_app (goodIn_of _ (by decide +kernel)) ggL_law_L_role
set_option maxRecDepth 20000 in
theorem ggL_law_X6_role : GoodIn wsL_law wsX6_role := goodIn_r _ [486, 144, 94, 406, 407, 5, 408, 106, 107, 108, 146, 147, 148, 149, 487, 488, 489, 490, 491, 492, 493, 494, 101, 380, 381, 382, 383, 100, 384, 385, 386, 387, 388, 389, 390, 391, 392, 393, 394, 395, 396, 397, 398, 399, 400, 401, 402, 969, 970, 971, 972, 973, 974, 975, 976, 977, 978, 979, 980, 981, 982] (by decide +kernel) (by decide +kernel)
set_option maxRecDepth 20000 in
theorem gL_law_X6_role : GoodIn wsL_law (wsV RL 130 RX6 yX6_role wsX6_role) := goodIn_app (goodIn_of _ (by decide +kernel)) ggL_law_X6_role
set_option maxRecDepth 20000 in
theorem ggL_law_L_player : GoodIn wsL_law wsL_player := goodIn_ca (goodIn_ca (goodIn_r _ [497, 452, 113, 498, 499, 500, 2, 501, 124, 125, 21, 25, 502, 503, 504, 505, 461, 462, 506, 258, 259, 20, 260, 62, 507, 508, 509, 510, 52, 511, 512, 513, 514, 53, 515, 516, 517, 518, 54, 63, 519, 327, 328, 329, 520, 293, 294, 295, 56, 521, 522, 523, 524, 55, 472, 289, 290, 291, 292, 473, 297, 298, 24, 299, 300, 301, 75, 74, 302, 303, 281, 282, 283, 61, 304, 305, 306, 307, 308, 309, 310, 311, 312, 313, 314, 50, 47, 48, 265, 266, 267, 315, 316, 317, 318, 319, 320, 321, 322, 323, 324, 325, 326, 330, 331, 332, 333, 334, 335, 336, 337, 76, 525, 351, 352, 353, 962, 963, 964, 965, 966, 967, 968, 985, 986, 987, 988, 989, 990, 991, 992, 993, 994, 995, 996, 997, 998, 999, 1000, 1001, 1002, 1003, 1004, 1005, 1006, 1007] (by decide +kernel) (by decide +kernel)) (goodIn_sub (fun _ h => List.mem_append_left _ (List.mem_append_right _ h)) (by decide +kernel))) (goodIn_sub (fun _ h => List.mem_append_right _ h) (by decide +kernel))
set_option maxRecDepth 20000 in
theorem gL_law_L_player : GoodIn wsL_law (va_wsS RL 131 yL_player wsL_player) := goodIn_app (goodIn_of _ (by decide +kernel)) ggL_law_L_player
set_option maxRecDepth 20000 in
theorem ggL_law_X6_player : GoodIn wsL_law wsX6_player := goodIn_r _ [529, 144, 94, 409, 410, 5, 411, 106, 107, 108, 146, 147, 148, 149, 530, 531, 532, 533, 101, 380, 381, 382, 383, 100, 384, 385, 386, 387, 388, 389, 390, 391, 392, 393, 394, 395, 396, 397, 398, 399, 400, 401, 402, 969, 970, 971, 972, 973, 974, 975, 976, 977, 978, 979, 980, 981, 982] (by decide +kernel) (by decide +kernel)
set_option maxRecDepth 20000 in
theorem gL_law_X6_player : GoodIn wsL_law (wsV RL 133 RX6 yX6_player wsX6_player) := goodIn_app (goodIn_of _ (by decide +kernel)) ggL_law_X6_player
set_option maxRecDepth 20000 in
theorem ggL_law_L_both : GoodIn wsL_law wsL_both := goodIn_ca (goodIn_ca (goodIn_r _ [536, 452, 113, 537, 538, 539, 2, 540, 124, 125, 21, 502, 503, 504, 505, 461, 462, 506, 258, 259, 20, 260, 62, 457, 458, 459, 460, 463, 262, 263, 264, 61, 541, 542, 543, 544, 50, 265, 266, 267, 545, 546, 547, 548, 51, 549, 312, 313, 314, 47, 48, 962, 963, 964, 965, 966, 967, 968, 985, 986, 987, 988, 989, 990, 991, 992, 993, 994, 995, 996, 997, 998, 999, 1000, 1001] (by decide +kernel) (by decide +kernel)) (goodIn_sub (fun _ h => List.mem_append_left _ (List.mem_append_right _ h)) (by decide +kernel))) (goodIn_sub (fun _ h => List.mem_append_right _ h) (by decide +kernel))
set_option maxRecDepth 20000 in
theorem gL_law_L_both : GoodIn wsL_law (va_wsS RL 134 yL_both wsL_both) := goodIn_app (goodIn_of _ (by decide +kernel)) ggL_law_L_both
set_option maxRecDepth 20000 in
theorem ggL_law_X6_both : GoodIn wsL_law wsX6_both := goodIn_r _ [553, 144, 94, 409, 410, 5, 411, 106, 107, 108, 406, 407, 408, 146, 147, 148, 149, 397, 398, 399, 400, 401, 402, 969, 970, 971, 972, 973, 974, 975, 976, 977, 978, 979, 980, 981, 982] (by decide +kernel) (by decide +kernel)
set_option maxRecDepth 20000 in
theorem gL_law_X6_both : GoodIn wsL_law (wsV RL 137 RX6 yX6_both wsX6_both) := goodIn_app (goodIn_of _ (by decide +kernel)) ggL_law_X6_both
set_option maxRecDepth 20000 in
theorem ggL_law_L_setting : GoodIn wsL_law wsL_setting := goodIn_ca (goodIn_r _ [556, 113, 557, 558, 559, 2, 560, 21, 121, 122, 123, 124, 125, 561, 562, 563, 20, 564, 56, 962, 963, 964, 965, 966, 967, 968, 985, 986, 987, 988, 989, 990, 991, 992, 993, 994, 995, 996, 997, 998, 999, 1000, 1001] (by decide +kernel) (by decide +kernel)) (goodIn_sub (fun _ h => List.mem_append_left _ (List.mem_append_right _ h)) (by decide +kernel))
set_option maxRecDepth 20000 in
theorem gL_law_L_setting : GoodIn wsL_law (va_wsS RL 138 yL_setting wsL_setting) := goodIn_app (goodIn_of _ (by decide +kernel)) ggL_law_L_setting
set_option maxRecDepth 20000 in
theorem ggL_law_X6_setting : GoodIn wsL_law wsX6_setting := goodIn_r _ [568, 144, 94, 106, 107, 5, 108, 146, 147, 148, 149, 969, 970, 971, 972, 973, 974, 975, 976, 977, 978, 979, 980, 981, 982] (by decide +kernel) (by decide +kernel)
set_option maxRecDepth 20000 in
theorem gL_law_X6_setting : GoodIn wsL_law (wsV RL 140 RX6 yX6_setting wsX6_setting) := goodIn_app (goodIn_of _ (by decide +kernel)) ggL_law_X6_setting
set_option maxRecDepth 20000 in
theorem ggL_law_L_ranked : GoodIn wsL_law wsL_ranked := goodIn_ca (goodIn_r _ [571, 113, 572, 573, 574, 2, 575, 124, 125, 21, 576, 577, 578, 20, 579, 62, 580, 581, 582, 583, 52, 962, 963, 964, 965, 966, 967, 968, 985, 986, 987, 988, 989, 990, 991, 992, 993, 994, 995, 996, 997, 998, 999, 1000, 1001] (by decide +kernel) (by decide +kernel)) (goodIn_sub (fun _ h => List.mem_append_left _ (List.mem_append_right _ h)) (by decide +kernel))
set_option maxRecDepth 20000 in
theorem gL_law_L_ranked : GoodIn wsL_law (va_wsS RL 141 yL_ranked wsL_ranked) := goodIn_app (goodIn_of _ (by decide +kernel)) ggL_law_L_ranked
set_option maxRecDepth 20000 in
theorem ggL_law_X6_ranked : GoodIn wsL_law wsX6_ranked := goodIn_r _ [587, 144, 94, 146, 147, 148, 5, 149, 969, 970, 971, 972, 973, 974, 975, 976, 977, 978, 979, 980, 981, 982] (by decide +kernel) (by decide +kernel)
set_option maxRecDepth 20000 in
theorem gL_law_X6_ranked : GoodIn wsL_law (wsV RL 143 RX6 yX6_ranked wsX6_ranked) := goodIn_app (goodIn_of _ (by decide +kernel)) ggL_law_X6_ranked
set_option maxRecDepth 20000 in
theorem ggL_law_L_addRole : GoodIn wsL_law wsL_addRole := goodIn_ca (goodIn_ca (goodIn_r _ [590, 113, 114, 591, 592, 593, 2, 594, 119, 120, 21, 33, 121, 122, 123, 124, 125, 595, 242, 243, 20, 244, 61, 67, 596, 597, 598, 32, 599, 88, 600, 224, 601, 602, 603, 604, 47, 48, 49, 50, 51, 52, 53, 54, 55, 56, 62, 63, 64, 65, 66, 605, 606, 607, 608, 238, 239, 240, 241, 419, 281, 282, 283, 962, 963, 964, 965, 966, 967, 968, 985, 986, 987, 988, 989, 990, 991, 992, 993, 994, 995, 996, 997, 998, 999, 1000, 1001, 1009, 1010, 1011] (by decide +kernel) (by decide +kernel)) (goodIn_sub (fun _ h => List.mem_append_left _ (List.mem_append_left _ (List.mem_append_right _ h))) (by decide +kernel))) (goodIn_sub (fun _ h => List.mem_append_left _ (List.mem_append_right _ h)) (by decide +kernel))
set_option maxRecDepth 20000 in
theorem gL_law_L_addRole : GoodIn wsL_law (va_wsS RL 144 yL_addRole wsL_addRole) := goodIn_app (goodIn_of _ (by decide +kernel)) ggL_law_L_addRole
set_option maxRecDepth 20000 in
theorem ggL_law_X6_addRole : GoodIn wsL_law wsX6_addRole := goodIn_r _ [612, 144, 94, 106, 107, 5, 108, 146, 147, 148, 149, 613, 614, 615, 616, 358, 96, 617, 618, 619, 363, 364, 365, 366, 969, 970, 971, 972, 973, 974, 975, 976, 977, 978, 979, 980, 981, 982] (by decide +kernel) (by decide +kernel)
set_option maxRecDepth 20000 in
theorem gL_law_X6_addRole : GoodIn wsL_law (wsV RL 146 RX6 yX6_addRole wsX6_addRole) := goodIn_app (goodIn_of _ (by decide +kernel)) ggL_law_X6_addRole
set_option maxRecDepth 20000 in
theorem ggL_law_L_addPlayer : GoodIn wsL_law wsL_addPlayer := goodIn_ca (goodIn_r _ [622, 114, 623, 624, 625, 2, 626, 119, 120, 21, 33, 627, 250, 251, 20, 252, 62, 596, 597, 598, 32, 599, 88, 600, 224, 601, 602, 603, 604, 47, 48, 49, 50, 51, 52, 53, 54, 55, 56, 61, 63, 64, 65, 66, 67, 605, 606, 607, 628, 246, 247, 248, 249, 420, 305, 306, 307, 962, 963, 964, 965, 966, 967, 968, 985, 986, 987, 988, 989, 990, 991, 992, 993, 994, 995, 996, 997, 998, 999, 1000, 1001, 1009, 1010, 1011] (by decide +kernel) (by decide +kernel)) (goodIn_sub (fun _ h => List.mem_append_left _ (List.mem_append_left _ (List.mem_append_right _ h))) (by decide +kernel))
set_option maxRecDepth 20000 in
theorem gL_law_L_addPlayer : GoodIn wsL_law (va_wsS RL 147 yL_addPlayer wsL_addPlayer) := goodIn_app (goodIn_of _ (by decide +kernel)) ggL_law_L_addPlayer
set_option maxRecDepth 20000 in
theorem ggL_law_X6_addPlayer : GoodIn wsL_law wsX6_addPlayer := goodIn_r _ [632, 144, 94, 146, 147, 148, 5, 149, 613, 614, 615, 616, 358, 96, 617, 618, 619, 969, 970, 971, 972, 973, 974, 975, 976, 977, 978, 979, 980, 981, 982] (by decide +kernel) (by decide +kernel)
set_option maxRecDepth 20000 in
theorem gL_law_X6_addPlayer : GoodIn wsL_law (wsV RL 149 RX6 yX6_addPlayer wsX6_addPlayer) := goodIn_app (goodIn_of _ (by decide +kernel)) ggL_law_X6_addPlayer
set_option maxRecDepth 20000 in
theorem ggL_law_L_ready : GoodIn wsL_law wsL_ready := goodIn_ca (goodIn_ca (goodIn_r _ [635, 452, 113, 636, 637, 638, 2, 639, 33, 21, 502, 503, 504, 505, 461, 462, 506, 258, 259, 20, 260, 62, 457, 458, 459, 460, 463, 262, 263, 264, 61, 121, 122, 123, 124, 125, 596, 597, 598, 32, 599, 88, 600, 224, 601, 602, 603, 604, 47, 48, 49, 50, 51, 52, 53, 54, 55, 56, 63, 64, 65, 66, 67, 605, 606, 607, 541, 542, 543, 544, 265, 266, 267, 640, 254, 255, 256, 257, 261, 962, 963, 964, 965, 966, 967, 968, 985, 986, 987, 988, 989, 990, 991, 992, 993, 994, 995, 996, 997, 998, 999, 1000, 1001, 1009, 1010, 1011] (by decide +kernel) (by decide +kernel)) (goodIn_sub (fun _ h => List.mem_append_right _ h) (by decide +kernel))) (goodIn_sub (fun _ h => List.mem_append_left _ (List.mem_append_right _ h)) (by decide +kernel))
set_option maxRecDepth 20000 in
theorem gL_law_L_ready : GoodIn wsL_law (va_wsS RL 150 yL_ready wsL_ready) := goodIn_app (goodIn_of _ (by decide +kernel)) ggL_law_L_ready
set_option maxRecDepth 20000 in
theorem ggL_law_X6_ready : GoodIn wsL_law wsX6_ready := goodIn_r _ [644, 144, 94, 409, 410, 5, 411, 106, 107, 108, 406, 407, 408, 146, 147, 148, 149, 613, 614, 615, 616, 358, 96, 617, 618, 619, 397, 398, 399, 969, 970, 971, 972, 973, 974, 975, 976, 977, 978, 979, 980, 981, 982] (by decide +kernel) (by decide +kernel)
set_option maxRecDepth 20000 in
theorem gL_law_X6_ready : GoodIn wsL_law (wsV RL 152 RX6 yX6_ready wsX6_ready) := goodIn_app (goodIn_of _ (by decide +kernel)) ggL_law_X6_ready
set_option maxRecDepth 20000 in
theorem ggL_law_L_first : GoodIn wsL_law wsL_first := goodIn_ca (goodIn_r _ [647, 452, 648, 649, 650, 2, 651, 33, 21, 457, 458, 459, 460, 461, 462, 463, 262, 263, 20, 264, 61, 502, 503, 504, 505, 506, 258, 259, 260, 62, 596, 597, 598, 32, 599, 88, 600, 224, 601, 602, 603, 604, 47, 48, 49, 50, 51, 52, 53, 54, 55, 56, 63, 64, 65, 66, 67, 605, 606, 607, 468, 469, 470, 471, 652, 269, 270, 271, 261, 257, 962, 963, 964, 965, 966, 967, 968, 985, 986, 987, 988, 989, 990, 991, 992, 993, 994, 995, 996, 997, 998, 999, 1000, 1001, 1009, 1010, 1011] (by decide +kernel) (by decide +kernel)) (goodIn_sub (fun _ h => List.mem_append_right _ h) (by decide +kernel))
set_option maxRecDepth 20000 in
theorem gL_law_L_first : GoodIn wsL_law (va_wsS RL 153 yL_first wsL_first) := goodIn_app (goodIn_of _ (by decide +kernel)) ggL_law_L_first
set_option maxRecDepth 20000 in
theorem ggL_law_X6_first : GoodIn wsL_law wsX6_first := goodIn_r _ [656, 144, 94, 406, 407, 5, 408, 106, 107, 108, 409, 410, 411, 146, 147, 148, 149, 613, 614, 615, 616, 358, 96, 617, 618, 619, 969, 970, 971, 972, 973, 974, 975, 976, 977, 978, 979, 980, 981, 982] (by decide +kernel) (by decide +kernel)
set_option maxRecDepth 20000 in
theorem gL_law_X6_first : GoodIn wsL_law (wsV RL 155 RX6 yX6_first wsX6_first) := goodIn_app (goodIn_of _ (by decide +kernel)) ggL_law_X6_first
set_option maxRecDepth 20000 in
theorem ggL_law_L_away : GoodIn wsL_law wsL_away := goodIn_ca (goodIn_ca (goodIn_r _ [659, 452, 113, 660, 661, 662, 2, 663, 33, 21, 502, 503, 504, 505, 461, 462, 506, 258, 259, 20, 260, 62, 121, 122, 123, 124, 125, 596, 597, 598, 32, 599, 88, 600, 224, 601, 602, 603, 604, 47, 48, 49, 50, 51, 52, 53, 54, 55, 56, 61, 63, 64, 65, 66, 67, 605, 606, 607, 664, 273, 274, 275, 257, 421, 422, 423, 424, 962, 963, 964, 965, 966, 967, 968, 985, 986, 987, 988, 989, 990, 991, 992, 993, 994, 995, 996, 997, 998, 999, 1000, 1001, 1009, 1010, 1011] (by decide +kernel) (by decide +kernel)) (goodIn_sub (fun _ h => List.mem_append_right _ h) (by decide +kernel))) (goodIn_sub (fun _ h => List.mem_append_left _ (List.mem_append_right _ h)) (by decide +kernel))
set_option maxRecDepth 20000 in
theorem gL_law_L_away : GoodIn wsL_law (va_wsS RL 156 yL_away wsL_away) := goodIn_app (goodIn_of _ (by decide +kernel)) ggL_law_L_away
set_option maxRecDepth 20000 in
theorem ggL_law_X6_away : GoodIn wsL_law wsX6_away := goodIn_r _ [668, 144, 94, 409, 410, 5, 411, 106, 107, 108, 146, 147, 148, 149, 613, 614, 615, 616, 358, 96, 617, 618, 619, 969, 970, 971, 972, 973, 974, 975, 976, 977, 978, 979, 980, 981, 982] (by decide +kernel) (by decide +kernel)
set_option maxRecDepth 20000 in
theorem gL_law_X6_away : GoodIn wsL_law (wsV RL 158 RX6 yX6_away wsX6_away) := goodIn_app (goodIn_of _ (by decide +kernel)) ggL_law_X6_away
set_option maxRecDepth 20000 in
theorem ggL_law_L_post : GoodIn wsL_law wsL_post := goodIn_ca (goodIn_r _ [671, 114, 672, 673, 674, 2, 675, 119, 120, 21, 25, 33, 419, 281, 282, 20, 283, 61, 472, 289, 290, 291, 62, 292, 293, 294, 295, 54, 63, 53, 56, 473, 297, 298, 24, 299, 300, 301, 75, 74, 302, 303, 304, 305, 306, 307, 308, 309, 310, 311, 312, 313, 314, 50, 47, 48, 265, 266, 267, 315, 316, 317, 318, 319, 320, 321, 322, 323, 324, 325, 326, 327, 328, 329, 330, 331, 332, 333, 334, 335, 336, 337, 76, 596, 597, 598, 32, 599, 88, 600, 224, 601, 602, 603, 604, 49, 51, 52, 55, 64, 65, 66, 67, 605, 606, 607, 676, 677, 678, 679, 288, 296, 342, 343, 344, 345, 962, 963, 964, 965, 966, 967, 968, 985, 986, 987, 988, 989, 990, 991, 992, 993, 994, 995, 996, 997, 998, 999, 1000, 1001, 1002, 1003, 1004, 1005, 1006, 1007, 1009, 1010, 1011] (by decide +kernel) (by decide +kernel)) (goodIn_sub (fun _ h => List.mem_append_left _ (List.mem_append_left _ (List.mem_append_right _ h))) (by decide +kernel))
set_option maxRecDepth 20000 in
theorem gL_law_L_post : GoodIn wsL_law (va_wsS RL 159 yL_post wsL_post) := goodIn_app (goodIn_of _ (by decide +kernel)) ggL_law_L_post
set_option maxRecDepth 20000 in
theorem ggL_law_X6_post : GoodIn wsL_law wsX6_post := goodIn_r _ [683, 144, 94, 380, 381, 382, 5, 383, 100, 101, 384, 385, 386, 387, 388, 389, 390, 391, 392, 393, 394, 395, 396, 397, 398, 399, 400, 401, 402, 146, 147, 148, 149, 613, 614, 615, 616, 358, 96, 617, 618, 619, 684, 685, 686, 687, 969, 970, 971, 972, 973, 974, 975, 976, 977, 978, 979, 980, 981, 982] (by decide +kernel) (by decide +kernel)
set_option maxRecDepth 20000 in
theorem gL_law_X6_post : GoodIn wsL_law (wsV RL 161 RX6 yX6_post wsX6_post) := goodIn_app (goodIn_of _ (by decide +kernel)) ggL_law_X6_post
set_option maxRecDepth 20000 in
theorem ggL_law_L_play : GoodIn wsL_law wsL_play := goodIn_ca (goodIn_r _ [690, 114, 691, 692, 693, 2, 694, 33, 21, 25, 695, 696, 697, 698, 119, 120, 419, 281, 282, 20, 283, 61, 596, 597, 598, 32, 599, 88, 600, 224, 601, 602, 603, 604, 47, 48, 49, 50, 51, 52, 53, 54, 55, 56, 62, 63, 64, 65, 66, 67, 605, 606, 607, 699, 285, 286, 287, 288, 289, 290, 291, 292, 293, 294, 295, 296, 297, 298, 24, 299, 300, 301, 75, 74, 302, 303, 304, 305, 306, 307, 308, 309, 310, 311, 312, 313, 314, 265, 266, 267, 315, 316, 317, 318, 319, 320, 321, 322, 323, 324, 325, 326, 327, 328, 329, 330, 331, 332, 333, 334, 335, 336, 337, 76, 338, 339, 340, 341, 342, 343, 344, 345, 257, 258, 259, 260, 346, 347, 348, 349, 350, 351, 352, 353, 962, 963, 964, 965, 966, 967, 968, 985, 986, 987, 988, 989, 990, 991, 992, 993, 994, 995, 996, 997, 998, 999, 1000, 1001, 1009, 1010, 1011, 1002, 1003, 1004, 1005, 1006, 1007] (by decide +kernel) (by decide +kernel)) (goodIn_sub (fun _ h => List.mem_append_left _ (List.mem_append_left _ (List.mem_append_right _ h))) (by decide +kernel))
set_option maxRecDepth 20000 in
theorem gL_law_L_play : GoodIn wsL_law (va_wsS RL 162 yL_play wsL_play) := goodIn_app (goodIn_of _ (by decide +kernel)) ggL_law_L_play
set_option maxRecDepth 20000 in
theorem ggL_law_X6_play : GoodIn wsL_law wsX6_play := goodIn_r _ [703, 144, 94, 146, 147, 148, 5, 149, 613, 614, 615, 616, 358, 96, 617, 618, 619, 376, 377, 378, 379, 101, 380, 381, 382, 383, 100, 384, 385, 386, 387, 388, 389, 390, 391, 392, 393, 394, 395, 396, 397, 398, 399, 400, 401, 402, 403, 404, 405, 370, 371, 372, 969, 970, 971, 972, 973, 974, 975, 976, 977, 978, 979, 980, 981, 982] (by decide +kernel) (by decide +kernel)
set_option maxRecDepth 20000 in
theorem gL_law_X6_play : GoodIn wsL_law (wsV RL 164 RX6 yX6_play wsX6_play) := goodIn_app (goodIn_of _ (by decide +kernel)) ggL_law_X6_play
set_option maxRecDepth 20000 in
theorem ggL_law_L_dark : GoodIn wsL_law wsL_dark := goodIn_ca (goodIn_r _ [706, 113, 707, 708, 709, 2, 710, 33, 21, 121, 122, 123, 124, 125, 596, 597, 598, 32, 599, 88, 600, 224, 601, 602, 603, 20, 604, 47, 48, 49, 50, 51, 52, 53, 54, 55, 56, 61, 62, 63, 64, 65, 66, 67, 605, 606, 607, 711, 277, 278, 279, 68, 69, 70, 421, 422, 423, 424, 962, 963, 964, 965, 966, 967, 968, 1009, 1010, 1011, 985, 986, 987, 988, 989, 990, 991, 992, 993, 994, 995, 996, 997, 998, 999, 1000, 1001] (by decide +kernel) (by decide +kernel)) (goodIn_sub (fun _ h => List.mem_append_left _ (List.mem_append_right _ h)) (by decide +kernel))
set_option maxRecDepth 20000 in
theorem gL_law_L_dark : GoodIn wsL_law (va_wsS RL 165 yL_dark wsL_dark) := goodIn_app (goodIn_of _ (by decide +kernel)) ggL_law_L_dark
set_option maxRecDepth 20000 in
theorem ggL_law_X6_dark : GoodIn wsL_law wsX6_dark := goodIn_r _ [715, 144, 94, 106, 107, 5, 108, 146, 147, 148, 149, 613, 614, 615, 616, 358, 96, 617, 618, 619, 367, 368, 369, 370, 371, 372, 373, 374, 375, 969, 970, 971, 972, 973, 974, 975, 976, 977, 978, 979, 980, 981, 982] (by decide +kernel) (by decide +kernel)
set_option maxRecDepth 20000 in
theorem gL_law_X6_dark : GoodIn wsL_law (wsV RL 167 RX6 yX6_dark wsX6_dark) := goodIn_app (goodIn_of _ (by decide +kernel)) ggL_law_X6_dark
set_option maxRecDepth 20000 in
theorem ggL_law_L_promote : GoodIn wsL_law wsL_promote := goodIn_ca (goodIn_ca (goodIn_r _ [718, 452, 114, 719, 720, 721, 2, 722, 119, 120, 21, 33, 457, 458, 459, 460, 461, 462, 463, 262, 263, 20, 264, 61, 723, 724, 725, 726, 48, 51, 62, 257, 258, 259, 260, 265, 266, 267, 596, 597, 598, 32, 599, 88, 600, 224, 601, 602, 603, 604, 47, 49, 50, 52, 53, 54, 55, 56, 63, 64, 65, 66, 67, 605, 606, 607, 652, 269, 270, 271, 261, 962, 963, 964, 965, 966, 967, 968, 985, 986, 987, 988, 989, 990, 991, 992, 993, 994, 995, 996, 997, 998, 999, 1000, 1001, 1009, 1010, 1011] (by decide +kernel) (by decide +kernel)) (goodIn_sub (fun _ h => List.mem_append_left _ (List.mem_append_left _ (List.mem_append_right _ h))) (by decide +kernel))) (goodIn_sub (fun _ h => List.mem_append_right _ h) (by decide +kernel))
set_option maxRecDepth 20000 in
theorem gL_law_L_promote : GoodIn wsL_law (va_wsS RL 168 yL_promote wsL_promote) := goodIn_app (goodIn_of _ (by decide +kernel)) ggL_law_L_promote
set_option maxRecDepth 20000 in
theorem ggL_law_X6_promote : GoodIn wsL_law wsX6_promote := goodIn_r _ [730, 144, 94, 406, 407, 5, 408, 106, 107, 108, 146, 147, 148, 149, 731, 732, 733, 734, 613, 614, 615, 616, 358, 96, 617, 618, 619, 969, 970, 971, 972, 973, 974, 975, 976, 977, 978, 979, 980, 981, 982] (by decide +kernel) (by decide +kernel)
set_option maxRecDepth 20000 in
theorem gL_law_X6_promote : GoodIn wsL_law (wsV RL 170 RX6 yX6_promote wsX6_promote) := goodIn_app (goodIn_of _ (by decide +kernel)) ggL_law_X6_promote
set_option maxRecDepth 20000 in
theorem ggL_law_L_set : GoodIn wsL_law wsL_set := goodIn_ca (goodIn_r _ [737, 113, 738, 739, 740, 2, 741, 742, 743, 33, 21, 121, 122, 123, 124, 125, 596, 597, 598, 32, 599, 88, 600, 224, 601, 602, 603, 20, 604, 47, 48, 49, 50, 51, 52, 53, 54, 55, 56, 61, 62, 63, 64, 65, 66, 67, 605, 606, 607, 561, 562, 563, 564, 744, 745, 746, 747, 962, 963, 964, 965, 966, 967, 968, 1009, 1010, 1011, 985, 986, 987, 988, 989, 990, 991, 992, 993, 994, 995, 996, 997, 998, 999, 1000, 1001] (by decide +kernel) (by decide +kernel)) (goodIn_sub (fun _ h => List.mem_append_left _ (List.mem_append_right _ h)) (by decide +kernel))
set_option maxRecDepth 20000 in
theorem gL_law_L_set : GoodIn wsL_law (va_wsS RL 171 yL_set wsL_set) := goodIn_app (goodIn_of _ (by decide +kernel)) ggL_law_L_set
set_option maxRecDepth 20000 in
theorem ggL_law_X6_set : GoodIn wsL_law wsX6_set := goodIn_r _ [751, 144, 94, 106, 107, 5, 108, 752, 753, 754, 146, 147, 148, 149, 613, 614, 615, 616, 358, 96, 617, 618, 619, 969, 970, 971, 972, 973, 974, 975, 976, 977, 978, 979, 980, 981, 982] (by decide +kernel) (by decide +kernel)
set_option maxRecDepth 20000 in
theorem gL_law_X6_set : GoodIn wsL_law (wsV RL 173 RX6 yX6_set wsX6_set) := goodIn_app (goodIn_of _ (by decide +kernel)) ggL_law_X6_set
set_option maxRecDepth 20000 in
theorem ggL_law_L_undo : GoodIn wsL_law wsL_undo := goodIn_ca (goodIn_r _ [757, 114, 758, 759, 760, 2, 761, 119, 120, 33, 21, 762, 763, 764, 32, 765, 224, 766, 767, 768, 769, 600, 88, 601, 602, 603, 20, 604, 47, 48, 49, 50, 51, 52, 53, 54, 55, 56, 61, 62, 63, 64, 65, 66, 67, 605, 606, 607, 770, 771, 772, 773, 962, 963, 964, 965, 966, 967, 968, 1009, 1010, 1011, 985, 986, 987, 988, 989, 990, 991, 992, 993, 994, 995, 996, 997, 998, 999, 1000, 1001] (by decide +kernel) (by decide +kernel)) (goodIn_sub (fun _ h => List.mem_append_left _ (List.mem_append_left _ (List.mem_append_right _ h))) (by decide +kernel))
set_option maxRecDepth 20000 in
theorem gL_law_L_undo : GoodIn wsL_law (va_wsS RL 174 yL_undo wsL_undo) := goodIn_app (goodIn_of _ (by decide +kernel)) ggL_law_L_undo
set_option maxRecDepth 20000 in
theorem ggL_law_X6_undo : GoodIn wsL_law wsX6_undo := goodIn_r _ [777, 144, 358, 96, 94, 146, 147, 148, 5, 149, 617, 618, 619, 969, 970, 971, 972, 973, 974, 975, 976, 977, 978, 979, 980, 981, 982] (by decide +kernel) (by decide +kernel)
set_option maxRecDepth 20000 in
theorem gL_law_X6_undo : GoodIn wsL_law (wsV RL 176 RX6 yX6_undo wsX6_undo) := goodIn_app (goodIn_of _ (by decide +kernel)) ggL_law_X6_undo
set_option maxRecDepth 20000 in
theorem ggL_law_X5_strength : GoodIn wsL_law wsX5_strength := goodIn_r _ [781, 25, 21, 472, 289, 290, 20, 291, 62, 292, 293, 294, 295, 54, 63, 53, 56, 473, 297, 298, 24, 299, 300, 301, 75, 74, 302, 303, 281, 282, 283, 61, 304, 305, 306, 307, 308, 309, 310, 311, 312, 313, 314, 50, 47, 48, 265, 266, 267, 315, 316, 317, 318, 319, 320, 321, 322, 323, 324, 325, 326, 327, 328, 329, 330, 331, 332, 333, 334, 335, 336, 337, 76, 962, 963, 964, 965, 966, 967, 968, 985, 986, 987, 988, 989, 990, 991, 992, 993, 994, 995, 996, 997, 998, 999, 1000, 1001, 1002, 1003, 1004, 1005, 1006, 1007] (by decide +kernel) (by decide +kernel)
set_option maxRecDepth 20000 in
theorem gL_law_X5_strength : GoodIn wsL_law (wsV RL 177 RX5 yX5_strength wsX5_strength) := goodIn_app (goodIn_of _ (by decide +kernel)) ggL_law_X5_strength
set_option maxRecDepth 20000 in
theorem ggL_law_X6_strength : GoodIn wsL_law wsX6_strength := goodIn_r _ [785, 144, 94, 380, 381, 382, 5, 383, 100, 101, 384, 385, 386, 387, 388, 389, 390, 391, 392, 393, 394, 395, 396, 397, 398, 399, 400, 401, 402, 969, 970, 971, 972, 973, 974, 975, 976, 977, 978, 979, 980, 981, 982] (by decide +kernel) (by decide +kernel)
set_option maxRecDepth 20000 in
theorem gL_law_X6_strength : GoodIn wsL_law (wsV RL 180 RX6 yX6_strength wsX6_strength) := goodIn_app (goodIn_of _ (by decide +kernel)) ggL_law_X6_strength
set_option maxRecDepth 20000 in
theorem ggL_law_L_without : GoodIn wsL_law wsL_without := goodIn_ca (goodIn_r _ [788, 452, 789, 790, 791, 2, 792, 25, 21, 502, 503, 504, 505, 461, 462, 506, 258, 259, 20, 260, 62, 793, 794, 795, 796, 288, 289, 290, 291, 292, 293, 294, 295, 54, 63, 53, 56, 473, 297, 298, 24, 299, 300, 301, 75, 74, 302, 303, 281, 282, 283, 61, 304, 305, 306, 307, 308, 309, 310, 311, 312, 313, 314, 50, 47, 48, 265, 266, 267, 315, 316, 317, 318, 319, 320, 321, 322, 323, 324, 325, 326, 327, 328, 329, 330, 331, 332, 333, 334, 335, 336, 337, 76, 962, 963, 964, 965, 966, 967, 968, 985, 986, 987, 988, 989, 990, 991, 992, 993, 994, 995, 996, 997, 998, 999, 1000, 1001, 1002, 1003, 1004, 1005, 1006, 1007] (by decide +kernel) (by decide +kernel)) (goodIn_sub (fun _ h => List.mem_append_right _ h) (by decide +kernel))
set_option maxRecDepth 20000 in
theorem gL_law_L_without : GoodIn wsL_law (va_wsS RL 181 yL_without wsL_without) := goodIn_app (goodIn_of _ (by decide +kernel)) ggL_law_L_without
set_option maxRecDepth 20000 in
theorem ggL_law_X6_without : GoodIn wsL_law wsX6_without := goodIn_r _ [800, 144, 94, 409, 410, 5, 411, 106, 107, 108, 801, 802, 803, 804, 95, 805, 806, 807, 808, 617, 618, 619, 380, 381, 382, 383, 100, 101, 384, 385, 386, 387, 388, 389, 390, 391, 392, 393, 394, 395, 396, 397, 398, 399, 400, 401, 402, 146, 147, 148, 149, 969, 970, 971, 972, 973, 974, 975, 976, 977, 978, 979, 980, 981, 982] (by decide +kernel) (by decide +kernel)
set_option maxRecDepth 20000 in
theorem gL_law_X6_without : GoodIn wsL_law (wsV RL 183 RX6 yX6_without wsX6_without) := goodIn_app (goodIn_of _ (by decide +kernel)) ggL_law_X6_without
set_option maxRecDepth 20000 in
theorem ggL_law_X5_missed : GoodIn wsL_law wsX5_missed := goodIn_r _ [812, 21, 25, 419, 281, 282, 20, 283, 61, 472, 289, 290, 291, 62, 292, 293, 294, 295, 54, 63, 53, 56, 473, 297, 298, 24, 299, 300, 301, 75, 74, 302, 303, 304, 305, 306, 307, 308, 309, 310, 311, 312, 313, 314, 50, 47, 48, 265, 266, 267, 315, 316, 317, 318, 319, 320, 321, 322, 323, 324, 325, 326, 327, 328, 329, 330, 331, 332, 333, 334, 335, 336, 337, 76, 813, 814, 815, 816, 817, 818, 794, 795, 796, 288, 819, 962, 963, 964, 965, 966, 967, 968, 985, 986, 987, 988, 989, 990, 991, 992, 993, 994, 995, 996, 997, 998, 999, 1000, 1001, 1002, 1003, 1004, 1005, 1006, 1007] (by decide +kernel) (by decide +kernel)
set_option maxRecDepth 20000 in
theorem gL_law_X5_missed : GoodIn wsL_law (wsV RL 184 RX5 yX5_missed wsX5_missed) := goodIn_app (goodIn_of _ (by decide +kernel)) ggL_law_X5_missed
set_option maxRecDepth 20000 in
theorem ggL_law_X6_missed : GoodIn wsL_law wsX6_missed := goodIn_r _ [823, 144, 94, 380, 381, 382, 5, 383, 100, 101, 384, 385, 386, 387, 388, 389, 390, 391, 392, 393, 394, 395, 396, 397, 398, 399, 400, 401, 402, 801, 802, 803, 804, 95, 805, 806, 807, 808, 617, 618, 619, 969, 970, 971, 972, 973, 974, 975, 976, 977, 978, 979, 980, 981, 982] (by decide +kernel) (by decide +kernel)
set_option maxRecDepth 20000 in
theorem gL_law_X6_missed : GoodIn wsL_law (wsV RL 187 RX6 yX6_missed wsX6_missed) := goodIn_app (goodIn_of _ (by decide +kernel)) ggL_law_X6_missed
set_option maxRecDepth 20000 in
theorem ggL_law_L_coming : GoodIn wsL_law wsL_coming := goodIn_ca (goodIn_ca (goodIn_r _ [826, 113, 114, 827, 828, 829, 2, 830, 29, 21, 25, 121, 122, 123, 124, 125, 695, 696, 697, 698, 119, 120, 419, 281, 282, 20, 283, 61, 831, 832, 833, 28, 834, 81, 835, 602, 603, 604, 47, 48, 49, 50, 51, 52, 53, 54, 55, 56, 62, 63, 64, 65, 66, 67, 605, 606, 607, 836, 837, 838, 839, 840, 285, 286, 287, 288, 289, 290, 291, 292, 293, 294, 295, 296, 297, 298, 24, 299, 300, 301, 75, 74, 302, 303, 304, 305, 306, 307, 308, 309, 310, 311, 312, 313, 314, 265, 266, 267, 315, 316, 317, 318, 319, 320, 321, 322, 323, 324, 325, 326, 327, 328, 329, 330, 331, 332, 333, 334, 335, 336, 337, 76, 338, 339, 340, 341, 342, 343, 344, 345, 257, 258, 259, 260, 346, 347, 348, 349, 350, 351, 352, 353, 962, 963, 964, 965, 966, 967, 968, 985, 986, 987, 988, 989, 990, 991, 992, 993, 994, 995, 996, 997, 998, 999, 1000, 1001, 1008, 1002, 1003, 1004, 1005, 1006, 1007] (by decide +kernel) (by decide +kernel)) (goodIn_sub (fun _ h => List.mem_append_left _ (List.mem_append_right _ h)) (by decide +kernel))) (goodIn_sub (fun _ h => List.mem_append_left _ (List.mem_append_left _ (List.mem_append_right _ h))) (by decide +kernel))
set_option maxRecDepth 20000 in
theorem gL_law_L_coming : GoodIn wsL_law (va_wsS RL 188 yL_coming wsL_coming) := goodIn_app (goodIn_of _ (by decide +kernel)) ggL_law_L_coming
set_option maxRecDepth 20000 in
theorem ggL_law_X6_coming : GoodIn wsL_law wsX6_coming := goodIn_r _ [844, 144, 94, 95, 106, 107, 5, 108, 146, 147, 148, 149, 805, 806, 807, 808, 617, 618, 619, 376, 377, 378, 379, 101, 380, 381, 382, 383, 100, 384, 385, 386, 387, 388, 389, 390, 391, 392, 393, 394, 395, 396, 397, 398, 399, 400, 401, 402, 403, 404, 405, 370, 371, 372, 969, 970, 971, 972, 973, 974, 975, 976, 977, 978, 979, 980, 981, 982] (by decide +kernel) (by decide +kernel)
set_option maxRecDepth 20000 in
theorem gL_law_X6_coming : GoodIn wsL_law (wsV RL 190 RX6 yX6_coming wsX6_coming) := goodIn_app (goodIn_of _ (by decide +kernel)) ggL_law_X6_coming
set_option maxRecDepth 20000 in
theorem ggL_law_L_degreeFor : GoodIn wsL_law wsL_degreeFor := goodIn_ca (goodIn_r _ [847, 452, 848, 849, 850, 2, 851, 29, 21, 25, 502, 503, 504, 505, 461, 462, 506, 258, 259, 20, 260, 62, 457, 458, 459, 460, 463, 262, 263, 264, 61, 831, 832, 833, 28, 834, 81, 835, 602, 603, 604, 47, 48, 49, 50, 51, 52, 53, 54, 55, 56, 63, 64, 65, 66, 67, 605, 606, 607, 852, 853, 854, 855, 856, 254, 255, 256, 257, 261, 265, 266, 267, 857, 858, 859, 860, 861, 289, 290, 291, 292, 293, 294, 295, 862, 297, 298, 24, 299, 300, 301, 75, 74, 302, 303, 281, 282, 283, 304, 305, 306, 307, 308, 309, 310, 311, 312, 313, 314, 315, 316, 317, 318, 319, 320, 321, 322, 323, 324, 325, 326, 327, 328, 329, 330, 331, 332, 333, 334, 335, 336, 337, 76, 863, 864, 343, 344, 345, 962, 963, 964, 965, 966, 967, 968, 985, 986, 987, 988, 989, 990, 991, 992, 993, 994, 995, 996, 997, 998, 999, 1000, 1001, 1008, 1002, 1003, 1004, 1005, 1006, 1007] (by decide +kernel) (by decide +kernel)) (goodIn_sub (fun _ h => List.mem_append_right _ h) (by decide +kernel))
set_option maxRecDepth 20000 in
theorem gL_law_L_degreeFor : GoodIn wsL_law (va_wsS RL 191 yL_degreeFor wsL_degreeFor) := goodIn_app (goodIn_of _ (by decide +kernel)) ggL_law_L_degreeFor
set_option maxRecDepth 20000 in
theorem ggL_law_X6_degreeFor : GoodIn wsL_law wsX6_degreeFor := goodIn_r _ [868, 144, 94, 95, 409, 410, 5, 411, 106, 107, 108, 406, 407, 408, 146, 147, 148, 149, 805, 806, 807, 808, 617, 618, 619, 491, 492, 493, 494, 101, 380, 381, 382, 383, 100, 384, 385, 386, 387, 388, 389, 390, 391, 392, 393, 394, 395, 396, 397, 398, 399, 400, 401, 402, 969, 970, 971, 972, 973, 974, 975, 976, 977, 978, 979, 980, 981, 982] (by decide +kernel) (by decide +kernel)
set_option maxRecDepth 20000 in
theorem gL_law_X6_degreeFor : GoodIn wsL_law (wsV RL 193 RX6 yX6_degreeFor wsX6_degreeFor) := goodIn_app (goodIn_of _ (by decide +kernel)) ggL_law_X6_degreeFor
set_option maxRecDepth 20000 in
theorem ggL_law_L_runScript : GoodIn wsL_law wsL_runScript := goodIn_ca (goodIn_r _ [871, 113, 872, 873, 874, 2, 875, 124, 125, 29, 21, 25, 121, 122, 123, 876, 877, 28, 878, 879, 831, 832, 833, 834, 81, 835, 602, 603, 20, 604, 47, 48, 49, 50, 51, 52, 53, 54, 55, 56, 61, 62, 63, 64, 65, 66, 67, 605, 606, 607, 880, 881, 882, 883, 884, 885, 886, 887, 888, 856, 254, 255, 256, 257, 258, 259, 260, 261, 262, 263, 264, 265, 266, 267, 889, 269, 270, 271, 890, 273, 274, 275, 891, 677, 678, 679, 288, 289, 290, 291, 292, 293, 294, 295, 296, 297, 298, 24, 299, 300, 301, 75, 74, 302, 303, 281, 282, 283, 304, 305, 306, 307, 308, 309, 310, 311, 312, 313, 314, 315, 316, 317, 318, 319, 320, 321, 322, 323, 324, 325, 326, 327, 328, 329, 330, 331, 332, 333, 334, 335, 336, 337, 76, 342, 343, 344, 345, 892, 840, 285, 286, 287, 338, 339, 340, 341, 346, 347, 348, 349, 350, 351, 352, 353, 893, 277, 278, 279, 68, 69, 70, 857, 858, 859, 860, 861, 862, 863, 864, 894, 508, 509, 510, 962, 963, 964, 965, 966, 967, 968, 1008, 985, 986, 987, 988, 989, 990, 991, 992, 993, 994, 995, 996, 997, 998, 999, 1000, 1001, 1002, 1003, 1004, 1005, 1006, 1007] (by decide +kernel) (by decide +kernel)) (goodIn_sub (fun _ h => List.mem_append_left _ (List.mem_append_right _ h)) (by decide +kernel))
set_option maxRecDepth 20000 in
theorem gL_law_L_runScript : GoodIn wsL_law (va_wsS RL 196 yL_runScript wsL_runScript) := goodIn_app (goodIn_of _ (by decide +kernel)) ggL_law_L_runScript
set_option maxRecDepth 20000 in
theorem ggL_law_X6_runScript : GoodIn wsL_law wsX6_runScript := goodIn_r _ [898, 144, 899, 900, 901, 106, 107, 5, 108, 146, 147, 148, 149, 805, 806, 807, 808, 94, 95, 617, 618, 619, 902, 903, 904, 905, 409, 410, 411, 406, 407, 408, 684, 685, 686, 687, 101, 380, 381, 382, 383, 100, 384, 385, 386, 387, 388, 389, 390, 391, 392, 393, 394, 395, 396, 397, 398, 399, 400, 401, 402, 376, 377, 378, 379, 403, 404, 405, 370, 371, 372, 367, 368, 369, 373, 374, 375, 491, 492, 493, 494, 969, 970, 971, 972, 973, 974, 975, 976, 977, 978, 979, 980, 981, 982] (by decide +kernel) (by decide +kernel)
set_option maxRecDepth 20000 in
theorem gL_law_X6_runScript : GoodIn wsL_law (wsV RL 199 RX6 yX6_runScript wsX6_runScript) := goodIn_app (goodIn_of _ (by decide +kernel)) ggL_law_X6_runScript
