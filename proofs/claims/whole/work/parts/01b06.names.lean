theorem dX5_addPlayer_7 : decode cX5_addPlayer 7 = .ok (.ifCond .ne 13, 3) := by decide +kernel
theorem dX5_addPlayer_10 : decode cX5_addPlayer 10 = .ok (.new 60, 3) := by decide +kernel
theorem dX5_addPlayer_13 : decode cX5_addPlayer 13 = .ok (.dup, 1) := by decide +kernel
theorem dX5_addPlayer_14 : decode cX5_addPlayer 14 = .ok (.ldc 207, 2) := by decide +kernel
theorem dX5_addPlayer_16 : decode cX5_addPlayer 16 = .ok (.invokespecial 64, 3) := by decide +kernel
theorem dX5_addPlayer_19 : decode cX5_addPlayer 19 = .ok (.athrow, 1) := by decide +kernel
theorem dX5_addPlayer_20 : decode cX5_addPlayer 20 = .ok (.aload_n 0, 1) := by decide +kernel
theorem dX5_addPlayer_21 : decode cX5_addPlayer 21 = .ok (.getfield 40, 3) := by decide +kernel
theorem dX5_addPlayer_24 : decode cX5_addPlayer 24 = .ok (.aload_n 0, 1) := by decide +kernel
theorem dX5_addPlayer_25 : decode cX5_addPlayer 25 = .ok (.getfield 19, 3) := by decide +kernel
theorem dX5_addPlayer_28 : decode cX5_addPlayer 28 = .ok (.invokevirtual 197, 3) := by decide +kernel
theorem dX5_addPlayer_31 : decode cX5_addPlayer 31 = .ok (.aload_n 0, 1) := by decide +kernel
theorem dX5_addPlayer_32 : decode cX5_addPlayer 32 = .ok (.getfield 19, 3) := by decide +kernel
theorem dX5_addPlayer_35 : decode cX5_addPlayer 35 = .ok (.invokevirtual 209, 3) := by decide +kernel
theorem dX5_addPlayer_38 : decode cX5_addPlayer 38 = .ok (.pop, 1) := by decide +kernel
theorem dX5_addPlayer_39 : decode cX5_addPlayer 39 = .ok (.aload_n 0, 1) := by decide +kernel
theorem dX5_addPlayer_40 : decode cX5_addPlayer 40 = .ok (.getfield 19, 3) := by decide +kernel
theorem dX5_addPlayer_43 : decode cX5_addPlayer 43 = .ok (.invokevirtual 94, 3) := by decide +kernel
theorem dX5_addPlayer_46 : decode cX5_addPlayer 46 = .ok (.iconst 1, 1) := by decide +kernel
theorem dX5_addPlayer_47 : decode cX5_addPlayer 47 = .ok (.isub, 1) := by decide +kernel
theorem dX5_addPlayer_48 : decode cX5_addPlayer 48 = .ok (.ireturn, 1) := by decide +kernel
set_option maxRecDepth 20000 in
theorem ggX5_ready_X5_needPlayer : GoodIn wsX5_ready wsX5_needPlayer := goodIn_ca (goodIn_r _ [7, 8, 9, 2, 10, 11, 12, 13, 14, 15, 73, 74, 75, 76, 77, 78, 79, 80, 81, 82, 83, 84, 85, 86, 87, 88, 89, 90, 91, 92, 93, 94, 95, 96] (by decide +kernel) (by decide +kernel)) (goodIn_sub (fun _ h => List.mem_cons_of_mem _ (List.mem_append_left _ (List.mem_append_right _ h))) (by decide +kernel))
set_option maxRecDepth 20000 in
theorem gX5_ready_X5_needPlayer : GoodIn wsX5_ready (wsV RX5 148 RX5 yX5_needPlayer wsX5_needPlayer) := goodIn_app (goodIn_of _ (by decide +kernel)) ggX5_ready_X5_needPlayer
set_option maxRecDepth 20000 in
theorem ggX5_ready_X5_needRole : GoodIn wsX5_ready wsX5_needRole := goodIn_ca (goodIn_r _ [19, 8, 9, 2, 20, 21, 22, 13, 23, 24, 73, 74, 75, 76, 77, 78, 79, 80, 81, 82, 83, 84, 85, 86, 87, 88, 89, 90, 91, 92, 93, 94, 95, 96] (by decide +kernel) (by decide +kernel)) (goodIn_sub (fun _ h => List.mem_cons_of_mem _ (List.mem_append_left _ (List.mem_append_right _ h))) (by decide +kernel))
set_option maxRecDepth 20000 in
theorem gX5_ready_X5_needRole : GoodIn wsX5_ready (wsV RX5 120 RX5 yX5_needRole wsX5_needRole) := goodIn_app (goodIn_of _ (by decide +kernel)) ggX5_ready_X5_needRole
set_option maxRecDepth 20000 in
theorem ggX5_ready_X5_needRange : GoodIn wsX5_ready wsX5_needRange := goodIn_ca (goodIn_r _ [27, 28, 29] (by decide +kernel) (by decide +kernel)) (goodIn_sub (fun _ h => List.mem_cons_of_mem _ (List.mem_append_right _ h)) (by decide +kernel))
set_option maxRecDepth 20000 in
theorem gX5_ready_X5_needRange : GoodIn wsX5_ready (va_wsS RX5 52 yX5_needRange wsX5_needRange) := goodIn_app (goodIn_of _ (by decide +kernel)) ggX5_ready_X5_needRange
set_option maxRecDepth 20000 in
theorem ggX5_ready_X1_remember : GoodIn wsX5_ready wsX1_remember := goodIn_r _ [34, 35, 36, 37, 38, 39, 40, 13, 41, 42, 43, 44, 45, 46, 47, 48, 49, 50, 51, 24, 15, 52, 53, 54, 55, 56, 57, 58, 59, 97, 98, 99, 80, 81, 82, 83, 84, 85, 86, 87, 88, 89, 90, 91, 92, 93, 94, 95, 96] (by decide +kernel) (by decide +kernel)
set_option maxRecDepth 20000 in
theorem gX5_ready_X1_remember : GoodIn wsX5_ready (wsV RX5 197 RX1 yX1_remember wsX1_remember) := goodIn_app (goodIn_of _ (by decide +kernel)) ggX5_ready_X1_remember
set_option maxRecDepth 20000 in
theorem ggX5_ready_X2_degreeOf : GoodIn wsX5_ready wsX2_degreeOf := goodIn_r _ [63, 45, 64, 65, 13, 66, 80, 81, 82, 83, 84, 85, 86, 87, 88, 89, 90, 91, 92, 93, 94, 95, 96] (by decide +kernel) (by decide +kernel)
set_option maxRecDepth 20000 in
theorem gX5_ready_X2_degreeOf : GoodIn wsX5_ready (wsV RX5 172 RX2 yX2_degreeOf wsX2_degreeOf) := goodIn_app (goodIn_of _ (by decide +kernel)) ggX5_ready_X2_degreeOf
set_option maxRecDepth 20000 in
theorem ggX5_ready_X2_putDegree : GoodIn wsX5_ready wsX2_putDegree := goodIn_r _ [70, 45, 71, 11, 12, 13, 14, 15, 72, 21, 22, 23, 24, 64, 65, 66, 80, 81, 82, 83, 84, 85, 86, 87, 88, 89, 90, 91, 92, 93, 94, 95, 96] (by decide +kernel) (by decide +kernel)
set_option maxRecDepth 20000 in
theorem gX5_ready_X2_putDegree : GoodIn wsX5_ready (wsV RX5 212 RX2 yX2_putDegree wsX2_putDegree) := goodIn_app (goodIn_of _ (by decide +kernel)) ggX5_ready_X2_putDegree
theorem dX5_ready_0 : decode cX5_ready 0 = .ok (.aload_n 0, 1) := by decide +kernel
theorem dX5_ready_1 : decode cX5_ready 1 = .ok (.iload_n 1, 1) := by decide +kernel
theorem dX5_ready_2 : decode cX5_ready 2 = .ok (.invokevirtual 148, 3) := by decide +kernel
theorem dX5_ready_5 : decode cX5_ready 5 = .ok (.aload_n 0, 1) := by decide +kernel
theorem dX5_ready_6 : decode cX5_ready 6 = .ok (.iload_n 2, 1) := by decide +kernel
theorem dX5_ready_7 : decode cX5_ready 7 = .ok (.invokevirtual 120, 3) := by decide +kernel
theorem dX5_ready_10 : decode cX5_ready 10 = .ok (.iload_n 3, 1) := by decide +kernel
theorem dX5_ready_11 : decode cX5_ready 11 = .ok (.iconst 0, 1) := by decide +kernel
theorem dX5_ready_12 : decode cX5_ready 12 = .ok (.bipush 9, 2) := by decide +kernel
theorem dX5_ready_14 : decode cX5_ready 14 = .ok (.invokestatic 52, 3) := by decide +kernel
theorem dX5_ready_17 : decode cX5_ready 17 = .ok (.aload_n 0, 1) := by decide +kernel
theorem dX5_ready_18 : decode cX5_ready 18 = .ok (.getfield 40, 3) := by decide +kernel
theorem dX5_ready_21 : decode cX5_ready 21 = .ok (.aload_n 0, 1) := by decide +kernel
theorem dX5_ready_22 : decode cX5_ready 22 = .ok (.getfield 19, 3) := by decide +kernel
theorem dX5_ready_25 : decode cX5_ready 25 = .ok (.invokevirtual 197, 3) := by decide +kernel
theorem dX5_ready_28 : decode cX5_ready 28 = .ok (.aload_n 0, 1) := by decide +kernel
theorem dX5_ready_29 : decode cX5_ready 29 = .ok (.getfield 19, 3) := by decide +kernel
theorem dX5_ready_32 : decode cX5_ready 32 = .ok (.iload_n 1, 1) := by decide +kernel
theorem dX5_ready_33 : decode cX5_ready 33 = .ok (.iload_n 2, 1) := by decide +kernel
theorem dX5_ready_34 : decode cX5_ready 34 = .ok (.invokevirtual 172, 3) := by decide +kernel
theorem dX5_ready_37 : decode cX5_ready 37 = .ok (.istore 4, 2) := by decide +kernel
theorem dX5_ready_39 : decode cX5_ready 39 = .ok (.aload_n 0, 1) := by decide +kernel
theorem dX5_ready_40 : decode cX5_ready 40 = .ok (.getfield 19, 3) := by decide +kernel
theorem dX5_ready_43 : decode cX5_ready 43 = .ok (.iload_n 1, 1) := by decide +kernel
theorem dX5_ready_44 : decode cX5_ready 44 = .ok (.iload_n 2, 1) := by decide +kernel
theorem dX5_ready_45 : decode cX5_ready 45 = .ok (.iload_n 3, 1) := by decide +kernel
theorem dX5_ready_46 : decode cX5_ready 46 = .ok (.invokevirtual 212, 3) := by decide +kernel
theorem dX5_ready_49 : decode cX5_ready 49 = .ok (.pop, 1) := by decide +kernel
theorem dX5_ready_50 : decode cX5_ready 50 = .ok (.iload 4, 2) := by decide +kernel
theorem dX5_ready_52 : decode cX5_ready 52 = .ok (.ireturn, 1) := by decide +kernel
set_option maxRecDepth 20000 in
theorem ggX5_first_X5_needRole : GoodIn wsX5_first wsX5_needRole := goodIn_ca (goodIn_r _ [7, 8, 9, 2, 10, 11, 12, 13, 14, 15, 65, 66, 67, 68, 69, 70, 71, 72, 73, 74, 75, 76, 77, 78, 79, 80, 81, 82, 83, 84, 85, 86, 87, 88] (by decide +kernel) (by decide +kernel)) (goodIn_sub (fun _ h => List.mem_cons_of_mem _ (List.mem_append_right _ h)) (by decide +kernel))
set_option maxRecDepth 20000 in
theorem gX5_first_X5_needRole : GoodIn wsX5_first (wsV RX5 120 RX5 yX5_needRole wsX5_needRole) := goodIn_app (goodIn_of _ (by decide +kernel)) ggX5_first_X5_needRole
set_option maxRecDepth 20000 in
theorem ggX5_first_X5_needPlayer : GoodIn wsX5_first wsX5_needPlayer := goodIn_ca (goodIn_r _ [19, 8, 9, 2, 20, 21, 22, 13, 23, 24, 65, 66, 67, 68, 69, 70, 71, 72, 73, 74, 75, 76, 77, 78, 79, 80, 81, 82, 83, 84, 85, 86, 87, 88] (by decide +kernel) (by decide +kernel)) (goodIn_sub (fun _ h => List.mem_cons_of_mem _ (List.mem_append_right _ h)) (by decide +kernel))
set_option maxRecDepth 20000 in
theorem gX5_first_X5_needPlayer : GoodIn wsX5_first (wsV RX5 148 RX5 yX5_needPlayer wsX5_needPlayer) := goodIn_app (goodIn_of _ (by decide +kernel)) ggX5_first_X5_needPlayer
set_option maxRecDepth 20000 in
theorem ggX5_first_X1_remember : GoodIn wsX5_first wsX1_remember := goodIn_r _ [29, 30, 31, 32, 33, 34, 35, 13, 36, 37, 38, 39, 40, 41, 42, 43, 44, 45, 46, 15, 24, 47, 48, 49, 50, 51, 52, 53, 54, 89, 90, 91, 72, 73, 74, 75, 76, 77, 78, 79, 80, 81, 82, 83, 84, 85, 86, 87, 88] (by decide +kernel) (by decide +kernel)
set_option maxRecDepth 20000 in
theorem gX5_first_X1_remember : GoodIn wsX5_first (wsV RX5 197 RX1 yX1_remember wsX1_remember) := goodIn_app (goodIn_of _ (by decide +kernel)) ggX5_first_X1_remember
set_option maxRecDepth 20000 in
theorem ggX5_first_X2_firstOf : GoodIn wsX5_first wsX2_firstOf := goodIn_r _ [58, 38, 72, 73, 74, 75, 76, 77, 78, 79, 80, 81, 82, 83, 84, 85, 86, 87, 88] (by decide +kernel) (by decide +kernel)
set_option maxRecDepth 20000 in
theorem gX5_first_X2_firstOf : GoodIn wsX5_first (wsV RX5 127 RX2 yX2_firstOf wsX2_firstOf) := goodIn_app (goodIn_of _ (by decide +kernel)) ggX5_first_X2_firstOf
set_option maxRecDepth 20000 in
theorem ggX5_first_X2_putFirst : GoodIn wsX5_first wsX2_putFirst := goodIn_r _ [62, 38, 63, 11, 12, 13, 14, 15, 64, 21, 22, 23, 24, 72, 73, 74, 75, 76, 77, 78, 79, 80, 81, 82, 83, 84, 85, 86, 87, 88] (by decide +kernel) (by decide +kernel)
set_option maxRecDepth 20000 in
theorem gX5_first_X2_putFirst : GoodIn wsX5_first (wsV RX5 216 RX2 yX2_putFirst wsX2_putFirst) := goodIn_app (goodIn_of _ (by decide +kernel)) ggX5_first_X2_putFirst
theorem dX5_first_0 : decode cX5_first 0 = .ok (.aload_n 0, 1) := by decide +kernel
theorem dX5_first_1 : decode cX5_first 1 = .ok (.iload_n 1, 1) := by decide +kernel
theorem dX5_first_2 : decode cX5_first 2 = .ok (.invokevirtual 120, 3) := by decide +kernel
theorem dX5_first_5 : decode cX5_first 5 = .ok (.aload_n 0, 1) := by decide +kernel
theorem dX5_first_6 : decode cX5_first 6 = .ok (.iload_n 2, 1) := by decide +kernel
theorem dX5_first_7 : decode cX5_first 7 = .ok (.invokevirtual 148, 3) := by decide +kernel
theorem dX5_first_10 : decode cX5_first 10 = .ok (.aload_n 0, 1) := by decide +kernel
theorem dX5_first_11 : decode cX5_first 11 = .ok (.getfield 40, 3) := by decide +kernel
theorem dX5_first_14 : decode cX5_first 14 = .ok (.aload_n 0, 1) := by decide +kernel
theorem dX5_first_15 : decode cX5_first 15 = .ok (.getfield 19, 3) := by decide +kernel
theorem dX5_first_18 : decode cX5_first 18 = .ok (.invokevirtual 197, 3) := by decide +kernel
theorem dX5_first_21 : decode cX5_first 21 = .ok (.aload_n 0, 1) := by decide +kernel
theorem dX5_first_22 : decode cX5_first 22 = .ok (.getfield 19, 3) := by decide +kernel
theorem dX5_first_25 : decode cX5_first 25 = .ok (.iload_n 1, 1) := by decide +kernel
theorem dX5_first_26 : decode cX5_first 26 = .ok (.invokevirtual 127, 3) := by decide +kernel
theorem dX5_first_29 : decode cX5_first 29 = .ok (.istore_n 3, 1) := by decide +kernel
theorem dX5_first_30 : decode cX5_first 30 = .ok (.aload_n 0, 1) := by decide +kernel
theorem dX5_first_31 : decode cX5_first 31 = .ok (.getfield 19, 3) := by decide +kernel
theorem dX5_first_34 : decode cX5_first 34 = .ok (.iload_n 1, 1) := by decide +kernel
theorem dX5_first_35 : decode cX5_first 35 = .ok (.iload_n 2, 1) := by decide +kernel
theorem dX5_first_36 : decode cX5_first 36 = .ok (.invokevirtual 216, 3) := by decide +kernel
theorem dX5_first_39 : decode cX5_first 39 = .ok (.pop, 1) := by decide +kernel
theorem dX5_first_40 : decode cX5_first 40 = .ok (.iload_n 3, 1) := by decide +kernel
theorem dX5_first_41 : decode cX5_first 41 = .ok (.ireturn, 1) := by decide +kernel
set_option maxRecDepth 20000 in
theorem ggX5_away_X5_needPlayer : GoodIn wsX5_away wsX5_needPlayer := goodIn_ca (goodIn_r _ [7, 8, 9, 2, 10, 11, 12, 13, 14, 15, 61, 62, 63, 64, 65, 66, 67, 68, 69, 70, 71, 72, 73, 74, 75, 76, 77, 78, 79, 80, 81, 82, 83, 84] (by decide +kernel) (by decide +kernel)) (goodIn_sub (fun _ h => List.mem_cons_of_mem _ (List.mem_append_left _ (List.mem_append_right _ h))) (by decide +kernel))
set_option maxRecDepth 20000 in
theorem gX5_away_X5_needPlayer : GoodIn wsX5_away (wsV RX5 148 RX5 yX5_needPlayer wsX5_needPlayer) := goodIn_app (goodIn_of _ (by decide +kernel)) ggX5_away_X5_needPlayer
set_option maxRecDepth 20000 in
theorem ggX5_away_X5_needRange : GoodIn wsX5_away wsX5_needRange := goodIn_ca (goodIn_r _ [18, 19, 20] (by decide +kernel) (by decide +kernel)) (goodIn_sub (fun _ h => List.mem_cons_of_mem _ (List.mem_append_right _ h)) (by decide +kernel))
set_option maxRecDepth 20000 in
theorem gX5_away_X5_needRange : GoodIn wsX5_away (va_wsS RX5 52 yX5_needRange wsX5_needRange) := goodIn_app (goodIn_of _ (by decide +kernel)) ggX5_away_X5_needRange
set_option maxRecDepth 20000 in
theorem ggX5_away_X1_remember : GoodIn wsX5_away wsX1_remember := goodIn_r _ [25, 26, 27, 28, 29, 30, 31, 13, 32, 33, 34, 35, 36, 37, 38, 39, 40, 41, 42, 43, 15, 44, 45, 46, 47, 48, 49, 50, 51, 85, 86, 87, 68, 69, 70, 71, 72, 73, 74, 75, 76, 77, 78, 79, 80, 81, 82, 83, 84] (by decide +kernel) (by decide +kernel)
set_option maxRecDepth 20000 in
theorem gX5_away_X1_remember : GoodIn wsX5_away (wsV RX5 197 RX1 yX1_remember wsX1_remember) := goodIn_app (goodIn_of _ (by decide +kernel)) ggX5_away_X1_remember
set_option maxRecDepth 20000 in
theorem ggX5_away_X2_sendAway : GoodIn wsX5_away wsX2_sendAway := goodIn_r _ [55, 40, 44, 56, 11, 12, 13, 14, 15, 68, 69, 70, 71, 72, 73, 74, 75, 76, 77, 78, 79, 80, 81, 82, 83, 84] (by decide +kernel) (by decide +kernel)
set_option maxRecDepth 20000 in
theorem gX5_away_X2_sendAway : GoodIn wsX5_away (wsV RX5 220 RX2 yX2_sendAway wsX2_sendAway) := goodIn_app (goodIn_of _ (by decide +kernel)) ggX5_away_X2_sendAway
set_option maxRecDepth 20000 in
theorem ggX5_away_X2_dayNow : GoodIn wsX5_away wsX2_dayNow := goodIn_r _ [60, 44, 68, 69, 70, 71, 72, 73, 74, 75, 76, 77, 78, 79, 80, 81, 82, 83, 84] (by decide +kernel) (by decide +kernel)
set_option maxRecDepth 20000 in
theorem gX5_away_X2_dayNow : GoodIn wsX5_away (wsV RX5 97 RX2 yX2_dayNow wsX2_dayNow) := goodIn_app (goodIn_of _ (by decide +kernel)) ggX5_away_X2_dayNow
theorem dX5_away_0 : decode cX5_away 0 = .ok (.aload_n 0, 1) := by decide +kernel
theorem dX5_away_1 : decode cX5_away 1 = .ok (.iload_n 1, 1) := by decide +kernel
theorem dX5_away_2 : decode cX5_away 2 = .ok (.invokevirtual 148, 3) := by decide +kernel
theorem dX5_away_5 : decode cX5_away 5 = .ok (.iload_n 2, 1) := by decide +kernel
theorem dX5_away_6 : decode cX5_away 6 = .ok (.iconst 1, 1) := by decide +kernel
theorem dX5_away_7 : decode cX5_away 7 = .ok (.bipush 99, 2) := by decide +kernel
theorem dX5_away_9 : decode cX5_away 9 = .ok (.invokestatic 52, 3) := by decide +kernel
theorem dX5_away_12 : decode cX5_away 12 = .ok (.aload_n 0, 1) := by decide +kernel
theorem dX5_away_13 : decode cX5_away 13 = .ok (.getfield 40, 3) := by decide +kernel
theorem dX5_away_16 : decode cX5_away 16 = .ok (.aload_n 0, 1) := by decide +kernel
theorem dX5_away_17 : decode cX5_away 17 = .ok (.getfield 19, 3) := by decide +kernel
theorem dX5_away_20 : decode cX5_away 20 = .ok (.invokevirtual 197, 3) := by decide +kernel
theorem dX5_away_23 : decode cX5_away 23 = .ok (.aload_n 0, 1) := by decide +kernel
theorem dX5_away_24 : decode cX5_away 24 = .ok (.getfield 19, 3) := by decide +kernel
theorem dX5_away_27 : decode cX5_away 27 = .ok (.iload_n 1, 1) := by decide +kernel
theorem dX5_away_28 : decode cX5_away 28 = .ok (.iload_n 2, 1) := by decide +kernel
theorem dX5_away_29 : decode cX5_away 29 = .ok (.invokevirtual 220, 3) := by decide +kernel
theorem dX5_away_32 : decode cX5_away 32 = .ok (.pop, 1) := by decide +kernel
theorem dX5_away_33 : decode cX5_away 33 = .ok (.aload_n 0, 1) := by decide +kernel
theorem dX5_away_34 : decode cX5_away 34 = .ok (.getfield 19, 3) := by decide +kernel
theorem dX5_away_37 : decode cX5_away 37 = .ok (.invokevirtual 97, 3) := by decide +kernel
theorem dX5_away_40 : decode cX5_away 40 = .ok (.iload_n 2, 1) := by decide +kernel
theorem dX5_away_41 : decode cX5_away 41 = .ok (.iadd, 1) := by decide +kernel
theorem dX5_away_42 : decode cX5_away 42 = .ok (.ireturn, 1) := by decide +kernel
set_option maxRecDepth 20000 in
theorem ggX5_post_X2_roleCount : GoodIn wsX5_post wsX2_roleCount := goodIn_r _ [10, 11, 117, 118, 119, 120, 121, 122, 123, 124, 125, 126, 127, 128, 129, 130, 131, 132, 133] (by decide +kernel) (by decide +kernel)
set_option maxRecDepth 20000 in
theorem gX5_post_X2_roleCount : GoodIn wsX5_post (wsV RX5 91 RX2 yX2_roleCount wsX2_roleCount) := goodIn_app (goodIn_of _ (by decide +kernel)) ggX5_post_X2_roleCount
set_option maxRecDepth 20000 in
theorem ggX5_post_X2_freePlayers : GoodIn wsX5_post wsX2_freePlayers := goodIn_r _ [15, 16, 17, 18, 19, 9, 20, 21, 22, 23, 24, 117, 118, 119, 120, 121, 122, 123, 124, 125, 126, 127, 128, 129, 130, 131, 132, 133] (by decide +kernel) (by decide +kernel)
set_option maxRecDepth 20000 in
theorem gX5_post_X2_freePlayers : GoodIn wsX5_post (wsV RX5 130 RX2 yX2_freePlayers wsX2_freePlayers) := goodIn_app (goodIn_of _ (by decide +kernel)) ggX5_post_X2_freePlayers
set_option maxRecDepth 20000 in
theorem ggX5_post_X0_seek : GoodIn wsX5_post wsX0_seek := goodIn_r _ [29, 30, 31, 32, 33, 34, 35, 7, 8, 9, 10, 11, 36, 37, 38, 39, 16, 40, 41, 28, 42, 43, 44, 45, 46, 47, 48, 49, 50, 51, 52, 53, 54, 55, 56, 57, 58, 59, 60, 61, 62, 63, 64, 65, 66, 67, 68, 69, 70, 71, 72, 73, 74, 75, 76, 134, 135, 136, 137, 138, 139, 117, 118, 119, 120, 121, 122, 123, 124, 125, 126, 127, 128, 129, 130, 131, 132, 133] (by decide +kernel) (by decide +kernel)
set_option maxRecDepth 20000 in
theorem gX5_post_X0_seek : GoodIn wsX5_post (wsV RX5 133 RX0 yX0_seek wsX0_seek) := goodIn_app (goodIn_of _ (by decide +kernel)) ggX5_post_X0_seek
set_option maxRecDepth 20000 in
theorem ggX5_post_X1_remember : GoodIn wsX5_post wsX1_remember := goodIn_r _ [81, 82, 83, 84, 85, 86, 87, 9, 88, 48, 49, 89, 47, 90, 91, 23, 21, 92, 24, 11, 16, 22, 93, 94, 95, 96, 97, 98, 99, 140, 141, 142, 117, 118, 119, 120, 121, 122, 123, 124, 125, 126, 127, 128, 129, 130, 131, 132, 133] (by decide +kernel) (by decide +kernel)
set_option maxRecDepth 20000 in
theorem gX5_post_X1_remember : GoodIn wsX5_post (wsV RX5 197 RX1 yX1_remember wsX1_remember) := goodIn_app (goodIn_of _ (by decide +kernel)) ggX5_post_X1_remember
set_option maxRecDepth 20000 in
theorem ggX5_post_X2_postCast : GoodIn wsX5_post wsX2_postCast := goodIn_r _ [103, 11, 89, 96, 104, 13, 14, 9, 15, 16, 17, 18, 19, 20, 21, 22, 23, 24, 105, 26, 27, 28, 29, 30, 31, 32, 33, 34, 35, 7, 8, 10, 36, 37, 38, 39, 40, 41, 42, 43, 44, 45, 46, 47, 48, 49, 50, 51, 52, 53, 54, 55, 56, 57, 58, 59, 60, 61, 62, 63, 64, 65, 66, 67, 68, 69, 70, 71, 72, 73, 74, 75, 76, 106, 107, 108, 109, 117, 118, 119, 120, 121, 122, 123, 124, 125, 126, 127, 128, 129, 130, 131, 132, 133, 134, 135, 136, 137, 138, 139] (by decide +kernel) (by decide +kernel)
set_option maxRecDepth 20000 in
theorem gX5_post_X2_postCast : GoodIn wsX5_post (wsV RX5 227 RX2 yX2_postCast wsX2_postCast) := goodIn_app (goodIn_of _ (by decide +kernel)) ggX5_post_X2_postCast
theorem dX5_post_0 : decode cX5_post 0 = .ok (.aload_n 0, 1) := by decide +kernel
theorem dX5_post_1 : decode cX5_post 1 = .ok (.getfield 19, 3) := by decide +kernel
theorem dX5_post_4 : decode cX5_post 4 = .ok (.invokevirtual 91, 3) := by decide +kernel
theorem dX5_post_7 : decode cX5_post 7 = .ok (.ifCond .ne 13, 3) := by decide +kernel
theorem dX5_post_10 : decode cX5_post 10 = .ok (.new 60, 3) := by decide +kernel
theorem dX5_post_13 : decode cX5_post 13 = .ok (.dup, 1) := by decide +kernel
theorem dX5_post_14 : decode cX5_post 14 = .ok (.ldc 223, 2) := by decide +kernel
theorem dX5_post_16 : decode cX5_post 16 = .ok (.invokespecial 64, 3) := by decide +kernel
theorem dX5_post_19 : decode cX5_post 19 = .ok (.athrow, 1) := by decide +kernel
theorem dX5_post_20 : decode cX5_post 20 = .ok (.aload_n 0, 1) := by decide +kernel
theorem dX5_post_21 : decode cX5_post 21 = .ok (.getfield 26, 3) := by decide +kernel
theorem dX5_post_24 : decode cX5_post 24 = .ok (.aload_n 0, 1) := by decide +kernel
theorem dX5_post_25 : decode cX5_post 25 = .ok (.getfield 19, 3) := by decide +kernel
theorem dX5_post_28 : decode cX5_post 28 = .ok (.aload_n 0, 1) := by decide +kernel
theorem dX5_post_29 : decode cX5_post 29 = .ok (.getfield 19, 3) := by decide +kernel
theorem dX5_post_32 : decode cX5_post 32 = .ok (.invokevirtual 130, 3) := by decide +kernel
theorem dX5_post_35 : decode cX5_post 35 = .ok (.invokevirtual 133, 3) := by decide +kernel
theorem dX5_post_38 : decode cX5_post 38 = .ok (.istore_n 1, 1) := by decide +kernel
theorem dX5_post_39 : decode cX5_post 39 = .ok (.iload_n 1, 1) := by decide +kernel
theorem dX5_post_40 : decode cX5_post 40 = .ok (.iconst (-1), 1) := by decide +kernel
theorem dX5_post_41 : decode cX5_post 41 = .ok (.if_icmp .ne 13, 3) := by decide +kernel
theorem dX5_post_44 : decode cX5_post 44 = .ok (.new 60, 3) := by decide +kernel
theorem dX5_post_47 : decode cX5_post 47 = .ok (.dup, 1) := by decide +kernel
theorem dX5_post_48 : decode cX5_post 48 = .ok (.ldc 225, 2) := by decide +kernel
theorem dX5_post_50 : decode cX5_post 50 = .ok (.invokespecial 64, 3) := by decide +kernel
theorem dX5_post_53 : decode cX5_post 53 = .ok (.athrow, 1) := by decide +kernel
theorem dX5_post_54 : decode cX5_post 54 = .ok (.aload_n 0, 1) := by decide +kernel
theorem dX5_post_55 : decode cX5_post 55 = .ok (.getfield 40, 3) := by decide +kernel
theorem dX5_post_58 : decode cX5_post 58 = .ok (.aload_n 0, 1) := by decide +kernel
theorem dX5_post_59 : decode cX5_post 59 = .ok (.getfield 19, 3) := by decide +kernel
theorem dX5_post_62 : decode cX5_post 62 = .ok (.invokevirtual 197, 3) := by decide +kernel
theorem dX5_post_65 : decode cX5_post 65 = .ok (.aload_n 0, 1) := by decide +kernel
theorem dX5_post_66 : decode cX5_post 66 = .ok (.getfield 19, 3) := by decide +kernel
theorem dX5_post_69 : decode cX5_post 69 = .ok (.aload_n 0, 1) := by decide +kernel
theorem dX5_post_70 : decode cX5_post 70 = .ok (.getfield 26, 3) := by decide +kernel
theorem dX5_post_73 : decode cX5_post 73 = .ok (.invokevirtual 227, 3) := by decide +kernel
theorem dX5_post_76 : decode cX5_post 76 = .ok (.pop, 1) := by decide +kernel
theorem dX5_post_77 : decode cX5_post 77 = .ok (.iload_n 1, 1) := by decide +kernel
theorem dX5_post_78 : decode cX5_post 78 = .ok (.ireturn, 1) := by decide +kernel
set_option maxRecDepth 20000 in
theorem ggX5_play_X5_needSomeRole : GoodIn wsX5_play wsX5_needSomeRole := goodIn_ca (goodIn_r _ [8, 9, 10, 2, 11, 12, 13, 14, 15, 16, 129, 130, 131, 132, 133, 134, 135, 136, 137, 138, 139, 140, 141, 142, 143, 144, 145, 146, 147, 148, 149, 150, 151, 152] (by decide +kernel) (by decide +kernel)) (goodIn_sub (fun _ h => List.mem_cons_of_mem _ (List.mem_append_right _ h)) (by decide +kernel))
set_option maxRecDepth 20000 in
theorem gX5_play_X5_needSomeRole : GoodIn wsX5_play (wsV RX5 231 RX5 yX5_needSomeRole wsX5_needSomeRole) := goodIn_app (goodIn_of _ (by decide +kernel)) ggX5_play_X5_needSomeRole
set_option maxRecDepth 20000 in
theorem ggX5_play_X1_remember : GoodIn wsX5_play wsX1_remember := goodIn_r _ [21, 22, 23, 24, 25, 26, 27, 14, 28, 29, 30, 31, 32, 33, 34, 35, 36, 37, 38, 16, 39, 40, 41, 42, 43, 44, 45, 46, 47, 153, 154, 155, 136, 137, 138, 139, 140, 141, 142, 143, 144, 145, 146, 147, 148, 149, 150, 151, 152] (by decide +kernel) (by decide +kernel)
set_option maxRecDepth 20000 in
theorem gX5_play_X1_remember : GoodIn wsX5_play (wsV RX5 197 RX1 yX1_remember wsX1_remember) := goodIn_app (goodIn_of _ (by decide +kernel)) ggX5_play_X1_remember
set_option maxRecDepth 20000 in
theorem ggX5_play_X2_playDay : GoodIn wsX5_play wsX2_playDay := goodIn_r _ [51, 42, 39, 35, 40, 44, 52, 53, 54, 14, 55, 56, 57, 58, 59, 36, 38, 60, 61, 62, 63, 64, 65, 66, 67, 68, 69, 70, 12, 13, 15, 16, 71, 72, 73, 74, 75, 76, 77, 78, 79, 80, 81, 32, 29, 30, 82, 83, 84, 85, 86, 87, 88, 89, 90, 91, 92, 93, 94, 95, 96, 97, 98, 99, 100, 101, 102, 103, 104, 105, 106, 107, 108, 109, 110, 111, 112, 41, 113, 114, 115, 116, 117, 118, 119, 120, 121, 122, 123, 124, 43, 31, 34, 37, 33, 125, 126, 127, 128, 136, 137, 138, 139, 140, 141, 142, 143, 144, 145, 146, 147, 148, 149, 150, 151, 152, 156, 157, 158, 159, 160, 161] (by decide +kernel) (by decide +kernel)
set_option maxRecDepth 20000 in
theorem gX5_play_X2_playDay : GoodIn wsX5_play (wsV RX5 234 RX2 yX2_playDay wsX2_playDay) := goodIn_app (goodIn_of _ (by decide +kernel)) ggX5_play_X2_playDay
theorem dX5_play_0 : decode cX5_play 0 = .ok (.aload_n 0, 1) := by decide +kernel
theorem dX5_play_1 : decode cX5_play 1 = .ok (.invokevirtual 231, 3) := by decide +kernel
theorem dX5_play_4 : decode cX5_play 4 = .ok (.aload_n 0, 1) := by decide +kernel
theorem dX5_play_5 : decode cX5_play 5 = .ok (.getfield 40, 3) := by decide +kernel
theorem dX5_play_8 : decode cX5_play 8 = .ok (.aload_n 0, 1) := by decide +kernel
theorem dX5_play_9 : decode cX5_play 9 = .ok (.getfield 19, 3) := by decide +kernel
theorem dX5_play_12 : decode cX5_play 12 = .ok (.invokevirtual 197, 3) := by decide +kernel
theorem dX5_play_15 : decode cX5_play 15 = .ok (.aload_n 0, 1) := by decide +kernel
theorem dX5_play_16 : decode cX5_play 16 = .ok (.getfield 19, 3) := by decide +kernel
theorem dX5_play_19 : decode cX5_play 19 = .ok (.aload_n 0, 1) := by decide +kernel
theorem dX5_play_20 : decode cX5_play 20 = .ok (.getfield 26, 3) := by decide +kernel
theorem dX5_play_23 : decode cX5_play 23 = .ok (.invokevirtual 234, 3) := by decide +kernel
theorem dX5_play_26 : decode cX5_play 26 = .ok (.ireturn, 1) := by decide +kernel
set_option maxRecDepth 20000 in
theorem ggX5_dark_X5_needRange : GoodIn wsX5_dark wsX5_needRange := goodIn_ca (goodIn_r _ [6, 7, 8] (by decide +kernel) (by decide +kernel)) (goodIn_sub (fun _ h => List.mem_cons_of_mem _ (List.mem_append_right _ h)) (by decide +kernel))
set_option maxRecDepth 20000 in
theorem gX5_dark_X5_needRange : GoodIn wsX5_dark (va_wsS RX5 52 yX5_needRange wsX5_needRange) := goodIn_app (goodIn_of _ (by decide +kernel)) ggX5_dark_X5_needRange
set_option maxRecDepth 20000 in
theorem ggX5_dark_X1_remember : GoodIn wsX5_dark wsX1_remember := goodIn_r _ [13, 14, 15, 16, 17, 18, 19, 20, 21, 22, 23, 24, 25, 26, 27, 28, 29, 30, 31, 32, 33, 34, 35, 36, 37, 38, 39, 40, 41, 60, 61, 62, 63, 64, 65, 66, 67, 68, 69, 70, 71, 72, 73, 74, 75, 76, 77, 78, 79] (by decide +kernel) (by decide +kernel)
set_option maxRecDepth 20000 in
theorem gX5_dark_X1_remember : GoodIn wsX5_dark (wsV RX5 197 RX1 yX1_remember wsX1_remember) := goodIn_app (goodIn_of _ (by decide +kernel)) ggX5_dark_X1_remember
set_option maxRecDepth 20000 in
theorem ggX5_dark_X2_passDays : GoodIn wsX5_dark wsX2_passDays := goodIn_r _ [45, 28, 34, 38, 46, 47, 20, 48, 63, 64, 65, 66, 67, 68, 69, 70, 71, 72, 73, 74, 75, 76, 77, 78, 79] (by decide +kernel) (by decide +kernel)
set_option maxRecDepth 20000 in
theorem gX5_dark_X2_passDays : GoodIn wsX5_dark (wsV RX5 238 RX2 yX2_passDays wsX2_passDays) := goodIn_app (goodIn_of _ (by decide +kernel)) ggX5_dark_X2_passDays
set_option maxRecDepth 20000 in
theorem ggX5_dark_X2_dayNow : GoodIn wsX5_dark wsX2_dayNow := goodIn_r _ [52, 34, 63, 64, 65, 66, 67, 68, 69, 70, 71, 72, 73, 74, 75, 76, 77, 78, 79] (by decide +kernel) (by decide +kernel)
set_option maxRecDepth 20000 in
theorem gX5_dark_X2_dayNow : GoodIn wsX5_dark (wsV RX5 97 RX2 yX2_dayNow wsX2_dayNow) := goodIn_app (goodIn_of _ (by decide +kernel)) ggX5_dark_X2_dayNow
theorem dX5_dark_0 : decode cX5_dark 0 = .ok (.iload_n 1, 1) := by decide +kernel
theorem dX5_dark_1 : decode cX5_dark 1 = .ok (.iconst 1, 1) := by decide +kernel
theorem dX5_dark_2 : decode cX5_dark 2 = .ok (.bipush 99, 2) := by decide +kernel
theorem dX5_dark_4 : decode cX5_dark 4 = .ok (.invokestatic 52, 3) := by decide +kernel
theorem dX5_dark_7 : decode cX5_dark 7 = .ok (.aload_n 0, 1) := by decide +kernel
theorem dX5_dark_8 : decode cX5_dark 8 = .ok (.getfield 40, 3) := by decide +kernel
theorem dX5_dark_11 : decode cX5_dark 11 = .ok (.aload_n 0, 1) := by decide +kernel
theorem dX5_dark_12 : decode cX5_dark 12 = .ok (.getfield 19, 3) := by decide +kernel
theorem dX5_dark_15 : decode cX5_dark 15 = .ok (.invokevirtual 197, 3) := by decide +kernel
theorem dX5_dark_18 : decode cX5_dark 18 = .ok (.aload_n 0, 1) := by decide +kernel
theorem dX5_dark_19 : decode cX5_dark 19 = .ok (.getfield 19, 3) := by decide +kernel
theorem dX5_dark_22 : decode cX5_dark 22 = .ok (.iload_n 1, 1) := by decide +kernel
theorem dX5_dark_23 : decode cX5_dark 23 = .ok (.invokevirtual 238, 3) := by decide +kernel
theorem dX5_dark_26 : decode cX5_dark 26 = .ok (.pop, 1) := by decide +kernel
theorem dX5_dark_27 : decode cX5_dark 27 = .ok (.aload_n 0, 1) := by decide +kernel
theorem dX5_dark_28 : decode cX5_dark 28 = .ok (.getfield 19, 3) := by decide +kernel
theorem dX5_dark_31 : decode cX5_dark 31 = .ok (.invokevirtual 97, 3) := by decide +kernel
theorem dX5_dark_34 : decode cX5_dark 34 = .ok (.ireturn, 1) := by decide +kernel
set_option maxRecDepth 20000 in
theorem ggX5_promote_X5_needRole : GoodIn wsX5_promote wsX5_needRole := goodIn_ca (goodIn_r _ [9, 10, 11, 3, 12, 13, 14, 15, 16, 17, 65, 66, 67, 68, 69, 70, 71, 72, 73, 74, 75, 76, 77, 78, 79, 80, 81, 82, 83, 84, 85, 86, 87, 88] (by decide +kernel) (by decide +kernel)) (goodIn_sub (fun _ h => List.mem_cons_of_mem _ (List.mem_append_right _ h)) (by decide +kernel))
set_option maxRecDepth 20000 in
theorem gX5_promote_X5_needRole : GoodIn wsX5_promote (wsV RX5 120 RX5 yX5_needRole wsX5_needRole) := goodIn_app (goodIn_of _ (by decide +kernel)) ggX5_promote_X5_needRole
set_option maxRecDepth 20000 in
theorem ggX5_promote_X2_promotable : GoodIn wsX5_promote wsX2_promotable := goodIn_r _ [21, 22, 23, 24, 25, 26, 27, 15, 28, 29, 30, 31, 72, 73, 74, 75, 76, 77, 78, 79, 80, 81, 82, 83, 84, 85, 86, 87, 88] (by decide +kernel) (by decide +kernel)
set_option maxRecDepth 20000 in
theorem gX5_promote_X2_promotable : GoodIn wsX5_promote (wsV RX5 241 RX2 yX2_promotable wsX2_promotable) := goodIn_app (goodIn_of _ (by decide +kernel)) ggX5_promote_X2_promotable
set_option maxRecDepth 20000 in
theorem ggX5_promote_X1_remember : GoodIn wsX5_promote wsX1_remember := goodIn_r _ [36, 37, 38, 39, 40, 41, 42, 15, 43, 44, 22, 45, 46, 23, 47, 48, 49, 50, 51, 17, 24, 52, 53, 54, 55, 56, 57, 58, 59, 89, 90, 91, 72, 73, 74, 75, 76, 77, 78, 79, 80, 81, 82, 83, 84, 85, 86, 87, 88] (by decide +kernel) (by decide +kernel)
set_option maxRecDepth 20000 in
theorem gX5_promote_X1_remember : GoodIn wsX5_promote (wsV RX5 197 RX1 yX1_remember wsX1_remember) := goodIn_app (goodIn_of _ (by decide +kernel)) ggX5_promote_X1_remember
set_option maxRecDepth 20000 in
theorem ggX5_promote_X2_putFirst : GoodIn wsX5_promote wsX2_putFirst := goodIn_r _ [63, 22, 64, 13, 14, 15, 16, 17, 25, 26, 27, 28, 24, 72, 73, 74, 75, 76, 77, 78, 79, 80, 81, 82, 83, 84, 85, 86, 87, 88] (by decide +kernel) (by decide +kernel)
set_option maxRecDepth 20000 in
theorem gX5_promote_X2_putFirst : GoodIn wsX5_promote (wsV RX5 216 RX2 yX2_putFirst wsX2_putFirst) := goodIn_app (goodIn_of _ (by decide +kernel)) ggX5_promote_X2_putFirst
theorem dX5_promote_0 : decode cX5_promote 0 = .ok (.aload_n 0, 1) := by decide +kernel
theorem dX5_promote_1 : decode cX5_promote 1 = .ok (.iload_n 1, 1) := by decide +kernel
theorem dX5_promote_2 : decode cX5_promote 2 = .ok (.invokevirtual 120, 3) := by decide +kernel
theorem dX5_promote_5 : decode cX5_promote 5 = .ok (.aload_n 0, 1) := by decide +kernel
theorem dX5_promote_6 : decode cX5_promote 6 = .ok (.getfield 19, 3) := by decide +kernel
theorem dX5_promote_9 : decode cX5_promote 9 = .ok (.iload_n 1, 1) := by decide +kernel
theorem dX5_promote_10 : decode cX5_promote 10 = .ok (.invokevirtual 241, 3) := by decide +kernel
theorem dX5_promote_13 : decode cX5_promote 13 = .ok (.istore_n 2, 1) := by decide +kernel
theorem dX5_promote_14 : decode cX5_promote 14 = .ok (.iload_n 2, 1) := by decide +kernel
theorem dX5_promote_15 : decode cX5_promote 15 = .ok (.iconst (-1), 1) := by decide +kernel
theorem dX5_promote_16 : decode cX5_promote 16 = .ok (.if_icmp .ne 13, 3) := by decide +kernel
theorem dX5_promote_19 : decode cX5_promote 19 = .ok (.new 60, 3) := by decide +kernel
theorem dX5_promote_22 : decode cX5_promote 22 = .ok (.dup, 1) := by decide +kernel
theorem dX5_promote_23 : decode cX5_promote 23 = .ok (.ldc 244, 2) := by decide +kernel
theorem dX5_promote_25 : decode cX5_promote 25 = .ok (.invokespecial 64, 3) := by decide +kernel
theorem dX5_promote_28 : decode cX5_promote 28 = .ok (.athrow, 1) := by decide +kernel
theorem dX5_promote_29 : decode cX5_promote 29 = .ok (.aload_n 0, 1) := by decide +kernel
theorem dX5_promote_30 : decode cX5_promote 30 = .ok (.getfield 40, 3) := by decide +kernel
theorem dX5_promote_33 : decode cX5_promote 33 = .ok (.aload_n 0, 1) := by decide +kernel
theorem dX5_promote_34 : decode cX5_promote 34 = .ok (.getfield 19, 3) := by decide +kernel
theorem dX5_promote_37 : decode cX5_promote 37 = .ok (.invokevirtual 197, 3) := by decide +kernel
theorem dX5_promote_40 : decode cX5_promote 40 = .ok (.aload_n 0, 1) := by decide +kernel
theorem dX5_promote_41 : decode cX5_promote 41 = .ok (.getfield 19, 3) := by decide +kernel
theorem dX5_promote_44 : decode cX5_promote 44 = .ok (.iload_n 1, 1) := by decide +kernel
theorem dX5_promote_45 : decode cX5_promote 45 = .ok (.iload_n 2, 1) := by decide +kernel
theorem dX5_promote_46 : decode cX5_promote 46 = .ok (.invokevirtual 216, 3) := by decide +kernel
theorem dX5_promote_49 : decode cX5_promote 49 = .ok (.pop, 1) := by decide +kernel
theorem dX5_promote_50 : decode cX5_promote 50 = .ok (.iload_n 2, 1) := by decide +kernel
theorem dX5_promote_51 : decode cX5_promote 51 = .ok (.ireturn, 1) := by decide +kernel
set_option maxRecDepth 20000 in
theorem ggX5_set_X5_needRange : GoodIn wsX5_set wsX5_needRange := goodIn_ca (goodIn_r _ [8, 9, 10] (by decide +kernel) (by decide +kernel)) (goodIn_sub (fun _ h => List.mem_cons_of_mem _ (List.mem_append_right _ h)) (by decide +kernel))
set_option maxRecDepth 20000 in
theorem gX5_set_X5_needRange : GoodIn wsX5_set (va_wsS RX5 52 yX5_needRange wsX5_needRange) := goodIn_app (goodIn_of _ (by decide +kernel)) ggX5_set_X5_needRange
set_option maxRecDepth 20000 in
theorem ggX5_set_X1_remember : GoodIn wsX5_set wsX1_remember := goodIn_r _ [15, 16, 17, 18, 19, 20, 21, 22, 23, 24, 25, 26, 27, 28, 29, 30, 31, 32, 33, 34, 35, 36, 37, 38, 39, 40, 41, 42, 43, 59, 60, 61, 62, 63, 64, 65, 66, 67, 68, 69, 70, 71, 72, 73, 74, 75, 76, 77, 78] (by decide +kernel) (by decide +kernel)
set_option maxRecDepth 20000 in
theorem gX5_set_X1_remember : GoodIn wsX5_set (wsV RX5 197 RX1 yX1_remember wsX1_remember) := goodIn_app (goodIn_of _ (by decide +kernel)) ggX5_set_X1_remember
set_option maxRecDepth 20000 in
theorem ggX5_set_X2_settingOf : GoodIn wsX5_set wsX2_settingOf := goodIn_r _ [47, 33, 62, 63, 64, 65, 66, 67, 68, 69, 70, 71, 72, 73, 74, 75, 76, 77, 78] (by decide +kernel) (by decide +kernel)
set_option maxRecDepth 20000 in
theorem gX5_set_X2_settingOf : GoodIn wsX5_set (wsV RX5 184 RX2 yX2_settingOf wsX2_settingOf) := goodIn_app (goodIn_of _ (by decide +kernel)) ggX5_set_X2_settingOf
set_option maxRecDepth 20000 in
theorem ggX5_set_X2_putSetting : GoodIn wsX5_set wsX2_putSetting := goodIn_r _ [51, 33, 62, 63, 64, 65, 66, 67, 68, 69, 70, 71, 72, 73, 74, 75, 76, 77, 78] (by decide +kernel) (by decide +kernel)
set_option maxRecDepth 20000 in
theorem gX5_set_X2_putSetting : GoodIn wsX5_set (wsV RX5 253 RX2 yX2_putSetting wsX2_putSetting) := goodIn_app (goodIn_of _ (by decide +kernel)) ggX5_set_X2_putSetting
theorem dX5_set_0 : decode cX5_set 0 = .ok (.iload_n 1, 1) := by decide +kernel
theorem dX5_set_1 : decode cX5_set 1 = .ok (.iconst 0, 1) := by decide +kernel
theorem dX5_set_2 : decode cX5_set 2 = .ok (.iconst 4, 1) := by decide +kernel
theorem dX5_set_3 : decode cX5_set 3 = .ok (.invokestatic 52, 3) := by decide +kernel
theorem dX5_set_6 : decode cX5_set 6 = .ok (.iload_n 2, 1) := by decide +kernel
theorem dX5_set_7 : decode cX5_set 7 = .ok (.getstatic 246, 3) := by decide +kernel
theorem dX5_set_10 : decode cX5_set 10 = .ok (.iload_n 1, 1) := by decide +kernel
theorem dX5_set_11 : decode cX5_set 11 = .ok (.iaload, 1) := by decide +kernel
theorem dX5_set_12 : decode cX5_set 12 = .ok (.getstatic 250, 3) := by decide +kernel
theorem dX5_set_15 : decode cX5_set 15 = .ok (.iload_n 1, 1) := by decide +kernel
theorem dX5_set_16 : decode cX5_set 16 = .ok (.iaload, 1) := by decide +kernel
theorem dX5_set_17 : decode cX5_set 17 = .ok (.invokestatic 52, 3) := by decide +kernel
theorem dX5_set_20 : decode cX5_set 20 = .ok (.aload_n 0, 1) := by decide +kernel
theorem dX5_set_21 : decode cX5_set 21 = .ok (.getfield 40, 3) := by decide +kernel
theorem dX5_set_24 : decode cX5_set 24 = .ok (.aload_n 0, 1) := by decide +kernel
theorem dX5_set_25 : decode cX5_set 25 = .ok (.getfield 19, 3) := by decide +kernel
theorem dX5_set_28 : decode cX5_set 28 = .ok (.invokevirtual 197, 3) := by decide +kernel
theorem dX5_set_31 : decode cX5_set 31 = .ok (.aload_n 0, 1) := by decide +kernel
theorem dX5_set_32 : decode cX5_set 32 = .ok (.getfield 19, 3) := by decide +kernel
theorem dX5_set_35 : decode cX5_set 35 = .ok (.iload_n 1, 1) := by decide +kernel
theorem dX5_set_36 : decode cX5_set 36 = .ok (.invokevirtual 184, 3) := by decide +kernel
theorem dX5_set_39 : decode cX5_set 39 = .ok (.istore_n 3, 1) := by decide +kernel
theorem dX5_set_40 : decode cX5_set 40 = .ok (.aload_n 0, 1) := by decide +kernel
theorem dX5_set_41 : decode cX5_set 41 = .ok (.getfield 19, 3) := by decide +kernel
theorem dX5_set_44 : decode cX5_set 44 = .ok (.iload_n 1, 1) := by decide +kernel
theorem dX5_set_45 : decode cX5_set 45 = .ok (.iload_n 2, 1) := by decide +kernel
theorem dX5_set_46 : decode cX5_set 46 = .ok (.invokevirtual 253, 3) := by decide +kernel
theorem dX5_set_49 : decode cX5_set 49 = .ok (.iload_n 3, 1) := by decide +kernel
theorem dX5_set_50 : decode cX5_set 50 = .ok (.ireturn, 1) := by decide +kernel
set_option maxRecDepth 20000 in
theorem ggX5_undo_X1_isEmpty : GoodIn wsX5_undo wsX1_isEmpty := goodIn_r _ [9, 10, 53, 54, 55] (by decide +kernel) (by decide +kernel)
set_option maxRecDepth 20000 in
theorem gX5_undo_X1_isEmpty : GoodIn wsX5_undo (wsV RX5 257 RX1 yX1_isEmpty wsX1_isEmpty) := goodIn_app (goodIn_of _ (by decide +kernel)) ggX5_undo_X1_isEmpty
set_option maxRecDepth 20000 in
theorem ggX5_undo_X1_takeBack : GoodIn wsX5_undo wsX1_takeBack := goodIn_r _ [14, 10, 15, 16, 17, 18, 19, 20, 21, 22, 23, 24, 25, 26, 27, 28, 29, 30, 31, 32, 33, 34, 35, 36, 37, 38, 39, 40, 41, 53, 54, 55, 56, 57, 58, 59, 60, 61, 62, 63, 64, 65, 66, 67, 68, 69, 70, 71, 72] (by decide +kernel) (by decide +kernel)
set_option maxRecDepth 20000 in
theorem gX5_undo_X1_takeBack : GoodIn wsX5_undo (wsV RX5 262 RX1 yX1_takeBack wsX1_takeBack) := goodIn_app (goodIn_of _ (by decide +kernel)) ggX5_undo_X1_takeBack
set_option maxRecDepth 20000 in
theorem ggX5_undo_X1_size : GoodIn wsX5_undo wsX1_size := goodIn_r _ [45, 10, 53, 54, 55] (by decide +kernel) (by decide +kernel)
set_option maxRecDepth 20000 in
theorem gX5_undo_X1_size : GoodIn wsX5_undo (wsV RX5 265 RX1 yX1_size wsX1_size) := goodIn_app (goodIn_of _ (by decide +kernel)) ggX5_undo_X1_size
theorem dX5_undo_0 : decode cX5_undo 0 = .ok (.aload_n 0, 1) := by decide +kernel
theorem dX5_undo_1 : decode cX5_undo 1 = .ok (.getfield 40, 3) := by decide +kernel
theorem dX5_undo_4 : decode cX5_undo 4 = .ok (.invokevirtual 257, 3) := by decide +kernel
theorem dX5_undo_7 : decode cX5_undo 7 = .ok (.ifCond .eq 14, 3) := by decide +kernel
theorem dX5_undo_10 : decode cX5_undo 10 = .ok (.new 60, 3) := by decide +kernel
theorem dX5_undo_13 : decode cX5_undo 13 = .ok (.dup, 1) := by decide +kernel
theorem dX5_undo_14 : decode cX5_undo 14 = .ok (.ldc_w 260, 3) := by decide +kernel
theorem dX5_undo_17 : decode cX5_undo 17 = .ok (.invokespecial 64, 3) := by decide +kernel
theorem dX5_undo_20 : decode cX5_undo 20 = .ok (.athrow, 1) := by decide +kernel
theorem dX5_undo_21 : decode cX5_undo 21 = .ok (.aload_n 0, 1) := by decide +kernel
theorem dX5_undo_22 : decode cX5_undo 22 = .ok (.getfield 40, 3) := by decide +kernel
theorem dX5_undo_25 : decode cX5_undo 25 = .ok (.aload_n 0, 1) := by decide +kernel
theorem dX5_undo_26 : decode cX5_undo 26 = .ok (.getfield 19, 3) := by decide +kernel
theorem dX5_undo_29 : decode cX5_undo 29 = .ok (.invokevirtual 262, 3) := by decide +kernel
theorem dX5_undo_32 : decode cX5_undo 32 = .ok (.aload_n 0, 1) := by decide +kernel
theorem dX5_undo_33 : decode cX5_undo 33 = .ok (.getfield 40, 3) := by decide +kernel
theorem dX5_undo_36 : decode cX5_undo 36 = .ok (.invokevirtual 265, 3) := by decide +kernel
theorem dX5_undo_39 : decode cX5_undo 39 = .ok (.ireturn, 1) := by decide +kernel
set_option maxRecDepth 20000 in
theorem ggX5_strength_X2_freePlayers : GoodIn wsX5_strength wsX2_freePlayers := goodIn_r _ [7, 8, 9, 10, 11, 6, 12, 13, 14, 15, 16, 80, 81, 82, 83, 84, 85, 86, 87, 88, 89, 90, 91, 92, 93, 94, 95, 96] (by decide +kernel) (by decide +kernel)
set_option maxRecDepth 20000 in
theorem gX5_strength_X2_freePlayers : GoodIn wsX5_strength (wsV RX5 130 RX2 yX2_freePlayers wsX2_freePlayers) := goodIn_app (goodIn_of _ (by decide +kernel)) ggX5_strength_X2_freePlayers
set_option maxRecDepth 20000 in
theorem ggX5_strength_X0_seek : GoodIn wsX5_strength wsX0_seek := goodIn_r _ [21, 22, 23, 24, 25, 26, 27, 28, 29, 6, 30, 31, 32, 33, 34, 35, 8, 36, 37, 20, 38, 39, 40, 41, 42, 43, 44, 45, 46, 47, 48, 49, 50, 51, 52, 53, 54, 55, 56, 57, 58, 59, 60, 61, 62, 63, 64, 65, 66, 67, 68, 69, 70, 71, 72, 97, 98, 99, 100, 101, 102, 80, 81, 82, 83, 84, 85, 86, 87, 88, 89, 90, 91, 92, 93, 94, 95, 96] (by decide +kernel) (by decide +kernel)
set_option maxRecDepth 20000 in
theorem gX5_strength_X0_seek : GoodIn wsX5_strength (wsV RX5 133 RX0 yX0_seek wsX0_seek) := goodIn_app (goodIn_of _ (by decide +kernel)) ggX5_strength_X0_seek
theorem dX5_strength_0 : decode cX5_strength 0 = .ok (.aload_n 0, 1) := by decide +kernel
theorem dX5_strength_1 : decode cX5_strength 1 = .ok (.getfield 26, 3) := by decide +kernel
theorem dX5_strength_4 : decode cX5_strength 4 = .ok (.aload_n 0, 1) := by decide +kernel
theorem dX5_strength_5 : decode cX5_strength 5 = .ok (.getfield 19, 3) := by decide +kernel
theorem dX5_strength_8 : decode cX5_strength 8 = .ok (.aload_n 0, 1) := by decide +kernel
theorem dX5_strength_9 : decode cX5_strength 9 = .ok (.getfield 19, 3) := by decide +kernel
theorem dX5_strength_12 : decode cX5_strength 12 = .ok (.invokevirtual 130, 3) := by decide +kernel
theorem dX5_strength_15 : decode cX5_strength 15 = .ok (.invokevirtual 133, 3) := by decide +kernel
theorem dX5_strength_18 : decode cX5_strength 18 = .ok (.ireturn, 1) := by decide +kernel
set_option maxRecDepth 20000 in
theorem ggX5_without_X5_needPlayer : GoodIn wsX5_without wsX5_needPlayer := goodIn_ca (goodIn_r _ [7, 8, 9, 2, 10, 11, 12, 13, 14, 15, 88, 89, 90, 91, 92, 93, 94, 95, 96, 97, 98, 99, 100, 101, 102, 103, 104, 105, 106, 107, 108, 109, 110, 111] (by decide +kernel) (by decide +kernel)) (goodIn_sub (fun _ h => List.mem_cons_of_mem _ (List.mem_append_right _ h)) (by decide +kernel))
set_option maxRecDepth 20000 in
theorem gX5_without_X5_needPlayer : GoodIn wsX5_without (wsV RX5 148 RX5 yX5_needPlayer wsX5_needPlayer) := goodIn_app (goodIn_of _ (by decide +kernel)) ggX5_without_X5_needPlayer
set_option maxRecDepth 20000 in
theorem ggX5_without_X2_freePlayersBut : GoodIn wsX5_without wsX2_freePlayersBut := goodIn_r _ [19, 20, 21, 22, 13, 23, 15, 24, 25, 26, 27, 28, 29, 30, 31, 95, 96, 97, 98, 99, 100, 101, 102, 103, 104, 105, 106, 107, 108, 109, 110, 111] (by decide +kernel) (by decide +kernel)
set_option maxRecDepth 20000 in
theorem gX5_without_X2_freePlayersBut : GoodIn wsX5_without (wsV RX5 266 RX2 yX2_freePlayersBut wsX2_freePlayersBut) := goodIn_app (goodIn_of _ (by decide +kernel)) ggX5_without_X2_freePlayersBut
set_option maxRecDepth 20000 in
theorem ggX5_without_X0_seek : GoodIn wsX5_without wsX0_seek := goodIn_r _ [36, 37, 38, 39, 40, 41, 42, 43, 44, 13, 45, 46, 47, 48, 49, 50, 15, 51, 52, 35, 53, 54, 55, 56, 57, 58, 59, 60, 61, 62, 63, 64, 65, 66, 67, 68, 69, 70, 71, 72, 73, 74, 75, 76, 77, 78, 79, 80, 81, 82, 83, 84, 85, 86, 87, 112, 113, 114, 115, 116, 117, 95, 96, 97, 98, 99, 100, 101, 102, 103, 104, 105, 106, 107, 108, 109, 110, 111] (by decide +kernel) (by decide +kernel)
set_option maxRecDepth 20000 in
theorem gX5_without_X0_seek : GoodIn wsX5_without (wsV RX5 133 RX0 yX0_seek wsX0_seek) := goodIn_app (goodIn_of _ (by decide +kernel)) ggX5_without_X0_seek
theorem dX5_without_0 : decode cX5_without 0 = .ok (.aload_n 0, 1) := by decide +kernel
theorem dX5_without_1 : decode cX5_without 1 = .ok (.iload_n 1, 1) := by decide +kernel
theorem dX5_without_2 : decode cX5_without 2 = .ok (.invokevirtual 148, 3) := by decide +kernel
theorem dX5_without_5 : decode cX5_without 5 = .ok (.aload_n 0, 1) := by decide +kernel
theorem dX5_without_6 : decode cX5_without 6 = .ok (.getfield 26, 3) := by decide +kernel
theorem dX5_without_9 : decode cX5_without 9 = .ok (.aload_n 0, 1) := by decide +kernel
theorem dX5_without_10 : decode cX5_without 10 = .ok (.getfield 19, 3) := by decide +kernel
theorem dX5_without_13 : decode cX5_without 13 = .ok (.aload_n 0, 1) := by decide +kernel
theorem dX5_without_14 : decode cX5_without 14 = .ok (.getfield 19, 3) := by decide +kernel
theorem dX5_without_17 : decode cX5_without 17 = .ok (.iload_n 1, 1) := by decide +kernel
theorem dX5_without_18 : decode cX5_without 18 = .ok (.invokevirtual 266, 3) := by decide +kernel
theorem dX5_without_21 : decode cX5_without 21 = .ok (.invokevirtual 133, 3) := by decide +kernel
theorem dX5_without_24 : decode cX5_without 24 = .ok (.ireturn, 1) := by decide +kernel
set_option maxRecDepth 20000 in
theorem ggX5_missed_X2_roleCount : GoodIn wsX5_missed wsX2_roleCount := goodIn_r _ [7, 8, 92, 93, 94, 95, 96, 97, 98, 99, 100, 101, 102, 103, 104, 105, 106, 107, 108] (by decide +kernel) (by decide +kernel)
set_option maxRecDepth 20000 in
theorem gX5_missed_X2_roleCount : GoodIn wsX5_missed (wsV RX5 91 RX2 yX2_roleCount wsX2_roleCount) := goodIn_app (goodIn_of _ (by decide +kernel)) ggX5_missed_X2_roleCount
set_option maxRecDepth 20000 in
theorem ggX5_missed_X2_freePlayers : GoodIn wsX5_missed wsX2_freePlayers := goodIn_r _ [12, 13, 14, 15, 16, 6, 17, 18, 19, 20, 21, 92, 93, 94, 95, 96, 97, 98, 99, 100, 101, 102, 103, 104, 105, 106, 107, 108] (by decide +kernel) (by decide +kernel)
set_option maxRecDepth 20000 in
theorem gX5_missed_X2_freePlayers : GoodIn wsX5_missed (wsV RX5 130 RX2 yX2_freePlayers wsX2_freePlayers) := goodIn_app (goodIn_of _ (by decide +kernel)) ggX5_missed_X2_freePlayers
set_option maxRecDepth 20000 in
theorem ggX5_missed_X0_seek : GoodIn wsX5_missed wsX0_seek := goodIn_r _ [26, 27, 28, 29, 30, 31, 32, 4, 5, 6, 7, 8, 33, 34, 35, 36, 13, 37, 38, 25, 39, 40, 41, 42, 43, 44, 45, 46, 47, 48, 49, 50, 51, 52, 53, 54, 55, 56, 57, 58, 59, 60, 61, 62, 63, 64, 65, 66, 67, 68, 69, 70, 71, 72, 73, 109, 110, 111, 112, 113, 114, 92, 93, 94, 95, 96, 97, 98, 99, 100, 101, 102, 103, 104, 105, 106, 107, 108] (by decide +kernel) (by decide +kernel)
set_option maxRecDepth 20000 in
theorem gX5_missed_X0_seek : GoodIn wsX5_missed (wsV RX5 133 RX0 yX0_seek wsX0_seek) := goodIn_app (goodIn_of _ (by decide +kernel)) ggX5_missed_X0_seek
set_option maxRecDepth 20000 in
theorem ggX5_missed_X0_mostMissed : GoodIn wsX5_missed wsX0_mostMissed := goodIn_r _ [77, 33, 34, 35, 6, 36, 13, 78, 15, 16, 17, 18, 19, 20, 21, 79, 80, 81, 82, 83, 10, 11, 12, 14, 84, 23, 24, 25, 26, 27, 28, 29, 30, 31, 32, 4, 5, 7, 8, 37, 38, 39, 40, 41, 42, 43, 44, 45, 46, 47, 48, 49, 50, 51, 52, 53, 54, 55, 56, 57, 58, 59, 60, 61, 62, 63, 64, 65, 66, 67, 68, 69, 70, 71, 72, 73, 92, 93, 94, 95, 96, 97, 98, 99, 100, 101, 102, 103, 104, 105, 106, 107, 108, 109, 110, 111, 112, 113, 114] (by decide +kernel) (by decide +kernel)
set_option maxRecDepth 20000 in
theorem gX5_missed_X0_mostMissed : GoodIn wsX5_missed (wsV RX5 269 RX0 yX0_mostMissed wsX0_mostMissed) := goodIn_app (goodIn_of _ (by decide +kernel)) ggX5_missed_X0_mostMissed
theorem dX5_missed_0 : decode cX5_missed 0 = .ok (.aload_n 0, 1) := by decide +kernel
theorem dX5_missed_1 : decode cX5_missed 1 = .ok (.getfield 19, 3) := by decide +kernel
theorem dX5_missed_4 : decode cX5_missed 4 = .ok (.invokevirtual 91, 3) := by decide +kernel
theorem dX5_missed_7 : decode cX5_missed 7 = .ok (.ifCond .eq 25, 3) := by decide +kernel
theorem dX5_missed_10 : decode cX5_missed 10 = .ok (.aload_n 0, 1) := by decide +kernel
theorem dX5_missed_11 : decode cX5_missed 11 = .ok (.getfield 26, 3) := by decide +kernel
theorem dX5_missed_14 : decode cX5_missed 14 = .ok (.aload_n 0, 1) := by decide +kernel
theorem dX5_missed_15 : decode cX5_missed 15 = .ok (.getfield 19, 3) := by decide +kernel
theorem dX5_missed_18 : decode cX5_missed 18 = .ok (.aload_n 0, 1) := by decide +kernel
theorem dX5_missed_19 : decode cX5_missed 19 = .ok (.getfield 19, 3) := by decide +kernel
theorem dX5_missed_22 : decode cX5_missed 22 = .ok (.invokevirtual 130, 3) := by decide +kernel
theorem dX5_missed_25 : decode cX5_missed 25 = .ok (.invokevirtual 133, 3) := by decide +kernel
theorem dX5_missed_28 : decode cX5_missed 28 = .ok (.iconst (-1), 1) := by decide +kernel
theorem dX5_missed_29 : decode cX5_missed 29 = .ok (.if_icmp .ne 5, 3) := by decide +kernel
theorem dX5_missed_32 : decode cX5_missed 32 = .ok (.iconst (-1), 1) := by decide +kernel
theorem dX5_missed_33 : decode cX5_missed 33 = .ok (.ireturn, 1) := by decide +kernel
theorem dX5_missed_34 : decode cX5_missed 34 = .ok (.aload_n 0, 1) := by decide +kernel
theorem dX5_missed_35 : decode cX5_missed 35 = .ok (.getfield 26, 3) := by decide +kernel
theorem dX5_missed_38 : decode cX5_missed 38 = .ok (.aload_n 0, 1) := by decide +kernel
theorem dX5_missed_39 : decode cX5_missed 39 = .ok (.getfield 19, 3) := by decide +kernel
theorem dX5_missed_42 : decode cX5_missed 42 = .ok (.invokevirtual 269, 3) := by decide +kernel
theorem dX5_missed_45 : decode cX5_missed 45 = .ok (.ireturn, 1) := by decide +kernel
set_option maxRecDepth 20000 in
theorem ggX5_coming_X5_needRange : GoodIn wsX5_coming wsX5_needRange := goodIn_ca (goodIn_r _ [7, 8, 9] (by decide +kernel) (by decide +kernel)) (goodIn_sub (fun _ h => List.mem_cons_of_mem _ (List.mem_append_left _ (List.mem_append_right _ h))) (by decide +kernel))
set_option maxRecDepth 20000 in
theorem gX5_coming_X5_needRange : GoodIn wsX5_coming (va_wsS RX5 52 yX5_needRange wsX5_needRange) := goodIn_app (goodIn_of _ (by decide +kernel)) ggX5_coming_X5_needRange
set_option maxRecDepth 20000 in
theorem ggX5_coming_X5_needSomeRole : GoodIn wsX5_coming wsX5_needSomeRole := goodIn_ca (goodIn_r _ [13, 14, 15, 2, 16, 17, 18, 19, 20, 21, 136, 137, 138, 139, 140, 141, 142, 143, 144, 145, 146, 147, 148, 149, 150, 151, 152, 153, 154, 155, 156, 157, 158, 159] (by decide +kernel) (by decide +kernel)) (goodIn_sub (fun _ h => List.mem_cons_of_mem _ (List.mem_append_right _ h)) (by decide +kernel))
set_option maxRecDepth 20000 in
theorem gX5_coming_X5_needSomeRole : GoodIn wsX5_coming (wsV RX5 231 RX5 yX5_needSomeRole wsX5_needSomeRole) := goodIn_app (goodIn_of _ (by decide +kernel)) ggX5_coming_X5_needSomeRole
set_option maxRecDepth 20000 in
theorem ggX5_coming_X4_begin : GoodIn wsX5_coming wsX4_begin := goodIn_r _ [26, 27, 28, 29, 30, 19, 31, 32, 33, 34, 35, 36, 37, 38, 39, 40, 41, 21, 42, 43, 44, 45, 46, 47, 48, 49, 50, 160, 143, 144, 145, 146, 147, 148, 149, 150, 151, 152, 153, 154, 155, 156, 157, 158, 159] (by decide +kernel) (by decide +kernel)
set_option maxRecDepth 20000 in
theorem gX5_coming_X4_begin : GoodIn wsX5_coming (wsV RX5 273 RX4 yX4_begin wsX4_begin) := goodIn_app (goodIn_of _ (by decide +kernel)) ggX5_coming_X4_begin
set_option maxRecDepth 20000 in
theorem ggX5_coming_X4_castDays : GoodIn wsX5_coming wsX4_castDays := goodIn_r _ [54, 27, 55, 56, 57, 19, 58, 45, 42, 38, 43, 47, 59, 60, 61, 62, 63, 64, 65, 66, 39, 41, 67, 68, 69, 70, 71, 72, 73, 74, 75, 76, 77, 17, 18, 20, 21, 78, 79, 80, 81, 82, 83, 84, 85, 86, 87, 88, 35, 32, 33, 89, 90, 91, 92, 93, 94, 95, 96, 97, 98, 99, 100, 101, 102, 103, 104, 105, 106, 107, 108, 109, 110, 111, 112, 113, 114, 115, 116, 117, 118, 119, 44, 120, 121, 122, 123, 124, 125, 126, 127, 128, 129, 130, 131, 46, 34, 37, 40, 36, 132, 133, 134, 135, 160, 143, 144, 145, 146, 147, 148, 149, 150, 151, 152, 153, 154, 155, 156, 157, 158, 159, 161, 162, 163, 164, 165, 166] (by decide +kernel) (by decide +kernel)
set_option maxRecDepth 20000 in
theorem gX5_coming_X4_castDays : GoodIn wsX5_coming (wsV RX5 276 RX4 yX4_castDays wsX4_castDays) := goodIn_app (goodIn_of _ (by decide +kernel)) ggX5_coming_X4_castDays
theorem dX5_coming_0 : decode cX5_coming 0 = .ok (.iload_n 1, 1) := by decide +kernel
theorem dX5_coming_1 : decode cX5_coming 1 = .ok (.iconst 1, 1) := by decide +kernel
theorem dX5_coming_2 : decode cX5_coming 2 = .ok (.bipush 30, 2) := by decide +kernel
theorem dX5_coming_4 : decode cX5_coming 4 = .ok (.invokestatic 52, 3) := by decide +kernel
theorem dX5_coming_7 : decode cX5_coming 7 = .ok (.aload_n 0, 1) := by decide +kernel
theorem dX5_coming_8 : decode cX5_coming 8 = .ok (.invokevirtual 231, 3) := by decide +kernel
theorem dX5_coming_11 : decode cX5_coming 11 = .ok (.aload_n 0, 1) := by decide +kernel
theorem dX5_coming_12 : decode cX5_coming 12 = .ok (.getfield 33, 3) := by decide +kernel
theorem dX5_coming_15 : decode cX5_coming 15 = .ok (.aload_n 0, 1) := by decide +kernel
theorem dX5_coming_16 : decode cX5_coming 16 = .ok (.getfield 19, 3) := by decide +kernel
theorem dX5_coming_19 : decode cX5_coming 19 = .ok (.invokevirtual 273, 3) := by decide +kernel
theorem dX5_coming_22 : decode cX5_coming 22 = .ok (.aload_n 0, 1) := by decide +kernel
theorem dX5_coming_23 : decode cX5_coming 23 = .ok (.getfield 33, 3) := by decide +kernel
theorem dX5_coming_26 : decode cX5_coming 26 = .ok (.iload_n 1, 1) := by decide +kernel
theorem dX5_coming_27 : decode cX5_coming 27 = .ok (.aload_n 0, 1) := by decide +kernel
theorem dX5_coming_28 : decode cX5_coming 28 = .ok (.getfield 26, 3) := by decide +kernel
theorem dX5_coming_31 : decode cX5_coming 31 = .ok (.invokevirtual 276, 3) := by decide +kernel
theorem dX5_coming_34 : decode cX5_coming 34 = .ok (.ireturn, 1) := by decide +kernel
set_option maxRecDepth 20000 in
theorem ggX5_degreeFor_X5_needPlayer : GoodIn wsX5_degreeFor wsX5_needPlayer := goodIn_ca (goodIn_r _ [8, 9, 10, 2, 11, 12, 13, 14, 15, 16, 133, 134, 135, 136, 137, 138, 139, 140, 141, 142, 143, 144, 145, 146, 147, 148, 149, 150, 151, 152, 153, 154, 155, 156] (by decide +kernel) (by decide +kernel)) (goodIn_sub (fun _ h => List.mem_cons_of_mem _ (List.mem_append_right _ h)) (by decide +kernel))
set_option maxRecDepth 20000 in
theorem gX5_degreeFor_X5_needPlayer : GoodIn wsX5_degreeFor (wsV RX5 148 RX5 yX5_needPlayer wsX5_needPlayer) := goodIn_app (goodIn_of _ (by decide +kernel)) ggX5_degreeFor_X5_needPlayer
set_option maxRecDepth 20000 in
theorem ggX5_degreeFor_X5_needRole : GoodIn wsX5_degreeFor wsX5_needRole := goodIn_ca (goodIn_r _ [20, 9, 10, 2, 21, 22, 23, 14, 24, 25, 133, 134, 135, 136, 137, 138, 139, 140, 141, 142, 143, 144, 145, 146, 147, 148, 149, 150, 151, 152, 153, 154, 155, 156] (by decide +kernel) (by decide +kernel)) (goodIn_sub (fun _ h => List.mem_cons_of_mem _ (List.mem_append_right _ h)) (by decide +kernel))
set_option maxRecDepth 20000 in
theorem gX5_degreeFor_X5_needRole : GoodIn wsX5_degreeFor (wsV RX5 120 RX5 yX5_needRole wsX5_needRole) := goodIn_app (goodIn_of _ (by decide +kernel)) ggX5_degreeFor_X5_needRole
set_option maxRecDepth 20000 in
theorem ggX5_degreeFor_X4_begin : GoodIn wsX5_degreeFor wsX4_begin := goodIn_r _ [30, 31, 32, 33, 34, 14, 35, 36, 37, 38, 39, 40, 41, 42, 43, 44, 45, 25, 16, 46, 47, 48, 49, 50, 51, 52, 53, 157, 140, 141, 142, 143, 144, 145, 146, 147, 148, 149, 150, 151, 152, 153, 154, 155, 156] (by decide +kernel) (by decide +kernel)
set_option maxRecDepth 20000 in
theorem gX5_degreeFor_X4_begin : GoodIn wsX5_degreeFor (wsV RX5 273 RX4 yX4_begin wsX4_begin) := goodIn_app (goodIn_of _ (by decide +kernel)) ggX5_degreeFor_X4_begin
set_option maxRecDepth 20000 in
theorem ggX5_degreeFor_X4_leastDegree : GoodIn wsX5_degreeFor wsX4_leastDegree := goodIn_r _ [57, 31, 58, 59, 60, 14, 61, 39, 62, 12, 13, 15, 16, 63, 22, 23, 24, 25, 64, 65, 66, 67, 68, 69, 29, 70, 71, 72, 73, 74, 75, 76, 77, 78, 43, 46, 42, 45, 79, 80, 81, 82, 83, 84, 85, 86, 87, 88, 89, 90, 91, 92, 93, 94, 95, 96, 97, 98, 99, 100, 101, 102, 103, 36, 37, 104, 105, 106, 107, 108, 109, 110, 111, 112, 113, 114, 115, 116, 117, 118, 119, 120, 121, 122, 123, 124, 125, 126, 127, 128, 129, 130, 131, 132, 157, 140, 141, 142, 143, 144, 145, 146, 147, 148, 149, 150, 151, 152, 153, 154, 155, 156, 158, 159, 160, 161, 162, 163] (by decide +kernel) (by decide +kernel)
set_option maxRecDepth 20000 in
theorem gX5_degreeFor_X4_leastDegree : GoodIn wsX5_degreeFor (wsV RX5 280 RX4 yX4_leastDegree wsX4_leastDegree) := goodIn_app (goodIn_of _ (by decide +kernel)) ggX5_degreeFor_X4_leastDegree
theorem dX5_degreeFor_0 : decode cX5_degreeFor 0 = .ok (.aload_n 0, 1) := by decide +kernel
theorem dX5_degreeFor_1 : decode cX5_degreeFor 1 = .ok (.iload_n 1, 1) := by decide +kernel
theorem dX5_degreeFor_2 : decode cX5_degreeFor 2 = .ok (.invokevirtual 148, 3) := by decide +kernel
theorem dX5_degreeFor_5 : decode cX5_degreeFor 5 = .ok (.aload_n 0, 1) := by decide +kernel
theorem dX5_degreeFor_6 : decode cX5_degreeFor 6 = .ok (.iload_n 2, 1) := by decide +kernel
theorem dX5_degreeFor_7 : decode cX5_degreeFor 7 = .ok (.invokevirtual 120, 3) := by decide +kernel
theorem dX5_degreeFor_10 : decode cX5_degreeFor 10 = .ok (.aload_n 0, 1) := by decide +kernel
theorem dX5_degreeFor_11 : decode cX5_degreeFor 11 = .ok (.getfield 33, 3) := by decide +kernel
theorem dX5_degreeFor_14 : decode cX5_degreeFor 14 = .ok (.aload_n 0, 1) := by decide +kernel
theorem dX5_degreeFor_15 : decode cX5_degreeFor 15 = .ok (.getfield 19, 3) := by decide +kernel
theorem dX5_degreeFor_18 : decode cX5_degreeFor 18 = .ok (.invokevirtual 273, 3) := by decide +kernel
theorem dX5_degreeFor_21 : decode cX5_degreeFor 21 = .ok (.aload_n 0, 1) := by decide +kernel
theorem dX5_degreeFor_22 : decode cX5_degreeFor 22 = .ok (.getfield 33, 3) := by decide +kernel
theorem dX5_degreeFor_25 : decode cX5_degreeFor 25 = .ok (.iload_n 1, 1) := by decide +kernel
theorem dX5_degreeFor_26 : decode cX5_degreeFor 26 = .ok (.iload_n 2, 1) := by decide +kernel
theorem dX5_degreeFor_27 : decode cX5_degreeFor 27 = .ok (.aload_n 0, 1) := by decide +kernel
theorem dX5_degreeFor_28 : decode cX5_degreeFor 28 = .ok (.getfield 26, 3) := by decide +kernel
theorem dX5_degreeFor_31 : decode cX5_degreeFor 31 = .ok (.invokevirtual 280, 3) := by decide +kernel
theorem dX5_degreeFor_34 : decode cX5_degreeFor 34 = .ok (.ireturn, 1) := by decide +kernel
set_option maxRecDepth 20000 in
theorem ggX5_runScript_X5_needRange : GoodIn wsX5_runScript wsX5_needRange := goodIn_ca (goodIn_r _ [9, 1, 2] (by decide +kernel) (by decide +kernel)) (goodIn_sub (fun _ h => List.mem_cons_of_mem _ (List.mem_append_right _ h)) (by decide +kernel))
set_option maxRecDepth 20000 in
theorem gX5_runScript_X5_needRange : GoodIn wsX5_runScript (va_wsS RX5 52 yX5_needRange wsX5_needRange) := goodIn_app (goodIn_of _ (by decide +kernel)) ggX5_runScript_X5_needRange
set_option maxRecDepth 20000 in
theorem ggX5_runScript_X4_withoutGroups : GoodIn wsX5_runScript wsX4_withoutGroups := goodIn_r _ [13, 14] (by decide +kernel) (by decide +kernel)
set_option maxRecDepth 20000 in
theorem gX5_runScript_X4_withoutGroups : GoodIn wsX5_runScript (va_wsS RX5 284 yX4_withoutGroups wsX4_withoutGroups) := goodIn_app (goodIn_of _ (by decide +kernel)) ggX5_runScript_X4_withoutGroups
set_option maxRecDepth 20000 in
theorem ggX5_runScript_X4_begin : GoodIn wsX5_runScript wsX4_begin := goodIn_r _ [18, 19, 20, 21, 22, 23, 24, 25, 26, 27, 28, 29, 30, 31, 32, 33, 34, 35, 36, 37, 38, 39, 40, 41, 42, 43, 44, 185, 186, 187, 188, 189, 190, 191, 192, 193, 194, 195, 196, 197, 198, 199, 200, 201, 202] (by decide +kernel) (by decide +kernel)
set_option maxRecDepth 20000 in
theorem gX5_runScript_X4_begin : GoodIn wsX5_runScript (wsV RX5 273 RX4 yX4_begin wsX4_begin) := goodIn_app (goodIn_of _ (by decide +kernel)) ggX5_runScript_X4_begin
set_option maxRecDepth 20000 in
theorem ggX5_runScript_X4_firstFailing : GoodIn wsX5_runScript wsX4_firstFailing := goodIn_r _ [48, 14, 49, 11, 12, 13, 50, 51, 52, 53, 19, 54, 55, 56, 23, 57, 28, 58, 59, 60, 61, 36, 62, 63, 64, 65, 35, 66, 67, 68, 69, 70, 71, 72, 26, 73, 74, 75, 76, 32, 37, 77, 78, 79, 80, 27, 41, 81, 82, 83, 84, 85, 86, 87, 88, 31, 34, 89, 90, 91, 92, 93, 94, 95, 96, 97, 98, 99, 100, 101, 102, 103, 104, 105, 106, 107, 108, 109, 110, 111, 112, 113, 25, 114, 115, 116, 117, 118, 119, 120, 121, 122, 123, 124, 125, 126, 127, 128, 129, 130, 131, 132, 133, 134, 135, 136, 137, 138, 139, 140, 141, 142, 143, 144, 145, 146, 39, 147, 148, 149, 150, 38, 151, 152, 153, 154, 40, 30, 33, 29, 155, 156, 157, 158, 159, 160, 161, 162, 163, 164, 165, 166, 167, 168, 169, 170, 171, 172, 173, 174, 175, 176, 177, 185, 186, 187, 188, 189, 190, 191, 192, 193, 194, 195, 196, 197, 198, 199, 200, 201, 202, 203, 204, 205, 206, 207, 208] (by decide +kernel) (by decide +kernel)
set_option maxRecDepth 20000 in
theorem gX5_runScript_X4_firstFailing : GoodIn wsX5_runScript (wsV RX5 290 RX4 yX4_firstFailing wsX4_firstFailing) := goodIn_app (goodIn_of _ (by decide +kernel)) ggX5_runScript_X4_firstFailing
theorem dX5_runScript_0 : decode cX5_runScript 0 = .ok (.iload_n 1, 1) := by decide +kernel
theorem dX5_runScript_1 : decode cX5_runScript 1 = .ok (.iconst 1, 1) := by decide +kernel
theorem dX5_runScript_2 : decode cX5_runScript 2 = .ok (.iconst 3, 1) := by decide +kernel
theorem dX5_runScript_3 : decode cX5_runScript 3 = .ok (.invokestatic 52, 3) := by decide +kernel
theorem dX5_runScript_6 : decode cX5_runScript 6 = .ok (.lload_n 2, 1) := by decide +kernel
theorem dX5_runScript_7 : decode cX5_runScript 7 = .ok (.lconst 0, 1) := by decide +kernel
theorem dX5_runScript_8 : decode cX5_runScript 8 = .ok (.lcmp, 1) := by decide +kernel
theorem dX5_runScript_9 : decode cX5_runScript 9 = .ok (.ifCond .lt 13, 3) := by decide +kernel
theorem dX5_runScript_12 : decode cX5_runScript 12 = .ok (.lload_n 2, 1) := by decide +kernel
theorem dX5_runScript_13 : decode cX5_runScript 13 = .ok (.iload_n 1, 1) := by decide +kernel
theorem dX5_runScript_14 : decode cX5_runScript 14 = .ok (.invokestatic 284, 3) := by decide +kernel
theorem dX5_runScript_17 : decode cX5_runScript 17 = .ok (.lconst 0, 1) := by decide +kernel
theorem dX5_runScript_18 : decode cX5_runScript 18 = .ok (.lcmp, 1) := by decide +kernel
theorem dX5_runScript_19 : decode cX5_runScript 19 = .ok (.ifCond .eq 14, 3) := by decide +kernel
theorem dX5_runScript_22 : decode cX5_runScript 22 = .ok (.new 115, 3) := by decide +kernel
theorem dX5_runScript_25 : decode cX5_runScript 25 = .ok (.dup, 1) := by decide +kernel
theorem dX5_runScript_26 : decode cX5_runScript 26 = .ok (.ldc_w 288, 3) := by decide +kernel
theorem dX5_runScript_29 : decode cX5_runScript 29 = .ok (.invokespecial 119, 3) := by decide +kernel
theorem dX5_runScript_32 : decode cX5_runScript 32 = .ok (.athrow, 1) := by decide +kernel
theorem dX5_runScript_33 : decode cX5_runScript 33 = .ok (.aload_n 0, 1) := by decide +kernel
theorem dX5_runScript_34 : decode cX5_runScript 34 = .ok (.getfield 33, 3) := by decide +kernel
theorem dX5_runScript_37 : decode cX5_runScript 37 = .ok (.aload_n 0, 1) := by decide +kernel
theorem dX5_runScript_38 : decode cX5_runScript 38 = .ok (.getfield 19, 3) := by decide +kernel
theorem dX5_runScript_41 : decode cX5_runScript 41 = .ok (.invokevirtual 273, 3) := by decide +kernel
theorem dX5_runScript_44 : decode cX5_runScript 44 = .ok (.aload_n 0, 1) := by decide +kernel
theorem dX5_runScript_45 : decode cX5_runScript 45 = .ok (.getfield 33, 3) := by decide +kernel
theorem dX5_runScript_48 : decode cX5_runScript 48 = .ok (.iload_n 1, 1) := by decide +kernel
theorem dX5_runScript_49 : decode cX5_runScript 49 = .ok (.lload_n 2, 1) := by decide +kernel
theorem dX5_runScript_50 : decode cX5_runScript 50 = .ok (.aload_n 0, 1) := by decide +kernel
theorem dX5_runScript_51 : decode cX5_runScript 51 = .ok (.getfield 26, 3) := by decide +kernel
theorem dX5_runScript_54 : decode cX5_runScript 54 = .ok (.invokevirtual 290, 3) := by decide +kernel
theorem dX5_runScript_57 : decode cX5_runScript 57 = .ok (.ireturn, 1) := by decide +kernel
set_option maxRecDepth 20000 in
theorem ggX5_simulate_X5_needRange : GoodIn wsX5_simulate wsX5_needRange := goodIn_ca (goodIn_r _ [7, 8, 9] (by decide +kernel) (by decide +kernel)) (goodIn_sub (fun _ h => List.mem_cons_of_mem _ (List.mem_append_right _ h)) (by decide +kernel))
set_option maxRecDepth 20000 in
theorem gX5_simulate_X5_needRange : GoodIn wsX5_simulate (va_wsS RX5 52 yX5_needRange wsX5_needRange) := goodIn_app (goodIn_of _ (by decide +kernel)) ggX5_simulate_X5_needRange
set_option maxRecDepth 20000 in
theorem ggX5_simulate_X4_begin : GoodIn wsX5_simulate wsX4_begin := goodIn_r _ [14, 15, 16, 17, 18, 19, 20, 21, 22, 23, 24, 25, 26, 27, 28, 29, 30, 31, 32, 33, 34, 35, 36, 37, 38, 39, 40, 167, 168, 169, 170, 171, 172, 173, 174, 175, 176, 177, 178, 179, 180, 181, 182, 183, 184] (by decide +kernel) (by decide +kernel)
set_option maxRecDepth 20000 in
theorem gX5_simulate_X4_begin : GoodIn wsX5_simulate (wsV RX5 273 RX4 yX4_begin wsX4_begin) := goodIn_app (goodIn_of _ (by decide +kernel)) ggX5_simulate_X4_begin
set_option maxRecDepth 20000 in
theorem ggX5_simulate_X4_simulated : GoodIn wsX5_simulate wsX4_simulated := goodIn_r _ [44, 15, 45, 46, 47, 48, 49, 19, 50, 32, 51, 52, 53, 54, 31, 55, 56, 57, 58, 34, 59, 60, 61, 62, 35, 63, 64, 65, 13, 66, 67, 68, 69, 70, 28, 33, 71, 72, 73, 74, 75, 76, 77, 78, 23, 37, 79, 80, 81, 82, 83, 84, 85, 86, 27, 30, 87, 88, 89, 90, 91, 92, 93, 94, 95, 96, 97, 98, 99, 100, 101, 102, 103, 104, 105, 24, 21, 22, 106, 107, 108, 109, 110, 111, 112, 113, 114, 115, 116, 117, 118, 119, 120, 121, 122, 123, 124, 125, 126, 127, 128, 129, 130, 131, 132, 133, 134, 135, 136, 137, 138, 139, 140, 141, 142, 143, 144, 145, 146, 147, 148, 149, 150, 151, 152, 153, 154, 155, 36, 26, 29, 25, 156, 157, 158, 159, 167, 168, 169, 170, 171, 172, 173, 174, 175, 176, 177, 178, 179, 180, 181, 182, 183, 184, 185, 186, 187, 188, 189, 190] (by decide +kernel) (by decide +kernel)
set_option maxRecDepth 20000 in
theorem gX5_simulate_X4_simulated : GoodIn wsX5_simulate (wsV RX5 294 RX4 yX4_simulated wsX4_simulated) := goodIn_app (goodIn_of _ (by decide +kernel)) ggX5_simulate_X4_simulated
theorem dX5_simulate_0 : decode cX5_simulate 0 = .ok (.iload_n 3, 1) := by decide +kernel
theorem dX5_simulate_1 : decode cX5_simulate 1 = .ok (.iconst 1, 1) := by decide +kernel
theorem dX5_simulate_2 : decode cX5_simulate 2 = .ok (.bipush 40, 2) := by decide +kernel
theorem dX5_simulate_4 : decode cX5_simulate 4 = .ok (.invokestatic 52, 3) := by decide +kernel
theorem dX5_simulate_7 : decode cX5_simulate 7 = .ok (.aload_n 0, 1) := by decide +kernel
theorem dX5_simulate_8 : decode cX5_simulate 8 = .ok (.getfield 33, 3) := by decide +kernel
theorem dX5_simulate_11 : decode cX5_simulate 11 = .ok (.aload_n 0, 1) := by decide +kernel
theorem dX5_simulate_12 : decode cX5_simulate 12 = .ok (.getfield 19, 3) := by decide +kernel
theorem dX5_simulate_15 : decode cX5_simulate 15 = .ok (.invokevirtual 273, 3) := by decide +kernel
theorem dX5_simulate_18 : decode cX5_simulate 18 = .ok (.aload_n 0, 1) := by decide +kernel
theorem dX5_simulate_19 : decode cX5_simulate 19 = .ok (.getfield 33, 3) := by decide +kernel
theorem dX5_simulate_22 : decode cX5_simulate 22 = .ok (.lload_n 1, 1) := by decide +kernel
theorem dX5_simulate_23 : decode cX5_simulate 23 = .ok (.iload_n 3, 1) := by decide +kernel
theorem dX5_simulate_24 : decode cX5_simulate 24 = .ok (.aload_n 0, 1) := by decide +kernel
theorem dX5_simulate_25 : decode cX5_simulate 25 = .ok (.getfield 26, 3) := by decide +kernel
theorem dX5_simulate_28 : decode cX5_simulate 28 = .ok (.invokevirtual 294, 3) := by decide +kernel
theorem dX5_simulate_31 : decode cX5_simulate 31 = .ok (.ireturn, 1) := by decide +kernel
set_option maxRecDepth 20000 in
theorem ggX5_save_X5_needSlot : GoodIn wsX5_save wsX5_needSlot := goodIn_ca (goodIn_r _ [7, 8, 9] (by decide +kernel) (by decide +kernel)) (goodIn_sub (fun _ h => List.mem_cons_of_mem _ (List.mem_append_right _ h)) (by decide +kernel))
set_option maxRecDepth 20000 in
theorem gX5_save_X5_needSlot : GoodIn wsX5_save (va_wsS RX5 298 yX5_needSlot wsX5_needSlot) := goodIn_app (goodIn_of _ (by decide +kernel)) ggX5_save_X5_needSlot
set_option maxRecDepth 20000 in
theorem ggX5_save_X2_copyFrom : GoodIn wsX5_save wsX2_copyFrom := goodIn_r _ [14, 15, 16, 17, 18, 19, 20, 21, 22, 23, 24, 25, 26, 27, 28, 29, 30, 31, 32, 33, 13, 34, 46, 47, 48, 49, 50, 51, 52, 53, 54, 55, 56, 57, 58, 59, 60, 61, 62] (by decide +kernel) (by decide +kernel)
set_option maxRecDepth 20000 in
theorem gX5_save_X2_copyFrom : GoodIn wsX5_save (wsV RX5 301 RX2 yX2_copyFrom wsX2_copyFrom) := goodIn_app (goodIn_of _ (by decide +kernel)) ggX5_save_X2_copyFrom
set_option maxRecDepth 20000 in
theorem ggX5_save_X2_dayNow : GoodIn wsX5_save wsX2_dayNow := goodIn_r _ [38, 27, 46, 47, 48, 49, 50, 51, 52, 53, 54, 55, 56, 57, 58, 59, 60, 61, 62] (by decide +kernel) (by decide +kernel)
set_option maxRecDepth 20000 in
theorem gX5_save_X2_dayNow : GoodIn wsX5_save (wsV RX5 97 RX2 yX2_dayNow wsX2_dayNow) := goodIn_app (goodIn_of _ (by decide +kernel)) ggX5_save_X2_dayNow
theorem dX5_save_0 : decode cX5_save 0 = .ok (.iload_n 1, 1) := by decide +kernel
theorem dX5_save_1 : decode cX5_save 1 = .ok (.invokestatic 298, 3) := by decide +kernel
theorem dX5_save_4 : decode cX5_save 4 = .ok (.aload_n 0, 1) := by decide +kernel
theorem dX5_save_5 : decode cX5_save 5 = .ok (.getfield 44, 3) := by decide +kernel
theorem dX5_save_8 : decode cX5_save 8 = .ok (.iload_n 1, 1) := by decide +kernel
theorem dX5_save_9 : decode cX5_save 9 = .ok (.aaload, 1) := by decide +kernel
theorem dX5_save_10 : decode cX5_save 10 = .ok (.aload_n 0, 1) := by decide +kernel
theorem dX5_save_11 : decode cX5_save 11 = .ok (.getfield 19, 3) := by decide +kernel
theorem dX5_save_14 : decode cX5_save 14 = .ok (.invokevirtual 301, 3) := by decide +kernel
theorem dX5_save_17 : decode cX5_save 17 = .ok (.aload_n 0, 1) := by decide +kernel
theorem dX5_save_18 : decode cX5_save 18 = .ok (.getfield 48, 3) := by decide +kernel
theorem dX5_save_21 : decode cX5_save 21 = .ok (.iload_n 1, 1) := by decide +kernel
theorem dX5_save_22 : decode cX5_save 22 = .ok (.iconst 1, 1) := by decide +kernel
theorem dX5_save_23 : decode cX5_save 23 = .ok (.bastore, 1) := by decide +kernel
theorem dX5_save_24 : decode cX5_save 24 = .ok (.aload_n 0, 1) := by decide +kernel
theorem dX5_save_25 : decode cX5_save 25 = .ok (.getfield 19, 3) := by decide +kernel
theorem dX5_save_28 : decode cX5_save 28 = .ok (.invokevirtual 97, 3) := by decide +kernel
theorem dX5_save_31 : decode cX5_save 31 = .ok (.ireturn, 1) := by decide +kernel
set_option maxRecDepth 20000 in
theorem ggX5_restore_X5_needSlot : GoodIn wsX5_restore wsX5_needSlot := goodIn_ca (goodIn_r _ [10, 11, 12] (by decide +kernel) (by decide +kernel)) (goodIn_sub (fun _ h => List.mem_cons_of_mem _ (List.mem_append_right _ h)) (by decide +kernel))
set_option maxRecDepth 20000 in
theorem gX5_restore_X5_needSlot : GoodIn wsX5_restore (va_wsS RX5 298 yX5_needSlot wsX5_needSlot) := goodIn_app (goodIn_of _ (by decide +kernel)) ggX5_restore_X5_needSlot
set_option maxRecDepth 20000 in
theorem ggX5_restore_X2_copyFrom : GoodIn wsX5_restore wsX2_copyFrom := goodIn_r _ [17, 18, 19, 20, 21, 22, 23, 24, 25, 26, 27, 28, 29, 30, 31, 32, 33, 34, 35, 36, 16, 37, 55, 56, 57, 58, 59, 60, 61, 62, 63, 64, 65, 66, 67, 68, 69, 70, 71] (by decide +kernel) (by decide +kernel)
set_option maxRecDepth 20000 in
theorem gX5_restore_X2_copyFrom : GoodIn wsX5_restore (wsV RX5 301 RX2 yX2_copyFrom wsX2_copyFrom) := goodIn_app (goodIn_of _ (by decide +kernel)) ggX5_restore_X2_copyFrom
set_option maxRecDepth 20000 in
theorem ggX5_restore_X1_forget : GoodIn wsX5_restore wsX1_forget := goodIn_r _ [42, 43, 72, 73, 74] (by decide +kernel) (by decide +kernel)
set_option maxRecDepth 20000 in
theorem gX5_restore_X1_forget : GoodIn wsX5_restore (wsV RX5 84 RX1 yX1_forget wsX1_forget) := goodIn_app (goodIn_of _ (by decide +kernel)) ggX5_restore_X1_forget
set_option maxRecDepth 20000 in
theorem ggX5_restore_X2_dayNow : GoodIn wsX5_restore wsX2_dayNow := goodIn_r _ [47, 30, 55, 56, 57, 58, 59, 60, 61, 62, 63, 64, 65, 66, 67, 68, 69, 70, 71] (by decide +kernel) (by decide +kernel)
set_option maxRecDepth 20000 in
theorem gX5_restore_X2_dayNow : GoodIn wsX5_restore (wsV RX5 97 RX2 yX2_dayNow wsX2_dayNow) := goodIn_app (goodIn_of _ (by decide +kernel)) ggX5_restore_X2_dayNow
theorem dX5_restore_0 : decode cX5_restore 0 = .ok (.iload_n 1, 1) := by decide +kernel
theorem dX5_restore_1 : decode cX5_restore 1 = .ok (.invokestatic 298, 3) := by decide +kernel
theorem dX5_restore_4 : decode cX5_restore 4 = .ok (.aload_n 0, 1) := by decide +kernel
theorem dX5_restore_5 : decode cX5_restore 5 = .ok (.getfield 48, 3) := by decide +kernel
theorem dX5_restore_8 : decode cX5_restore 8 = .ok (.iload_n 1, 1) := by decide +kernel
theorem dX5_restore_9 : decode cX5_restore 9 = .ok (.baload, 1) := by decide +kernel
theorem dX5_restore_10 : decode cX5_restore 10 = .ok (.ifCond .ne 14, 3) := by decide +kernel
theorem dX5_restore_13 : decode cX5_restore 13 = .ok (.new 60, 3) := by decide +kernel
theorem dX5_restore_16 : decode cX5_restore 16 = .ok (.dup, 1) := by decide +kernel
theorem dX5_restore_17 : decode cX5_restore 17 = .ok (.ldc_w 304, 3) := by decide +kernel
theorem dX5_restore_20 : decode cX5_restore 20 = .ok (.invokespecial 64, 3) := by decide +kernel
theorem dX5_restore_23 : decode cX5_restore 23 = .ok (.athrow, 1) := by decide +kernel
theorem dX5_restore_24 : decode cX5_restore 24 = .ok (.aload_n 0, 1) := by decide +kernel
theorem dX5_restore_25 : decode cX5_restore 25 = .ok (.getfield 19, 3) := by decide +kernel
theorem dX5_restore_28 : decode cX5_restore 28 = .ok (.aload_n 0, 1) := by decide +kernel
theorem dX5_restore_29 : decode cX5_restore 29 = .ok (.getfield 44, 3) := by decide +kernel
theorem dX5_restore_32 : decode cX5_restore 32 = .ok (.iload_n 1, 1) := by decide +kernel
theorem dX5_restore_33 : decode cX5_restore 33 = .ok (.aaload, 1) := by decide +kernel
theorem dX5_restore_34 : decode cX5_restore 34 = .ok (.invokevirtual 301, 3) := by decide +kernel
theorem dX5_restore_37 : decode cX5_restore 37 = .ok (.aload_n 0, 1) := by decide +kernel
theorem dX5_restore_38 : decode cX5_restore 38 = .ok (.getfield 40, 3) := by decide +kernel
theorem dX5_restore_41 : decode cX5_restore 41 = .ok (.invokevirtual 84, 3) := by decide +kernel
theorem dX5_restore_44 : decode cX5_restore 44 = .ok (.aload_n 0, 1) := by decide +kernel
theorem dX5_restore_45 : decode cX5_restore 45 = .ok (.getfield 19, 3) := by decide +kernel
theorem dX5_restore_48 : decode cX5_restore 48 = .ok (.invokevirtual 97, 3) := by decide +kernel
theorem dX5_restore_51 : decode cX5_restore 51 = .ok (.ireturn, 1) := by decide +kernel
set_option maxRecDepth 20000 in
theorem ggX5_needRole_X2_hasRole : GoodIn wsX5_needRole wsX2_hasRole := goodIn_r _ [8, 9, 17, 18, 19, 20, 21, 22, 23, 24, 25, 26, 27, 28, 29, 30, 31, 32, 33] (by decide +kernel) (by decide +kernel)
