theorem dX5_promote_0 : decode cX5_promote 0 = .ok (.aload_n 0, 1) := by decide +kernel
theorem dX5_promote_1 : decode cX5_promote 1 = .ok (.iload_n 1, 1) := by decide +kernel
theorem dX5_promote_2 : decode cX5_promote 2 = .ok (.invokevirtual 120, 3) := by decide +kernel
theorem dX5_promote_5 : decode cX5_promote 5 = .ok (.aload_n 0, 1) := by decide +kernel
theorem dX5_promote_6 : decode cX5_promote 6 = .ok (.getfield 19, 3) := by decide +kernel
theorem dX5_promote_9 : decode cX5_promote 9 = .ok (.iload_n 1, 1) := by decide +kernel
theorem dX5_promote_10 : decode cX5_promote 10 = .ok (.invokevirtual 241, 3) := by decide +kernel
theorem dX5_promote_13 : decode cX5_promote 13 = .ok (.istore_n 2, 1) := by decide +kernel
theorem dX5_promote_14 : decode cX5_promote 14 = .ok (.iload_n 2, 1) := by decide +kernel
theorem dX5_promote_15 : decode cX5_promote 15 = .ok (.iconst (-1), 1) := by decide +kernel
theorem dX5_promote_16 : decode cX5_promote 16 = .ok (.if_icmp .ne 13, 3) := by decide +kernel
theorem dX5_promote_19 : decode cX5_promote 19 = .ok (.new 60, 3) := by decide +kernel
theorem dX5_promote_22 : decode cX5_promote 22 = .ok (.dup, 1) := by decide +kernel
theorem dX5_promote_23 : decode cX5_promote 23 = .ok (.ldc 244, 2) := by decide +kernel
theorem dX5_promote_25 : decode cX5_promote 25 = .ok (.invokespecial 64, 3) := by decide +kernel
theorem dX5_promote_28 : decode cX5_promote 28 = .ok (.athrow, 1) := by decide +kernel
theorem dX5_promote_29 : decode cX5_promote 29 = .ok (.aload_n 0, 1) := by decide +kernel
theorem dX5_promote_30 : decode cX5_promote 30 = .ok (.getfield 40, 3) := by decide +kernel
theorem dX5_promote_33 : decode cX5_promote 33 = .ok (.aload_n 0, 1) := by decide +kernel
theorem dX5_promote_34 : decode cX5_promote 34 = .ok (.getfield 19, 3) := by decide +kernel
theorem dX5_promote_37 : decode cX5_promote 37 = .ok (.invokevirtual 197, 3) := by decide +kernel
theorem dX5_promote_40 : decode cX5_promote 40 = .ok (.aload_n 0, 1) := by decide +kernel
theorem dX5_promote_41 : decode cX5_promote 41 = .ok (.getfield 19, 3) := by decide +kernel
theorem dX5_promote_44 : decode cX5_promote 44 = .ok (.iload_n 1, 1) := by decide +kernel
theorem dX5_promote_45 : decode cX5_promote 45 = .ok (.iload_n 2, 1) := by decide +kernel
theorem dX5_promote_46 : decode cX5_promote 46 = .ok (.invokevirtual 216, 3) := by decide +kernel
theorem dX5_promote_49 : decode cX5_promote 49 = .ok (.pop, 1) := by decide +kernel
theorem dX5_promote_50 : decode cX5_promote 50 = .ok (.iload_n 2, 1) := by decide +kernel
theorem dX5_promote_51 : decode cX5_promote 51 = .ok (.ireturn, 1) := by decide +kernel
set_option maxRecDepth 20000 in
theorem ggX5_set_X5_needRange : GoodIn wsX5_set wsX5_needRange := goodIn_ca (goodIn_r _ [8, 9, 10] (by decide +kernel) (by decide +kernel)) (goodIn_sub (fun _ h => List.mem_cons_of_mem _ (List.mem_append_right _ h)) (by decide +kernel))
set_option maxRecDepth 20000 in
theorem gX5_set_X5_needRange : GoodIn wsX5_set (va_wsS RX5 52 yX5_needRange wsX5_needRange) := goodIn_app (goodIn_of _ (by decide +kernel)) ggX5_set_X5_needRange
set_option maxRecDepth 20000 in
theorem ggX5_set_X1_remember : GoodIn wsX5_set wsX1_remember := goodIn_r _ [15, 16, 17, 18, 19, 20, 21, 22, 23, 24, 25, 26, 27, 28, 29, 30, 31, 32, 33, 34, 35, 36, 37, 38, 39, 40, 41, 42, 43, 59, 60, 61, 62, 63, 64, 65, 66, 67, 68, 69, 70, 71, 72, 73, 74, 75, 76, 77, 78] (by decide +kernel) (by decide +kernel)
set_option maxRecDepth 20000 in
theorem gX5_set_X1_remember : GoodIn wsX5_set (wsV RX5 197 RX1 yX1_remember wsX1_remember) := goodIn_app (goodIn_of _ (by decide +kernel)) ggX5_set_X1_remember
set_option maxRecDepth 20000 in
theorem ggX5_set_X2_settingOf : GoodIn wsX5_set wsX2_settingOf := goodIn_r _ [47, 33, 62, 63, 64, 65, 66, 67, 68, 69, 70, 71, 72, 73, 74, 75, 76, 77, 78] (by decide +kernel) (by decide +kernel)
set_option maxRecDepth 20000 in
theorem gX5_set_X2_settingOf : GoodIn wsX5_set (wsV RX5 184 RX2 yX2_settingOf wsX2_settingOf) := goodIn_app (goodIn_of _ (by decide +kernel)) ggX5_set_X2_settingOf
set_option maxRecDepth 20000 in
theorem ggX5_set_X2_putSetting : GoodIn wsX5_set wsX2_putSetting := goodIn_r _ [51, 33, 62, 63, 64, 65, 66, 67, 68, 69, 70, 71, 72, 73, 74, 75, 76, 77, 78] (by decide +kernel) (by decide +kernel)
set_option maxRecDepth 20000 in
theorem gX5_set_X2_putSetting : GoodIn wsX5_set (wsV RX5 253 RX2 yX2_putSetting wsX2_putSetting) := goodIn_app (goodIn_of _ (by decide +kernel)) ggX5_set_X2_putSetting
theorem dX5_set_0 : decode cX5_set 0 = .ok (.iload_n 1, 1) := by decide +kernel
theorem dX5_set_1 : decode cX5_set 1 = .ok (.iconst 0, 1) := by decide +kernel
theorem dX5_set_2 : decode cX5_set 2 = .ok (.iconst 4, 1) := by decide +kernel
theorem dX5_set_3 : decode cX5_set 3 = .ok (.invokestatic 52, 3) := by decide +kernel
theorem dX5_set_6 : decode cX5_set 6 = .ok (.iload_n 2, 1) := by decide +kernel
theorem dX5_set_7 : decode cX5_set 7 = .ok (.getstatic 246, 3) := by decide +kernel
theorem dX5_set_10 : decode cX5_set 10 = .ok (.iload_n 1, 1) := by decide +kernel
theorem dX5_set_11 : decode cX5_set 11 = .ok (.iaload, 1) := by decide +kernel
theorem dX5_set_12 : decode cX5_set 12 = .ok (.getstatic 250, 3) := by decide +kernel
theorem dX5_set_15 : decode cX5_set 15 = .ok (.iload_n 1, 1) := by decide +kernel
theorem dX5_set_16 : decode cX5_set 16 = .ok (.iaload, 1) := by decide +kernel
theorem dX5_set_17 : decode cX5_set 17 = .ok (.invokestatic 52, 3) := by decide +kernel
theorem dX5_set_20 : decode cX5_set 20 = .ok (.aload_n 0, 1) := by decide +kernel
theorem dX5_set_21 : decode cX5_set 21 = .ok (.getfield 40, 3) := by decide +kernel
theorem dX5_set_24 : decode cX5_set 24 = .ok (.aload_n 0, 1) := by decide +kernel
theorem dX5_set_25 : decode cX5_set 25 = .ok (.getfield 19, 3) := by decide +kernel
theorem dX5_set_28 : decode cX5_set 28 = .ok (.invokevirtual 197, 3) := by decide +kernel
theorem dX5_set_31 : decode cX5_set 31 = .ok (.aload_n 0, 1) := by decide +kernel
theorem dX5_set_32 : decode cX5_set 32 = .ok (.getfield 19, 3) := by decide +kernel
theorem dX5_set_35 : decode cX5_set 35 = .ok (.iload_n 1, 1) := by decide +kernel
theorem dX5_set_36 : decode cX5_set 36 = .ok (.invokevirtual 184, 3) := by decide +kernel
theorem dX5_set_39 : decode cX5_set 39 = .ok (.istore_n 3, 1) := by decide +kernel
theorem dX5_set_40 : decode cX5_set 40 = .ok (.aload_n 0, 1) := by decide +kernel
theorem dX5_set_41 : decode cX5_set 41 = .ok (.getfield 19, 3) := by decide +kernel
theorem dX5_set_44 : decode cX5_set 44 = .ok (.iload_n 1, 1) := by decide +kernel
theorem dX5_set_45 : decode cX5_set 45 = .ok (.iload_n 2, 1) := by decide +kernel
theorem dX5_set_46 : decode cX5_set 46 = .ok (.invokevirtual 253, 3) := by decide +kernel
theorem dX5_set_49 : decode cX5_set 49 = .ok (.iload_n 3, 1) := by decide +kernel
theorem dX5_set_50 : decode cX5_set 50 = .ok (.ireturn, 1) := by decide +kernel
set_option maxRecDepth 20000 in
theorem ggX5_undo_X1_isEmpty : GoodIn wsX5_undo wsX1_isEmpty := goodIn_r _ [9, 10, 53, 54, 55] (by decide +kernel) (by decide +kernel)
set_option maxRecDepth 20000 in
theorem gX5_undo_X1_isEmpty : GoodIn wsX5_undo (wsV RX5 257 RX1 yX1_isEmpty wsX1_isEmpty) := goodIn_app (goodIn_of _ (by decide +kernel)) ggX5_undo_X1_isEmpty
set_option maxRecDepth 20000 in
theorem ggX5_undo_X1_takeBack : GoodIn wsX5_undo wsX1_takeBack := goodIn_r _ [14, 10, 15, 16, 17, 18, 19, 20, 21, 22, 23, 24, 25, 26, 27, 28, 29, 30, 31, 32, 33, 34, 35, 36, 37, 38, 39, 40, 41, 53, 54, 55, 56, 57, 58, 59, 60, 61, 62, 63, 64, 65, 66, 67, 68, 69, 70, 71, 72] (by decide +kernel) (by decide +kernel)
set_option maxRecDepth 20000 in
theorem gX5_undo_X1_takeBack : GoodIn wsX5_undo (wsV RX5 262 RX1 yX1_takeBack wsX1_takeBack) := goodIn_app (goodIn_of _ (by decide +kernel)) ggX5_undo_X1_takeBack
set_option maxRecDepth 20000 in
theorem ggX5_undo_X1_size : GoodIn wsX5_undo wsX1_size := goodIn_r _ [45, 10, 53, 54, 55] (by decide +kernel) (by decide +kernel)
set_option maxRecDepth 20000 in
theorem gX5_undo_X1_size : GoodIn wsX5_undo (wsV RX5 265 RX1 yX1_size wsX1_size) := goodIn_app (goodIn_of _ (by decide +kernel)) ggX5_undo_X1_size
theorem dX5_undo_0 : decode cX5_undo 0 = .ok (.aload_n 0, 1) := by decide +kernel
theorem dX5_undo_1 : decode cX5_undo 1 = .ok (.getfield 40, 3) := by decide +kernel
theorem dX5_undo_4 : decode cX5_undo 4 = .ok (.invokevirtual 257, 3) := by decide +kernel
theorem dX5_undo_7 : decode cX5_undo 7 = .ok (.ifCond .eq 14, 3) := by decide +kernel
theorem dX5_undo_10 : decode cX5_undo 10 = .ok (.new 60, 3) := by decide +kernel
theorem dX5_undo_13 : decode cX5_undo 13 = .ok (.dup, 1) := by decide +kernel
theorem dX5_undo_14 : decode cX5_undo 14 = .ok (.ldc_w 260, 3) := by decide +kernel
theorem dX5_undo_17 : decode cX5_undo 17 = .ok (.invokespecial 64, 3) := by decide +kernel
theorem dX5_undo_20 : decode cX5_undo 20 = .ok (.athrow, 1) := by decide +kernel
theorem dX5_undo_21 : decode cX5_undo 21 = .ok (.aload_n 0, 1) := by decide +kernel
theorem dX5_undo_22 : decode cX5_undo 22 = .ok (.getfield 40, 3) := by decide +kernel
theorem dX5_undo_25 : decode cX5_undo 25 = .ok (.aload_n 0, 1) := by decide +kernel
theorem dX5_undo_26 : decode cX5_undo 26 = .ok (.getfield 19, 3) := by decide +kernel
theorem dX5_undo_29 : decode cX5_undo 29 = .ok (.invokevirtual 262, 3) := by decide +kernel
theorem dX5_undo_32 : decode cX5_undo 32 = .ok (.aload_n 0, 1) := by decide +kernel
theorem dX5_undo_33 : decode cX5_undo 33 = .ok (.getfield 40, 3) := by decide +kernel
theorem dX5_undo_36 : decode cX5_undo 36 = .ok (.invokevirtual 265, 3) := by decide +kernel
theorem dX5_undo_39 : decode cX5_undo 39 = .ok (.ireturn, 1) := by decide +kernel
set_option maxRecDepth 20000 in
theorem ggX5_strength_X2_freePlayers : GoodIn wsX5_strength wsX2_freePlayers := goodIn_r _ [7, 8, 9, 10, 11, 6, 12, 13, 14, 15, 16, 80, 81, 82, 83, 84, 85, 86, 87, 88, 89, 90, 91, 92, 93, 94, 95, 96] (by decide +kernel) (by decide +kernel)
set_option maxRecDepth 20000 in
theorem gX5_strength_X2_freePlayers : GoodIn wsX5_strength (wsV RX5 130 RX2 yX2_freePlayers wsX2_freePlayers) := goodIn_app (goodIn_of _ (by decide +kernel)) ggX5_strength_X2_freePlayers
set_option maxRecDepth 20000 in
theorem ggX5_strength_X0_seek : GoodIn wsX5_strength wsX0_seek := goodIn_r _ [21, 22, 23, 24, 25, 26, 27, 28, 29, 6, 30, 31, 32, 33, 34, 35, 8, 36, 37, 20, 38, 39, 40, 41, 42, 43, 44, 45, 46, 47, 48, 49, 50, 51, 52, 53, 54, 55, 56, 57, 58, 59, 60, 61, 62, 63, 64, 65, 66, 67, 68, 69, 70, 71, 72, 97, 98, 99, 100, 101, 102, 80, 81, 82, 83, 84, 85, 86, 87, 88, 89, 90, 91, 92, 93, 94, 95, 96] (by decide +kernel) (by decide +kernel)
set_option maxRecDepth 20000 in
theorem gX5_strength_X0_seek : GoodIn wsX5_strength (wsV RX5 133 RX0 yX0_seek wsX0_seek) := goodIn_app (goodIn_of _ (by decide +kernel)) ggX5_strength_X0_seek
theorem dX5_strength_0 : decode cX5_strength 0 = .ok (.aload_n 0, 1) := by decide +kernel
theorem dX5_strength_1 : decode cX5_strength 1 = .ok (.getfield 26, 3) := by decide +kernel
theorem dX5_strength_4 : decode cX5_strength 4 = .ok (.aload_n 0, 1) := by decide +kernel
theorem dX5_strength_5 : decode cX5_strength 5 = .ok (.getfield 19, 3) := by decide +kernel
theorem dX5_strength_8 : decode cX5_strength 8 = .ok (.aload_n 0, 1) := by decide +kernel
theorem dX5_strength_9 : decode cX5_strength 9 = .ok (.getfield 19, 3) := by decide +kernel
theorem dX5_strength_12 : decode cX5_strength 12 = .ok (.invokevirtual 130, 3) := by decide +kernel
theorem dX5_strength_15 : decode cX5_strength 15 = .ok (.invokevirtual 133, 3) := by decide +kernel
theorem dX5_strength_18 : decode cX5_strength 18 = .ok (.ireturn, 1) := by decide +kernel
set_option maxRecDepth 20000 in
theorem ggX5_without_X5_needPlayer : GoodIn wsX5_without wsX5_needPlayer := goodIn_ca (goodIn_r _ [7, 8, 9, 2, 10, 11, 12, 13, 14, 15, 88, 89, 90, 91, 92, 93, 94, 95, 96, 97, 98, 99, 100, 101, 102, 103, 104, 105, 106, 107, 108, 109, 110, 111] (by decide +kernel) (by decide +kernel)) (goodIn_sub (fun _ h => List.mem_cons_of_mem _ (List.mem_append_right _ h)) (by decide +kernel))
set_option maxRecDepth 20000 in
theorem gX5_without_X5_needPlayer : GoodIn wsX5_without (wsV RX5 148 RX5 yX5_needPlayer wsX5_needPlayer) := goodIn_app (goodIn_of _ (by decide +kernel)) ggX5_without_X5_needPlayer
set_option maxRecDepth 20000 in
theorem ggX5_without_X2_freePlayersBut : GoodIn wsX5_without wsX2_freePlayersBut := goodIn_r _ [19, 20, 21, 22, 13, 23, 15, 24, 25, 26, 27, 28, 29, 30, 31, 95, 96, 97, 98, 99, 100, 101, 102, 103, 104, 105, 106, 107, 108, 109, 110, 111] (by decide +kernel) (by decide +kernel)
set_option maxRecDepth 20000 in
theorem gX5_without_X2_freePlayersBut : GoodIn wsX5_without (wsV RX5 266 RX2 yX2_freePlayersBut wsX2_freePlayersBut) := goodIn_app (goodIn_of _ (by decide +kernel)) ggX5_without_X2_freePlayersBut
set_option maxRecDepth 20000 in
theorem ggX5_without_X0_seek : GoodIn wsX5_without wsX0_seek := goodIn_r _ [36, 37, 38, 39, 40, 41, 42, 43, 44, 13, 45, 46, 47, 48, 49, 50, 15, 51, 52, 35, 53, 54, 55, 56, 57, 58, 59, 60, 61, 62, 63, 64, 65, 66, 67, 68, 69, 70, 71, 72, 73, 74, 75, 76, 77, 78, 79, 80, 81, 82, 83, 84, 85, 86, 87, 112, 113, 114, 115, 116, 117, 95, 96, 97, 98, 99, 100, 101, 102, 103, 104, 105, 106, 107, 108, 109, 110, 111] (by decide +kernel) (by decide +kernel)
set_option maxRecDepth 20000 in
theorem gX5_without_X0_seek : GoodIn wsX5_without (wsV RX5 133 RX0 yX0_seek wsX0_seek) := goodIn_app (goodIn_of _ (by decide +kernel)) ggX5_without_X0_seek
theorem dX5_without_0 : decode cX5_without 0 = .ok (.aload_n 0, 1) := by decide +kernel
theorem dX5_without_1 : decode cX5_without 1 = .ok (.iload_n 1, 1) := by decide +kernel
theorem dX5_without_2 : decode cX5_without 2 = .ok (.invokevirtual 148, 3) := by decide +kernel
theorem dX5_without_5 : decode cX5_without 5 = .ok (.aload_n 0, 1) := by decide +kernel
theorem dX5_without_6 : decode cX5_without 6 = .ok (.getfield 26, 3) := by decide +kernel
theorem dX5_without_9 : decode cX5_without 9 = .ok (.aload_n 0, 1) := by decide +kernel
theorem dX5_without_10 : decode cX5_without 10 = .ok (.getfield 19, 3) := by decide +kernel
theorem dX5_without_13 : decode cX5_without 13 = .ok (.aload_n 0, 1) := by decide +kernel
theorem dX5_without_14 : decode cX5_without 14 = .ok (.getfield 19, 3) := by decide +kernel
theorem dX5_without_17 : decode cX5_without 17 = .ok (.iload_n 1, 1) := by decide +kernel
theorem dX5_without_18 : decode cX5_without 18 = .ok (.invokevirtual 266, 3) := by decide +kernel
theorem dX5_without_21 : decode cX5_without 21 = .ok (.invokevirtual 133, 3) := by decide +kernel
theorem dX5_without_24 : decode cX5_without 24 = .ok (.ireturn, 1) := by decide +kernel
set_option maxRecDepth 20000 in
theorem ggX5_needRole_X2_hasRole : GoodIn wsX5_needRole wsX2_hasRole := goodIn_r _ [8, 9, 17, 18, 19, 20, 21, 22, 23, 24, 25, 26, 27, 28, 29, 30, 31, 32, 33] (by decide +kernel) (by decide +kernel)
set_option maxRecDepth 20000 in
theorem gX5_needRole_X2_hasRole : GoodIn wsX5_needRole (wsV RX5 306 RX2 yX2_hasRole wsX2_hasRole) := goodIn_app (goodIn_of _ (by decide +kernel)) ggX5_needRole_X2_hasRole
theorem dX5_needRole_0 : decode cX5_needRole 0 = .ok (.aload_n 0, 1) := by decide +kernel
theorem dX5_needRole_1 : decode cX5_needRole 1 = .ok (.getfield 19, 3) := by decide +kernel
theorem dX5_needRole_4 : decode cX5_needRole 4 = .ok (.iload_n 1, 1) := by decide +kernel
theorem dX5_needRole_5 : decode cX5_needRole 5 = .ok (.invokevirtual 306, 3) := by decide +kernel
theorem dX5_needRole_8 : decode cX5_needRole 8 = .ok (.ifCond .ne 14, 3) := by decide +kernel
theorem dX5_needRole_11 : decode cX5_needRole 11 = .ok (.new 309, 3) := by decide +kernel
theorem dX5_needRole_14 : decode cX5_needRole 14 = .ok (.dup, 1) := by decide +kernel
theorem dX5_needRole_15 : decode cX5_needRole 15 = .ok (.ldc_w 311, 3) := by decide +kernel
theorem dX5_needRole_18 : decode cX5_needRole 18 = .ok (.invokespecial 313, 3) := by decide +kernel
theorem dX5_needRole_21 : decode cX5_needRole 21 = .ok (.athrow, 1) := by decide +kernel
theorem dX5_needRole_22 : decode cX5_needRole 22 = .ok (.return_, 1) := by decide +kernel
set_option maxRecDepth 20000 in
theorem ggX5_needPlayer_X2_hasPlayer : GoodIn wsX5_needPlayer wsX2_hasPlayer := goodIn_r _ [8, 9, 17, 18, 19, 20, 21, 22, 23, 24, 25, 26, 27, 28, 29, 30, 31, 32, 33] (by decide +kernel) (by decide +kernel)
set_option maxRecDepth 20000 in
theorem gX5_needPlayer_X2_hasPlayer : GoodIn wsX5_needPlayer (wsV RX5 314 RX2 yX2_hasPlayer wsX2_hasPlayer) := goodIn_app (goodIn_of _ (by decide +kernel)) ggX5_needPlayer_X2_hasPlayer
theorem dX5_needPlayer_0 : decode cX5_needPlayer 0 = .ok (.aload_n 0, 1) := by decide +kernel
theorem dX5_needPlayer_1 : decode cX5_needPlayer 1 = .ok (.getfield 19, 3) := by decide +kernel
theorem dX5_needPlayer_4 : decode cX5_needPlayer 4 = .ok (.iload_n 1, 1) := by decide +kernel
theorem dX5_needPlayer_5 : decode cX5_needPlayer 5 = .ok (.invokevirtual 314, 3) := by decide +kernel
theorem dX5_needPlayer_8 : decode cX5_needPlayer 8 = .ok (.ifCond .ne 14, 3) := by decide +kernel
theorem dX5_needPlayer_11 : decode cX5_needPlayer 11 = .ok (.new 309, 3) := by decide +kernel
theorem dX5_needPlayer_14 : decode cX5_needPlayer 14 = .ok (.dup, 1) := by decide +kernel
theorem dX5_needPlayer_15 : decode cX5_needPlayer 15 = .ok (.ldc_w 317, 3) := by decide +kernel
theorem dX5_needPlayer_18 : decode cX5_needPlayer 18 = .ok (.invokespecial 313, 3) := by decide +kernel
theorem dX5_needPlayer_21 : decode cX5_needPlayer 21 = .ok (.athrow, 1) := by decide +kernel
theorem dX5_needPlayer_22 : decode cX5_needPlayer 22 = .ok (.return_, 1) := by decide +kernel
set_option maxRecDepth 20000 in
theorem ggX5_needSomeRole_X2_roleCount : GoodIn wsX5_needSomeRole wsX2_roleCount := goodIn_r _ [8, 9, 17, 18, 19, 20, 21, 22, 23, 24, 25, 26, 27, 28, 29, 30, 31, 32, 33] (by decide +kernel) (by decide +kernel)
set_option maxRecDepth 20000 in
theorem gX5_needSomeRole_X2_roleCount : GoodIn wsX5_needSomeRole (wsV RX5 91 RX2 yX2_roleCount wsX2_roleCount) := goodIn_app (goodIn_of _ (by decide +kernel)) ggX5_needSomeRole_X2_roleCount
theorem dX5_needSomeRole_0 : decode cX5_needSomeRole 0 = .ok (.aload_n 0, 1) := by decide +kernel
theorem dX5_needSomeRole_1 : decode cX5_needSomeRole 1 = .ok (.getfield 19, 3) := by decide +kernel
theorem dX5_needSomeRole_4 : decode cX5_needSomeRole 4 = .ok (.invokevirtual 91, 3) := by decide +kernel
theorem dX5_needSomeRole_7 : decode cX5_needSomeRole 7 = .ok (.ifCond .ne 13, 3) := by decide +kernel
theorem dX5_needSomeRole_10 : decode cX5_needSomeRole 10 = .ok (.new 60, 3) := by decide +kernel
theorem dX5_needSomeRole_13 : decode cX5_needSomeRole 13 = .ok (.dup, 1) := by decide +kernel
theorem dX5_needSomeRole_14 : decode cX5_needSomeRole 14 = .ok (.ldc 223, 2) := by decide +kernel
theorem dX5_needSomeRole_16 : decode cX5_needSomeRole 16 = .ok (.invokespecial 64, 3) := by decide +kernel
theorem dX5_needSomeRole_19 : decode cX5_needSomeRole 19 = .ok (.athrow, 1) := by decide +kernel
theorem dX5_needSomeRole_20 : decode cX5_needSomeRole 20 = .ok (.return_, 1) := by decide +kernel
theorem dX5_needRange_0 : decode cX5_needRange 0 = .ok (.iload_n 0, 1) := by decide +kernel
theorem dX5_needRange_1 : decode cX5_needRange 1 = .ok (.iload_n 1, 1) := by decide +kernel
theorem dX5_needRange_2 : decode cX5_needRange 2 = .ok (.if_icmp .lt 8, 3) := by decide +kernel
theorem dX5_needRange_5 : decode cX5_needRange 5 = .ok (.iload_n 0, 1) := by decide +kernel
theorem dX5_needRange_6 : decode cX5_needRange 6 = .ok (.iload_n 2, 1) := by decide +kernel
theorem dX5_needRange_7 : decode cX5_needRange 7 = .ok (.if_icmp .le 14, 3) := by decide +kernel
theorem dX5_needRange_10 : decode cX5_needRange 10 = .ok (.new 115, 3) := by decide +kernel
theorem dX5_needRange_13 : decode cX5_needRange 13 = .ok (.dup, 1) := by decide +kernel
theorem dX5_needRange_14 : decode cX5_needRange 14 = .ok (.ldc_w 321, 3) := by decide +kernel
theorem dX5_needRange_17 : decode cX5_needRange 17 = .ok (.invokespecial 119, 3) := by decide +kernel
theorem dX5_needRange_20 : decode cX5_needRange 20 = .ok (.athrow, 1) := by decide +kernel
theorem dX5_needRange_21 : decode cX5_needRange 21 = .ok (.return_, 1) := by decide +kernel
theorem dJ6_bitCount_0f7a4_0 : decode cJ6_bitCount_0f7a4 0 = .ok (.iload_n 0, 1) := by decide +kernel
theorem dJ6_bitCount_0f7a4_1 : decode cJ6_bitCount_0f7a4 1 = .ok (.iload_n 0, 1) := by decide +kernel
theorem dJ6_bitCount_0f7a4_2 : decode cJ6_bitCount_0f7a4 2 = .ok (.iconst 1, 1) := by decide +kernel
theorem dJ6_bitCount_0f7a4_3 : decode cJ6_bitCount_0f7a4 3 = .ok (.iushr, 1) := by decide +kernel
theorem dJ6_bitCount_0f7a4_4 : decode cJ6_bitCount_0f7a4 4 = .ok (.ldc_w 265, 3) := by decide +kernel
theorem dJ6_bitCount_0f7a4_7 : decode cJ6_bitCount_0f7a4 7 = .ok (.iand, 1) := by decide +kernel
theorem dJ6_bitCount_0f7a4_8 : decode cJ6_bitCount_0f7a4 8 = .ok (.isub, 1) := by decide +kernel
theorem dJ6_bitCount_0f7a4_9 : decode cJ6_bitCount_0f7a4 9 = .ok (.istore_n 0, 1) := by decide +kernel
theorem dJ6_bitCount_0f7a4_10 : decode cJ6_bitCount_0f7a4 10 = .ok (.iload_n 0, 1) := by decide +kernel
theorem dJ6_bitCount_0f7a4_11 : decode cJ6_bitCount_0f7a4 11 = .ok (.ldc_w 266, 3) := by decide +kernel
theorem dJ6_bitCount_0f7a4_14 : decode cJ6_bitCount_0f7a4 14 = .ok (.iand, 1) := by decide +kernel
theorem dJ6_bitCount_0f7a4_15 : decode cJ6_bitCount_0f7a4 15 = .ok (.iload_n 0, 1) := by decide +kernel
theorem dJ6_bitCount_0f7a4_16 : decode cJ6_bitCount_0f7a4 16 = .ok (.iconst 2, 1) := by decide +kernel
theorem dJ6_bitCount_0f7a4_17 : decode cJ6_bitCount_0f7a4 17 = .ok (.iushr, 1) := by decide +kernel
theorem dJ6_bitCount_0f7a4_18 : decode cJ6_bitCount_0f7a4 18 = .ok (.ldc_w 266, 3) := by decide +kernel
theorem dJ6_bitCount_0f7a4_21 : decode cJ6_bitCount_0f7a4 21 = .ok (.iand, 1) := by decide +kernel
theorem dJ6_bitCount_0f7a4_22 : decode cJ6_bitCount_0f7a4 22 = .ok (.iadd, 1) := by decide +kernel
theorem dJ6_bitCount_0f7a4_23 : decode cJ6_bitCount_0f7a4 23 = .ok (.istore_n 0, 1) := by decide +kernel
theorem dJ6_bitCount_0f7a4_24 : decode cJ6_bitCount_0f7a4 24 = .ok (.iload_n 0, 1) := by decide +kernel
theorem dJ6_bitCount_0f7a4_25 : decode cJ6_bitCount_0f7a4 25 = .ok (.iload_n 0, 1) := by decide +kernel
theorem dJ6_bitCount_0f7a4_26 : decode cJ6_bitCount_0f7a4 26 = .ok (.iconst 4, 1) := by decide +kernel
theorem dJ6_bitCount_0f7a4_27 : decode cJ6_bitCount_0f7a4 27 = .ok (.iushr, 1) := by decide +kernel
theorem dJ6_bitCount_0f7a4_28 : decode cJ6_bitCount_0f7a4 28 = .ok (.iadd, 1) := by decide +kernel
theorem dJ6_bitCount_0f7a4_29 : decode cJ6_bitCount_0f7a4 29 = .ok (.ldc_w 267, 3) := by decide +kernel
theorem dJ6_bitCount_0f7a4_32 : decode cJ6_bitCount_0f7a4 32 = .ok (.iand, 1) := by decide +kernel
theorem dJ6_bitCount_0f7a4_33 : decode cJ6_bitCount_0f7a4 33 = .ok (.istore_n 0, 1) := by decide +kernel
theorem dJ6_bitCount_0f7a4_34 : decode cJ6_bitCount_0f7a4 34 = .ok (.iload_n 0, 1) := by decide +kernel
theorem dJ6_bitCount_0f7a4_35 : decode cJ6_bitCount_0f7a4 35 = .ok (.iload_n 0, 1) := by decide +kernel
theorem dJ6_bitCount_0f7a4_36 : decode cJ6_bitCount_0f7a4 36 = .ok (.bipush 8, 2) := by decide +kernel
theorem dJ6_bitCount_0f7a4_38 : decode cJ6_bitCount_0f7a4 38 = .ok (.iushr, 1) := by decide +kernel
theorem dJ6_bitCount_0f7a4_39 : decode cJ6_bitCount_0f7a4 39 = .ok (.iadd, 1) := by decide +kernel
theorem dJ6_bitCount_0f7a4_40 : decode cJ6_bitCount_0f7a4 40 = .ok (.istore_n 0, 1) := by decide +kernel
theorem dJ6_bitCount_0f7a4_41 : decode cJ6_bitCount_0f7a4 41 = .ok (.iload_n 0, 1) := by decide +kernel
theorem dJ6_bitCount_0f7a4_42 : decode cJ6_bitCount_0f7a4 42 = .ok (.iload_n 0, 1) := by decide +kernel
theorem dJ6_bitCount_0f7a4_43 : decode cJ6_bitCount_0f7a4 43 = .ok (.bipush 16, 2) := by decide +kernel
theorem dJ6_bitCount_0f7a4_45 : decode cJ6_bitCount_0f7a4 45 = .ok (.iushr, 1) := by decide +kernel
theorem dJ6_bitCount_0f7a4_46 : decode cJ6_bitCount_0f7a4 46 = .ok (.iadd, 1) := by decide +kernel
theorem dJ6_bitCount_0f7a4_47 : decode cJ6_bitCount_0f7a4 47 = .ok (.istore_n 0, 1) := by decide +kernel
theorem dJ6_bitCount_0f7a4_48 : decode cJ6_bitCount_0f7a4 48 = .ok (.iload_n 0, 1) := by decide +kernel
theorem dJ6_bitCount_0f7a4_49 : decode cJ6_bitCount_0f7a4 49 = .ok (.bipush 63, 2) := by decide +kernel
theorem dJ6_bitCount_0f7a4_51 : decode cJ6_bitCount_0f7a4 51 = .ok (.iand, 1) := by decide +kernel
theorem dJ6_bitCount_0f7a4_52 : decode cJ6_bitCount_0f7a4 52 = .ok (.ireturn, 1) := by decide +kernel
theorem dJ9_max_7cf53_0 : decode cJ9_max_7cf53 0 = .ok (.iload_n 0, 1) := by decide +kernel
theorem dJ9_max_7cf53_1 : decode cJ9_max_7cf53 1 = .ok (.iload_n 1, 1) := by decide +kernel
theorem dJ9_max_7cf53_2 : decode cJ9_max_7cf53 2 = .ok (.if_icmp .lt 7, 3) := by decide +kernel
theorem dJ9_max_7cf53_5 : decode cJ9_max_7cf53 5 = .ok (.iload_n 0, 1) := by decide +kernel
theorem dJ9_max_7cf53_6 : decode cJ9_max_7cf53 6 = .ok (.goto 4, 3) := by decide +kernel
theorem dJ9_max_7cf53_9 : decode cJ9_max_7cf53 9 = .ok (.iload_n 1, 1) := by decide +kernel
theorem dJ9_max_7cf53_10 : decode cJ9_max_7cf53 10 = .ok (.ireturn, 1) := by decide +kernel
abbrev vwCl : List vw_C := [(RX0, TX0, 6), (RX1, TX1, 3), (RX2, TX2, 17), (RX3, TX3, 2), (RX4, TX4, 1), (RX5, TX5, 7)]
