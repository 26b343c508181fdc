set_option maxRecDepth 20000 in
theorem ggX5_promote_X2_promotable : GoodIn wsX5_promote wsX2_promotable := goodIn_r _ [21, 22, 23, 24, 25, 26, 27, 15, 28, 29, 30, 31, 72, 73, 74, 75, 76, 77, 78, 79, 80, 81, 82, 83, 84, 85, 86, 87, 88] (by decide +kernel) (by decide +kernel)
set_option maxRecDepth 20000 in
theorem gX5_promote_X2_promotable : GoodIn wsX5_promote (wsV RX5 241 RX2 yX2_promotable wsX2_promotable) := goodIn_app (goodIn_of _ (by decide +kernel)) ggX5_promote_X2_promotable
set_option maxRecDepth 20000 in
theorem ggX5_promote_X1_remember : GoodIn wsX5_promote wsX1_remember := goodIn_r _ [36, 37, 38, 39, 40, 41, 42, 15, 43, 44, 22, 45, 46, 23, 47, 48, 49, 50, 51, 17, 24, 52, 53, 54, 55, 56, 57, 58, 59, 89, 90, 91, 72, 73, 74, 75, 76, 77, 78, 79, 80, 81, 82, 83, 84, 85, 86, 87, 88] (by decide +kernel) (by decide +kernel)
set_option maxRecDepth 20000 in
theorem gX5_promote_X1_remember : GoodIn wsX5_promote (wsV RX5 197 RX1 yX1_remember wsX1_remember) := goodIn_app (goodIn_of _ (by decide +kernel)) ggX5_promote_X1_remember
set_option maxRecDepth 20000 in
theorem ggX5_promote_X2_putFirst : GoodIn wsX5_promote wsX2_putFirst := goodIn_r _ [63, 22, 64, 13, 14, 15, 16, 17, 25, 26, 27, 28, 24, 72, 73, 74, 75, 76, 77, 78, 79, 80, 81, 82, 83, 84, 85, 86, 87, 88] (by decide +kernel) (by decide +kernel)
set_option maxRecDepth 20000 in
theorem gX5_promote_X2_putFirst : GoodIn wsX5_promote (wsV RX5 216 RX2 yX2_putFirst wsX2_putFirst) := goodIn_app (goodIn_of _ (by decide +kernel)) ggX5_promote_X2_putFirst
theorem dX5_promote_0 : decode cX5_promote 0 = .ok (.aload_n 0, 1) := by decide +kernel
theorem dX5_promote_1 : decode cX5_promote 1 = .ok (.iload_n 1, 1) := by decide +kernel
theorem dX5_promote_2 : decode cX5_promote 2 = .ok (.invokevirtual 120, 3) := by decide +kernel
theorem dX5_promote_5 : decode cX5_promote 5 = .ok (.aload_n 0, 1) := by decide +kernel
theorem dX5_promote_6 : decode cX5_promote 6 = .ok (.getfield 19, 3) := by decide +kernel
theorem dX5_promote_9 : decode cX5_promote 9 = .ok (.iload_n 1, 1) := by decide +kernel
theorem dX5_promote_10 : decode cX5_promote 10 = .ok (.invokevirtual 241, 3) := by decide +kernel
theorem dX5_promote_13 : decode cX5_promote 13 = .ok (.istore_n 2, 1) := by decide +kernel
theorem dX5_promote_14 : decode cX5_promote 14 = .ok (.iload_n 2, 1) := by decide +kernel
theorem dX5_promote_15 : decode cX5_promote 15 = .ok (.iconst (-1), 1) := by decide +kernel
theorem dX5_promote_16 : decode cX5_promote 16 = .ok (.if_icmp .ne 13, 3) := by decide +kernel
theorem dX5_promote_19 : decode cX5_promote 19 = .ok (.new 60, 3) := by decide +kernel
theorem dX5_promote_22 : decode cX5_promote 22 = .ok (.dup, 1) := by decide +kernel
theorem dX5_promote_23 : decode cX5_promote 23 = .ok (.ldc 244, 2) := by decide +kernel
theorem dX5_promote_25 : decode cX5_promote 25 = .ok (.invokespecial 64, 3) := by decide +kernel
theorem dX5_promote_28 : decode cX5_promote 28 = .ok (.athrow, 1) := by decide +kernel
theorem dX5_promote_29 : decode cX5_promote 29 = .ok (.aload_n 0, 1) := by decide +kernel
theorem dX5_promote_30 : decode cX5_promote 30 = .ok (.getfield 40, 3) := by decide +kernel
theorem dX5_promote_33 : decode cX5_promote 33 = .ok (.aload_n 0, 1) := by decide +kernel
theorem dX5_promote_34 : decode cX5_promote 34 = .ok (.getfield 19, 3) := by decide +kernel
theorem dX5_promote_37 : decode cX5_promote 37 = .ok (.invokevirtual 197, 3) := by decide +kernel
theorem dX5_promote_40 : decode cX5_promote 40 = .ok (.aload_n 0, 1) := by decide +kernel
theorem dX5_promote_41 : decode cX5_promote 41 = .ok (.getfield 19, 3) := by decide +kernel
theorem dX5_promote_44 : decode cX5_promote 44 = .ok (.iload_n 1, 1) := by decide +kernel
theorem dX5_promote_45 : decode cX5_promote 45 = .ok (.iload_n 2, 1) := by decide +kernel
theorem dX5_promote_46 : decode cX5_promote 46 = .ok (.invokevirtual 216, 3) := by decide +kernel
theorem dX5_promote_49 : decode cX5_promote 49 = .ok (.pop, 1) := by decide +kernel
theorem dX5_promote_50 : decode cX5_promote 50 = .ok (.iload_n 2, 1) := by decide +kernel
theorem dX5_promote_51 : decode cX5_promote 51 = .ok (.ireturn, 1) := by decide +kernel
set_option maxRecDepth 20000 in
theorem ggX5_set_X5_needRange : GoodIn wsX5_set wsX5_needRange := goodIn_ca (goodIn_r _ [8, 9, 10] (by decide +kernel) (by decide +kernel)) (goodIn_sub (fun _ h => List.mem_cons_of_mem _ (List.mem_append_right _ h)) (by decide +kernel))
set_option maxRecDepth 20000 in
theorem gX5_set_X5_needRange : GoodIn wsX5_set (va_wsS RX5 52 yX5_needRange wsX5_needRange) := goodIn_app (goodIn_of _ (by decide +kernel)) ggX5_set_X5_needRange
set_option maxRecDepth 20000 in
theorem ggX5_set_X1_remember : GoodIn wsX5_set wsX1_remember := goodIn_r _ [15, 16, 17, 18, 19, 20, 21, 22, 23, 24, 25, 26, 27, 28, 29, 30, 31, 32, 33, 34, 35, 36, 37, 38, 39, 40, 41, 42, 43, 59, 60, 61, 62, 63, 64, 65, 66, 67, 68, 69, 70, 71, 72, 73, 74, 75, 76, 77, 78] (by decide +kernel) (by decide +kernel)
set_option maxRecDepth 20000 in
theorem gX5_set_X1_remember : GoodIn wsX5_set (wsV RX5 197 RX1 yX1_remember wsX1_remember) := goodIn_app (goodIn_of _ (by decide +kernel)) ggX5_set_X1_remember
set_option maxRecDepth 20000 in
theorem ggX5_set_X2_settingOf : GoodIn wsX5_set wsX2_settingOf := goodIn_r _ [47, 33, 62, 63, 64, 65, 66, 67, 68, 69, 70, 71, 72, 73, 74, 75, 76, 77, 78] (by decide +kernel) (by decide +kernel)
set_option maxRecDepth 20000 in
theorem gX5_set_X2_settingOf : GoodIn wsX5_set (wsV RX5 184 RX2 yX2_settingOf wsX2_settingOf) := goodIn_app (goodIn_of _ (by decide +kernel)) ggX5_set_X2_settingOf
set_option maxRecDepth 20000 in
theorem ggX5_set_X2_putSetting : GoodIn wsX5_set wsX2_putSetting := goodIn_r _ [51, 33, 62, 63, 64, 65, 66, 67, 68, 69, 70, 71, 72, 73, 74, 75, 76, 77, 78] (by decide +kernel) (by decide +kernel)
set_option maxRecDepth 20000 in
theorem gX5_set_X2_putSetting : GoodIn wsX5_set (wsV RX5 253 RX2 yX2_putSetting wsX2_putSetting) := goodIn_app (goodIn_of _ (by decide +kernel)) ggX5_set_X2_putSetting
theorem dX5_set_0 : decode cX5_set 0 = .ok (.iload_n 1, 1) := by decide +kernel
theorem dX5_set_1 : decode cX5_set 1 = .ok (.iconst 0, 1) := by decide +kernel
theorem dX5_set_2 : decode cX5_set 2 = .ok (.iconst 4, 1) := by decide +kernel
theorem dX5_set_3 : decode cX5_set 3 = .ok (.invokestatic 52, 3) := by decide +kernel
theorem dX5_set_6 : decode cX5_set 6 = .ok (.iload_n 2, 1) := by decide +kernel
theorem dX5_set_7 : decode cX5_set 7 = .ok (.getstatic 246, 3) := by decide +kernel
theorem dX5_set_10 : decode cX5_set 10 = .ok (.iload_n 1, 1) := by decide +kernel
theorem dX5_set_11 : decode cX5_set 11 = .ok (.iaload, 1) := by decide +kernel
theorem dX5_set_12 : decode cX5_set 12 = .ok (.getstatic 250, 3) := by decide +kernel
theorem dX5_set_15 : decode cX5_set 15 = .ok (.iload_n 1, 1) := by decide +kernel
theorem dX5_set_16 : decode cX5_set 16 = .ok (.iaload, 1) := by decide +kernel
theorem dX5_set_17 : decode cX5_set 17 = .ok (.invokestatic 52, 3) := by decide +kernel
theorem dX5_set_20 : decode cX5_set 20 = .ok (.aload_n 0, 1) := by decide +kernel
theorem dX5_set_21 : decode cX5_set 21 = .ok (.getfield 40, 3) := by decide +kernel
theorem dX5_set_24 : decode cX5_set 24 = .ok (.aload_n 0, 1) := by decide +kernel
theorem dX5_set_25 : decode cX5_set 25 = .ok (.getfield 19, 3) := by decide +kernel
theorem dX5_set_28 : decode cX5_set 28 = .ok (.invokevirtual 197, 3) := by decide +kernel
theorem dX5_set_31 : decode cX5_set 31 = .ok (.aload_n 0, 1) := by decide +kernel
theorem dX5_set_32 : decode cX5_set 32 = .ok (.getfield 19, 3) := by decide +kernel
theorem dX5_set_35 : decode cX5_set 35 = .ok (.iload_n 1, 1) := by decide +kernel
theorem dX5_set_36 : decode cX5_set 36 = .ok (.invokevirtual 184, 3) := by decide +kernel
theorem dX5_set_39 : decode cX5_set 39 = .ok (.istore_n 3, 1) := by decide +kernel
theorem dX5_set_40 : decode cX5_set 40 = .ok (.aload_n 0, 1) := by decide +kernel
theorem dX5_set_41 : decode cX5_set 41 = .ok (.getfield 19, 3) := by decide +kernel
theorem dX5_set_44 : decode cX5_set 44 = .ok (.iload_n 1, 1) := by decide +kernel
theorem dX5_set_45 : decode cX5_set 45 = .ok (.iload_n 2, 1) := by decide +kernel
theorem dX5_set_46 : decode cX5_set 46 = .ok (.invokevirtual 253, 3) := by decide +kernel
theorem dX5_set_49 : decode cX5_set 49 = .ok (.iload_n 3, 1) := by decide +kernel
theorem dX5_set_50 : decode cX5_set 50 = .ok (.ireturn, 1) := by decide +kernel
set_option maxRecDepth 20000 in
theorem ggX5_undo_X1_isEmpty : GoodIn wsX5_undo wsX1_isEmpty := goodIn_r _ [9, 10, 53, 54, 55] (by decide +kernel) (by decide +kernel)
set_option maxRecDepth 20000 in
theorem gX5_undo_X1_isEmpty : GoodIn wsX5_undo (wsV RX5 257 RX1 yX1_isEmpty wsX1_isEmpty) := goodIn_app (goodIn_of _ (by decide +kernel)) ggX5_undo_X1_isEmpty
set_option maxRecDepth 20000 in
theorem ggX5_undo_X1_takeBack : GoodIn wsX5_undo wsX1_takeBack := goodIn_r _ [14, 10, 15, 16, 17, 18, 19, 20, 21, 22, 23, 24, 25, 26, 27, 28, 29, 30, 31, 32, 33, 34, 35, 36, 37, 38, 39, 40, 41, 53, 54, 55, 56, 57, 58, 59, 60, 61, 62, 63, 64, 65, 66, 67, 68, 69, 70, 71, 72] (by decide +kernel) (by decide +kernel)
set_option maxRecDepth 20000 in
theorem gX5_undo_X1_takeBack : GoodIn wsX5_undo (wsV RX5 262 RX1 yX1_takeBack wsX1_takeBack) := goodIn_app (goodIn_of _ (by decide +kernel)) ggX5_undo_X1_takeBack
set_option maxRecDepth 20000 in
theorem ggX5_undo_X1_size : GoodIn wsX5_undo wsX1_size := goodIn_r _ [45, 10, 53, 54, 55] (by decide +kernel) (by decide +kernel)
set_option maxRecDepth 20000 in
theorem gX5_undo_X1_size : GoodIn wsX5_undo (wsV RX5 265 RX1 yX1_size wsX1_size) := goodIn_app (goodIn_of _ (by decide +kernel)) ggX5_undo_X1_size
theorem dX5_undo_0 : decode cX5_undo 0 = .ok (.aload_n 0, 1) := by decide +kernel
theorem dX5_undo_1 : decode cX5_undo 1 = .ok (.getfield 40, 3) := by decide +kernel
theorem dX5_undo_4 : decode cX5_undo 4 = .ok (.invokevirtual 257, 3) := by decide +kernel
theorem dX5_undo_7 : decode cX5_undo 7 = .ok (.ifCond .eq 14, 3) := by decide +kernel
theorem dX5_undo_10 : decode cX5_undo 10 = .ok (.new 60, 3) := by decide +kernel
theorem dX5_undo_13 : decode cX5_undo 13 = .ok (.dup, 1) := by decide +kernel
theorem dX5_undo_14 : decode cX5_undo 14 = .ok (.ldc_w 260, 3) := by decide +kernel
theorem dX5_undo_17 : decode cX5_undo 17 = .ok (.invokespecial 64, 3) := by decide +kernel
theorem dX5_undo_20 : decode cX5_undo 20 = .ok (.athrow, 1) := by decide +kernel
theorem dX5_undo_21 : decode cX5_undo 21 = .ok (.aload_n 0, 1) := by decide +kernel
theorem dX5_undo_22 : decode cX5_undo 22 = .ok (.getfield 40, 3) := by decide +kernel
theorem dX5_undo_25 : decode cX5_undo 25 = .ok (.aload_n 0, 1) := by decide +kernel
theorem dX5_undo_26 : decode cX5_undo 26 = .ok (.getfield 19, 3) := by decide +kernel
theorem dX5_undo_29 : decode cX5_undo 29 = .ok (.invokevirtual 262, 3) := by decide +kernel
theorem dX5_undo_32 : decode cX5_undo 32 = .ok (.aload_n 0, 1) := by decide +kernel
theorem dX5_undo_33 : decode cX5_undo 33 = .ok (.getfield 40, 3) := by decide +kernel
theorem dX5_undo_36 : decode cX5_undo 36 = .ok (.invokevirtual 265, 3) := by decide +kernel
theorem dX5_undo_39 : decode cX5_undo 39 = .ok (.ireturn, 1) := by decide +kernel
set_option maxRecDepth 20000 in
theorem ggX5_strength_X2_freePlayers : GoodIn wsX5_strength wsX2_freePlayers := goodIn_r _ [7, 8, 9, 10, 11, 6, 12, 13, 14, 15, 16, 80, 81, 82, 83, 84, 85, 86, 87, 88, 89, 90, 91, 92, 93, 94, 95, 96] (by decide +kernel) (by decide +kernel)
set_option maxRecDepth 20000 in
theorem gX5_strength_X2_freePlayers : GoodIn wsX5_strength (wsV RX5 130 RX2 yX2_freePlayers wsX2_freePlayers) := goodIn_app (goodIn_of _ (by decide +kernel)) ggX5_strength_X2_freePlayers
set_option maxRecDepth 20000 in
theorem ggX5_strength_X0_seek : GoodIn wsX5_strength wsX0_seek := goodIn_r _ [21, 22, 23, 24, 25, 26, 27, 28, 29, 6, 30, 31, 32, 33, 34, 35, 8, 36, 37, 20, 38, 39, 40, 41, 42, 43, 44, 45, 46, 47, 48, 49, 50, 51, 52, 53, 54, 55, 56, 57, 58, 59, 60, 61, 62, 63, 64, 65, 66, 67, 68, 69, 70, 71, 72, 97, 98, 99, 100, 101, 102, 80, 81, 82, 83, 84, 85, 86, 87, 88, 89, 90, 91, 92, 93, 94, 95, 96] (by decide +kernel) (by decide +kernel)
set_option maxRecDepth 20000 in
theorem gX5_strength_X0_seek : GoodIn wsX5_strength (wsV RX5 133 RX0 yX0_seek wsX0_seek) := goodIn_app (goodIn_of _ (by decide +kernel)) ggX5_strength_X0_seek
theorem dX5_strength_0 : decode cX5_strength 0 = .ok (.aload_n 0, 1) := by decide +kernel
theorem dX5_strength_1 : decode cX5_strength 1 = .ok (.getfield 26, 3) := by decide +kernel
theorem dX5_strength_4 : decode cX5_strength 4 = .ok (.aload_n 0, 1) := by decide +kernel
theorem dX5_strength_5 : decode cX5_strength 5 = .ok (.getfield 19, 3) := by decide +kernel
theorem dX5_strength_8 : decode cX5_strength 8 = .ok (.aload_n 0, 1) := by decide +kernel
theorem dX5_strength_9 : decode cX5_strength 9 = .ok (.getfield 19, 3) := by decide +kernel
theorem dX5_strength_12 : decode cX5_strength 12 = .ok (.invokevirtual 130, 3) := by decide +kernel
theorem dX5_strength_15 : decode cX5_strength 15 = .ok (.invokevirtual 133, 3) := by decide +kernel
theorem dX5_strength_18 : decode cX5_strength 18 = .ok (.ireturn, 1) := by decide +kernel
set_option maxRecDepth 20000 in
theorem ggX5_without_X5_needPlayer : GoodIn wsX5_without wsX5_needPlayer := goodIn_ca (goodIn_r _ [7, 8, 9, 2, 10, 11, 12, 13, 14, 15, 88, 89, 90, 91, 92, 93, 94, 95, 96, 97, 98, 99, 100, 101, 102, 103, 104, 105, 106, 107, 108, 109, 110, 111] (by decide +kernel) (by decide +kernel)) (goodIn_sub (fun _ h => List.mem_cons_of_mem _ (List.mem_append_right _ h)) (by decide +kernel))
set_option maxRecDepth 20000 in
theorem gX5_without_X5_needPlayer : GoodIn wsX5_without (wsV RX5 148 RX5 yX5_needPlayer wsX5_needPlayer) := goodIn_app (goodIn_of _ (by decide +kernel)) ggX5_without_X5_needPlayer
set_option maxRecDepth 20000 in
theorem ggX5_without_X2_freePlayersBut : GoodIn wsX5_without wsX2_freePlayersBut := goodIn_r _ [19, 20, 21, 22, 13, 23, 15, 24, 25, 26, 27, 28, 29, 30, 31, 95, 96, 97, 98, 99, 100, 101, 102, 103, 104, 105, 106, 107, 108, 109, 110, 111] (by decide +kernel) (by decide +kernel)
set_option maxRecDepth 20000 in
theorem gX5_without_X2_freePlayersBut : GoodIn wsX5_without (wsV RX5 266 RX2 yX2_freePlayersBut wsX2_freePlayersBut) := goodIn_app (goodIn_of _ (by decide +kernel)) ggX5_without_X2_freePlayersBut
set_option maxRecDepth 20000 in
theorem ggX5_without_X0_seek : GoodIn wsX5_without wsX0_seek := goodIn_r _ [36, 37, 38, 39, 40, 41, 42, 43, 44, 13, 45, 46, 47, 48, 49, 50, 15, 51, 52, 35, 53, 54, 55, 56, 57, 58, 59, 60, 61, 62, 63, 64, 65, 66, 67, 68, 69, 70, 71, 72, 73, 74, 75, 76, 77, 78, 79, 80, 81, 82, 83, 84, 85, 86, 87, 112, 113, 114, 115, 116, 117, 95, 96, 97, 98, 99, 100, 101, 102, 103, 104, 105, 106, 107, 108, 109, 110, 111] (by decide +kernel) (by decide +kernel)
set_option maxRecDepth 20000 in
theorem gX5_without_X0_seek : GoodIn wsX5_without (wsV RX5 133 RX0 yX0_seek wsX0_seek) := goodIn_app (goodIn_of _ (by decide +kernel)) ggX5_without_X0_seek
theorem dX5_without_0 : decode cX5_without 0 = .ok (.aload_n 0, 1) := by decide +kernel
theorem dX5_without_1 : decode cX5_without 1 = .ok (.iload_n 1, 1) := by decide +kernel
theorem dX5_without_2 : decode cX5_without 2 = .ok (.invokevirtual 148, 3) := by decide +kernel
theorem dX5_without_5 : decode cX5_without 5 = .ok (.aload_n 0, 1) := by decide +kernel
theorem dX5_without_6 : decode cX5_without 6 = .ok (.getfield 26, 3) := by decide +kernel
theorem dX5_without_9 : decode cX5_without 9 = .ok (.aload_n 0, 1) := by decide +kernel
theorem dX5_without_10 : decode cX5_without 10 = .ok (.getfield 19, 3) := by decide +kernel
theorem dX5_without_13 : decode cX5_without 13 = .ok (.aload_n 0, 1) := by decide +kernel
theorem dX5_without_14 : decode cX5_without 14 = .ok (.getfield 19, 3) := by decide +kernel
theorem dX5_without_17 : decode cX5_without 17 = .ok (.iload_n 1, 1) := by decide +kernel
theorem dX5_without_18 : decode cX5_without 18 = .ok (.invokevirtual 266, 3) := by decide +kernel
theorem dX5_without_21 : decode cX5_without 21 = .ok (.invokevirtual 133, 3) := by decide +kernel
theorem dX5_without_24 : decode cX5_without 24 = .ok (.ireturn, 1) := by decide +kernel
set_option maxRecDepth 20000 in
theorem ggX5_missed_X2_roleCount : GoodIn wsX5_missed wsX2_roleCount := goodIn_r _ [7, 8, 92, 93, 94, 95, 96, 97, 98, 99, 100, 101, 102, 103, 104, 105, 106, 107, 108] (by decide +kernel) (by decide +kernel)
set_option maxRecDepth 20000 in
theorem gX5_missed_X2_roleCount : GoodIn wsX5_missed (wsV RX5 91 RX2 yX2_roleCount wsX2_roleCount) := goodIn_app (goodIn_of _ (by decide +kernel)) ggX5_missed_X2_roleCount
set_option maxRecDepth 20000 in
theorem ggX5_missed_X2_freePlayers : GoodIn wsX5_missed wsX2_freePlayers := goodIn_r _ [12, 13, 14, 15, 16, 6, 17, 18, 19, 20, 21, 92, 93, 94, 95, 96, 97, 98, 99, 100, 101, 102, 103, 104, 105, 106, 107, 108] (by decide +kernel) (by decide +kernel)
set_option maxRecDepth 20000 in
theorem gX5_missed_X2_freePlayers : GoodIn wsX5_missed (wsV RX5 130 RX2 yX2_freePlayers wsX2_freePlayers) := goodIn_app (goodIn_of _ (by decide +kernel)) ggX5_missed_X2_freePlayers
set_option maxRecDepth 20000 in
theorem ggX5_missed_X0_seek : GoodIn wsX5_missed wsX0_seek := goodIn_r _ [26, 27, 28, 29, 30, 31, 32, 4, 5, 6, 7, 8, 33, 34, 35, 36, 13, 37, 38, 25, 39, 40, 41, 42, 43, 44, 45, 46, 47, 48, 49, 50, 51, 52, 53, 54, 55, 56, 57, 58, 59, 60, 61, 62, 63, 64, 65, 66, 67, 68, 69, 70, 71, 72, 73, 109, 110, 111, 112, 113, 114, 92, 93, 94, 95, 96, 97, 98, 99, 100, 101, 102, 103, 104, 105, 106, 107, 108] (by decide +kernel) (by decide +kernel)
set_option maxRecDepth 20000 in
theorem gX5_missed_X0_seek : GoodIn wsX5_missed (wsV RX5 133 RX0 yX0_seek wsX0_seek) := goodIn_app (goodIn_of _ (by decide +kernel)) ggX5_missed_X0_seek
set_option maxRecDepth 20000 in
theorem ggX5_missed_X0_mostMissed : GoodIn wsX5_missed wsX0_mostMissed := goodIn_r _ [77, 33, 34, 35, 6, 36, 13, 78, 15, 16, 17, 18, 19, 20, 21, 79, 80, 81, 82, 83, 10, 11, 12, 14, 84, 23, 24, 25, 26, 27, 28, 29, 30, 31, 32, 4, 5, 7, 8, 37, 38, 39, 40, 41, 42, 43, 44, 45, 46, 47, 48, 49, 50, 51, 52, 53, 54, 55, 56, 57, 58, 59, 60, 61, 62, 63, 64, 65, 66, 67, 68, 69, 70, 71, 72, 73, 92, 93, 94, 95, 96, 97, 98, 99, 100, 101, 102, 103, 104, 105, 106, 107, 108, 109, 110, 111, 112, 113, 114] (by decide +kernel) (by decide +kernel)
set_option maxRecDepth 20000 in
theorem gX5_missed_X0_mostMissed : GoodIn wsX5_missed (wsV RX5 269 RX0 yX0_mostMissed wsX0_mostMissed) := goodIn_app (goodIn_of _ (by decide +kernel)) ggX5_missed_X0_mostMissed
theorem dX5_missed_0 : decode cX5_missed 0 = .ok (.aload_n 0, 1) := by decide +kernel
theorem dX5_missed_1 : decode cX5_missed 1 = .ok (.getfield 19, 3) := by decide +kernel
theorem dX5_missed_4 : decode cX5_missed 4 = .ok (.invokevirtual 91, 3) := by decide +kernel
theorem dX5_missed_7 : decode cX5_missed 7 = .ok (.ifCond .eq 25, 3) := by decide +kernel
theorem dX5_missed_10 : decode cX5_missed 10 = .ok (.aload_n 0, 1) := by decide +kernel
theorem dX5_missed_11 : decode cX5_missed 11 = .ok (.getfield 26, 3) := by decide +kernel
theorem dX5_missed_14 : decode cX5_missed 14 = .ok (.aload_n 0, 1) := by decide +kernel
theorem dX5_missed_15 : decode cX5_missed 15 = .ok (.getfield 19, 3) := by decide +kernel
theorem dX5_missed_18 : decode cX5_missed 18 = .ok (.aload_n 0, 1) := by decide +kernel
theorem dX5_missed_19 : decode cX5_missed 19 = .ok (.getfield 19, 3) := by decide +kernel
theorem dX5_missed_22 : decode cX5_missed 22 = .ok (.invokevirtual 130, 3) := by decide +kernel
theorem dX5_missed_25 : decode cX5_missed 25 = .ok (.invokevirtual 133, 3) := by decide +kernel
theorem dX5_missed_28 : decode cX5_missed 28 = .ok (.iconst (-1), 1) := by decide +kernel
theorem dX5_missed_29 : decode cX5_missed 29 = .ok (.if_icmp .ne 5, 3) := by decide +kernel
theorem dX5_missed_32 : decode cX5_missed 32 = .ok (.iconst (-1), 1) := by decide +kernel
theorem dX5_missed_33 : decode cX5_missed 33 = .ok (.ireturn, 1) := by decide +kernel
theorem dX5_missed_34 : decode cX5_missed 34 = .ok (.aload_n 0, 1) := by decide +kernel
theorem dX5_missed_35 : decode cX5_missed 35 = .ok (.getfield 26, 3) := by decide +kernel
theorem dX5_missed_38 : decode cX5_missed 38 = .ok (.aload_n 0, 1) := by decide +kernel
theorem dX5_missed_39 : decode cX5_missed 39 = .ok (.getfield 19, 3) := by decide +kernel
theorem dX5_missed_42 : decode cX5_missed 42 = .ok (.invokevirtual 269, 3) := by decide +kernel
theorem dX5_missed_45 : decode cX5_missed 45 = .ok (.ireturn, 1) := by decide +kernel
set_option maxRecDepth 20000 in
theorem ggX5_coming_X5_needRange : GoodIn wsX5_coming wsX5_needRange := goodIn_ca (goodIn_r _ [7, 8, 9] (by decide +kernel) (by decide +kernel)) (goodIn_sub (fun _ h => List.mem_cons_of_mem _ (List.mem_append_left _ (List.mem_append_right _ h))) (by decide +kernel))
set_option maxRecDepth 20000 in
theorem gX5_coming_X5_needRange : GoodIn wsX5_coming (va_wsS RX5 52 yX5_needRange wsX5_needRange) := goodIn_app (goodIn_of _ (by decide +kernel)) ggX5_coming_X5_needRange
set_option maxRecDepth 20000 in
theorem ggX5_coming_X5_needSomeRole : GoodIn wsX5_coming wsX5_needSomeRole := goodIn_ca (goodIn_r _ [13, 14, 15, 2, 16, 17, 18, 19, 20, 21, 136, 137, 138, 139, 140, 141, 142, 143, 144, 145, 146, 147, 148, 149, 150, 151, 152, 153, 154, 155, 156, 157, 158, 159] (by decide +kernel) (by decide +kernel)) (goodIn_sub (fun _ h => List.mem_cons_of_mem _ (List.mem_append_right _ h)) (by decide +kernel))
set_option maxRecDepth 20000 in
theorem gX5_coming_X5_needSomeRole : GoodIn wsX5_coming (wsV RX5 231 RX5 yX5_needSomeRole wsX5_needSomeRole) := goodIn_app (goodIn_of _ (by decide +kernel)) ggX5_coming_X5_needSomeRole
set_option maxRecDepth 20000 in
theorem ggX5_coming_X4_begin : GoodIn wsX5_coming wsX4_begin := goodIn_r _ [26, 27, 28, 29, 30, 19, 31, 32, 33, 34, 35, 36, 37, 38, 39, 40, 41, 21, 42, 43, 44, 45, 46, 47, 48, 49, 50, 160, 143, 144, 145, 146, 147, 148, 149, 150, 151, 152, 153, 154, 155, 156, 157, 158, 159] (by decide +kernel) (by decide +kernel)
set_option maxRecDepth 20000 in
theorem gX5_coming_X4_begin : GoodIn wsX5_coming (wsV RX5 273 RX4 yX4_begin wsX4_begin) := goodIn_app (goodIn_of _ (by decide +kernel)) ggX5_coming_X4_begin
set_option maxRecDepth 20000 in
theorem ggX5_coming_X4_castDays : GoodIn wsX5_coming wsX4_castDays := goodIn_r _ [54, 27, 55, 56, 57, 19, 58, 45, 42, 38, 43, 47, 59, 60, 61, 62, 63, 64, 65, 66, 39, 41, 67, 68, 69, 70, 71, 72, 73, 74, 75, 76, 77, 17, 18, 20, 21, 78, 79, 80, 81, 82, 83, 84, 85, 86, 87, 88, 35, 32, 33, 89, 90, 91, 92, 93, 94, 95, 96, 97, 98, 99, 100, 101, 102, 103, 104, 105, 106, 107, 108, 109, 110, 111, 112, 113, 114, 115, 116, 117, 118, 119, 44, 120, 121, 122, 123, 124, 125, 126, 127, 128, 129, 130, 131, 46, 34, 37, 40, 36, 132, 133, 134, 135, 160, 143, 144, 145, 146, 147, 148, 149, 150, 151, 152, 153, 154, 155, 156, 157, 158, 159, 161, 162, 163, 164, 165, 166] (by decide +kernel) (by decide +kernel)
set_option maxRecDepth 20000 in
theorem gX5_coming_X4_castDays : GoodIn wsX5_coming (wsV RX5 276 RX4 yX4_castDays wsX4_castDays) := goodIn_app (goodIn_of _ (by decide +kernel)) ggX5_coming_X4_castDays
theorem dX5_coming_0 : decode cX5_coming 0 = .ok (.iload_n 1, 1) := by decide +kernel
theorem dX5_coming_1 : decode cX5_coming 1 = .ok (.iconst 1, 1) := by decide +kernel
theorem dX5_coming_2 : decode cX5_coming 2 = .ok (.bipush 30, 2) := by decide +kernel
theorem dX5_coming_4 : decode cX5_coming 4 = .ok (.invokestatic 52, 3) := by decide +kernel
theorem dX5_coming_7 : decode cX5_coming 7 = .ok (.aload_n 0, 1) := by decide +kernel
theorem dX5_coming_8 : decode cX5_coming 8 = .ok (.invokevirtual 231, 3) := by decide +kernel
theorem dX5_coming_11 : decode cX5_coming 11 = .ok (.aload_n 0, 1) := by decide +kernel
theorem dX5_coming_12 : decode cX5_coming 12 = .ok (.getfield 33, 3) := by decide +kernel
theorem dX5_coming_15 : decode cX5_coming 15 = .ok (.aload_n 0, 1) := by decide +kernel
theorem dX5_coming_16 : decode cX5_coming 16 = .ok (.getfield 19, 3) := by decide +kernel
theorem dX5_coming_19 : decode cX5_coming 19 = .ok (.invokevirtual 273, 3) := by decide +kernel
theorem dX5_coming_22 : decode cX5_coming 22 = .ok (.aload_n 0, 1) := by decide +kernel
theorem dX5_coming_23 : decode cX5_coming 23 = .ok (.getfield 33, 3) := by decide +kernel
theorem dX5_coming_26 : decode cX5_coming 26 = .ok (.iload_n 1, 1) := by decide +kernel
theorem dX5_coming_27 : decode cX5_coming 27 = .ok (.aload_n 0, 1) := by decide +kernel
theorem dX5_coming_28 : decode cX5_coming 28 = .ok (.getfield 26, 3) := by decide +kernel
theorem dX5_coming_31 : decode cX5_coming 31 = .ok (.invokevirtual 276, 3) := by decide +kernel
theorem dX5_coming_34 : decode cX5_coming 34 = .ok (.ireturn, 1) := by decide +kernel
set_option maxRecDepth 20000 in
theorem ggX5_degreeFor_X5_needPlayer : GoodIn wsX5_degreeFor wsX5_needPlayer := goodIn_ca (goodIn_r _ [8, 9, 10, 2, 11, 12, 13, 14, 15, 16, 133, 134, 135, 136, 137, 138, 139, 140, 141, 142, 143, 144, 145, 146, 147, 148, 149, 150, 151, 152, 153, 154, 155, 156] (by decide +kernel) (by decide +kernel)) (goodIn_sub (fun _ h => List.mem_cons_of_mem _ (List.mem_append_right _ h)) (by decide +kernel))
set_option maxRecDepth 20000 in
theorem gX5_degreeFor_X5_needPlayer : GoodIn wsX5_degreeFor (wsV RX5 148 RX5 yX5_needPlayer wsX5_needPlayer) := goodIn_app (goodIn_of _ (by decide +kernel)) ggX5_degreeFor_X5_needPlayer
set_option maxRecDepth 20000 in
theorem ggX5_degreeFor_X5_needRole : GoodIn wsX5_degreeFor wsX5_needRole := goodIn_ca (goodIn_r _ [20, 9, 10, 2, 21, 22, 23, 14, 24, 25, 133, 134, 135, 136, 137, 138, 139, 140, 141, 142, 143, 144, 145, 146, 147, 148, 149, 150, 151, 152, 153, 154, 155, 156] (by decide +kernel) (by decide +kernel)) (goodIn_sub (fun _ h => List.mem_cons_of_mem _ (List.mem_append_right _ h)) (by decide +kernel))
set_option maxRecDepth 20000 in
theorem gX5_degreeFor_X5_needRole : GoodIn wsX5_degreeFor (wsV RX5 120 RX5 yX5_needRole wsX5_needRole) := goodIn_app (goodIn_of _ (by decide +kernel)) ggX5_degreeFor_X5_needRole
set_option maxRecDepth 20000 in
theorem ggX5_degreeFor_X4_begin : GoodIn wsX5_degreeFor wsX4_begin := goodIn_r _ [30, 31, 32, 33, 34, 14, 35, 36, 37, 38, 39, 40, 41, 42, 43, 44, 45, 25, 16, 46, 47, 48, 49, 50, 51, 52, 53, 157, 140, 141, 142, 143, 144, 145, 146, 147, 148, 149, 150, 151, 152, 153, 154, 155, 156] (by decide +kernel) (by decide +kernel)
set_option maxRecDepth 20000 in
theorem gX5_degreeFor_X4_begin : GoodIn wsX5_degreeFor (wsV RX5 273 RX4 yX4_begin wsX4_begin) := goodIn_app (goodIn_of _ (by decide +kernel)) ggX5_degreeFor_X4_begin
set_option maxRecDepth 20000 in
theorem ggX5_degreeFor_X4_leastDegree : GoodIn wsX5_degreeFor wsX4_leastDegree := goodIn_r _ [57, 31, 58, 59, 60, 14, 61, 39, 62, 12, 13, 15, 16, 63, 22, 23, 24, 25, 64, 65, 66, 67, 68, 69, 29, 70, 71, 72, 73, 74, 75, 76, 77, 78, 43, 46, 42, 45, 79, 80, 81, 82, 83, 84, 85, 86, 87, 88, 89, 90, 91, 92, 93, 94, 95, 96, 97, 98, 99, 100, 101, 102, 103, 36, 37, 104, 105, 106, 107, 108, 109, 110, 111, 112, 113, 114, 115, 116, 117, 118, 119, 120, 121, 122, 123, 124, 125, 126, 127, 128, 129, 130, 131, 132, 157, 140, 141, 142, 143, 144, 145, 146, 147, 148, 149, 150, 151, 152, 153, 154, 155, 156, 158, 159, 160, 161, 162, 163] (by decide +kernel) (by decide +kernel)
set_option maxRecDepth 20000 in
theorem gX5_degreeFor_X4_leastDegree : GoodIn wsX5_degreeFor (wsV RX5 280 RX4 yX4_leastDegree wsX4_leastDegree) := goodIn_app (goodIn_of _ (by decide +kernel)) ggX5_degreeFor_X4_leastDegree
theorem dX5_degreeFor_0 : decode cX5_degreeFor 0 = .ok (.aload_n 0, 1) := by decide +kernel
theorem dX5_degreeFor_1 : decode cX5_degreeFor 1 = .ok (.iload_n 1, 1) := by decide +kernel
theorem dX5_degreeFor_2 : decode cX5_degreeFor 2 = .ok (.invokevirtual 148, 3) := by decide +kernel
theorem dX5_degreeFor_5 : decode cX5_degreeFor 5 = .ok (.aload_n 0, 1) := by decide +kernel
theorem dX5_degreeFor_6 : decode cX5_degreeFor 6 = .ok (.iload_n 2, 1) := by decide +kernel
theorem dX5_degreeFor_7 : decode cX5_degreeFor 7 = .ok (.invokevirtual 120, 3) := by decide +kernel
theorem dX5_degreeFor_10 : decode cX5_degreeFor 10 = .ok (.aload_n 0, 1) := by decide +kernel
theorem dX5_degreeFor_11 : decode cX5_degreeFor 11 = .ok (.getfield 33, 3) := by decide +kernel
theorem dX5_degreeFor_14 : decode cX5_degreeFor 14 = .ok (.aload_n 0, 1) := by decide +kernel
theorem dX5_degreeFor_15 : decode cX5_degreeFor 15 = .ok (.getfield 19, 3) := by decide +kernel
theorem dX5_degreeFor_18 : decode cX5_degreeFor 18 = .ok (.invokevirtual 273, 3) := by decide +kernel
theorem dX5_degreeFor_21 : decode cX5_degreeFor 21 = .ok (.aload_n 0, 1) := by decide +kernel
theorem dX5_degreeFor_22 : decode cX5_degreeFor 22 = .ok (.getfield 33, 3) := by decide +kernel
theorem dX5_degreeFor_25 : decode cX5_degreeFor 25 = .ok (.iload_n 1, 1) := by decide +kernel
theorem dX5_degreeFor_26 : decode cX5_degreeFor 26 = .ok (.iload_n 2, 1) := by decide +kernel
theorem dX5_degreeFor_27 : decode cX5_degreeFor 27 = .ok (.aload_n 0, 1) := by decide +kernel
theorem dX5_degreeFor_28 : decode cX5_degreeFor 28 = .ok (.getfield 26, 3) := by decide +kernel
theorem dX5_degreeFor_31 : decode cX5_degreeFor 31 = .ok (.invokevirtual 280, 3) := by decide +kernel
theorem dX5_degreeFor_34 : decode cX5_degreeFor 34 = .ok (.ireturn, 1) := by decide +kernel
set_option maxRecDepth 20000 in
theorem ggX5_runScript_X5_needRange : GoodIn wsX5_runScript wsX5_needRange := goodIn_ca (goodIn_r _ [9, 1, 2] (by decide +kernel) (by decide +kernel)) (goodIn_sub (fun _ h => List.mem_cons_of_mem _ (List.mem_append_right _ h)) (by decide +kernel))
set_option maxRecDepth 20000 in
theorem gX5_runScript_X5_needRange : GoodIn wsX5_runScript (va_wsS RX5 52 yX5_needRange wsX5_needRange) := goodIn_app (goodIn_of _ (by decide +kernel)) ggX5_runScript_X5_needRange
set_option maxRecDepth 20000 in
theorem ggX5_runScript_X4_withoutGroups : GoodIn wsX5_runScript wsX4_withoutGroups := goodIn_r _ [13, 14] (by decide +kernel) (by decide +kernel)
set_option maxRecDepth 20000 in
theorem gX5_runScript_X4_withoutGroups : GoodIn wsX5_runScript (va_wsS RX5 284 yX4_withoutGroups wsX4_withoutGroups) := goodIn_app (goodIn_of _ (by decide +kernel)) ggX5_runScript_X4_withoutGroups
set_option maxRecDepth 20000 in
theorem ggX5_runScript_X4_begin : GoodIn wsX5_runScript wsX4_begin := goodIn_r _ [18, 19, 20, 21, 22, 23, 24, 25, 26, 27, 28, 29, 30, 31, 32, 33, 34, 35, 36, 37, 38, 39, 40, 41, 42, 43, 44, 185, 186, 187, 188, 189, 190, 191, 192, 193, 194, 195, 196, 197, 198, 199, 200, 201, 202] (by decide +kernel) (by decide +kernel)
set_option maxRecDepth 20000 in
theorem gX5_runScript_X4_begin : GoodIn wsX5_runScript (wsV RX5 273 RX4 yX4_begin wsX4_begin) := goodIn_app (goodIn_of _ (by decide +kernel)) ggX5_runScript_X4_begin
set_option maxRecDepth 20000 in
theorem ggX5_runScript_X4_firstFailing : GoodIn wsX5_runScript wsX4_firstFailing := goodIn_r _ [48, 14, 49, 11, 12, 13, 50, 51, 52, 53, 19, 54, 55, 56, 23, 57, 28, 58, 59, 60, 61, 36, 62, 63, 64, 65, 35, 66, 67, 68, 69, 70, 71, 72, 26, 73, 74, 75, 76, 32, 37, 77, 78, 79, 80, 27, 41, 81, 82, 83, 84, 85, 86, 87, 88, 31, 34, 89, 90, 91, 92, 93, 94, 95, 96, 97, 98, 99, 100, 101, 102, 103, 104, 105, 106, 107, 108, 109, 110, 111, 112, 113, 25, 114, 115, 116, 117, 118, 119, 120, 121, 122, 123, 124, 125, 126, 127, 128, 129, 130, 131, 132, 133, 134, 135, 136, 137, 138, 139, 140, 141, 142, 143, 144, 145, 146, 39, 147, 148, 149, 150, 38, 151, 152, 153, 154, 40, 30, 33, 29, 155, 156, 157, 158, 159, 160, 161, 162, 163, 164, 165, 166, 167, 168, 169, 170, 171, 172, 173, 174, 175, 176, 177, 185, 186, 187, 188, 189, 190, 191, 192, 193, 194, 195, 196, 197, 198, 199, 200, 201, 202, 203, 204, 205, 206, 207, 208] (by decide +kernel) (by decide +kernel)
set_option maxRecDepth 20000 in
theorem gX5_runScript_X4_firstFailing : GoodIn wsX5_runScript (wsV RX5 290 RX4 yX4_firstFailing wsX4_firstFailing) := goodIn_app (goodIn_of _ (by decide +kernel)) ggX5_runScript_X4_firstFailing
theorem dX5_runScript_0 : decode cX5_runScript 0 = .ok (.iload_n 1, 1) := by decide +kernel
theorem dX5_runScript_1 : decode cX5_runScript 1 = .ok (.iconst 1, 1) := by decide +kernel
theorem dX5_runScript_2 : decode cX5_runScript 2 = .ok (.iconst 3, 1) := by decide +kernel
theorem dX5_runScript_3 : decode cX5_runScript 3 = .ok (.invokestatic 52, 3) := by decide +kernel
theorem dX5_runScript_6 : decode cX5_runScript 6 = .ok (.lload_n 2, 1) := by decide +kernel
theorem dX5_runScript_7 : decode cX5_runScript 7 = .ok (.lconst 0, 1) := by decide +kernel
theorem dX5_runScript_8 : decode cX5_runScript 8 = .ok (.lcmp, 1) := by decide +kernel
theorem dX5_runScript_9 : decode cX5_runScript 9 = .ok (.ifCond .lt 13, 3) := by decide +kernel
theorem dX5_runScript_12 : decode cX5_runScript 12 = .ok (.lload_n 2, 1) := by decide +kernel
theorem dX5_runScript_13 : decode cX5_runScript 13 = .ok (.iload_n 1, 1) := by decide +kernel
theorem dX5_runScript_14 : decode cX5_runScript 14 = .ok (.invokestatic 284, 3) := by decide +kernel
theorem dX5_runScript_17 : decode cX5_runScript 17 = .ok (.lconst 0, 1) := by decide +kernel
theorem dX5_runScript_18 : decode cX5_runScript 18 = .ok (.lcmp, 1) := by decide +kernel
theorem dX5_runScript_19 : decode cX5_runScript 19 = .ok (.ifCond .eq 14, 3) := by decide +kernel
theorem dX5_runScript_22 : decode cX5_runScript 22 = .ok (.new 115, 3) := by decide +kernel
theorem dX5_runScript_25 : decode cX5_runScript 25 = .ok (.dup, 1) := by decide +kernel
theorem dX5_runScript_26 : decode cX5_runScript 26 = .ok (.ldc_w 288, 3) := by decide +kernel
theorem dX5_runScript_29 : decode cX5_runScript 29 = .ok (.invokespecial 119, 3) := by decide +kernel
theorem dX5_runScript_32 : decode cX5_runScript 32 = .ok (.athrow, 1) := by decide +kernel
theorem dX5_runScript_33 : decode cX5_runScript 33 = .ok (.aload_n 0, 1) := by decide +kernel
theorem dX5_runScript_34 : decode cX5_runScript 34 = .ok (.getfield 33, 3) := by decide +kernel
theorem dX5_runScript_37 : decode cX5_runScript 37 = .ok (.aload_n 0, 1) := by decide +kernel
theorem dX5_runScript_38 : decode cX5_runScript 38 = .ok (.getfield 19, 3) := by decide +kernel
theorem dX5_runScript_41 : decode cX5_runScript 41 = .ok (.invokevirtual 273, 3) := by decide +kernel
theorem dX5_runScript_44 : decode cX5_runScript 44 = .ok (.aload_n 0, 1) := by decide +kernel
theorem dX5_runScript_45 : decode cX5_runScript 45 = .ok (.getfield 33, 3) := by decide +kernel
theorem dX5_runScript_48 : decode cX5_runScript 48 = .ok (.iload_n 1, 1) := by decide +kernel
theorem dX5_runScript_49 : decode cX5_runScript 49 = .ok (.lload_n 2, 1) := by decide +kernel
theorem dX5_runScript_50 : decode cX5_runScript 50 = .ok (.aload_n 0, 1) := by decide +kernel
theorem dX5_runScript_51 : decode cX5_runScript 51 = .ok (.getfield 26, 3) := by decide +kernel
theorem dX5_runScript_54 : decode cX5_runScript 54 = .ok (.invokevirtual 290, 3) := by decide +kernel
theorem dX5_runScript_57 : decode cX5_runScript 57 = .ok (.ireturn, 1) := by decide +kernel
set_option maxRecDepth 20000 in
theorem ggX5_simulate_X5_needRange : GoodIn wsX5_simulate wsX5_needRange := goodIn_ca (goodIn_r _ [7, 8, 9] (by decide +kernel) (by decide +kernel)) (goodIn_sub (fun _ h => List.mem_cons_of_mem _ (List.mem_append_right _ h)) (by decide +kernel))
set_option maxRecDepth 20000 in
theorem gX5_simulate_X5_needRange : GoodIn wsX5_simulate (va_wsS RX5 52 yX5_needRange wsX5_needRange) := goodIn_app (goodIn_of _ (by decide +kernel)) ggX5_simulate_X5_needRange
set_option maxRecDepth 20000 in
theorem ggX5_simulate_X4_begin : GoodIn wsX5_simulate wsX4_begin := goodIn_r _ [14, 15, 16, 17, 18, 19, 20, 21, 22, 23, 24, 25, 26, 27, 28, 29, 30, 31, 32, 33, 34, 35, 36, 37, 38, 39, 40, 167, 168, 169, 170, 171, 172, 173, 174, 175, 176, 177, 178, 179, 180, 181, 182, 183, 184] (by decide +kernel) (by decide +kernel)
set_option maxRecDepth 20000 in
theorem gX5_simulate_X4_begin : GoodIn wsX5_simulate (wsV RX5 273 RX4 yX4_begin wsX4_begin) := goodIn_app (goodIn_of _ (by decide +kernel)) ggX5_simulate_X4_begin
set_option maxRecDepth 20000 in
theorem ggX5_simulate_X4_simulated : GoodIn wsX5_simulate wsX4_simulated := goodIn_r _ [44, 15, 45, 46, 47, 48, 49, 19, 50, 32, 51, 52, 53, 54, 31, 55, 56, 57, 58, 34, 59, 60, 61, 62, 35, 63, 64, 65, 13, 66, 67, 68, 69, 70, 28, 33, 71, 72, 73, 74, 75, 76, 77, 78, 23, 37, 79, 80, 81, 82, 83, 84, 85, 86, 27, 30, 87, 88, 89, 90, 91, 92, 93, 94, 95, 96, 97, 98, 99, 100, 101, 102, 103, 104, 105, 24, 21, 22, 106, 107, 108, 109, 110, 111, 112, 113, 114, 115, 116, 117, 118, 119, 120, 121, 122, 123, 124, 125, 126, 127, 128, 129, 130, 131, 132, 133, 134, 135, 136, 137, 138, 139, 140, 141, 142, 143, 144, 145, 146, 147, 148, 149, 150, 151, 152, 153, 154, 155, 36, 26, 29, 25, 156, 157, 158, 159, 167, 168, 169, 170, 171, 172, 173, 174, 175, 176, 177, 178, 179, 180, 181, 182, 183, 184, 185, 186, 187, 188, 189, 190] (by decide +kernel) (by decide +kernel)
set_option maxRecDepth 20000 in
theorem gX5_simulate_X4_simulated : GoodIn wsX5_simulate (wsV RX5 294 RX4 yX4_simulated wsX4_simulated) := goodIn_app (goodIn_of _ (by decide +kernel)) ggX5_simulate_X4_simulated
theorem dX5_simulate_0 : decode cX5_simulate 0 = .ok (.iload_n 3, 1) := by decide +kernel
theorem dX5_simulate_1 : decode cX5_simulate 1 = .ok (.iconst 1, 1) := by decide +kernel
theorem dX5_simulate_2 : decode cX5_simulate 2 = .ok (.bipush 40, 2) := by decide +kernel
theorem dX5_simulate_4 : decode cX5_simulate 4 = .ok (.invokestatic 52, 3) := by decide +kernel
theorem dX5_simulate_7 : decode cX5_simulate 7 = .ok (.aload_n 0, 1) := by decide +kernel
theorem dX5_simulate_8 : decode cX5_simulate 8 = .ok (.getfield 33, 3) := by decide +kernel
theorem dX5_simulate_11 : decode cX5_simulate 11 = .ok (.aload_n 0, 1) := by decide +kernel
theorem dX5_simulate_12 : decode cX5_simulate 12 = .ok (.getfield 19, 3) := by decide +kernel
theorem dX5_simulate_15 : decode cX5_simulate 15 = .ok (.invokevirtual 273, 3) := by decide +kernel
theorem dX5_simulate_18 : decode cX5_simulate 18 = .ok (.aload_n 0, 1) := by decide +kernel
theorem dX5_simulate_19 : decode cX5_simulate 19 = .ok (.getfield 33, 3) := by decide +kernel
theorem dX5_simulate_22 : decode cX5_simulate 22 = .ok (.lload_n 1, 1) := by decide +kernel
theorem dX5_simulate_23 : decode cX5_simulate 23 = .ok (.iload_n 3, 1) := by decide +kernel
theorem dX5_simulate_24 : decode cX5_simulate 24 = .ok (.aload_n 0, 1) := by decide +kernel
theorem dX5_simulate_25 : decode cX5_simulate 25 = .ok (.getfield 26, 3) := by decide +kernel
theorem dX5_simulate_28 : decode cX5_simulate 28 = .ok (.invokevirtual 294, 3) := by decide +kernel
theorem dX5_simulate_31 : decode cX5_simulate 31 = .ok (.ireturn, 1) := by decide +kernel
set_option maxRecDepth 20000 in
theorem ggX5_save_X5_needSlot : GoodIn wsX5_save wsX5_needSlot := goodIn_ca (goodIn_r _ [7, 8, 9] (by decide +kernel) (by decide +kernel)) (goodIn_sub (fun _ h => List.mem_cons_of_mem _ (List.mem_append_right _ h)) (by decide +kernel))
set_option maxRecDepth 20000 in
theorem gX5_save_X5_needSlot : GoodIn wsX5_save (va_wsS RX5 298 yX5_needSlot wsX5_needSlot) := goodIn_app (goodIn_of _ (by decide +kernel)) ggX5_save_X5_needSlot
set_option maxRecDepth 20000 in
theorem ggX5_save_X2_copyFrom : GoodIn wsX5_save wsX2_copyFrom := goodIn_r _ [14, 15, 16, 17, 18, 19, 20, 21, 22, 23, 24, 25, 26, 27, 28, 29, 30, 31, 32, 33, 13, 34, 46, 47, 48, 49, 50, 51, 52, 53, 54, 55, 56, 57, 58, 59, 60, 61, 62] (by decide +kernel) (by decide +kernel)
set_option maxRecDepth 20000 in
theorem gX5_save_X2_copyFrom : GoodIn wsX5_save (wsV RX5 301 RX2 yX2_copyFrom wsX2_copyFrom) := goodIn_app (goodIn_of _ (by decide +kernel)) ggX5_save_X2_copyFrom
set_option maxRecDepth 20000 in
theorem ggX5_save_X2_dayNow : GoodIn wsX5_save wsX2_dayNow := goodIn_r _ [38, 27, 46, 47, 48, 49, 50, 51, 52, 53, 54, 55, 56, 57, 58, 59, 60, 61, 62] (by decide +kernel) (by decide +kernel)
set_option maxRecDepth 20000 in
theorem gX5_save_X2_dayNow : GoodIn wsX5_save (wsV RX5 97 RX2 yX2_dayNow wsX2_dayNow) := goodIn_app (goodIn_of _ (by decide +kernel)) ggX5_save_X2_dayNow
theorem dX5_save_0 : decode cX5_save 0 = .ok (.iload_n 1, 1) := by decide +kernel
theorem dX5_save_1 : decode cX5_save 1 = .ok (.invokestatic 298, 3) := by decide +kernel
theorem dX5_save_4 : decode cX5_save 4 = .ok (.aload_n 0, 1) := by decide +kernel
theorem dX5_save_5 : decode cX5_save 5 = .ok (.getfield 44, 3) := by decide +kernel
theorem dX5_save_8 : decode cX5_save 8 = .ok (.iload_n 1, 1) := by decide +kernel
theorem dX5_save_9 : decode cX5_save 9 = .ok (.aaload, 1) := by decide +kernel
theorem dX5_save_10 : decode cX5_save 10 = .ok (.aload_n 0, 1) := by decide +kernel
theorem dX5_save_11 : decode cX5_save 11 = .ok (.getfield 19, 3) := by decide +kernel
theorem dX5_save_14 : decode cX5_save 14 = .ok (.invokevirtual 301, 3) := by decide +kernel
theorem dX5_save_17 : decode cX5_save 17 = .ok (.aload_n 0, 1) := by decide +kernel
theorem dX5_save_18 : decode cX5_save 18 = .ok (.getfield 48, 3) := by decide +kernel
theorem dX5_save_21 : decode cX5_save 21 = .ok (.iload_n 1, 1) := by decide +kernel
theorem dX5_save_22 : decode cX5_save 22 = .ok (.iconst 1, 1) := by decide +kernel
theorem dX5_save_23 : decode cX5_save 23 = .ok (.bastore, 1) := by decide +kernel
theorem dX5_save_24 : decode cX5_save 24 = .ok (.aload_n 0, 1) := by decide +kernel
theorem dX5_save_25 : decode cX5_save 25 = .ok (.getfield 19, 3) := by decide +kernel
theorem dX5_save_28 : decode cX5_save 28 = .ok (.invokevirtual 97, 3) := by decide +kernel
theorem dX5_save_31 : decode cX5_save 31 = .ok (.ireturn, 1) := by decide +kernel
set_option maxRecDepth 20000 in
theorem ggX5_restore_X5_needSlot : GoodIn wsX5_restore wsX5_needSlot := goodIn_ca (goodIn_r _ [10, 11, 12] (by decide +kernel) (by decide +kernel)) (goodIn_sub (fun _ h => List.mem_cons_of_mem _ (List.mem_append_right _ h)) (by decide +kernel))
set_option maxRecDepth 20000 in
theorem gX5_restore_X5_needSlot : GoodIn wsX5_restore (va_wsS RX5 298 yX5_needSlot wsX5_needSlot) := goodIn_app (goodIn_of _ (by decide +kernel)) ggX5_restore_X5_needSlot
set_option maxRecDepth 20000 in
theorem ggX5_restore_X2_copyFrom : GoodIn wsX5_restore wsX2_copyFrom := goodIn_r _ [17, 18, 19, 20, 21, 22, 23, 24, 25, 26, 27, 28, 29, 30, 31, 32, 33, 34, 35, 36, 16, 37, 55, 56, 57, 58, 59, 60, 61, 62, 63, 64, 65, 66, 67, 68, 69, 70, 71] (by decide +kernel) (by decide +kernel)
set_option maxRecDepth 20000 in
theorem gX5_restore_X2_copyFrom : GoodIn wsX5_restore (wsV RX5 301 RX2 yX2_copyFrom wsX2_copyFrom) := goodIn_app (goodIn_of _ (by decide +kernel)) ggX5_restore_X2_copyFrom
set_option maxRecDepth 20000 in
theorem ggX5_restore_X1_forget : GoodIn wsX5_restore wsX1_forget := goodIn_r _ [42, 43, 72, 73, 74] (by decide +kernel) (by decide +kernel)
set_option maxRecDepth 20000 in
theorem gX5_restore_X1_forget : GoodIn wsX5_restore (wsV RX5 84 RX1 yX1_forget wsX1_forget) := goodIn_app (goodIn_of _ (by decide +kernel)) ggX5_restore_X1_forget
set_option maxRecDepth 20000 in
theorem ggX5_restore_X2_dayNow : GoodIn wsX5_restore wsX2_dayNow := goodIn_r _ [47, 30, 55, 56, 57, 58, 59, 60, 61, 62, 63, 64, 65, 66, 67, 68, 69, 70, 71] (by decide +kernel) (by decide +kernel)
set_option maxRecDepth 20000 in
theorem gX5_restore_X2_dayNow : GoodIn wsX5_restore (wsV RX5 97 RX2 yX2_dayNow wsX2_dayNow) := goodIn_app (goodIn_of _ (by decide +kernel)) ggX5_restore_X2_dayNow
theorem dX5_restore_0 : decode cX5_restore 0 = .ok (.iload_n 1, 1) := by decide +kernel
theorem dX5_restore_1 : decode cX5_restore 1 = .ok (.invokestatic 298, 3) := by decide +kernel
theorem dX5_restore_4 : decode cX5_restore 4 = .ok (.aload_n 0, 1) := by decide +kernel
theorem dX5_restore_5 : decode cX5_restore 5 = .ok (.getfield 48, 3) := by decide +kernel
theorem dX5_restore_8 : decode cX5_restore 8 = .ok (.iload_n 1, 1) := by decide +kernel
theorem dX5_restore_9 : decode cX5_restore 9 = .ok (.baload, 1) := by decide +kernel
theorem dX5_restore_10 : decode cX5_restore 10 = .ok (.ifCond .ne 14, 3) := by decide +kernel
theorem dX5_restore_13 : decode cX5_restore 13 = .ok (.new 60, 3) := by decide +kernel
theorem dX5_restore_16 : decode cX5_restore 16 = .ok (.dup, 1) := by decide +kernel
theorem dX5_restore_17 : decode cX5_restore 17 = .ok (.ldc_w 304, 3) := by decide +kernel
theorem dX5_restore_20 : decode cX5_restore 20 = .ok (.invokespecial 64, 3) := by decide +kernel
theorem dX5_restore_23 : decode cX5_restore 23 = .ok (.athrow, 1) := by decide +kernel
theorem dX5_restore_24 : decode cX5_restore 24 = .ok (.aload_n 0, 1) := by decide +kernel
theorem dX5_restore_25 : decode cX5_restore 25 = .ok (.getfield 19, 3) := by decide +kernel
theorem dX5_restore_28 : decode cX5_restore 28 = .ok (.aload_n 0, 1) := by decide +kernel
theorem dX5_restore_29 : decode cX5_restore 29 = .ok (.getfield 44, 3) := by decide +kernel
theorem dX5_restore_32 : decode cX5_restore 32 = .ok (.iload_n 1, 1) := by decide +kernel
theorem dX5_restore_33 : decode cX5_restore 33 = .ok (.aaload, 1) := by decide +kernel
theorem dX5_restore_34 : decode cX5_restore 34 = .ok (.invokevirtual 301, 3) := by decide +kernel
theorem dX5_restore_37 : decode cX5_restore 37 = .ok (.aload_n 0, 1) := by decide +kernel
theorem dX5_restore_38 : decode cX5_restore 38 = .ok (.getfield 40, 3) := by decide +kernel
theorem dX5_restore_41 : decode cX5_restore 41 = .ok (.invokevirtual 84, 3) := by decide +kernel
theorem dX5_restore_44 : decode cX5_restore 44 = .ok (.aload_n 0, 1) := by decide +kernel
theorem dX5_restore_45 : decode cX5_restore 45 = .ok (.getfield 19, 3) := by decide +kernel
theorem dX5_restore_48 : decode cX5_restore 48 = .ok (.invokevirtual 97, 3) := by decide +kernel
theorem dX5_restore_51 : decode cX5_restore 51 = .ok (.ireturn, 1) := by decide +kernel
set_option maxRecDepth 20000 in
theorem ggX5_needRole_X2_hasRole : GoodIn wsX5_needRole wsX2_hasRole := goodIn_r _ [8, 9, 17, 18, 19, 20, 21, 22, 23, 24, 25, 26, 27, 28, 29, 30, 31, 32, 33] (by decide +kernel) (by decide +kernel)
set_option maxRecDepth 20000 in
theorem gX5_needRole_X2_hasRole : GoodIn wsX5_needRole (wsV RX5 306 RX2 yX2_hasRole wsX2_hasRole) := goodIn_app (goodIn_of _ (by decide +kernel)) ggX5_needRole_X2_hasRole
theorem dX5_needRole_0 : decode cX5_needRole 0 = .ok (.aload_n 0, 1) := by decide +kernel
theorem dX5_needRole_1 : decode cX5_needRole 1 = .ok (.getfield 19, 3) := by decide +kernel
theorem dX5_needRole_4 : decode cX5_needRole 4 = .ok (.iload_n 1, 1) := by decide +kernel
theorem dX5_needRole_5 : decode cX5_needRole 5 = .ok (.invokevirtual 306, 3) := by decide +kernel
theorem dX5_needRole_8 : decode cX5_needRole 8 = .ok (.ifCond .ne 14, 3) := by decide +kernel
theorem dX5_needRole_11 : decode cX5_needRole 11 = .ok (.new 309, 3) := by decide +kernel
theorem dX5_needRole_14 : decode cX5_needRole 14 = .ok (.dup, 1) := by decide +kernel
theorem dX5_needRole_15 : decode cX5_needRole 15 = .ok (.ldc_w 311, 3) := by decide +kernel
theorem dX5_needRole_18 : decode cX5_needRole 18 = .ok (.invokespecial 313, 3) := by decide +kernel
theorem dX5_needRole_21 : decode cX5_needRole 21 = .ok (.athrow, 1) := by decide +kernel
theorem dX5_needRole_22 : decode cX5_needRole 22 = .ok (.return_, 1) := by decide +kernel
set_option maxRecDepth 20000 in
theorem ggX5_needPlayer_X2_hasPlayer : GoodIn wsX5_needPlayer wsX2_hasPlayer := goodIn_r _ [8, 9, 17, 18, 19, 20, 21, 22, 23, 24, 25, 26, 27, 28, 29, 30, 31, 32, 33] (by decide +kernel) (by decide +kernel)
set_option maxRecDepth 20000 in
theorem gX5_needPlayer_X2_hasPlayer : GoodIn wsX5_needPlayer (wsV RX5 314 RX2 yX2_hasPlayer wsX2_hasPlayer) := goodIn_app (goodIn_of _ (by decide +kernel)) ggX5_needPlayer_X2_hasPlayer
theorem dX5_needPlayer_0 : decode cX5_needPlayer 0 = .ok (.aload_n 0, 1) := by decide +kernel
theorem dX5_needPlayer_1 : decode cX5_needPlayer 1 = .ok (.getfield 19, 3) := by decide +kernel
theorem dX5_needPlayer_4 : decode cX5_needPlayer 4 = .ok (.iload_n 1, 1) := by decide +kernel
theorem dX5_needPlayer_5 : decode cX5_needPlayer 5 = .ok (.invokevirtual 314, 3) := by decide +kernel
theorem dX5_needPlayer_8 : decode cX5_needPlayer 8 = .ok (.ifCond .ne 14, 3) := by decide +kernel
theorem dX5_needPlayer_11 : decode cX5_needPlayer 11 = .ok (.new 309, 3) := by decide +kernel
theorem dX5_needPlayer_14 : decode cX5_needPlayer 14 = .ok (.dup, 1) := by decide +kernel
theorem dX5_needPlayer_15 : decode cX5_needPlayer 15 = .ok (.ldc_w 317, 3) := by decide +kernel
theorem dX5_needPlayer_18 : decode cX5_needPlayer 18 = .ok (.invokespecial 313, 3) := by decide +kernel
theorem dX5_needPlayer_21 : decode cX5_needPlayer 21 = .ok (.athrow, 1) := by decide +kernel
theorem dX5_needPlayer_22 : decode cX5_needPlayer 22 = .ok (.return_, 1) := by decide +kernel
set_option maxRecDepth 20000 in
theorem ggX5_needSomeRole_X2_roleCount : GoodIn wsX5_needSomeRole wsX2_roleCount := goodIn_r _ [8, 9, 17, 18, 19, 20, 21, 22, 23, 24, 25, 26, 27, 28, 29, 30, 31, 32, 33] (by decide +kernel) (by decide +kernel)
set_option maxRecDepth 20000 in
theorem gX5_needSomeRole_X2_roleCount : GoodIn wsX5_needSomeRole (wsV RX5 91 RX2 yX2_roleCount wsX2_roleCount) := goodIn_app (goodIn_of _ (by decide +kernel)) ggX5_needSomeRole_X2_roleCount
theorem dX5_needSomeRole_0 : decode cX5_needSomeRole 0 = .ok (.aload_n 0, 1) := by decide +kernel
theorem dX5_needSomeRole_1 : decode cX5_needSomeRole 1 = .ok (.getfield 19, 3) := by decide +kernel
theorem dX5_needSomeRole_4 : decode cX5_needSomeRole 4 = .ok (.invokevirtual 91, 3) := by decide +kernel
theorem dX5_needSomeRole_7 : decode cX5_needSomeRole 7 = .ok (.ifCond .ne 13, 3) := by decide +kernel
theorem dX5_needSomeRole_10 : decode cX5_needSomeRole 10 = .ok (.new 60, 3) := by decide +kernel
theorem dX5_needSomeRole_13 : decode cX5_needSomeRole 13 = .ok (.dup, 1) := by decide +kernel
theorem dX5_needSomeRole_14 : decode cX5_needSomeRole 14 = .ok (.ldc 223, 2) := by decide +kernel
theorem dX5_needSomeRole_16 : decode cX5_needSomeRole 16 = .ok (.invokespecial 64, 3) := by decide +kernel
theorem dX5_needSomeRole_19 : decode cX5_needSomeRole 19 = .ok (.athrow, 1) := by decide +kernel
theorem dX5_needSomeRole_20 : decode cX5_needSomeRole 20 = .ok (.return_, 1) := by decide +kernel
theorem dX5_needSlot_0 : decode cX5_needSlot 0 = .ok (.iload_n 0, 1) := by decide +kernel
theorem dX5_needSlot_1 : decode cX5_needSlot 1 = .ok (.ifCond .lt 8, 3) := by decide +kernel
theorem dX5_needSlot_4 : decode cX5_needSlot 4 = .ok (.iload_n 0, 1) := by decide +kernel
theorem dX5_needSlot_5 : decode cX5_needSlot 5 = .ok (.iconst 2, 1) := by decide +kernel
theorem dX5_needSlot_6 : decode cX5_needSlot 6 = .ok (.if_icmp .lt 14, 3) := by decide +kernel
theorem dX5_needSlot_9 : decode cX5_needSlot 9 = .ok (.new 309, 3) := by decide +kernel
theorem dX5_needSlot_12 : decode cX5_needSlot 12 = .ok (.dup, 1) := by decide +kernel
theorem dX5_needSlot_13 : decode cX5_needSlot 13 = .ok (.ldc_w 319, 3) := by decide +kernel
theorem dX5_needSlot_16 : decode cX5_needSlot 16 = .ok (.invokespecial 313, 3) := by decide +kernel
theorem dX5_needSlot_19 : decode cX5_needSlot 19 = .ok (.athrow, 1) := by decide +kernel
theorem dX5_needSlot_20 : decode cX5_needSlot 20 = .ok (.return_, 1) := by decide +kernel
theorem dX5_needRange_0 : decode cX5_needRange 0 = .ok (.iload_n 0, 1) := by decide +kernel
theorem dX5_needRange_1 : decode cX5_needRange 1 = .ok (.iload_n 1, 1) := by decide +kernel
theorem dX5_needRange_2 : decode cX5_needRange 2 = .ok (.if_icmp .lt 8, 3) := by decide +kernel
theorem dX5_needRange_5 : decode cX5_needRange 5 = .ok (.iload_n 0, 1) := by decide +kernel
theorem dX5_needRange_6 : decode cX5_needRange 6 = .ok (.iload_n 2, 1) := by decide +kernel
theorem dX5_needRange_7 : decode cX5_needRange 7 = .ok (.if_icmp .le 14, 3) := by decide +kernel
theorem dX5_needRange_10 : decode cX5_needRange 10 = .ok (.new 115, 3) := by decide +kernel
theorem dX5_needRange_13 : decode cX5_needRange 13 = .ok (.dup, 1) := by decide +kernel
theorem dX5_needRange_14 : decode cX5_needRange 14 = .ok (.ldc_w 321, 3) := by decide +kernel
theorem dX5_needRange_17 : decode cX5_needRange 17 = .ok (.invokespecial 119, 3) := by decide +kernel
theorem dX5_needRange_20 : decode cX5_needRange 20 = .ok (.athrow, 1) := by decide +kernel
theorem dX5_needRange_21 : decode cX5_needRange 21 = .ok (.return_, 1) := by decide +kernel
set_option maxRecDepth 20000 in
theorem ggX6_init_X6_begins : GoodIn wsX6_init wsX6_begins := goodIn_r _ [18, 19, 20, 17, 21] (by decide +kernel) (by decide +kernel)
set_option maxRecDepth 20000 in
theorem gX6_init_X6_begins : GoodIn wsX6_init (va_wsS RX6 38 yX6_begins wsX6_begins) := goodIn_app (goodIn_of _ (by decide +kernel)) ggX6_init_X6_begins
theorem dX6_init_0 : decode cX6_init 0 = .ok (.aload_n 0, 1) := by decide +kernel
theorem dX6_init_1 : decode cX6_init 1 = .ok (.invokespecial 1, 3) := by decide +kernel
theorem dX6_init_4 : decode cX6_init 4 = .ok (.aload_n 0, 1) := by decide +kernel
theorem dX6_init_5 : decode cX6_init 5 = .ok (.sipush 190, 3) := by decide +kernel
theorem dX6_init_8 : decode cX6_init 8 = .ok (.newarray .int, 2) := by decide +kernel
theorem dX6_init_10 : decode cX6_init 10 = .ok (.putfield 7, 3) := by decide +kernel
theorem dX6_init_13 : decode cX6_init 13 = .ok (.aload_n 0, 1) := by decide +kernel
theorem dX6_init_14 : decode cX6_init 14 = .ok (.sipush 190, 3) := by decide +kernel
theorem dX6_init_17 : decode cX6_init 17 = .ok (.newarray .int, 2) := by decide +kernel
theorem dX6_init_19 : decode cX6_init 19 = .ok (.putfield 13, 3) := by decide +kernel
theorem dX6_init_22 : decode cX6_init 22 = .ok (.aload_n 0, 1) := by decide +kernel
theorem dX6_init_23 : decode cX6_init 23 = .ok (.sipush 2660, 3) := by decide +kernel
theorem dX6_init_26 : decode cX6_init 26 = .ok (.newarray .int, 2) := by decide +kernel
theorem dX6_init_28 : decode cX6_init 28 = .ok (.putfield 16, 3) := by decide +kernel
theorem dX6_init_31 : decode cX6_init 31 = .ok (.aload_n 0, 1) := by decide +kernel
theorem dX6_init_32 : decode cX6_init 32 = .ok (.sipush 380, 3) := by decide +kernel
theorem dX6_init_35 : decode cX6_init 35 = .ok (.newarray .int, 2) := by decide +kernel
theorem dX6_init_37 : decode cX6_init 37 = .ok (.putfield 19, 3) := by decide +kernel
theorem dX6_init_40 : decode cX6_init 40 = .ok (.aload_n 0, 1) := by decide +kernel
theorem dX6_init_41 : decode cX6_init 41 = .ok (.iconst 2, 1) := by decide +kernel
theorem dX6_init_42 : decode cX6_init 42 = .ok (.newarray .boolean, 2) := by decide +kernel
theorem dX6_init_44 : decode cX6_init 44 = .ok (.putfield 22, 3) := by decide +kernel
theorem dX6_init_47 : decode cX6_init 47 = .ok (.aload_n 0, 1) := by decide +kernel
theorem dX6_init_48 : decode cX6_init 48 = .ok (.bipush 120, 2) := by decide +kernel
theorem dX6_init_50 : decode cX6_init 50 = .ok (.newarray .int, 2) := by decide +kernel
theorem dX6_init_52 : decode cX6_init 52 = .ok (.putfield 26, 3) := by decide +kernel
theorem dX6_init_55 : decode cX6_init 55 = .ok (.aload_n 0, 1) := by decide +kernel
theorem dX6_init_56 : decode cX6_init 56 = .ok (.sipush 1024, 3) := by decide +kernel
theorem dX6_init_59 : decode cX6_init 59 = .ok (.newarray .int, 2) := by decide +kernel
theorem dX6_init_61 : decode cX6_init 61 = .ok (.putfield 29, 3) := by decide +kernel
theorem dX6_init_64 : decode cX6_init 64 = .ok (.aload_n 0, 1) := by decide +kernel
theorem dX6_init_65 : decode cX6_init 65 = .ok (.bipush 6, 2) := by decide +kernel
theorem dX6_init_67 : decode cX6_init 67 = .ok (.newarray .int, 2) := by decide +kernel
theorem dX6_init_69 : decode cX6_init 69 = .ok (.putfield 32, 3) := by decide +kernel
theorem dX6_init_72 : decode cX6_init 72 = .ok (.aload_n 0, 1) := by decide +kernel
theorem dX6_init_73 : decode cX6_init 73 = .ok (.sipush 484, 3) := by decide +kernel
theorem dX6_init_76 : decode cX6_init 76 = .ok (.newarray .int, 2) := by decide +kernel
theorem dX6_init_78 : decode cX6_init 78 = .ok (.putfield 35, 3) := by decide +kernel
theorem dX6_init_81 : decode cX6_init 81 = .ok (.aload_n 0, 1) := by decide +kernel
theorem dX6_init_82 : decode cX6_init 82 = .ok (.getfield 7, 3) := by decide +kernel
theorem dX6_init_85 : decode cX6_init 85 = .ok (.invokestatic 38, 3) := by decide +kernel
theorem dX6_init_88 : decode cX6_init 88 = .ok (.return_, 1) := by decide +kernel
theorem dX6_thrown_0 : decode cX6_thrown 0 = .ok (.aload_n 0, 1) := by decide +kernel
theorem dX6_thrown_1 : decode cX6_thrown 1 = .ok (.getfield 42, 3) := by decide +kernel
theorem dX6_thrown_4 : decode cX6_thrown 4 = .ok (.ireturn, 1) := by decide +kernel
theorem dX6_fails_0 : decode cX6_fails 0 = .ok (.aload_n 0, 1) := by decide +kernel
theorem dX6_fails_1 : decode cX6_fails 1 = .ok (.iload_n 1, 1) := by decide +kernel
theorem dX6_fails_2 : decode cX6_fails 2 = .ok (.putfield 42, 3) := by decide +kernel
theorem dX6_fails_5 : decode cX6_fails 5 = .ok (.iconst 0, 1) := by decide +kernel
theorem dX6_fails_6 : decode cX6_fails 6 = .ok (.ireturn, 1) := by decide +kernel
theorem dX6_in_0 : decode cX6_in 0 = .ok (.iload_n 0, 1) := by decide +kernel
theorem dX6_in_1 : decode cX6_in 1 = .ok (.iload_n 1, 1) := by decide +kernel
theorem dX6_in_2 : decode cX6_in 2 = .ok (.if_icmp .lt 12, 3) := by decide +kernel
theorem dX6_in_5 : decode cX6_in 5 = .ok (.iload_n 0, 1) := by decide +kernel
theorem dX6_in_6 : decode cX6_in 6 = .ok (.iload_n 2, 1) := by decide +kernel
theorem dX6_in_7 : decode cX6_in 7 = .ok (.if_icmp .gt 7, 3) := by decide +kernel
theorem dX6_in_10 : decode cX6_in 10 = .ok (.iconst 1, 1) := by decide +kernel
theorem dX6_in_11 : decode cX6_in 11 = .ok (.goto 4, 3) := by decide +kernel
theorem dX6_in_14 : decode cX6_in 14 = .ok (.iconst 0, 1) := by decide +kernel
theorem dX6_in_15 : decode cX6_in 15 = .ok (.ireturn, 1) := by decide +kernel
set_option maxRecDepth 20000 in
theorem ggX6_begins_X6_in : GoodIn wsX6_begins wsX6_in := goodIn_r _ [4] (by decide +kernel) (by decide +kernel)
set_option maxRecDepth 20000 in
theorem gX6_begins_X6_in : GoodIn wsX6_begins (va_wsS RX6 46 yX6_in wsX6_in) := goodIn_app (goodIn_of _ (by decide +kernel)) ggX6_begins_X6_in
theorem dX6_begins_0 : decode cX6_begins 0 = .ok (.iconst 0, 1) := by decide +kernel
theorem dX6_begins_1 : decode cX6_begins 1 = .ok (.istore_n 1, 1) := by decide +kernel
theorem dX6_begins_2 : decode cX6_begins 2 = .ok (.iload_n 1, 1) := by decide +kernel
theorem dX6_begins_3 : decode cX6_begins 3 = .ok (.sipush 190, 3) := by decide +kernel
theorem dX6_begins_6 : decode cX6_begins 6 = .ok (.if_icmp .ge 28, 3) := by decide +kernel
theorem dX6_begins_9 : decode cX6_begins 9 = .ok (.aload_n 0, 1) := by decide +kernel
theorem dX6_begins_10 : decode cX6_begins 10 = .ok (.iload_n 1, 1) := by decide +kernel
theorem dX6_begins_11 : decode cX6_begins 11 = .ok (.iload_n 1, 1) := by decide +kernel
theorem dX6_begins_12 : decode cX6_begins 12 = .ok (.bipush 18, 2) := by decide +kernel
theorem dX6_begins_14 : decode cX6_begins 14 = .ok (.bipush 23, 2) := by decide +kernel
theorem dX6_begins_16 : decode cX6_begins 16 = .ok (.invokestatic 46, 3) := by decide +kernel
theorem dX6_begins_19 : decode cX6_begins 19 = .ok (.ifCond .eq 7, 3) := by decide +kernel
theorem dX6_begins_22 : decode cX6_begins 22 = .ok (.iconst (-1), 1) := by decide +kernel
theorem dX6_begins_23 : decode cX6_begins 23 = .ok (.goto 4, 3) := by decide +kernel
theorem dX6_begins_26 : decode cX6_begins 26 = .ok (.iconst 0, 1) := by decide +kernel
theorem dX6_begins_27 : decode cX6_begins 27 = .ok (.iastore, 1) := by decide +kernel
theorem dX6_begins_28 : decode cX6_begins 28 = .ok (.iinc 1 1, 3) := by decide +kernel
theorem dX6_begins_31 : decode cX6_begins 31 = .ok (.goto (-29), 3) := by decide +kernel
theorem dX6_begins_34 : decode cX6_begins 34 = .ok (.aload_n 0, 1) := by decide +kernel
theorem dX6_begins_35 : decode cX6_begins 35 = .ok (.iconst 5, 1) := by decide +kernel
theorem dX6_begins_36 : decode cX6_begins 36 = .ok (.iconst 5, 1) := by decide +kernel
theorem dX6_begins_37 : decode cX6_begins 37 = .ok (.iastore, 1) := by decide +kernel
theorem dX6_begins_38 : decode cX6_begins 38 = .ok (.aload_n 0, 1) := by decide +kernel
theorem dX6_begins_39 : decode cX6_begins 39 = .ok (.bipush 6, 2) := by decide +kernel
theorem dX6_begins_41 : decode cX6_begins 41 = .ok (.bipush 10, 2) := by decide +kernel
theorem dX6_begins_43 : decode cX6_begins 43 = .ok (.iastore, 1) := by decide +kernel
theorem dX6_begins_44 : decode cX6_begins 44 = .ok (.aload_n 0, 1) := by decide +kernel
theorem dX6_begins_45 : decode cX6_begins 45 = .ok (.bipush 7, 2) := by decide +kernel
theorem dX6_begins_47 : decode cX6_begins 47 = .ok (.iconst 2, 1) := by decide +kernel
theorem dX6_begins_48 : decode cX6_begins 48 = .ok (.iastore, 1) := by decide +kernel
theorem dX6_begins_49 : decode cX6_begins 49 = .ok (.aload_n 0, 1) := by decide +kernel
theorem dX6_begins_50 : decode cX6_begins 50 = .ok (.bipush 8, 2) := by decide +kernel
theorem dX6_begins_52 : decode cX6_begins 52 = .ok (.iconst 5, 1) := by decide +kernel
theorem dX6_begins_53 : decode cX6_begins 53 = .ok (.iastore, 1) := by decide +kernel
theorem dX6_begins_54 : decode cX6_begins 54 = .ok (.aload_n 0, 1) := by decide +kernel
theorem dX6_begins_55 : decode cX6_begins 55 = .ok (.bipush 9, 2) := by decide +kernel
theorem dX6_begins_57 : decode cX6_begins 57 = .ok (.bipush 15, 2) := by decide +kernel
theorem dX6_begins_59 : decode cX6_begins 59 = .ok (.iastore, 1) := by decide +kernel
theorem dX6_begins_60 : decode cX6_begins 60 = .ok (.return_, 1) := by decide +kernel
set_option maxRecDepth 20000 in
theorem ggX6_isRole_X6_in : GoodIn wsX6_isRole wsX6_in := goodIn_r _ [4] (by decide +kernel) (by decide +kernel)
set_option maxRecDepth 20000 in
theorem gX6_isRole_X6_in : GoodIn wsX6_isRole (va_wsS RX6 46 yX6_in wsX6_in) := goodIn_app (goodIn_of _ (by decide +kernel)) ggX6_isRole_X6_in
theorem dX6_isRole_0 : decode cX6_isRole 0 = .ok (.iload_n 1, 1) := by decide +kernel
theorem dX6_isRole_1 : decode cX6_isRole 1 = .ok (.iconst 0, 1) := by decide +kernel
theorem dX6_isRole_2 : decode cX6_isRole 2 = .ok (.aload_n 0, 1) := by decide +kernel
theorem dX6_isRole_3 : decode cX6_isRole 3 = .ok (.iconst 3, 1) := by decide +kernel
theorem dX6_isRole_4 : decode cX6_isRole 4 = .ok (.iaload, 1) := by decide +kernel
theorem dX6_isRole_5 : decode cX6_isRole 5 = .ok (.iconst 1, 1) := by decide +kernel
theorem dX6_isRole_6 : decode cX6_isRole 6 = .ok (.isub, 1) := by decide +kernel
theorem dX6_isRole_7 : decode cX6_isRole 7 = .ok (.invokestatic 46, 3) := by decide +kernel
theorem dX6_isRole_10 : decode cX6_isRole 10 = .ok (.ireturn, 1) := by decide +kernel
set_option maxRecDepth 20000 in
theorem ggX6_isPlayer_X6_in : GoodIn wsX6_isPlayer wsX6_in := goodIn_r _ [4] (by decide +kernel) (by decide +kernel)
set_option maxRecDepth 20000 in
theorem gX6_isPlayer_X6_in : GoodIn wsX6_isPlayer (va_wsS RX6 46 yX6_in wsX6_in) := goodIn_app (goodIn_of _ (by decide +kernel)) ggX6_isPlayer_X6_in
theorem dX6_isPlayer_0 : decode cX6_isPlayer 0 = .ok (.iload_n 1, 1) := by decide +kernel
theorem dX6_isPlayer_1 : decode cX6_isPlayer 1 = .ok (.iconst 0, 1) := by decide +kernel
theorem dX6_isPlayer_2 : decode cX6_isPlayer 2 = .ok (.aload_n 0, 1) := by decide +kernel
theorem dX6_isPlayer_3 : decode cX6_isPlayer 3 = .ok (.iconst 4, 1) := by decide +kernel
theorem dX6_isPlayer_4 : decode cX6_isPlayer 4 = .ok (.iaload, 1) := by decide +kernel
theorem dX6_isPlayer_5 : decode cX6_isPlayer 5 = .ok (.iconst 1, 1) := by decide +kernel
theorem dX6_isPlayer_6 : decode cX6_isPlayer 6 = .ok (.isub, 1) := by decide +kernel
theorem dX6_isPlayer_7 : decode cX6_isPlayer 7 = .ok (.invokestatic 46, 3) := by decide +kernel
theorem dX6_isPlayer_10 : decode cX6_isPlayer 10 = .ok (.ireturn, 1) := by decide +kernel
theorem dX6_lays_0 : decode cX6_lays 0 = .ok (.iconst 0, 1) := by decide +kernel
theorem dX6_lays_1 : decode cX6_lays 1 = .ok (.istore 4, 2) := by decide +kernel
theorem dX6_lays_3 : decode cX6_lays 3 = .ok (.iload 4, 2) := by decide +kernel
theorem dX6_lays_5 : decode cX6_lays 5 = .ok (.sipush 190, 3) := by decide +kernel
theorem dX6_lays_8 : decode cX6_lays 8 = .ok (.if_icmp .ge 21, 3) := by decide +kernel
theorem dX6_lays_11 : decode cX6_lays 11 = .ok (.aload_n 2, 1) := by decide +kernel
theorem dX6_lays_12 : decode cX6_lays 12 = .ok (.iload_n 3, 1) := by decide +kernel
theorem dX6_lays_13 : decode cX6_lays 13 = .ok (.iload 4, 2) := by decide +kernel
theorem dX6_lays_15 : decode cX6_lays 15 = .ok (.iadd, 1) := by decide +kernel
theorem dX6_lays_16 : decode cX6_lays 16 = .ok (.aload_n 0, 1) := by decide +kernel
theorem dX6_lays_17 : decode cX6_lays 17 = .ok (.iload_n 1, 1) := by decide +kernel
theorem dX6_lays_18 : decode cX6_lays 18 = .ok (.iload 4, 2) := by decide +kernel
theorem dX6_lays_20 : decode cX6_lays 20 = .ok (.iadd, 1) := by decide +kernel
theorem dX6_lays_21 : decode cX6_lays 21 = .ok (.iaload, 1) := by decide +kernel
theorem dX6_lays_22 : decode cX6_lays 22 = .ok (.iastore, 1) := by decide +kernel
theorem dX6_lays_23 : decode cX6_lays 23 = .ok (.iinc 4 1, 3) := by decide +kernel
theorem dX6_lays_26 : decode cX6_lays 26 = .ok (.goto (-23), 3) := by decide +kernel
theorem dX6_lays_29 : decode cX6_lays 29 = .ok (.return_, 1) := by decide +kernel
set_option maxRecDepth 20000 in
theorem ggX6_remembers_X6_lays : GoodIn wsX6_remembers wsX6_lays := goodIn_r _ [7] (by decide +kernel) (by decide +kernel)
set_option maxRecDepth 20000 in
theorem gX6_remembers_X6_lays : GoodIn wsX6_remembers (va_wsS RX6 53 yX6_lays wsX6_lays) := goodIn_app (goodIn_of _ (by decide +kernel)) ggX6_remembers_X6_lays
theorem dX6_remembers_0 : decode cX6_remembers 0 = .ok (.aload_n 0, 1) := by decide +kernel
theorem dX6_remembers_1 : decode cX6_remembers 1 = .ok (.getfield 50, 3) := by decide +kernel
theorem dX6_remembers_4 : decode cX6_remembers 4 = .ok (.bipush 14, 2) := by decide +kernel
theorem dX6_remembers_6 : decode cX6_remembers 6 = .ok (.if_icmp .ne 44, 3) := by decide +kernel
theorem dX6_remembers_9 : decode cX6_remembers 9 = .ok (.iconst 0, 1) := by decide +kernel
theorem dX6_remembers_10 : decode cX6_remembers 10 = .ok (.istore_n 1, 1) := by decide +kernel
theorem dX6_remembers_11 : decode cX6_remembers 11 = .ok (.iload_n 1, 1) := by decide +kernel
theorem dX6_remembers_12 : decode cX6_remembers 12 = .ok (.sipush 2470, 3) := by decide +kernel
theorem dX6_remembers_15 : decode cX6_remembers 15 = .ok (.if_icmp .ge 25, 3) := by decide +kernel
theorem dX6_remembers_18 : decode cX6_remembers 18 = .ok (.aload_n 0, 1) := by decide +kernel
theorem dX6_remembers_19 : decode cX6_remembers 19 = .ok (.getfield 16, 3) := by decide +kernel
theorem dX6_remembers_22 : decode cX6_remembers 22 = .ok (.iload_n 1, 1) := by decide +kernel
theorem dX6_remembers_23 : decode cX6_remembers 23 = .ok (.aload_n 0, 1) := by decide +kernel
theorem dX6_remembers_24 : decode cX6_remembers 24 = .ok (.getfield 16, 3) := by decide +kernel
theorem dX6_remembers_27 : decode cX6_remembers 27 = .ok (.iload_n 1, 1) := by decide +kernel
theorem dX6_remembers_28 : decode cX6_remembers 28 = .ok (.sipush 190, 3) := by decide +kernel
theorem dX6_remembers_31 : decode cX6_remembers 31 = .ok (.iadd, 1) := by decide +kernel
theorem dX6_remembers_32 : decode cX6_remembers 32 = .ok (.iaload, 1) := by decide +kernel
theorem dX6_remembers_33 : decode cX6_remembers 33 = .ok (.iastore, 1) := by decide +kernel
theorem dX6_remembers_34 : decode cX6_remembers 34 = .ok (.iinc 1 1, 3) := by decide +kernel
theorem dX6_remembers_37 : decode cX6_remembers 37 = .ok (.goto (-26), 3) := by decide +kernel
theorem dX6_remembers_40 : decode cX6_remembers 40 = .ok (.aload_n 0, 1) := by decide +kernel
theorem dX6_remembers_41 : decode cX6_remembers 41 = .ok (.dup, 1) := by decide +kernel
theorem dX6_remembers_42 : decode cX6_remembers 42 = .ok (.getfield 50, 3) := by decide +kernel
theorem dX6_remembers_45 : decode cX6_remembers 45 = .ok (.iconst 1, 1) := by decide +kernel
theorem dX6_remembers_46 : decode cX6_remembers 46 = .ok (.isub, 1) := by decide +kernel
theorem dX6_remembers_47 : decode cX6_remembers 47 = .ok (.putfield 50, 3) := by decide +kernel
theorem dX6_remembers_50 : decode cX6_remembers 50 = .ok (.aload_n 0, 1) := by decide +kernel
theorem dX6_remembers_51 : decode cX6_remembers 51 = .ok (.getfield 7, 3) := by decide +kernel
theorem dX6_remembers_54 : decode cX6_remembers 54 = .ok (.iconst 0, 1) := by decide +kernel
theorem dX6_remembers_55 : decode cX6_remembers 55 = .ok (.aload_n 0, 1) := by decide +kernel
theorem dX6_remembers_56 : decode cX6_remembers 56 = .ok (.getfield 16, 3) := by decide +kernel
theorem dX6_remembers_59 : decode cX6_remembers 59 = .ok (.sipush 190, 3) := by decide +kernel
theorem dX6_remembers_62 : decode cX6_remembers 62 = .ok (.aload_n 0, 1) := by decide +kernel
theorem dX6_remembers_63 : decode cX6_remembers 63 = .ok (.getfield 50, 3) := by decide +kernel
theorem dX6_remembers_66 : decode cX6_remembers 66 = .ok (.imul, 1) := by decide +kernel
theorem dX6_remembers_67 : decode cX6_remembers 67 = .ok (.invokestatic 53, 3) := by decide +kernel
theorem dX6_remembers_70 : decode cX6_remembers 70 = .ok (.aload_n 0, 1) := by decide +kernel
theorem dX6_remembers_71 : decode cX6_remembers 71 = .ok (.dup, 1) := by decide +kernel
theorem dX6_remembers_72 : decode cX6_remembers 72 = .ok (.getfield 50, 3) := by decide +kernel
theorem dX6_remembers_75 : decode cX6_remembers 75 = .ok (.iconst 1, 1) := by decide +kernel
theorem dX6_remembers_76 : decode cX6_remembers 76 = .ok (.iadd, 1) := by decide +kernel
theorem dX6_remembers_77 : decode cX6_remembers 77 = .ok (.putfield 50, 3) := by decide +kernel
theorem dX6_remembers_80 : decode cX6_remembers 80 = .ok (.return_, 1) := by decide +kernel
set_option maxRecDepth 20000 in
theorem ggX6_undo_X6_fails : GoodIn wsX6_undo wsX6_fails := goodIn_r _ [9, 1, 13, 14, 15, 16, 17, 18, 19, 20, 21, 22, 23, 24, 25, 26] (by decide +kernel) (by decide +kernel)
set_option maxRecDepth 20000 in
theorem gX6_undo_X6_fails : GoodIn wsX6_undo (wsV RX6 57 RX6 yX6_fails wsX6_fails) := goodIn_app (goodIn_of _ (by decide +kernel)) ggX6_undo_X6_fails
set_option maxRecDepth 20000 in
theorem ggX6_undo_X6_lays : GoodIn wsX6_undo wsX6_lays := goodIn_r _ [12] (by decide +kernel) (by decide +kernel)
set_option maxRecDepth 20000 in
theorem gX6_undo_X6_lays : GoodIn wsX6_undo (va_wsS RX6 53 yX6_lays wsX6_lays) := goodIn_app (goodIn_of _ (by decide +kernel)) ggX6_undo_X6_lays
theorem dX6_undo_0 : decode cX6_undo 0 = .ok (.aload_n 0, 1) := by decide +kernel
theorem dX6_undo_1 : decode cX6_undo 1 = .ok (.iconst 0, 1) := by decide +kernel
theorem dX6_undo_2 : decode cX6_undo 2 = .ok (.putfield 42, 3) := by decide +kernel
theorem dX6_undo_5 : decode cX6_undo 5 = .ok (.aload_n 0, 1) := by decide +kernel
theorem dX6_undo_6 : decode cX6_undo 6 = .ok (.getfield 50, 3) := by decide +kernel
theorem dX6_undo_9 : decode cX6_undo 9 = .ok (.ifCond .ne 9, 3) := by decide +kernel
theorem dX6_undo_12 : decode cX6_undo 12 = .ok (.aload_n 0, 1) := by decide +kernel
theorem dX6_undo_13 : decode cX6_undo 13 = .ok (.iconst 1, 1) := by decide +kernel
theorem dX6_undo_14 : decode cX6_undo 14 = .ok (.invokevirtual 57, 3) := by decide +kernel
theorem dX6_undo_17 : decode cX6_undo 17 = .ok (.ireturn, 1) := by decide +kernel
theorem dX6_undo_18 : decode cX6_undo 18 = .ok (.aload_n 0, 1) := by decide +kernel
theorem dX6_undo_19 : decode cX6_undo 19 = .ok (.dup, 1) := by decide +kernel
theorem dX6_undo_20 : decode cX6_undo 20 = .ok (.getfield 50, 3) := by decide +kernel
theorem dX6_undo_23 : decode cX6_undo 23 = .ok (.iconst 1, 1) := by decide +kernel
theorem dX6_undo_24 : decode cX6_undo 24 = .ok (.isub, 1) := by decide +kernel
theorem dX6_undo_25 : decode cX6_undo 25 = .ok (.putfield 50, 3) := by decide +kernel
theorem dX6_undo_28 : decode cX6_undo 28 = .ok (.aload_n 0, 1) := by decide +kernel
theorem dX6_undo_29 : decode cX6_undo 29 = .ok (.getfield 16, 3) := by decide +kernel
theorem dX6_undo_32 : decode cX6_undo 32 = .ok (.sipush 190, 3) := by decide +kernel
theorem dX6_undo_35 : decode cX6_undo 35 = .ok (.aload_n 0, 1) := by decide +kernel
theorem dX6_undo_36 : decode cX6_undo 36 = .ok (.getfield 50, 3) := by decide +kernel
theorem dX6_undo_39 : decode cX6_undo 39 = .ok (.imul, 1) := by decide +kernel
theorem dX6_undo_40 : decode cX6_undo 40 = .ok (.aload_n 0, 1) := by decide +kernel
theorem dX6_undo_41 : decode cX6_undo 41 = .ok (.getfield 7, 3) := by decide +kernel
theorem dX6_undo_44 : decode cX6_undo 44 = .ok (.iconst 0, 1) := by decide +kernel
theorem dX6_undo_45 : decode cX6_undo 45 = .ok (.invokestatic 53, 3) := by decide +kernel
theorem dX6_undo_48 : decode cX6_undo 48 = .ok (.aload_n 0, 1) := by decide +kernel
theorem dX6_undo_49 : decode cX6_undo 49 = .ok (.getfield 50, 3) := by decide +kernel
theorem dX6_undo_52 : decode cX6_undo 52 = .ok (.ireturn, 1) := by decide +kernel
set_option maxRecDepth 20000 in
theorem ggX6_save_X6_in : GoodIn wsX6_save wsX6_in := goodIn_r _ [8] (by decide +kernel) (by decide +kernel)
set_option maxRecDepth 20000 in
theorem gX6_save_X6_in : GoodIn wsX6_save (va_wsS RX6 46 yX6_in wsX6_in) := goodIn_app (goodIn_of _ (by decide +kernel)) ggX6_save_X6_in
set_option maxRecDepth 20000 in
theorem ggX6_save_X6_fails : GoodIn wsX6_save wsX6_fails := goodIn_r _ [12, 1, 16, 17, 18, 19, 20, 21, 22, 23, 24, 25, 26, 27, 28, 29] (by decide +kernel) (by decide +kernel)
set_option maxRecDepth 20000 in
theorem gX6_save_X6_fails : GoodIn wsX6_save (wsV RX6 57 RX6 yX6_fails wsX6_fails) := goodIn_app (goodIn_of _ (by decide +kernel)) ggX6_save_X6_fails
set_option maxRecDepth 20000 in
theorem ggX6_save_X6_lays : GoodIn wsX6_save wsX6_lays := goodIn_r _ [15] (by decide +kernel) (by decide +kernel)
set_option maxRecDepth 20000 in
theorem gX6_save_X6_lays : GoodIn wsX6_save (va_wsS RX6 53 yX6_lays wsX6_lays) := goodIn_app (goodIn_of _ (by decide +kernel)) ggX6_save_X6_lays
theorem dX6_save_0 : decode cX6_save 0 = .ok (.aload_n 0, 1) := by decide +kernel
theorem dX6_save_1 : decode cX6_save 1 = .ok (.iconst 0, 1) := by decide +kernel
theorem dX6_save_2 : decode cX6_save 2 = .ok (.putfield 42, 3) := by decide +kernel
theorem dX6_save_5 : decode cX6_save 5 = .ok (.iload_n 1, 1) := by decide +kernel
theorem dX6_save_6 : decode cX6_save 6 = .ok (.iconst 0, 1) := by decide +kernel
theorem dX6_save_7 : decode cX6_save 7 = .ok (.iconst 1, 1) := by decide +kernel
theorem dX6_save_8 : decode cX6_save 8 = .ok (.invokestatic 46, 3) := by decide +kernel
theorem dX6_save_11 : decode cX6_save 11 = .ok (.ifCond .ne 9, 3) := by decide +kernel
theorem dX6_save_14 : decode cX6_save 14 = .ok (.aload_n 0, 1) := by decide +kernel
theorem dX6_save_15 : decode cX6_save 15 = .ok (.iconst 1, 1) := by decide +kernel
theorem dX6_save_16 : decode cX6_save 16 = .ok (.invokevirtual 57, 3) := by decide +kernel
theorem dX6_save_19 : decode cX6_save 19 = .ok (.ireturn, 1) := by decide +kernel
theorem dX6_save_20 : decode cX6_save 20 = .ok (.aload_n 0, 1) := by decide +kernel
theorem dX6_save_21 : decode cX6_save 21 = .ok (.getfield 7, 3) := by decide +kernel
theorem dX6_save_24 : decode cX6_save 24 = .ok (.iconst 0, 1) := by decide +kernel
theorem dX6_save_25 : decode cX6_save 25 = .ok (.aload_n 0, 1) := by decide +kernel
theorem dX6_save_26 : decode cX6_save 26 = .ok (.getfield 19, 3) := by decide +kernel
theorem dX6_save_29 : decode cX6_save 29 = .ok (.sipush 190, 3) := by decide +kernel
theorem dX6_save_32 : decode cX6_save 32 = .ok (.iload_n 1, 1) := by decide +kernel
theorem dX6_save_33 : decode cX6_save 33 = .ok (.imul, 1) := by decide +kernel
theorem dX6_save_34 : decode cX6_save 34 = .ok (.invokestatic 53, 3) := by decide +kernel
theorem dX6_save_37 : decode cX6_save 37 = .ok (.aload_n 0, 1) := by decide +kernel
theorem dX6_save_38 : decode cX6_save 38 = .ok (.getfield 22, 3) := by decide +kernel
theorem dX6_save_41 : decode cX6_save 41 = .ok (.iload_n 1, 1) := by decide +kernel
theorem dX6_save_42 : decode cX6_save 42 = .ok (.iconst 1, 1) := by decide +kernel
theorem dX6_save_43 : decode cX6_save 43 = .ok (.bastore, 1) := by decide +kernel
theorem dX6_save_44 : decode cX6_save 44 = .ok (.aload_n 0, 1) := by decide +kernel
theorem dX6_save_45 : decode cX6_save 45 = .ok (.getfield 7, 3) := by decide +kernel
theorem dX6_save_48 : decode cX6_save 48 = .ok (.iconst 0, 1) := by decide +kernel
theorem dX6_save_49 : decode cX6_save 49 = .ok (.iaload, 1) := by decide +kernel
theorem dX6_save_50 : decode cX6_save 50 = .ok (.ireturn, 1) := by decide +kernel
set_option maxRecDepth 20000 in
theorem ggX6_restore_X6_in : GoodIn wsX6_restore wsX6_in := goodIn_r _ [9] (by decide +kernel) (by decide +kernel)
set_option maxRecDepth 20000 in
theorem gX6_restore_X6_in : GoodIn wsX6_restore (va_wsS RX6 46 yX6_in wsX6_in) := goodIn_app (goodIn_of _ (by decide +kernel)) ggX6_restore_X6_in
set_option maxRecDepth 20000 in
theorem ggX6_restore_X6_fails : GoodIn wsX6_restore wsX6_fails := goodIn_r _ [13, 1, 17, 18, 19, 20, 21, 22, 23, 24, 25, 26, 27, 28, 29, 30] (by decide +kernel) (by decide +kernel)
set_option maxRecDepth 20000 in
theorem gX6_restore_X6_fails : GoodIn wsX6_restore (wsV RX6 57 RX6 yX6_fails wsX6_fails) := goodIn_app (goodIn_of _ (by decide +kernel)) ggX6_restore_X6_fails
set_option maxRecDepth 20000 in
theorem ggX6_restore_X6_lays : GoodIn wsX6_restore wsX6_lays := goodIn_r _ [16] (by decide +kernel) (by decide +kernel)
set_option maxRecDepth 20000 in
theorem gX6_restore_X6_lays : GoodIn wsX6_restore (va_wsS RX6 53 yX6_lays wsX6_lays) := goodIn_app (goodIn_of _ (by decide +kernel)) ggX6_restore_X6_lays
theorem dX6_restore_0 : decode cX6_restore 0 = .ok (.aload_n 0, 1) := by decide +kernel
theorem dX6_restore_1 : decode cX6_restore 1 = .ok (.iconst 0, 1) := by decide +kernel
theorem dX6_restore_2 : decode cX6_restore 2 = .ok (.putfield 42, 3) := by decide +kernel
theorem dX6_restore_5 : decode cX6_restore 5 = .ok (.iload_n 1, 1) := by decide +kernel
theorem dX6_restore_6 : decode cX6_restore 6 = .ok (.iconst 0, 1) := by decide +kernel
theorem dX6_restore_7 : decode cX6_restore 7 = .ok (.iconst 1, 1) := by decide +kernel
theorem dX6_restore_8 : decode cX6_restore 8 = .ok (.invokestatic 46, 3) := by decide +kernel
theorem dX6_restore_11 : decode cX6_restore 11 = .ok (.ifCond .ne 9, 3) := by decide +kernel
theorem dX6_restore_14 : decode cX6_restore 14 = .ok (.aload_n 0, 1) := by decide +kernel
theorem dX6_restore_15 : decode cX6_restore 15 = .ok (.iconst 1, 1) := by decide +kernel
theorem dX6_restore_16 : decode cX6_restore 16 = .ok (.invokevirtual 57, 3) := by decide +kernel
theorem dX6_restore_19 : decode cX6_restore 19 = .ok (.ireturn, 1) := by decide +kernel
theorem dX6_restore_20 : decode cX6_restore 20 = .ok (.aload_n 0, 1) := by decide +kernel
theorem dX6_restore_21 : decode cX6_restore 21 = .ok (.getfield 22, 3) := by decide +kernel
theorem dX6_restore_24 : decode cX6_restore 24 = .ok (.iload_n 1, 1) := by decide +kernel
theorem dX6_restore_25 : decode cX6_restore 25 = .ok (.baload, 1) := by decide +kernel
theorem dX6_restore_26 : decode cX6_restore 26 = .ok (.ifCond .ne 9, 3) := by decide +kernel
theorem dX6_restore_29 : decode cX6_restore 29 = .ok (.aload_n 0, 1) := by decide +kernel
theorem dX6_restore_30 : decode cX6_restore 30 = .ok (.iconst 2, 1) := by decide +kernel
theorem dX6_restore_31 : decode cX6_restore 31 = .ok (.invokevirtual 57, 3) := by decide +kernel
theorem dX6_restore_34 : decode cX6_restore 34 = .ok (.ireturn, 1) := by decide +kernel
theorem dX6_restore_35 : decode cX6_restore 35 = .ok (.aload_n 0, 1) := by decide +kernel
theorem dX6_restore_36 : decode cX6_restore 36 = .ok (.getfield 19, 3) := by decide +kernel
theorem dX6_restore_39 : decode cX6_restore 39 = .ok (.sipush 190, 3) := by decide +kernel
theorem dX6_restore_42 : decode cX6_restore 42 = .ok (.iload_n 1, 1) := by decide +kernel
theorem dX6_restore_43 : decode cX6_restore 43 = .ok (.imul, 1) := by decide +kernel
theorem dX6_restore_44 : decode cX6_restore 44 = .ok (.aload_n 0, 1) := by decide +kernel
theorem dX6_restore_45 : decode cX6_restore 45 = .ok (.getfield 7, 3) := by decide +kernel
theorem dX6_restore_48 : decode cX6_restore 48 = .ok (.iconst 0, 1) := by decide +kernel
theorem dX6_restore_49 : decode cX6_restore 49 = .ok (.invokestatic 53, 3) := by decide +kernel
theorem dX6_restore_52 : decode cX6_restore 52 = .ok (.aload_n 0, 1) := by decide +kernel
theorem dX6_restore_53 : decode cX6_restore 53 = .ok (.iconst 0, 1) := by decide +kernel
theorem dX6_restore_54 : decode cX6_restore 54 = .ok (.putfield 50, 3) := by decide +kernel
theorem dX6_restore_57 : decode cX6_restore 57 = .ok (.aload_n 0, 1) := by decide +kernel
theorem dX6_restore_58 : decode cX6_restore 58 = .ok (.getfield 7, 3) := by decide +kernel
theorem dX6_restore_61 : decode cX6_restore 61 = .ok (.iconst 0, 1) := by decide +kernel
theorem dX6_restore_62 : decode cX6_restore 62 = .ok (.iaload, 1) := by decide +kernel
theorem dX6_restore_63 : decode cX6_restore 63 = .ok (.ireturn, 1) := by decide +kernel
theorem dX6_readyFor_0 : decode cX6_readyFor 0 = .ok (.aload_n 0, 1) := by decide +kernel
theorem dX6_readyFor_1 : decode cX6_readyFor 1 = .ok (.bipush 70, 2) := by decide +kernel
theorem dX6_readyFor_3 : decode cX6_readyFor 3 = .ok (.bipush 6, 2) := by decide +kernel
theorem dX6_readyFor_5 : decode cX6_readyFor 5 = .ok (.iload_n 1, 1) := by decide +kernel
theorem dX6_readyFor_6 : decode cX6_readyFor 6 = .ok (.imul, 1) := by decide +kernel
theorem dX6_readyFor_7 : decode cX6_readyFor 7 = .ok (.iadd, 1) := by decide +kernel
theorem dX6_readyFor_8 : decode cX6_readyFor 8 = .ok (.iload_n 2, 1) := by decide +kernel
theorem dX6_readyFor_9 : decode cX6_readyFor 9 = .ok (.iadd, 1) := by decide +kernel
theorem dX6_readyFor_10 : decode cX6_readyFor 10 = .ok (.iaload, 1) := by decide +kernel
theorem dX6_readyFor_11 : decode cX6_readyFor 11 = .ok (.ireturn, 1) := by decide +kernel
set_option maxRecDepth 20000 in
theorem ggX6_worth_X6_readyFor : GoodIn wsX6_worth wsX6_readyFor := goodIn_r _ [4] (by decide +kernel) (by decide +kernel)
set_option maxRecDepth 20000 in
theorem gX6_worth_X6_readyFor : GoodIn wsX6_worth (va_wsS RX6 61 yX6_readyFor wsX6_readyFor) := goodIn_app (goodIn_of _ (by decide +kernel)) ggX6_worth_X6_readyFor
theorem dX6_worth_0 : decode cX6_worth 0 = .ok (.aload_n 0, 1) := by decide +kernel
theorem dX6_worth_1 : decode cX6_worth 1 = .ok (.iload_n 1, 1) := by decide +kernel
theorem dX6_worth_2 : decode cX6_worth 2 = .ok (.iload_n 2, 1) := by decide +kernel
theorem dX6_worth_3 : decode cX6_worth 3 = .ok (.invokestatic 61, 3) := by decide +kernel
theorem dX6_worth_6 : decode cX6_worth 6 = .ok (.istore_n 3, 1) := by decide +kernel
theorem dX6_worth_7 : decode cX6_worth 7 = .ok (.iload_n 3, 1) := by decide +kernel
theorem dX6_worth_8 : decode cX6_worth 8 = .ok (.ifCond .ne 7, 3) := by decide +kernel
theorem dX6_worth_11 : decode cX6_worth 11 = .ok (.iconst 0, 1) := by decide +kernel
theorem dX6_worth_12 : decode cX6_worth 12 = .ok (.goto 28, 3) := by decide +kernel
theorem dX6_worth_15 : decode cX6_worth 15 = .ok (.aload_n 0, 1) := by decide +kernel
theorem dX6_worth_16 : decode cX6_worth 16 = .ok (.bipush 12, 2) := by decide +kernel
theorem dX6_worth_18 : decode cX6_worth 18 = .ok (.iload_n 2, 1) := by decide +kernel
theorem dX6_worth_19 : decode cX6_worth 19 = .ok (.iadd, 1) := by decide +kernel
theorem dX6_worth_20 : decode cX6_worth 20 = .ok (.iaload, 1) := by decide +kernel
theorem dX6_worth_21 : decode cX6_worth 21 = .ok (.aload_n 0, 1) := by decide +kernel
theorem dX6_worth_22 : decode cX6_worth 22 = .ok (.bipush 18, 2) := by decide +kernel
theorem dX6_worth_24 : decode cX6_worth 24 = .ok (.iload_n 2, 1) := by decide +kernel
theorem dX6_worth_25 : decode cX6_worth 25 = .ok (.iadd, 1) := by decide +kernel
theorem dX6_worth_26 : decode cX6_worth 26 = .ok (.iaload, 1) := by decide +kernel
theorem dX6_worth_27 : decode cX6_worth 27 = .ok (.iload_n 1, 1) := by decide +kernel
theorem dX6_worth_28 : decode cX6_worth 28 = .ok (.if_icmp .ne 10, 3) := by decide +kernel
theorem dX6_worth_31 : decode cX6_worth 31 = .ok (.iload_n 3, 1) := by decide +kernel
theorem dX6_worth_32 : decode cX6_worth 32 = .ok (.bipush 10, 2) := by decide +kernel
theorem dX6_worth_34 : decode cX6_worth 34 = .ok (.iadd, 1) := by decide +kernel
theorem dX6_worth_35 : decode cX6_worth 35 = .ok (.goto 4, 3) := by decide +kernel
theorem dX6_worth_38 : decode cX6_worth 38 = .ok (.iload_n 3, 1) := by decide +kernel
theorem dX6_worth_39 : decode cX6_worth 39 = .ok (.imul, 1) := by decide +kernel
theorem dX6_worth_40 : decode cX6_worth 40 = .ok (.ireturn, 1) := by decide +kernel
theorem dX6_isFree_0 : decode cX6_isFree 0 = .ok (.aload_n 0, 1) := by decide +kernel
theorem dX6_isFree_1 : decode cX6_isFree 1 = .ok (.bipush 50, 2) := by decide +kernel
theorem dX6_isFree_3 : decode cX6_isFree 3 = .ok (.iload_n 1, 1) := by decide +kernel
theorem dX6_isFree_4 : decode cX6_isFree 4 = .ok (.iadd, 1) := by decide +kernel
theorem dX6_isFree_5 : decode cX6_isFree 5 = .ok (.iaload, 1) := by decide +kernel
theorem dX6_isFree_6 : decode cX6_isFree 6 = .ok (.aload_n 0, 1) := by decide +kernel
theorem dX6_isFree_7 : decode cX6_isFree 7 = .ok (.iconst 0, 1) := by decide +kernel
theorem dX6_isFree_8 : decode cX6_isFree 8 = .ok (.iaload, 1) := by decide +kernel
theorem dX6_isFree_9 : decode cX6_isFree 9 = .ok (.if_icmp .gt 19, 3) := by decide +kernel
theorem dX6_isFree_12 : decode cX6_isFree 12 = .ok (.aload_n 0, 1) := by decide +kernel
theorem dX6_isFree_13 : decode cX6_isFree 13 = .ok (.bipush 40, 2) := by decide +kernel
theorem dX6_isFree_15 : decode cX6_isFree 15 = .ok (.iload_n 1, 1) := by decide +kernel
theorem dX6_isFree_16 : decode cX6_isFree 16 = .ok (.iadd, 1) := by decide +kernel
theorem dX6_isFree_17 : decode cX6_isFree 17 = .ok (.iaload, 1) := by decide +kernel
theorem dX6_isFree_18 : decode cX6_isFree 18 = .ok (.aload_n 0, 1) := by decide +kernel
theorem dX6_isFree_19 : decode cX6_isFree 19 = .ok (.iconst 5, 1) := by decide +kernel
theorem dX6_isFree_20 : decode cX6_isFree 20 = .ok (.iaload, 1) := by decide +kernel
theorem dX6_isFree_21 : decode cX6_isFree 21 = .ok (.if_icmp .ge 7, 3) := by decide +kernel
theorem dX6_isFree_24 : decode cX6_isFree 24 = .ok (.iconst 1, 1) := by decide +kernel
theorem dX6_isFree_25 : decode cX6_isFree 25 = .ok (.goto 4, 3) := by decide +kernel
theorem dX6_isFree_28 : decode cX6_isFree 28 = .ok (.iconst 0, 1) := by decide +kernel
theorem dX6_isFree_29 : decode cX6_isFree 29 = .ok (.ireturn, 1) := by decide +kernel
set_option maxRecDepth 20000 in
theorem ggX6_canPlay_X6_isFree : GoodIn wsX6_canPlay wsX6_isFree := goodIn_r _ [4] (by decide +kernel) (by decide +kernel)
set_option maxRecDepth 20000 in
theorem gX6_canPlay_X6_isFree : GoodIn wsX6_canPlay (va_wsS RX6 65 yX6_isFree wsX6_isFree) := goodIn_app (goodIn_of _ (by decide +kernel)) ggX6_canPlay_X6_isFree
set_option maxRecDepth 20000 in
theorem ggX6_canPlay_X6_readyFor : GoodIn wsX6_canPlay wsX6_readyFor := goodIn_r _ [7] (by decide +kernel) (by decide +kernel)
set_option maxRecDepth 20000 in
theorem gX6_canPlay_X6_readyFor : GoodIn wsX6_canPlay (va_wsS RX6 61 yX6_readyFor wsX6_readyFor) := goodIn_app (goodIn_of _ (by decide +kernel)) ggX6_canPlay_X6_readyFor
theorem dX6_canPlay_0 : decode cX6_canPlay 0 = .ok (.aload_n 0, 1) := by decide +kernel
theorem dX6_canPlay_1 : decode cX6_canPlay 1 = .ok (.iload_n 1, 1) := by decide +kernel
theorem dX6_canPlay_2 : decode cX6_canPlay 2 = .ok (.invokestatic 65, 3) := by decide +kernel
theorem dX6_canPlay_5 : decode cX6_canPlay 5 = .ok (.ifCond .eq 16, 3) := by decide +kernel
theorem dX6_canPlay_8 : decode cX6_canPlay 8 = .ok (.aload_n 0, 1) := by decide +kernel
theorem dX6_canPlay_9 : decode cX6_canPlay 9 = .ok (.iload_n 1, 1) := by decide +kernel
theorem dX6_canPlay_10 : decode cX6_canPlay 10 = .ok (.iload_n 2, 1) := by decide +kernel
theorem dX6_canPlay_11 : decode cX6_canPlay 11 = .ok (.invokestatic 61, 3) := by decide +kernel
theorem dX6_canPlay_14 : decode cX6_canPlay 14 = .ok (.ifCond .le 7, 3) := by decide +kernel
theorem dX6_canPlay_17 : decode cX6_canPlay 17 = .ok (.iconst 1, 1) := by decide +kernel
theorem dX6_canPlay_18 : decode cX6_canPlay 18 = .ok (.goto 4, 3) := by decide +kernel
theorem dX6_canPlay_21 : decode cX6_canPlay 21 = .ok (.iconst 0, 1) := by decide +kernel
theorem dX6_canPlay_22 : decode cX6_canPlay 22 = .ok (.ireturn, 1) := by decide +kernel
theorem dX6_ones_0 : decode cX6_ones 0 = .ok (.iconst 0, 1) := by decide +kernel
theorem dX6_ones_1 : decode cX6_ones 1 = .ok (.istore_n 1, 1) := by decide +kernel
theorem dX6_ones_2 : decode cX6_ones 2 = .ok (.iload_n 0, 1) := by decide +kernel
theorem dX6_ones_3 : decode cX6_ones 3 = .ok (.istore_n 2, 1) := by decide +kernel
theorem dX6_ones_4 : decode cX6_ones 4 = .ok (.iload_n 2, 1) := by decide +kernel
