theorem dX2_isFree_7 : decode cX2_isFree 7 = .ok (.getfield 59, 3) := by decide +kernel
theorem dX2_isFree_10 : decode cX2_isFree 10 = .ok (.if_icmp .gt 22, 3) := by decide +kernel
theorem dX2_isFree_13 : decode cX2_isFree 13 = .ok (.aload_n 0, 1) := by decide +kernel
theorem dX2_isFree_14 : decode cX2_isFree 14 = .ok (.getfield 30, 3) := by decide +kernel
theorem dX2_isFree_17 : decode cX2_isFree 17 = .ok (.iload_n 1, 1) := by decide +kernel
theorem dX2_isFree_18 : decode cX2_isFree 18 = .ok (.iaload, 1) := by decide +kernel
theorem dX2_isFree_19 : decode cX2_isFree 19 = .ok (.aload_n 0, 1) := by decide +kernel
theorem dX2_isFree_20 : decode cX2_isFree 20 = .ok (.getfield 39, 3) := by decide +kernel
theorem dX2_isFree_23 : decode cX2_isFree 23 = .ok (.iconst 0, 1) := by decide +kernel
theorem dX2_isFree_24 : decode cX2_isFree 24 = .ok (.iaload, 1) := by decide +kernel
theorem dX2_isFree_25 : decode cX2_isFree 25 = .ok (.if_icmp .ge 7, 3) := by decide +kernel
theorem dX2_isFree_28 : decode cX2_isFree 28 = .ok (.iconst 1, 1) := by decide +kernel
theorem dX2_isFree_29 : decode cX2_isFree 29 = .ok (.goto 4, 3) := by decide +kernel
theorem dX2_isFree_32 : decode cX2_isFree 32 = .ok (.iconst 0, 1) := by decide +kernel
theorem dX2_isFree_33 : decode cX2_isFree 33 = .ok (.ireturn, 1) := by decide +kernel
set_option maxRecDepth 20000 in
theorem ggX2_freePlayers_X2_isFree : GoodIn wsX2_freePlayers wsX2_isFree := goodIn_r _ [6, 7, 8, 9, 10, 11, 12, 13, 14, 15, 16, 17, 18, 19, 20, 21, 22, 23, 24, 25, 26, 27] (by decide +kernel) (by decide +kernel)
set_option maxRecDepth 20000 in
theorem gX2_freePlayers_X2_isFree : GoodIn wsX2_freePlayers (wsV RX2 79 RX2 yX2_isFree wsX2_isFree) := goodIn_app (goodIn_of _ (by decide +kernel)) ggX2_freePlayers_X2_isFree
theorem dX2_freePlayers_0 : decode cX2_freePlayers 0 = .ok (.iconst 0, 1) := by decide +kernel
theorem dX2_freePlayers_1 : decode cX2_freePlayers 1 = .ok (.istore_n 1, 1) := by decide +kernel
theorem dX2_freePlayers_2 : decode cX2_freePlayers 2 = .ok (.iconst 0, 1) := by decide +kernel
theorem dX2_freePlayers_3 : decode cX2_freePlayers 3 = .ok (.istore_n 2, 1) := by decide +kernel
theorem dX2_freePlayers_4 : decode cX2_freePlayers 4 = .ok (.iload_n 2, 1) := by decide +kernel
theorem dX2_freePlayers_5 : decode cX2_freePlayers 5 = .ok (.aload_n 0, 1) := by decide +kernel
theorem dX2_freePlayers_6 : decode cX2_freePlayers 6 = .ok (.getfield 56, 3) := by decide +kernel
theorem dX2_freePlayers_9 : decode cX2_freePlayers 9 = .ok (.if_icmp .ge 23, 3) := by decide +kernel
theorem dX2_freePlayers_12 : decode cX2_freePlayers 12 = .ok (.aload_n 0, 1) := by decide +kernel
theorem dX2_freePlayers_13 : decode cX2_freePlayers 13 = .ok (.iload_n 2, 1) := by decide +kernel
theorem dX2_freePlayers_14 : decode cX2_freePlayers 14 = .ok (.invokevirtual 79, 3) := by decide +kernel
theorem dX2_freePlayers_17 : decode cX2_freePlayers 17 = .ok (.ifCond .eq 9, 3) := by decide +kernel
theorem dX2_freePlayers_20 : decode cX2_freePlayers 20 = .ok (.iload_n 1, 1) := by decide +kernel
theorem dX2_freePlayers_21 : decode cX2_freePlayers 21 = .ok (.iconst 1, 1) := by decide +kernel
theorem dX2_freePlayers_22 : decode cX2_freePlayers 22 = .ok (.iload_n 2, 1) := by decide +kernel
theorem dX2_freePlayers_23 : decode cX2_freePlayers 23 = .ok (.ishl, 1) := by decide +kernel
theorem dX2_freePlayers_24 : decode cX2_freePlayers 24 = .ok (.ior, 1) := by decide +kernel
theorem dX2_freePlayers_25 : decode cX2_freePlayers 25 = .ok (.istore_n 1, 1) := by decide +kernel
theorem dX2_freePlayers_26 : decode cX2_freePlayers 26 = .ok (.iinc 2 1, 3) := by decide +kernel
theorem dX2_freePlayers_29 : decode cX2_freePlayers 29 = .ok (.goto (-25), 3) := by decide +kernel
theorem dX2_freePlayers_32 : decode cX2_freePlayers 32 = .ok (.iload_n 1, 1) := by decide +kernel
theorem dX2_freePlayers_33 : decode cX2_freePlayers 33 = .ok (.ireturn, 1) := by decide +kernel
set_option maxRecDepth 20000 in
theorem ggX2_freePlayersBut_X2_freePlayers : GoodIn wsX2_freePlayersBut wsX2_freePlayers := goodIn_r _ [5, 6, 7, 8, 9, 4, 10, 11, 12, 13, 14, 15, 16, 17, 18, 19, 20, 21, 22, 23, 24, 25, 26, 27, 28, 29, 30, 31] (by decide +kernel) (by decide +kernel)
set_option maxRecDepth 20000 in
theorem gX2_freePlayersBut_X2_freePlayers : GoodIn wsX2_freePlayersBut (wsV RX2 92 RX2 yX2_freePlayers wsX2_freePlayers) := goodIn_app (goodIn_of _ (by decide +kernel)) ggX2_freePlayersBut_X2_freePlayers
theorem dX2_freePlayersBut_0 : decode cX2_freePlayersBut 0 = .ok (.aload_n 0, 1) := by decide +kernel
theorem dX2_freePlayersBut_1 : decode cX2_freePlayersBut 1 = .ok (.invokevirtual 92, 3) := by decide +kernel
theorem dX2_freePlayersBut_4 : decode cX2_freePlayersBut 4 = .ok (.iconst 1, 1) := by decide +kernel
theorem dX2_freePlayersBut_5 : decode cX2_freePlayersBut 5 = .ok (.iload_n 1, 1) := by decide +kernel
theorem dX2_freePlayersBut_6 : decode cX2_freePlayersBut 6 = .ok (.ishl, 1) := by decide +kernel
theorem dX2_freePlayersBut_7 : decode cX2_freePlayersBut 7 = .ok (.iconst (-1), 1) := by decide +kernel
theorem dX2_freePlayersBut_8 : decode cX2_freePlayersBut 8 = .ok (.ixor, 1) := by decide +kernel
theorem dX2_freePlayersBut_9 : decode cX2_freePlayersBut 9 = .ok (.iand, 1) := by decide +kernel
theorem dX2_freePlayersBut_10 : decode cX2_freePlayersBut 10 = .ok (.ireturn, 1) := by decide +kernel
set_option maxRecDepth 20000 in
theorem ggX2_degreeOf_X2_cell : GoodIn wsX2_degreeOf wsX2_cell := goodIn_r _ [5] (by decide +kernel) (by decide +kernel)
set_option maxRecDepth 20000 in
theorem gX2_degreeOf_X2_cell : GoodIn wsX2_degreeOf (va_wsS RX2 83 yX2_cell wsX2_cell) := goodIn_app (goodIn_of _ (by decide +kernel)) ggX2_degreeOf_X2_cell
theorem dX2_degreeOf_0 : decode cX2_degreeOf 0 = .ok (.aload_n 0, 1) := by decide +kernel
theorem dX2_degreeOf_1 : decode cX2_degreeOf 1 = .ok (.getfield 21, 3) := by decide +kernel
theorem dX2_degreeOf_4 : decode cX2_degreeOf 4 = .ok (.iload_n 1, 1) := by decide +kernel
theorem dX2_degreeOf_5 : decode cX2_degreeOf 5 = .ok (.iload_n 2, 1) := by decide +kernel
theorem dX2_degreeOf_6 : decode cX2_degreeOf 6 = .ok (.invokestatic 83, 3) := by decide +kernel
theorem dX2_degreeOf_9 : decode cX2_degreeOf 9 = .ok (.iaload, 1) := by decide +kernel
theorem dX2_degreeOf_10 : decode cX2_degreeOf 10 = .ok (.ireturn, 1) := by decide +kernel
set_option maxRecDepth 20000 in
theorem ggX2_timesOf_X2_cell : GoodIn wsX2_timesOf wsX2_cell := goodIn_r _ [5] (by decide +kernel) (by decide +kernel)
set_option maxRecDepth 20000 in
theorem gX2_timesOf_X2_cell : GoodIn wsX2_timesOf (va_wsS RX2 83 yX2_cell wsX2_cell) := goodIn_app (goodIn_of _ (by decide +kernel)) ggX2_timesOf_X2_cell
theorem dX2_timesOf_0 : decode cX2_timesOf 0 = .ok (.aload_n 0, 1) := by decide +kernel
theorem dX2_timesOf_1 : decode cX2_timesOf 1 = .ok (.getfield 24, 3) := by decide +kernel
theorem dX2_timesOf_4 : decode cX2_timesOf 4 = .ok (.iload_n 1, 1) := by decide +kernel
theorem dX2_timesOf_5 : decode cX2_timesOf 5 = .ok (.iload_n 2, 1) := by decide +kernel
theorem dX2_timesOf_6 : decode cX2_timesOf 6 = .ok (.invokestatic 83, 3) := by decide +kernel
theorem dX2_timesOf_9 : decode cX2_timesOf 9 = .ok (.iaload, 1) := by decide +kernel
theorem dX2_timesOf_10 : decode cX2_timesOf 10 = .ok (.ireturn, 1) := by decide +kernel
set_option maxRecDepth 20000 in
theorem ggX2_worthOf_X2_cell : GoodIn wsX2_worthOf wsX2_cell := goodIn_r _ [7] (by decide +kernel) (by decide +kernel)
set_option maxRecDepth 20000 in
theorem gX2_worthOf_X2_cell : GoodIn wsX2_worthOf (va_wsS RX2 83 yX2_cell wsX2_cell) := goodIn_app (goodIn_of _ (by decide +kernel)) ggX2_worthOf_X2_cell
theorem dX2_worthOf_0 : decode cX2_worthOf 0 = .ok (.aload_n 0, 1) := by decide +kernel
theorem dX2_worthOf_1 : decode cX2_worthOf 1 = .ok (.getfield 21, 3) := by decide +kernel
theorem dX2_worthOf_4 : decode cX2_worthOf 4 = .ok (.iload_n 1, 1) := by decide +kernel
theorem dX2_worthOf_5 : decode cX2_worthOf 5 = .ok (.iload_n 2, 1) := by decide +kernel
theorem dX2_worthOf_6 : decode cX2_worthOf 6 = .ok (.invokestatic 83, 3) := by decide +kernel
theorem dX2_worthOf_9 : decode cX2_worthOf 9 = .ok (.iaload, 1) := by decide +kernel
theorem dX2_worthOf_10 : decode cX2_worthOf 10 = .ok (.istore_n 3, 1) := by decide +kernel
theorem dX2_worthOf_11 : decode cX2_worthOf 11 = .ok (.iload_n 3, 1) := by decide +kernel
theorem dX2_worthOf_12 : decode cX2_worthOf 12 = .ok (.ifCond .ne 5, 3) := by decide +kernel
theorem dX2_worthOf_15 : decode cX2_worthOf 15 = .ok (.iconst 0, 1) := by decide +kernel
theorem dX2_worthOf_16 : decode cX2_worthOf 16 = .ok (.ireturn, 1) := by decide +kernel
theorem dX2_worthOf_17 : decode cX2_worthOf 17 = .ok (.aload_n 0, 1) := by decide +kernel
theorem dX2_worthOf_18 : decode cX2_worthOf 18 = .ok (.getfield 9, 3) := by decide +kernel
theorem dX2_worthOf_21 : decode cX2_worthOf 21 = .ok (.iload_n 2, 1) := by decide +kernel
theorem dX2_worthOf_22 : decode cX2_worthOf 22 = .ok (.iaload, 1) := by decide +kernel
theorem dX2_worthOf_23 : decode cX2_worthOf 23 = .ok (.aload_n 0, 1) := by decide +kernel
theorem dX2_worthOf_24 : decode cX2_worthOf 24 = .ok (.getfield 15, 3) := by decide +kernel
theorem dX2_worthOf_27 : decode cX2_worthOf 27 = .ok (.iload_n 2, 1) := by decide +kernel
theorem dX2_worthOf_28 : decode cX2_worthOf 28 = .ok (.iaload, 1) := by decide +kernel
theorem dX2_worthOf_29 : decode cX2_worthOf 29 = .ok (.iload_n 1, 1) := by decide +kernel
theorem dX2_worthOf_30 : decode cX2_worthOf 30 = .ok (.if_icmp .ne 10, 3) := by decide +kernel
theorem dX2_worthOf_33 : decode cX2_worthOf 33 = .ok (.iload_n 3, 1) := by decide +kernel
theorem dX2_worthOf_34 : decode cX2_worthOf 34 = .ok (.bipush 10, 2) := by decide +kernel
theorem dX2_worthOf_36 : decode cX2_worthOf 36 = .ok (.iadd, 1) := by decide +kernel
theorem dX2_worthOf_37 : decode cX2_worthOf 37 = .ok (.goto 4, 3) := by decide +kernel
theorem dX2_worthOf_40 : decode cX2_worthOf 40 = .ok (.iload_n 3, 1) := by decide +kernel
theorem dX2_worthOf_41 : decode cX2_worthOf 41 = .ok (.imul, 1) := by decide +kernel
theorem dX2_worthOf_42 : decode cX2_worthOf 42 = .ok (.ireturn, 1) := by decide +kernel
theorem dX2_settingOf_0 : decode cX2_settingOf 0 = .ok (.aload_n 0, 1) := by decide +kernel
theorem dX2_settingOf_1 : decode cX2_settingOf 1 = .ok (.getfield 39, 3) := by decide +kernel
theorem dX2_settingOf_4 : decode cX2_settingOf 4 = .ok (.iload_n 1, 1) := by decide +kernel
theorem dX2_settingOf_5 : decode cX2_settingOf 5 = .ok (.iaload, 1) := by decide +kernel
theorem dX2_settingOf_6 : decode cX2_settingOf 6 = .ok (.ireturn, 1) := by decide +kernel
set_option maxRecDepth 20000 in
theorem ggX2_playerAtPlace_X2_placeOf : GoodIn wsX2_playerAtPlace wsX2_placeOf := goodIn_r _ [6, 1, 7, 8, 9, 10, 11, 12, 13, 14, 15, 16, 17, 18, 19, 20, 21, 22, 23, 24] (by decide +kernel) (by decide +kernel)
set_option maxRecDepth 20000 in
theorem gX2_playerAtPlace_X2_placeOf : GoodIn wsX2_playerAtPlace (wsV RX2 96 RX2 yX2_placeOf wsX2_placeOf) := goodIn_app (goodIn_of _ (by decide +kernel)) ggX2_playerAtPlace_X2_placeOf
theorem dX2_playerAtPlace_0 : decode cX2_playerAtPlace 0 = .ok (.iconst 0, 1) := by decide +kernel
theorem dX2_playerAtPlace_1 : decode cX2_playerAtPlace 1 = .ok (.istore_n 2, 1) := by decide +kernel
theorem dX2_playerAtPlace_2 : decode cX2_playerAtPlace 2 = .ok (.iload_n 2, 1) := by decide +kernel
theorem dX2_playerAtPlace_3 : decode cX2_playerAtPlace 3 = .ok (.aload_n 0, 1) := by decide +kernel
theorem dX2_playerAtPlace_4 : decode cX2_playerAtPlace 4 = .ok (.getfield 56, 3) := by decide +kernel
theorem dX2_playerAtPlace_7 : decode cX2_playerAtPlace 7 = .ok (.if_icmp .ge 20, 3) := by decide +kernel
theorem dX2_playerAtPlace_10 : decode cX2_playerAtPlace 10 = .ok (.aload_n 0, 1) := by decide +kernel
theorem dX2_playerAtPlace_11 : decode cX2_playerAtPlace 11 = .ok (.iload_n 2, 1) := by decide +kernel
theorem dX2_playerAtPlace_12 : decode cX2_playerAtPlace 12 = .ok (.invokevirtual 96, 3) := by decide +kernel
theorem dX2_playerAtPlace_15 : decode cX2_playerAtPlace 15 = .ok (.iload_n 1, 1) := by decide +kernel
theorem dX2_playerAtPlace_16 : decode cX2_playerAtPlace 16 = .ok (.if_icmp .ne 5, 3) := by decide +kernel
theorem dX2_playerAtPlace_19 : decode cX2_playerAtPlace 19 = .ok (.iload_n 2, 1) := by decide +kernel
theorem dX2_playerAtPlace_20 : decode cX2_playerAtPlace 20 = .ok (.ireturn, 1) := by decide +kernel
theorem dX2_playerAtPlace_21 : decode cX2_playerAtPlace 21 = .ok (.iinc 2 1, 3) := by decide +kernel
theorem dX2_playerAtPlace_24 : decode cX2_playerAtPlace 24 = .ok (.goto (-22), 3) := by decide +kernel
theorem dX2_playerAtPlace_27 : decode cX2_playerAtPlace 27 = .ok (.iconst (-1), 1) := by decide +kernel
theorem dX2_playerAtPlace_28 : decode cX2_playerAtPlace 28 = .ok (.ireturn, 1) := by decide +kernel
theorem dX2_placeOf_0 : decode cX2_placeOf 0 = .ok (.iconst 0, 1) := by decide +kernel
theorem dX2_placeOf_1 : decode cX2_placeOf 1 = .ok (.istore_n 2, 1) := by decide +kernel
theorem dX2_placeOf_2 : decode cX2_placeOf 2 = .ok (.iconst 0, 1) := by decide +kernel
theorem dX2_placeOf_3 : decode cX2_placeOf 3 = .ok (.istore_n 3, 1) := by decide +kernel
theorem dX2_placeOf_4 : decode cX2_placeOf 4 = .ok (.iload_n 3, 1) := by decide +kernel
theorem dX2_placeOf_5 : decode cX2_placeOf 5 = .ok (.aload_n 0, 1) := by decide +kernel
theorem dX2_placeOf_6 : decode cX2_placeOf 6 = .ok (.getfield 56, 3) := by decide +kernel
theorem dX2_placeOf_9 : decode cX2_placeOf 9 = .ok (.if_icmp .ge 47, 3) := by decide +kernel
theorem dX2_placeOf_12 : decode cX2_placeOf 12 = .ok (.aload_n 0, 1) := by decide +kernel
theorem dX2_placeOf_13 : decode cX2_placeOf 13 = .ok (.getfield 27, 3) := by decide +kernel
theorem dX2_placeOf_16 : decode cX2_placeOf 16 = .ok (.iload_n 3, 1) := by decide +kernel
theorem dX2_placeOf_17 : decode cX2_placeOf 17 = .ok (.iaload, 1) := by decide +kernel
theorem dX2_placeOf_18 : decode cX2_placeOf 18 = .ok (.aload_n 0, 1) := by decide +kernel
theorem dX2_placeOf_19 : decode cX2_placeOf 19 = .ok (.getfield 27, 3) := by decide +kernel
theorem dX2_placeOf_22 : decode cX2_placeOf 22 = .ok (.iload_n 1, 1) := by decide +kernel
theorem dX2_placeOf_23 : decode cX2_placeOf 23 = .ok (.iaload, 1) := by decide +kernel
theorem dX2_placeOf_24 : decode cX2_placeOf 24 = .ok (.if_icmp .gt 23, 3) := by decide +kernel
theorem dX2_placeOf_27 : decode cX2_placeOf 27 = .ok (.aload_n 0, 1) := by decide +kernel
theorem dX2_placeOf_28 : decode cX2_placeOf 28 = .ok (.getfield 27, 3) := by decide +kernel
theorem dX2_placeOf_31 : decode cX2_placeOf 31 = .ok (.iload_n 3, 1) := by decide +kernel
theorem dX2_placeOf_32 : decode cX2_placeOf 32 = .ok (.iaload, 1) := by decide +kernel
theorem dX2_placeOf_33 : decode cX2_placeOf 33 = .ok (.aload_n 0, 1) := by decide +kernel
theorem dX2_placeOf_34 : decode cX2_placeOf 34 = .ok (.getfield 27, 3) := by decide +kernel
theorem dX2_placeOf_37 : decode cX2_placeOf 37 = .ok (.iload_n 1, 1) := by decide +kernel
theorem dX2_placeOf_38 : decode cX2_placeOf 38 = .ok (.iaload, 1) := by decide +kernel
theorem dX2_placeOf_39 : decode cX2_placeOf 39 = .ok (.if_icmp .ne 11, 3) := by decide +kernel
theorem dX2_placeOf_42 : decode cX2_placeOf 42 = .ok (.iload_n 3, 1) := by decide +kernel
theorem dX2_placeOf_43 : decode cX2_placeOf 43 = .ok (.iload_n 1, 1) := by decide +kernel
theorem dX2_placeOf_44 : decode cX2_placeOf 44 = .ok (.if_icmp .ge 6, 3) := by decide +kernel
theorem dX2_placeOf_47 : decode cX2_placeOf 47 = .ok (.iinc 2 1, 3) := by decide +kernel
theorem dX2_placeOf_50 : decode cX2_placeOf 50 = .ok (.iinc 3 1, 3) := by decide +kernel
theorem dX2_placeOf_53 : decode cX2_placeOf 53 = .ok (.goto (-49), 3) := by decide +kernel
theorem dX2_placeOf_56 : decode cX2_placeOf 56 = .ok (.iload_n 2, 1) := by decide +kernel
theorem dX2_placeOf_57 : decode cX2_placeOf 57 = .ok (.ireturn, 1) := by decide +kernel
theorem dX2_takesRole_0 : decode cX2_takesRole 0 = .ok (.aload_n 0, 1) := by decide +kernel
theorem dX2_takesRole_1 : decode cX2_takesRole 1 = .ok (.getfield 52, 3) := by decide +kernel
theorem dX2_takesRole_4 : decode cX2_takesRole 4 = .ok (.bipush 6, 2) := by decide +kernel
theorem dX2_takesRole_6 : decode cX2_takesRole 6 = .ok (.if_icmp .ge 14, 3) := by decide +kernel
theorem dX2_takesRole_9 : decode cX2_takesRole 9 = .ok (.aload_n 0, 1) := by decide +kernel
theorem dX2_takesRole_10 : decode cX2_takesRole 10 = .ok (.getfield 71, 3) := by decide +kernel
theorem dX2_takesRole_13 : decode cX2_takesRole 13 = .ok (.ifCond .ne 7, 3) := by decide +kernel
theorem dX2_takesRole_16 : decode cX2_takesRole 16 = .ok (.iconst 1, 1) := by decide +kernel
theorem dX2_takesRole_17 : decode cX2_takesRole 17 = .ok (.goto 4, 3) := by decide +kernel
theorem dX2_takesRole_20 : decode cX2_takesRole 20 = .ok (.iconst 0, 1) := by decide +kernel
theorem dX2_takesRole_21 : decode cX2_takesRole 21 = .ok (.ireturn, 1) := by decide +kernel
theorem dX2_takesPlayer_0 : decode cX2_takesPlayer 0 = .ok (.aload_n 0, 1) := by decide +kernel
theorem dX2_takesPlayer_1 : decode cX2_takesPlayer 1 = .ok (.getfield 56, 3) := by decide +kernel
theorem dX2_takesPlayer_4 : decode cX2_takesPlayer 4 = .ok (.bipush 10, 2) := by decide +kernel
theorem dX2_takesPlayer_6 : decode cX2_takesPlayer 6 = .ok (.if_icmp .ge 7, 3) := by decide +kernel
theorem dX2_takesPlayer_9 : decode cX2_takesPlayer 9 = .ok (.iconst 1, 1) := by decide +kernel
theorem dX2_takesPlayer_10 : decode cX2_takesPlayer 10 = .ok (.goto 4, 3) := by decide +kernel
theorem dX2_takesPlayer_13 : decode cX2_takesPlayer 13 = .ok (.iconst 0, 1) := by decide +kernel
theorem dX2_takesPlayer_14 : decode cX2_takesPlayer 14 = .ok (.ireturn, 1) := by decide +kernel
set_option maxRecDepth 20000 in
theorem ggX2_putRole_X2_takesRole : GoodIn wsX2_putRole wsX2_takesRole := goodIn_r _ [7, 2, 8, 9, 10, 11, 12, 13, 14, 15, 16, 17, 18, 19, 20, 21, 22, 23, 24, 25] (by decide +kernel) (by decide +kernel)
set_option maxRecDepth 20000 in
theorem gX2_putRole_X2_takesRole : GoodIn wsX2_putRole (wsV RX2 100 RX2 yX2_takesRole wsX2_takesRole) := goodIn_app (goodIn_of _ (by decide +kernel)) ggX2_putRole_X2_takesRole
theorem dX2_putRole_0 : decode cX2_putRole 0 = .ok (.aload_n 0, 1) := by decide +kernel
theorem dX2_putRole_1 : decode cX2_putRole 1 = .ok (.invokevirtual 100, 3) := by decide +kernel
theorem dX2_putRole_4 : decode cX2_putRole 4 = .ok (.ifCond .ne 5, 3) := by decide +kernel
theorem dX2_putRole_7 : decode cX2_putRole 7 = .ok (.iconst 0, 1) := by decide +kernel
theorem dX2_putRole_8 : decode cX2_putRole 8 = .ok (.ireturn, 1) := by decide +kernel
theorem dX2_putRole_9 : decode cX2_putRole 9 = .ok (.aload_n 0, 1) := by decide +kernel
theorem dX2_putRole_10 : decode cX2_putRole 10 = .ok (.getfield 9, 3) := by decide +kernel
theorem dX2_putRole_13 : decode cX2_putRole 13 = .ok (.aload_n 0, 1) := by decide +kernel
theorem dX2_putRole_14 : decode cX2_putRole 14 = .ok (.getfield 52, 3) := by decide +kernel
theorem dX2_putRole_17 : decode cX2_putRole 17 = .ok (.iload_n 1, 1) := by decide +kernel
theorem dX2_putRole_18 : decode cX2_putRole 18 = .ok (.iastore, 1) := by decide +kernel
theorem dX2_putRole_19 : decode cX2_putRole 19 = .ok (.aload_n 0, 1) := by decide +kernel
theorem dX2_putRole_20 : decode cX2_putRole 20 = .ok (.dup, 1) := by decide +kernel
theorem dX2_putRole_21 : decode cX2_putRole 21 = .ok (.getfield 52, 3) := by decide +kernel
theorem dX2_putRole_24 : decode cX2_putRole 24 = .ok (.iconst 1, 1) := by decide +kernel
theorem dX2_putRole_25 : decode cX2_putRole 25 = .ok (.iadd, 1) := by decide +kernel
theorem dX2_putRole_26 : decode cX2_putRole 26 = .ok (.putfield 52, 3) := by decide +kernel
theorem dX2_putRole_29 : decode cX2_putRole 29 = .ok (.iconst 1, 1) := by decide +kernel
theorem dX2_putRole_30 : decode cX2_putRole 30 = .ok (.ireturn, 1) := by decide +kernel
set_option maxRecDepth 20000 in
theorem ggX2_putPlayer_X2_takesPlayer : GoodIn wsX2_putPlayer wsX2_takesPlayer := goodIn_r _ [6, 1, 7, 8, 9, 10, 11, 12, 13, 14, 15, 16, 17, 18, 19, 20, 21, 22, 23] (by decide +kernel) (by decide +kernel)
set_option maxRecDepth 20000 in
theorem gX2_putPlayer_X2_takesPlayer : GoodIn wsX2_putPlayer (wsV RX2 104 RX2 yX2_takesPlayer wsX2_takesPlayer) := goodIn_app (goodIn_of _ (by decide +kernel)) ggX2_putPlayer_X2_takesPlayer
theorem dX2_putPlayer_0 : decode cX2_putPlayer 0 = .ok (.aload_n 0, 1) := by decide +kernel
theorem dX2_putPlayer_1 : decode cX2_putPlayer 1 = .ok (.invokevirtual 104, 3) := by decide +kernel
theorem dX2_putPlayer_4 : decode cX2_putPlayer 4 = .ok (.ifCond .ne 5, 3) := by decide +kernel
theorem dX2_putPlayer_7 : decode cX2_putPlayer 7 = .ok (.iconst 0, 1) := by decide +kernel
theorem dX2_putPlayer_8 : decode cX2_putPlayer 8 = .ok (.ireturn, 1) := by decide +kernel
theorem dX2_putPlayer_9 : decode cX2_putPlayer 9 = .ok (.aload_n 0, 1) := by decide +kernel
theorem dX2_putPlayer_10 : decode cX2_putPlayer 10 = .ok (.dup, 1) := by decide +kernel
theorem dX2_putPlayer_11 : decode cX2_putPlayer 11 = .ok (.getfield 56, 3) := by decide +kernel
theorem dX2_putPlayer_14 : decode cX2_putPlayer 14 = .ok (.iconst 1, 1) := by decide +kernel
theorem dX2_putPlayer_15 : decode cX2_putPlayer 15 = .ok (.iadd, 1) := by decide +kernel
theorem dX2_putPlayer_16 : decode cX2_putPlayer 16 = .ok (.putfield 56, 3) := by decide +kernel
theorem dX2_putPlayer_19 : decode cX2_putPlayer 19 = .ok (.iconst 1, 1) := by decide +kernel
theorem dX2_putPlayer_20 : decode cX2_putPlayer 20 = .ok (.ireturn, 1) := by decide +kernel
set_option maxRecDepth 20000 in
theorem ggX2_putDegree_X2_hasPlayer : GoodIn wsX2_putDegree wsX2_hasPlayer := goodIn_r _ [6, 7, 16, 17, 18, 19, 20, 21, 22, 23, 24, 25, 26, 27, 28, 29, 30, 31, 32] (by decide +kernel) (by decide +kernel)
set_option maxRecDepth 20000 in
theorem gX2_putDegree_X2_hasPlayer : GoodIn wsX2_putDegree (wsV RX2 107 RX2 yX2_hasPlayer wsX2_hasPlayer) := goodIn_app (goodIn_of _ (by decide +kernel)) ggX2_putDegree_X2_hasPlayer
set_option maxRecDepth 20000 in
theorem ggX2_putDegree_X2_hasRole : GoodIn wsX2_putDegree wsX2_hasRole := goodIn_r _ [11, 12, 16, 17, 18, 19, 20, 21, 22, 23, 24, 25, 26, 27, 28, 29, 30, 31, 32] (by decide +kernel) (by decide +kernel)
set_option maxRecDepth 20000 in
theorem gX2_putDegree_X2_hasRole : GoodIn wsX2_putDegree (wsV RX2 110 RX2 yX2_hasRole wsX2_hasRole) := goodIn_app (goodIn_of _ (by decide +kernel)) ggX2_putDegree_X2_hasRole
set_option maxRecDepth 20000 in
theorem ggX2_putDegree_X2_cell : GoodIn wsX2_putDegree wsX2_cell := goodIn_r _ [15] (by decide +kernel) (by decide +kernel)
set_option maxRecDepth 20000 in
theorem gX2_putDegree_X2_cell : GoodIn wsX2_putDegree (va_wsS RX2 83 yX2_cell wsX2_cell) := goodIn_app (goodIn_of _ (by decide +kernel)) ggX2_putDegree_X2_cell
theorem dX2_putDegree_0 : decode cX2_putDegree 0 = .ok (.aload_n 0, 1) := by decide +kernel
theorem dX2_putDegree_1 : decode cX2_putDegree 1 = .ok (.iload_n 1, 1) := by decide +kernel
theorem dX2_putDegree_2 : decode cX2_putDegree 2 = .ok (.invokevirtual 107, 3) := by decide +kernel
theorem dX2_putDegree_5 : decode cX2_putDegree 5 = .ok (.ifCond .eq 11, 3) := by decide +kernel
theorem dX2_putDegree_8 : decode cX2_putDegree 8 = .ok (.aload_n 0, 1) := by decide +kernel
theorem dX2_putDegree_9 : decode cX2_putDegree 9 = .ok (.iload_n 2, 1) := by decide +kernel
theorem dX2_putDegree_10 : decode cX2_putDegree 10 = .ok (.invokevirtual 110, 3) := by decide +kernel
theorem dX2_putDegree_13 : decode cX2_putDegree 13 = .ok (.ifCond .ne 5, 3) := by decide +kernel
theorem dX2_putDegree_16 : decode cX2_putDegree 16 = .ok (.iconst 0, 1) := by decide +kernel
theorem dX2_putDegree_17 : decode cX2_putDegree 17 = .ok (.ireturn, 1) := by decide +kernel
theorem dX2_putDegree_18 : decode cX2_putDegree 18 = .ok (.aload_n 0, 1) := by decide +kernel
theorem dX2_putDegree_19 : decode cX2_putDegree 19 = .ok (.getfield 21, 3) := by decide +kernel
theorem dX2_putDegree_22 : decode cX2_putDegree 22 = .ok (.iload_n 1, 1) := by decide +kernel
theorem dX2_putDegree_23 : decode cX2_putDegree 23 = .ok (.iload_n 2, 1) := by decide +kernel
theorem dX2_putDegree_24 : decode cX2_putDegree 24 = .ok (.invokestatic 83, 3) := by decide +kernel
theorem dX2_putDegree_27 : decode cX2_putDegree 27 = .ok (.iload_n 3, 1) := by decide +kernel
theorem dX2_putDegree_28 : decode cX2_putDegree 28 = .ok (.iastore, 1) := by decide +kernel
theorem dX2_putDegree_29 : decode cX2_putDegree 29 = .ok (.iconst 1, 1) := by decide +kernel
theorem dX2_putDegree_30 : decode cX2_putDegree 30 = .ok (.ireturn, 1) := by decide +kernel
set_option maxRecDepth 20000 in
theorem ggX2_putFirst_X2_hasRole : GoodIn wsX2_putFirst wsX2_hasRole := goodIn_r _ [6, 7, 13, 14, 15, 16, 17, 18, 19, 20, 21, 22, 23, 24, 25, 26, 27, 28, 29] (by decide +kernel) (by decide +kernel)
set_option maxRecDepth 20000 in
theorem gX2_putFirst_X2_hasRole : GoodIn wsX2_putFirst (wsV RX2 110 RX2 yX2_hasRole wsX2_hasRole) := goodIn_app (goodIn_of _ (by decide +kernel)) ggX2_putFirst_X2_hasRole
set_option maxRecDepth 20000 in
theorem ggX2_putFirst_X2_hasPlayer : GoodIn wsX2_putFirst wsX2_hasPlayer := goodIn_r _ [11, 12, 13, 14, 15, 16, 17, 18, 19, 20, 21, 22, 23, 24, 25, 26, 27, 28, 29] (by decide +kernel) (by decide +kernel)
set_option maxRecDepth 20000 in
theorem gX2_putFirst_X2_hasPlayer : GoodIn wsX2_putFirst (wsV RX2 107 RX2 yX2_hasPlayer wsX2_hasPlayer) := goodIn_app (goodIn_of _ (by decide +kernel)) ggX2_putFirst_X2_hasPlayer
theorem dX2_putFirst_0 : decode cX2_putFirst 0 = .ok (.aload_n 0, 1) := by decide +kernel
theorem dX2_putFirst_1 : decode cX2_putFirst 1 = .ok (.iload_n 1, 1) := by decide +kernel
theorem dX2_putFirst_2 : decode cX2_putFirst 2 = .ok (.invokevirtual 110, 3) := by decide +kernel
theorem dX2_putFirst_5 : decode cX2_putFirst 5 = .ok (.ifCond .eq 11, 3) := by decide +kernel
theorem dX2_putFirst_8 : decode cX2_putFirst 8 = .ok (.aload_n 0, 1) := by decide +kernel
theorem dX2_putFirst_9 : decode cX2_putFirst 9 = .ok (.iload_n 2, 1) := by decide +kernel
theorem dX2_putFirst_10 : decode cX2_putFirst 10 = .ok (.invokevirtual 107, 3) := by decide +kernel
theorem dX2_putFirst_13 : decode cX2_putFirst 13 = .ok (.ifCond .ne 5, 3) := by decide +kernel
theorem dX2_putFirst_16 : decode cX2_putFirst 16 = .ok (.iconst 0, 1) := by decide +kernel
theorem dX2_putFirst_17 : decode cX2_putFirst 17 = .ok (.ireturn, 1) := by decide +kernel
theorem dX2_putFirst_18 : decode cX2_putFirst 18 = .ok (.aload_n 0, 1) := by decide +kernel
theorem dX2_putFirst_19 : decode cX2_putFirst 19 = .ok (.getfield 15, 3) := by decide +kernel
theorem dX2_putFirst_22 : decode cX2_putFirst 22 = .ok (.iload_n 1, 1) := by decide +kernel
theorem dX2_putFirst_23 : decode cX2_putFirst 23 = .ok (.iload_n 2, 1) := by decide +kernel
theorem dX2_putFirst_24 : decode cX2_putFirst 24 = .ok (.iastore, 1) := by decide +kernel
theorem dX2_putFirst_25 : decode cX2_putFirst 25 = .ok (.iconst 1, 1) := by decide +kernel
theorem dX2_putFirst_26 : decode cX2_putFirst 26 = .ok (.ireturn, 1) := by decide +kernel
set_option maxRecDepth 20000 in
theorem ggX2_sendAway_X2_hasPlayer : GoodIn wsX2_sendAway wsX2_hasPlayer := goodIn_r _ [7, 8, 9, 10, 11, 12, 13, 14, 15, 16, 17, 18, 19, 20, 21, 22, 23, 24, 25] (by decide +kernel) (by decide +kernel)
set_option maxRecDepth 20000 in
theorem gX2_sendAway_X2_hasPlayer : GoodIn wsX2_sendAway (wsV RX2 107 RX2 yX2_hasPlayer wsX2_hasPlayer) := goodIn_app (goodIn_of _ (by decide +kernel)) ggX2_sendAway_X2_hasPlayer
theorem dX2_sendAway_0 : decode cX2_sendAway 0 = .ok (.aload_n 0, 1) := by decide +kernel
theorem dX2_sendAway_1 : decode cX2_sendAway 1 = .ok (.iload_n 1, 1) := by decide +kernel
theorem dX2_sendAway_2 : decode cX2_sendAway 2 = .ok (.invokevirtual 107, 3) := by decide +kernel
theorem dX2_sendAway_5 : decode cX2_sendAway 5 = .ok (.ifCond .eq 14, 3) := by decide +kernel
theorem dX2_sendAway_8 : decode cX2_sendAway 8 = .ok (.iload_n 2, 1) := by decide +kernel
theorem dX2_sendAway_9 : decode cX2_sendAway 9 = .ok (.iconst 1, 1) := by decide +kernel
theorem dX2_sendAway_10 : decode cX2_sendAway 10 = .ok (.if_icmp .lt 9, 3) := by decide +kernel
theorem dX2_sendAway_13 : decode cX2_sendAway 13 = .ok (.iload_n 2, 1) := by decide +kernel
theorem dX2_sendAway_14 : decode cX2_sendAway 14 = .ok (.bipush 99, 2) := by decide +kernel
theorem dX2_sendAway_16 : decode cX2_sendAway 16 = .ok (.if_icmp .le 5, 3) := by decide +kernel
theorem dX2_sendAway_19 : decode cX2_sendAway 19 = .ok (.iconst 0, 1) := by decide +kernel
theorem dX2_sendAway_20 : decode cX2_sendAway 20 = .ok (.ireturn, 1) := by decide +kernel
theorem dX2_sendAway_21 : decode cX2_sendAway 21 = .ok (.aload_n 0, 1) := by decide +kernel
theorem dX2_sendAway_22 : decode cX2_sendAway 22 = .ok (.getfield 33, 3) := by decide +kernel
theorem dX2_sendAway_25 : decode cX2_sendAway 25 = .ok (.iload_n 1, 1) := by decide +kernel
theorem dX2_sendAway_26 : decode cX2_sendAway 26 = .ok (.aload_n 0, 1) := by decide +kernel
theorem dX2_sendAway_27 : decode cX2_sendAway 27 = .ok (.getfield 59, 3) := by decide +kernel
theorem dX2_sendAway_30 : decode cX2_sendAway 30 = .ok (.iload_n 2, 1) := by decide +kernel
theorem dX2_sendAway_31 : decode cX2_sendAway 31 = .ok (.iadd, 1) := by decide +kernel
theorem dX2_sendAway_32 : decode cX2_sendAway 32 = .ok (.iastore, 1) := by decide +kernel
theorem dX2_sendAway_33 : decode cX2_sendAway 33 = .ok (.iconst 1, 1) := by decide +kernel
theorem dX2_sendAway_34 : decode cX2_sendAway 34 = .ok (.ireturn, 1) := by decide +kernel
set_option maxRecDepth 20000 in
theorem ggX2_postCast_X2_freePlayers : GoodIn wsX2_postCast wsX2_freePlayers := goodIn_r _ [8, 9, 10, 11, 12, 7, 13, 14, 15, 16, 17, 77, 78, 79, 80, 81, 82, 83, 84, 85, 86, 87, 88, 89, 90, 91, 92, 93] (by decide +kernel) (by decide +kernel)
set_option maxRecDepth 20000 in
theorem gX2_postCast_X2_freePlayers : GoodIn wsX2_postCast (wsV RX2 92 RX2 yX2_freePlayers wsX2_freePlayers) := goodIn_app (goodIn_of _ (by decide +kernel)) ggX2_postCast_X2_freePlayers
set_option maxRecDepth 20000 in
theorem ggX2_postCast_X0_seek : GoodIn wsX2_postCast wsX0_seek := goodIn_r _ [22, 23, 24, 25, 26, 27, 28, 29, 30, 7, 31, 1, 32, 33, 34, 35, 9, 36, 37, 21, 38, 39, 40, 41, 42, 43, 44, 45, 46, 47, 48, 49, 50, 51, 52, 53, 54, 55, 56, 57, 58, 59, 60, 61, 62, 63, 64, 65, 66, 67, 68, 69, 70, 71, 72, 94, 95, 96, 97, 98, 99, 77, 78, 79, 80, 81, 82, 83, 84, 85, 86, 87, 88, 89, 90, 91, 92, 93] (by decide +kernel) (by decide +kernel)
set_option maxRecDepth 20000 in
theorem gX2_postCast_X0_seek : GoodIn wsX2_postCast (wsV RX2 113 RX0 yX0_seek wsX0_seek) := goodIn_app (goodIn_of _ (by decide +kernel)) ggX2_postCast_X0_seek
set_option maxRecDepth 20000 in
theorem ggX2_postCast_X0_playerOf : GoodIn wsX2_postCast wsX0_playerOf := goodIn_r _ [76, 23, 72, 94, 95, 96, 97, 98, 99] (by decide +kernel) (by decide +kernel)
set_option maxRecDepth 20000 in
theorem gX2_postCast_X0_playerOf : GoodIn wsX2_postCast (wsV RX2 119 RX0 yX0_playerOf wsX0_playerOf) := goodIn_app (goodIn_of _ (by decide +kernel)) ggX2_postCast_X0_playerOf
theorem dX2_postCast_0 : decode cX2_postCast 0 = .ok (.aload_n 0, 1) := by decide +kernel
theorem dX2_postCast_1 : decode cX2_postCast 1 = .ok (.getfield 52, 3) := by decide +kernel
theorem dX2_postCast_4 : decode cX2_postCast 4 = .ok (.ifCond .eq 16, 3) := by decide +kernel
theorem dX2_postCast_7 : decode cX2_postCast 7 = .ok (.aload_n 1, 1) := by decide +kernel
theorem dX2_postCast_8 : decode cX2_postCast 8 = .ok (.aload_n 0, 1) := by decide +kernel
theorem dX2_postCast_9 : decode cX2_postCast 9 = .ok (.aload_n 0, 1) := by decide +kernel
theorem dX2_postCast_10 : decode cX2_postCast 10 = .ok (.invokevirtual 92, 3) := by decide +kernel
theorem dX2_postCast_13 : decode cX2_postCast 13 = .ok (.invokevirtual 113, 3) := by decide +kernel
theorem dX2_postCast_16 : decode cX2_postCast 16 = .ok (.iconst (-1), 1) := by decide +kernel
theorem dX2_postCast_17 : decode cX2_postCast 17 = .ok (.if_icmp .ne 5, 3) := by decide +kernel
theorem dX2_postCast_20 : decode cX2_postCast 20 = .ok (.iconst 0, 1) := by decide +kernel
theorem dX2_postCast_21 : decode cX2_postCast 21 = .ok (.ireturn, 1) := by decide +kernel
theorem dX2_postCast_22 : decode cX2_postCast 22 = .ok (.iconst 0, 1) := by decide +kernel
theorem dX2_postCast_23 : decode cX2_postCast 23 = .ok (.istore_n 2, 1) := by decide +kernel
theorem dX2_postCast_24 : decode cX2_postCast 24 = .ok (.iload_n 2, 1) := by decide +kernel
theorem dX2_postCast_25 : decode cX2_postCast 25 = .ok (.aload_n 0, 1) := by decide +kernel
theorem dX2_postCast_26 : decode cX2_postCast 26 = .ok (.getfield 52, 3) := by decide +kernel
theorem dX2_postCast_29 : decode cX2_postCast 29 = .ok (.if_icmp .ge 20, 3) := by decide +kernel
theorem dX2_postCast_32 : decode cX2_postCast 32 = .ok (.aload_n 0, 1) := by decide +kernel
theorem dX2_postCast_33 : decode cX2_postCast 33 = .ok (.getfield 18, 3) := by decide +kernel
theorem dX2_postCast_36 : decode cX2_postCast 36 = .ok (.iload_n 2, 1) := by decide +kernel
theorem dX2_postCast_37 : decode cX2_postCast 37 = .ok (.aload_n 1, 1) := by decide +kernel
theorem dX2_postCast_38 : decode cX2_postCast 38 = .ok (.iload_n 2, 1) := by decide +kernel
theorem dX2_postCast_39 : decode cX2_postCast 39 = .ok (.invokevirtual 119, 3) := by decide +kernel
theorem dX2_postCast_42 : decode cX2_postCast 42 = .ok (.iastore, 1) := by decide +kernel
theorem dX2_postCast_43 : decode cX2_postCast 43 = .ok (.iinc 2 1, 3) := by decide +kernel
theorem dX2_postCast_46 : decode cX2_postCast 46 = .ok (.goto (-22), 3) := by decide +kernel
theorem dX2_postCast_49 : decode cX2_postCast 49 = .ok (.aload_n 0, 1) := by decide +kernel
theorem dX2_postCast_50 : decode cX2_postCast 50 = .ok (.iconst 1, 1) := by decide +kernel
theorem dX2_postCast_51 : decode cX2_postCast 51 = .ok (.putfield 71, 3) := by decide +kernel
theorem dX2_postCast_54 : decode cX2_postCast 54 = .ok (.iconst 1, 1) := by decide +kernel
theorem dX2_postCast_55 : decode cX2_postCast 55 = .ok (.ireturn, 1) := by decide +kernel
set_option maxRecDepth 20000 in
theorem ggX2_passDays_X2_fill : GoodIn wsX2_passDays wsX2_fill := goodIn_r _ [7] (by decide +kernel) (by decide +kernel)
set_option maxRecDepth 20000 in
theorem gX2_passDays_X2_fill : GoodIn wsX2_passDays (va_wsS RX2 45 yX2_fill wsX2_fill) := goodIn_app (goodIn_of _ (by decide +kernel)) ggX2_passDays_X2_fill
theorem dX2_passDays_0 : decode cX2_passDays 0 = .ok (.iload_n 1, 1) := by decide +kernel
theorem dX2_passDays_1 : decode cX2_passDays 1 = .ok (.iconst 1, 1) := by decide +kernel
theorem dX2_passDays_2 : decode cX2_passDays 2 = .ok (.if_icmp .lt 9, 3) := by decide +kernel
theorem dX2_passDays_5 : decode cX2_passDays 5 = .ok (.iload_n 1, 1) := by decide +kernel
theorem dX2_passDays_6 : decode cX2_passDays 6 = .ok (.bipush 99, 2) := by decide +kernel
theorem dX2_passDays_8 : decode cX2_passDays 8 = .ok (.if_icmp .le 5, 3) := by decide +kernel
theorem dX2_passDays_11 : decode cX2_passDays 11 = .ok (.iconst 0, 1) := by decide +kernel
theorem dX2_passDays_12 : decode cX2_passDays 12 = .ok (.ireturn, 1) := by decide +kernel
theorem dX2_passDays_13 : decode cX2_passDays 13 = .ok (.aload_n 0, 1) := by decide +kernel
theorem dX2_passDays_14 : decode cX2_passDays 14 = .ok (.getfield 30, 3) := by decide +kernel
theorem dX2_passDays_17 : decode cX2_passDays 17 = .ok (.iconst 0, 1) := by decide +kernel
theorem dX2_passDays_18 : decode cX2_passDays 18 = .ok (.invokestatic 45, 3) := by decide +kernel
theorem dX2_passDays_21 : decode cX2_passDays 21 = .ok (.aload_n 0, 1) := by decide +kernel
theorem dX2_passDays_22 : decode cX2_passDays 22 = .ok (.dup, 1) := by decide +kernel
theorem dX2_passDays_23 : decode cX2_passDays 23 = .ok (.getfield 59, 3) := by decide +kernel
theorem dX2_passDays_26 : decode cX2_passDays 26 = .ok (.iload_n 1, 1) := by decide +kernel
theorem dX2_passDays_27 : decode cX2_passDays 27 = .ok (.iadd, 1) := by decide +kernel
theorem dX2_passDays_28 : decode cX2_passDays 28 = .ok (.putfield 59, 3) := by decide +kernel
theorem dX2_passDays_31 : decode cX2_passDays 31 = .ok (.aload_n 0, 1) := by decide +kernel
theorem dX2_passDays_32 : decode cX2_passDays 32 = .ok (.iconst 0, 1) := by decide +kernel
theorem dX2_passDays_33 : decode cX2_passDays 33 = .ok (.putfield 71, 3) := by decide +kernel
theorem dX2_passDays_36 : decode cX2_passDays 36 = .ok (.iconst 1, 1) := by decide +kernel
theorem dX2_passDays_37 : decode cX2_passDays 37 = .ok (.ireturn, 1) := by decide +kernel
theorem dX2_putSetting_0 : decode cX2_putSetting 0 = .ok (.aload_n 0, 1) := by decide +kernel
theorem dX2_putSetting_1 : decode cX2_putSetting 1 = .ok (.getfield 39, 3) := by decide +kernel
theorem dX2_putSetting_4 : decode cX2_putSetting 4 = .ok (.iload_n 1, 1) := by decide +kernel
theorem dX2_putSetting_5 : decode cX2_putSetting 5 = .ok (.iload_n 2, 1) := by decide +kernel
theorem dX2_putSetting_6 : decode cX2_putSetting 6 = .ok (.iastore, 1) := by decide +kernel
theorem dX2_putSetting_7 : decode cX2_putSetting 7 = .ok (.return_, 1) := by decide +kernel
set_option maxRecDepth 20000 in
theorem ggX2_playDay_X2_freePlayers : GoodIn wsX2_playDay wsX2_freePlayers := goodIn_r _ [10, 2, 11, 12, 13, 9, 14, 15, 4, 3, 16, 99, 100, 101, 102, 103, 104, 105, 106, 107, 108, 109, 110, 111, 112, 113, 114, 115] (by decide +kernel) (by decide +kernel)
set_option maxRecDepth 20000 in
theorem gX2_playDay_X2_freePlayers : GoodIn wsX2_playDay (wsV RX2 92 RX2 yX2_freePlayers wsX2_freePlayers) := goodIn_app (goodIn_of _ (by decide +kernel)) ggX2_playDay_X2_freePlayers
set_option maxRecDepth 20000 in
theorem ggX2_playDay_X0_seek : GoodIn wsX2_playDay wsX0_seek := goodIn_r _ [21, 22, 23, 24, 25, 26, 27, 28, 29, 9, 30, 31, 32, 33, 34, 35, 2, 36, 37, 20, 38, 39, 40, 41, 42, 43, 44, 45, 46, 47, 48, 49, 50, 51, 52, 53, 54, 55, 56, 57, 58, 59, 60, 61, 62, 63, 64, 65, 66, 67, 68, 69, 70, 71, 72, 116, 117, 118, 119, 120, 121, 99, 100, 101, 102, 103, 104, 105, 106, 107, 108, 109, 110, 111, 112, 113, 114, 115] (by decide +kernel) (by decide +kernel)
set_option maxRecDepth 20000 in
theorem gX2_playDay_X0_seek : GoodIn wsX2_playDay (wsV RX2 113 RX0 yX0_seek wsX0_seek) := goodIn_app (goodIn_of _ (by decide +kernel)) ggX2_playDay_X0_seek
set_option maxRecDepth 20000 in
theorem ggX2_playDay_X2_perform : GoodIn wsX2_playDay wsX2_perform := goodIn_r _ [76, 31, 77, 78, 79, 80, 20, 81, 22, 72, 82, 83, 84, 9, 85, 2, 86, 87, 88, 89, 16, 44, 45, 90, 5, 91, 92, 93, 94, 46, 47, 48, 99, 100, 101, 102, 103, 104, 105, 106, 107, 108, 109, 110, 111, 112, 113, 114, 115, 116, 117, 118, 119, 120, 121] (by decide +kernel) (by decide +kernel)
set_option maxRecDepth 20000 in
theorem gX2_playDay_X2_perform : GoodIn wsX2_playDay (wsV RX2 122 RX2 yX2_perform wsX2_perform) := goodIn_app (goodIn_of _ (by decide +kernel)) ggX2_playDay_X2_perform
set_option maxRecDepth 20000 in
theorem ggX2_playDay_X0_roleOf : GoodIn wsX2_playDay wsX0_roleOf := goodIn_r _ [98, 22, 72, 116, 117, 118, 119, 120, 121] (by decide +kernel) (by decide +kernel)
set_option maxRecDepth 20000 in
theorem gX2_playDay_X0_roleOf : GoodIn wsX2_playDay (wsV RX2 126 RX0 yX0_roleOf wsX0_roleOf) := goodIn_app (goodIn_of _ (by decide +kernel)) ggX2_playDay_X0_roleOf
theorem dX2_playDay_0 : decode cX2_playDay 0 = .ok (.iconst (-1), 1) := by decide +kernel
theorem dX2_playDay_1 : decode cX2_playDay 1 = .ok (.istore_n 2, 1) := by decide +kernel
theorem dX2_playDay_2 : decode cX2_playDay 2 = .ok (.aload_n 1, 1) := by decide +kernel
theorem dX2_playDay_3 : decode cX2_playDay 3 = .ok (.aload_n 0, 1) := by decide +kernel
theorem dX2_playDay_4 : decode cX2_playDay 4 = .ok (.aload_n 0, 1) := by decide +kernel
theorem dX2_playDay_5 : decode cX2_playDay 5 = .ok (.invokevirtual 92, 3) := by decide +kernel
theorem dX2_playDay_8 : decode cX2_playDay 8 = .ok (.invokevirtual 113, 3) := by decide +kernel
theorem dX2_playDay_11 : decode cX2_playDay 11 = .ok (.iconst (-1), 1) := by decide +kernel
theorem dX2_playDay_12 : decode cX2_playDay 12 = .ok (.if_icmp .ne 16, 3) := by decide +kernel
theorem dX2_playDay_15 : decode cX2_playDay 15 = .ok (.aload_n 0, 1) := by decide +kernel
theorem dX2_playDay_16 : decode cX2_playDay 16 = .ok (.dup, 1) := by decide +kernel
theorem dX2_playDay_17 : decode cX2_playDay 17 = .ok (.getfield 65, 3) := by decide +kernel
theorem dX2_playDay_20 : decode cX2_playDay 20 = .ok (.iconst 1, 1) := by decide +kernel
theorem dX2_playDay_21 : decode cX2_playDay 21 = .ok (.iadd, 1) := by decide +kernel
theorem dX2_playDay_22 : decode cX2_playDay 22 = .ok (.putfield 65, 3) := by decide +kernel
theorem dX2_playDay_25 : decode cX2_playDay 25 = .ok (.goto 9, 3) := by decide +kernel
theorem dX2_playDay_28 : decode cX2_playDay 28 = .ok (.aload_n 0, 1) := by decide +kernel
theorem dX2_playDay_29 : decode cX2_playDay 29 = .ok (.aload_n 1, 1) := by decide +kernel
theorem dX2_playDay_30 : decode cX2_playDay 30 = .ok (.invokevirtual 122, 3) := by decide +kernel
theorem dX2_playDay_33 : decode cX2_playDay 33 = .ok (.istore_n 2, 1) := by decide +kernel
theorem dX2_playDay_34 : decode cX2_playDay 34 = .ok (.iconst 0, 1) := by decide +kernel
theorem dX2_playDay_35 : decode cX2_playDay 35 = .ok (.istore_n 3, 1) := by decide +kernel
theorem dX2_playDay_36 : decode cX2_playDay 36 = .ok (.iload_n 3, 1) := by decide +kernel
theorem dX2_playDay_37 : decode cX2_playDay 37 = .ok (.aload_n 0, 1) := by decide +kernel
theorem dX2_playDay_38 : decode cX2_playDay 38 = .ok (.getfield 56, 3) := by decide +kernel
theorem dX2_playDay_41 : decode cX2_playDay 41 = .ok (.if_icmp .ge 36, 3) := by decide +kernel
theorem dX2_playDay_44 : decode cX2_playDay 44 = .ok (.aload_n 0, 1) := by decide +kernel
theorem dX2_playDay_45 : decode cX2_playDay 45 = .ok (.getfield 30, 3) := by decide +kernel
theorem dX2_playDay_48 : decode cX2_playDay 48 = .ok (.iload_n 3, 1) := by decide +kernel
theorem dX2_playDay_49 : decode cX2_playDay 49 = .ok (.aload_n 1, 1) := by decide +kernel
theorem dX2_playDay_50 : decode cX2_playDay 50 = .ok (.iload_n 3, 1) := by decide +kernel
theorem dX2_playDay_51 : decode cX2_playDay 51 = .ok (.invokevirtual 126, 3) := by decide +kernel
theorem dX2_playDay_54 : decode cX2_playDay 54 = .ok (.iconst (-1), 1) := by decide +kernel
theorem dX2_playDay_55 : decode cX2_playDay 55 = .ok (.if_icmp .ne 7, 3) := by decide +kernel
theorem dX2_playDay_58 : decode cX2_playDay 58 = .ok (.iconst 0, 1) := by decide +kernel
theorem dX2_playDay_59 : decode cX2_playDay 59 = .ok (.goto 11, 3) := by decide +kernel
theorem dX2_playDay_62 : decode cX2_playDay 62 = .ok (.aload_n 0, 1) := by decide +kernel
theorem dX2_playDay_63 : decode cX2_playDay 63 = .ok (.getfield 30, 3) := by decide +kernel
theorem dX2_playDay_66 : decode cX2_playDay 66 = .ok (.iload_n 3, 1) := by decide +kernel
theorem dX2_playDay_67 : decode cX2_playDay 67 = .ok (.iaload, 1) := by decide +kernel
theorem dX2_playDay_68 : decode cX2_playDay 68 = .ok (.iconst 1, 1) := by decide +kernel
theorem dX2_playDay_69 : decode cX2_playDay 69 = .ok (.iadd, 1) := by decide +kernel
theorem dX2_playDay_70 : decode cX2_playDay 70 = .ok (.iastore, 1) := by decide +kernel
theorem dX2_playDay_71 : decode cX2_playDay 71 = .ok (.iinc 3 1, 3) := by decide +kernel
theorem dX2_playDay_74 : decode cX2_playDay 74 = .ok (.goto (-38), 3) := by decide +kernel
theorem dX2_playDay_77 : decode cX2_playDay 77 = .ok (.aload_n 0, 1) := by decide +kernel
theorem dX2_playDay_78 : decode cX2_playDay 78 = .ok (.dup, 1) := by decide +kernel
theorem dX2_playDay_79 : decode cX2_playDay 79 = .ok (.getfield 59, 3) := by decide +kernel
theorem dX2_playDay_82 : decode cX2_playDay 82 = .ok (.iconst 1, 1) := by decide +kernel
theorem dX2_playDay_83 : decode cX2_playDay 83 = .ok (.iadd, 1) := by decide +kernel
theorem dX2_playDay_84 : decode cX2_playDay 84 = .ok (.putfield 59, 3) := by decide +kernel
theorem dX2_playDay_87 : decode cX2_playDay 87 = .ok (.aload_n 0, 1) := by decide +kernel
theorem dX2_playDay_88 : decode cX2_playDay 88 = .ok (.iconst 0, 1) := by decide +kernel
theorem dX2_playDay_89 : decode cX2_playDay 89 = .ok (.putfield 71, 3) := by decide +kernel
theorem dX2_playDay_92 : decode cX2_playDay 92 = .ok (.iload_n 2, 1) := by decide +kernel
theorem dX2_playDay_93 : decode cX2_playDay 93 = .ok (.ireturn, 1) := by decide +kernel
set_option maxRecDepth 20000 in
theorem ggX2_perform_X0_playerOf : GoodIn wsX2_perform wsX0_playerOf := goodIn_r _ [7, 8, 9, 49, 50, 51, 52, 53, 54] (by decide +kernel) (by decide +kernel)
set_option maxRecDepth 20000 in
theorem gX2_perform_X0_playerOf : GoodIn wsX2_perform (wsV RX2 119 RX0 yX0_playerOf wsX0_playerOf) := goodIn_app (goodIn_of _ (by decide +kernel)) ggX2_perform_X0_playerOf
set_option maxRecDepth 20000 in
theorem ggX2_perform_X2_hasPlayer : GoodIn wsX2_perform wsX2_hasPlayer := goodIn_r _ [14, 15, 32, 33, 34, 35, 36, 37, 38, 39, 40, 41, 42, 43, 44, 45, 46, 47, 48] (by decide +kernel) (by decide +kernel)
set_option maxRecDepth 20000 in
theorem gX2_perform_X2_hasPlayer : GoodIn wsX2_perform (wsV RX2 107 RX2 yX2_hasPlayer wsX2_hasPlayer) := goodIn_app (goodIn_of _ (by decide +kernel)) ggX2_perform_X2_hasPlayer
set_option maxRecDepth 20000 in
theorem ggX2_perform_X2_payFor : GoodIn wsX2_perform wsX2_payFor := goodIn_r _ [19, 20, 21, 22, 23, 24, 25, 26, 27, 28, 29, 30, 13, 31, 32, 33, 34, 35, 36, 37, 38, 39, 40, 41, 42, 43, 44, 45, 46, 47, 48] (by decide +kernel) (by decide +kernel)
set_option maxRecDepth 20000 in
theorem gX2_perform_X2_payFor : GoodIn wsX2_perform (wsV RX2 129 RX2 yX2_payFor wsX2_payFor) := goodIn_app (goodIn_of _ (by decide +kernel)) ggX2_perform_X2_payFor
theorem dX2_perform_0 : decode cX2_perform 0 = .ok (.iconst 0, 1) := by decide +kernel
theorem dX2_perform_1 : decode cX2_perform 1 = .ok (.istore_n 2, 1) := by decide +kernel
theorem dX2_perform_2 : decode cX2_perform 2 = .ok (.iconst 0, 1) := by decide +kernel
theorem dX2_perform_3 : decode cX2_perform 3 = .ok (.istore_n 3, 1) := by decide +kernel
theorem dX2_perform_4 : decode cX2_perform 4 = .ok (.iload_n 3, 1) := by decide +kernel
theorem dX2_perform_5 : decode cX2_perform 5 = .ok (.aload_n 0, 1) := by decide +kernel
theorem dX2_perform_6 : decode cX2_perform 6 = .ok (.getfield 52, 3) := by decide +kernel
theorem dX2_perform_9 : decode cX2_perform 9 = .ok (.if_icmp .ge 35, 3) := by decide +kernel
theorem dX2_perform_12 : decode cX2_perform 12 = .ok (.aload_n 1, 1) := by decide +kernel
theorem dX2_perform_13 : decode cX2_perform 13 = .ok (.iload_n 3, 1) := by decide +kernel
theorem dX2_perform_14 : decode cX2_perform 14 = .ok (.invokevirtual 119, 3) := by decide +kernel
theorem dX2_perform_17 : decode cX2_perform 17 = .ok (.istore 4, 2) := by decide +kernel
theorem dX2_perform_19 : decode cX2_perform 19 = .ok (.aload_n 0, 1) := by decide +kernel
theorem dX2_perform_20 : decode cX2_perform 20 = .ok (.iload 4, 2) := by decide +kernel
theorem dX2_perform_22 : decode cX2_perform 22 = .ok (.invokevirtual 107, 3) := by decide +kernel
theorem dX2_perform_25 : decode cX2_perform 25 = .ok (.ifCond .eq 13, 3) := by decide +kernel
theorem dX2_perform_28 : decode cX2_perform 28 = .ok (.iload_n 2, 1) := by decide +kernel
theorem dX2_perform_29 : decode cX2_perform 29 = .ok (.aload_n 0, 1) := by decide +kernel
theorem dX2_perform_30 : decode cX2_perform 30 = .ok (.iload_n 3, 1) := by decide +kernel
theorem dX2_perform_31 : decode cX2_perform 31 = .ok (.iload 4, 2) := by decide +kernel
theorem dX2_perform_33 : decode cX2_perform 33 = .ok (.invokevirtual 129, 3) := by decide +kernel
theorem dX2_perform_36 : decode cX2_perform 36 = .ok (.iadd, 1) := by decide +kernel
theorem dX2_perform_37 : decode cX2_perform 37 = .ok (.istore_n 2, 1) := by decide +kernel
theorem dX2_perform_38 : decode cX2_perform 38 = .ok (.iinc 3 1, 3) := by decide +kernel
theorem dX2_perform_41 : decode cX2_perform 41 = .ok (.goto (-37), 3) := by decide +kernel
theorem dX2_perform_44 : decode cX2_perform 44 = .ok (.aload_n 0, 1) := by decide +kernel
theorem dX2_perform_45 : decode cX2_perform 45 = .ok (.dup, 1) := by decide +kernel
theorem dX2_perform_46 : decode cX2_perform 46 = .ok (.getfield 62, 3) := by decide +kernel
theorem dX2_perform_49 : decode cX2_perform 49 = .ok (.iconst 1, 1) := by decide +kernel
theorem dX2_perform_50 : decode cX2_perform 50 = .ok (.iadd, 1) := by decide +kernel
theorem dX2_perform_51 : decode cX2_perform 51 = .ok (.putfield 62, 3) := by decide +kernel
theorem dX2_perform_54 : decode cX2_perform 54 = .ok (.iload_n 2, 1) := by decide +kernel
theorem dX2_perform_55 : decode cX2_perform 55 = .ok (.ireturn, 1) := by decide +kernel
set_option maxRecDepth 20000 in
theorem ggX2_payFor_X2_cell : GoodIn wsX2_payFor wsX2_cell := goodIn_r _ [13] (by decide +kernel) (by decide +kernel)
set_option maxRecDepth 20000 in
theorem gX2_payFor_X2_cell : GoodIn wsX2_payFor (va_wsS RX2 83 yX2_cell wsX2_cell) := goodIn_app (goodIn_of _ (by decide +kernel)) ggX2_payFor_X2_cell
theorem dX2_payFor_0 : decode cX2_payFor 0 = .ok (.aload_n 0, 1) := by decide +kernel
theorem dX2_payFor_1 : decode cX2_payFor 1 = .ok (.getfield 39, 3) := by decide +kernel
theorem dX2_payFor_4 : decode cX2_payFor 4 = .ok (.iconst 1, 1) := by decide +kernel
theorem dX2_payFor_5 : decode cX2_payFor 5 = .ok (.iaload, 1) := by decide +kernel
theorem dX2_payFor_6 : decode cX2_payFor 6 = .ok (.aload_n 0, 1) := by decide +kernel
theorem dX2_payFor_7 : decode cX2_payFor 7 = .ok (.getfield 9, 3) := by decide +kernel
theorem dX2_payFor_10 : decode cX2_payFor 10 = .ok (.iload_n 1, 1) := by decide +kernel
theorem dX2_payFor_11 : decode cX2_payFor 11 = .ok (.iaload, 1) := by decide +kernel
theorem dX2_payFor_12 : decode cX2_payFor 12 = .ok (.aload_n 0, 1) := by decide +kernel
theorem dX2_payFor_13 : decode cX2_payFor 13 = .ok (.getfield 39, 3) := by decide +kernel
theorem dX2_payFor_16 : decode cX2_payFor 16 = .ok (.iconst 2, 1) := by decide +kernel
theorem dX2_payFor_17 : decode cX2_payFor 17 = .ok (.iaload, 1) := by decide +kernel
theorem dX2_payFor_18 : decode cX2_payFor 18 = .ok (.imul, 1) := by decide +kernel
theorem dX2_payFor_19 : decode cX2_payFor 19 = .ok (.iadd, 1) := by decide +kernel
theorem dX2_payFor_20 : decode cX2_payFor 20 = .ok (.istore_n 3, 1) := by decide +kernel
theorem dX2_payFor_21 : decode cX2_payFor 21 = .ok (.aload_n 0, 1) := by decide +kernel
theorem dX2_payFor_22 : decode cX2_payFor 22 = .ok (.getfield 15, 3) := by decide +kernel
theorem dX2_payFor_25 : decode cX2_payFor 25 = .ok (.iload_n 1, 1) := by decide +kernel
theorem dX2_payFor_26 : decode cX2_payFor 26 = .ok (.iaload, 1) := by decide +kernel
theorem dX2_payFor_27 : decode cX2_payFor 27 = .ok (.iload_n 2, 1) := by decide +kernel
theorem dX2_payFor_28 : decode cX2_payFor 28 = .ok (.if_icmp .eq 22, 3) := by decide +kernel
theorem dX2_payFor_31 : decode cX2_payFor 31 = .ok (.iload_n 3, 1) := by decide +kernel
theorem dX2_payFor_32 : decode cX2_payFor 32 = .ok (.aload_n 0, 1) := by decide +kernel
theorem dX2_payFor_33 : decode cX2_payFor 33 = .ok (.getfield 39, 3) := by decide +kernel
theorem dX2_payFor_36 : decode cX2_payFor 36 = .ok (.iconst 3, 1) := by decide +kernel
theorem dX2_payFor_37 : decode cX2_payFor 37 = .ok (.iaload, 1) := by decide +kernel
theorem dX2_payFor_38 : decode cX2_payFor 38 = .ok (.iadd, 1) := by decide +kernel
theorem dX2_payFor_39 : decode cX2_payFor 39 = .ok (.istore_n 3, 1) := by decide +kernel
theorem dX2_payFor_40 : decode cX2_payFor 40 = .ok (.aload_n 0, 1) := by decide +kernel
theorem dX2_payFor_41 : decode cX2_payFor 41 = .ok (.dup, 1) := by decide +kernel
theorem dX2_payFor_42 : decode cX2_payFor 42 = .ok (.getfield 68, 3) := by decide +kernel
theorem dX2_payFor_45 : decode cX2_payFor 45 = .ok (.iconst 1, 1) := by decide +kernel
theorem dX2_payFor_46 : decode cX2_payFor 46 = .ok (.iadd, 1) := by decide +kernel
theorem dX2_payFor_47 : decode cX2_payFor 47 = .ok (.putfield 68, 3) := by decide +kernel
theorem dX2_payFor_50 : decode cX2_payFor 50 = .ok (.aload_n 0, 1) := by decide +kernel
theorem dX2_payFor_51 : decode cX2_payFor 51 = .ok (.getfield 71, 3) := by decide +kernel
theorem dX2_payFor_54 : decode cX2_payFor 54 = .ok (.ifCond .eq 22, 3) := by decide +kernel
theorem dX2_payFor_57 : decode cX2_payFor 57 = .ok (.aload_n 0, 1) := by decide +kernel
theorem dX2_payFor_58 : decode cX2_payFor 58 = .ok (.getfield 18, 3) := by decide +kernel
theorem dX2_payFor_61 : decode cX2_payFor 61 = .ok (.iload_n 1, 1) := by decide +kernel
theorem dX2_payFor_62 : decode cX2_payFor 62 = .ok (.iaload, 1) := by decide +kernel
theorem dX2_payFor_63 : decode cX2_payFor 63 = .ok (.iload_n 2, 1) := by decide +kernel
theorem dX2_payFor_64 : decode cX2_payFor 64 = .ok (.if_icmp .eq 12, 3) := by decide +kernel
theorem dX2_payFor_67 : decode cX2_payFor 67 = .ok (.iload_n 3, 1) := by decide +kernel
theorem dX2_payFor_68 : decode cX2_payFor 68 = .ok (.aload_n 0, 1) := by decide +kernel
theorem dX2_payFor_69 : decode cX2_payFor 69 = .ok (.getfield 39, 3) := by decide +kernel
theorem dX2_payFor_72 : decode cX2_payFor 72 = .ok (.iconst 4, 1) := by decide +kernel
theorem dX2_payFor_73 : decode cX2_payFor 73 = .ok (.iaload, 1) := by decide +kernel
theorem dX2_payFor_74 : decode cX2_payFor 74 = .ok (.iadd, 1) := by decide +kernel
theorem dX2_payFor_75 : decode cX2_payFor 75 = .ok (.istore_n 3, 1) := by decide +kernel
theorem dX2_payFor_76 : decode cX2_payFor 76 = .ok (.aload_n 0, 1) := by decide +kernel
theorem dX2_payFor_77 : decode cX2_payFor 77 = .ok (.getfield 27, 3) := by decide +kernel
theorem dX2_payFor_80 : decode cX2_payFor 80 = .ok (.iload_n 2, 1) := by decide +kernel
theorem dX2_payFor_81 : decode cX2_payFor 81 = .ok (.dup2, 1) := by decide +kernel
theorem dX2_payFor_82 : decode cX2_payFor 82 = .ok (.iaload, 1) := by decide +kernel
theorem dX2_payFor_83 : decode cX2_payFor 83 = .ok (.iload_n 3, 1) := by decide +kernel
theorem dX2_payFor_84 : decode cX2_payFor 84 = .ok (.iadd, 1) := by decide +kernel
theorem dX2_payFor_85 : decode cX2_payFor 85 = .ok (.iastore, 1) := by decide +kernel
theorem dX2_payFor_86 : decode cX2_payFor 86 = .ok (.aload_n 0, 1) := by decide +kernel
theorem dX2_payFor_87 : decode cX2_payFor 87 = .ok (.getfield 36, 3) := by decide +kernel
theorem dX2_payFor_90 : decode cX2_payFor 90 = .ok (.iload_n 2, 1) := by decide +kernel
theorem dX2_payFor_91 : decode cX2_payFor 91 = .ok (.dup2, 1) := by decide +kernel
theorem dX2_payFor_92 : decode cX2_payFor 92 = .ok (.iaload, 1) := by decide +kernel
theorem dX2_payFor_93 : decode cX2_payFor 93 = .ok (.iconst 1, 1) := by decide +kernel
theorem dX2_payFor_94 : decode cX2_payFor 94 = .ok (.iadd, 1) := by decide +kernel
theorem dX2_payFor_95 : decode cX2_payFor 95 = .ok (.iastore, 1) := by decide +kernel
theorem dX2_payFor_96 : decode cX2_payFor 96 = .ok (.aload_n 0, 1) := by decide +kernel
theorem dX2_payFor_97 : decode cX2_payFor 97 = .ok (.getfield 24, 3) := by decide +kernel
theorem dX2_payFor_100 : decode cX2_payFor 100 = .ok (.iload_n 2, 1) := by decide +kernel
theorem dX2_payFor_101 : decode cX2_payFor 101 = .ok (.iload_n 1, 1) := by decide +kernel
theorem dX2_payFor_102 : decode cX2_payFor 102 = .ok (.invokestatic 83, 3) := by decide +kernel
theorem dX2_payFor_105 : decode cX2_payFor 105 = .ok (.dup2, 1) := by decide +kernel
theorem dX2_payFor_106 : decode cX2_payFor 106 = .ok (.iaload, 1) := by decide +kernel
theorem dX2_payFor_107 : decode cX2_payFor 107 = .ok (.iconst 1, 1) := by decide +kernel
theorem dX2_payFor_108 : decode cX2_payFor 108 = .ok (.iadd, 1) := by decide +kernel
theorem dX2_payFor_109 : decode cX2_payFor 109 = .ok (.iastore, 1) := by decide +kernel
theorem dX2_payFor_110 : decode cX2_payFor 110 = .ok (.iload_n 3, 1) := by decide +kernel
theorem dX2_payFor_111 : decode cX2_payFor 111 = .ok (.ireturn, 1) := by decide +kernel
set_option maxRecDepth 20000 in
theorem ggX2_promotable_X2_hasPlayer : GoodIn wsX2_promotable wsX2_hasPlayer := goodIn_r _ [8, 3, 12, 13, 14, 15, 16, 17, 18, 19, 20, 21, 22, 23, 24, 25, 26, 27, 28] (by decide +kernel) (by decide +kernel)
set_option maxRecDepth 20000 in
theorem gX2_promotable_X2_hasPlayer : GoodIn wsX2_promotable (wsV RX2 107 RX2 yX2_hasPlayer wsX2_hasPlayer) := goodIn_app (goodIn_of _ (by decide +kernel)) ggX2_promotable_X2_hasPlayer
set_option maxRecDepth 20000 in
theorem ggX2_promotable_X2_cell : GoodIn wsX2_promotable wsX2_cell := goodIn_r _ [11] (by decide +kernel) (by decide +kernel)
set_option maxRecDepth 20000 in
theorem gX2_promotable_X2_cell : GoodIn wsX2_promotable (va_wsS RX2 83 yX2_cell wsX2_cell) := goodIn_app (goodIn_of _ (by decide +kernel)) ggX2_promotable_X2_cell
theorem dX2_promotable_0 : decode cX2_promotable 0 = .ok (.aload_n 0, 1) := by decide +kernel
theorem dX2_promotable_1 : decode cX2_promotable 1 = .ok (.getfield 15, 3) := by decide +kernel
theorem dX2_promotable_4 : decode cX2_promotable 4 = .ok (.iload_n 1, 1) := by decide +kernel
theorem dX2_promotable_5 : decode cX2_promotable 5 = .ok (.iaload, 1) := by decide +kernel
theorem dX2_promotable_6 : decode cX2_promotable 6 = .ok (.istore_n 2, 1) := by decide +kernel
theorem dX2_promotable_7 : decode cX2_promotable 7 = .ok (.aload_n 0, 1) := by decide +kernel
theorem dX2_promotable_8 : decode cX2_promotable 8 = .ok (.iload_n 2, 1) := by decide +kernel
theorem dX2_promotable_9 : decode cX2_promotable 9 = .ok (.invokevirtual 107, 3) := by decide +kernel
theorem dX2_promotable_12 : decode cX2_promotable 12 = .ok (.ifCond .eq 16, 3) := by decide +kernel
theorem dX2_promotable_15 : decode cX2_promotable 15 = .ok (.aload_n 0, 1) := by decide +kernel
theorem dX2_promotable_16 : decode cX2_promotable 16 = .ok (.getfield 24, 3) := by decide +kernel
theorem dX2_promotable_19 : decode cX2_promotable 19 = .ok (.iload_n 2, 1) := by decide +kernel
theorem dX2_promotable_20 : decode cX2_promotable 20 = .ok (.iload_n 1, 1) := by decide +kernel
theorem dX2_promotable_21 : decode cX2_promotable 21 = .ok (.invokestatic 83, 3) := by decide +kernel
theorem dX2_promotable_24 : decode cX2_promotable 24 = .ok (.iaload, 1) := by decide +kernel
theorem dX2_promotable_25 : decode cX2_promotable 25 = .ok (.goto 4, 3) := by decide +kernel
theorem dX2_promotable_28 : decode cX2_promotable 28 = .ok (.iconst 0, 1) := by decide +kernel
theorem dX2_promotable_29 : decode cX2_promotable 29 = .ok (.istore_n 3, 1) := by decide +kernel
theorem dX2_promotable_30 : decode cX2_promotable 30 = .ok (.iconst (-1), 1) := by decide +kernel
theorem dX2_promotable_31 : decode cX2_promotable 31 = .ok (.istore 4, 2) := by decide +kernel
theorem dX2_promotable_33 : decode cX2_promotable 33 = .ok (.iconst 0, 1) := by decide +kernel
theorem dX2_promotable_34 : decode cX2_promotable 34 = .ok (.istore 5, 2) := by decide +kernel
theorem dX2_promotable_36 : decode cX2_promotable 36 = .ok (.iload 5, 2) := by decide +kernel
theorem dX2_promotable_38 : decode cX2_promotable 38 = .ok (.aload_n 0, 1) := by decide +kernel
theorem dX2_promotable_39 : decode cX2_promotable 39 = .ok (.getfield 56, 3) := by decide +kernel
theorem dX2_promotable_42 : decode cX2_promotable 42 = .ok (.if_icmp .ge 40, 3) := by decide +kernel
theorem dX2_promotable_45 : decode cX2_promotable 45 = .ok (.aload_n 0, 1) := by decide +kernel
theorem dX2_promotable_46 : decode cX2_promotable 46 = .ok (.getfield 24, 3) := by decide +kernel
theorem dX2_promotable_49 : decode cX2_promotable 49 = .ok (.iload 5, 2) := by decide +kernel
theorem dX2_promotable_51 : decode cX2_promotable 51 = .ok (.iload_n 1, 1) := by decide +kernel
theorem dX2_promotable_52 : decode cX2_promotable 52 = .ok (.invokestatic 83, 3) := by decide +kernel
theorem dX2_promotable_55 : decode cX2_promotable 55 = .ok (.iaload, 1) := by decide +kernel
theorem dX2_promotable_56 : decode cX2_promotable 56 = .ok (.iload_n 3, 1) := by decide +kernel
theorem dX2_promotable_57 : decode cX2_promotable 57 = .ok (.if_icmp .le 19, 3) := by decide +kernel
theorem dX2_promotable_60 : decode cX2_promotable 60 = .ok (.aload_n 0, 1) := by decide +kernel
theorem dX2_promotable_61 : decode cX2_promotable 61 = .ok (.getfield 24, 3) := by decide +kernel
theorem dX2_promotable_64 : decode cX2_promotable 64 = .ok (.iload 5, 2) := by decide +kernel
theorem dX2_promotable_66 : decode cX2_promotable 66 = .ok (.iload_n 1, 1) := by decide +kernel
theorem dX2_promotable_67 : decode cX2_promotable 67 = .ok (.invokestatic 83, 3) := by decide +kernel
theorem dX2_promotable_70 : decode cX2_promotable 70 = .ok (.iaload, 1) := by decide +kernel
theorem dX2_promotable_71 : decode cX2_promotable 71 = .ok (.istore_n 3, 1) := by decide +kernel
theorem dX2_promotable_72 : decode cX2_promotable 72 = .ok (.iload 5, 2) := by decide +kernel
theorem dX2_promotable_74 : decode cX2_promotable 74 = .ok (.istore 4, 2) := by decide +kernel
theorem dX2_promotable_76 : decode cX2_promotable 76 = .ok (.iinc 5 1, 3) := by decide +kernel
theorem dX2_promotable_79 : decode cX2_promotable 79 = .ok (.goto (-43), 3) := by decide +kernel
theorem dX2_promotable_82 : decode cX2_promotable 82 = .ok (.iload 4, 2) := by decide +kernel
theorem dX2_promotable_84 : decode cX2_promotable 84 = .ok (.ireturn, 1) := by decide +kernel
theorem dX3_init_0 : decode cX3_init 0 = .ok (.aload_n 0, 1) := by decide +kernel
theorem dX3_init_1 : decode cX3_init 1 = .ok (.invokespecial 3, 3) := by decide +kernel
theorem dX3_init_4 : decode cX3_init 4 = .ok (.aload_n 0, 1) := by decide +kernel
theorem dX3_init_5 : decode cX3_init 5 = .ok (.bipush 120, 2) := by decide +kernel
theorem dX3_init_7 : decode cX3_init 7 = .ok (.newarray .char, 2) := by decide +kernel
theorem dX3_init_9 : decode cX3_init 9 = .ok (.putfield 9, 3) := by decide +kernel
theorem dX3_init_12 : decode cX3_init 12 = .ok (.return_, 1) := by decide +kernel
set_option maxRecDepth 20000 in
theorem ggX4_init_X2_init : GoodIn wsX4_init wsX2_init := goodIn_r _ [10, 11, 2, 3, 12, 13, 14, 15, 16, 17, 18, 19, 20, 21, 22, 23, 24, 25, 6, 26, 27, 28, 29, 30, 31, 32, 33, 34, 35, 36, 37, 38, 39, 40, 41, 42, 43, 44, 45, 46, 47, 48, 49, 50, 51, 52, 53] (by decide +kernel) (by decide +kernel)
set_option maxRecDepth 20000 in
theorem gX4_init_X2_init : GoodIn wsX4_init (wsX2_init) := ggX4_init_X2_init
theorem dX4_init_0 : decode cX4_init 0 = .ok (.aload_n 0, 1) := by decide +kernel
theorem dX4_init_1 : decode cX4_init 1 = .ok (.invokespecial 3, 3) := by decide +kernel
theorem dX4_init_4 : decode cX4_init 4 = .ok (.aload_n 0, 1) := by decide +kernel
theorem dX4_init_5 : decode cX4_init 5 = .ok (.new 9, 3) := by decide +kernel
theorem dX4_init_8 : decode cX4_init 8 = .ok (.dup, 1) := by decide +kernel
theorem dX4_init_9 : decode cX4_init 9 = .ok (.invokespecial 11, 3) := by decide +kernel
theorem dX4_init_12 : decode cX4_init 12 = .ok (.putfield 12, 3) := by decide +kernel
theorem dX4_init_15 : decode cX4_init 15 = .ok (.return_, 1) := by decide +kernel
set_option maxRecDepth 20000 in
theorem ggX5_init_X3_init : GoodIn wsX5_init wsX3_init := goodIn_r _ [28, 29, 2, 3, 30, 31, 80, 81] (by decide +kernel) (by decide +kernel)
set_option maxRecDepth 20000 in
theorem gX5_init_X3_init_n9 : GoodIn wsX5_init (wsX3_init) := ggX5_init_X3_init
set_option maxRecDepth 20000 in
theorem ggX5_init_X2_init : GoodIn wsX5_init wsX2_init := goodIn_r _ [34, 35, 2, 3, 36, 37, 38, 39, 40, 41, 42, 43, 44, 45, 46, 47, 48, 49, 10, 50, 51, 52, 53, 54, 55, 56, 57, 58, 59, 60, 89, 90, 91, 92, 93, 94, 95, 96, 97, 98, 99, 100, 101, 102, 103, 104, 105] (by decide +kernel) (by decide +kernel)
set_option maxRecDepth 20000 in
theorem gX5_init_X2_init : GoodIn wsX5_init (wsX2_init) := ggX5_init_X2_init
set_option maxRecDepth 20000 in
theorem ggX5_init_X0_init : GoodIn wsX5_init wsX0_init := goodIn_r _ [62, 63, 2, 3, 36, 64, 65, 66, 106, 107, 108, 109, 110, 111] (by decide +kernel) (by decide +kernel)
set_option maxRecDepth 20000 in
theorem gX5_init_X0_init_n25 : GoodIn wsX5_init (wsX0_init) := ggX5_init_X0_init
set_option maxRecDepth 20000 in
theorem ggX5_init_X4_init : GoodIn wsX5_init wsX4_init := goodIn_r _ [68, 69, 2, 3, 70, 9, 10, 71, 72, 33, 34, 35, 36, 37, 38, 39, 40, 41, 42, 43, 44, 45, 46, 47, 48, 49, 50, 51, 52, 53, 54, 55, 56, 57, 58, 59, 60, 89, 90, 91, 92, 93, 94, 95, 96, 97, 98, 99, 100, 101, 102, 103, 104, 105, 112] (by decide +kernel) (by decide +kernel)
set_option maxRecDepth 20000 in
theorem gX5_init_X4_init_n32 : GoodIn wsX5_init (wsX4_init) := ggX5_init_X4_init
set_option maxRecDepth 20000 in
theorem ggX5_init_X1_init : GoodIn wsX5_init wsX1_init := goodIn_r _ [75, 76, 2, 3, 77, 78, 9, 10, 79, 33, 34, 35, 36, 37, 38, 39, 40, 41, 42, 43, 44, 45, 46, 47, 48, 49, 50, 51, 52, 53, 54, 55, 56, 57, 58, 59, 60, 113, 114, 115, 89, 90, 91, 92, 93, 94, 95, 96, 97, 98, 99, 100, 101, 102, 103, 104, 105] (by decide +kernel) (by decide +kernel)
set_option maxRecDepth 20000 in
theorem gX5_init_X1_init : GoodIn wsX5_init (wsX1_init) := ggX5_init_X1_init
theorem dX5_init_0 : decode cX5_init 0 = .ok (.aload_n 0, 1) := by decide +kernel
theorem dX5_init_1 : decode cX5_init 1 = .ok (.invokespecial 1, 3) := by decide +kernel
theorem dX5_init_4 : decode cX5_init 4 = .ok (.aload_n 0, 1) := by decide +kernel
theorem dX5_init_5 : decode cX5_init 5 = .ok (.new 7, 3) := by decide +kernel
theorem dX5_init_8 : decode cX5_init 8 = .ok (.dup, 1) := by decide +kernel
theorem dX5_init_9 : decode cX5_init 9 = .ok (.invokespecial 9, 3) := by decide +kernel
theorem dX5_init_12 : decode cX5_init 12 = .ok (.putfield 10, 3) := by decide +kernel
theorem dX5_init_15 : decode cX5_init 15 = .ok (.aload_n 0, 1) := by decide +kernel
theorem dX5_init_16 : decode cX5_init 16 = .ok (.new 16, 3) := by decide +kernel
theorem dX5_init_19 : decode cX5_init 19 = .ok (.dup, 1) := by decide +kernel
theorem dX5_init_20 : decode cX5_init 20 = .ok (.invokespecial 18, 3) := by decide +kernel
theorem dX5_init_23 : decode cX5_init 23 = .ok (.putfield 19, 3) := by decide +kernel
theorem dX5_init_26 : decode cX5_init 26 = .ok (.aload_n 0, 1) := by decide +kernel
theorem dX5_init_27 : decode cX5_init 27 = .ok (.new 23, 3) := by decide +kernel
theorem dX5_init_30 : decode cX5_init 30 = .ok (.dup, 1) := by decide +kernel
theorem dX5_init_31 : decode cX5_init 31 = .ok (.invokespecial 25, 3) := by decide +kernel
theorem dX5_init_34 : decode cX5_init 34 = .ok (.putfield 26, 3) := by decide +kernel
theorem dX5_init_37 : decode cX5_init 37 = .ok (.aload_n 0, 1) := by decide +kernel
theorem dX5_init_38 : decode cX5_init 38 = .ok (.new 30, 3) := by decide +kernel
theorem dX5_init_41 : decode cX5_init 41 = .ok (.dup, 1) := by decide +kernel
theorem dX5_init_42 : decode cX5_init 42 = .ok (.invokespecial 32, 3) := by decide +kernel
