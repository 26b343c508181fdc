set_option maxRecDepth 20000 in
theorem gX5_needRole_X2_hasRole : GoodIn wsX5_needRole (wsV RX5 306 RX2 yX2_hasRole wsX2_hasRole) := goodIn_app (goodIn_of _ (by decide +kernel)) ggX5_needRole_X2_hasRole
theorem dX5_needRole_0 : decode cX5_needRole 0 = .ok (.aload_n 0, 1) := by decide +kernel
theorem dX5_needRole_1 : decode cX5_needRole 1 = .ok (.getfield 19, 3) := by decide +kernel
theorem dX5_needRole_4 : decode cX5_needRole 4 = .ok (.iload_n 1, 1) := by decide +kernel
theorem dX5_needRole_5 : decode cX5_needRole 5 = .ok (.invokevirtual 306, 3) := by decide +kernel
theorem dX5_needRole_8 : decode cX5_needRole 8 = .ok (.ifCond .ne 14, 3) := by decide +kernel
theorem dX5_needRole_11 : decode cX5_needRole 11 = .ok (.new 309, 3) := by decide +kernel
theorem dX5_needRole_14 : decode cX5_needRole 14 = .ok (.dup, 1) := by decide +kernel
theorem dX5_needRole_15 : decode cX5_needRole 15 = .ok (.ldc_w 311, 3) := by decide +kernel
theorem dX5_needRole_18 : decode cX5_needRole 18 = .ok (.invokespecial 313, 3) := by decide +kernel
theorem dX5_needRole_21 : decode cX5_needRole 21 = .ok (.athrow, 1) := by decide +kernel
theorem dX5_needRole_22 : decode cX5_needRole 22 = .ok (.return_, 1) := by decide +kernel
set_option maxRecDepth 20000 in
theorem ggX5_needPlayer_X2_hasPlayer : GoodIn wsX5_needPlayer wsX2_hasPlayer := goodIn_r _ [8, 9, 17, 18, 19, 20, 21, 22, 23, 24, 25, 26, 27, 28, 29, 30, 31, 32, 33] (by decide +kernel) (by decide +kernel)
set_option maxRecDepth 20000 in
theorem gX5_needPlayer_X2_hasPlayer : GoodIn wsX5_needPlayer (wsV RX5 314 RX2 yX2_hasPlayer wsX2_hasPlayer) := goodIn_app (goodIn_of _ (by decide +kernel)) ggX5_needPlayer_X2_hasPlayer
theorem dX5_needPlayer_0 : decode cX5_needPlayer 0 = .ok (.aload_n 0, 1) := by decide +kernel
theorem dX5_needPlayer_1 : decode cX5_needPlayer 1 = .ok (.getfield 19, 3) := by decide +kernel
theorem dX5_needPlayer_4 : decode cX5_needPlayer 4 = .ok (.iload_n 1, 1) := by decide +kernel
theorem dX5_needPlayer_5 : decode cX5_needPlayer 5 = .ok (.invokevirtual 314, 3) := by decide +kernel
theorem dX5_needPlayer_8 : decode cX5_needPlayer 8 = .ok (.ifCond .ne 14, 3) := by decide +kernel
theorem dX5_needPlayer_11 : decode cX5_needPlayer 11 = .ok (.new 309, 3) := by decide +kernel
theorem dX5_needPlayer_14 : decode cX5_needPlayer 14 = .ok (.dup, 1) := by decide +kernel
theorem dX5_needPlayer_15 : decode cX5_needPlayer 15 = .ok (.ldc_w 317, 3) := by decide +kernel
theorem dX5_needPlayer_18 : decode cX5_needPlayer 18 = .ok (.invokespecial 313, 3) := by decide +kernel
theorem dX5_needPlayer_21 : decode cX5_needPlayer 21 = .ok (.athrow, 1) := by decide +kernel
theorem dX5_needPlayer_22 : decode cX5_needPlayer 22 = .ok (.return_, 1) := by decide +kernel
set_option maxRecDepth 20000 in
theorem ggX5_needSomeRole_X2_roleCount : GoodIn wsX5_needSomeRole wsX2_roleCount := goodIn_r _ [8, 9, 17, 18, 19, 20, 21, 22, 23, 24, 25, 26, 27, 28, 29, 30, 31, 32, 33] (by decide +kernel) (by decide +kernel)
set_option maxRecDepth 20000 in
theorem gX5_needSomeRole_X2_roleCount : GoodIn wsX5_needSomeRole (wsV RX5 91 RX2 yX2_roleCount wsX2_roleCount) := goodIn_app (goodIn_of _ (by decide +kernel)) ggX5_needSomeRole_X2_roleCount
theorem dX5_needSomeRole_0 : decode cX5_needSomeRole 0 = .ok (.aload_n 0, 1) := by decide +kernel
theorem dX5_needSomeRole_1 : decode cX5_needSomeRole 1 = .ok (.getfield 19, 3) := by decide +kernel
theorem dX5_needSomeRole_4 : decode cX5_needSomeRole 4 = .ok (.invokevirtual 91, 3) := by decide +kernel
theorem dX5_needSomeRole_7 : decode cX5_needSomeRole 7 = .ok (.ifCond .ne 13, 3) := by decide +kernel
theorem dX5_needSomeRole_10 : decode cX5_needSomeRole 10 = .ok (.new 60, 3) := by decide +kernel
theorem dX5_needSomeRole_13 : decode cX5_needSomeRole 13 = .ok (.dup, 1) := by decide +kernel
theorem dX5_needSomeRole_14 : decode cX5_needSomeRole 14 = .ok (.ldc 223, 2) := by decide +kernel
theorem dX5_needSomeRole_16 : decode cX5_needSomeRole 16 = .ok (.invokespecial 64, 3) := by decide +kernel
theorem dX5_needSomeRole_19 : decode cX5_needSomeRole 19 = .ok (.athrow, 1) := by decide +kernel
theorem dX5_needSomeRole_20 : decode cX5_needSomeRole 20 = .ok (.return_, 1) := by decide +kernel
theorem dX5_needSlot_0 : decode cX5_needSlot 0 = .ok (.iload_n 0, 1) := by decide +kernel
theorem dX5_needSlot_1 : decode cX5_needSlot 1 = .ok (.ifCond .lt 8, 3) := by decide +kernel
theorem dX5_needSlot_4 : decode cX5_needSlot 4 = .ok (.iload_n 0, 1) := by decide +kernel
theorem dX5_needSlot_5 : decode cX5_needSlot 5 = .ok (.iconst 2, 1) := by decide +kernel
theorem dX5_needSlot_6 : decode cX5_needSlot 6 = .ok (.if_icmp .lt 14, 3) := by decide +kernel
theorem dX5_needSlot_9 : decode cX5_needSlot 9 = .ok (.new 309, 3) := by decide +kernel
theorem dX5_needSlot_12 : decode cX5_needSlot 12 = .ok (.dup, 1) := by decide +kernel
theorem dX5_needSlot_13 : decode cX5_needSlot 13 = .ok (.ldc_w 319, 3) := by decide +kernel
theorem dX5_needSlot_16 : decode cX5_needSlot 16 = .ok (.invokespecial 313, 3) := by decide +kernel
theorem dX5_needSlot_19 : decode cX5_needSlot 19 = .ok (.athrow, 1) := by decide +kernel
theorem dX5_needSlot_20 : decode cX5_needSlot 20 = .ok (.return_, 1) := by decide +kernel
theorem dX5_needRange_0 : decode cX5_needRange 0 = .ok (.iload_n 0, 1) := by decide +kernel
theorem dX5_needRange_1 : decode cX5_needRange 1 = .ok (.iload_n 1, 1) := by decide +kernel
theorem dX5_needRange_2 : decode cX5_needRange 2 = .ok (.if_icmp .lt 8, 3) := by decide +kernel
theorem dX5_needRange_5 : decode cX5_needRange 5 = .ok (.iload_n 0, 1) := by decide +kernel
theorem dX5_needRange_6 : decode cX5_needRange 6 = .ok (.iload_n 2, 1) := by decide +kernel
theorem dX5_needRange_7 : decode cX5_needRange 7 = .ok (.if_icmp .le 14, 3) := by decide +kernel
theorem dX5_needRange_10 : decode cX5_needRange 10 = .ok (.new 115, 3) := by decide +kernel
theorem dX5_needRange_13 : decode cX5_needRange 13 = .ok (.dup, 1) := by decide +kernel
theorem dX5_needRange_14 : decode cX5_needRange 14 = .ok (.ldc_w 321, 3) := by decide +kernel
theorem dX5_needRange_17 : decode cX5_needRange 17 = .ok (.invokespecial 119, 3) := by decide +kernel
theorem dX5_needRange_20 : decode cX5_needRange 20 = .ok (.athrow, 1) := by decide +kernel
theorem dX5_needRange_21 : decode cX5_needRange 21 = .ok (.return_, 1) := by decide +kernel
set_option maxRecDepth 20000 in
theorem ggX6_init_X6_begins : GoodIn wsX6_init wsX6_begins := goodIn_r _ [18, 19, 20, 17, 21] (by decide +kernel) (by decide +kernel)
set_option maxRecDepth 20000 in
theorem gX6_init_X6_begins : GoodIn wsX6_init (va_wsS RX6 38 yX6_begins wsX6_begins) := goodIn_app (goodIn_of _ (by decide +kernel)) ggX6_init_X6_begins
theorem dX6_init_0 : decode cX6_init 0 = .ok (.aload_n 0, 1) := by decide +kernel
theorem dX6_init_1 : decode cX6_init 1 = .ok (.invokespecial 1, 3) := by decide +kernel
theorem dX6_init_4 : decode cX6_init 4 = .ok (.aload_n 0, 1) := by decide +kernel
theorem dX6_init_5 : decode cX6_init 5 = .ok (.sipush 190, 3) := by decide +kernel
theorem dX6_init_8 : decode cX6_init 8 = .ok (.newarray .int, 2) := by decide +kernel
theorem dX6_init_10 : decode cX6_init 10 = .ok (.putfield 7, 3) := by decide +kernel
theorem dX6_init_13 : decode cX6_init 13 = .ok (.aload_n 0, 1) := by decide +kernel
theorem dX6_init_14 : decode cX6_init 14 = .ok (.sipush 190, 3) := by decide +kernel
theorem dX6_init_17 : decode cX6_init 17 = .ok (.newarray .int, 2) := by decide +kernel
theorem dX6_init_19 : decode cX6_init 19 = .ok (.putfield 13, 3) := by decide +kernel
theorem dX6_init_22 : decode cX6_init 22 = .ok (.aload_n 0, 1) := by decide +kernel
theorem dX6_init_23 : decode cX6_init 23 = .ok (.sipush 2660, 3) := by decide +kernel
theorem dX6_init_26 : decode cX6_init 26 = .ok (.newarray .int, 2) := by decide +kernel
theorem dX6_init_28 : decode cX6_init 28 = .ok (.putfield 16, 3) := by decide +kernel
theorem dX6_init_31 : decode cX6_init 31 = .ok (.aload_n 0, 1) := by decide +kernel
theorem dX6_init_32 : decode cX6_init 32 = .ok (.sipush 380, 3) := by decide +kernel
theorem dX6_init_35 : decode cX6_init 35 = .ok (.newarray .int, 2) := by decide +kernel
theorem dX6_init_37 : decode cX6_init 37 = .ok (.putfield 19, 3) := by decide +kernel
theorem dX6_init_40 : decode cX6_init 40 = .ok (.aload_n 0, 1) := by decide +kernel
theorem dX6_init_41 : decode cX6_init 41 = .ok (.iconst 2, 1) := by decide +kernel
theorem dX6_init_42 : decode cX6_init 42 = .ok (.newarray .boolean, 2) := by decide +kernel
theorem dX6_init_44 : decode cX6_init 44 = .ok (.putfield 22, 3) := by decide +kernel
theorem dX6_init_47 : decode cX6_init 47 = .ok (.aload_n 0, 1) := by decide +kernel
theorem dX6_init_48 : decode cX6_init 48 = .ok (.bipush 120, 2) := by decide +kernel
theorem dX6_init_50 : decode cX6_init 50 = .ok (.newarray .int, 2) := by decide +kernel
theorem dX6_init_52 : decode cX6_init 52 = .ok (.putfield 26, 3) := by decide +kernel
theorem dX6_init_55 : decode cX6_init 55 = .ok (.aload_n 0, 1) := by decide +kernel
theorem dX6_init_56 : decode cX6_init 56 = .ok (.sipush 1024, 3) := by decide +kernel
theorem dX6_init_59 : decode cX6_init 59 = .ok (.newarray .int, 2) := by decide +kernel
theorem dX6_init_61 : decode cX6_init 61 = .ok (.putfield 29, 3) := by decide +kernel
theorem dX6_init_64 : decode cX6_init 64 = .ok (.aload_n 0, 1) := by decide +kernel
theorem dX6_init_65 : decode cX6_init 65 = .ok (.bipush 6, 2) := by decide +kernel
theorem dX6_init_67 : decode cX6_init 67 = .ok (.newarray .int, 2) := by decide +kernel
theorem dX6_init_69 : decode cX6_init 69 = .ok (.putfield 32, 3) := by decide +kernel
theorem dX6_init_72 : decode cX6_init 72 = .ok (.aload_n 0, 1) := by decide +kernel
theorem dX6_init_73 : decode cX6_init 73 = .ok (.sipush 484, 3) := by decide +kernel
theorem dX6_init_76 : decode cX6_init 76 = .ok (.newarray .int, 2) := by decide +kernel
theorem dX6_init_78 : decode cX6_init 78 = .ok (.putfield 35, 3) := by decide +kernel
theorem dX6_init_81 : decode cX6_init 81 = .ok (.aload_n 0, 1) := by decide +kernel
theorem dX6_init_82 : decode cX6_init 82 = .ok (.getfield 7, 3) := by decide +kernel
theorem dX6_init_85 : decode cX6_init 85 = .ok (.invokestatic 38, 3) := by decide +kernel
theorem dX6_init_88 : decode cX6_init 88 = .ok (.return_, 1) := by decide +kernel
theorem dX6_thrown_0 : decode cX6_thrown 0 = .ok (.aload_n 0, 1) := by decide +kernel
theorem dX6_thrown_1 : decode cX6_thrown 1 = .ok (.getfield 42, 3) := by decide +kernel
theorem dX6_thrown_4 : decode cX6_thrown 4 = .ok (.ireturn, 1) := by decide +kernel
theorem dX6_fails_0 : decode cX6_fails 0 = .ok (.aload_n 0, 1) := by decide +kernel
theorem dX6_fails_1 : decode cX6_fails 1 = .ok (.iload_n 1, 1) := by decide +kernel
theorem dX6_fails_2 : decode cX6_fails 2 = .ok (.putfield 42, 3) := by decide +kernel
theorem dX6_fails_5 : decode cX6_fails 5 = .ok (.iconst 0, 1) := by decide +kernel
theorem dX6_fails_6 : decode cX6_fails 6 = .ok (.ireturn, 1) := by decide +kernel
theorem dX6_in_0 : decode cX6_in 0 = .ok (.iload_n 0, 1) := by decide +kernel
theorem dX6_in_1 : decode cX6_in 1 = .ok (.iload_n 1, 1) := by decide +kernel
theorem dX6_in_2 : decode cX6_in 2 = .ok (.if_icmp .lt 12, 3) := by decide +kernel
theorem dX6_in_5 : decode cX6_in 5 = .ok (.iload_n 0, 1) := by decide +kernel
theorem dX6_in_6 : decode cX6_in 6 = .ok (.iload_n 2, 1) := by decide +kernel
theorem dX6_in_7 : decode cX6_in 7 = .ok (.if_icmp .gt 7, 3) := by decide +kernel
theorem dX6_in_10 : decode cX6_in 10 = .ok (.iconst 1, 1) := by decide +kernel
theorem dX6_in_11 : decode cX6_in 11 = .ok (.goto 4, 3) := by decide +kernel
theorem dX6_in_14 : decode cX6_in 14 = .ok (.iconst 0, 1) := by decide +kernel
theorem dX6_in_15 : decode cX6_in 15 = .ok (.ireturn, 1) := by decide +kernel
set_option maxRecDepth 20000 in
theorem ggX6_begins_X6_in : GoodIn wsX6_begins wsX6_in := goodIn_r _ [4] (by decide +kernel) (by decide +kernel)
set_option maxRecDepth 20000 in
theorem gX6_begins_X6_in : GoodIn wsX6_begins (va_wsS RX6 46 yX6_in wsX6_in) := goodIn_app (goodIn_of _ (by decide +kernel)) ggX6_begins_X6_in
theorem dX6_begins_0 : decode cX6_begins 0 = .ok (.iconst 0, 1) := by decide +kernel
theorem dX6_begins_1 : decode cX6_begins 1 = .ok (.istore_n 1, 1) := by decide +kernel
theorem dX6_begins_2 : decode cX6_begins 2 = .ok (.iload_n 1, 1) := by decide +kernel
theorem dX6_begins_3 : decode cX6_begins 3 = .ok (.sipush 190, 3) := by decide +kernel
theorem dX6_begins_6 : decode cX6_begins 6 = .ok (.if_icmp .ge 28, 3) := by decide +kernel
theorem dX6_begins_9 : decode cX6_begins 9 = .ok (.aload_n 0, 1) := by decide +kernel
theorem dX6_begins_10 : decode cX6_begins 10 = .ok (.iload_n 1, 1) := by decide +kernel
theorem dX6_begins_11 : decode cX6_begins 11 = .ok (.iload_n 1, 1) := by decide +kernel
theorem dX6_begins_12 : decode cX6_begins 12 = .ok (.bipush 18, 2) := by decide +kernel
theorem dX6_begins_14 : decode cX6_begins 14 = .ok (.bipush 23, 2) := by decide +kernel
theorem dX6_begins_16 : decode cX6_begins 16 = .ok (.invokestatic 46, 3) := by decide +kernel
theorem dX6_begins_19 : decode cX6_begins 19 = .ok (.ifCond .eq 7, 3) := by decide +kernel
theorem dX6_begins_22 : decode cX6_begins 22 = .ok (.iconst (-1), 1) := by decide +kernel
theorem dX6_begins_23 : decode cX6_begins 23 = .ok (.goto 4, 3) := by decide +kernel
theorem dX6_begins_26 : decode cX6_begins 26 = .ok (.iconst 0, 1) := by decide +kernel
theorem dX6_begins_27 : decode cX6_begins 27 = .ok (.iastore, 1) := by decide +kernel
theorem dX6_begins_28 : decode cX6_begins 28 = .ok (.iinc 1 1, 3) := by decide +kernel
theorem dX6_begins_31 : decode cX6_begins 31 = .ok (.goto (-29), 3) := by decide +kernel
theorem dX6_begins_34 : decode cX6_begins 34 = .ok (.aload_n 0, 1) := by decide +kernel
theorem dX6_begins_35 : decode cX6_begins 35 = .ok (.iconst 5, 1) := by decide +kernel
theorem dX6_begins_36 : decode cX6_begins 36 = .ok (.iconst 5, 1) := by decide +kernel
theorem dX6_begins_37 : decode cX6_begins 37 = .ok (.iastore, 1) := by decide +kernel
theorem dX6_begins_38 : decode cX6_begins 38 = .ok (.aload_n 0, 1) := by decide +kernel
theorem dX6_begins_39 : decode cX6_begins 39 = .ok (.bipush 6, 2) := by decide +kernel
theorem dX6_begins_41 : decode cX6_begins 41 = .ok (.bipush 10, 2) := by decide +kernel
theorem dX6_begins_43 : decode cX6_begins 43 = .ok (.iastore, 1) := by decide +kernel
theorem dX6_begins_44 : decode cX6_begins 44 = .ok (.aload_n 0, 1) := by decide +kernel
theorem dX6_begins_45 : decode cX6_begins 45 = .ok (.bipush 7, 2) := by decide +kernel
theorem dX6_begins_47 : decode cX6_begins 47 = .ok (.iconst 2, 1) := by decide +kernel
theorem dX6_begins_48 : decode cX6_begins 48 = .ok (.iastore, 1) := by decide +kernel
theorem dX6_begins_49 : decode cX6_begins 49 = .ok (.aload_n 0, 1) := by decide +kernel
theorem dX6_begins_50 : decode cX6_begins 50 = .ok (.bipush 8, 2) := by decide +kernel
theorem dX6_begins_52 : decode cX6_begins 52 = .ok (.iconst 5, 1) := by decide +kernel
theorem dX6_begins_53 : decode cX6_begins 53 = .ok (.iastore, 1) := by decide +kernel
theorem dX6_begins_54 : decode cX6_begins 54 = .ok (.aload_n 0, 1) := by decide +kernel
theorem dX6_begins_55 : decode cX6_begins 55 = .ok (.bipush 9, 2) := by decide +kernel
theorem dX6_begins_57 : decode cX6_begins 57 = .ok (.bipush 15, 2) := by decide +kernel
theorem dX6_begins_59 : decode cX6_begins 59 = .ok (.iastore, 1) := by decide +kernel
theorem dX6_begins_60 : decode cX6_begins 60 = .ok (.return_, 1) := by decide +kernel
set_option maxRecDepth 20000 in
theorem ggX6_isRole_X6_in : GoodIn wsX6_isRole wsX6_in := goodIn_r _ [4] (by decide +kernel) (by decide +kernel)
set_option maxRecDepth 20000 in
theorem gX6_isRole_X6_in : GoodIn wsX6_isRole (va_wsS RX6 46 yX6_in wsX6_in) := goodIn_app (goodIn_of _ (by decide +kernel)) ggX6_isRole_X6_in
theorem dX6_isRole_0 : decode cX6_isRole 0 = .ok (.iload_n 1, 1) := by decide +kernel
theorem dX6_isRole_1 : decode cX6_isRole 1 = .ok (.iconst 0, 1) := by decide +kernel
theorem dX6_isRole_2 : decode cX6_isRole 2 = .ok (.aload_n 0, 1) := by decide +kernel
theorem dX6_isRole_3 : decode cX6_isRole 3 = .ok (.iconst 3, 1) := by decide +kernel
theorem dX6_isRole_4 : decode cX6_isRole 4 = .ok (.iaload, 1) := by decide +kernel
theorem dX6_isRole_5 : decode cX6_isRole 5 = .ok (.iconst 1, 1) := by decide +kernel
theorem dX6_isRole_6 : decode cX6_isRole 6 = .ok (.isub, 1) := by decide +kernel
theorem dX6_isRole_7 : decode cX6_isRole 7 = .ok (.invokestatic 46, 3) := by decide +kernel
theorem dX6_isRole_10 : decode cX6_isRole 10 = .ok (.ireturn, 1) := by decide +kernel
set_option maxRecDepth 20000 in
theorem ggX6_isPlayer_X6_in : GoodIn wsX6_isPlayer wsX6_in := goodIn_r _ [4] (by decide +kernel) (by decide +kernel)
set_option maxRecDepth 20000 in
theorem gX6_isPlayer_X6_in : GoodIn wsX6_isPlayer (va_wsS RX6 46 yX6_in wsX6_in) := goodIn_app (goodIn_of _ (by decide +kernel)) ggX6_isPlayer_X6_in
theorem dX6_isPlayer_0 : decode cX6_isPlayer 0 = .ok (.iload_n 1, 1) := by decide +kernel
theorem dX6_isPlayer_1 : decode cX6_isPlayer 1 = .ok (.iconst 0, 1) := by decide +kernel
theorem dX6_isPlayer_2 : decode cX6_isPlayer 2 = .ok (.aload_n 0, 1) := by decide +kernel
theorem dX6_isPlayer_3 : decode cX6_isPlayer 3 = .ok (.iconst 4, 1) := by decide +kernel
theorem dX6_isPlayer_4 : decode cX6_isPlayer 4 = .ok (.iaload, 1) := by decide +kernel
theorem dX6_isPlayer_5 : decode cX6_isPlayer 5 = .ok (.iconst 1, 1) := by decide +kernel
theorem dX6_isPlayer_6 : decode cX6_isPlayer 6 = .ok (.isub, 1) := by decide +kernel
theorem dX6_isPlayer_7 : decode cX6_isPlayer 7 = .ok (.invokestatic 46, 3) := by decide +kernel
theorem dX6_isPlayer_10 : decode cX6_isPlayer 10 = .ok (.ireturn, 1) := by decide +kernel
theorem dX6_lays_0 : decode cX6_lays 0 = .ok (.iconst 0, 1) := by decide +kernel
theorem dX6_lays_1 : decode cX6_lays 1 = .ok (.istore 4, 2) := by decide +kernel
theorem dX6_lays_3 : decode cX6_lays 3 = .ok (.iload 4, 2) := by decide +kernel
theorem dX6_lays_5 : decode cX6_lays 5 = .ok (.sipush 190, 3) := by decide +kernel
theorem dX6_lays_8 : decode cX6_lays 8 = .ok (.if_icmp .ge 21, 3) := by decide +kernel
theorem dX6_lays_11 : decode cX6_lays 11 = .ok (.aload_n 2, 1) := by decide +kernel
theorem dX6_lays_12 : decode cX6_lays 12 = .ok (.iload_n 3, 1) := by decide +kernel
theorem dX6_lays_13 : decode cX6_lays 13 = .ok (.iload 4, 2) := by decide +kernel
theorem dX6_lays_15 : decode cX6_lays 15 = .ok (.iadd, 1) := by decide +kernel
theorem dX6_lays_16 : decode cX6_lays 16 = .ok (.aload_n 0, 1) := by decide +kernel
theorem dX6_lays_17 : decode cX6_lays 17 = .ok (.iload_n 1, 1) := by decide +kernel
theorem dX6_lays_18 : decode cX6_lays 18 = .ok (.iload 4, 2) := by decide +kernel
theorem dX6_lays_20 : decode cX6_lays 20 = .ok (.iadd, 1) := by decide +kernel
theorem dX6_lays_21 : decode cX6_lays 21 = .ok (.iaload, 1) := by decide +kernel
theorem dX6_lays_22 : decode cX6_lays 22 = .ok (.iastore, 1) := by decide +kernel
theorem dX6_lays_23 : decode cX6_lays 23 = .ok (.iinc 4 1, 3) := by decide +kernel
theorem dX6_lays_26 : decode cX6_lays 26 = .ok (.goto (-23), 3) := by decide +kernel
theorem dX6_lays_29 : decode cX6_lays 29 = .ok (.return_, 1) := by decide +kernel
set_option maxRecDepth 20000 in
theorem ggX6_remembers_X6_lays : GoodIn wsX6_remembers wsX6_lays := goodIn_r _ [7] (by decide +kernel) (by decide +kernel)
set_option maxRecDepth 20000 in
theorem gX6_remembers_X6_lays : GoodIn wsX6_remembers (va_wsS RX6 53 yX6_lays wsX6_lays) := goodIn_app (goodIn_of _ (by decide +kernel)) ggX6_remembers_X6_lays
theorem dX6_remembers_0 : decode cX6_remembers 0 = .ok (.aload_n 0, 1) := by decide +kernel
theorem dX6_remembers_1 : decode cX6_remembers 1 = .ok (.getfield 50, 3) := by decide +kernel
theorem dX6_remembers_4 : decode cX6_remembers 4 = .ok (.bipush 14, 2) := by decide +kernel
theorem dX6_remembers_6 : decode cX6_remembers 6 = .ok (.if_icmp .ne 44, 3) := by decide +kernel
theorem dX6_remembers_9 : decode cX6_remembers 9 = .ok (.iconst 0, 1) := by decide +kernel
theorem dX6_remembers_10 : decode cX6_remembers 10 = .ok (.istore_n 1, 1) := by decide +kernel
theorem dX6_remembers_11 : decode cX6_remembers 11 = .ok (.iload_n 1, 1) := by decide +kernel
theorem dX6_remembers_12 : decode cX6_remembers 12 = .ok (.sipush 2470, 3) := by decide +kernel
theorem dX6_remembers_15 : decode cX6_remembers 15 = .ok (.if_icmp .ge 25, 3) := by decide +kernel
theorem dX6_remembers_18 : decode cX6_remembers 18 = .ok (.aload_n 0, 1) := by decide +kernel
theorem dX6_remembers_19 : decode cX6_remembers 19 = .ok (.getfield 16, 3) := by decide +kernel
theorem dX6_remembers_22 : decode cX6_remembers 22 = .ok (.iload_n 1, 1) := by decide +kernel
theorem dX6_remembers_23 : decode cX6_remembers 23 = .ok (.aload_n 0, 1) := by decide +kernel
theorem dX6_remembers_24 : decode cX6_remembers 24 = .ok (.getfield 16, 3) := by decide +kernel
theorem dX6_remembers_27 : decode cX6_remembers 27 = .ok (.iload_n 1, 1) := by decide +kernel
theorem dX6_remembers_28 : decode cX6_remembers 28 = .ok (.sipush 190, 3) := by decide +kernel
theorem dX6_remembers_31 : decode cX6_remembers 31 = .ok (.iadd, 1) := by decide +kernel
theorem dX6_remembers_32 : decode cX6_remembers 32 = .ok (.iaload, 1) := by decide +kernel
theorem dX6_remembers_33 : decode cX6_remembers 33 = .ok (.iastore, 1) := by decide +kernel
theorem dX6_remembers_34 : decode cX6_remembers 34 = .ok (.iinc 1 1, 3) := by decide +kernel
theorem dX6_remembers_37 : decode cX6_remembers 37 = .ok (.goto (-26), 3) := by decide +kernel
theorem dX6_remembers_40 : decode cX6_remembers 40 = .ok (.aload_n 0, 1) := by decide +kernel
theorem dX6_remembers_41 : decode cX6_remembers 41 = .ok (.dup, 1) := by decide +kernel
theorem dX6_remembers_42 : decode cX6_remembers 42 = .ok (.getfield 50, 3) := by decide +kernel
theorem dX6_remembers_45 : decode cX6_remembers 45 = .ok (.iconst 1, 1) := by decide +kernel
theorem dX6_remembers_46 : decode cX6_remembers 46 = .ok (.isub, 1) := by decide +kernel
theorem dX6_remembers_47 : decode cX6_remembers 47 = .ok (.putfield 50, 3) := by decide +kernel
theorem dX6_remembers_50 : decode cX6_remembers 50 = .ok (.aload_n 0, 1) := by decide +kernel
theorem dX6_remembers_51 : decode cX6_remembers 51 = .ok (.getfield 7, 3) := by decide +kernel
theorem dX6_remembers_54 : decode cX6_remembers 54 = .ok (.iconst 0, 1) := by decide +kernel
theorem dX6_remembers_55 : decode cX6_remembers 55 = .ok (.aload_n 0, 1) := by decide +kernel
theorem dX6_remembers_56 : decode cX6_remembers 56 = .ok (.getfield 16, 3) := by decide +kernel
theorem dX6_remembers_59 : decode cX6_remembers 59 = .ok (.sipush 190, 3) := by decide +kernel
theorem dX6_remembers_62 : decode cX6_remembers 62 = .ok (.aload_n 0, 1) := by decide +kernel
theorem dX6_remembers_63 : decode cX6_remembers 63 = .ok (.getfield 50, 3) := by decide +kernel
theorem dX6_remembers_66 : decode cX6_remembers 66 = .ok (.imul, 1) := by decide +kernel
theorem dX6_remembers_67 : decode cX6_remembers 67 = .ok (.invokestatic 53, 3) := by decide +kernel
theorem dX6_remembers_70 : decode cX6_remembers 70 = .ok (.aload_n 0, 1) := by decide +kernel
theorem dX6_remembers_71 : decode cX6_remembers 71 = .ok (.dup, 1) := by decide +kernel
theorem dX6_remembers_72 : decode cX6_remembers 72 = .ok (.getfield 50, 3) := by decide +kernel
theorem dX6_remembers_75 : decode cX6_remembers 75 = .ok (.iconst 1, 1) := by decide +kernel
theorem dX6_remembers_76 : decode cX6_remembers 76 = .ok (.iadd, 1) := by decide +kernel
theorem dX6_remembers_77 : decode cX6_remembers 77 = .ok (.putfield 50, 3) := by decide +kernel
theorem dX6_remembers_80 : decode cX6_remembers 80 = .ok (.return_, 1) := by decide +kernel
set_option maxRecDepth 20000 in
theorem ggX6_undo_X6_fails : GoodIn wsX6_undo wsX6_fails := goodIn_r _ [9, 1, 13, 14, 15, 16, 17, 18, 19, 20, 21, 22, 23, 24, 25, 26] (by decide +kernel) (by decide +kernel)
set_option maxRecDepth 20000 in
theorem gX6_undo_X6_fails : GoodIn wsX6_undo (wsV RX6 57 RX6 yX6_fails wsX6_fails) := goodIn_app (goodIn_of _ (by decide +kernel)) ggX6_undo_X6_fails
set_option maxRecDepth 20000 in
theorem ggX6_undo_X6_lays : GoodIn wsX6_undo wsX6_lays := goodIn_r _ [12] (by decide +kernel) (by decide +kernel)
set_option maxRecDepth 20000 in
theorem gX6_undo_X6_lays : GoodIn wsX6_undo (va_wsS RX6 53 yX6_lays wsX6_lays) := goodIn_app (goodIn_of _ (by decide +kernel)) ggX6_undo_X6_lays
theorem dX6_undo_0 : decode cX6_undo 0 = .ok (.aload_n 0, 1) := by decide +kernel
theorem dX6_undo_1 : decode cX6_undo 1 = .ok (.iconst 0, 1) := by decide +kernel
theorem dX6_undo_2 : decode cX6_undo 2 = .ok (.putfield 42, 3) := by decide +kernel
theorem dX6_undo_5 : decode cX6_undo 5 = .ok (.aload_n 0, 1) := by decide +kernel
theorem dX6_undo_6 : decode cX6_undo 6 = .ok (.getfield 50, 3) := by decide +kernel
theorem dX6_undo_9 : decode cX6_undo 9 = .ok (.ifCond .ne 9, 3) := by decide +kernel
theorem dX6_undo_12 : decode cX6_undo 12 = .ok (.aload_n 0, 1) := by decide +kernel
theorem dX6_undo_13 : decode cX6_undo 13 = .ok (.iconst 1, 1) := by decide +kernel
theorem dX6_undo_14 : decode cX6_undo 14 = .ok (.invokevirtual 57, 3) := by decide +kernel
theorem dX6_undo_17 : decode cX6_undo 17 = .ok (.ireturn, 1) := by decide +kernel
theorem dX6_undo_18 : decode cX6_undo 18 = .ok (.aload_n 0, 1) := by decide +kernel
theorem dX6_undo_19 : decode cX6_undo 19 = .ok (.dup, 1) := by decide +kernel
theorem dX6_undo_20 : decode cX6_undo 20 = .ok (.getfield 50, 3) := by decide +kernel
theorem dX6_undo_23 : decode cX6_undo 23 = .ok (.iconst 1, 1) := by decide +kernel
theorem dX6_undo_24 : decode cX6_undo 24 = .ok (.isub, 1) := by decide +kernel
theorem dX6_undo_25 : decode cX6_undo 25 = .ok (.putfield 50, 3) := by decide +kernel
theorem dX6_undo_28 : decode cX6_undo 28 = .ok (.aload_n 0, 1) := by decide +kernel
theorem dX6_undo_29 : decode cX6_undo 29 = .ok (.getfield 16, 3) := by decide +kernel
theorem dX6_undo_32 : decode cX6_undo 32 = .ok (.sipush 190, 3) := by decide +kernel
theorem dX6_undo_35 : decode cX6_undo 35 = .ok (.aload_n 0, 1) := by decide +kernel
theorem dX6_undo_36 : decode cX6_undo 36 = .ok (.getfield 50, 3) := by decide +kernel
theorem dX6_undo_39 : decode cX6_undo 39 = .ok (.imul, 1) := by decide +kernel
theorem dX6_undo_40 : decode cX6_undo 40 = .ok (.aload_n 0, 1) := by decide +kernel
theorem dX6_undo_41 : decode cX6_undo 41 = .ok (.getfield 7, 3) := by decide +kernel
theorem dX6_undo_44 : decode cX6_undo 44 = .ok (.iconst 0, 1) := by decide +kernel
theorem dX6_undo_45 : decode cX6_undo 45 = .ok (.invokestatic 53, 3) := by decide +kernel
theorem dX6_undo_48 : decode cX6_undo 48 = .ok (.aload_n 0, 1) := by decide +kernel
theorem dX6_undo_49 : decode cX6_undo 49 = .ok (.getfield 50, 3) := by decide +kernel
theorem dX6_undo_52 : decode cX6_undo 52 = .ok (.ireturn, 1) := by decide +kernel
set_option maxRecDepth 20000 in
theorem ggX6_save_X6_in : GoodIn wsX6_save wsX6_in := goodIn_r _ [8] (by decide +kernel) (by decide +kernel)
set_option maxRecDepth 20000 in
theorem gX6_save_X6_in : GoodIn wsX6_save (va_wsS RX6 46 yX6_in wsX6_in) := goodIn_app (goodIn_of _ (by decide +kernel)) ggX6_save_X6_in
set_option maxRecDepth 20000 in
theorem ggX6_save_X6_fails : GoodIn wsX6_save wsX6_fails := goodIn_r _ [12, 1, 16, 17, 18, 19, 20, 21, 22, 23, 24, 25, 26, 27, 28, 29] (by decide +kernel) (by decide +kernel)
set_option maxRecDepth 20000 in
theorem gX6_save_X6_fails : GoodIn wsX6_save (wsV RX6 57 RX6 yX6_fails wsX6_fails) := goodIn_app (goodIn_of _ (by decide +kernel)) ggX6_save_X6_fails
set_option maxRecDepth 20000 in
theorem ggX6_save_X6_lays : GoodIn wsX6_save wsX6_lays := goodIn_r _ [15] (by decide +kernel) (by decide +kernel)
set_option maxRecDepth 20000 in
theorem gX6_save_X6_lays : GoodIn wsX6_save (va_wsS RX6 53 yX6_lays wsX6_lays) := goodIn_app (goodIn_of _ (by decide +kernel)) ggX6_save_X6_lays
theorem dX6_save_0 : decode cX6_save 0 = .ok (.aload_n 0, 1) := by decide +kernel
theorem dX6_save_1 : decode cX6_save 1 = .ok (.iconst 0, 1) := by decide +kernel
theorem dX6_save_2 : decode cX6_save 2 = .ok (.putfield 42, 3) := by decide +kernel
theorem dX6_save_5 : decode cX6_save 5 = .ok (.iload_n 1, 1) := by decide +kernel
theorem dX6_save_6 : decode cX6_save 6 = .ok (.iconst 0, 1) := by decide +kernel
theorem dX6_save_7 : decode cX6_save 7 = .ok (.iconst 1, 1) := by decide +kernel
theorem dX6_save_8 : decode cX6_save 8 = .ok (.invokestatic 46, 3) := by decide +kernel
theorem dX6_save_11 : decode cX6_save 11 = .ok (.ifCond .ne 9, 3) := by decide +kernel
theorem dX6_save_14 : decode cX6_save 14 = .ok (.aload_n 0, 1) := by decide +kernel
theorem dX6_save_15 : decode cX6_save 15 = .ok (.iconst 1, 1) := by decide +kernel
theorem dX6_save_16 : decode cX6_save 16 = .ok (.invokevirtual 57, 3) := by decide +kernel
theorem dX6_save_19 : decode cX6_save 19 = .ok (.ireturn, 1) := by decide +kernel
theorem dX6_save_20 : decode cX6_save 20 = .ok (.aload_n 0, 1) := by decide +kernel
theorem dX6_save_21 : decode cX6_save 21 = .ok (.getfield 7, 3) := by decide +kernel
theorem dX6_save_24 : decode cX6_save 24 = .ok (.iconst 0, 1) := by decide +kernel
theorem dX6_save_25 : decode cX6_save 25 = .ok (.aload_n 0, 1) := by decide +kernel
theorem dX6_save_26 : decode cX6_save 26 = .ok (.getfield 19, 3) := by decide +kernel
theorem dX6_save_29 : decode cX6_save 29 = .ok (.sipush 190, 3) := by decide +kernel
theorem dX6_save_32 : decode cX6_save 32 = .ok (.iload_n 1, 1) := by decide +kernel
theorem dX6_save_33 : decode cX6_save 33 = .ok (.imul, 1) := by decide +kernel
theorem dX6_save_34 : decode cX6_save 34 = .ok (.invokestatic 53, 3) := by decide +kernel
theorem dX6_save_37 : decode cX6_save 37 = .ok (.aload_n 0, 1) := by decide +kernel
theorem dX6_save_38 : decode cX6_save 38 = .ok (.getfield 22, 3) := by decide +kernel
theorem dX6_save_41 : decode cX6_save 41 = .ok (.iload_n 1, 1) := by decide +kernel
theorem dX6_save_42 : decode cX6_save 42 = .ok (.iconst 1, 1) := by decide +kernel
theorem dX6_save_43 : decode cX6_save 43 = .ok (.bastore, 1) := by decide +kernel
theorem dX6_save_44 : decode cX6_save 44 = .ok (.aload_n 0, 1) := by decide +kernel
theorem dX6_save_45 : decode cX6_save 45 = .ok (.getfield 7, 3) := by decide +kernel
theorem dX6_save_48 : decode cX6_save 48 = .ok (.iconst 0, 1) := by decide +kernel
theorem dX6_save_49 : decode cX6_save 49 = .ok (.iaload, 1) := by decide +kernel
theorem dX6_save_50 : decode cX6_save 50 = .ok (.ireturn, 1) := by decide +kernel
set_option maxRecDepth 20000 in
theorem ggX6_restore_X6_in : GoodIn wsX6_restore wsX6_in := goodIn_r _ [9] (by decide +kernel) (by decide +kernel)
set_option maxRecDepth 20000 in
theorem gX6_restore_X6_in : GoodIn wsX6_restore (va_wsS RX6 46 yX6_in wsX6_in) := goodIn_app (goodIn_of _ (by decide +kernel)) ggX6_restore_X6_in
set_option maxRecDepth 20000 in
theorem ggX6_restore_X6_fails : GoodIn wsX6_restore wsX6_fails := goodIn_r _ [13, 1, 17, 18, 19, 20, 21, 22, 23, 24, 25, 26, 27, 28, 29, 30] (by decide +kernel) (by decide +kernel)
set_option maxRecDepth 20000 in
theorem gX6_restore_X6_fails : GoodIn wsX6_restore (wsV RX6 57 RX6 yX6_fails wsX6_fails) := goodIn_app (goodIn_of _ (by decide +kernel)) ggX6_restore_X6_fails
set_option maxRecDepth 20000 in
theorem ggX6_restore_X6_lays : GoodIn wsX6_restore wsX6_lays := goodIn_r _ [16] (by decide +kernel) (by decide +kernel)
set_option maxRecDepth 20000 in
theorem gX6_restore_X6_lays : GoodIn wsX6_restore (va_wsS RX6 53 yX6_lays wsX6_lays) := goodIn_app (goodIn_of _ (by decide +kernel)) ggX6_restore_X6_lays
theorem dX6_restore_0 : decode cX6_restore 0 = .ok (.aload_n 0, 1) := by decide +kernel
theorem dX6_restore_1 : decode cX6_restore 1 = .ok (.iconst 0, 1) := by decide +kernel
theorem dX6_restore_2 : decode cX6_restore 2 = .ok (.putfield 42, 3) := by decide +kernel
theorem dX6_restore_5 : decode cX6_restore 5 = .ok (.iload_n 1, 1) := by decide +kernel
theorem dX6_restore_6 : decode cX6_restore 6 = .ok (.iconst 0, 1) := by decide +kernel
theorem dX6_restore_7 : decode cX6_restore 7 = .ok (.iconst 1, 1) := by decide +kernel
theorem dX6_restore_8 : decode cX6_restore 8 = .ok (.invokestatic 46, 3) := by decide +kernel
theorem dX6_restore_11 : decode cX6_restore 11 = .ok (.ifCond .ne 9, 3) := by decide +kernel
theorem dX6_restore_14 : decode cX6_restore 14 = .ok (.aload_n 0, 1) := by decide +kernel
theorem dX6_restore_15 : decode cX6_restore 15 = .ok (.iconst 1, 1) := by decide +kernel
theorem dX6_restore_16 : decode cX6_restore 16 = .ok (.invokevirtual 57, 3) := by decide +kernel
theorem dX6_restore_19 : decode cX6_restore 19 = .ok (.ireturn, 1) := by decide +kernel
theorem dX6_restore_20 : decode cX6_restore 20 = .ok (.aload_n 0, 1) := by decide +kernel
theorem dX6_restore_21 : decode cX6_restore 21 = .ok (.getfield 22, 3) := by decide +kernel
theorem dX6_restore_24 : decode cX6_restore 24 = .ok (.iload_n 1, 1) := by decide +kernel
theorem dX6_restore_25 : decode cX6_restore 25 = .ok (.baload, 1) := by decide +kernel
theorem dX6_restore_26 : decode cX6_restore 26 = .ok (.ifCond .ne 9, 3) := by decide +kernel
theorem dX6_restore_29 : decode cX6_restore 29 = .ok (.aload_n 0, 1) := by decide +kernel
theorem dX6_restore_30 : decode cX6_restore 30 = .ok (.iconst 2, 1) := by decide +kernel
theorem dX6_restore_31 : decode cX6_restore 31 = .ok (.invokevirtual 57, 3) := by decide +kernel
theorem dX6_restore_34 : decode cX6_restore 34 = .ok (.ireturn, 1) := by decide +kernel
theorem dX6_restore_35 : decode cX6_restore 35 = .ok (.aload_n 0, 1) := by decide +kernel
theorem dX6_restore_36 : decode cX6_restore 36 = .ok (.getfield 19, 3) := by decide +kernel
theorem dX6_restore_39 : decode cX6_restore 39 = .ok (.sipush 190, 3) := by decide +kernel
theorem dX6_restore_42 : decode cX6_restore 42 = .ok (.iload_n 1, 1) := by decide +kernel
theorem dX6_restore_43 : decode cX6_restore 43 = .ok (.imul, 1) := by decide +kernel
theorem dX6_restore_44 : decode cX6_restore 44 = .ok (.aload_n 0, 1) := by decide +kernel
theorem dX6_restore_45 : decode cX6_restore 45 = .ok (.getfield 7, 3) := by decide +kernel
theorem dX6_restore_48 : decode cX6_restore 48 = .ok (.iconst 0, 1) := by decide +kernel
theorem dX6_restore_49 : decode cX6_restore 49 = .ok (.invokestatic 53, 3) := by decide +kernel
theorem dX6_restore_52 : decode cX6_restore 52 = .ok (.aload_n 0, 1) := by decide +kernel
theorem dX6_restore_53 : decode cX6_restore 53 = .ok (.iconst 0, 1) := by decide +kernel
theorem dX6_restore_54 : decode cX6_restore 54 = .ok (.putfield 50, 3) := by decide +kernel
theorem dX6_restore_57 : decode cX6_restore 57 = .ok (.aload_n 0, 1) := by decide +kernel
theorem dX6_restore_58 : decode cX6_restore 58 = .ok (.getfield 7, 3) := by decide +kernel
theorem dX6_restore_61 : decode cX6_restore 61 = .ok (.iconst 0, 1) := by decide +kernel
theorem dX6_restore_62 : decode cX6_restore 62 = .ok (.iaload, 1) := by decide +kernel
theorem dX6_restore_63 : decode cX6_restore 63 = .ok (.ireturn, 1) := by decide +kernel
theorem dX6_readyFor_0 : decode cX6_readyFor 0 = .ok (.aload_n 0, 1) := by decide +kernel
theorem dX6_readyFor_1 : decode cX6_readyFor 1 = .ok (.bipush 70, 2) := by decide +kernel
theorem dX6_readyFor_3 : decode cX6_readyFor 3 = .ok (.bipush 6, 2) := by decide +kernel
theorem dX6_readyFor_5 : decode cX6_readyFor 5 = .ok (.iload_n 1, 1) := by decide +kernel
theorem dX6_readyFor_6 : decode cX6_readyFor 6 = .ok (.imul, 1) := by decide +kernel
theorem dX6_readyFor_7 : decode cX6_readyFor 7 = .ok (.iadd, 1) := by decide +kernel
theorem dX6_readyFor_8 : decode cX6_readyFor 8 = .ok (.iload_n 2, 1) := by decide +kernel
theorem dX6_readyFor_9 : decode cX6_readyFor 9 = .ok (.iadd, 1) := by decide +kernel
theorem dX6_readyFor_10 : decode cX6_readyFor 10 = .ok (.iaload, 1) := by decide +kernel
theorem dX6_readyFor_11 : decode cX6_readyFor 11 = .ok (.ireturn, 1) := by decide +kernel
set_option maxRecDepth 20000 in
theorem ggX6_worth_X6_readyFor : GoodIn wsX6_worth wsX6_readyFor := goodIn_r _ [4] (by decide +kernel) (by decide +kernel)
set_option maxRecDepth 20000 in
theorem gX6_worth_X6_readyFor : GoodIn wsX6_worth (va_wsS RX6 61 yX6_readyFor wsX6_readyFor) := goodIn_app (goodIn_of _ (by decide +kernel)) ggX6_worth_X6_readyFor
theorem dX6_worth_0 : decode cX6_worth 0 = .ok (.aload_n 0, 1) := by decide +kernel
theorem dX6_worth_1 : decode cX6_worth 1 = .ok (.iload_n 1, 1) := by decide +kernel
theorem dX6_worth_2 : decode cX6_worth 2 = .ok (.iload_n 2, 1) := by decide +kernel
theorem dX6_worth_3 : decode cX6_worth 3 = .ok (.invokestatic 61, 3) := by decide +kernel
theorem dX6_worth_6 : decode cX6_worth 6 = .ok (.istore_n 3, 1) := by decide +kernel
theorem dX6_worth_7 : decode cX6_worth 7 = .ok (.iload_n 3, 1) := by decide +kernel
theorem dX6_worth_8 : decode cX6_worth 8 = .ok (.ifCond .ne 7, 3) := by decide +kernel
theorem dX6_worth_11 : decode cX6_worth 11 = .ok (.iconst 0, 1) := by decide +kernel
theorem dX6_worth_12 : decode cX6_worth 12 = .ok (.goto 28, 3) := by decide +kernel
theorem dX6_worth_15 : decode cX6_worth 15 = .ok (.aload_n 0, 1) := by decide +kernel
theorem dX6_worth_16 : decode cX6_worth 16 = .ok (.bipush 12, 2) := by decide +kernel
theorem dX6_worth_18 : decode cX6_worth 18 = .ok (.iload_n 2, 1) := by decide +kernel
theorem dX6_worth_19 : decode cX6_worth 19 = .ok (.iadd, 1) := by decide +kernel
theorem dX6_worth_20 : decode cX6_worth 20 = .ok (.iaload, 1) := by decide +kernel
theorem dX6_worth_21 : decode cX6_worth 21 = .ok (.aload_n 0, 1) := by decide +kernel
theorem dX6_worth_22 : decode cX6_worth 22 = .ok (.bipush 18, 2) := by decide +kernel
theorem dX6_worth_24 : decode cX6_worth 24 = .ok (.iload_n 2, 1) := by decide +kernel
theorem dX6_worth_25 : decode cX6_worth 25 = .ok (.iadd, 1) := by decide +kernel
theorem dX6_worth_26 : decode cX6_worth 26 = .ok (.iaload, 1) := by decide +kernel
theorem dX6_worth_27 : decode cX6_worth 27 = .ok (.iload_n 1, 1) := by decide +kernel
theorem dX6_worth_28 : decode cX6_worth 28 = .ok (.if_icmp .ne 10, 3) := by decide +kernel
theorem dX6_worth_31 : decode cX6_worth 31 = .ok (.iload_n 3, 1) := by decide +kernel
theorem dX6_worth_32 : decode cX6_worth 32 = .ok (.bipush 10, 2) := by decide +kernel
theorem dX6_worth_34 : decode cX6_worth 34 = .ok (.iadd, 1) := by decide +kernel
theorem dX6_worth_35 : decode cX6_worth 35 = .ok (.goto 4, 3) := by decide +kernel
theorem dX6_worth_38 : decode cX6_worth 38 = .ok (.iload_n 3, 1) := by decide +kernel
theorem dX6_worth_39 : decode cX6_worth 39 = .ok (.imul, 1) := by decide +kernel
theorem dX6_worth_40 : decode cX6_worth 40 = .ok (.ireturn, 1) := by decide +kernel
theorem dX6_isFree_0 : decode cX6_isFree 0 = .ok (.aload_n 0, 1) := by decide +kernel
theorem dX6_isFree_1 : decode cX6_isFree 1 = .ok (.bipush 50, 2) := by decide +kernel
theorem dX6_isFree_3 : decode cX6_isFree 3 = .ok (.iload_n 1, 1) := by decide +kernel
theorem dX6_isFree_4 : decode cX6_isFree 4 = .ok (.iadd, 1) := by decide +kernel
theorem dX6_isFree_5 : decode cX6_isFree 5 = .ok (.iaload, 1) := by decide +kernel
theorem dX6_isFree_6 : decode cX6_isFree 6 = .ok (.aload_n 0, 1) := by decide +kernel
theorem dX6_isFree_7 : decode cX6_isFree 7 = .ok (.iconst 0, 1) := by decide +kernel
theorem dX6_isFree_8 : decode cX6_isFree 8 = .ok (.iaload, 1) := by decide +kernel
theorem dX6_isFree_9 : decode cX6_isFree 9 = .ok (.if_icmp .gt 19, 3) := by decide +kernel
theorem dX6_isFree_12 : decode cX6_isFree 12 = .ok (.aload_n 0, 1) := by decide +kernel
theorem dX6_isFree_13 : decode cX6_isFree 13 = .ok (.bipush 40, 2) := by decide +kernel
theorem dX6_isFree_15 : decode cX6_isFree 15 = .ok (.iload_n 1, 1) := by decide +kernel
theorem dX6_isFree_16 : decode cX6_isFree 16 = .ok (.iadd, 1) := by decide +kernel
theorem dX6_isFree_17 : decode cX6_isFree 17 = .ok (.iaload, 1) := by decide +kernel
theorem dX6_isFree_18 : decode cX6_isFree 18 = .ok (.aload_n 0, 1) := by decide +kernel
theorem dX6_isFree_19 : decode cX6_isFree 19 = .ok (.iconst 5, 1) := by decide +kernel
theorem dX6_isFree_20 : decode cX6_isFree 20 = .ok (.iaload, 1) := by decide +kernel
theorem dX6_isFree_21 : decode cX6_isFree 21 = .ok (.if_icmp .ge 7, 3) := by decide +kernel
theorem dX6_isFree_24 : decode cX6_isFree 24 = .ok (.iconst 1, 1) := by decide +kernel
theorem dX6_isFree_25 : decode cX6_isFree 25 = .ok (.goto 4, 3) := by decide +kernel
theorem dX6_isFree_28 : decode cX6_isFree 28 = .ok (.iconst 0, 1) := by decide +kernel
theorem dX6_isFree_29 : decode cX6_isFree 29 = .ok (.ireturn, 1) := by decide +kernel
set_option maxRecDepth 20000 in
theorem ggX6_canPlay_X6_isFree : GoodIn wsX6_canPlay wsX6_isFree := goodIn_r _ [4] (by decide +kernel) (by decide +kernel)
set_option maxRecDepth 20000 in
theorem gX6_canPlay_X6_isFree : GoodIn wsX6_canPlay (va_wsS RX6 65 yX6_isFree wsX6_isFree) := goodIn_app (goodIn_of _ (by decide +kernel)) ggX6_canPlay_X6_isFree
set_option maxRecDepth 20000 in
theorem ggX6_canPlay_X6_readyFor : GoodIn wsX6_canPlay wsX6_readyFor := goodIn_r _ [7] (by decide +kernel) (by decide +kernel)
set_option maxRecDepth 20000 in
theorem gX6_canPlay_X6_readyFor : GoodIn wsX6_canPlay (va_wsS RX6 61 yX6_readyFor wsX6_readyFor) := goodIn_app (goodIn_of _ (by decide +kernel)) ggX6_canPlay_X6_readyFor
theorem dX6_canPlay_0 : decode cX6_canPlay 0 = .ok (.aload_n 0, 1) := by decide +kernel
theorem dX6_canPlay_1 : decode cX6_canPlay 1 = .ok (.iload_n 1, 1) := by decide +kernel
theorem dX6_canPlay_2 : decode cX6_canPlay 2 = .ok (.invokestatic 65, 3) := by decide +kernel
theorem dX6_canPlay_5 : decode cX6_canPlay 5 = .ok (.ifCond .eq 16, 3) := by decide +kernel
theorem dX6_canPlay_8 : decode cX6_canPlay 8 = .ok (.aload_n 0, 1) := by decide +kernel
theorem dX6_canPlay_9 : decode cX6_canPlay 9 = .ok (.iload_n 1, 1) := by decide +kernel
theorem dX6_canPlay_10 : decode cX6_canPlay 10 = .ok (.iload_n 2, 1) := by decide +kernel
theorem dX6_canPlay_11 : decode cX6_canPlay 11 = .ok (.invokestatic 61, 3) := by decide +kernel
theorem dX6_canPlay_14 : decode cX6_canPlay 14 = .ok (.ifCond .le 7, 3) := by decide +kernel
theorem dX6_canPlay_17 : decode cX6_canPlay 17 = .ok (.iconst 1, 1) := by decide +kernel
theorem dX6_canPlay_18 : decode cX6_canPlay 18 = .ok (.goto 4, 3) := by decide +kernel
theorem dX6_canPlay_21 : decode cX6_canPlay 21 = .ok (.iconst 0, 1) := by decide +kernel
theorem dX6_canPlay_22 : decode cX6_canPlay 22 = .ok (.ireturn, 1) := by decide +kernel
theorem dX6_ones_0 : decode cX6_ones 0 = .ok (.iconst 0, 1) := by decide +kernel
theorem dX6_ones_1 : decode cX6_ones 1 = .ok (.istore_n 1, 1) := by decide +kernel
theorem dX6_ones_2 : decode cX6_ones 2 = .ok (.iload_n 0, 1) := by decide +kernel
theorem dX6_ones_3 : decode cX6_ones 3 = .ok (.istore_n 2, 1) := by decide +kernel
theorem dX6_ones_4 : decode cX6_ones 4 = .ok (.iload_n 2, 1) := by decide +kernel
theorem dX6_ones_5 : decode cX6_ones 5 = .ok (.ifCond .eq 15, 3) := by decide +kernel
theorem dX6_ones_8 : decode cX6_ones 8 = .ok (.iinc 1 1, 3) := by decide +kernel
theorem dX6_ones_11 : decode cX6_ones 11 = .ok (.iload_n 2, 1) := by decide +kernel
theorem dX6_ones_12 : decode cX6_ones 12 = .ok (.iload_n 2, 1) := by decide +kernel
theorem dX6_ones_13 : decode cX6_ones 13 = .ok (.iconst 1, 1) := by decide +kernel
theorem dX6_ones_14 : decode cX6_ones 14 = .ok (.isub, 1) := by decide +kernel
theorem dX6_ones_15 : decode cX6_ones 15 = .ok (.iand, 1) := by decide +kernel
theorem dX6_ones_16 : decode cX6_ones 16 = .ok (.istore_n 2, 1) := by decide +kernel
theorem dX6_ones_17 : decode cX6_ones 17 = .ok (.goto (-13), 3) := by decide +kernel
theorem dX6_ones_20 : decode cX6_ones 20 = .ok (.iload_n 1, 1) := by decide +kernel
theorem dX6_ones_21 : decode cX6_ones 21 = .ok (.ireturn, 1) := by decide +kernel
set_option maxRecDepth 20000 in
theorem ggX6_goesOn_X6_canPlay : GoodIn wsX6_goesOn wsX6_canPlay := goodIn_r _ [5, 6, 7, 4, 8, 9, 10, 11] (by decide +kernel) (by decide +kernel)
set_option maxRecDepth 20000 in
theorem gX6_goesOn_X6_canPlay : GoodIn wsX6_goesOn (va_wsS RX6 69 yX6_canPlay wsX6_canPlay) := goodIn_app (goodIn_of _ (by decide +kernel)) ggX6_goesOn_X6_canPlay
set_option maxRecDepth 20000 in
theorem ggX6_goesOn_X6_worth : GoodIn wsX6_goesOn wsX6_worth := goodIn_r _ [14, 9, 10, 4, 11] (by decide +kernel) (by decide +kernel)
set_option maxRecDepth 20000 in
theorem gX6_goesOn_X6_worth : GoodIn wsX6_goesOn (va_wsS RX6 73 yX6_worth wsX6_worth) := goodIn_app (goodIn_of _ (by decide +kernel)) ggX6_goesOn_X6_worth
theorem dX6_goesOn_0 : decode cX6_goesOn 0 = .ok (.iload_n 2, 1) := by decide +kernel
theorem dX6_goesOn_1 : decode cX6_goesOn 1 = .ok (.iload_n 3, 1) := by decide +kernel
theorem dX6_goesOn_2 : decode cX6_goesOn 2 = .ok (.ishr, 1) := by decide +kernel
theorem dX6_goesOn_3 : decode cX6_goesOn 3 = .ok (.iconst 1, 1) := by decide +kernel
theorem dX6_goesOn_4 : decode cX6_goesOn 4 = .ok (.iand, 1) := by decide +kernel
theorem dX6_goesOn_5 : decode cX6_goesOn 5 = .ok (.iconst 1, 1) := by decide +kernel
theorem dX6_goesOn_6 : decode cX6_goesOn 6 = .ok (.if_icmp .eq 26, 3) := by decide +kernel
theorem dX6_goesOn_9 : decode cX6_goesOn 9 = .ok (.aload_n 1, 1) := by decide +kernel
theorem dX6_goesOn_10 : decode cX6_goesOn 10 = .ok (.iload_n 3, 1) := by decide +kernel
theorem dX6_goesOn_11 : decode cX6_goesOn 11 = .ok (.iload 4, 2) := by decide +kernel
theorem dX6_goesOn_13 : decode cX6_goesOn 13 = .ok (.invokestatic 69, 3) := by decide +kernel
theorem dX6_goesOn_16 : decode cX6_goesOn 16 = .ok (.ifCond .eq 16, 3) := by decide +kernel
theorem dX6_goesOn_19 : decode cX6_goesOn 19 = .ok (.aload_n 0, 1) := by decide +kernel
theorem dX6_goesOn_20 : decode cX6_goesOn 20 = .ok (.getfield 29, 3) := by decide +kernel
theorem dX6_goesOn_23 : decode cX6_goesOn 23 = .ok (.iload_n 2, 1) := by decide +kernel
theorem dX6_goesOn_24 : decode cX6_goesOn 24 = .ok (.iconst 1, 1) := by decide +kernel
theorem dX6_goesOn_25 : decode cX6_goesOn 25 = .ok (.iload_n 3, 1) := by decide +kernel
theorem dX6_goesOn_26 : decode cX6_goesOn 26 = .ok (.ishl, 1) := by decide +kernel
theorem dX6_goesOn_27 : decode cX6_goesOn 27 = .ok (.ior, 1) := by decide +kernel
theorem dX6_goesOn_28 : decode cX6_goesOn 28 = .ok (.iaload, 1) := by decide +kernel
theorem dX6_goesOn_29 : decode cX6_goesOn 29 = .ok (.ifCond .ge 5, 3) := by decide +kernel
theorem dX6_goesOn_32 : decode cX6_goesOn 32 = .ok (.iconst (-1), 1) := by decide +kernel
theorem dX6_goesOn_33 : decode cX6_goesOn 33 = .ok (.ireturn, 1) := by decide +kernel
theorem dX6_goesOn_34 : decode cX6_goesOn 34 = .ok (.aload_n 1, 1) := by decide +kernel
theorem dX6_goesOn_35 : decode cX6_goesOn 35 = .ok (.iload_n 3, 1) := by decide +kernel
theorem dX6_goesOn_36 : decode cX6_goesOn 36 = .ok (.iload 4, 2) := by decide +kernel
theorem dX6_goesOn_38 : decode cX6_goesOn 38 = .ok (.invokestatic 73, 3) := by decide +kernel
theorem dX6_goesOn_41 : decode cX6_goesOn 41 = .ok (.aload_n 0, 1) := by decide +kernel
theorem dX6_goesOn_42 : decode cX6_goesOn 42 = .ok (.getfield 29, 3) := by decide +kernel
theorem dX6_goesOn_45 : decode cX6_goesOn 45 = .ok (.iload_n 2, 1) := by decide +kernel
theorem dX6_goesOn_46 : decode cX6_goesOn 46 = .ok (.iconst 1, 1) := by decide +kernel
theorem dX6_goesOn_47 : decode cX6_goesOn 47 = .ok (.iload_n 3, 1) := by decide +kernel
theorem dX6_goesOn_48 : decode cX6_goesOn 48 = .ok (.ishl, 1) := by decide +kernel
theorem dX6_goesOn_49 : decode cX6_goesOn 49 = .ok (.ior, 1) := by decide +kernel
theorem dX6_goesOn_50 : decode cX6_goesOn 50 = .ok (.iaload, 1) := by decide +kernel
theorem dX6_goesOn_51 : decode cX6_goesOn 51 = .ok (.iadd, 1) := by decide +kernel
theorem dX6_goesOn_52 : decode cX6_goesOn 52 = .ok (.ireturn, 1) := by decide +kernel
set_option maxRecDepth 20000 in
theorem ggX6_casts_X6_ones : GoodIn wsX6_casts wsX6_ones := goodIn_r _ [6] (by decide +kernel) (by decide +kernel)
set_option maxRecDepth 20000 in
theorem gX6_casts_X6_ones : GoodIn wsX6_casts (va_wsS RX6 76 yX6_ones wsX6_ones) := goodIn_app (goodIn_of _ (by decide +kernel)) ggX6_casts_X6_ones
set_option maxRecDepth 20000 in
theorem ggX6_casts_X6_goesOn : GoodIn wsX6_casts wsX6_goesOn := goodIn_r _ [10, 1, 11, 12, 5, 13, 14, 15, 16, 17, 18, 19, 20, 21, 22, 23, 24, 25, 26, 27, 28, 29, 30, 31, 32, 33, 34, 35, 36] (by decide +kernel) (by decide +kernel)
set_option maxRecDepth 20000 in
theorem gX6_casts_X6_goesOn : GoodIn wsX6_casts (wsV RX6 79 RX6 yX6_goesOn wsX6_goesOn) := goodIn_app (goodIn_of _ (by decide +kernel)) ggX6_casts_X6_goesOn
theorem dX6_casts_0 : decode cX6_casts 0 = .ok (.iconst 1, 1) := by decide +kernel
theorem dX6_casts_1 : decode cX6_casts 1 = .ok (.aload_n 1, 1) := by decide +kernel
theorem dX6_casts_2 : decode cX6_casts 2 = .ok (.iconst 4, 1) := by decide +kernel
theorem dX6_casts_3 : decode cX6_casts 3 = .ok (.iaload, 1) := by decide +kernel
theorem dX6_casts_4 : decode cX6_casts 4 = .ok (.ishl, 1) := by decide +kernel
theorem dX6_casts_5 : decode cX6_casts 5 = .ok (.istore_n 2, 1) := by decide +kernel
theorem dX6_casts_6 : decode cX6_casts 6 = .ok (.iload_n 2, 1) := by decide +kernel
theorem dX6_casts_7 : decode cX6_casts 7 = .ok (.iconst 1, 1) := by decide +kernel
theorem dX6_casts_8 : decode cX6_casts 8 = .ok (.isub, 1) := by decide +kernel
theorem dX6_casts_9 : decode cX6_casts 9 = .ok (.istore_n 3, 1) := by decide +kernel
theorem dX6_casts_10 : decode cX6_casts 10 = .ok (.iload_n 3, 1) := by decide +kernel
theorem dX6_casts_11 : decode cX6_casts 11 = .ok (.ifCond .lt 91, 3) := by decide +kernel
theorem dX6_casts_14 : decode cX6_casts 14 = .ok (.iload_n 3, 1) := by decide +kernel
theorem dX6_casts_15 : decode cX6_casts 15 = .ok (.invokestatic 76, 3) := by decide +kernel
theorem dX6_casts_18 : decode cX6_casts 18 = .ok (.istore 4, 2) := by decide +kernel
theorem dX6_casts_20 : decode cX6_casts 20 = .ok (.iload 4, 2) := by decide +kernel
theorem dX6_casts_22 : decode cX6_casts 22 = .ok (.aload_n 1, 1) := by decide +kernel
theorem dX6_casts_23 : decode cX6_casts 23 = .ok (.iconst 3, 1) := by decide +kernel
theorem dX6_casts_24 : decode cX6_casts 24 = .ok (.iaload, 1) := by decide +kernel
theorem dX6_casts_25 : decode cX6_casts 25 = .ok (.if_icmp .ne 7, 3) := by decide +kernel
theorem dX6_casts_28 : decode cX6_casts 28 = .ok (.iconst 0, 1) := by decide +kernel
theorem dX6_casts_29 : decode cX6_casts 29 = .ok (.goto 4, 3) := by decide +kernel
theorem dX6_casts_32 : decode cX6_casts 32 = .ok (.iconst (-1), 1) := by decide +kernel
theorem dX6_casts_33 : decode cX6_casts 33 = .ok (.istore 5, 2) := by decide +kernel
theorem dX6_casts_35 : decode cX6_casts 35 = .ok (.iconst 0, 1) := by decide +kernel
theorem dX6_casts_36 : decode cX6_casts 36 = .ok (.istore 6, 2) := by decide +kernel
theorem dX6_casts_38 : decode cX6_casts 38 = .ok (.iload 6, 2) := by decide +kernel
theorem dX6_casts_40 : decode cX6_casts 40 = .ok (.aload_n 1, 1) := by decide +kernel
theorem dX6_casts_41 : decode cX6_casts 41 = .ok (.iconst 4, 1) := by decide +kernel
theorem dX6_casts_42 : decode cX6_casts 42 = .ok (.iaload, 1) := by decide +kernel
theorem dX6_casts_43 : decode cX6_casts 43 = .ok (.if_icmp .ge 45, 3) := by decide +kernel
theorem dX6_casts_46 : decode cX6_casts 46 = .ok (.iload 4, 2) := by decide +kernel
theorem dX6_casts_48 : decode cX6_casts 48 = .ok (.aload_n 1, 1) := by decide +kernel
theorem dX6_casts_49 : decode cX6_casts 49 = .ok (.iconst 3, 1) := by decide +kernel
theorem dX6_casts_50 : decode cX6_casts 50 = .ok (.iaload, 1) := by decide +kernel
theorem dX6_casts_51 : decode cX6_casts 51 = .ok (.if_icmp .ge 37, 3) := by decide +kernel
theorem dX6_casts_54 : decode cX6_casts 54 = .ok (.aload_n 0, 1) := by decide +kernel
theorem dX6_casts_55 : decode cX6_casts 55 = .ok (.aload_n 1, 1) := by decide +kernel
theorem dX6_casts_56 : decode cX6_casts 56 = .ok (.iload_n 3, 1) := by decide +kernel
theorem dX6_casts_57 : decode cX6_casts 57 = .ok (.iload 6, 2) := by decide +kernel
theorem dX6_casts_59 : decode cX6_casts 59 = .ok (.iload 4, 2) := by decide +kernel
theorem dX6_casts_61 : decode cX6_casts 61 = .ok (.invokevirtual 79, 3) := by decide +kernel
theorem dX6_casts_64 : decode cX6_casts 64 = .ok (.istore 7, 2) := by decide +kernel
theorem dX6_casts_66 : decode cX6_casts 66 = .ok (.iload 7, 2) := by decide +kernel
theorem dX6_casts_68 : decode cX6_casts 68 = .ok (.iload 5, 2) := by decide +kernel
theorem dX6_casts_70 : decode cX6_casts 70 = .ok (.if_icmp .le 8, 3) := by decide +kernel
theorem dX6_casts_73 : decode cX6_casts 73 = .ok (.iload 7, 2) := by decide +kernel
theorem dX6_casts_75 : decode cX6_casts 75 = .ok (.goto 5, 3) := by decide +kernel
theorem dX6_casts_78 : decode cX6_casts 78 = .ok (.iload 5, 2) := by decide +kernel
theorem dX6_casts_80 : decode cX6_casts 80 = .ok (.istore 5, 2) := by decide +kernel
theorem dX6_casts_82 : decode cX6_casts 82 = .ok (.iinc 6 1, 3) := by decide +kernel
theorem dX6_casts_85 : decode cX6_casts 85 = .ok (.goto (-47), 3) := by decide +kernel
theorem dX6_casts_88 : decode cX6_casts 88 = .ok (.aload_n 0, 1) := by decide +kernel
theorem dX6_casts_89 : decode cX6_casts 89 = .ok (.getfield 29, 3) := by decide +kernel
theorem dX6_casts_92 : decode cX6_casts 92 = .ok (.iload_n 3, 1) := by decide +kernel
theorem dX6_casts_93 : decode cX6_casts 93 = .ok (.iload 5, 2) := by decide +kernel
theorem dX6_casts_95 : decode cX6_casts 95 = .ok (.iastore, 1) := by decide +kernel
theorem dX6_casts_96 : decode cX6_casts 96 = .ok (.iinc 3 (-1), 3) := by decide +kernel
theorem dX6_casts_99 : decode cX6_casts 99 = .ok (.goto (-89), 3) := by decide +kernel
theorem dX6_casts_102 : decode cX6_casts 102 = .ok (.iconst 0, 1) := by decide +kernel
theorem dX6_casts_103 : decode cX6_casts 103 = .ok (.istore_n 3, 1) := by decide +kernel
theorem dX6_casts_104 : decode cX6_casts 104 = .ok (.iconst 0, 1) := by decide +kernel
theorem dX6_casts_105 : decode cX6_casts 105 = .ok (.istore 4, 2) := by decide +kernel
theorem dX6_casts_107 : decode cX6_casts 107 = .ok (.iload 4, 2) := by decide +kernel
theorem dX6_casts_109 : decode cX6_casts 109 = .ok (.bipush 6, 2) := by decide +kernel
theorem dX6_casts_111 : decode cX6_casts 111 = .ok (.if_icmp .ge 78, 3) := by decide +kernel
theorem dX6_casts_114 : decode cX6_casts 114 = .ok (.aload_n 0, 1) := by decide +kernel
theorem dX6_casts_115 : decode cX6_casts 115 = .ok (.getfield 32, 3) := by decide +kernel
theorem dX6_casts_118 : decode cX6_casts 118 = .ok (.iload 4, 2) := by decide +kernel
theorem dX6_casts_120 : decode cX6_casts 120 = .ok (.iconst (-1), 1) := by decide +kernel
theorem dX6_casts_121 : decode cX6_casts 121 = .ok (.iastore, 1) := by decide +kernel
theorem dX6_casts_122 : decode cX6_casts 122 = .ok (.iload 4, 2) := by decide +kernel
theorem dX6_casts_124 : decode cX6_casts 124 = .ok (.aload_n 1, 1) := by decide +kernel
theorem dX6_casts_125 : decode cX6_casts 125 = .ok (.iconst 3, 1) := by decide +kernel
theorem dX6_casts_126 : decode cX6_casts 126 = .ok (.iaload, 1) := by decide +kernel
theorem dX6_casts_127 : decode cX6_casts 127 = .ok (.if_icmp .ge 56, 3) := by decide +kernel
theorem dX6_casts_130 : decode cX6_casts 130 = .ok (.aload_n 0, 1) := by decide +kernel
theorem dX6_casts_131 : decode cX6_casts 131 = .ok (.getfield 29, 3) := by decide +kernel
theorem dX6_casts_134 : decode cX6_casts 134 = .ok (.iconst 0, 1) := by decide +kernel
theorem dX6_casts_135 : decode cX6_casts 135 = .ok (.iaload, 1) := by decide +kernel
theorem dX6_casts_136 : decode cX6_casts 136 = .ok (.ifCond .lt 47, 3) := by decide +kernel
theorem dX6_casts_139 : decode cX6_casts 139 = .ok (.iconst 0, 1) := by decide +kernel
theorem dX6_casts_140 : decode cX6_casts 140 = .ok (.istore 5, 2) := by decide +kernel
theorem dX6_casts_142 : decode cX6_casts 142 = .ok (.aload_n 0, 1) := by decide +kernel
theorem dX6_casts_143 : decode cX6_casts 143 = .ok (.aload_n 1, 1) := by decide +kernel
theorem dX6_casts_144 : decode cX6_casts 144 = .ok (.iload_n 3, 1) := by decide +kernel
theorem dX6_casts_145 : decode cX6_casts 145 = .ok (.iload 5, 2) := by decide +kernel
theorem dX6_casts_147 : decode cX6_casts 147 = .ok (.iload 4, 2) := by decide +kernel
theorem dX6_casts_149 : decode cX6_casts 149 = .ok (.invokevirtual 79, 3) := by decide +kernel
theorem dX6_casts_152 : decode cX6_casts 152 = .ok (.aload_n 0, 1) := by decide +kernel
theorem dX6_casts_153 : decode cX6_casts 153 = .ok (.getfield 29, 3) := by decide +kernel
theorem dX6_casts_156 : decode cX6_casts 156 = .ok (.iload_n 3, 1) := by decide +kernel
theorem dX6_casts_157 : decode cX6_casts 157 = .ok (.iaload, 1) := by decide +kernel
theorem dX6_casts_158 : decode cX6_casts 158 = .ok (.if_icmp .eq 9, 3) := by decide +kernel
theorem dX6_casts_161 : decode cX6_casts 161 = .ok (.iinc 5 1, 3) := by decide +kernel
theorem dX6_casts_164 : decode cX6_casts 164 = .ok (.goto (-22), 3) := by decide +kernel
theorem dX6_casts_167 : decode cX6_casts 167 = .ok (.aload_n 0, 1) := by decide +kernel
theorem dX6_casts_168 : decode cX6_casts 168 = .ok (.getfield 32, 3) := by decide +kernel
theorem dX6_casts_171 : decode cX6_casts 171 = .ok (.iload 4, 2) := by decide +kernel
theorem dX6_casts_173 : decode cX6_casts 173 = .ok (.iload 5, 2) := by decide +kernel
theorem dX6_casts_175 : decode cX6_casts 175 = .ok (.iastore, 1) := by decide +kernel
theorem dX6_casts_176 : decode cX6_casts 176 = .ok (.iload_n 3, 1) := by decide +kernel
theorem dX6_casts_177 : decode cX6_casts 177 = .ok (.iconst 1, 1) := by decide +kernel
theorem dX6_casts_178 : decode cX6_casts 178 = .ok (.iload 5, 2) := by decide +kernel
theorem dX6_casts_180 : decode cX6_casts 180 = .ok (.ishl, 1) := by decide +kernel
theorem dX6_casts_181 : decode cX6_casts 181 = .ok (.ior, 1) := by decide +kernel
theorem dX6_casts_182 : decode cX6_casts 182 = .ok (.istore_n 3, 1) := by decide +kernel
theorem dX6_casts_183 : decode cX6_casts 183 = .ok (.iinc 4 1, 3) := by decide +kernel
theorem dX6_casts_186 : decode cX6_casts 186 = .ok (.goto (-79), 3) := by decide +kernel
theorem dX6_casts_189 : decode cX6_casts 189 = .ok (.aload_n 0, 1) := by decide +kernel
theorem dX6_casts_190 : decode cX6_casts 190 = .ok (.getfield 29, 3) := by decide +kernel
theorem dX6_casts_193 : decode cX6_casts 193 = .ok (.iconst 0, 1) := by decide +kernel
theorem dX6_casts_194 : decode cX6_casts 194 = .ok (.iaload, 1) := by decide +kernel
theorem dX6_casts_195 : decode cX6_casts 195 = .ok (.ireturn, 1) := by decide +kernel
set_option maxRecDepth 20000 in
theorem ggX6_castFor_X6_casts : GoodIn wsX6_castFor wsX6_casts := goodIn_r _ [6, 7, 1, 8, 9, 5, 10, 11, 12, 13, 14, 15, 16, 17, 18, 19, 20, 21, 22, 23, 24, 25, 26, 27, 28, 29, 30, 31, 32, 33, 34, 35, 36, 37, 38, 39, 40] (by decide +kernel) (by decide +kernel)
set_option maxRecDepth 20000 in
theorem gX6_castFor_X6_casts : GoodIn wsX6_castFor (wsV RX6 83 RX6 yX6_casts wsX6_casts) := goodIn_app (goodIn_of _ (by decide +kernel)) ggX6_castFor_X6_casts
theorem dX6_castFor_0 : decode cX6_castFor 0 = .ok (.aload_n 0, 1) := by decide +kernel
theorem dX6_castFor_1 : decode cX6_castFor 1 = .ok (.aload_n 1, 1) := by decide +kernel
theorem dX6_castFor_2 : decode cX6_castFor 2 = .ok (.invokevirtual 83, 3) := by decide +kernel
theorem dX6_castFor_5 : decode cX6_castFor 5 = .ok (.pop, 1) := by decide +kernel
theorem dX6_castFor_6 : decode cX6_castFor 6 = .ok (.aload_n 0, 1) := by decide +kernel
theorem dX6_castFor_7 : decode cX6_castFor 7 = .ok (.getfield 32, 3) := by decide +kernel
theorem dX6_castFor_10 : decode cX6_castFor 10 = .ok (.iload_n 2, 1) := by decide +kernel
theorem dX6_castFor_11 : decode cX6_castFor 11 = .ok (.iaload, 1) := by decide +kernel
theorem dX6_castFor_12 : decode cX6_castFor 12 = .ok (.ireturn, 1) := by decide +kernel
theorem dX6_nextDay_0 : decode cX6_nextDay 0 = .ok (.aload_n 0, 1) := by decide +kernel
theorem dX6_nextDay_1 : decode cX6_nextDay 1 = .ok (.iconst 0, 1) := by decide +kernel
theorem dX6_nextDay_2 : decode cX6_nextDay 2 = .ok (.dup2, 1) := by decide +kernel
theorem dX6_nextDay_3 : decode cX6_nextDay 3 = .ok (.iaload, 1) := by decide +kernel
theorem dX6_nextDay_4 : decode cX6_nextDay 4 = .ok (.iconst 1, 1) := by decide +kernel
theorem dX6_nextDay_5 : decode cX6_nextDay 5 = .ok (.iadd, 1) := by decide +kernel
theorem dX6_nextDay_6 : decode cX6_nextDay 6 = .ok (.iastore, 1) := by decide +kernel
theorem dX6_nextDay_7 : decode cX6_nextDay 7 = .ok (.aload_n 0, 1) := by decide +kernel
theorem dX6_nextDay_8 : decode cX6_nextDay 8 = .ok (.bipush 10, 2) := by decide +kernel
theorem dX6_nextDay_10 : decode cX6_nextDay 10 = .ok (.iconst 0, 1) := by decide +kernel
theorem dX6_nextDay_11 : decode cX6_nextDay 11 = .ok (.iastore, 1) := by decide +kernel
theorem dX6_nextDay_12 : decode cX6_nextDay 12 = .ok (.iconst 0, 1) := by decide +kernel
theorem dX6_nextDay_13 : decode cX6_nextDay 13 = .ok (.istore_n 1, 1) := by decide +kernel
theorem dX6_nextDay_14 : decode cX6_nextDay 14 = .ok (.iload_n 1, 1) := by decide +kernel
theorem dX6_nextDay_15 : decode cX6_nextDay 15 = .ok (.bipush 6, 2) := by decide +kernel
theorem dX6_nextDay_17 : decode cX6_nextDay 17 = .ok (.if_icmp .ge 16, 3) := by decide +kernel
theorem dX6_nextDay_20 : decode cX6_nextDay 20 = .ok (.aload_n 0, 1) := by decide +kernel
theorem dX6_nextDay_21 : decode cX6_nextDay 21 = .ok (.bipush 24, 2) := by decide +kernel
theorem dX6_nextDay_23 : decode cX6_nextDay 23 = .ok (.iload_n 1, 1) := by decide +kernel
theorem dX6_nextDay_24 : decode cX6_nextDay 24 = .ok (.iadd, 1) := by decide +kernel
theorem dX6_nextDay_25 : decode cX6_nextDay 25 = .ok (.iconst 0, 1) := by decide +kernel
theorem dX6_nextDay_26 : decode cX6_nextDay 26 = .ok (.iastore, 1) := by decide +kernel
theorem dX6_nextDay_27 : decode cX6_nextDay 27 = .ok (.iinc 1 1, 3) := by decide +kernel
theorem dX6_nextDay_30 : decode cX6_nextDay 30 = .ok (.goto (-16), 3) := by decide +kernel
theorem dX6_nextDay_33 : decode cX6_nextDay 33 = .ok (.return_, 1) := by decide +kernel
