theorem dX6_comes_25 : decode cX6_comes 25 = .ok (.return_, 1) := by decide +kernel
set_option maxRecDepth 20000 in
theorem ggX6_addRole_X6_in : GoodIn wsX6_addRole wsX6_in := goodIn_r _ [6] (by decide +kernel) (by decide +kernel)
set_option maxRecDepth 20000 in
theorem gX6_addRole_X6_in : GoodIn wsX6_addRole (va_wsS RX6 46 yX6_in wsX6_in) := goodIn_app (goodIn_of _ (by decide +kernel)) ggX6_addRole_X6_in
set_option maxRecDepth 20000 in
theorem ggX6_addRole_X6_fails : GoodIn wsX6_addRole wsX6_fails := goodIn_r _ [10, 1, 24, 25, 26, 27, 28, 29, 30, 31, 32, 33, 34, 35, 36, 37] (by decide +kernel) (by decide +kernel)
set_option maxRecDepth 20000 in
theorem gX6_addRole_X6_fails : GoodIn wsX6_addRole (wsV RX6 57 RX6 yX6_fails wsX6_fails) := goodIn_app (goodIn_of _ (by decide +kernel)) ggX6_addRole_X6_fails
set_option maxRecDepth 20000 in
theorem ggX6_addRole_X6_remembers : GoodIn wsX6_addRole wsX6_remembers := goodIn_r _ [14, 15, 16, 2, 17, 18, 5, 19, 24, 25, 26, 27, 28, 29, 30, 31, 32, 33, 34, 35, 36, 37] (by decide +kernel) (by decide +kernel)
set_option maxRecDepth 20000 in
theorem gX6_addRole_X6_remembers : GoodIn wsX6_addRole (wsV RX6 151 RX6 yX6_remembers wsX6_remembers) := goodIn_app (goodIn_of _ (by decide +kernel)) ggX6_addRole_X6_remembers
set_option maxRecDepth 20000 in
theorem ggX6_addRole_X6_comes : GoodIn wsX6_addRole wsX6_comes := goodIn_r _ [23, 2, 24, 25, 26, 27, 28, 29, 30, 31, 32, 33, 34, 35, 36, 37] (by decide +kernel) (by decide +kernel)
set_option maxRecDepth 20000 in
theorem gX6_addRole_X6_comes : GoodIn wsX6_addRole (wsV RX6 120 RX6 yX6_comes wsX6_comes) := goodIn_app (goodIn_of _ (by decide +kernel)) ggX6_addRole_X6_comes
theorem dX6_addRole_0 : decode cX6_addRole 0 = .ok (.aload_n 0, 1) := by decide +kernel
theorem dX6_addRole_1 : decode cX6_addRole 1 = .ok (.iconst 0, 1) := by decide +kernel
theorem dX6_addRole_2 : decode cX6_addRole 2 = .ok (.putfield 42, 3) := by decide +kernel
theorem dX6_addRole_5 : decode cX6_addRole 5 = .ok (.iload_n 1, 1) := by decide +kernel
theorem dX6_addRole_6 : decode cX6_addRole 6 = .ok (.iconst 1, 1) := by decide +kernel
theorem dX6_addRole_7 : decode cX6_addRole 7 = .ok (.bipush 9, 2) := by decide +kernel
theorem dX6_addRole_9 : decode cX6_addRole 9 = .ok (.invokestatic 46, 3) := by decide +kernel
theorem dX6_addRole_12 : decode cX6_addRole 12 = .ok (.ifCond .ne 9, 3) := by decide +kernel
theorem dX6_addRole_15 : decode cX6_addRole 15 = .ok (.aload_n 0, 1) := by decide +kernel
theorem dX6_addRole_16 : decode cX6_addRole 16 = .ok (.iconst 1, 1) := by decide +kernel
theorem dX6_addRole_17 : decode cX6_addRole 17 = .ok (.invokevirtual 57, 3) := by decide +kernel
theorem dX6_addRole_20 : decode cX6_addRole 20 = .ok (.ireturn, 1) := by decide +kernel
theorem dX6_addRole_21 : decode cX6_addRole 21 = .ok (.aload_n 0, 1) := by decide +kernel
theorem dX6_addRole_22 : decode cX6_addRole 22 = .ok (.getfield 7, 3) := by decide +kernel
theorem dX6_addRole_25 : decode cX6_addRole 25 = .ok (.iconst 3, 1) := by decide +kernel
theorem dX6_addRole_26 : decode cX6_addRole 26 = .ok (.iaload, 1) := by decide +kernel
theorem dX6_addRole_27 : decode cX6_addRole 27 = .ok (.bipush 6, 2) := by decide +kernel
theorem dX6_addRole_29 : decode cX6_addRole 29 = .ok (.if_icmp .eq 14, 3) := by decide +kernel
theorem dX6_addRole_32 : decode cX6_addRole 32 = .ok (.aload_n 0, 1) := by decide +kernel
theorem dX6_addRole_33 : decode cX6_addRole 33 = .ok (.getfield 7, 3) := by decide +kernel
theorem dX6_addRole_36 : decode cX6_addRole 36 = .ok (.bipush 10, 2) := by decide +kernel
theorem dX6_addRole_38 : decode cX6_addRole 38 = .ok (.iaload, 1) := by decide +kernel
theorem dX6_addRole_39 : decode cX6_addRole 39 = .ok (.iconst 1, 1) := by decide +kernel
theorem dX6_addRole_40 : decode cX6_addRole 40 = .ok (.if_icmp .ne 9, 3) := by decide +kernel
theorem dX6_addRole_43 : decode cX6_addRole 43 = .ok (.aload_n 0, 1) := by decide +kernel
theorem dX6_addRole_44 : decode cX6_addRole 44 = .ok (.iconst 2, 1) := by decide +kernel
theorem dX6_addRole_45 : decode cX6_addRole 45 = .ok (.invokevirtual 57, 3) := by decide +kernel
theorem dX6_addRole_48 : decode cX6_addRole 48 = .ok (.ireturn, 1) := by decide +kernel
theorem dX6_addRole_49 : decode cX6_addRole 49 = .ok (.aload_n 0, 1) := by decide +kernel
theorem dX6_addRole_50 : decode cX6_addRole 50 = .ok (.invokevirtual 151, 3) := by decide +kernel
theorem dX6_addRole_53 : decode cX6_addRole 53 = .ok (.aload_n 0, 1) := by decide +kernel
theorem dX6_addRole_54 : decode cX6_addRole 54 = .ok (.iload_n 1, 1) := by decide +kernel
theorem dX6_addRole_55 : decode cX6_addRole 55 = .ok (.invokevirtual 120, 3) := by decide +kernel
theorem dX6_addRole_58 : decode cX6_addRole 58 = .ok (.aload_n 0, 1) := by decide +kernel
theorem dX6_addRole_59 : decode cX6_addRole 59 = .ok (.getfield 7, 3) := by decide +kernel
theorem dX6_addRole_62 : decode cX6_addRole 62 = .ok (.iconst 3, 1) := by decide +kernel
theorem dX6_addRole_63 : decode cX6_addRole 63 = .ok (.iaload, 1) := by decide +kernel
theorem dX6_addRole_64 : decode cX6_addRole 64 = .ok (.iconst 1, 1) := by decide +kernel
theorem dX6_addRole_65 : decode cX6_addRole 65 = .ok (.isub, 1) := by decide +kernel
theorem dX6_addRole_66 : decode cX6_addRole 66 = .ok (.ireturn, 1) := by decide +kernel
set_option maxRecDepth 20000 in
theorem ggX6_addPlayer_X6_fails : GoodIn wsX6_addPlayer wsX6_fails := goodIn_r _ [7, 1, 17, 18, 19, 20, 21, 22, 23, 24, 25, 26, 27, 28, 29, 30] (by decide +kernel) (by decide +kernel)
set_option maxRecDepth 20000 in
theorem gX6_addPlayer_X6_fails : GoodIn wsX6_addPlayer (wsV RX6 57 RX6 yX6_fails wsX6_fails) := goodIn_app (goodIn_of _ (by decide +kernel)) ggX6_addPlayer_X6_fails
set_option maxRecDepth 20000 in
theorem ggX6_addPlayer_X6_remembers : GoodIn wsX6_addPlayer wsX6_remembers := goodIn_r _ [11, 12, 13, 2, 14, 15, 6, 16, 17, 18, 19, 20, 21, 22, 23, 24, 25, 26, 27, 28, 29, 30] (by decide +kernel) (by decide +kernel)
set_option maxRecDepth 20000 in
theorem gX6_addPlayer_X6_remembers : GoodIn wsX6_addPlayer (wsV RX6 151 RX6 yX6_remembers wsX6_remembers) := goodIn_app (goodIn_of _ (by decide +kernel)) ggX6_addPlayer_X6_remembers
theorem dX6_addPlayer_0 : decode cX6_addPlayer 0 = .ok (.aload_n 0, 1) := by decide +kernel
theorem dX6_addPlayer_1 : decode cX6_addPlayer 1 = .ok (.iconst 0, 1) := by decide +kernel
theorem dX6_addPlayer_2 : decode cX6_addPlayer 2 = .ok (.putfield 42, 3) := by decide +kernel
theorem dX6_addPlayer_5 : decode cX6_addPlayer 5 = .ok (.aload_n 0, 1) := by decide +kernel
theorem dX6_addPlayer_6 : decode cX6_addPlayer 6 = .ok (.getfield 7, 3) := by decide +kernel
theorem dX6_addPlayer_9 : decode cX6_addPlayer 9 = .ok (.iconst 4, 1) := by decide +kernel
theorem dX6_addPlayer_10 : decode cX6_addPlayer 10 = .ok (.iaload, 1) := by decide +kernel
theorem dX6_addPlayer_11 : decode cX6_addPlayer 11 = .ok (.bipush 10, 2) := by decide +kernel
theorem dX6_addPlayer_13 : decode cX6_addPlayer 13 = .ok (.if_icmp .ne 9, 3) := by decide +kernel
theorem dX6_addPlayer_16 : decode cX6_addPlayer 16 = .ok (.aload_n 0, 1) := by decide +kernel
theorem dX6_addPlayer_17 : decode cX6_addPlayer 17 = .ok (.iconst 1, 1) := by decide +kernel
theorem dX6_addPlayer_18 : decode cX6_addPlayer 18 = .ok (.invokevirtual 57, 3) := by decide +kernel
theorem dX6_addPlayer_21 : decode cX6_addPlayer 21 = .ok (.ireturn, 1) := by decide +kernel
theorem dX6_addPlayer_22 : decode cX6_addPlayer 22 = .ok (.aload_n 0, 1) := by decide +kernel
theorem dX6_addPlayer_23 : decode cX6_addPlayer 23 = .ok (.invokevirtual 151, 3) := by decide +kernel
theorem dX6_addPlayer_26 : decode cX6_addPlayer 26 = .ok (.aload_n 0, 1) := by decide +kernel
theorem dX6_addPlayer_27 : decode cX6_addPlayer 27 = .ok (.getfield 7, 3) := by decide +kernel
theorem dX6_addPlayer_30 : decode cX6_addPlayer 30 = .ok (.iconst 4, 1) := by decide +kernel
theorem dX6_addPlayer_31 : decode cX6_addPlayer 31 = .ok (.dup2, 1) := by decide +kernel
theorem dX6_addPlayer_32 : decode cX6_addPlayer 32 = .ok (.iaload, 1) := by decide +kernel
theorem dX6_addPlayer_33 : decode cX6_addPlayer 33 = .ok (.iconst 1, 1) := by decide +kernel
theorem dX6_addPlayer_34 : decode cX6_addPlayer 34 = .ok (.iadd, 1) := by decide +kernel
theorem dX6_addPlayer_35 : decode cX6_addPlayer 35 = .ok (.iastore, 1) := by decide +kernel
theorem dX6_addPlayer_36 : decode cX6_addPlayer 36 = .ok (.aload_n 0, 1) := by decide +kernel
theorem dX6_addPlayer_37 : decode cX6_addPlayer 37 = .ok (.getfield 7, 3) := by decide +kernel
theorem dX6_addPlayer_40 : decode cX6_addPlayer 40 = .ok (.iconst 4, 1) := by decide +kernel
theorem dX6_addPlayer_41 : decode cX6_addPlayer 41 = .ok (.iaload, 1) := by decide +kernel
theorem dX6_addPlayer_42 : decode cX6_addPlayer 42 = .ok (.iconst 1, 1) := by decide +kernel
theorem dX6_addPlayer_43 : decode cX6_addPlayer 43 = .ok (.isub, 1) := by decide +kernel
theorem dX6_addPlayer_44 : decode cX6_addPlayer 44 = .ok (.ireturn, 1) := by decide +kernel
set_option maxRecDepth 20000 in
theorem ggX6_ready_X6_isPlayer : GoodIn wsX6_ready wsX6_isPlayer := goodIn_r _ [6, 7, 8, 5, 9] (by decide +kernel) (by decide +kernel)
set_option maxRecDepth 20000 in
theorem gX6_ready_X6_isPlayer : GoodIn wsX6_ready (va_wsS RX6 133 yX6_isPlayer wsX6_isPlayer) := goodIn_app (goodIn_of _ (by decide +kernel)) ggX6_ready_X6_isPlayer
set_option maxRecDepth 20000 in
theorem ggX6_ready_X6_isRole : GoodIn wsX6_ready wsX6_isRole := goodIn_r _ [12, 7, 8, 5, 9] (by decide +kernel) (by decide +kernel)
set_option maxRecDepth 20000 in
theorem gX6_ready_X6_isRole : GoodIn wsX6_ready (va_wsS RX6 130 yX6_isRole wsX6_isRole) := goodIn_app (goodIn_of _ (by decide +kernel)) ggX6_ready_X6_isRole
set_option maxRecDepth 20000 in
theorem ggX6_ready_X6_fails : GoodIn wsX6_ready wsX6_fails := goodIn_r _ [16, 1, 29, 30, 31, 32, 33, 34, 35, 36, 37, 38, 39, 40, 41, 42] (by decide +kernel) (by decide +kernel)
set_option maxRecDepth 20000 in
theorem gX6_ready_X6_fails : GoodIn wsX6_ready (wsV RX6 57 RX6 yX6_fails wsX6_fails) := goodIn_app (goodIn_of _ (by decide +kernel)) ggX6_ready_X6_fails
set_option maxRecDepth 20000 in
theorem ggX6_ready_X6_in : GoodIn wsX6_ready wsX6_in := goodIn_r _ [9] (by decide +kernel) (by decide +kernel)
set_option maxRecDepth 20000 in
theorem gX6_ready_X6_in : GoodIn wsX6_ready (va_wsS RX6 46 yX6_in wsX6_in) := goodIn_app (goodIn_of _ (by decide +kernel)) ggX6_ready_X6_in
set_option maxRecDepth 20000 in
theorem ggX6_ready_X6_remembers : GoodIn wsX6_ready wsX6_remembers := goodIn_r _ [20, 21, 22, 2, 23, 24, 5, 25, 29, 30, 31, 32, 33, 34, 35, 36, 37, 38, 39, 40, 41, 42] (by decide +kernel) (by decide +kernel)
set_option maxRecDepth 20000 in
theorem gX6_ready_X6_remembers : GoodIn wsX6_ready (wsV RX6 151 RX6 yX6_remembers wsX6_remembers) := goodIn_app (goodIn_of _ (by decide +kernel)) ggX6_ready_X6_remembers
set_option maxRecDepth 20000 in
theorem ggX6_ready_X6_readyFor : GoodIn wsX6_ready wsX6_readyFor := goodIn_r _ [28] (by decide +kernel) (by decide +kernel)
set_option maxRecDepth 20000 in
theorem gX6_ready_X6_readyFor : GoodIn wsX6_ready (va_wsS RX6 61 yX6_readyFor wsX6_readyFor) := goodIn_app (goodIn_of _ (by decide +kernel)) ggX6_ready_X6_readyFor
theorem dX6_ready_0 : decode cX6_ready 0 = .ok (.aload_n 0, 1) := by decide +kernel
theorem dX6_ready_1 : decode cX6_ready 1 = .ok (.iconst 0, 1) := by decide +kernel
theorem dX6_ready_2 : decode cX6_ready 2 = .ok (.putfield 42, 3) := by decide +kernel
theorem dX6_ready_5 : decode cX6_ready 5 = .ok (.aload_n 0, 1) := by decide +kernel
theorem dX6_ready_6 : decode cX6_ready 6 = .ok (.getfield 7, 3) := by decide +kernel
theorem dX6_ready_9 : decode cX6_ready 9 = .ok (.iload_n 1, 1) := by decide +kernel
theorem dX6_ready_10 : decode cX6_ready 10 = .ok (.invokestatic 133, 3) := by decide +kernel
theorem dX6_ready_13 : decode cX6_ready 13 = .ok (.ifCond .eq 14, 3) := by decide +kernel
theorem dX6_ready_16 : decode cX6_ready 16 = .ok (.aload_n 0, 1) := by decide +kernel
theorem dX6_ready_17 : decode cX6_ready 17 = .ok (.getfield 7, 3) := by decide +kernel
theorem dX6_ready_20 : decode cX6_ready 20 = .ok (.iload_n 2, 1) := by decide +kernel
theorem dX6_ready_21 : decode cX6_ready 21 = .ok (.invokestatic 130, 3) := by decide +kernel
theorem dX6_ready_24 : decode cX6_ready 24 = .ok (.ifCond .ne 9, 3) := by decide +kernel
theorem dX6_ready_27 : decode cX6_ready 27 = .ok (.aload_n 0, 1) := by decide +kernel
theorem dX6_ready_28 : decode cX6_ready 28 = .ok (.iconst 1, 1) := by decide +kernel
theorem dX6_ready_29 : decode cX6_ready 29 = .ok (.invokevirtual 57, 3) := by decide +kernel
theorem dX6_ready_32 : decode cX6_ready 32 = .ok (.ireturn, 1) := by decide +kernel
theorem dX6_ready_33 : decode cX6_ready 33 = .ok (.iload_n 3, 1) := by decide +kernel
theorem dX6_ready_34 : decode cX6_ready 34 = .ok (.iconst 0, 1) := by decide +kernel
theorem dX6_ready_35 : decode cX6_ready 35 = .ok (.bipush 9, 2) := by decide +kernel
theorem dX6_ready_37 : decode cX6_ready 37 = .ok (.invokestatic 46, 3) := by decide +kernel
theorem dX6_ready_40 : decode cX6_ready 40 = .ok (.ifCond .ne 9, 3) := by decide +kernel
theorem dX6_ready_43 : decode cX6_ready 43 = .ok (.aload_n 0, 1) := by decide +kernel
theorem dX6_ready_44 : decode cX6_ready 44 = .ok (.iconst 2, 1) := by decide +kernel
theorem dX6_ready_45 : decode cX6_ready 45 = .ok (.invokevirtual 57, 3) := by decide +kernel
theorem dX6_ready_48 : decode cX6_ready 48 = .ok (.ireturn, 1) := by decide +kernel
theorem dX6_ready_49 : decode cX6_ready 49 = .ok (.aload_n 0, 1) := by decide +kernel
theorem dX6_ready_50 : decode cX6_ready 50 = .ok (.invokevirtual 151, 3) := by decide +kernel
theorem dX6_ready_53 : decode cX6_ready 53 = .ok (.aload_n 0, 1) := by decide +kernel
theorem dX6_ready_54 : decode cX6_ready 54 = .ok (.getfield 7, 3) := by decide +kernel
theorem dX6_ready_57 : decode cX6_ready 57 = .ok (.iload_n 1, 1) := by decide +kernel
theorem dX6_ready_58 : decode cX6_ready 58 = .ok (.iload_n 2, 1) := by decide +kernel
theorem dX6_ready_59 : decode cX6_ready 59 = .ok (.invokestatic 61, 3) := by decide +kernel
theorem dX6_ready_62 : decode cX6_ready 62 = .ok (.istore 4, 2) := by decide +kernel
theorem dX6_ready_64 : decode cX6_ready 64 = .ok (.aload_n 0, 1) := by decide +kernel
theorem dX6_ready_65 : decode cX6_ready 65 = .ok (.getfield 7, 3) := by decide +kernel
theorem dX6_ready_68 : decode cX6_ready 68 = .ok (.bipush 70, 2) := by decide +kernel
theorem dX6_ready_70 : decode cX6_ready 70 = .ok (.bipush 6, 2) := by decide +kernel
theorem dX6_ready_72 : decode cX6_ready 72 = .ok (.iload_n 1, 1) := by decide +kernel
theorem dX6_ready_73 : decode cX6_ready 73 = .ok (.imul, 1) := by decide +kernel
theorem dX6_ready_74 : decode cX6_ready 74 = .ok (.iadd, 1) := by decide +kernel
theorem dX6_ready_75 : decode cX6_ready 75 = .ok (.iload_n 2, 1) := by decide +kernel
theorem dX6_ready_76 : decode cX6_ready 76 = .ok (.iadd, 1) := by decide +kernel
theorem dX6_ready_77 : decode cX6_ready 77 = .ok (.iload_n 3, 1) := by decide +kernel
theorem dX6_ready_78 : decode cX6_ready 78 = .ok (.iastore, 1) := by decide +kernel
theorem dX6_ready_79 : decode cX6_ready 79 = .ok (.iload 4, 2) := by decide +kernel
theorem dX6_ready_81 : decode cX6_ready 81 = .ok (.ireturn, 1) := by decide +kernel
set_option maxRecDepth 20000 in
theorem ggX6_first_X6_isRole : GoodIn wsX6_first wsX6_isRole := goodIn_r _ [6, 7, 8, 5, 9] (by decide +kernel) (by decide +kernel)
set_option maxRecDepth 20000 in
theorem gX6_first_X6_isRole : GoodIn wsX6_first (va_wsS RX6 130 yX6_isRole wsX6_isRole) := goodIn_app (goodIn_of _ (by decide +kernel)) ggX6_first_X6_isRole
set_option maxRecDepth 20000 in
theorem ggX6_first_X6_isPlayer : GoodIn wsX6_first wsX6_isPlayer := goodIn_r _ [12, 7, 8, 5, 9] (by decide +kernel) (by decide +kernel)
set_option maxRecDepth 20000 in
theorem gX6_first_X6_isPlayer : GoodIn wsX6_first (va_wsS RX6 133 yX6_isPlayer wsX6_isPlayer) := goodIn_app (goodIn_of _ (by decide +kernel)) ggX6_first_X6_isPlayer
set_option maxRecDepth 20000 in
theorem ggX6_first_X6_fails : GoodIn wsX6_first wsX6_fails := goodIn_r _ [16, 1, 26, 27, 28, 29, 30, 31, 32, 33, 34, 35, 36, 37, 38, 39] (by decide +kernel) (by decide +kernel)
set_option maxRecDepth 20000 in
theorem gX6_first_X6_fails : GoodIn wsX6_first (wsV RX6 57 RX6 yX6_fails wsX6_fails) := goodIn_app (goodIn_of _ (by decide +kernel)) ggX6_first_X6_fails
set_option maxRecDepth 20000 in
theorem ggX6_first_X6_remembers : GoodIn wsX6_first wsX6_remembers := goodIn_r _ [20, 21, 22, 2, 23, 24, 5, 25, 26, 27, 28, 29, 30, 31, 32, 33, 34, 35, 36, 37, 38, 39] (by decide +kernel) (by decide +kernel)
set_option maxRecDepth 20000 in
theorem gX6_first_X6_remembers : GoodIn wsX6_first (wsV RX6 151 RX6 yX6_remembers wsX6_remembers) := goodIn_app (goodIn_of _ (by decide +kernel)) ggX6_first_X6_remembers
theorem dX6_first_0 : decode cX6_first 0 = .ok (.aload_n 0, 1) := by decide +kernel
theorem dX6_first_1 : decode cX6_first 1 = .ok (.iconst 0, 1) := by decide +kernel
theorem dX6_first_2 : decode cX6_first 2 = .ok (.putfield 42, 3) := by decide +kernel
theorem dX6_first_5 : decode cX6_first 5 = .ok (.aload_n 0, 1) := by decide +kernel
theorem dX6_first_6 : decode cX6_first 6 = .ok (.getfield 7, 3) := by decide +kernel
theorem dX6_first_9 : decode cX6_first 9 = .ok (.iload_n 1, 1) := by decide +kernel
theorem dX6_first_10 : decode cX6_first 10 = .ok (.invokestatic 130, 3) := by decide +kernel
theorem dX6_first_13 : decode cX6_first 13 = .ok (.ifCond .eq 14, 3) := by decide +kernel
theorem dX6_first_16 : decode cX6_first 16 = .ok (.aload_n 0, 1) := by decide +kernel
theorem dX6_first_17 : decode cX6_first 17 = .ok (.getfield 7, 3) := by decide +kernel
theorem dX6_first_20 : decode cX6_first 20 = .ok (.iload_n 2, 1) := by decide +kernel
theorem dX6_first_21 : decode cX6_first 21 = .ok (.invokestatic 133, 3) := by decide +kernel
theorem dX6_first_24 : decode cX6_first 24 = .ok (.ifCond .ne 9, 3) := by decide +kernel
theorem dX6_first_27 : decode cX6_first 27 = .ok (.aload_n 0, 1) := by decide +kernel
theorem dX6_first_28 : decode cX6_first 28 = .ok (.iconst 1, 1) := by decide +kernel
theorem dX6_first_29 : decode cX6_first 29 = .ok (.invokevirtual 57, 3) := by decide +kernel
theorem dX6_first_32 : decode cX6_first 32 = .ok (.ireturn, 1) := by decide +kernel
theorem dX6_first_33 : decode cX6_first 33 = .ok (.aload_n 0, 1) := by decide +kernel
theorem dX6_first_34 : decode cX6_first 34 = .ok (.invokevirtual 151, 3) := by decide +kernel
theorem dX6_first_37 : decode cX6_first 37 = .ok (.aload_n 0, 1) := by decide +kernel
theorem dX6_first_38 : decode cX6_first 38 = .ok (.getfield 7, 3) := by decide +kernel
theorem dX6_first_41 : decode cX6_first 41 = .ok (.bipush 18, 2) := by decide +kernel
theorem dX6_first_43 : decode cX6_first 43 = .ok (.iload_n 1, 1) := by decide +kernel
theorem dX6_first_44 : decode cX6_first 44 = .ok (.iadd, 1) := by decide +kernel
theorem dX6_first_45 : decode cX6_first 45 = .ok (.iaload, 1) := by decide +kernel
theorem dX6_first_46 : decode cX6_first 46 = .ok (.istore_n 3, 1) := by decide +kernel
theorem dX6_first_47 : decode cX6_first 47 = .ok (.aload_n 0, 1) := by decide +kernel
theorem dX6_first_48 : decode cX6_first 48 = .ok (.getfield 7, 3) := by decide +kernel
theorem dX6_first_51 : decode cX6_first 51 = .ok (.bipush 18, 2) := by decide +kernel
theorem dX6_first_53 : decode cX6_first 53 = .ok (.iload_n 1, 1) := by decide +kernel
theorem dX6_first_54 : decode cX6_first 54 = .ok (.iadd, 1) := by decide +kernel
theorem dX6_first_55 : decode cX6_first 55 = .ok (.iload_n 2, 1) := by decide +kernel
theorem dX6_first_56 : decode cX6_first 56 = .ok (.iastore, 1) := by decide +kernel
theorem dX6_first_57 : decode cX6_first 57 = .ok (.iload_n 3, 1) := by decide +kernel
theorem dX6_first_58 : decode cX6_first 58 = .ok (.ireturn, 1) := by decide +kernel
set_option maxRecDepth 20000 in
theorem ggX6_away_X6_isPlayer : GoodIn wsX6_away wsX6_isPlayer := goodIn_r _ [6, 7, 8, 5, 9] (by decide +kernel) (by decide +kernel)
set_option maxRecDepth 20000 in
theorem gX6_away_X6_isPlayer : GoodIn wsX6_away (va_wsS RX6 133 yX6_isPlayer wsX6_isPlayer) := goodIn_app (goodIn_of _ (by decide +kernel)) ggX6_away_X6_isPlayer
set_option maxRecDepth 20000 in
theorem ggX6_away_X6_fails : GoodIn wsX6_away wsX6_fails := goodIn_r _ [13, 1, 23, 24, 25, 26, 27, 28, 29, 30, 31, 32, 33, 34, 35, 36] (by decide +kernel) (by decide +kernel)
set_option maxRecDepth 20000 in
theorem gX6_away_X6_fails : GoodIn wsX6_away (wsV RX6 57 RX6 yX6_fails wsX6_fails) := goodIn_app (goodIn_of _ (by decide +kernel)) ggX6_away_X6_fails
set_option maxRecDepth 20000 in
theorem ggX6_away_X6_in : GoodIn wsX6_away wsX6_in := goodIn_r _ [9] (by decide +kernel) (by decide +kernel)
set_option maxRecDepth 20000 in
theorem gX6_away_X6_in : GoodIn wsX6_away (va_wsS RX6 46 yX6_in wsX6_in) := goodIn_app (goodIn_of _ (by decide +kernel)) ggX6_away_X6_in
set_option maxRecDepth 20000 in
theorem ggX6_away_X6_remembers : GoodIn wsX6_away wsX6_remembers := goodIn_r _ [17, 18, 19, 2, 20, 21, 5, 22, 23, 24, 25, 26, 27, 28, 29, 30, 31, 32, 33, 34, 35, 36] (by decide +kernel) (by decide +kernel)
set_option maxRecDepth 20000 in
theorem gX6_away_X6_remembers : GoodIn wsX6_away (wsV RX6 151 RX6 yX6_remembers wsX6_remembers) := goodIn_app (goodIn_of _ (by decide +kernel)) ggX6_away_X6_remembers
theorem dX6_away_0 : decode cX6_away 0 = .ok (.aload_n 0, 1) := by decide +kernel
theorem dX6_away_1 : decode cX6_away 1 = .ok (.iconst 0, 1) := by decide +kernel
theorem dX6_away_2 : decode cX6_away 2 = .ok (.putfield 42, 3) := by decide +kernel
theorem dX6_away_5 : decode cX6_away 5 = .ok (.aload_n 0, 1) := by decide +kernel
theorem dX6_away_6 : decode cX6_away 6 = .ok (.getfield 7, 3) := by decide +kernel
theorem dX6_away_9 : decode cX6_away 9 = .ok (.iload_n 1, 1) := by decide +kernel
theorem dX6_away_10 : decode cX6_away 10 = .ok (.invokestatic 133, 3) := by decide +kernel
theorem dX6_away_13 : decode cX6_away 13 = .ok (.ifCond .ne 9, 3) := by decide +kernel
theorem dX6_away_16 : decode cX6_away 16 = .ok (.aload_n 0, 1) := by decide +kernel
theorem dX6_away_17 : decode cX6_away 17 = .ok (.iconst 1, 1) := by decide +kernel
theorem dX6_away_18 : decode cX6_away 18 = .ok (.invokevirtual 57, 3) := by decide +kernel
theorem dX6_away_21 : decode cX6_away 21 = .ok (.ireturn, 1) := by decide +kernel
theorem dX6_away_22 : decode cX6_away 22 = .ok (.iload_n 2, 1) := by decide +kernel
theorem dX6_away_23 : decode cX6_away 23 = .ok (.iconst 1, 1) := by decide +kernel
theorem dX6_away_24 : decode cX6_away 24 = .ok (.bipush 99, 2) := by decide +kernel
theorem dX6_away_26 : decode cX6_away 26 = .ok (.invokestatic 46, 3) := by decide +kernel
theorem dX6_away_29 : decode cX6_away 29 = .ok (.ifCond .ne 9, 3) := by decide +kernel
theorem dX6_away_32 : decode cX6_away 32 = .ok (.aload_n 0, 1) := by decide +kernel
theorem dX6_away_33 : decode cX6_away 33 = .ok (.iconst 2, 1) := by decide +kernel
theorem dX6_away_34 : decode cX6_away 34 = .ok (.invokevirtual 57, 3) := by decide +kernel
theorem dX6_away_37 : decode cX6_away 37 = .ok (.ireturn, 1) := by decide +kernel
theorem dX6_away_38 : decode cX6_away 38 = .ok (.aload_n 0, 1) := by decide +kernel
theorem dX6_away_39 : decode cX6_away 39 = .ok (.invokevirtual 151, 3) := by decide +kernel
theorem dX6_away_42 : decode cX6_away 42 = .ok (.aload_n 0, 1) := by decide +kernel
theorem dX6_away_43 : decode cX6_away 43 = .ok (.getfield 7, 3) := by decide +kernel
theorem dX6_away_46 : decode cX6_away 46 = .ok (.bipush 50, 2) := by decide +kernel
theorem dX6_away_48 : decode cX6_away 48 = .ok (.iload_n 1, 1) := by decide +kernel
theorem dX6_away_49 : decode cX6_away 49 = .ok (.iadd, 1) := by decide +kernel
theorem dX6_away_50 : decode cX6_away 50 = .ok (.aload_n 0, 1) := by decide +kernel
theorem dX6_away_51 : decode cX6_away 51 = .ok (.getfield 7, 3) := by decide +kernel
theorem dX6_away_54 : decode cX6_away 54 = .ok (.iconst 0, 1) := by decide +kernel
theorem dX6_away_55 : decode cX6_away 55 = .ok (.iaload, 1) := by decide +kernel
theorem dX6_away_56 : decode cX6_away 56 = .ok (.iload_n 2, 1) := by decide +kernel
theorem dX6_away_57 : decode cX6_away 57 = .ok (.iadd, 1) := by decide +kernel
theorem dX6_away_58 : decode cX6_away 58 = .ok (.iastore, 1) := by decide +kernel
theorem dX6_away_59 : decode cX6_away 59 = .ok (.aload_n 0, 1) := by decide +kernel
theorem dX6_away_60 : decode cX6_away 60 = .ok (.getfield 7, 3) := by decide +kernel
theorem dX6_away_63 : decode cX6_away 63 = .ok (.bipush 50, 2) := by decide +kernel
theorem dX6_away_65 : decode cX6_away 65 = .ok (.iload_n 1, 1) := by decide +kernel
theorem dX6_away_66 : decode cX6_away 66 = .ok (.iadd, 1) := by decide +kernel
theorem dX6_away_67 : decode cX6_away 67 = .ok (.iaload, 1) := by decide +kernel
theorem dX6_away_68 : decode cX6_away 68 = .ok (.ireturn, 1) := by decide +kernel
set_option maxRecDepth 20000 in
theorem ggX6_post_X6_casts : GoodIn wsX6_post wsX6_casts := goodIn_r _ [7, 8, 9, 10, 11, 6, 12, 13, 14, 15, 16, 17, 18, 19, 20, 21, 22, 23, 24, 25, 26, 27, 28, 46, 47, 48, 49, 50, 51, 52, 53, 54, 55, 56, 57, 58, 59] (by decide +kernel) (by decide +kernel)
set_option maxRecDepth 20000 in
theorem gX6_post_X6_casts : GoodIn wsX6_post (wsV RX6 83 RX6 yX6_casts wsX6_casts) := goodIn_app (goodIn_of _ (by decide +kernel)) ggX6_post_X6_casts
set_option maxRecDepth 20000 in
theorem ggX6_post_X6_fails : GoodIn wsX6_post wsX6_fails := goodIn_r _ [32, 1, 46, 47, 48, 49, 50, 51, 52, 53, 54, 55, 56, 57, 58, 59] (by decide +kernel) (by decide +kernel)
set_option maxRecDepth 20000 in
theorem gX6_post_X6_fails : GoodIn wsX6_post (wsV RX6 57 RX6 yX6_fails wsX6_fails) := goodIn_app (goodIn_of _ (by decide +kernel)) ggX6_post_X6_fails
set_option maxRecDepth 20000 in
theorem ggX6_post_X6_remembers : GoodIn wsX6_post wsX6_remembers := goodIn_r _ [36, 37, 38, 2, 39, 40, 6, 41, 46, 47, 48, 49, 50, 51, 52, 53, 54, 55, 56, 57, 58, 59] (by decide +kernel) (by decide +kernel)
set_option maxRecDepth 20000 in
theorem gX6_post_X6_remembers : GoodIn wsX6_post (wsV RX6 151 RX6 yX6_remembers wsX6_remembers) := goodIn_app (goodIn_of _ (by decide +kernel)) ggX6_post_X6_remembers
set_option maxRecDepth 20000 in
theorem ggX6_post_X6_posts : GoodIn wsX6_post wsX6_posts := goodIn_r _ [45, 9, 3, 4, 5, 6, 7, 8, 10, 11, 12, 13, 14, 15, 16, 17, 18, 19, 20, 21, 22, 23, 24, 25, 26, 27, 28, 46, 47, 48, 49, 50, 51, 52, 53, 54, 55, 56, 57, 58, 59] (by decide +kernel) (by decide +kernel)
set_option maxRecDepth 20000 in
theorem gX6_post_X6_posts : GoodIn wsX6_post (wsV RX6 154 RX6 yX6_posts wsX6_posts) := goodIn_app (goodIn_of _ (by decide +kernel)) ggX6_post_X6_posts
theorem dX6_post_0 : decode cX6_post 0 = .ok (.aload_n 0, 1) := by decide +kernel
theorem dX6_post_1 : decode cX6_post 1 = .ok (.iconst 0, 1) := by decide +kernel
theorem dX6_post_2 : decode cX6_post 2 = .ok (.putfield 42, 3) := by decide +kernel
theorem dX6_post_5 : decode cX6_post 5 = .ok (.aload_n 0, 1) := by decide +kernel
theorem dX6_post_6 : decode cX6_post 6 = .ok (.getfield 7, 3) := by decide +kernel
theorem dX6_post_9 : decode cX6_post 9 = .ok (.iconst 3, 1) := by decide +kernel
theorem dX6_post_10 : decode cX6_post 10 = .ok (.iaload, 1) := by decide +kernel
theorem dX6_post_11 : decode cX6_post 11 = .ok (.ifCond .eq 14, 3) := by decide +kernel
theorem dX6_post_14 : decode cX6_post 14 = .ok (.aload_n 0, 1) := by decide +kernel
theorem dX6_post_15 : decode cX6_post 15 = .ok (.aload_n 0, 1) := by decide +kernel
theorem dX6_post_16 : decode cX6_post 16 = .ok (.getfield 7, 3) := by decide +kernel
theorem dX6_post_19 : decode cX6_post 19 = .ok (.invokevirtual 83, 3) := by decide +kernel
theorem dX6_post_22 : decode cX6_post 22 = .ok (.ifCond .ge 9, 3) := by decide +kernel
theorem dX6_post_25 : decode cX6_post 25 = .ok (.aload_n 0, 1) := by decide +kernel
theorem dX6_post_26 : decode cX6_post 26 = .ok (.iconst 1, 1) := by decide +kernel
theorem dX6_post_27 : decode cX6_post 27 = .ok (.invokevirtual 57, 3) := by decide +kernel
theorem dX6_post_30 : decode cX6_post 30 = .ok (.ireturn, 1) := by decide +kernel
theorem dX6_post_31 : decode cX6_post 31 = .ok (.aload_n 0, 1) := by decide +kernel
theorem dX6_post_32 : decode cX6_post 32 = .ok (.invokevirtual 151, 3) := by decide +kernel
theorem dX6_post_35 : decode cX6_post 35 = .ok (.aload_n 0, 1) := by decide +kernel
theorem dX6_post_36 : decode cX6_post 36 = .ok (.aload_n 0, 1) := by decide +kernel
theorem dX6_post_37 : decode cX6_post 37 = .ok (.getfield 7, 3) := by decide +kernel
theorem dX6_post_40 : decode cX6_post 40 = .ok (.invokevirtual 154, 3) := by decide +kernel
theorem dX6_post_43 : decode cX6_post 43 = .ok (.ireturn, 1) := by decide +kernel
set_option maxRecDepth 20000 in
theorem ggX6_play_X6_fails : GoodIn wsX6_play wsX6_fails := goodIn_r _ [7, 1, 52, 53, 54, 55, 56, 57, 58, 59, 60, 61, 62, 63, 64, 65] (by decide +kernel) (by decide +kernel)
set_option maxRecDepth 20000 in
theorem gX6_play_X6_fails : GoodIn wsX6_play (wsV RX6 57 RX6 yX6_fails wsX6_fails) := goodIn_app (goodIn_of _ (by decide +kernel)) ggX6_play_X6_fails
set_option maxRecDepth 20000 in
theorem ggX6_play_X6_remembers : GoodIn wsX6_play wsX6_remembers := goodIn_r _ [11, 12, 13, 2, 14, 15, 6, 16, 52, 53, 54, 55, 56, 57, 58, 59, 60, 61, 62, 63, 64, 65] (by decide +kernel) (by decide +kernel)
set_option maxRecDepth 20000 in
theorem gX6_play_X6_remembers : GoodIn wsX6_play (wsV RX6 151 RX6 yX6_remembers wsX6_remembers) := goodIn_app (goodIn_of _ (by decide +kernel)) ggX6_play_X6_remembers
set_option maxRecDepth 20000 in
theorem ggX6_play_X6_plays : GoodIn wsX6_play wsX6_plays := goodIn_r _ [20, 21, 22, 23, 24, 6, 25, 26, 27, 28, 29, 30, 31, 32, 33, 34, 35, 36, 37, 38, 39, 40, 41, 42, 43, 44, 45, 46, 47, 48, 49, 50, 51, 52, 53, 54, 55, 56, 57, 58, 59, 60, 61, 62, 63, 64, 65] (by decide +kernel) (by decide +kernel)
set_option maxRecDepth 20000 in
theorem gX6_play_X6_plays : GoodIn wsX6_play (wsV RX6 127 RX6 yX6_plays wsX6_plays) := goodIn_app (goodIn_of _ (by decide +kernel)) ggX6_play_X6_plays
theorem dX6_play_0 : decode cX6_play 0 = .ok (.aload_n 0, 1) := by decide +kernel
theorem dX6_play_1 : decode cX6_play 1 = .ok (.iconst 0, 1) := by decide +kernel
theorem dX6_play_2 : decode cX6_play 2 = .ok (.putfield 42, 3) := by decide +kernel
theorem dX6_play_5 : decode cX6_play 5 = .ok (.aload_n 0, 1) := by decide +kernel
theorem dX6_play_6 : decode cX6_play 6 = .ok (.getfield 7, 3) := by decide +kernel
theorem dX6_play_9 : decode cX6_play 9 = .ok (.iconst 3, 1) := by decide +kernel
theorem dX6_play_10 : decode cX6_play 10 = .ok (.iaload, 1) := by decide +kernel
theorem dX6_play_11 : decode cX6_play 11 = .ok (.ifCond .ne 9, 3) := by decide +kernel
theorem dX6_play_14 : decode cX6_play 14 = .ok (.aload_n 0, 1) := by decide +kernel
theorem dX6_play_15 : decode cX6_play 15 = .ok (.iconst 1, 1) := by decide +kernel
theorem dX6_play_16 : decode cX6_play 16 = .ok (.invokevirtual 57, 3) := by decide +kernel
theorem dX6_play_19 : decode cX6_play 19 = .ok (.ireturn, 1) := by decide +kernel
theorem dX6_play_20 : decode cX6_play 20 = .ok (.aload_n 0, 1) := by decide +kernel
theorem dX6_play_21 : decode cX6_play 21 = .ok (.invokevirtual 151, 3) := by decide +kernel
theorem dX6_play_24 : decode cX6_play 24 = .ok (.aload_n 0, 1) := by decide +kernel
theorem dX6_play_25 : decode cX6_play 25 = .ok (.aload_n 0, 1) := by decide +kernel
theorem dX6_play_26 : decode cX6_play 26 = .ok (.getfield 7, 3) := by decide +kernel
theorem dX6_play_29 : decode cX6_play 29 = .ok (.invokevirtual 127, 3) := by decide +kernel
theorem dX6_play_32 : decode cX6_play 32 = .ok (.ireturn, 1) := by decide +kernel
set_option maxRecDepth 20000 in
theorem ggX6_dark_X6_in : GoodIn wsX6_dark wsX6_in := goodIn_r _ [6] (by decide +kernel) (by decide +kernel)
set_option maxRecDepth 20000 in
theorem gX6_dark_X6_in : GoodIn wsX6_dark (va_wsS RX6 46 yX6_in wsX6_in) := goodIn_app (goodIn_of _ (by decide +kernel)) ggX6_dark_X6_in
set_option maxRecDepth 20000 in
theorem ggX6_dark_X6_fails : GoodIn wsX6_dark wsX6_fails := goodIn_r _ [10, 1, 29, 30, 31, 32, 33, 34, 35, 36, 37, 38, 39, 40, 41, 42] (by decide +kernel) (by decide +kernel)
set_option maxRecDepth 20000 in
theorem gX6_dark_X6_fails : GoodIn wsX6_dark (wsV RX6 57 RX6 yX6_fails wsX6_fails) := goodIn_app (goodIn_of _ (by decide +kernel)) ggX6_dark_X6_fails
set_option maxRecDepth 20000 in
theorem ggX6_dark_X6_remembers : GoodIn wsX6_dark wsX6_remembers := goodIn_r _ [14, 15, 16, 2, 17, 18, 5, 19, 29, 30, 31, 32, 33, 34, 35, 36, 37, 38, 39, 40, 41, 42] (by decide +kernel) (by decide +kernel)
set_option maxRecDepth 20000 in
theorem gX6_dark_X6_remembers : GoodIn wsX6_dark (wsV RX6 151 RX6 yX6_remembers wsX6_remembers) := goodIn_app (goodIn_of _ (by decide +kernel)) ggX6_dark_X6_remembers
set_option maxRecDepth 20000 in
theorem ggX6_dark_X6_darkens : GoodIn wsX6_dark wsX6_darkens := goodIn_r _ [22, 23, 24, 5, 25, 26, 27, 28] (by decide +kernel) (by decide +kernel)
set_option maxRecDepth 20000 in
theorem gX6_dark_X6_darkens : GoodIn wsX6_dark (va_wsS RX6 124 yX6_darkens wsX6_darkens) := goodIn_app (goodIn_of _ (by decide +kernel)) ggX6_dark_X6_darkens
theorem dX6_dark_0 : decode cX6_dark 0 = .ok (.aload_n 0, 1) := by decide +kernel
theorem dX6_dark_1 : decode cX6_dark 1 = .ok (.iconst 0, 1) := by decide +kernel
theorem dX6_dark_2 : decode cX6_dark 2 = .ok (.putfield 42, 3) := by decide +kernel
theorem dX6_dark_5 : decode cX6_dark 5 = .ok (.iload_n 1, 1) := by decide +kernel
theorem dX6_dark_6 : decode cX6_dark 6 = .ok (.iconst 1, 1) := by decide +kernel
theorem dX6_dark_7 : decode cX6_dark 7 = .ok (.bipush 99, 2) := by decide +kernel
theorem dX6_dark_9 : decode cX6_dark 9 = .ok (.invokestatic 46, 3) := by decide +kernel
theorem dX6_dark_12 : decode cX6_dark 12 = .ok (.ifCond .ne 9, 3) := by decide +kernel
theorem dX6_dark_15 : decode cX6_dark 15 = .ok (.aload_n 0, 1) := by decide +kernel
theorem dX6_dark_16 : decode cX6_dark 16 = .ok (.iconst 1, 1) := by decide +kernel
theorem dX6_dark_17 : decode cX6_dark 17 = .ok (.invokevirtual 57, 3) := by decide +kernel
theorem dX6_dark_20 : decode cX6_dark 20 = .ok (.ireturn, 1) := by decide +kernel
theorem dX6_dark_21 : decode cX6_dark 21 = .ok (.aload_n 0, 1) := by decide +kernel
theorem dX6_dark_22 : decode cX6_dark 22 = .ok (.invokevirtual 151, 3) := by decide +kernel
theorem dX6_dark_25 : decode cX6_dark 25 = .ok (.aload_n 0, 1) := by decide +kernel
theorem dX6_dark_26 : decode cX6_dark 26 = .ok (.getfield 7, 3) := by decide +kernel
theorem dX6_dark_29 : decode cX6_dark 29 = .ok (.iload_n 1, 1) := by decide +kernel
theorem dX6_dark_30 : decode cX6_dark 30 = .ok (.invokestatic 124, 3) := by decide +kernel
theorem dX6_dark_33 : decode cX6_dark 33 = .ok (.aload_n 0, 1) := by decide +kernel
theorem dX6_dark_34 : decode cX6_dark 34 = .ok (.getfield 7, 3) := by decide +kernel
theorem dX6_dark_37 : decode cX6_dark 37 = .ok (.iconst 0, 1) := by decide +kernel
theorem dX6_dark_38 : decode cX6_dark 38 = .ok (.iaload, 1) := by decide +kernel
theorem dX6_dark_39 : decode cX6_dark 39 = .ok (.ireturn, 1) := by decide +kernel
theorem dX6_timesOf_0 : decode cX6_timesOf 0 = .ok (.iload_n 1, 1) := by decide +kernel
theorem dX6_timesOf_1 : decode cX6_timesOf 1 = .ok (.iconst (-1), 1) := by decide +kernel
theorem dX6_timesOf_2 : decode cX6_timesOf 2 = .ok (.if_icmp .ne 7, 3) := by decide +kernel
theorem dX6_timesOf_5 : decode cX6_timesOf 5 = .ok (.iconst 0, 1) := by decide +kernel
theorem dX6_timesOf_6 : decode cX6_timesOf 6 = .ok (.goto 18, 3) := by decide +kernel
theorem dX6_timesOf_9 : decode cX6_timesOf 9 = .ok (.aload_n 0, 1) := by decide +kernel
theorem dX6_timesOf_10 : decode cX6_timesOf 10 = .ok (.getfield 7, 3) := by decide +kernel
theorem dX6_timesOf_13 : decode cX6_timesOf 13 = .ok (.sipush 130, 3) := by decide +kernel
theorem dX6_timesOf_16 : decode cX6_timesOf 16 = .ok (.bipush 6, 2) := by decide +kernel
theorem dX6_timesOf_18 : decode cX6_timesOf 18 = .ok (.iload_n 1, 1) := by decide +kernel
theorem dX6_timesOf_19 : decode cX6_timesOf 19 = .ok (.imul, 1) := by decide +kernel
theorem dX6_timesOf_20 : decode cX6_timesOf 20 = .ok (.iadd, 1) := by decide +kernel
theorem dX6_timesOf_21 : decode cX6_timesOf 21 = .ok (.iload_n 2, 1) := by decide +kernel
theorem dX6_timesOf_22 : decode cX6_timesOf 22 = .ok (.iadd, 1) := by decide +kernel
theorem dX6_timesOf_23 : decode cX6_timesOf 23 = .ok (.iaload, 1) := by decide +kernel
theorem dX6_timesOf_24 : decode cX6_timesOf 24 = .ok (.ireturn, 1) := by decide +kernel
set_option maxRecDepth 20000 in
theorem ggX6_promote_X6_isRole : GoodIn wsX6_promote wsX6_isRole := goodIn_r _ [6, 7, 8, 5, 9] (by decide +kernel) (by decide +kernel)
set_option maxRecDepth 20000 in
theorem gX6_promote_X6_isRole : GoodIn wsX6_promote (va_wsS RX6 130 yX6_isRole wsX6_isRole) := goodIn_app (goodIn_of _ (by decide +kernel)) ggX6_promote_X6_isRole
set_option maxRecDepth 20000 in
theorem ggX6_promote_X6_fails : GoodIn wsX6_promote wsX6_fails := goodIn_r _ [13, 1, 27, 28, 29, 30, 31, 32, 33, 34, 35, 36, 37, 38, 39, 40] (by decide +kernel) (by decide +kernel)
set_option maxRecDepth 20000 in
theorem gX6_promote_X6_fails : GoodIn wsX6_promote (wsV RX6 57 RX6 yX6_fails wsX6_fails) := goodIn_app (goodIn_of _ (by decide +kernel)) ggX6_promote_X6_fails
set_option maxRecDepth 20000 in
theorem ggX6_promote_X6_timesOf : GoodIn wsX6_promote wsX6_timesOf := goodIn_r _ [17, 2, 27, 28, 29, 30, 31, 32, 33, 34, 35, 36, 37, 38, 39, 40] (by decide +kernel) (by decide +kernel)
set_option maxRecDepth 20000 in
theorem gX6_promote_X6_timesOf : GoodIn wsX6_promote (wsV RX6 157 RX6 yX6_timesOf wsX6_timesOf) := goodIn_app (goodIn_of _ (by decide +kernel)) ggX6_promote_X6_timesOf
set_option maxRecDepth 20000 in
theorem ggX6_promote_X6_remembers : GoodIn wsX6_promote wsX6_remembers := goodIn_r _ [21, 22, 23, 2, 24, 25, 5, 26, 27, 28, 29, 30, 31, 32, 33, 34, 35, 36, 37, 38, 39, 40] (by decide +kernel) (by decide +kernel)
set_option maxRecDepth 20000 in
theorem gX6_promote_X6_remembers : GoodIn wsX6_promote (wsV RX6 151 RX6 yX6_remembers wsX6_remembers) := goodIn_app (goodIn_of _ (by decide +kernel)) ggX6_promote_X6_remembers
theorem dX6_promote_0 : decode cX6_promote 0 = .ok (.aload_n 0, 1) := by decide +kernel
theorem dX6_promote_1 : decode cX6_promote 1 = .ok (.iconst 0, 1) := by decide +kernel
theorem dX6_promote_2 : decode cX6_promote 2 = .ok (.putfield 42, 3) := by decide +kernel
theorem dX6_promote_5 : decode cX6_promote 5 = .ok (.aload_n 0, 1) := by decide +kernel
theorem dX6_promote_6 : decode cX6_promote 6 = .ok (.getfield 7, 3) := by decide +kernel
theorem dX6_promote_9 : decode cX6_promote 9 = .ok (.iload_n 1, 1) := by decide +kernel
theorem dX6_promote_10 : decode cX6_promote 10 = .ok (.invokestatic 130, 3) := by decide +kernel
theorem dX6_promote_13 : decode cX6_promote 13 = .ok (.ifCond .ne 9, 3) := by decide +kernel
theorem dX6_promote_16 : decode cX6_promote 16 = .ok (.aload_n 0, 1) := by decide +kernel
theorem dX6_promote_17 : decode cX6_promote 17 = .ok (.iconst 1, 1) := by decide +kernel
theorem dX6_promote_18 : decode cX6_promote 18 = .ok (.invokevirtual 57, 3) := by decide +kernel
theorem dX6_promote_21 : decode cX6_promote 21 = .ok (.ireturn, 1) := by decide +kernel
theorem dX6_promote_22 : decode cX6_promote 22 = .ok (.aload_n 0, 1) := by decide +kernel
theorem dX6_promote_23 : decode cX6_promote 23 = .ok (.getfield 7, 3) := by decide +kernel
theorem dX6_promote_26 : decode cX6_promote 26 = .ok (.bipush 18, 2) := by decide +kernel
theorem dX6_promote_28 : decode cX6_promote 28 = .ok (.iload_n 1, 1) := by decide +kernel
theorem dX6_promote_29 : decode cX6_promote 29 = .ok (.iadd, 1) := by decide +kernel
theorem dX6_promote_30 : decode cX6_promote 30 = .ok (.iaload, 1) := by decide +kernel
theorem dX6_promote_31 : decode cX6_promote 31 = .ok (.istore_n 2, 1) := by decide +kernel
theorem dX6_promote_32 : decode cX6_promote 32 = .ok (.aload_n 0, 1) := by decide +kernel
theorem dX6_promote_33 : decode cX6_promote 33 = .ok (.getfield 7, 3) := by decide +kernel
theorem dX6_promote_36 : decode cX6_promote 36 = .ok (.iconst 4, 1) := by decide +kernel
theorem dX6_promote_37 : decode cX6_promote 37 = .ok (.iaload, 1) := by decide +kernel
theorem dX6_promote_38 : decode cX6_promote 38 = .ok (.iconst 1, 1) := by decide +kernel
theorem dX6_promote_39 : decode cX6_promote 39 = .ok (.isub, 1) := by decide +kernel
theorem dX6_promote_40 : decode cX6_promote 40 = .ok (.istore_n 3, 1) := by decide +kernel
theorem dX6_promote_41 : decode cX6_promote 41 = .ok (.iload_n 3, 1) := by decide +kernel
theorem dX6_promote_42 : decode cX6_promote 42 = .ok (.ifCond .lt 65, 3) := by decide +kernel
theorem dX6_promote_45 : decode cX6_promote 45 = .ok (.aload_n 0, 1) := by decide +kernel
theorem dX6_promote_46 : decode cX6_promote 46 = .ok (.iload_n 3, 1) := by decide +kernel
theorem dX6_promote_47 : decode cX6_promote 47 = .ok (.iload_n 1, 1) := by decide +kernel
theorem dX6_promote_48 : decode cX6_promote 48 = .ok (.invokevirtual 157, 3) := by decide +kernel
theorem dX6_promote_51 : decode cX6_promote 51 = .ok (.aload_n 0, 1) := by decide +kernel
theorem dX6_promote_52 : decode cX6_promote 52 = .ok (.aload_n 0, 1) := by decide +kernel
theorem dX6_promote_53 : decode cX6_promote 53 = .ok (.getfield 7, 3) := by decide +kernel
theorem dX6_promote_56 : decode cX6_promote 56 = .ok (.bipush 18, 2) := by decide +kernel
theorem dX6_promote_58 : decode cX6_promote 58 = .ok (.iload_n 1, 1) := by decide +kernel
theorem dX6_promote_59 : decode cX6_promote 59 = .ok (.iadd, 1) := by decide +kernel
theorem dX6_promote_60 : decode cX6_promote 60 = .ok (.iaload, 1) := by decide +kernel
theorem dX6_promote_61 : decode cX6_promote 61 = .ok (.iload_n 1, 1) := by decide +kernel
theorem dX6_promote_62 : decode cX6_promote 62 = .ok (.invokevirtual 157, 3) := by decide +kernel
theorem dX6_promote_65 : decode cX6_promote 65 = .ok (.if_icmp .le 7, 3) := by decide +kernel
theorem dX6_promote_68 : decode cX6_promote 68 = .ok (.iconst 1, 1) := by decide +kernel
theorem dX6_promote_69 : decode cX6_promote 69 = .ok (.goto 4, 3) := by decide +kernel
theorem dX6_promote_72 : decode cX6_promote 72 = .ok (.iconst 0, 1) := by decide +kernel
theorem dX6_promote_73 : decode cX6_promote 73 = .ok (.istore 4, 2) := by decide +kernel
theorem dX6_promote_75 : decode cX6_promote 75 = .ok (.iload 4, 2) := by decide +kernel
theorem dX6_promote_77 : decode cX6_promote 77 = .ok (.ifCond .eq 22, 3) := by decide +kernel
theorem dX6_promote_80 : decode cX6_promote 80 = .ok (.aload_n 0, 1) := by decide +kernel
theorem dX6_promote_81 : decode cX6_promote 81 = .ok (.iload_n 3, 1) := by decide +kernel
theorem dX6_promote_82 : decode cX6_promote 82 = .ok (.iload_n 1, 1) := by decide +kernel
theorem dX6_promote_83 : decode cX6_promote 83 = .ok (.invokevirtual 157, 3) := by decide +kernel
theorem dX6_promote_86 : decode cX6_promote 86 = .ok (.aload_n 0, 1) := by decide +kernel
theorem dX6_promote_87 : decode cX6_promote 87 = .ok (.iload_n 2, 1) := by decide +kernel
theorem dX6_promote_88 : decode cX6_promote 88 = .ok (.iload_n 1, 1) := by decide +kernel
theorem dX6_promote_89 : decode cX6_promote 89 = .ok (.invokevirtual 157, 3) := by decide +kernel
theorem dX6_promote_92 : decode cX6_promote 92 = .ok (.if_icmp .lt 7, 3) := by decide +kernel
theorem dX6_promote_95 : decode cX6_promote 95 = .ok (.iload_n 3, 1) := by decide +kernel
theorem dX6_promote_96 : decode cX6_promote 96 = .ok (.goto 4, 3) := by decide +kernel
theorem dX6_promote_99 : decode cX6_promote 99 = .ok (.iload_n 2, 1) := by decide +kernel
theorem dX6_promote_100 : decode cX6_promote 100 = .ok (.istore_n 2, 1) := by decide +kernel
theorem dX6_promote_101 : decode cX6_promote 101 = .ok (.iinc 3 (-1), 3) := by decide +kernel
theorem dX6_promote_104 : decode cX6_promote 104 = .ok (.goto (-63), 3) := by decide +kernel
theorem dX6_promote_107 : decode cX6_promote 107 = .ok (.iload_n 2, 1) := by decide +kernel
theorem dX6_promote_108 : decode cX6_promote 108 = .ok (.aload_n 0, 1) := by decide +kernel
theorem dX6_promote_109 : decode cX6_promote 109 = .ok (.getfield 7, 3) := by decide +kernel
theorem dX6_promote_112 : decode cX6_promote 112 = .ok (.bipush 18, 2) := by decide +kernel
theorem dX6_promote_114 : decode cX6_promote 114 = .ok (.iload_n 1, 1) := by decide +kernel
theorem dX6_promote_115 : decode cX6_promote 115 = .ok (.iadd, 1) := by decide +kernel
theorem dX6_promote_116 : decode cX6_promote 116 = .ok (.iaload, 1) := by decide +kernel
theorem dX6_promote_117 : decode cX6_promote 117 = .ok (.if_icmp .ne 9, 3) := by decide +kernel
theorem dX6_promote_120 : decode cX6_promote 120 = .ok (.aload_n 0, 1) := by decide +kernel
theorem dX6_promote_121 : decode cX6_promote 121 = .ok (.iconst 2, 1) := by decide +kernel
theorem dX6_promote_122 : decode cX6_promote 122 = .ok (.invokevirtual 57, 3) := by decide +kernel
theorem dX6_promote_125 : decode cX6_promote 125 = .ok (.ireturn, 1) := by decide +kernel
theorem dX6_promote_126 : decode cX6_promote 126 = .ok (.aload_n 0, 1) := by decide +kernel
theorem dX6_promote_127 : decode cX6_promote 127 = .ok (.invokevirtual 151, 3) := by decide +kernel
theorem dX6_promote_130 : decode cX6_promote 130 = .ok (.aload_n 0, 1) := by decide +kernel
theorem dX6_promote_131 : decode cX6_promote 131 = .ok (.getfield 7, 3) := by decide +kernel
theorem dX6_promote_134 : decode cX6_promote 134 = .ok (.bipush 18, 2) := by decide +kernel
theorem dX6_promote_136 : decode cX6_promote 136 = .ok (.iload_n 1, 1) := by decide +kernel
theorem dX6_promote_137 : decode cX6_promote 137 = .ok (.iadd, 1) := by decide +kernel
theorem dX6_promote_138 : decode cX6_promote 138 = .ok (.iload_n 2, 1) := by decide +kernel
theorem dX6_promote_139 : decode cX6_promote 139 = .ok (.iastore, 1) := by decide +kernel
theorem dX6_promote_140 : decode cX6_promote 140 = .ok (.iload_n 2, 1) := by decide +kernel
theorem dX6_promote_141 : decode cX6_promote 141 = .ok (.ireturn, 1) := by decide +kernel
set_option maxRecDepth 20000 in
theorem ggX6_isFor_X6_in : GoodIn wsX6_isFor wsX6_in := goodIn_r _ [4] (by decide +kernel) (by decide +kernel)
set_option maxRecDepth 20000 in
theorem gX6_isFor_X6_in : GoodIn wsX6_isFor (va_wsS RX6 46 yX6_in wsX6_in) := goodIn_app (goodIn_of _ (by decide +kernel)) ggX6_isFor_X6_in
theorem dX6_isFor_0 : decode cX6_isFor 0 = .ok (.iload_n 0, 1) := by decide +kernel
theorem dX6_isFor_1 : decode cX6_isFor 1 = .ok (.ifCond .ne 13, 3) := by decide +kernel
theorem dX6_isFor_4 : decode cX6_isFor 4 = .ok (.iload_n 1, 1) := by decide +kernel
theorem dX6_isFor_5 : decode cX6_isFor 5 = .ok (.iconst 1, 1) := by decide +kernel
theorem dX6_isFor_6 : decode cX6_isFor 6 = .ok (.bipush 9, 2) := by decide +kernel
theorem dX6_isFor_8 : decode cX6_isFor 8 = .ok (.invokestatic 46, 3) := by decide +kernel
theorem dX6_isFor_11 : decode cX6_isFor 11 = .ok (.goto 40, 3) := by decide +kernel
theorem dX6_isFor_14 : decode cX6_isFor 14 = .ok (.iload_n 0, 1) := by decide +kernel
theorem dX6_isFor_15 : decode cX6_isFor 15 = .ok (.iconst 2, 1) := by decide +kernel
theorem dX6_isFor_16 : decode cX6_isFor 16 = .ok (.if_icmp .ne 13, 3) := by decide +kernel
theorem dX6_isFor_19 : decode cX6_isFor 19 = .ok (.iload_n 1, 1) := by decide +kernel
theorem dX6_isFor_20 : decode cX6_isFor 20 = .ok (.iconst 0, 1) := by decide +kernel
theorem dX6_isFor_21 : decode cX6_isFor 21 = .ok (.bipush 20, 2) := by decide +kernel
theorem dX6_isFor_23 : decode cX6_isFor 23 = .ok (.invokestatic 46, 3) := by decide +kernel
theorem dX6_isFor_26 : decode cX6_isFor 26 = .ok (.goto 25, 3) := by decide +kernel
theorem dX6_isFor_29 : decode cX6_isFor 29 = .ok (.iload_n 0, 1) := by decide +kernel
theorem dX6_isFor_30 : decode cX6_isFor 30 = .ok (.iconst 3, 1) := by decide +kernel
theorem dX6_isFor_31 : decode cX6_isFor 31 = .ok (.if_icmp .ne 13, 3) := by decide +kernel
theorem dX6_isFor_34 : decode cX6_isFor 34 = .ok (.iload_n 1, 1) := by decide +kernel
theorem dX6_isFor_35 : decode cX6_isFor 35 = .ok (.iconst 0, 1) := by decide +kernel
theorem dX6_isFor_36 : decode cX6_isFor 36 = .ok (.bipush 50, 2) := by decide +kernel
theorem dX6_isFor_38 : decode cX6_isFor 38 = .ok (.invokestatic 46, 3) := by decide +kernel
theorem dX6_isFor_41 : decode cX6_isFor 41 = .ok (.goto 10, 3) := by decide +kernel
theorem dX6_isFor_44 : decode cX6_isFor 44 = .ok (.iload_n 1, 1) := by decide +kernel
theorem dX6_isFor_45 : decode cX6_isFor 45 = .ok (.iconst 0, 1) := by decide +kernel
theorem dX6_isFor_46 : decode cX6_isFor 46 = .ok (.bipush 99, 2) := by decide +kernel
theorem dX6_isFor_48 : decode cX6_isFor 48 = .ok (.invokestatic 46, 3) := by decide +kernel
theorem dX6_isFor_51 : decode cX6_isFor 51 = .ok (.ireturn, 1) := by decide +kernel
set_option maxRecDepth 20000 in
theorem ggX6_set_X6_in : GoodIn wsX6_set wsX6_in := goodIn_r _ [6] (by decide +kernel) (by decide +kernel)
set_option maxRecDepth 20000 in
theorem gX6_set_X6_in : GoodIn wsX6_set (va_wsS RX6 46 yX6_in wsX6_in) := goodIn_app (goodIn_of _ (by decide +kernel)) ggX6_set_X6_in
set_option maxRecDepth 20000 in
theorem ggX6_set_X6_isFor : GoodIn wsX6_set wsX6_isFor := goodIn_r _ [9, 3, 4, 5, 6] (by decide +kernel) (by decide +kernel)
set_option maxRecDepth 20000 in
theorem gX6_set_X6_isFor : GoodIn wsX6_set (va_wsS RX6 160 yX6_isFor wsX6_isFor) := goodIn_app (goodIn_of _ (by decide +kernel)) ggX6_set_X6_isFor
set_option maxRecDepth 20000 in
theorem ggX6_set_X6_fails : GoodIn wsX6_set wsX6_fails := goodIn_r _ [13, 1, 23, 24, 25, 26, 27, 28, 29, 30, 31, 32, 33, 34, 35, 36] (by decide +kernel) (by decide +kernel)
set_option maxRecDepth 20000 in
theorem gX6_set_X6_fails : GoodIn wsX6_set (wsV RX6 57 RX6 yX6_fails wsX6_fails) := goodIn_app (goodIn_of _ (by decide +kernel)) ggX6_set_X6_fails
set_option maxRecDepth 20000 in
theorem ggX6_set_X6_remembers : GoodIn wsX6_set wsX6_remembers := goodIn_r _ [17, 18, 19, 2, 20, 21, 5, 22, 23, 24, 25, 26, 27, 28, 29, 30, 31, 32, 33, 34, 35, 36] (by decide +kernel) (by decide +kernel)
set_option maxRecDepth 20000 in
theorem gX6_set_X6_remembers : GoodIn wsX6_set (wsV RX6 151 RX6 yX6_remembers wsX6_remembers) := goodIn_app (goodIn_of _ (by decide +kernel)) ggX6_set_X6_remembers
theorem dX6_set_0 : decode cX6_set 0 = .ok (.aload_n 0, 1) := by decide +kernel
theorem dX6_set_1 : decode cX6_set 1 = .ok (.iconst 0, 1) := by decide +kernel
theorem dX6_set_2 : decode cX6_set 2 = .ok (.putfield 42, 3) := by decide +kernel
theorem dX6_set_5 : decode cX6_set 5 = .ok (.iload_n 1, 1) := by decide +kernel
theorem dX6_set_6 : decode cX6_set 6 = .ok (.iconst 0, 1) := by decide +kernel
theorem dX6_set_7 : decode cX6_set 7 = .ok (.iconst 4, 1) := by decide +kernel
theorem dX6_set_8 : decode cX6_set 8 = .ok (.invokestatic 46, 3) := by decide +kernel
theorem dX6_set_11 : decode cX6_set 11 = .ok (.ifCond .eq 11, 3) := by decide +kernel
theorem dX6_set_14 : decode cX6_set 14 = .ok (.iload_n 1, 1) := by decide +kernel
theorem dX6_set_15 : decode cX6_set 15 = .ok (.iload_n 2, 1) := by decide +kernel
theorem dX6_set_16 : decode cX6_set 16 = .ok (.invokestatic 160, 3) := by decide +kernel
theorem dX6_set_19 : decode cX6_set 19 = .ok (.ifCond .ne 9, 3) := by decide +kernel
theorem dX6_set_22 : decode cX6_set 22 = .ok (.aload_n 0, 1) := by decide +kernel
theorem dX6_set_23 : decode cX6_set 23 = .ok (.iconst 1, 1) := by decide +kernel
theorem dX6_set_24 : decode cX6_set 24 = .ok (.invokevirtual 57, 3) := by decide +kernel
theorem dX6_set_27 : decode cX6_set 27 = .ok (.ireturn, 1) := by decide +kernel
theorem dX6_set_28 : decode cX6_set 28 = .ok (.aload_n 0, 1) := by decide +kernel
theorem dX6_set_29 : decode cX6_set 29 = .ok (.invokevirtual 151, 3) := by decide +kernel
theorem dX6_set_32 : decode cX6_set 32 = .ok (.aload_n 0, 1) := by decide +kernel
theorem dX6_set_33 : decode cX6_set 33 = .ok (.getfield 7, 3) := by decide +kernel
theorem dX6_set_36 : decode cX6_set 36 = .ok (.iconst 5, 1) := by decide +kernel
theorem dX6_set_37 : decode cX6_set 37 = .ok (.iload_n 1, 1) := by decide +kernel
theorem dX6_set_38 : decode cX6_set 38 = .ok (.iadd, 1) := by decide +kernel
theorem dX6_set_39 : decode cX6_set 39 = .ok (.iaload, 1) := by decide +kernel
theorem dX6_set_40 : decode cX6_set 40 = .ok (.istore_n 3, 1) := by decide +kernel
theorem dX6_set_41 : decode cX6_set 41 = .ok (.aload_n 0, 1) := by decide +kernel
theorem dX6_set_42 : decode cX6_set 42 = .ok (.getfield 7, 3) := by decide +kernel
theorem dX6_set_45 : decode cX6_set 45 = .ok (.iconst 5, 1) := by decide +kernel
theorem dX6_set_46 : decode cX6_set 46 = .ok (.iload_n 1, 1) := by decide +kernel
theorem dX6_set_47 : decode cX6_set 47 = .ok (.iadd, 1) := by decide +kernel
theorem dX6_set_48 : decode cX6_set 48 = .ok (.iload_n 2, 1) := by decide +kernel
theorem dX6_set_49 : decode cX6_set 49 = .ok (.iastore, 1) := by decide +kernel
theorem dX6_set_50 : decode cX6_set 50 = .ok (.iload_n 3, 1) := by decide +kernel
theorem dX6_set_51 : decode cX6_set 51 = .ok (.ireturn, 1) := by decide +kernel
set_option maxRecDepth 20000 in
theorem ggX6_tries_X6_lays : GoodIn wsX6_tries wsX6_lays := goodIn_r _ [6] (by decide +kernel) (by decide +kernel)
set_option maxRecDepth 20000 in
theorem gX6_tries_X6_lays : GoodIn wsX6_tries (va_wsS RX6 53 yX6_lays wsX6_lays) := goodIn_app (goodIn_of _ (by decide +kernel)) ggX6_tries_X6_lays
theorem dX6_tries_0 : decode cX6_tries 0 = .ok (.aload_n 0, 1) := by decide +kernel
theorem dX6_tries_1 : decode cX6_tries 1 = .ok (.getfield 7, 3) := by decide +kernel
theorem dX6_tries_4 : decode cX6_tries 4 = .ok (.iconst 0, 1) := by decide +kernel
theorem dX6_tries_5 : decode cX6_tries 5 = .ok (.aload_n 0, 1) := by decide +kernel
theorem dX6_tries_6 : decode cX6_tries 6 = .ok (.getfield 13, 3) := by decide +kernel
theorem dX6_tries_9 : decode cX6_tries 9 = .ok (.iconst 0, 1) := by decide +kernel
theorem dX6_tries_10 : decode cX6_tries 10 = .ok (.invokestatic 53, 3) := by decide +kernel
theorem dX6_tries_13 : decode cX6_tries 13 = .ok (.return_, 1) := by decide +kernel
set_option maxRecDepth 20000 in
theorem ggX6_strength_X6_casts : GoodIn wsX6_strength wsX6_casts := goodIn_r _ [7, 8, 9, 10, 11, 6, 12, 13, 14, 15, 16, 17, 18, 19, 20, 21, 22, 23, 24, 25, 26, 27, 28, 29, 30, 31, 32, 33, 34, 35, 36, 37, 38, 39, 40, 41, 42] (by decide +kernel) (by decide +kernel)
set_option maxRecDepth 20000 in
theorem gX6_strength_X6_casts : GoodIn wsX6_strength (wsV RX6 83 RX6 yX6_casts wsX6_casts) := goodIn_app (goodIn_of _ (by decide +kernel)) ggX6_strength_X6_casts
theorem dX6_strength_0 : decode cX6_strength 0 = .ok (.aload_n 0, 1) := by decide +kernel
theorem dX6_strength_1 : decode cX6_strength 1 = .ok (.iconst 0, 1) := by decide +kernel
theorem dX6_strength_2 : decode cX6_strength 2 = .ok (.putfield 42, 3) := by decide +kernel
theorem dX6_strength_5 : decode cX6_strength 5 = .ok (.aload_n 0, 1) := by decide +kernel
theorem dX6_strength_6 : decode cX6_strength 6 = .ok (.aload_n 0, 1) := by decide +kernel
theorem dX6_strength_7 : decode cX6_strength 7 = .ok (.getfield 7, 3) := by decide +kernel
theorem dX6_strength_10 : decode cX6_strength 10 = .ok (.invokevirtual 83, 3) := by decide +kernel
theorem dX6_strength_13 : decode cX6_strength 13 = .ok (.ireturn, 1) := by decide +kernel
set_option maxRecDepth 20000 in
theorem ggX6_lacking_X6_tries : GoodIn wsX6_lacking wsX6_tries := goodIn_r _ [6, 7, 1, 8, 9, 5, 10, 36, 37, 38, 39, 40, 41, 42, 43, 44, 45, 46, 47, 48, 49] (by decide +kernel) (by decide +kernel)
set_option maxRecDepth 20000 in
theorem gX6_lacking_X6_tries : GoodIn wsX6_lacking (wsV RX6 163 RX6 yX6_tries wsX6_tries) := goodIn_app (goodIn_of _ (by decide +kernel)) ggX6_lacking_X6_tries
set_option maxRecDepth 20000 in
theorem ggX6_lacking_X6_casts : GoodIn wsX6_lacking wsX6_casts := goodIn_r _ [14, 15, 16, 17, 18, 5, 19, 20, 21, 22, 23, 24, 25, 26, 27, 28, 29, 30, 31, 32, 33, 34, 35, 36, 37, 38, 39, 40, 41, 42, 43, 44, 45, 46, 47, 48, 49] (by decide +kernel) (by decide +kernel)
set_option maxRecDepth 20000 in
theorem gX6_lacking_X6_casts : GoodIn wsX6_lacking (wsV RX6 83 RX6 yX6_casts wsX6_casts) := goodIn_app (goodIn_of _ (by decide +kernel)) ggX6_lacking_X6_casts
theorem dX6_lacking_0 : decode cX6_lacking 0 = .ok (.aload_n 0, 1) := by decide +kernel
theorem dX6_lacking_1 : decode cX6_lacking 1 = .ok (.invokevirtual 163, 3) := by decide +kernel
theorem dX6_lacking_4 : decode cX6_lacking 4 = .ok (.aload_n 0, 1) := by decide +kernel
theorem dX6_lacking_5 : decode cX6_lacking 5 = .ok (.getfield 13, 3) := by decide +kernel
theorem dX6_lacking_8 : decode cX6_lacking 8 = .ok (.bipush 50, 2) := by decide +kernel
theorem dX6_lacking_10 : decode cX6_lacking 10 = .ok (.iload_n 1, 1) := by decide +kernel
theorem dX6_lacking_11 : decode cX6_lacking 11 = .ok (.iadd, 1) := by decide +kernel
theorem dX6_lacking_12 : decode cX6_lacking 12 = .ok (.aload_n 0, 1) := by decide +kernel
theorem dX6_lacking_13 : decode cX6_lacking 13 = .ok (.getfield 13, 3) := by decide +kernel
theorem dX6_lacking_16 : decode cX6_lacking 16 = .ok (.iconst 0, 1) := by decide +kernel
theorem dX6_lacking_17 : decode cX6_lacking 17 = .ok (.iaload, 1) := by decide +kernel
theorem dX6_lacking_18 : decode cX6_lacking 18 = .ok (.iconst 1, 1) := by decide +kernel
theorem dX6_lacking_19 : decode cX6_lacking 19 = .ok (.iadd, 1) := by decide +kernel
theorem dX6_lacking_20 : decode cX6_lacking 20 = .ok (.iastore, 1) := by decide +kernel
theorem dX6_lacking_21 : decode cX6_lacking 21 = .ok (.aload_n 0, 1) := by decide +kernel
theorem dX6_lacking_22 : decode cX6_lacking 22 = .ok (.aload_n 0, 1) := by decide +kernel
theorem dX6_lacking_23 : decode cX6_lacking 23 = .ok (.getfield 13, 3) := by decide +kernel
theorem dX6_lacking_26 : decode cX6_lacking 26 = .ok (.invokevirtual 83, 3) := by decide +kernel
theorem dX6_lacking_29 : decode cX6_lacking 29 = .ok (.ireturn, 1) := by decide +kernel
set_option maxRecDepth 20000 in
theorem ggX6_without_X6_isPlayer : GoodIn wsX6_without wsX6_isPlayer := goodIn_r _ [6, 7, 8, 5, 9] (by decide +kernel) (by decide +kernel)
set_option maxRecDepth 20000 in
theorem gX6_without_X6_isPlayer : GoodIn wsX6_without (va_wsS RX6 133 yX6_isPlayer wsX6_isPlayer) := goodIn_app (goodIn_of _ (by decide +kernel)) ggX6_without_X6_isPlayer
set_option maxRecDepth 20000 in
theorem ggX6_without_X6_lacking : GoodIn wsX6_without wsX6_lacking := goodIn_r _ [13, 14, 15, 16, 17, 5, 18, 2, 19, 20, 21, 22, 23, 24, 25, 26, 27, 28, 29, 30, 31, 32, 33, 34, 35, 36, 37, 38, 39, 40, 41, 42, 43, 44, 45, 46, 51, 52, 53, 54, 55, 56, 57, 58, 59, 60, 61, 62, 63, 64] (by decide +kernel) (by decide +kernel)
set_option maxRecDepth 20000 in
theorem gX6_without_X6_lacking : GoodIn wsX6_without (wsV RX6 166 RX6 yX6_lacking wsX6_lacking) := goodIn_app (goodIn_of _ (by decide +kernel)) ggX6_without_X6_lacking
set_option maxRecDepth 20000 in
theorem ggX6_without_X6_fails : GoodIn wsX6_without wsX6_fails := goodIn_r _ [50, 1, 51, 52, 53, 54, 55, 56, 57, 58, 59, 60, 61, 62, 63, 64] (by decide +kernel) (by decide +kernel)
set_option maxRecDepth 20000 in
theorem gX6_without_X6_fails : GoodIn wsX6_without (wsV RX6 57 RX6 yX6_fails wsX6_fails) := goodIn_app (goodIn_of _ (by decide +kernel)) ggX6_without_X6_fails
theorem dX6_without_0 : decode cX6_without 0 = .ok (.aload_n 0, 1) := by decide +kernel
theorem dX6_without_1 : decode cX6_without 1 = .ok (.iconst 0, 1) := by decide +kernel
theorem dX6_without_2 : decode cX6_without 2 = .ok (.putfield 42, 3) := by decide +kernel
theorem dX6_without_5 : decode cX6_without 5 = .ok (.aload_n 0, 1) := by decide +kernel
theorem dX6_without_6 : decode cX6_without 6 = .ok (.getfield 7, 3) := by decide +kernel
theorem dX6_without_9 : decode cX6_without 9 = .ok (.iload_n 1, 1) := by decide +kernel
theorem dX6_without_10 : decode cX6_without 10 = .ok (.invokestatic 133, 3) := by decide +kernel
theorem dX6_without_13 : decode cX6_without 13 = .ok (.ifCond .eq 11, 3) := by decide +kernel
theorem dX6_without_16 : decode cX6_without 16 = .ok (.aload_n 0, 1) := by decide +kernel
theorem dX6_without_17 : decode cX6_without 17 = .ok (.iload_n 1, 1) := by decide +kernel
theorem dX6_without_18 : decode cX6_without 18 = .ok (.invokevirtual 166, 3) := by decide +kernel
theorem dX6_without_21 : decode cX6_without 21 = .ok (.goto 8, 3) := by decide +kernel
theorem dX6_without_24 : decode cX6_without 24 = .ok (.aload_n 0, 1) := by decide +kernel
theorem dX6_without_25 : decode cX6_without 25 = .ok (.iconst 1, 1) := by decide +kernel
theorem dX6_without_26 : decode cX6_without 26 = .ok (.invokevirtual 57, 3) := by decide +kernel
theorem dX6_without_29 : decode cX6_without 29 = .ok (.ireturn, 1) := by decide +kernel
set_option maxRecDepth 20000 in
theorem ggX6_missed_X6_casts : GoodIn wsX6_missed wsX6_casts := goodIn_r _ [7, 8, 9, 10, 11, 6, 12, 13, 14, 15, 16, 17, 18, 19, 20, 21, 22, 23, 24, 25, 26, 27, 28, 41, 42, 43, 44, 45, 46, 47, 48, 49, 50, 51, 52, 53, 54] (by decide +kernel) (by decide +kernel)
set_option maxRecDepth 20000 in
theorem gX6_missed_X6_casts : GoodIn wsX6_missed (wsV RX6 83 RX6 yX6_casts wsX6_casts) := goodIn_app (goodIn_of _ (by decide +kernel)) ggX6_missed_X6_casts
set_option maxRecDepth 20000 in
theorem ggX6_missed_X6_isFree : GoodIn wsX6_missed wsX6_isFree := goodIn_r _ [22] (by decide +kernel) (by decide +kernel)
set_option maxRecDepth 20000 in
theorem gX6_missed_X6_isFree : GoodIn wsX6_missed (va_wsS RX6 65 yX6_isFree wsX6_isFree) := goodIn_app (goodIn_of _ (by decide +kernel)) ggX6_missed_X6_isFree
set_option maxRecDepth 20000 in
theorem ggX6_missed_X6_lacking : GoodIn wsX6_missed wsX6_lacking := goodIn_r _ [32, 33, 34, 35, 36, 6, 37, 2, 38, 39, 40, 3, 4, 5, 7, 8, 9, 10, 11, 12, 13, 14, 15, 16, 17, 18, 19, 20, 21, 22, 23, 24, 25, 26, 27, 28, 41, 42, 43, 44, 45, 46, 47, 48, 49, 50, 51, 52, 53, 54] (by decide +kernel) (by decide +kernel)
set_option maxRecDepth 20000 in
theorem gX6_missed_X6_lacking : GoodIn wsX6_missed (wsV RX6 166 RX6 yX6_lacking wsX6_lacking) := goodIn_app (goodIn_of _ (by decide +kernel)) ggX6_missed_X6_lacking
theorem dX6_missed_0 : decode cX6_missed 0 = .ok (.aload_n 0, 1) := by decide +kernel
theorem dX6_missed_1 : decode cX6_missed 1 = .ok (.iconst 0, 1) := by decide +kernel
theorem dX6_missed_2 : decode cX6_missed 2 = .ok (.putfield 42, 3) := by decide +kernel
theorem dX6_missed_5 : decode cX6_missed 5 = .ok (.aload_n 0, 1) := by decide +kernel
theorem dX6_missed_6 : decode cX6_missed 6 = .ok (.getfield 7, 3) := by decide +kernel
theorem dX6_missed_9 : decode cX6_missed 9 = .ok (.iconst 3, 1) := by decide +kernel
theorem dX6_missed_10 : decode cX6_missed 10 = .ok (.iaload, 1) := by decide +kernel
theorem dX6_missed_11 : decode cX6_missed 11 = .ok (.ifCond .eq 14, 3) := by decide +kernel
theorem dX6_missed_14 : decode cX6_missed 14 = .ok (.aload_n 0, 1) := by decide +kernel
theorem dX6_missed_15 : decode cX6_missed 15 = .ok (.aload_n 0, 1) := by decide +kernel
theorem dX6_missed_16 : decode cX6_missed 16 = .ok (.getfield 7, 3) := by decide +kernel
theorem dX6_missed_19 : decode cX6_missed 19 = .ok (.invokevirtual 83, 3) := by decide +kernel
theorem dX6_missed_22 : decode cX6_missed 22 = .ok (.ifCond .ge 5, 3) := by decide +kernel
theorem dX6_missed_25 : decode cX6_missed 25 = .ok (.iconst (-1), 1) := by decide +kernel
theorem dX6_missed_26 : decode cX6_missed 26 = .ok (.ireturn, 1) := by decide +kernel
theorem dX6_missed_27 : decode cX6_missed 27 = .ok (.iconst (-1), 1) := by decide +kernel
theorem dX6_missed_28 : decode cX6_missed 28 = .ok (.istore_n 1, 1) := by decide +kernel
theorem dX6_missed_29 : decode cX6_missed 29 = .ok (.iconst 0, 1) := by decide +kernel
theorem dX6_missed_30 : decode cX6_missed 30 = .ok (.istore_n 2, 1) := by decide +kernel
theorem dX6_missed_31 : decode cX6_missed 31 = .ok (.iconst 0, 1) := by decide +kernel
theorem dX6_missed_32 : decode cX6_missed 32 = .ok (.istore_n 3, 1) := by decide +kernel
theorem dX6_missed_33 : decode cX6_missed 33 = .ok (.iload_n 3, 1) := by decide +kernel
theorem dX6_missed_34 : decode cX6_missed 34 = .ok (.aload_n 0, 1) := by decide +kernel
theorem dX6_missed_35 : decode cX6_missed 35 = .ok (.getfield 7, 3) := by decide +kernel
