theorem dX4_simulated_11 : decode cX4_simulated 11 = .ok (.getfield 12, 3) := by decide +kernel
theorem dX4_simulated_14 : decode cX4_simulated 14 = .ok (.invokevirtual 73, 3) := by decide +kernel
theorem dX4_simulated_17 : decode cX4_simulated 17 = .ok (.ifCond .ne 5, 3) := by decide +kernel
theorem dX4_simulated_20 : decode cX4_simulated 20 = .ok (.iconst 0, 1) := by decide +kernel
theorem dX4_simulated_21 : decode cX4_simulated 21 = .ok (.ireturn, 1) := by decide +kernel
theorem dX4_simulated_22 : decode cX4_simulated 22 = .ok (.aload_n 0, 1) := by decide +kernel
theorem dX4_simulated_23 : decode cX4_simulated 23 = .ok (.getfield 12, 3) := by decide +kernel
theorem dX4_simulated_26 : decode cX4_simulated 26 = .ok (.invokevirtual 85, 3) := by decide +kernel
theorem dX4_simulated_29 : decode cX4_simulated 29 = .ok (.istore 5, 2) := by decide +kernel
theorem dX4_simulated_31 : decode cX4_simulated 31 = .ok (.aload_n 0, 1) := by decide +kernel
theorem dX4_simulated_32 : decode cX4_simulated 32 = .ok (.getfield 12, 3) := by decide +kernel
theorem dX4_simulated_35 : decode cX4_simulated 35 = .ok (.invokevirtual 88, 3) := by decide +kernel
theorem dX4_simulated_38 : decode cX4_simulated 38 = .ok (.istore 6, 2) := by decide +kernel
theorem dX4_simulated_40 : decode cX4_simulated 40 = .ok (.lload_n 1, 1) := by decide +kernel
theorem dX4_simulated_41 : decode cX4_simulated 41 = .ok (.lstore 7, 2) := by decide +kernel
theorem dX4_simulated_43 : decode cX4_simulated 43 = .ok (.iconst 0, 1) := by decide +kernel
theorem dX4_simulated_44 : decode cX4_simulated 44 = .ok (.istore 9, 2) := by decide +kernel
theorem dX4_simulated_46 : decode cX4_simulated 46 = .ok (.iload 9, 2) := by decide +kernel
theorem dX4_simulated_48 : decode cX4_simulated 48 = .ok (.iload_n 3, 1) := by decide +kernel
theorem dX4_simulated_49 : decode cX4_simulated 49 = .ok (.if_icmp .ge 33, 3) := by decide +kernel
theorem dX4_simulated_52 : decode cX4_simulated 52 = .ok (.lload 7, 2) := by decide +kernel
theorem dX4_simulated_54 : decode cX4_simulated 54 = .ok (.ldc2_w 91, 3) := by decide +kernel
theorem dX4_simulated_57 : decode cX4_simulated 57 = .ok (.lmul, 1) := by decide +kernel
theorem dX4_simulated_58 : decode cX4_simulated 58 = .ok (.ldc2_w 93, 3) := by decide +kernel
theorem dX4_simulated_61 : decode cX4_simulated 61 = .ok (.ladd, 1) := by decide +kernel
theorem dX4_simulated_62 : decode cX4_simulated 62 = .ok (.lstore 7, 2) := by decide +kernel
theorem dX4_simulated_64 : decode cX4_simulated 64 = .ok (.aload_n 0, 1) := by decide +kernel
theorem dX4_simulated_65 : decode cX4_simulated 65 = .ok (.lload 7, 2) := by decide +kernel
theorem dX4_simulated_67 : decode cX4_simulated 67 = .ok (.bipush 33, 2) := by decide +kernel
theorem dX4_simulated_69 : decode cX4_simulated 69 = .ok (.lushr, 1) := by decide +kernel
theorem dX4_simulated_70 : decode cX4_simulated 70 = .ok (.l2i, 1) := by decide +kernel
theorem dX4_simulated_71 : decode cX4_simulated 71 = .ok (.aload 4, 2) := by decide +kernel
theorem dX4_simulated_73 : decode cX4_simulated 73 = .ok (.invokevirtual 95, 3) := by decide +kernel
theorem dX4_simulated_76 : decode cX4_simulated 76 = .ok (.iinc 9 1, 3) := by decide +kernel
theorem dX4_simulated_79 : decode cX4_simulated 79 = .ok (.goto (-33), 3) := by decide +kernel
theorem dX4_simulated_82 : decode cX4_simulated 82 = .ok (.sipush 1000, 3) := by decide +kernel
theorem dX4_simulated_85 : decode cX4_simulated 85 = .ok (.aload_n 0, 1) := by decide +kernel
theorem dX4_simulated_86 : decode cX4_simulated 86 = .ok (.getfield 12, 3) := by decide +kernel
theorem dX4_simulated_89 : decode cX4_simulated 89 = .ok (.invokevirtual 85, 3) := by decide +kernel
theorem dX4_simulated_92 : decode cX4_simulated 92 = .ok (.iload 5, 2) := by decide +kernel
theorem dX4_simulated_94 : decode cX4_simulated 94 = .ok (.isub, 1) := by decide +kernel
theorem dX4_simulated_95 : decode cX4_simulated 95 = .ok (.imul, 1) := by decide +kernel
theorem dX4_simulated_96 : decode cX4_simulated 96 = .ok (.aload_n 0, 1) := by decide +kernel
theorem dX4_simulated_97 : decode cX4_simulated 97 = .ok (.getfield 12, 3) := by decide +kernel
theorem dX4_simulated_100 : decode cX4_simulated 100 = .ok (.invokevirtual 88, 3) := by decide +kernel
theorem dX4_simulated_103 : decode cX4_simulated 103 = .ok (.iadd, 1) := by decide +kernel
theorem dX4_simulated_104 : decode cX4_simulated 104 = .ok (.iload 6, 2) := by decide +kernel
theorem dX4_simulated_106 : decode cX4_simulated 106 = .ok (.isub, 1) := by decide +kernel
theorem dX4_simulated_107 : decode cX4_simulated 107 = .ok (.ireturn, 1) := by decide +kernel
set_option maxRecDepth 20000 in
theorem ggX4_simulateDay_X2_playerCount : GoodIn wsX4_simulateDay wsX2_playerCount := goodIn_r _ [6, 7, 121, 122, 123, 124, 125, 126, 127, 128, 129, 130, 131, 132, 133, 134, 135, 136, 137] (by decide +kernel) (by decide +kernel)
set_option maxRecDepth 20000 in
theorem gX4_simulateDay_X2_playerCount : GoodIn wsX4_simulateDay (wsV RX4 82 RX2 yX2_playerCount wsX2_playerCount) := goodIn_app (goodIn_of _ (by decide +kernel)) ggX4_simulateDay_X2_playerCount
set_option maxRecDepth 20000 in
theorem ggX4_simulateDay_X2_sendAway : GoodIn wsX4_simulateDay wsX2_sendAway := goodIn_r _ [11, 12, 13, 14, 15, 16, 5, 17, 7, 121, 122, 123, 124, 125, 126, 127, 128, 129, 130, 131, 132, 133, 134, 135, 136, 137] (by decide +kernel) (by decide +kernel)
set_option maxRecDepth 20000 in
theorem gX4_simulateDay_X2_sendAway : GoodIn wsX4_simulateDay (wsV RX4 66 RX2 yX2_sendAway wsX2_sendAway) := goodIn_app (goodIn_of _ (by decide +kernel)) ggX4_simulateDay_X2_sendAway
set_option maxRecDepth 20000 in
theorem ggX4_simulateDay_X2_postCast : GoodIn wsX4_simulateDay wsX2_postCast := goodIn_r _ [21, 22, 23, 24, 25, 26, 27, 5, 28, 7, 29, 30, 31, 32, 12, 13, 33, 34, 35, 36, 37, 38, 39, 40, 41, 42, 43, 44, 45, 46, 47, 48, 49, 3, 4, 6, 50, 51, 52, 53, 54, 55, 56, 57, 58, 59, 60, 61, 62, 63, 64, 65, 66, 67, 68, 69, 70, 71, 72, 73, 74, 75, 76, 77, 78, 79, 80, 81, 82, 83, 84, 85, 86, 87, 88, 89, 90, 121, 122, 123, 124, 125, 126, 127, 128, 129, 130, 131, 132, 133, 134, 135, 136, 137, 138, 139, 140, 141, 142, 143] (by decide +kernel) (by decide +kernel)
set_option maxRecDepth 20000 in
theorem gX4_simulateDay_X2_postCast : GoodIn wsX4_simulateDay (wsV RX4 69 RX2 yX2_postCast wsX2_postCast) := goodIn_app (goodIn_of _ (by decide +kernel)) ggX4_simulateDay_X2_postCast
set_option maxRecDepth 20000 in
theorem ggX4_simulateDay_X2_passDays : GoodIn wsX4_simulateDay wsX2_passDays := goodIn_r _ [94, 33, 13, 24, 95, 96, 5, 97, 121, 122, 123, 124, 125, 126, 127, 128, 129, 130, 131, 132, 133, 134, 135, 136, 137] (by decide +kernel) (by decide +kernel)
set_option maxRecDepth 20000 in
theorem gX4_simulateDay_X2_passDays : GoodIn wsX4_simulateDay (wsV RX4 76 RX2 yX2_passDays wsX2_passDays) := goodIn_app (goodIn_of _ (by decide +kernel)) ggX4_simulateDay_X2_passDays
set_option maxRecDepth 20000 in
theorem ggX4_simulateDay_X2_playDay : GoodIn wsX4_simulateDay wsX2_playDay := goodIn_r _ [101, 102, 7, 33, 13, 24, 25, 26, 27, 5, 28, 29, 30, 31, 32, 12, 34, 35, 36, 37, 38, 39, 40, 41, 42, 43, 44, 45, 46, 47, 48, 22, 49, 3, 4, 6, 50, 51, 52, 53, 54, 55, 56, 57, 58, 59, 60, 61, 62, 63, 64, 65, 66, 67, 68, 69, 70, 71, 72, 73, 74, 75, 76, 77, 78, 79, 80, 81, 82, 83, 84, 85, 86, 103, 104, 105, 106, 107, 87, 88, 89, 90, 14, 15, 16, 17, 108, 109, 110, 111, 112, 23, 113, 114, 115, 116, 117, 118, 119, 121, 122, 123, 124, 125, 126, 127, 128, 129, 130, 131, 132, 133, 134, 135, 136, 137, 138, 139, 140, 141, 142, 143] (by decide +kernel) (by decide +kernel)
set_option maxRecDepth 20000 in
theorem gX4_simulateDay_X2_playDay : GoodIn wsX4_simulateDay (wsV RX4 22 RX2 yX2_playDay wsX2_playDay) := goodIn_app (goodIn_of _ (by decide +kernel)) ggX4_simulateDay_X2_playDay
theorem dX4_simulateDay_0 : decode cX4_simulateDay 0 = .ok (.aload_n 0, 1) := by decide +kernel
theorem dX4_simulateDay_1 : decode cX4_simulateDay 1 = .ok (.getfield 12, 3) := by decide +kernel
theorem dX4_simulateDay_4 : decode cX4_simulateDay 4 = .ok (.invokevirtual 82, 3) := by decide +kernel
theorem dX4_simulateDay_7 : decode cX4_simulateDay 7 = .ok (.istore_n 3, 1) := by decide +kernel
theorem dX4_simulateDay_8 : decode cX4_simulateDay 8 = .ok (.iload_n 3, 1) := by decide +kernel
theorem dX4_simulateDay_9 : decode cX4_simulateDay 9 = .ok (.ifCond .le 12, 3) := by decide +kernel
theorem dX4_simulateDay_12 : decode cX4_simulateDay 12 = .ok (.iload_n 1, 1) := by decide +kernel
theorem dX4_simulateDay_13 : decode cX4_simulateDay 13 = .ok (.bipush 8, 2) := by decide +kernel
theorem dX4_simulateDay_15 : decode cX4_simulateDay 15 = .ok (.idiv, 1) := by decide +kernel
theorem dX4_simulateDay_16 : decode cX4_simulateDay 16 = .ok (.iload_n 3, 1) := by decide +kernel
theorem dX4_simulateDay_17 : decode cX4_simulateDay 17 = .ok (.irem, 1) := by decide +kernel
theorem dX4_simulateDay_18 : decode cX4_simulateDay 18 = .ok (.goto 4, 3) := by decide +kernel
theorem dX4_simulateDay_21 : decode cX4_simulateDay 21 = .ok (.iconst (-1), 1) := by decide +kernel
theorem dX4_simulateDay_22 : decode cX4_simulateDay 22 = .ok (.istore 4, 2) := by decide +kernel
theorem dX4_simulateDay_24 : decode cX4_simulateDay 24 = .ok (.iload_n 1, 1) := by decide +kernel
theorem dX4_simulateDay_25 : decode cX4_simulateDay 25 = .ok (.bipush 8, 2) := by decide +kernel
theorem dX4_simulateDay_27 : decode cX4_simulateDay 27 = .ok (.irem, 1) := by decide +kernel
theorem dX4_simulateDay_28 : decode cX4_simulateDay 28 = .ok (.tableswitch 83 0 2 #[28, 50, 73], 28) := by decide +kernel
theorem dX4_simulateDay_56 : decode cX4_simulateDay 56 = .ok (.aload_n 0, 1) := by decide +kernel
theorem dX4_simulateDay_57 : decode cX4_simulateDay 57 = .ok (.getfield 12, 3) := by decide +kernel
theorem dX4_simulateDay_60 : decode cX4_simulateDay 60 = .ok (.iload 4, 2) := by decide +kernel
theorem dX4_simulateDay_62 : decode cX4_simulateDay 62 = .ok (.iconst 1, 1) := by decide +kernel
theorem dX4_simulateDay_63 : decode cX4_simulateDay 63 = .ok (.iload_n 1, 1) := by decide +kernel
theorem dX4_simulateDay_64 : decode cX4_simulateDay 64 = .ok (.sipush 128, 3) := by decide +kernel
theorem dX4_simulateDay_67 : decode cX4_simulateDay 67 = .ok (.idiv, 1) := by decide +kernel
theorem dX4_simulateDay_68 : decode cX4_simulateDay 68 = .ok (.iconst 5, 1) := by decide +kernel
theorem dX4_simulateDay_69 : decode cX4_simulateDay 69 = .ok (.irem, 1) := by decide +kernel
theorem dX4_simulateDay_70 : decode cX4_simulateDay 70 = .ok (.iadd, 1) := by decide +kernel
theorem dX4_simulateDay_71 : decode cX4_simulateDay 71 = .ok (.invokevirtual 66, 3) := by decide +kernel
theorem dX4_simulateDay_74 : decode cX4_simulateDay 74 = .ok (.pop, 1) := by decide +kernel
theorem dX4_simulateDay_75 : decode cX4_simulateDay 75 = .ok (.goto 36, 3) := by decide +kernel
theorem dX4_simulateDay_78 : decode cX4_simulateDay 78 = .ok (.aload_n 0, 1) := by decide +kernel
theorem dX4_simulateDay_79 : decode cX4_simulateDay 79 = .ok (.getfield 12, 3) := by decide +kernel
theorem dX4_simulateDay_82 : decode cX4_simulateDay 82 = .ok (.aload_n 2, 1) := by decide +kernel
theorem dX4_simulateDay_83 : decode cX4_simulateDay 83 = .ok (.invokevirtual 69, 3) := by decide +kernel
theorem dX4_simulateDay_86 : decode cX4_simulateDay 86 = .ok (.pop, 1) := by decide +kernel
theorem dX4_simulateDay_87 : decode cX4_simulateDay 87 = .ok (.aload_n 0, 1) := by decide +kernel
theorem dX4_simulateDay_88 : decode cX4_simulateDay 88 = .ok (.getfield 12, 3) := by decide +kernel
theorem dX4_simulateDay_91 : decode cX4_simulateDay 91 = .ok (.iload 4, 2) := by decide +kernel
theorem dX4_simulateDay_93 : decode cX4_simulateDay 93 = .ok (.iconst 1, 1) := by decide +kernel
theorem dX4_simulateDay_94 : decode cX4_simulateDay 94 = .ok (.invokevirtual 66, 3) := by decide +kernel
theorem dX4_simulateDay_97 : decode cX4_simulateDay 97 = .ok (.pop, 1) := by decide +kernel
theorem dX4_simulateDay_98 : decode cX4_simulateDay 98 = .ok (.goto 13, 3) := by decide +kernel
theorem dX4_simulateDay_101 : decode cX4_simulateDay 101 = .ok (.aload_n 0, 1) := by decide +kernel
theorem dX4_simulateDay_102 : decode cX4_simulateDay 102 = .ok (.getfield 12, 3) := by decide +kernel
theorem dX4_simulateDay_105 : decode cX4_simulateDay 105 = .ok (.iconst 1, 1) := by decide +kernel
theorem dX4_simulateDay_106 : decode cX4_simulateDay 106 = .ok (.invokevirtual 76, 3) := by decide +kernel
theorem dX4_simulateDay_109 : decode cX4_simulateDay 109 = .ok (.pop, 1) := by decide +kernel
theorem dX4_simulateDay_110 : decode cX4_simulateDay 110 = .ok (.return_, 1) := by decide +kernel
theorem dX4_simulateDay_111 : decode cX4_simulateDay 111 = .ok (.aload_n 0, 1) := by decide +kernel
theorem dX4_simulateDay_112 : decode cX4_simulateDay 112 = .ok (.getfield 12, 3) := by decide +kernel
theorem dX4_simulateDay_115 : decode cX4_simulateDay 115 = .ok (.aload_n 2, 1) := by decide +kernel
theorem dX4_simulateDay_116 : decode cX4_simulateDay 116 = .ok (.invokevirtual 22, 3) := by decide +kernel
theorem dX4_simulateDay_119 : decode cX4_simulateDay 119 = .ok (.pop, 1) := by decide +kernel
theorem dX4_simulateDay_120 : decode cX4_simulateDay 120 = .ok (.return_, 1) := by decide +kernel
set_option maxRecDepth 20000 in
theorem ggX5_init_X3_init : GoodIn wsX5_init wsX3_init := goodIn_r _ [28, 29, 2, 3, 30, 31, 80, 81] (by decide +kernel) (by decide +kernel)
set_option maxRecDepth 20000 in
theorem gX5_init_X3_init_n9 : GoodIn wsX5_init (wsX3_init) := ggX5_init_X3_init
set_option maxRecDepth 20000 in
theorem ggX5_init_X2_init : GoodIn wsX5_init wsX2_init := goodIn_r _ [34, 35, 2, 3, 36, 37, 38, 39, 40, 41, 42, 43, 44, 45, 46, 47, 48, 49, 10, 50, 51, 52, 53, 54, 55, 56, 57, 58, 59, 60, 89, 90, 91, 92, 93, 94, 95, 96, 97, 98, 99, 100, 101, 102, 103, 104, 105] (by decide +kernel) (by decide +kernel)
set_option maxRecDepth 20000 in
theorem gX5_init_X2_init : GoodIn wsX5_init (wsX2_init) := ggX5_init_X2_init
set_option maxRecDepth 20000 in
theorem ggX5_init_X0_init : GoodIn wsX5_init wsX0_init := goodIn_r _ [62, 63, 2, 3, 36, 64, 65, 66, 106, 107, 108, 109, 110, 111] (by decide +kernel) (by decide +kernel)
set_option maxRecDepth 20000 in
theorem gX5_init_X0_init_n25 : GoodIn wsX5_init (wsX0_init) := ggX5_init_X0_init
set_option maxRecDepth 20000 in
theorem ggX5_init_X4_init : GoodIn wsX5_init wsX4_init := goodIn_r _ [68, 69, 2, 3, 70, 9, 10, 71, 72, 33, 34, 35, 36, 37, 38, 39, 40, 41, 42, 43, 44, 45, 46, 47, 48, 49, 50, 51, 52, 53, 54, 55, 56, 57, 58, 59, 60, 89, 90, 91, 92, 93, 94, 95, 96, 97, 98, 99, 100, 101, 102, 103, 104, 105, 112] (by decide +kernel) (by decide +kernel)
set_option maxRecDepth 20000 in
theorem gX5_init_X4_init_n32 : GoodIn wsX5_init (wsX4_init) := ggX5_init_X4_init
set_option maxRecDepth 20000 in
theorem ggX5_init_X1_init : GoodIn wsX5_init wsX1_init := goodIn_r _ [75, 76, 2, 3, 77, 78, 9, 10, 79, 33, 34, 35, 36, 37, 38, 39, 40, 41, 42, 43, 44, 45, 46, 47, 48, 49, 50, 51, 52, 53, 54, 55, 56, 57, 58, 59, 60, 113, 114, 115, 89, 90, 91, 92, 93, 94, 95, 96, 97, 98, 99, 100, 101, 102, 103, 104, 105] (by decide +kernel) (by decide +kernel)
set_option maxRecDepth 20000 in
theorem gX5_init_X1_init : GoodIn wsX5_init (wsX1_init) := ggX5_init_X1_init
theorem dX5_init_0 : decode cX5_init 0 = .ok (.aload_n 0, 1) := by decide +kernel
theorem dX5_init_1 : decode cX5_init 1 = .ok (.invokespecial 1, 3) := by decide +kernel
theorem dX5_init_4 : decode cX5_init 4 = .ok (.aload_n 0, 1) := by decide +kernel
theorem dX5_init_5 : decode cX5_init 5 = .ok (.new 7, 3) := by decide +kernel
theorem dX5_init_8 : decode cX5_init 8 = .ok (.dup, 1) := by decide +kernel
theorem dX5_init_9 : decode cX5_init 9 = .ok (.invokespecial 9, 3) := by decide +kernel
theorem dX5_init_12 : decode cX5_init 12 = .ok (.putfield 10, 3) := by decide +kernel
theorem dX5_init_15 : decode cX5_init 15 = .ok (.aload_n 0, 1) := by decide +kernel
theorem dX5_init_16 : decode cX5_init 16 = .ok (.new 16, 3) := by decide +kernel
theorem dX5_init_19 : decode cX5_init 19 = .ok (.dup, 1) := by decide +kernel
theorem dX5_init_20 : decode cX5_init 20 = .ok (.invokespecial 18, 3) := by decide +kernel
theorem dX5_init_23 : decode cX5_init 23 = .ok (.putfield 19, 3) := by decide +kernel
theorem dX5_init_26 : decode cX5_init 26 = .ok (.aload_n 0, 1) := by decide +kernel
theorem dX5_init_27 : decode cX5_init 27 = .ok (.new 23, 3) := by decide +kernel
theorem dX5_init_30 : decode cX5_init 30 = .ok (.dup, 1) := by decide +kernel
theorem dX5_init_31 : decode cX5_init 31 = .ok (.invokespecial 25, 3) := by decide +kernel
theorem dX5_init_34 : decode cX5_init 34 = .ok (.putfield 26, 3) := by decide +kernel
theorem dX5_init_37 : decode cX5_init 37 = .ok (.aload_n 0, 1) := by decide +kernel
theorem dX5_init_38 : decode cX5_init 38 = .ok (.new 30, 3) := by decide +kernel
theorem dX5_init_41 : decode cX5_init 41 = .ok (.dup, 1) := by decide +kernel
theorem dX5_init_42 : decode cX5_init 42 = .ok (.invokespecial 32, 3) := by decide +kernel
theorem dX5_init_45 : decode cX5_init 45 = .ok (.putfield 33, 3) := by decide +kernel
theorem dX5_init_48 : decode cX5_init 48 = .ok (.aload_n 0, 1) := by decide +kernel
theorem dX5_init_49 : decode cX5_init 49 = .ok (.new 37, 3) := by decide +kernel
theorem dX5_init_52 : decode cX5_init 52 = .ok (.dup, 1) := by decide +kernel
theorem dX5_init_53 : decode cX5_init 53 = .ok (.invokespecial 39, 3) := by decide +kernel
theorem dX5_init_56 : decode cX5_init 56 = .ok (.putfield 40, 3) := by decide +kernel
theorem dX5_init_59 : decode cX5_init 59 = .ok (.aload_n 0, 1) := by decide +kernel
theorem dX5_init_60 : decode cX5_init 60 = .ok (.iconst 2, 1) := by decide +kernel
theorem dX5_init_61 : decode cX5_init 61 = .ok (.anewarray 16, 3) := by decide +kernel
theorem dX5_init_64 : decode cX5_init 64 = .ok (.putfield 44, 3) := by decide +kernel
theorem dX5_init_67 : decode cX5_init 67 = .ok (.iconst 0, 1) := by decide +kernel
theorem dX5_init_68 : decode cX5_init 68 = .ok (.istore_n 1, 1) := by decide +kernel
theorem dX5_init_69 : decode cX5_init 69 = .ok (.iload_n 1, 1) := by decide +kernel
theorem dX5_init_70 : decode cX5_init 70 = .ok (.iconst 2, 1) := by decide +kernel
theorem dX5_init_71 : decode cX5_init 71 = .ok (.if_icmp .ge 22, 3) := by decide +kernel
theorem dX5_init_74 : decode cX5_init 74 = .ok (.aload_n 0, 1) := by decide +kernel
theorem dX5_init_75 : decode cX5_init 75 = .ok (.getfield 44, 3) := by decide +kernel
theorem dX5_init_78 : decode cX5_init 78 = .ok (.iload_n 1, 1) := by decide +kernel
theorem dX5_init_79 : decode cX5_init 79 = .ok (.new 16, 3) := by decide +kernel
theorem dX5_init_82 : decode cX5_init 82 = .ok (.dup, 1) := by decide +kernel
theorem dX5_init_83 : decode cX5_init 83 = .ok (.invokespecial 18, 3) := by decide +kernel
theorem dX5_init_86 : decode cX5_init 86 = .ok (.aastore, 1) := by decide +kernel
theorem dX5_init_87 : decode cX5_init 87 = .ok (.iinc 1 1, 3) := by decide +kernel
theorem dX5_init_90 : decode cX5_init 90 = .ok (.goto (-21), 3) := by decide +kernel
theorem dX5_init_93 : decode cX5_init 93 = .ok (.aload_n 0, 1) := by decide +kernel
theorem dX5_init_94 : decode cX5_init 94 = .ok (.iconst 2, 1) := by decide +kernel
theorem dX5_init_95 : decode cX5_init 95 = .ok (.newarray .boolean, 2) := by decide +kernel
theorem dX5_init_97 : decode cX5_init 97 = .ok (.putfield 48, 3) := by decide +kernel
theorem dX5_init_100 : decode cX5_init 100 = .ok (.return_, 1) := by decide +kernel
set_option maxRecDepth 20000 in
theorem ggX5_append_X5_needRange : GoodIn wsX5_append wsX5_needRange := goodIn_ca (goodIn_r _ [7, 8, 9] (by decide +kernel) (by decide +kernel)) (goodIn_sub (fun _ h => List.mem_cons_of_mem _ (List.mem_append_right _ h)) (by decide +kernel))
set_option maxRecDepth 20000 in
theorem gX5_append_X5_needRange : GoodIn wsX5_append (va_wsS RX5 52 yX5_needRange wsX5_needRange) := goodIn_app (goodIn_of _ (by decide +kernel)) ggX5_append_X5_needRange
set_option maxRecDepth 20000 in
theorem ggX5_append_X3_isFull : GoodIn wsX5_append wsX3_isFull := goodIn_r _ [14, 15, 33, 34] (by decide +kernel) (by decide +kernel)
set_option maxRecDepth 20000 in
theorem gX5_append_X3_isFull : GoodIn wsX5_append (wsV RX5 56 RX3 yX3_isFull wsX3_isFull) := goodIn_app (goodIn_of _ (by decide +kernel)) ggX5_append_X3_isFull
set_option maxRecDepth 20000 in
theorem ggX5_append_X3_put : GoodIn wsX5_append wsX3_put := goodIn_r _ [19, 20, 15, 21, 11, 12, 13, 14, 33, 34] (by decide +kernel) (by decide +kernel)
set_option maxRecDepth 20000 in
theorem gX5_append_X3_put : GoodIn wsX5_append (wsV RX5 67 RX3 yX3_put wsX3_put) := goodIn_app (goodIn_of _ (by decide +kernel)) ggX5_append_X3_put
set_option maxRecDepth 20000 in
theorem ggX5_append_X3_size : GoodIn wsX5_append wsX3_size := goodIn_r _ [25, 15, 33, 34] (by decide +kernel) (by decide +kernel)
set_option maxRecDepth 20000 in
theorem gX5_append_X3_size : GoodIn wsX5_append (wsV RX5 71 RX3 yX3_size wsX3_size) := goodIn_app (goodIn_of _ (by decide +kernel)) ggX5_append_X3_size
theorem dX5_append_0 : decode cX5_append 0 = .ok (.iload_n 1, 1) := by decide +kernel
theorem dX5_append_1 : decode cX5_append 1 = .ok (.iconst 0, 1) := by decide +kernel
theorem dX5_append_2 : decode cX5_append 2 = .ok (.sipush 255, 3) := by decide +kernel
theorem dX5_append_5 : decode cX5_append 5 = .ok (.invokestatic 52, 3) := by decide +kernel
theorem dX5_append_8 : decode cX5_append 8 = .ok (.aload_n 0, 1) := by decide +kernel
theorem dX5_append_9 : decode cX5_append 9 = .ok (.getfield 10, 3) := by decide +kernel
theorem dX5_append_12 : decode cX5_append 12 = .ok (.invokevirtual 56, 3) := by decide +kernel
theorem dX5_append_15 : decode cX5_append 15 = .ok (.ifCond .eq 13, 3) := by decide +kernel
theorem dX5_append_18 : decode cX5_append 18 = .ok (.new 60, 3) := by decide +kernel
theorem dX5_append_21 : decode cX5_append 21 = .ok (.dup, 1) := by decide +kernel
theorem dX5_append_22 : decode cX5_append 22 = .ok (.ldc 62, 2) := by decide +kernel
theorem dX5_append_24 : decode cX5_append 24 = .ok (.invokespecial 64, 3) := by decide +kernel
theorem dX5_append_27 : decode cX5_append 27 = .ok (.athrow, 1) := by decide +kernel
theorem dX5_append_28 : decode cX5_append 28 = .ok (.aload_n 0, 1) := by decide +kernel
theorem dX5_append_29 : decode cX5_append 29 = .ok (.getfield 10, 3) := by decide +kernel
theorem dX5_append_32 : decode cX5_append 32 = .ok (.iload_n 1, 1) := by decide +kernel
theorem dX5_append_33 : decode cX5_append 33 = .ok (.invokevirtual 67, 3) := by decide +kernel
theorem dX5_append_36 : decode cX5_append 36 = .ok (.aload_n 0, 1) := by decide +kernel
theorem dX5_append_37 : decode cX5_append 37 = .ok (.getfield 10, 3) := by decide +kernel
theorem dX5_append_40 : decode cX5_append 40 = .ok (.invokevirtual 71, 3) := by decide +kernel
theorem dX5_append_43 : decode cX5_append 43 = .ok (.ireturn, 1) := by decide +kernel
set_option maxRecDepth 20000 in
theorem ggX5_clearText_X3_size : GoodIn wsX5_clearText wsX3_size := goodIn_r _ [6, 7, 19, 20] (by decide +kernel) (by decide +kernel)
set_option maxRecDepth 20000 in
theorem gX5_clearText_X3_size : GoodIn wsX5_clearText (wsV RX5 71 RX3 yX3_size wsX3_size) := goodIn_app (goodIn_of _ (by decide +kernel)) ggX5_clearText_X3_size
set_option maxRecDepth 20000 in
theorem ggX5_clearText_X3_empty : GoodIn wsX5_clearText wsX3_empty := goodIn_r _ [11, 7, 19, 20] (by decide +kernel) (by decide +kernel)
set_option maxRecDepth 20000 in
theorem gX5_clearText_X3_empty : GoodIn wsX5_clearText (wsV RX5 75 RX3 yX3_empty wsX3_empty) := goodIn_app (goodIn_of _ (by decide +kernel)) ggX5_clearText_X3_empty
theorem dX5_clearText_0 : decode cX5_clearText 0 = .ok (.aload_n 0, 1) := by decide +kernel
theorem dX5_clearText_1 : decode cX5_clearText 1 = .ok (.getfield 10, 3) := by decide +kernel
theorem dX5_clearText_4 : decode cX5_clearText 4 = .ok (.invokevirtual 71, 3) := by decide +kernel
theorem dX5_clearText_7 : decode cX5_clearText 7 = .ok (.istore_n 1, 1) := by decide +kernel
theorem dX5_clearText_8 : decode cX5_clearText 8 = .ok (.aload_n 0, 1) := by decide +kernel
theorem dX5_clearText_9 : decode cX5_clearText 9 = .ok (.getfield 10, 3) := by decide +kernel
theorem dX5_clearText_12 : decode cX5_clearText 12 = .ok (.invokevirtual 75, 3) := by decide +kernel
theorem dX5_clearText_15 : decode cX5_clearText 15 = .ok (.iload_n 1, 1) := by decide +kernel
theorem dX5_clearText_16 : decode cX5_clearText 16 = .ok (.ireturn, 1) := by decide +kernel
set_option maxRecDepth 20000 in
theorem ggX5_errorPosition_X3_firstError : GoodIn wsX5_errorPosition wsX3_firstError := goodIn_r _ [6, 7, 8, 9, 10, 5, 11, 12, 13, 14, 15, 16, 17, 18, 19, 20, 21, 22, 23, 24, 32, 33] (by decide +kernel) (by decide +kernel)
set_option maxRecDepth 20000 in
theorem gX5_errorPosition_X3_firstError : GoodIn wsX5_errorPosition (wsV RX5 78 RX3 yX3_firstError wsX3_firstError) := goodIn_app (goodIn_of _ (by decide +kernel)) ggX5_errorPosition_X3_firstError
theorem dX5_errorPosition_0 : decode cX5_errorPosition 0 = .ok (.aload_n 0, 1) := by decide +kernel
theorem dX5_errorPosition_1 : decode cX5_errorPosition 1 = .ok (.getfield 10, 3) := by decide +kernel
theorem dX5_errorPosition_4 : decode cX5_errorPosition 4 = .ok (.invokevirtual 78, 3) := by decide +kernel
theorem dX5_errorPosition_7 : decode cX5_errorPosition 7 = .ok (.ireturn, 1) := by decide +kernel
set_option maxRecDepth 20000 in
theorem ggX5_load_X3_firstError : GoodIn wsX5_load wsX3_firstError := goodIn_r _ [12, 13, 14, 15, 16, 11, 17, 18, 19, 20, 21, 22, 23, 24, 25, 26, 27, 28, 29, 30, 202, 203] (by decide +kernel) (by decide +kernel)
set_option maxRecDepth 20000 in
theorem gX5_load_X3_firstError : GoodIn wsX5_load (wsV RX5 78 RX3 yX3_firstError wsX3_firstError) := goodIn_app (goodIn_of _ (by decide +kernel)) ggX5_load_X3_firstError
set_option maxRecDepth 20000 in
theorem ggX5_load_X2_empty : GoodIn wsX5_load wsX2_empty := goodIn_r _ [35, 36, 37, 38, 39, 40, 41, 42, 43, 44, 45, 46, 47, 48, 49, 50, 51, 52, 53, 54, 34, 55, 204, 205, 206, 207, 208, 209, 210, 211, 212, 213, 214, 215, 216, 217, 218, 219, 220] (by decide +kernel) (by decide +kernel)
set_option maxRecDepth 20000 in
theorem gX5_load_X2_empty : GoodIn wsX5_load (wsV RX5 83 RX2 yX2_empty wsX2_empty) := goodIn_app (goodIn_of _ (by decide +kernel)) ggX5_load_X2_empty
set_option maxRecDepth 20000 in
theorem ggX5_load_X1_forget : GoodIn wsX5_load wsX1_forget := goodIn_r _ [60, 61, 221, 222, 223] (by decide +kernel) (by decide +kernel)
set_option maxRecDepth 20000 in
theorem gX5_load_X1_forget : GoodIn wsX5_load (wsV RX5 84 RX1 yX1_forget wsX1_forget) := goodIn_app (goodIn_of _ (by decide +kernel)) ggX5_load_X1_forget
set_option maxRecDepth 20000 in
theorem ggX5_load_X3_doCommands : GoodIn wsX5_load wsX3_doCommands := goodIn_r _ [65, 13, 14, 66, 67, 68, 11, 69, 70, 71, 72, 73, 74, 75, 76, 34, 77, 36, 46, 78, 79, 80, 81, 52, 82, 83, 84, 85, 47, 86, 87, 88, 89, 90, 91, 92, 93, 39, 94, 95, 96, 97, 98, 99, 100, 101, 102, 103, 104, 105, 106, 107, 108, 37, 109, 110, 111, 112, 43, 48, 113, 114, 115, 116, 42, 53, 54, 55, 117, 118, 119, 120, 121, 122, 123, 124, 50, 125, 126, 127, 128, 129, 130, 131, 132, 45, 133, 134, 135, 136, 137, 138, 139, 140, 141, 142, 143, 144, 145, 146, 147, 148, 149, 150, 151, 152, 153, 154, 155, 156, 157, 158, 159, 160, 161, 162, 163, 164, 165, 166, 167, 168, 169, 170, 171, 172, 173, 174, 175, 176, 177, 178, 179, 180, 181, 182, 49, 183, 184, 185, 186, 187, 188, 189, 190, 51, 38, 41, 44, 40, 191, 192, 193, 194, 18, 19, 20, 202, 203, 204, 205, 206, 207, 208, 209, 210, 211, 212, 213, 214, 215, 216, 217, 218, 219, 220, 224, 225, 226, 227, 228, 229] (by decide +kernel) (by decide +kernel)
set_option maxRecDepth 20000 in
theorem gX5_load_X3_doCommands : GoodIn wsX5_load (wsV RX5 87 RX3 yX3_doCommands wsX3_doCommands) := goodIn_app (goodIn_of _ (by decide +kernel)) ggX5_load_X3_doCommands
theorem dX5_load_0 : decode cX5_load 0 = .ok (.aload_n 0, 1) := by decide +kernel
theorem dX5_load_1 : decode cX5_load 1 = .ok (.getfield 10, 3) := by decide +kernel
theorem dX5_load_4 : decode cX5_load 4 = .ok (.invokevirtual 78, 3) := by decide +kernel
theorem dX5_load_7 : decode cX5_load 7 = .ok (.iconst (-1), 1) := by decide +kernel
theorem dX5_load_8 : decode cX5_load 8 = .ok (.if_icmp .eq 13, 3) := by decide +kernel
theorem dX5_load_11 : decode cX5_load 11 = .ok (.new 60, 3) := by decide +kernel
theorem dX5_load_14 : decode cX5_load 14 = .ok (.dup, 1) := by decide +kernel
theorem dX5_load_15 : decode cX5_load 15 = .ok (.ldc 81, 2) := by decide +kernel
theorem dX5_load_17 : decode cX5_load 17 = .ok (.invokespecial 64, 3) := by decide +kernel
theorem dX5_load_20 : decode cX5_load 20 = .ok (.athrow, 1) := by decide +kernel
theorem dX5_load_21 : decode cX5_load 21 = .ok (.aload_n 0, 1) := by decide +kernel
theorem dX5_load_22 : decode cX5_load 22 = .ok (.getfield 19, 3) := by decide +kernel
theorem dX5_load_25 : decode cX5_load 25 = .ok (.invokevirtual 83, 3) := by decide +kernel
theorem dX5_load_28 : decode cX5_load 28 = .ok (.aload_n 0, 1) := by decide +kernel
theorem dX5_load_29 : decode cX5_load 29 = .ok (.getfield 40, 3) := by decide +kernel
theorem dX5_load_32 : decode cX5_load 32 = .ok (.invokevirtual 84, 3) := by decide +kernel
theorem dX5_load_35 : decode cX5_load 35 = .ok (.iconst 0, 1) := by decide +kernel
theorem dX5_load_36 : decode cX5_load 36 = .ok (.istore_n 1, 1) := by decide +kernel
theorem dX5_load_37 : decode cX5_load 37 = .ok (.iload_n 1, 1) := by decide +kernel
theorem dX5_load_38 : decode cX5_load 38 = .ok (.iconst 2, 1) := by decide +kernel
theorem dX5_load_39 : decode cX5_load 39 = .ok (.if_icmp .ge 16, 3) := by decide +kernel
theorem dX5_load_42 : decode cX5_load 42 = .ok (.aload_n 0, 1) := by decide +kernel
theorem dX5_load_43 : decode cX5_load 43 = .ok (.getfield 48, 3) := by decide +kernel
theorem dX5_load_46 : decode cX5_load 46 = .ok (.iload_n 1, 1) := by decide +kernel
theorem dX5_load_47 : decode cX5_load 47 = .ok (.iconst 0, 1) := by decide +kernel
theorem dX5_load_48 : decode cX5_load 48 = .ok (.bastore, 1) := by decide +kernel
theorem dX5_load_49 : decode cX5_load 49 = .ok (.iinc 1 1, 3) := by decide +kernel
theorem dX5_load_52 : decode cX5_load 52 = .ok (.goto (-15), 3) := by decide +kernel
theorem dX5_load_55 : decode cX5_load 55 = .ok (.aload_n 0, 1) := by decide +kernel
theorem dX5_load_56 : decode cX5_load 56 = .ok (.getfield 10, 3) := by decide +kernel
theorem dX5_load_59 : decode cX5_load 59 = .ok (.aload_n 0, 1) := by decide +kernel
theorem dX5_load_60 : decode cX5_load 60 = .ok (.getfield 19, 3) := by decide +kernel
theorem dX5_load_63 : decode cX5_load 63 = .ok (.aload_n 0, 1) := by decide +kernel
theorem dX5_load_64 : decode cX5_load 64 = .ok (.getfield 26, 3) := by decide +kernel
theorem dX5_load_67 : decode cX5_load 67 = .ok (.invokevirtual 87, 3) := by decide +kernel
theorem dX5_load_70 : decode cX5_load 70 = .ok (.ireturn, 1) := by decide +kernel
set_option maxRecDepth 20000 in
theorem ggX5_about_X2_roleCount : GoodIn wsX5_about wsX2_roleCount := goodIn_r _ [8, 9, 52, 53, 54, 55, 56, 57, 58, 59, 60, 61, 62, 63, 64, 65, 66, 67, 68] (by decide +kernel) (by decide +kernel)
set_option maxRecDepth 20000 in
theorem gX5_about_X2_roleCount : GoodIn wsX5_about (wsV RX5 91 RX2 yX2_roleCount wsX2_roleCount) := goodIn_app (goodIn_of _ (by decide +kernel)) ggX5_about_X2_roleCount
set_option maxRecDepth 20000 in
theorem ggX5_about_X2_playerCount : GoodIn wsX5_about wsX2_playerCount := goodIn_r _ [13, 14, 52, 53, 54, 55, 56, 57, 58, 59, 60, 61, 62, 63, 64, 65, 66, 67, 68] (by decide +kernel) (by decide +kernel)
set_option maxRecDepth 20000 in
theorem gX5_about_X2_playerCount : GoodIn wsX5_about (wsV RX5 94 RX2 yX2_playerCount wsX2_playerCount) := goodIn_app (goodIn_of _ (by decide +kernel)) ggX5_about_X2_playerCount
set_option maxRecDepth 20000 in
theorem ggX5_about_X2_dayNow : GoodIn wsX5_about wsX2_dayNow := goodIn_r _ [18, 19, 52, 53, 54, 55, 56, 57, 58, 59, 60, 61, 62, 63, 64, 65, 66, 67, 68] (by decide +kernel) (by decide +kernel)
set_option maxRecDepth 20000 in
theorem gX5_about_X2_dayNow : GoodIn wsX5_about (wsV RX5 97 RX2 yX2_dayNow wsX2_dayNow) := goodIn_app (goodIn_of _ (by decide +kernel)) ggX5_about_X2_dayNow
set_option maxRecDepth 20000 in
theorem ggX5_about_X2_performedCount : GoodIn wsX5_about wsX2_performedCount := goodIn_r _ [23, 24, 52, 53, 54, 55, 56, 57, 58, 59, 60, 61, 62, 63, 64, 65, 66, 67, 68] (by decide +kernel) (by decide +kernel)
set_option maxRecDepth 20000 in
theorem gX5_about_X2_performedCount : GoodIn wsX5_about (wsV RX5 100 RX2 yX2_performedCount wsX2_performedCount) := goodIn_app (goodIn_of _ (by decide +kernel)) ggX5_about_X2_performedCount
set_option maxRecDepth 20000 in
theorem ggX5_about_X2_calledOffCount : GoodIn wsX5_about wsX2_calledOffCount := goodIn_r _ [28, 29, 52, 53, 54, 55, 56, 57, 58, 59, 60, 61, 62, 63, 64, 65, 66, 67, 68] (by decide +kernel) (by decide +kernel)
set_option maxRecDepth 20000 in
theorem gX5_about_X2_calledOffCount : GoodIn wsX5_about (wsV RX5 103 RX2 yX2_calledOffCount wsX2_calledOffCount) := goodIn_app (goodIn_of _ (by decide +kernel)) ggX5_about_X2_calledOffCount
set_option maxRecDepth 20000 in
theorem ggX5_about_X2_paidTogether : GoodIn wsX5_about wsX2_paidTogether := goodIn_r _ [33, 14, 34, 52, 53, 54, 55, 56, 57, 58, 59, 60, 61, 62, 63, 64, 65, 66, 67, 68] (by decide +kernel) (by decide +kernel)
set_option maxRecDepth 20000 in
theorem gX5_about_X2_paidTogether : GoodIn wsX5_about (wsV RX5 106 RX2 yX2_paidTogether wsX2_paidTogether) := goodIn_app (goodIn_of _ (by decide +kernel)) ggX5_about_X2_paidTogether
set_option maxRecDepth 20000 in
theorem ggX5_about_X2_isPosted : GoodIn wsX5_about wsX2_isPosted := goodIn_r _ [38, 39, 52, 53, 54, 55, 56, 57, 58, 59, 60, 61, 62, 63, 64, 65, 66, 67, 68] (by decide +kernel) (by decide +kernel)
set_option maxRecDepth 20000 in
theorem gX5_about_X2_isPosted : GoodIn wsX5_about (wsV RX5 109 RX2 yX2_isPosted wsX2_isPosted) := goodIn_app (goodIn_of _ (by decide +kernel)) ggX5_about_X2_isPosted
set_option maxRecDepth 20000 in
theorem ggX5_about_X2_standInCount : GoodIn wsX5_about wsX2_standInCount := goodIn_r _ [43, 44, 52, 53, 54, 55, 56, 57, 58, 59, 60, 61, 62, 63, 64, 65, 66, 67, 68] (by decide +kernel) (by decide +kernel)
set_option maxRecDepth 20000 in
theorem gX5_about_X2_standInCount : GoodIn wsX5_about (wsV RX5 112 RX2 yX2_standInCount wsX2_standInCount) := goodIn_app (goodIn_of _ (by decide +kernel)) ggX5_about_X2_standInCount
theorem dX5_about_0 : decode cX5_about 0 = .ok (.iload_n 1, 1) := by decide +kernel
theorem dX5_about_1 : decode cX5_about 1 = .ok (.tableswitch 119 0 7 #[47, 55, 63, 71, 79, 87, 95, 111], 47) := by decide +kernel
theorem dX5_about_48 : decode cX5_about 48 = .ok (.aload_n 0, 1) := by decide +kernel
theorem dX5_about_49 : decode cX5_about 49 = .ok (.getfield 19, 3) := by decide +kernel
theorem dX5_about_52 : decode cX5_about 52 = .ok (.invokevirtual 91, 3) := by decide +kernel
theorem dX5_about_55 : decode cX5_about 55 = .ok (.ireturn, 1) := by decide +kernel
theorem dX5_about_56 : decode cX5_about 56 = .ok (.aload_n 0, 1) := by decide +kernel
theorem dX5_about_57 : decode cX5_about 57 = .ok (.getfield 19, 3) := by decide +kernel
theorem dX5_about_60 : decode cX5_about 60 = .ok (.invokevirtual 94, 3) := by decide +kernel
theorem dX5_about_63 : decode cX5_about 63 = .ok (.ireturn, 1) := by decide +kernel
theorem dX5_about_64 : decode cX5_about 64 = .ok (.aload_n 0, 1) := by decide +kernel
theorem dX5_about_65 : decode cX5_about 65 = .ok (.getfield 19, 3) := by decide +kernel
theorem dX5_about_68 : decode cX5_about 68 = .ok (.invokevirtual 97, 3) := by decide +kernel
theorem dX5_about_71 : decode cX5_about 71 = .ok (.ireturn, 1) := by decide +kernel
theorem dX5_about_72 : decode cX5_about 72 = .ok (.aload_n 0, 1) := by decide +kernel
theorem dX5_about_73 : decode cX5_about 73 = .ok (.getfield 19, 3) := by decide +kernel
theorem dX5_about_76 : decode cX5_about 76 = .ok (.invokevirtual 100, 3) := by decide +kernel
theorem dX5_about_79 : decode cX5_about 79 = .ok (.ireturn, 1) := by decide +kernel
theorem dX5_about_80 : decode cX5_about 80 = .ok (.aload_n 0, 1) := by decide +kernel
theorem dX5_about_81 : decode cX5_about 81 = .ok (.getfield 19, 3) := by decide +kernel
theorem dX5_about_84 : decode cX5_about 84 = .ok (.invokevirtual 103, 3) := by decide +kernel
theorem dX5_about_87 : decode cX5_about 87 = .ok (.ireturn, 1) := by decide +kernel
theorem dX5_about_88 : decode cX5_about 88 = .ok (.aload_n 0, 1) := by decide +kernel
theorem dX5_about_89 : decode cX5_about 89 = .ok (.getfield 19, 3) := by decide +kernel
theorem dX5_about_92 : decode cX5_about 92 = .ok (.invokevirtual 106, 3) := by decide +kernel
theorem dX5_about_95 : decode cX5_about 95 = .ok (.ireturn, 1) := by decide +kernel
theorem dX5_about_96 : decode cX5_about 96 = .ok (.aload_n 0, 1) := by decide +kernel
theorem dX5_about_97 : decode cX5_about 97 = .ok (.getfield 19, 3) := by decide +kernel
theorem dX5_about_100 : decode cX5_about 100 = .ok (.invokevirtual 109, 3) := by decide +kernel
theorem dX5_about_103 : decode cX5_about 103 = .ok (.ifCond .eq 7, 3) := by decide +kernel
theorem dX5_about_106 : decode cX5_about 106 = .ok (.iconst 1, 1) := by decide +kernel
theorem dX5_about_107 : decode cX5_about 107 = .ok (.goto 4, 3) := by decide +kernel
theorem dX5_about_110 : decode cX5_about 110 = .ok (.iconst 0, 1) := by decide +kernel
theorem dX5_about_111 : decode cX5_about 111 = .ok (.ireturn, 1) := by decide +kernel
theorem dX5_about_112 : decode cX5_about 112 = .ok (.aload_n 0, 1) := by decide +kernel
theorem dX5_about_113 : decode cX5_about 113 = .ok (.getfield 19, 3) := by decide +kernel
theorem dX5_about_116 : decode cX5_about 116 = .ok (.invokevirtual 112, 3) := by decide +kernel
theorem dX5_about_119 : decode cX5_about 119 = .ok (.ireturn, 1) := by decide +kernel
theorem dX5_about_120 : decode cX5_about 120 = .ok (.new 115, 3) := by decide +kernel
theorem dX5_about_123 : decode cX5_about 123 = .ok (.dup, 1) := by decide +kernel
theorem dX5_about_124 : decode cX5_about 124 = .ok (.ldc 117, 2) := by decide +kernel
theorem dX5_about_126 : decode cX5_about 126 = .ok (.invokespecial 119, 3) := by decide +kernel
theorem dX5_about_129 : decode cX5_about 129 = .ok (.athrow, 1) := by decide +kernel
set_option maxRecDepth 20000 in
theorem ggX5_role_X5_needRole : GoodIn wsX5_role wsX5_needRole := goodIn_ca (goodIn_r _ [9, 10, 11, 3, 12, 13, 14, 15, 16, 17, 108, 109, 110, 111, 112, 113, 114, 115, 116, 117, 118, 119, 120, 121, 122, 123, 124, 125, 126, 127, 128, 129, 130, 131] (by decide +kernel) (by decide +kernel)) (goodIn_sub (fun _ h => List.mem_cons_of_mem _ (List.mem_append_right _ h)) (by decide +kernel))
set_option maxRecDepth 20000 in
theorem gX5_role_X5_needRole : GoodIn wsX5_role (wsV RX5 120 RX5 yX5_needRole wsX5_needRole) := goodIn_app (goodIn_of _ (by decide +kernel)) ggX5_role_X5_needRole
set_option maxRecDepth 20000 in
theorem ggX5_role_X2_weightOf : GoodIn wsX5_role wsX2_weightOf := goodIn_r _ [21, 22, 115, 116, 117, 118, 119, 120, 121, 122, 123, 124, 125, 126, 127, 128, 129, 130, 131] (by decide +kernel) (by decide +kernel)
set_option maxRecDepth 20000 in
theorem gX5_role_X2_weightOf : GoodIn wsX5_role (wsV RX5 123 RX2 yX2_weightOf wsX2_weightOf) := goodIn_app (goodIn_of _ (by decide +kernel)) ggX5_role_X2_weightOf
set_option maxRecDepth 20000 in
theorem ggX5_role_X2_firstOf : GoodIn wsX5_role wsX2_firstOf := goodIn_r _ [26, 27, 115, 116, 117, 118, 119, 120, 121, 122, 123, 124, 125, 126, 127, 128, 129, 130, 131] (by decide +kernel) (by decide +kernel)
set_option maxRecDepth 20000 in
theorem gX5_role_X2_firstOf : GoodIn wsX5_role (wsV RX5 127 RX2 yX2_firstOf wsX2_firstOf) := goodIn_app (goodIn_of _ (by decide +kernel)) ggX5_role_X2_firstOf
set_option maxRecDepth 20000 in
theorem ggX5_role_X2_freePlayers : GoodIn wsX5_role wsX2_freePlayers := goodIn_r _ [31, 32, 33, 34, 35, 15, 36, 37, 38, 39, 40, 115, 116, 117, 118, 119, 120, 121, 122, 123, 124, 125, 126, 127, 128, 129, 130, 131] (by decide +kernel) (by decide +kernel)
set_option maxRecDepth 20000 in
theorem gX5_role_X2_freePlayers : GoodIn wsX5_role (wsV RX5 130 RX2 yX2_freePlayers wsX2_freePlayers) := goodIn_app (goodIn_of _ (by decide +kernel)) ggX5_role_X2_freePlayers
set_option maxRecDepth 20000 in
theorem ggX5_role_X0_seek : GoodIn wsX5_role wsX0_seek := goodIn_r _ [45, 46, 47, 48, 49, 50, 51, 52, 53, 15, 54, 17, 55, 56, 57, 58, 32, 59, 60, 44, 61, 62, 63, 64, 65, 66, 22, 27, 67, 68, 69, 70, 71, 72, 73, 74, 75, 76, 77, 78, 79, 80, 81, 82, 83, 84, 85, 86, 87, 88, 89, 90, 91, 92, 93, 132, 133, 134, 135, 136, 137, 115, 116, 117, 118, 119, 120, 121, 122, 123, 124, 125, 126, 127, 128, 129, 130, 131] (by decide +kernel) (by decide +kernel)
set_option maxRecDepth 20000 in
theorem gX5_role_X0_seek : GoodIn wsX5_role (wsV RX5 133 RX0 yX0_seek wsX0_seek) := goodIn_app (goodIn_of _ (by decide +kernel)) ggX5_role_X0_seek
set_option maxRecDepth 20000 in
theorem ggX5_role_X0_playerOf : GoodIn wsX5_role wsX0_playerOf := goodIn_r _ [97, 46, 93, 132, 133, 134, 135, 136, 137] (by decide +kernel) (by decide +kernel)
set_option maxRecDepth 20000 in
theorem gX5_role_X0_playerOf : GoodIn wsX5_role (wsV RX5 137 RX0 yX0_playerOf wsX0_playerOf) := goodIn_app (goodIn_of _ (by decide +kernel)) ggX5_role_X0_playerOf
set_option maxRecDepth 20000 in
theorem ggX5_role_X2_postedFor : GoodIn wsX5_role wsX2_postedFor := goodIn_r _ [101, 102, 103, 115, 116, 117, 118, 119, 120, 121, 122, 123, 124, 125, 126, 127, 128, 129, 130, 131] (by decide +kernel) (by decide +kernel)
set_option maxRecDepth 20000 in
theorem gX5_role_X2_postedFor : GoodIn wsX5_role (wsV RX5 140 RX2 yX2_postedFor wsX2_postedFor) := goodIn_app (goodIn_of _ (by decide +kernel)) ggX5_role_X2_postedFor
set_option maxRecDepth 20000 in
theorem ggX5_role_X2_candidateCount : GoodIn wsX5_role wsX2_candidateCount := goodIn_r _ [107, 32, 66, 33, 34, 35, 15, 36, 37, 38, 39, 40, 67, 68, 69, 115, 116, 117, 118, 119, 120, 121, 122, 123, 124, 125, 126, 127, 128, 129, 130, 131] (by decide +kernel) (by decide +kernel)
set_option maxRecDepth 20000 in
theorem gX5_role_X2_candidateCount : GoodIn wsX5_role (wsV RX5 143 RX2 yX2_candidateCount wsX2_candidateCount) := goodIn_app (goodIn_of _ (by decide +kernel)) ggX5_role_X2_candidateCount
theorem dX5_role_0 : decode cX5_role 0 = .ok (.aload_n 0, 1) := by decide +kernel
theorem dX5_role_1 : decode cX5_role 1 = .ok (.iload_n 1, 1) := by decide +kernel
theorem dX5_role_2 : decode cX5_role 2 = .ok (.invokevirtual 120, 3) := by decide +kernel
theorem dX5_role_5 : decode cX5_role 5 = .ok (.iload_n 2, 1) := by decide +kernel
theorem dX5_role_6 : decode cX5_role 6 = .ok (.tableswitch 98 0 4 #[34, 43, 52, 80, 89], 34) := by decide +kernel
theorem dX5_role_40 : decode cX5_role 40 = .ok (.aload_n 0, 1) := by decide +kernel
theorem dX5_role_41 : decode cX5_role 41 = .ok (.getfield 19, 3) := by decide +kernel
theorem dX5_role_44 : decode cX5_role 44 = .ok (.iload_n 1, 1) := by decide +kernel
theorem dX5_role_45 : decode cX5_role 45 = .ok (.invokevirtual 123, 3) := by decide +kernel
theorem dX5_role_48 : decode cX5_role 48 = .ok (.ireturn, 1) := by decide +kernel
theorem dX5_role_49 : decode cX5_role 49 = .ok (.aload_n 0, 1) := by decide +kernel
theorem dX5_role_50 : decode cX5_role 50 = .ok (.getfield 19, 3) := by decide +kernel
theorem dX5_role_53 : decode cX5_role 53 = .ok (.iload_n 1, 1) := by decide +kernel
theorem dX5_role_54 : decode cX5_role 54 = .ok (.invokevirtual 127, 3) := by decide +kernel
theorem dX5_role_57 : decode cX5_role 57 = .ok (.ireturn, 1) := by decide +kernel
theorem dX5_role_58 : decode cX5_role 58 = .ok (.aload_n 0, 1) := by decide +kernel
theorem dX5_role_59 : decode cX5_role 59 = .ok (.getfield 26, 3) := by decide +kernel
theorem dX5_role_62 : decode cX5_role 62 = .ok (.aload_n 0, 1) := by decide +kernel
theorem dX5_role_63 : decode cX5_role 63 = .ok (.getfield 19, 3) := by decide +kernel
theorem dX5_role_66 : decode cX5_role 66 = .ok (.aload_n 0, 1) := by decide +kernel
theorem dX5_role_67 : decode cX5_role 67 = .ok (.getfield 19, 3) := by decide +kernel
theorem dX5_role_70 : decode cX5_role 70 = .ok (.invokevirtual 130, 3) := by decide +kernel
theorem dX5_role_73 : decode cX5_role 73 = .ok (.invokevirtual 133, 3) := by decide +kernel
theorem dX5_role_76 : decode cX5_role 76 = .ok (.pop, 1) := by decide +kernel
theorem dX5_role_77 : decode cX5_role 77 = .ok (.aload_n 0, 1) := by decide +kernel
theorem dX5_role_78 : decode cX5_role 78 = .ok (.getfield 26, 3) := by decide +kernel
theorem dX5_role_81 : decode cX5_role 81 = .ok (.iload_n 1, 1) := by decide +kernel
theorem dX5_role_82 : decode cX5_role 82 = .ok (.invokevirtual 137, 3) := by decide +kernel
theorem dX5_role_85 : decode cX5_role 85 = .ok (.ireturn, 1) := by decide +kernel
theorem dX5_role_86 : decode cX5_role 86 = .ok (.aload_n 0, 1) := by decide +kernel
theorem dX5_role_87 : decode cX5_role 87 = .ok (.getfield 19, 3) := by decide +kernel
theorem dX5_role_90 : decode cX5_role 90 = .ok (.iload_n 1, 1) := by decide +kernel
theorem dX5_role_91 : decode cX5_role 91 = .ok (.invokevirtual 140, 3) := by decide +kernel
theorem dX5_role_94 : decode cX5_role 94 = .ok (.ireturn, 1) := by decide +kernel
theorem dX5_role_95 : decode cX5_role 95 = .ok (.aload_n 0, 1) := by decide +kernel
theorem dX5_role_96 : decode cX5_role 96 = .ok (.getfield 19, 3) := by decide +kernel
theorem dX5_role_99 : decode cX5_role 99 = .ok (.iload_n 1, 1) := by decide +kernel
theorem dX5_role_100 : decode cX5_role 100 = .ok (.invokevirtual 143, 3) := by decide +kernel
theorem dX5_role_103 : decode cX5_role 103 = .ok (.ireturn, 1) := by decide +kernel
theorem dX5_role_104 : decode cX5_role 104 = .ok (.new 115, 3) := by decide +kernel
theorem dX5_role_107 : decode cX5_role 107 = .ok (.dup, 1) := by decide +kernel
theorem dX5_role_108 : decode cX5_role 108 = .ok (.ldc 146, 2) := by decide +kernel
theorem dX5_role_110 : decode cX5_role 110 = .ok (.invokespecial 119, 3) := by decide +kernel
theorem dX5_role_113 : decode cX5_role 113 = .ok (.athrow, 1) := by decide +kernel
set_option maxRecDepth 20000 in
theorem ggX5_player_X5_needPlayer : GoodIn wsX5_player wsX5_needPlayer := goodIn_ca (goodIn_r _ [9, 10, 11, 3, 12, 13, 14, 15, 16, 17, 110, 111, 112, 113, 114, 115, 116, 117, 118, 119, 120, 121, 122, 123, 124, 125, 126, 127, 128, 129, 130, 131, 132, 133] (by decide +kernel) (by decide +kernel)) (goodIn_sub (fun _ h => List.mem_cons_of_mem _ (List.mem_append_right _ h)) (by decide +kernel))
set_option maxRecDepth 20000 in
theorem gX5_player_X5_needPlayer : GoodIn wsX5_player (wsV RX5 148 RX5 yX5_needPlayer wsX5_needPlayer) := goodIn_app (goodIn_of _ (by decide +kernel)) ggX5_player_X5_needPlayer
set_option maxRecDepth 20000 in
theorem ggX5_player_X2_payOf : GoodIn wsX5_player wsX2_payOf := goodIn_r _ [21, 22, 117, 118, 119, 120, 121, 122, 123, 124, 125, 126, 127, 128, 129, 130, 131, 132, 133] (by decide +kernel) (by decide +kernel)
set_option maxRecDepth 20000 in
theorem gX5_player_X2_payOf : GoodIn wsX5_player (wsV RX5 151 RX2 yX2_payOf wsX2_payOf) := goodIn_app (goodIn_of _ (by decide +kernel)) ggX5_player_X2_payOf
set_option maxRecDepth 20000 in
theorem ggX5_player_X2_rowOf : GoodIn wsX5_player wsX2_rowOf := goodIn_r _ [26, 27, 117, 118, 119, 120, 121, 122, 123, 124, 125, 126, 127, 128, 129, 130, 131, 132, 133] (by decide +kernel) (by decide +kernel)
set_option maxRecDepth 20000 in
theorem gX5_player_X2_rowOf : GoodIn wsX5_player (wsV RX5 154 RX2 yX2_rowOf wsX2_rowOf) := goodIn_app (goodIn_of _ (by decide +kernel)) ggX5_player_X2_rowOf
set_option maxRecDepth 20000 in
theorem ggX5_player_X2_daysStillAway : GoodIn wsX5_player wsX2_daysStillAway := goodIn_r _ [31, 32, 33, 34, 35, 36, 37, 117, 118, 119, 120, 121, 122, 123, 124, 125, 126, 127, 128, 129, 130, 131, 132, 133] (by decide +kernel) (by decide +kernel)
set_option maxRecDepth 20000 in
theorem gX5_player_X2_daysStillAway : GoodIn wsX5_player (wsV RX5 157 RX2 yX2_daysStillAway wsX2_daysStillAway) := goodIn_app (goodIn_of _ (by decide +kernel)) ggX5_player_X2_daysStillAway
set_option maxRecDepth 20000 in
theorem ggX5_player_X2_isFree : GoodIn wsX5_player wsX2_isFree := goodIn_r _ [41, 32, 33, 27, 42, 117, 118, 119, 120, 121, 122, 123, 124, 125, 126, 127, 128, 129, 130, 131, 132, 133] (by decide +kernel) (by decide +kernel)
set_option maxRecDepth 20000 in
theorem gX5_player_X2_isFree : GoodIn wsX5_player (wsV RX5 160 RX2 yX2_isFree wsX2_isFree) := goodIn_app (goodIn_of _ (by decide +kernel)) ggX5_player_X2_isFree
set_option maxRecDepth 20000 in
theorem ggX5_player_X2_showsOf : GoodIn wsX5_player wsX2_showsOf := goodIn_r _ [46, 47, 117, 118, 119, 120, 121, 122, 123, 124, 125, 126, 127, 128, 129, 130, 131, 132, 133] (by decide +kernel) (by decide +kernel)
set_option maxRecDepth 20000 in
theorem gX5_player_X2_showsOf : GoodIn wsX5_player (wsV RX5 164 RX2 yX2_showsOf wsX2_showsOf) := goodIn_app (goodIn_of _ (by decide +kernel)) ggX5_player_X2_showsOf
set_option maxRecDepth 20000 in
theorem ggX5_player_X2_freePlayers : GoodIn wsX5_player wsX2_freePlayers := goodIn_r _ [51, 17, 52, 39, 40, 15, 41, 32, 33, 27, 42, 117, 118, 119, 120, 121, 122, 123, 124, 125, 126, 127, 128, 129, 130, 131, 132, 133] (by decide +kernel) (by decide +kernel)
set_option maxRecDepth 20000 in
theorem gX5_player_X2_freePlayers : GoodIn wsX5_player (wsV RX5 130 RX2 yX2_freePlayers wsX2_freePlayers) := goodIn_app (goodIn_of _ (by decide +kernel)) ggX5_player_X2_freePlayers
set_option maxRecDepth 20000 in
theorem ggX5_player_X0_seek : GoodIn wsX5_player wsX0_seek := goodIn_r _ [57, 58, 59, 60, 61, 62, 63, 64, 65, 15, 66, 67, 68, 69, 70, 71, 17, 72, 73, 56, 74, 75, 76, 77, 78, 79, 80, 81, 82, 83, 84, 85, 86, 87, 88, 89, 90, 91, 92, 93, 94, 95, 96, 35, 36, 37, 97, 98, 99, 100, 101, 102, 103, 104, 105, 134, 135, 136, 137, 138, 139, 117, 118, 119, 120, 121, 122, 123, 124, 125, 126, 127, 128, 129, 130, 131, 132, 133] (by decide +kernel) (by decide +kernel)
set_option maxRecDepth 20000 in
theorem gX5_player_X0_seek : GoodIn wsX5_player (wsV RX5 133 RX0 yX0_seek wsX0_seek) := goodIn_app (goodIn_of _ (by decide +kernel)) ggX5_player_X0_seek
set_option maxRecDepth 20000 in
theorem ggX5_player_X0_roleOf : GoodIn wsX5_player wsX0_roleOf := goodIn_r _ [109, 58, 105, 134, 135, 136, 137, 138, 139] (by decide +kernel) (by decide +kernel)
set_option maxRecDepth 20000 in
theorem gX5_player_X0_roleOf : GoodIn wsX5_player (wsV RX5 167 RX0 yX0_roleOf wsX0_roleOf) := goodIn_app (goodIn_of _ (by decide +kernel)) ggX5_player_X0_roleOf
theorem dX5_player_0 : decode cX5_player 0 = .ok (.aload_n 0, 1) := by decide +kernel
theorem dX5_player_1 : decode cX5_player 1 = .ok (.iload_n 1, 1) := by decide +kernel
theorem dX5_player_2 : decode cX5_player 2 = .ok (.invokevirtual 148, 3) := by decide +kernel
theorem dX5_player_5 : decode cX5_player 5 = .ok (.iload_n 2, 1) := by decide +kernel
theorem dX5_player_6 : decode cX5_player 6 = .ok (.tableswitch 119 0 5 #[38, 47, 56, 65, 82, 91], 38) := by decide +kernel
theorem dX5_player_44 : decode cX5_player 44 = .ok (.aload_n 0, 1) := by decide +kernel
theorem dX5_player_45 : decode cX5_player 45 = .ok (.getfield 19, 3) := by decide +kernel
theorem dX5_player_48 : decode cX5_player 48 = .ok (.iload_n 1, 1) := by decide +kernel
theorem dX5_player_49 : decode cX5_player 49 = .ok (.invokevirtual 151, 3) := by decide +kernel
theorem dX5_player_52 : decode cX5_player 52 = .ok (.ireturn, 1) := by decide +kernel
theorem dX5_player_53 : decode cX5_player 53 = .ok (.aload_n 0, 1) := by decide +kernel
theorem dX5_player_54 : decode cX5_player 54 = .ok (.getfield 19, 3) := by decide +kernel
theorem dX5_player_57 : decode cX5_player 57 = .ok (.iload_n 1, 1) := by decide +kernel
theorem dX5_player_58 : decode cX5_player 58 = .ok (.invokevirtual 154, 3) := by decide +kernel
theorem dX5_player_61 : decode cX5_player 61 = .ok (.ireturn, 1) := by decide +kernel
theorem dX5_player_62 : decode cX5_player 62 = .ok (.aload_n 0, 1) := by decide +kernel
theorem dX5_player_63 : decode cX5_player 63 = .ok (.getfield 19, 3) := by decide +kernel
theorem dX5_player_66 : decode cX5_player 66 = .ok (.iload_n 1, 1) := by decide +kernel
theorem dX5_player_67 : decode cX5_player 67 = .ok (.invokevirtual 157, 3) := by decide +kernel
theorem dX5_player_70 : decode cX5_player 70 = .ok (.ireturn, 1) := by decide +kernel
theorem dX5_player_71 : decode cX5_player 71 = .ok (.aload_n 0, 1) := by decide +kernel
theorem dX5_player_72 : decode cX5_player 72 = .ok (.getfield 19, 3) := by decide +kernel
theorem dX5_player_75 : decode cX5_player 75 = .ok (.iload_n 1, 1) := by decide +kernel
theorem dX5_player_76 : decode cX5_player 76 = .ok (.invokevirtual 160, 3) := by decide +kernel
theorem dX5_player_79 : decode cX5_player 79 = .ok (.ifCond .eq 7, 3) := by decide +kernel
theorem dX5_player_82 : decode cX5_player 82 = .ok (.iconst 1, 1) := by decide +kernel
theorem dX5_player_83 : decode cX5_player 83 = .ok (.goto 4, 3) := by decide +kernel
theorem dX5_player_86 : decode cX5_player 86 = .ok (.iconst 0, 1) := by decide +kernel
theorem dX5_player_87 : decode cX5_player 87 = .ok (.ireturn, 1) := by decide +kernel
theorem dX5_player_88 : decode cX5_player 88 = .ok (.aload_n 0, 1) := by decide +kernel
theorem dX5_player_89 : decode cX5_player 89 = .ok (.getfield 19, 3) := by decide +kernel
theorem dX5_player_92 : decode cX5_player 92 = .ok (.iload_n 1, 1) := by decide +kernel
theorem dX5_player_93 : decode cX5_player 93 = .ok (.invokevirtual 164, 3) := by decide +kernel
theorem dX5_player_96 : decode cX5_player 96 = .ok (.ireturn, 1) := by decide +kernel
theorem dX5_player_97 : decode cX5_player 97 = .ok (.aload_n 0, 1) := by decide +kernel
theorem dX5_player_98 : decode cX5_player 98 = .ok (.getfield 26, 3) := by decide +kernel
theorem dX5_player_101 : decode cX5_player 101 = .ok (.aload_n 0, 1) := by decide +kernel
theorem dX5_player_102 : decode cX5_player 102 = .ok (.getfield 19, 3) := by decide +kernel
theorem dX5_player_105 : decode cX5_player 105 = .ok (.aload_n 0, 1) := by decide +kernel
theorem dX5_player_106 : decode cX5_player 106 = .ok (.getfield 19, 3) := by decide +kernel
theorem dX5_player_109 : decode cX5_player 109 = .ok (.invokevirtual 130, 3) := by decide +kernel
theorem dX5_player_112 : decode cX5_player 112 = .ok (.invokevirtual 133, 3) := by decide +kernel
theorem dX5_player_115 : decode cX5_player 115 = .ok (.pop, 1) := by decide +kernel
theorem dX5_player_116 : decode cX5_player 116 = .ok (.aload_n 0, 1) := by decide +kernel
theorem dX5_player_117 : decode cX5_player 117 = .ok (.getfield 26, 3) := by decide +kernel
theorem dX5_player_120 : decode cX5_player 120 = .ok (.iload_n 1, 1) := by decide +kernel
theorem dX5_player_121 : decode cX5_player 121 = .ok (.invokevirtual 167, 3) := by decide +kernel
theorem dX5_player_124 : decode cX5_player 124 = .ok (.ireturn, 1) := by decide +kernel
theorem dX5_player_125 : decode cX5_player 125 = .ok (.new 115, 3) := by decide +kernel
theorem dX5_player_128 : decode cX5_player 128 = .ok (.dup, 1) := by decide +kernel
theorem dX5_player_129 : decode cX5_player 129 = .ok (.ldc 170, 2) := by decide +kernel
theorem dX5_player_131 : decode cX5_player 131 = .ok (.invokespecial 119, 3) := by decide +kernel
theorem dX5_player_134 : decode cX5_player 134 = .ok (.athrow, 1) := by decide +kernel
set_option maxRecDepth 20000 in
theorem ggX5_both_X5_needPlayer : GoodIn wsX5_both wsX5_needPlayer := goodIn_ca (goodIn_r _ [8, 9, 10, 3, 11, 12, 13, 14, 15, 16, 45, 46, 47, 48, 49, 50, 51, 52, 53, 54, 55, 56, 57, 58, 59, 60, 61, 62, 63, 64, 65, 66, 67, 68] (by decide +kernel) (by decide +kernel)) (goodIn_sub (fun _ h => List.mem_cons_of_mem _ (List.mem_append_right _ h)) (by decide +kernel))
set_option maxRecDepth 20000 in
theorem gX5_both_X5_needPlayer : GoodIn wsX5_both (wsV RX5 148 RX5 yX5_needPlayer wsX5_needPlayer) := goodIn_app (goodIn_of _ (by decide +kernel)) ggX5_both_X5_needPlayer
set_option maxRecDepth 20000 in
theorem ggX5_both_X5_needRole : GoodIn wsX5_both wsX5_needRole := goodIn_ca (goodIn_r _ [20, 9, 10, 3, 21, 22, 23, 14, 24, 25, 45, 46, 47, 48, 49, 50, 51, 52, 53, 54, 55, 56, 57, 58, 59, 60, 61, 62, 63, 64, 65, 66, 67, 68] (by decide +kernel) (by decide +kernel)) (goodIn_sub (fun _ h => List.mem_cons_of_mem _ (List.mem_append_right _ h)) (by decide +kernel))
set_option maxRecDepth 20000 in
theorem gX5_both_X5_needRole : GoodIn wsX5_both (wsV RX5 120 RX5 yX5_needRole wsX5_needRole) := goodIn_app (goodIn_of _ (by decide +kernel)) ggX5_both_X5_needRole
set_option maxRecDepth 20000 in
theorem ggX5_both_X2_degreeOf : GoodIn wsX5_both wsX2_degreeOf := goodIn_r _ [29, 30, 31, 32, 14, 33, 52, 53, 54, 55, 56, 57, 58, 59, 60, 61, 62, 63, 64, 65, 66, 67, 68] (by decide +kernel) (by decide +kernel)
set_option maxRecDepth 20000 in
theorem gX5_both_X2_degreeOf : GoodIn wsX5_both (wsV RX5 172 RX2 yX2_degreeOf wsX2_degreeOf) := goodIn_app (goodIn_of _ (by decide +kernel)) ggX5_both_X2_degreeOf
set_option maxRecDepth 20000 in
theorem ggX5_both_X2_timesOf : GoodIn wsX5_both wsX2_timesOf := goodIn_r _ [37, 38, 31, 32, 14, 33, 52, 53, 54, 55, 56, 57, 58, 59, 60, 61, 62, 63, 64, 65, 66, 67, 68] (by decide +kernel) (by decide +kernel)
set_option maxRecDepth 20000 in
theorem gX5_both_X2_timesOf : GoodIn wsX5_both (wsV RX5 176 RX2 yX2_timesOf wsX2_timesOf) := goodIn_app (goodIn_of _ (by decide +kernel)) ggX5_both_X2_timesOf
set_option maxRecDepth 20000 in
theorem ggX5_both_X2_worthOf : GoodIn wsX5_both wsX2_worthOf := goodIn_r _ [42, 30, 43, 44, 31, 32, 14, 33, 52, 53, 54, 55, 56, 57, 58, 59, 60, 61, 62, 63, 64, 65, 66, 67, 68] (by decide +kernel) (by decide +kernel)
set_option maxRecDepth 20000 in
theorem gX5_both_X2_worthOf : GoodIn wsX5_both (wsV RX5 179 RX2 yX2_worthOf wsX2_worthOf) := goodIn_app (goodIn_of _ (by decide +kernel)) ggX5_both_X2_worthOf
theorem dX5_both_0 : decode cX5_both 0 = .ok (.aload_n 0, 1) := by decide +kernel
theorem dX5_both_1 : decode cX5_both 1 = .ok (.iload_n 1, 1) := by decide +kernel
theorem dX5_both_2 : decode cX5_both 2 = .ok (.invokevirtual 148, 3) := by decide +kernel
theorem dX5_both_5 : decode cX5_both 5 = .ok (.aload_n 0, 1) := by decide +kernel
theorem dX5_both_6 : decode cX5_both 6 = .ok (.iload_n 2, 1) := by decide +kernel
theorem dX5_both_7 : decode cX5_both 7 = .ok (.invokevirtual 120, 3) := by decide +kernel
theorem dX5_both_10 : decode cX5_both 10 = .ok (.iload_n 3, 1) := by decide +kernel
theorem dX5_both_11 : decode cX5_both 11 = .ok (.tableswitch 55 0 2 #[25, 35, 45], 25) := by decide +kernel
theorem dX5_both_36 : decode cX5_both 36 = .ok (.aload_n 0, 1) := by decide +kernel
theorem dX5_both_37 : decode cX5_both 37 = .ok (.getfield 19, 3) := by decide +kernel
theorem dX5_both_40 : decode cX5_both 40 = .ok (.iload_n 1, 1) := by decide +kernel
theorem dX5_both_41 : decode cX5_both 41 = .ok (.iload_n 2, 1) := by decide +kernel
theorem dX5_both_42 : decode cX5_both 42 = .ok (.invokevirtual 172, 3) := by decide +kernel
theorem dX5_both_45 : decode cX5_both 45 = .ok (.ireturn, 1) := by decide +kernel
theorem dX5_both_46 : decode cX5_both 46 = .ok (.aload_n 0, 1) := by decide +kernel
theorem dX5_both_47 : decode cX5_both 47 = .ok (.getfield 19, 3) := by decide +kernel
theorem dX5_both_50 : decode cX5_both 50 = .ok (.iload_n 1, 1) := by decide +kernel
theorem dX5_both_51 : decode cX5_both 51 = .ok (.iload_n 2, 1) := by decide +kernel
theorem dX5_both_52 : decode cX5_both 52 = .ok (.invokevirtual 176, 3) := by decide +kernel
theorem dX5_both_55 : decode cX5_both 55 = .ok (.ireturn, 1) := by decide +kernel
theorem dX5_both_56 : decode cX5_both 56 = .ok (.aload_n 0, 1) := by decide +kernel
theorem dX5_both_57 : decode cX5_both 57 = .ok (.getfield 19, 3) := by decide +kernel
theorem dX5_both_60 : decode cX5_both 60 = .ok (.iload_n 1, 1) := by decide +kernel
theorem dX5_both_61 : decode cX5_both 61 = .ok (.iload_n 2, 1) := by decide +kernel
theorem dX5_both_62 : decode cX5_both 62 = .ok (.invokevirtual 179, 3) := by decide +kernel
theorem dX5_both_65 : decode cX5_both 65 = .ok (.ireturn, 1) := by decide +kernel
theorem dX5_both_66 : decode cX5_both 66 = .ok (.new 115, 3) := by decide +kernel
theorem dX5_both_69 : decode cX5_both 69 = .ok (.dup, 1) := by decide +kernel
theorem dX5_both_70 : decode cX5_both 70 = .ok (.ldc 182, 2) := by decide +kernel
theorem dX5_both_72 : decode cX5_both 72 = .ok (.invokespecial 119, 3) := by decide +kernel
theorem dX5_both_75 : decode cX5_both 75 = .ok (.athrow, 1) := by decide +kernel
set_option maxRecDepth 20000 in
theorem ggX5_setting_X5_needRange : GoodIn wsX5_setting wsX5_needRange := goodIn_ca (goodIn_r _ [5, 6, 7] (by decide +kernel) (by decide +kernel)) (goodIn_sub (fun _ h => List.mem_cons_of_mem _ (List.mem_append_right _ h)) (by decide +kernel))
set_option maxRecDepth 20000 in
theorem gX5_setting_X5_needRange : GoodIn wsX5_setting (va_wsS RX5 52 yX5_needRange wsX5_needRange) := goodIn_app (goodIn_of _ (by decide +kernel)) ggX5_setting_X5_needRange
set_option maxRecDepth 20000 in
theorem ggX5_setting_X2_settingOf : GoodIn wsX5_setting wsX2_settingOf := goodIn_r _ [12, 13, 21, 22, 23, 24, 25, 26, 27, 28, 29, 30, 31, 32, 33, 34, 35, 36, 37] (by decide +kernel) (by decide +kernel)
set_option maxRecDepth 20000 in
theorem gX5_setting_X2_settingOf : GoodIn wsX5_setting (wsV RX5 184 RX2 yX2_settingOf wsX2_settingOf) := goodIn_app (goodIn_of _ (by decide +kernel)) ggX5_setting_X2_settingOf
theorem dX5_setting_0 : decode cX5_setting 0 = .ok (.iload_n 1, 1) := by decide +kernel
theorem dX5_setting_1 : decode cX5_setting 1 = .ok (.iconst 0, 1) := by decide +kernel
theorem dX5_setting_2 : decode cX5_setting 2 = .ok (.iconst 4, 1) := by decide +kernel
theorem dX5_setting_3 : decode cX5_setting 3 = .ok (.invokestatic 52, 3) := by decide +kernel
theorem dX5_setting_6 : decode cX5_setting 6 = .ok (.aload_n 0, 1) := by decide +kernel
theorem dX5_setting_7 : decode cX5_setting 7 = .ok (.getfield 19, 3) := by decide +kernel
theorem dX5_setting_10 : decode cX5_setting 10 = .ok (.iload_n 1, 1) := by decide +kernel
theorem dX5_setting_11 : decode cX5_setting 11 = .ok (.invokevirtual 184, 3) := by decide +kernel
theorem dX5_setting_14 : decode cX5_setting 14 = .ok (.ireturn, 1) := by decide +kernel
set_option maxRecDepth 20000 in
theorem ggX5_ranked_X2_playerAtPlace : GoodIn wsX5_ranked wsX2_playerAtPlace := goodIn_r _ [8, 9, 10, 11, 12, 7, 13, 14, 22, 23, 24, 25, 26, 27, 28, 29, 30, 31, 32, 33, 34, 35, 36, 37, 38] (by decide +kernel) (by decide +kernel)
set_option maxRecDepth 20000 in
theorem gX5_ranked_X2_playerAtPlace : GoodIn wsX5_ranked (wsV RX5 189 RX2 yX2_playerAtPlace wsX2_playerAtPlace) := goodIn_app (goodIn_of _ (by decide +kernel)) ggX5_ranked_X2_playerAtPlace
theorem dX5_ranked_0 : decode cX5_ranked 0 = .ok (.iload_n 1, 1) := by decide +kernel
theorem dX5_ranked_1 : decode cX5_ranked 1 = .ok (.ifCond .ge 13, 3) := by decide +kernel
theorem dX5_ranked_4 : decode cX5_ranked 4 = .ok (.new 115, 3) := by decide +kernel
theorem dX5_ranked_7 : decode cX5_ranked 7 = .ok (.dup, 1) := by decide +kernel
theorem dX5_ranked_8 : decode cX5_ranked 8 = .ok (.ldc 187, 2) := by decide +kernel
theorem dX5_ranked_10 : decode cX5_ranked 10 = .ok (.invokespecial 119, 3) := by decide +kernel
theorem dX5_ranked_13 : decode cX5_ranked 13 = .ok (.athrow, 1) := by decide +kernel
theorem dX5_ranked_14 : decode cX5_ranked 14 = .ok (.aload_n 0, 1) := by decide +kernel
theorem dX5_ranked_15 : decode cX5_ranked 15 = .ok (.getfield 19, 3) := by decide +kernel
theorem dX5_ranked_18 : decode cX5_ranked 18 = .ok (.iload_n 1, 1) := by decide +kernel
theorem dX5_ranked_19 : decode cX5_ranked 19 = .ok (.invokevirtual 189, 3) := by decide +kernel
theorem dX5_ranked_22 : decode cX5_ranked 22 = .ok (.ireturn, 1) := by decide +kernel
set_option maxRecDepth 20000 in
theorem ggX5_addRole_X5_needRange : GoodIn wsX5_addRole wsX5_needRange := goodIn_ca (goodIn_r _ [8, 9, 10] (by decide +kernel) (by decide +kernel)) (goodIn_sub (fun _ h => List.mem_cons_of_mem _ (List.mem_append_right _ h)) (by decide +kernel))
set_option maxRecDepth 20000 in
theorem gX5_addRole_X5_needRange : GoodIn wsX5_addRole (va_wsS RX5 52 yX5_needRange wsX5_needRange) := goodIn_app (goodIn_of _ (by decide +kernel)) ggX5_addRole_X5_needRange
set_option maxRecDepth 20000 in
theorem ggX5_addRole_X2_takesRole : GoodIn wsX5_addRole wsX2_takesRole := goodIn_r _ [15, 16, 17, 64, 65, 66, 67, 68, 69, 70, 71, 72, 73, 74, 75, 76, 77, 78, 79, 80] (by decide +kernel) (by decide +kernel)
set_option maxRecDepth 20000 in
theorem gX5_addRole_X2_takesRole : GoodIn wsX5_addRole (wsV RX5 192 RX2 yX2_takesRole wsX2_takesRole) := goodIn_app (goodIn_of _ (by decide +kernel)) ggX5_addRole_X2_takesRole
set_option maxRecDepth 20000 in
theorem ggX5_addRole_X1_remember : GoodIn wsX5_addRole wsX1_remember := goodIn_r _ [22, 23, 24, 25, 26, 27, 28, 14, 29, 30, 31, 32, 33, 34, 35, 36, 37, 38, 39, 16, 40, 41, 42, 43, 44, 17, 45, 46, 47, 81, 82, 83, 64, 65, 66, 67, 68, 69, 70, 71, 72, 73, 74, 75, 76, 77, 78, 79, 80] (by decide +kernel) (by decide +kernel)
set_option maxRecDepth 20000 in
theorem gX5_addRole_X1_remember : GoodIn wsX5_addRole (wsV RX5 197 RX1 yX1_remember wsX1_remember) := goodIn_app (goodIn_of _ (by decide +kernel)) ggX5_addRole_X1_remember
set_option maxRecDepth 20000 in
theorem ggX5_addRole_X2_putRole : GoodIn wsX5_addRole wsX2_putRole := goodIn_r _ [51, 30, 16, 52, 12, 13, 14, 15, 17, 64, 65, 66, 67, 68, 69, 70, 71, 72, 73, 74, 75, 76, 77, 78, 79, 80] (by decide +kernel) (by decide +kernel)
set_option maxRecDepth 20000 in
theorem gX5_addRole_X2_putRole : GoodIn wsX5_addRole (wsV RX5 201 RX2 yX2_putRole wsX2_putRole) := goodIn_app (goodIn_of _ (by decide +kernel)) ggX5_addRole_X2_putRole
set_option maxRecDepth 20000 in
theorem ggX5_addRole_X2_roleCount : GoodIn wsX5_addRole wsX2_roleCount := goodIn_r _ [56, 16, 64, 65, 66, 67, 68, 69, 70, 71, 72, 73, 74, 75, 76, 77, 78, 79, 80] (by decide +kernel) (by decide +kernel)
set_option maxRecDepth 20000 in
theorem gX5_addRole_X2_roleCount : GoodIn wsX5_addRole (wsV RX5 91 RX2 yX2_roleCount wsX2_roleCount) := goodIn_app (goodIn_of _ (by decide +kernel)) ggX5_addRole_X2_roleCount
theorem dX5_addRole_0 : decode cX5_addRole 0 = .ok (.iload_n 1, 1) := by decide +kernel
theorem dX5_addRole_1 : decode cX5_addRole 1 = .ok (.iconst 1, 1) := by decide +kernel
theorem dX5_addRole_2 : decode cX5_addRole 2 = .ok (.bipush 9, 2) := by decide +kernel
theorem dX5_addRole_4 : decode cX5_addRole 4 = .ok (.invokestatic 52, 3) := by decide +kernel
theorem dX5_addRole_7 : decode cX5_addRole 7 = .ok (.aload_n 0, 1) := by decide +kernel
theorem dX5_addRole_8 : decode cX5_addRole 8 = .ok (.getfield 19, 3) := by decide +kernel
theorem dX5_addRole_11 : decode cX5_addRole 11 = .ok (.invokevirtual 192, 3) := by decide +kernel
theorem dX5_addRole_14 : decode cX5_addRole 14 = .ok (.ifCond .ne 13, 3) := by decide +kernel
theorem dX5_addRole_17 : decode cX5_addRole 17 = .ok (.new 60, 3) := by decide +kernel
theorem dX5_addRole_20 : decode cX5_addRole 20 = .ok (.dup, 1) := by decide +kernel
theorem dX5_addRole_21 : decode cX5_addRole 21 = .ok (.ldc 195, 2) := by decide +kernel
theorem dX5_addRole_23 : decode cX5_addRole 23 = .ok (.invokespecial 64, 3) := by decide +kernel
theorem dX5_addRole_26 : decode cX5_addRole 26 = .ok (.athrow, 1) := by decide +kernel
theorem dX5_addRole_27 : decode cX5_addRole 27 = .ok (.aload_n 0, 1) := by decide +kernel
theorem dX5_addRole_28 : decode cX5_addRole 28 = .ok (.getfield 40, 3) := by decide +kernel
theorem dX5_addRole_31 : decode cX5_addRole 31 = .ok (.aload_n 0, 1) := by decide +kernel
theorem dX5_addRole_32 : decode cX5_addRole 32 = .ok (.getfield 19, 3) := by decide +kernel
theorem dX5_addRole_35 : decode cX5_addRole 35 = .ok (.invokevirtual 197, 3) := by decide +kernel
theorem dX5_addRole_38 : decode cX5_addRole 38 = .ok (.aload_n 0, 1) := by decide +kernel
theorem dX5_addRole_39 : decode cX5_addRole 39 = .ok (.getfield 19, 3) := by decide +kernel
theorem dX5_addRole_42 : decode cX5_addRole 42 = .ok (.iload_n 1, 1) := by decide +kernel
theorem dX5_addRole_43 : decode cX5_addRole 43 = .ok (.invokevirtual 201, 3) := by decide +kernel
theorem dX5_addRole_46 : decode cX5_addRole 46 = .ok (.pop, 1) := by decide +kernel
theorem dX5_addRole_47 : decode cX5_addRole 47 = .ok (.aload_n 0, 1) := by decide +kernel
theorem dX5_addRole_48 : decode cX5_addRole 48 = .ok (.getfield 19, 3) := by decide +kernel
theorem dX5_addRole_51 : decode cX5_addRole 51 = .ok (.invokevirtual 91, 3) := by decide +kernel
theorem dX5_addRole_54 : decode cX5_addRole 54 = .ok (.iconst 1, 1) := by decide +kernel
theorem dX5_addRole_55 : decode cX5_addRole 55 = .ok (.isub, 1) := by decide +kernel
theorem dX5_addRole_56 : decode cX5_addRole 56 = .ok (.ireturn, 1) := by decide +kernel
set_option maxRecDepth 20000 in
theorem ggX5_addPlayer_X2_takesPlayer : GoodIn wsX5_addPlayer wsX2_takesPlayer := goodIn_r _ [9, 10, 58, 59, 60, 61, 62, 63, 64, 65, 66, 67, 68, 69, 70, 71, 72, 73, 74] (by decide +kernel) (by decide +kernel)
set_option maxRecDepth 20000 in
theorem gX5_addPlayer_X2_takesPlayer : GoodIn wsX5_addPlayer (wsV RX5 204 RX2 yX2_takesPlayer wsX2_takesPlayer) := goodIn_app (goodIn_of _ (by decide +kernel)) ggX5_addPlayer_X2_takesPlayer
set_option maxRecDepth 20000 in
theorem ggX5_addPlayer_X1_remember : GoodIn wsX5_addPlayer wsX1_remember := goodIn_r _ [15, 16, 17, 18, 19, 20, 21, 8, 22, 23, 24, 25, 26, 27, 28, 29, 30, 31, 32, 33, 10, 34, 35, 36, 37, 38, 39, 40, 41, 75, 76, 77, 58, 59, 60, 61, 62, 63, 64, 65, 66, 67, 68, 69, 70, 71, 72, 73, 74] (by decide +kernel) (by decide +kernel)
set_option maxRecDepth 20000 in
theorem gX5_addPlayer_X1_remember : GoodIn wsX5_addPlayer (wsV RX5 197 RX1 yX1_remember wsX1_remember) := goodIn_app (goodIn_of _ (by decide +kernel)) ggX5_addPlayer_X1_remember
set_option maxRecDepth 20000 in
theorem ggX5_addPlayer_X2_putPlayer : GoodIn wsX5_addPlayer wsX2_putPlayer := goodIn_r _ [45, 10, 46, 6, 7, 8, 9, 58, 59, 60, 61, 62, 63, 64, 65, 66, 67, 68, 69, 70, 71, 72, 73, 74] (by decide +kernel) (by decide +kernel)
set_option maxRecDepth 20000 in
theorem gX5_addPlayer_X2_putPlayer : GoodIn wsX5_addPlayer (wsV RX5 209 RX2 yX2_putPlayer wsX2_putPlayer) := goodIn_app (goodIn_of _ (by decide +kernel)) ggX5_addPlayer_X2_putPlayer
set_option maxRecDepth 20000 in
theorem ggX5_addPlayer_X2_playerCount : GoodIn wsX5_addPlayer wsX2_playerCount := goodIn_r _ [50, 10, 58, 59, 60, 61, 62, 63, 64, 65, 66, 67, 68, 69, 70, 71, 72, 73, 74] (by decide +kernel) (by decide +kernel)
set_option maxRecDepth 20000 in
theorem gX5_addPlayer_X2_playerCount : GoodIn wsX5_addPlayer (wsV RX5 94 RX2 yX2_playerCount wsX2_playerCount) := goodIn_app (goodIn_of _ (by decide +kernel)) ggX5_addPlayer_X2_playerCount
theorem dX5_addPlayer_0 : decode cX5_addPlayer 0 = .ok (.aload_n 0, 1) := by decide +kernel
theorem dX5_addPlayer_1 : decode cX5_addPlayer 1 = .ok (.getfield 19, 3) := by decide +kernel
theorem dX5_addPlayer_4 : decode cX5_addPlayer 4 = .ok (.invokevirtual 204, 3) := by decide +kernel
