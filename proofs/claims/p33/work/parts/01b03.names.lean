theorem dX5_init_45 : decode cX5_init 45 = .ok (.putfield 33, 3) := by decide +kernel
theorem dX5_init_48 : decode cX5_init 48 = .ok (.aload_n 0, 1) := by decide +kernel
theorem dX5_init_49 : decode cX5_init 49 = .ok (.new 37, 3) := by decide +kernel
theorem dX5_init_52 : decode cX5_init 52 = .ok (.dup, 1) := by decide +kernel
theorem dX5_init_53 : decode cX5_init 53 = .ok (.invokespecial 39, 3) := by decide +kernel
theorem dX5_init_56 : decode cX5_init 56 = .ok (.putfield 40, 3) := by decide +kernel
theorem dX5_init_59 : decode cX5_init 59 = .ok (.aload_n 0, 1) := by decide +kernel
theorem dX5_init_60 : decode cX5_init 60 = .ok (.iconst 2, 1) := by decide +kernel
theorem dX5_init_61 : decode cX5_init 61 = .ok (.anewarray 16, 3) := by decide +kernel
theorem dX5_init_64 : decode cX5_init 64 = .ok (.putfield 44, 3) := by decide +kernel
theorem dX5_init_67 : decode cX5_init 67 = .ok (.iconst 0, 1) := by decide +kernel
theorem dX5_init_68 : decode cX5_init 68 = .ok (.istore_n 1, 1) := by decide +kernel
theorem dX5_init_69 : decode cX5_init 69 = .ok (.iload_n 1, 1) := by decide +kernel
theorem dX5_init_70 : decode cX5_init 70 = .ok (.iconst 2, 1) := by decide +kernel
theorem dX5_init_71 : decode cX5_init 71 = .ok (.if_icmp .ge 22, 3) := by decide +kernel
theorem dX5_init_74 : decode cX5_init 74 = .ok (.aload_n 0, 1) := by decide +kernel
theorem dX5_init_75 : decode cX5_init 75 = .ok (.getfield 44, 3) := by decide +kernel
theorem dX5_init_78 : decode cX5_init 78 = .ok (.iload_n 1, 1) := by decide +kernel
theorem dX5_init_79 : decode cX5_init 79 = .ok (.new 16, 3) := by decide +kernel
theorem dX5_init_82 : decode cX5_init 82 = .ok (.dup, 1) := by decide +kernel
theorem dX5_init_83 : decode cX5_init 83 = .ok (.invokespecial 18, 3) := by decide +kernel
theorem dX5_init_86 : decode cX5_init 86 = .ok (.aastore, 1) := by decide +kernel
theorem dX5_init_87 : decode cX5_init 87 = .ok (.iinc 1 1, 3) := by decide +kernel
theorem dX5_init_90 : decode cX5_init 90 = .ok (.goto (-21), 3) := by decide +kernel
theorem dX5_init_93 : decode cX5_init 93 = .ok (.aload_n 0, 1) := by decide +kernel
theorem dX5_init_94 : decode cX5_init 94 = .ok (.iconst 2, 1) := by decide +kernel
theorem dX5_init_95 : decode cX5_init 95 = .ok (.newarray .boolean, 2) := by decide +kernel
theorem dX5_init_97 : decode cX5_init 97 = .ok (.putfield 48, 3) := by decide +kernel
theorem dX5_init_100 : decode cX5_init 100 = .ok (.return_, 1) := by decide +kernel
set_option maxRecDepth 20000 in
theorem ggX5_about_X2_roleCount : GoodIn wsX5_about wsX2_roleCount := goodIn_r _ [8, 9, 52, 53, 54, 55, 56, 57, 58, 59, 60, 61, 62, 63, 64, 65, 66, 67, 68] (by decide +kernel) (by decide +kernel)
set_option maxRecDepth 20000 in
theorem gX5_about_X2_roleCount : GoodIn wsX5_about (wsV RX5 91 RX2 yX2_roleCount wsX2_roleCount) := goodIn_app (goodIn_of _ (by decide +kernel)) ggX5_about_X2_roleCount
set_option maxRecDepth 20000 in
theorem ggX5_about_X2_playerCount : GoodIn wsX5_about wsX2_playerCount := goodIn_r _ [13, 14, 52, 53, 54, 55, 56, 57, 58, 59, 60, 61, 62, 63, 64, 65, 66, 67, 68] (by decide +kernel) (by decide +kernel)
set_option maxRecDepth 20000 in
theorem gX5_about_X2_playerCount : GoodIn wsX5_about (wsV RX5 94 RX2 yX2_playerCount wsX2_playerCount) := goodIn_app (goodIn_of _ (by decide +kernel)) ggX5_about_X2_playerCount
set_option maxRecDepth 20000 in
theorem ggX5_about_X2_dayNow : GoodIn wsX5_about wsX2_dayNow := goodIn_r _ [18, 19, 52, 53, 54, 55, 56, 57, 58, 59, 60, 61, 62, 63, 64, 65, 66, 67, 68] (by decide +kernel) (by decide +kernel)
set_option maxRecDepth 20000 in
theorem gX5_about_X2_dayNow : GoodIn wsX5_about (wsV RX5 97 RX2 yX2_dayNow wsX2_dayNow) := goodIn_app (goodIn_of _ (by decide +kernel)) ggX5_about_X2_dayNow
set_option maxRecDepth 20000 in
theorem ggX5_about_X2_performedCount : GoodIn wsX5_about wsX2_performedCount := goodIn_r _ [23, 24, 52, 53, 54, 55, 56, 57, 58, 59, 60, 61, 62, 63, 64, 65, 66, 67, 68] (by decide +kernel) (by decide +kernel)
set_option maxRecDepth 20000 in
theorem gX5_about_X2_performedCount : GoodIn wsX5_about (wsV RX5 100 RX2 yX2_performedCount wsX2_performedCount) := goodIn_app (goodIn_of _ (by decide +kernel)) ggX5_about_X2_performedCount
set_option maxRecDepth 20000 in
theorem ggX5_about_X2_calledOffCount : GoodIn wsX5_about wsX2_calledOffCount := goodIn_r _ [28, 29, 52, 53, 54, 55, 56, 57, 58, 59, 60, 61, 62, 63, 64, 65, 66, 67, 68] (by decide +kernel) (by decide +kernel)
set_option maxRecDepth 20000 in
theorem gX5_about_X2_calledOffCount : GoodIn wsX5_about (wsV RX5 103 RX2 yX2_calledOffCount wsX2_calledOffCount) := goodIn_app (goodIn_of _ (by decide +kernel)) ggX5_about_X2_calledOffCount
set_option maxRecDepth 20000 in
theorem ggX5_about_X2_paidTogether : GoodIn wsX5_about wsX2_paidTogether := goodIn_r _ [33, 14, 34, 52, 53, 54, 55, 56, 57, 58, 59, 60, 61, 62, 63, 64, 65, 66, 67, 68] (by decide +kernel) (by decide +kernel)
set_option maxRecDepth 20000 in
theorem gX5_about_X2_paidTogether : GoodIn wsX5_about (wsV RX5 106 RX2 yX2_paidTogether wsX2_paidTogether) := goodIn_app (goodIn_of _ (by decide +kernel)) ggX5_about_X2_paidTogether
set_option maxRecDepth 20000 in
theorem ggX5_about_X2_isPosted : GoodIn wsX5_about wsX2_isPosted := goodIn_r _ [38, 39, 52, 53, 54, 55, 56, 57, 58, 59, 60, 61, 62, 63, 64, 65, 66, 67, 68] (by decide +kernel) (by decide +kernel)
set_option maxRecDepth 20000 in
theorem gX5_about_X2_isPosted : GoodIn wsX5_about (wsV RX5 109 RX2 yX2_isPosted wsX2_isPosted) := goodIn_app (goodIn_of _ (by decide +kernel)) ggX5_about_X2_isPosted
set_option maxRecDepth 20000 in
theorem ggX5_about_X2_standInCount : GoodIn wsX5_about wsX2_standInCount := goodIn_r _ [43, 44, 52, 53, 54, 55, 56, 57, 58, 59, 60, 61, 62, 63, 64, 65, 66, 67, 68] (by decide +kernel) (by decide +kernel)
set_option maxRecDepth 20000 in
theorem gX5_about_X2_standInCount : GoodIn wsX5_about (wsV RX5 112 RX2 yX2_standInCount wsX2_standInCount) := goodIn_app (goodIn_of _ (by decide +kernel)) ggX5_about_X2_standInCount
theorem dX5_about_0 : decode cX5_about 0 = .ok (.iload_n 1, 1) := by decide +kernel
theorem dX5_about_1 : decode cX5_about 1 = .ok (.tableswitch 119 0 7 #[47, 55, 63, 71, 79, 87, 95, 111], 47) := by decide +kernel
theorem dX5_about_48 : decode cX5_about 48 = .ok (.aload_n 0, 1) := by decide +kernel
theorem dX5_about_49 : decode cX5_about 49 = .ok (.getfield 19, 3) := by decide +kernel
theorem dX5_about_52 : decode cX5_about 52 = .ok (.invokevirtual 91, 3) := by decide +kernel
theorem dX5_about_55 : decode cX5_about 55 = .ok (.ireturn, 1) := by decide +kernel
theorem dX5_about_56 : decode cX5_about 56 = .ok (.aload_n 0, 1) := by decide +kernel
theorem dX5_about_57 : decode cX5_about 57 = .ok (.getfield 19, 3) := by decide +kernel
theorem dX5_about_60 : decode cX5_about 60 = .ok (.invokevirtual 94, 3) := by decide +kernel
theorem dX5_about_63 : decode cX5_about 63 = .ok (.ireturn, 1) := by decide +kernel
theorem dX5_about_64 : decode cX5_about 64 = .ok (.aload_n 0, 1) := by decide +kernel
theorem dX5_about_65 : decode cX5_about 65 = .ok (.getfield 19, 3) := by decide +kernel
theorem dX5_about_68 : decode cX5_about 68 = .ok (.invokevirtual 97, 3) := by decide +kernel
theorem dX5_about_71 : decode cX5_about 71 = .ok (.ireturn, 1) := by decide +kernel
theorem dX5_about_72 : decode cX5_about 72 = .ok (.aload_n 0, 1) := by decide +kernel
theorem dX5_about_73 : decode cX5_about 73 = .ok (.getfield 19, 3) := by decide +kernel
theorem dX5_about_76 : decode cX5_about 76 = .ok (.invokevirtual 100, 3) := by decide +kernel
theorem dX5_about_79 : decode cX5_about 79 = .ok (.ireturn, 1) := by decide +kernel
theorem dX5_about_80 : decode cX5_about 80 = .ok (.aload_n 0, 1) := by decide +kernel
theorem dX5_about_81 : decode cX5_about 81 = .ok (.getfield 19, 3) := by decide +kernel
theorem dX5_about_84 : decode cX5_about 84 = .ok (.invokevirtual 103, 3) := by decide +kernel
theorem dX5_about_87 : decode cX5_about 87 = .ok (.ireturn, 1) := by decide +kernel
theorem dX5_about_88 : decode cX5_about 88 = .ok (.aload_n 0, 1) := by decide +kernel
theorem dX5_about_89 : decode cX5_about 89 = .ok (.getfield 19, 3) := by decide +kernel
theorem dX5_about_92 : decode cX5_about 92 = .ok (.invokevirtual 106, 3) := by decide +kernel
theorem dX5_about_95 : decode cX5_about 95 = .ok (.ireturn, 1) := by decide +kernel
theorem dX5_about_96 : decode cX5_about 96 = .ok (.aload_n 0, 1) := by decide +kernel
theorem dX5_about_97 : decode cX5_about 97 = .ok (.getfield 19, 3) := by decide +kernel
theorem dX5_about_100 : decode cX5_about 100 = .ok (.invokevirtual 109, 3) := by decide +kernel
theorem dX5_about_103 : decode cX5_about 103 = .ok (.ifCond .eq 7, 3) := by decide +kernel
theorem dX5_about_106 : decode cX5_about 106 = .ok (.iconst 1, 1) := by decide +kernel
theorem dX5_about_107 : decode cX5_about 107 = .ok (.goto 4, 3) := by decide +kernel
theorem dX5_about_110 : decode cX5_about 110 = .ok (.iconst 0, 1) := by decide +kernel
theorem dX5_about_111 : decode cX5_about 111 = .ok (.ireturn, 1) := by decide +kernel
theorem dX5_about_112 : decode cX5_about 112 = .ok (.aload_n 0, 1) := by decide +kernel
theorem dX5_about_113 : decode cX5_about 113 = .ok (.getfield 19, 3) := by decide +kernel
theorem dX5_about_116 : decode cX5_about 116 = .ok (.invokevirtual 112, 3) := by decide +kernel
theorem dX5_about_119 : decode cX5_about 119 = .ok (.ireturn, 1) := by decide +kernel
theorem dX5_about_120 : decode cX5_about 120 = .ok (.new 115, 3) := by decide +kernel
theorem dX5_about_123 : decode cX5_about 123 = .ok (.dup, 1) := by decide +kernel
theorem dX5_about_124 : decode cX5_about 124 = .ok (.ldc 117, 2) := by decide +kernel
theorem dX5_about_126 : decode cX5_about 126 = .ok (.invokespecial 119, 3) := by decide +kernel
theorem dX5_about_129 : decode cX5_about 129 = .ok (.athrow, 1) := by decide +kernel
set_option maxRecDepth 20000 in
theorem ggX5_role_X5_needRole : GoodIn wsX5_role wsX5_needRole := goodIn_ca (goodIn_r _ [9, 10, 11, 3, 12, 13, 14, 15, 16, 17, 108, 109, 110, 111, 112, 113, 114, 115, 116, 117, 118, 119, 120, 121, 122, 123, 124, 125, 126, 127, 128, 129, 130, 131] (by decide +kernel) (by decide +kernel)) (goodIn_sub (fun _ h => List.mem_cons_of_mem _ (List.mem_append_right _ h)) (by decide +kernel))
set_option maxRecDepth 20000 in
theorem gX5_role_X5_needRole : GoodIn wsX5_role (wsV RX5 120 RX5 yX5_needRole wsX5_needRole) := goodIn_app (goodIn_of _ (by decide +kernel)) ggX5_role_X5_needRole
set_option maxRecDepth 20000 in
theorem ggX5_role_X2_weightOf : GoodIn wsX5_role wsX2_weightOf := goodIn_r _ [21, 22, 115, 116, 117, 118, 119, 120, 121, 122, 123, 124, 125, 126, 127, 128, 129, 130, 131] (by decide +kernel) (by decide +kernel)
set_option maxRecDepth 20000 in
theorem gX5_role_X2_weightOf : GoodIn wsX5_role (wsV RX5 123 RX2 yX2_weightOf wsX2_weightOf) := goodIn_app (goodIn_of _ (by decide +kernel)) ggX5_role_X2_weightOf
set_option maxRecDepth 20000 in
theorem ggX5_role_X2_firstOf : GoodIn wsX5_role wsX2_firstOf := goodIn_r _ [26, 27, 115, 116, 117, 118, 119, 120, 121, 122, 123, 124, 125, 126, 127, 128, 129, 130, 131] (by decide +kernel) (by decide +kernel)
set_option maxRecDepth 20000 in
theorem gX5_role_X2_firstOf : GoodIn wsX5_role (wsV RX5 127 RX2 yX2_firstOf wsX2_firstOf) := goodIn_app (goodIn_of _ (by decide +kernel)) ggX5_role_X2_firstOf
set_option maxRecDepth 20000 in
theorem ggX5_role_X2_freePlayers : GoodIn wsX5_role wsX2_freePlayers := goodIn_r _ [31, 32, 33, 34, 35, 15, 36, 37, 38, 39, 40, 115, 116, 117, 118, 119, 120, 121, 122, 123, 124, 125, 126, 127, 128, 129, 130, 131] (by decide +kernel) (by decide +kernel)
set_option maxRecDepth 20000 in
theorem gX5_role_X2_freePlayers : GoodIn wsX5_role (wsV RX5 130 RX2 yX2_freePlayers wsX2_freePlayers) := goodIn_app (goodIn_of _ (by decide +kernel)) ggX5_role_X2_freePlayers
set_option maxRecDepth 20000 in
theorem ggX5_role_X0_seek : GoodIn wsX5_role wsX0_seek := goodIn_r _ [45, 46, 47, 48, 49, 50, 51, 52, 53, 15, 54, 17, 55, 56, 57, 58, 32, 59, 60, 44, 61, 62, 63, 64, 65, 66, 22, 27, 67, 68, 69, 70, 71, 72, 73, 74, 75, 76, 77, 78, 79, 80, 81, 82, 83, 84, 85, 86, 87, 88, 89, 90, 91, 92, 93, 132, 133, 134, 135, 136, 137, 115, 116, 117, 118, 119, 120, 121, 122, 123, 124, 125, 126, 127, 128, 129, 130, 131] (by decide +kernel) (by decide +kernel)
set_option maxRecDepth 20000 in
theorem gX5_role_X0_seek : GoodIn wsX5_role (wsV RX5 133 RX0 yX0_seek wsX0_seek) := goodIn_app (goodIn_of _ (by decide +kernel)) ggX5_role_X0_seek
set_option maxRecDepth 20000 in
theorem ggX5_role_X0_playerOf : GoodIn wsX5_role wsX0_playerOf := goodIn_r _ [97, 46, 93, 132, 133, 134, 135, 136, 137] (by decide +kernel) (by decide +kernel)
set_option maxRecDepth 20000 in
theorem gX5_role_X0_playerOf : GoodIn wsX5_role (wsV RX5 137 RX0 yX0_playerOf wsX0_playerOf) := goodIn_app (goodIn_of _ (by decide +kernel)) ggX5_role_X0_playerOf
set_option maxRecDepth 20000 in
theorem ggX5_role_X2_postedFor : GoodIn wsX5_role wsX2_postedFor := goodIn_r _ [101, 102, 103, 115, 116, 117, 118, 119, 120, 121, 122, 123, 124, 125, 126, 127, 128, 129, 130, 131] (by decide +kernel) (by decide +kernel)
set_option maxRecDepth 20000 in
theorem gX5_role_X2_postedFor : GoodIn wsX5_role (wsV RX5 140 RX2 yX2_postedFor wsX2_postedFor) := goodIn_app (goodIn_of _ (by decide +kernel)) ggX5_role_X2_postedFor
set_option maxRecDepth 20000 in
theorem ggX5_role_X2_candidateCount : GoodIn wsX5_role wsX2_candidateCount := goodIn_r _ [107, 32, 66, 33, 34, 35, 15, 36, 37, 38, 39, 40, 67, 68, 69, 115, 116, 117, 118, 119, 120, 121, 122, 123, 124, 125, 126, 127, 128, 129, 130, 131] (by decide +kernel) (by decide +kernel)
set_option maxRecDepth 20000 in
theorem gX5_role_X2_candidateCount : GoodIn wsX5_role (wsV RX5 143 RX2 yX2_candidateCount wsX2_candidateCount) := goodIn_app (goodIn_of _ (by decide +kernel)) ggX5_role_X2_candidateCount
theorem dX5_role_0 : decode cX5_role 0 = .ok (.aload_n 0, 1) := by decide +kernel
theorem dX5_role_1 : decode cX5_role 1 = .ok (.iload_n 1, 1) := by decide +kernel
theorem dX5_role_2 : decode cX5_role 2 = .ok (.invokevirtual 120, 3) := by decide +kernel
theorem dX5_role_5 : decode cX5_role 5 = .ok (.iload_n 2, 1) := by decide +kernel
theorem dX5_role_6 : decode cX5_role 6 = .ok (.tableswitch 98 0 4 #[34, 43, 52, 80, 89], 34) := by decide +kernel
theorem dX5_role_40 : decode cX5_role 40 = .ok (.aload_n 0, 1) := by decide +kernel
theorem dX5_role_41 : decode cX5_role 41 = .ok (.getfield 19, 3) := by decide +kernel
theorem dX5_role_44 : decode cX5_role 44 = .ok (.iload_n 1, 1) := by decide +kernel
theorem dX5_role_45 : decode cX5_role 45 = .ok (.invokevirtual 123, 3) := by decide +kernel
theorem dX5_role_48 : decode cX5_role 48 = .ok (.ireturn, 1) := by decide +kernel
theorem dX5_role_49 : decode cX5_role 49 = .ok (.aload_n 0, 1) := by decide +kernel
theorem dX5_role_50 : decode cX5_role 50 = .ok (.getfield 19, 3) := by decide +kernel
theorem dX5_role_53 : decode cX5_role 53 = .ok (.iload_n 1, 1) := by decide +kernel
theorem dX5_role_54 : decode cX5_role 54 = .ok (.invokevirtual 127, 3) := by decide +kernel
theorem dX5_role_57 : decode cX5_role 57 = .ok (.ireturn, 1) := by decide +kernel
theorem dX5_role_58 : decode cX5_role 58 = .ok (.aload_n 0, 1) := by decide +kernel
theorem dX5_role_59 : decode cX5_role 59 = .ok (.getfield 26, 3) := by decide +kernel
theorem dX5_role_62 : decode cX5_role 62 = .ok (.aload_n 0, 1) := by decide +kernel
theorem dX5_role_63 : decode cX5_role 63 = .ok (.getfield 19, 3) := by decide +kernel
theorem dX5_role_66 : decode cX5_role 66 = .ok (.aload_n 0, 1) := by decide +kernel
theorem dX5_role_67 : decode cX5_role 67 = .ok (.getfield 19, 3) := by decide +kernel
theorem dX5_role_70 : decode cX5_role 70 = .ok (.invokevirtual 130, 3) := by decide +kernel
theorem dX5_role_73 : decode cX5_role 73 = .ok (.invokevirtual 133, 3) := by decide +kernel
theorem dX5_role_76 : decode cX5_role 76 = .ok (.pop, 1) := by decide +kernel
theorem dX5_role_77 : decode cX5_role 77 = .ok (.aload_n 0, 1) := by decide +kernel
theorem dX5_role_78 : decode cX5_role 78 = .ok (.getfield 26, 3) := by decide +kernel
theorem dX5_role_81 : decode cX5_role 81 = .ok (.iload_n 1, 1) := by decide +kernel
theorem dX5_role_82 : decode cX5_role 82 = .ok (.invokevirtual 137, 3) := by decide +kernel
theorem dX5_role_85 : decode cX5_role 85 = .ok (.ireturn, 1) := by decide +kernel
theorem dX5_role_86 : decode cX5_role 86 = .ok (.aload_n 0, 1) := by decide +kernel
theorem dX5_role_87 : decode cX5_role 87 = .ok (.getfield 19, 3) := by decide +kernel
theorem dX5_role_90 : decode cX5_role 90 = .ok (.iload_n 1, 1) := by decide +kernel
theorem dX5_role_91 : decode cX5_role 91 = .ok (.invokevirtual 140, 3) := by decide +kernel
theorem dX5_role_94 : decode cX5_role 94 = .ok (.ireturn, 1) := by decide +kernel
theorem dX5_role_95 : decode cX5_role 95 = .ok (.aload_n 0, 1) := by decide +kernel
theorem dX5_role_96 : decode cX5_role 96 = .ok (.getfield 19, 3) := by decide +kernel
theorem dX5_role_99 : decode cX5_role 99 = .ok (.iload_n 1, 1) := by decide +kernel
theorem dX5_role_100 : decode cX5_role 100 = .ok (.invokevirtual 143, 3) := by decide +kernel
theorem dX5_role_103 : decode cX5_role 103 = .ok (.ireturn, 1) := by decide +kernel
theorem dX5_role_104 : decode cX5_role 104 = .ok (.new 115, 3) := by decide +kernel
theorem dX5_role_107 : decode cX5_role 107 = .ok (.dup, 1) := by decide +kernel
theorem dX5_role_108 : decode cX5_role 108 = .ok (.ldc 146, 2) := by decide +kernel
theorem dX5_role_110 : decode cX5_role 110 = .ok (.invokespecial 119, 3) := by decide +kernel
theorem dX5_role_113 : decode cX5_role 113 = .ok (.athrow, 1) := by decide +kernel
set_option maxRecDepth 20000 in
theorem ggX5_player_X5_needPlayer : GoodIn wsX5_player wsX5_needPlayer := goodIn_ca (goodIn_r _ [9, 10, 11, 3, 12, 13, 14, 15, 16, 17, 110, 111, 112, 113, 114, 115, 116, 117, 118, 119, 120, 121, 122, 123, 124, 125, 126, 127, 128, 129, 130, 131, 132, 133] (by decide +kernel) (by decide +kernel)) (goodIn_sub (fun _ h => List.mem_cons_of_mem _ (List.mem_append_right _ h)) (by decide +kernel))
set_option maxRecDepth 20000 in
theorem gX5_player_X5_needPlayer : GoodIn wsX5_player (wsV RX5 148 RX5 yX5_needPlayer wsX5_needPlayer) := goodIn_app (goodIn_of _ (by decide +kernel)) ggX5_player_X5_needPlayer
set_option maxRecDepth 20000 in
theorem ggX5_player_X2_payOf : GoodIn wsX5_player wsX2_payOf := goodIn_r _ [21, 22, 117, 118, 119, 120, 121, 122, 123, 124, 125, 126, 127, 128, 129, 130, 131, 132, 133] (by decide +kernel) (by decide +kernel)
set_option maxRecDepth 20000 in
theorem gX5_player_X2_payOf : GoodIn wsX5_player (wsV RX5 151 RX2 yX2_payOf wsX2_payOf) := goodIn_app (goodIn_of _ (by decide +kernel)) ggX5_player_X2_payOf
set_option maxRecDepth 20000 in
theorem ggX5_player_X2_rowOf : GoodIn wsX5_player wsX2_rowOf := goodIn_r _ [26, 27, 117, 118, 119, 120, 121, 122, 123, 124, 125, 126, 127, 128, 129, 130, 131, 132, 133] (by decide +kernel) (by decide +kernel)
set_option maxRecDepth 20000 in
theorem gX5_player_X2_rowOf : GoodIn wsX5_player (wsV RX5 154 RX2 yX2_rowOf wsX2_rowOf) := goodIn_app (goodIn_of _ (by decide +kernel)) ggX5_player_X2_rowOf
set_option maxRecDepth 20000 in
theorem ggX5_player_X2_daysStillAway : GoodIn wsX5_player wsX2_daysStillAway := goodIn_r _ [31, 32, 33, 34, 35, 36, 37, 117, 118, 119, 120, 121, 122, 123, 124, 125, 126, 127, 128, 129, 130, 131, 132, 133] (by decide +kernel) (by decide +kernel)
set_option maxRecDepth 20000 in
theorem gX5_player_X2_daysStillAway : GoodIn wsX5_player (wsV RX5 157 RX2 yX2_daysStillAway wsX2_daysStillAway) := goodIn_app (goodIn_of _ (by decide +kernel)) ggX5_player_X2_daysStillAway
set_option maxRecDepth 20000 in
theorem ggX5_player_X2_isFree : GoodIn wsX5_player wsX2_isFree := goodIn_r _ [41, 32, 33, 27, 42, 117, 118, 119, 120, 121, 122, 123, 124, 125, 126, 127, 128, 129, 130, 131, 132, 133] (by decide +kernel) (by decide +kernel)
set_option maxRecDepth 20000 in
theorem gX5_player_X2_isFree : GoodIn wsX5_player (wsV RX5 160 RX2 yX2_isFree wsX2_isFree) := goodIn_app (goodIn_of _ (by decide +kernel)) ggX5_player_X2_isFree
set_option maxRecDepth 20000 in
theorem ggX5_player_X2_showsOf : GoodIn wsX5_player wsX2_showsOf := goodIn_r _ [46, 47, 117, 118, 119, 120, 121, 122, 123, 124, 125, 126, 127, 128, 129, 130, 131, 132, 133] (by decide +kernel) (by decide +kernel)
set_option maxRecDepth 20000 in
theorem gX5_player_X2_showsOf : GoodIn wsX5_player (wsV RX5 164 RX2 yX2_showsOf wsX2_showsOf) := goodIn_app (goodIn_of _ (by decide +kernel)) ggX5_player_X2_showsOf
set_option maxRecDepth 20000 in
theorem ggX5_player_X2_freePlayers : GoodIn wsX5_player wsX2_freePlayers := goodIn_r _ [51, 17, 52, 39, 40, 15, 41, 32, 33, 27, 42, 117, 118, 119, 120, 121, 122, 123, 124, 125, 126, 127, 128, 129, 130, 131, 132, 133] (by decide +kernel) (by decide +kernel)
set_option maxRecDepth 20000 in
theorem gX5_player_X2_freePlayers : GoodIn wsX5_player (wsV RX5 130 RX2 yX2_freePlayers wsX2_freePlayers) := goodIn_app (goodIn_of _ (by decide +kernel)) ggX5_player_X2_freePlayers
set_option maxRecDepth 20000 in
theorem ggX5_player_X0_seek : GoodIn wsX5_player wsX0_seek := goodIn_r _ [57, 58, 59, 60, 61, 62, 63, 64, 65, 15, 66, 67, 68, 69, 70, 71, 17, 72, 73, 56, 74, 75, 76, 77, 78, 79, 80, 81, 82, 83, 84, 85, 86, 87, 88, 89, 90, 91, 92, 93, 94, 95, 96, 35, 36, 37, 97, 98, 99, 100, 101, 102, 103, 104, 105, 134, 135, 136, 137, 138, 139, 117, 118, 119, 120, 121, 122, 123, 124, 125, 126, 127, 128, 129, 130, 131, 132, 133] (by decide +kernel) (by decide +kernel)
set_option maxRecDepth 20000 in
theorem gX5_player_X0_seek : GoodIn wsX5_player (wsV RX5 133 RX0 yX0_seek wsX0_seek) := goodIn_app (goodIn_of _ (by decide +kernel)) ggX5_player_X0_seek
set_option maxRecDepth 20000 in
theorem ggX5_player_X0_roleOf : GoodIn wsX5_player wsX0_roleOf := goodIn_r _ [109, 58, 105, 134, 135, 136, 137, 138, 139] (by decide +kernel) (by decide +kernel)
set_option maxRecDepth 20000 in
theorem gX5_player_X0_roleOf : GoodIn wsX5_player (wsV RX5 167 RX0 yX0_roleOf wsX0_roleOf) := goodIn_app (goodIn_of _ (by decide +kernel)) ggX5_player_X0_roleOf
theorem dX5_player_0 : decode cX5_player 0 = .ok (.aload_n 0, 1) := by decide +kernel
theorem dX5_player_1 : decode cX5_player 1 = .ok (.iload_n 1, 1) := by decide +kernel
theorem dX5_player_2 : decode cX5_player 2 = .ok (.invokevirtual 148, 3) := by decide +kernel
theorem dX5_player_5 : decode cX5_player 5 = .ok (.iload_n 2, 1) := by decide +kernel
theorem dX5_player_6 : decode cX5_player 6 = .ok (.tableswitch 119 0 5 #[38, 47, 56, 65, 82, 91], 38) := by decide +kernel
theorem dX5_player_44 : decode cX5_player 44 = .ok (.aload_n 0, 1) := by decide +kernel
theorem dX5_player_45 : decode cX5_player 45 = .ok (.getfield 19, 3) := by decide +kernel
theorem dX5_player_48 : decode cX5_player 48 = .ok (.iload_n 1, 1) := by decide +kernel
theorem dX5_player_49 : decode cX5_player 49 = .ok (.invokevirtual 151, 3) := by decide +kernel
theorem dX5_player_52 : decode cX5_player 52 = .ok (.ireturn, 1) := by decide +kernel
theorem dX5_player_53 : decode cX5_player 53 = .ok (.aload_n 0, 1) := by decide +kernel
theorem dX5_player_54 : decode cX5_player 54 = .ok (.getfield 19, 3) := by decide +kernel
theorem dX5_player_57 : decode cX5_player 57 = .ok (.iload_n 1, 1) := by decide +kernel
theorem dX5_player_58 : decode cX5_player 58 = .ok (.invokevirtual 154, 3) := by decide +kernel
theorem dX5_player_61 : decode cX5_player 61 = .ok (.ireturn, 1) := by decide +kernel
theorem dX5_player_62 : decode cX5_player 62 = .ok (.aload_n 0, 1) := by decide +kernel
theorem dX5_player_63 : decode cX5_player 63 = .ok (.getfield 19, 3) := by decide +kernel
theorem dX5_player_66 : decode cX5_player 66 = .ok (.iload_n 1, 1) := by decide +kernel
theorem dX5_player_67 : decode cX5_player 67 = .ok (.invokevirtual 157, 3) := by decide +kernel
theorem dX5_player_70 : decode cX5_player 70 = .ok (.ireturn, 1) := by decide +kernel
theorem dX5_player_71 : decode cX5_player 71 = .ok (.aload_n 0, 1) := by decide +kernel
theorem dX5_player_72 : decode cX5_player 72 = .ok (.getfield 19, 3) := by decide +kernel
theorem dX5_player_75 : decode cX5_player 75 = .ok (.iload_n 1, 1) := by decide +kernel
theorem dX5_player_76 : decode cX5_player 76 = .ok (.invokevirtual 160, 3) := by decide +kernel
theorem dX5_player_79 : decode cX5_player 79 = .ok (.ifCond .eq 7, 3) := by decide +kernel
theorem dX5_player_82 : decode cX5_player 82 = .ok (.iconst 1, 1) := by decide +kernel
theorem dX5_player_83 : decode cX5_player 83 = .ok (.goto 4, 3) := by decide +kernel
theorem dX5_player_86 : decode cX5_player 86 = .ok (.iconst 0, 1) := by decide +kernel
theorem dX5_player_87 : decode cX5_player 87 = .ok (.ireturn, 1) := by decide +kernel
theorem dX5_player_88 : decode cX5_player 88 = .ok (.aload_n 0, 1) := by decide +kernel
theorem dX5_player_89 : decode cX5_player 89 = .ok (.getfield 19, 3) := by decide +kernel
theorem dX5_player_92 : decode cX5_player 92 = .ok (.iload_n 1, 1) := by decide +kernel
theorem dX5_player_93 : decode cX5_player 93 = .ok (.invokevirtual 164, 3) := by decide +kernel
theorem dX5_player_96 : decode cX5_player 96 = .ok (.ireturn, 1) := by decide +kernel
theorem dX5_player_97 : decode cX5_player 97 = .ok (.aload_n 0, 1) := by decide +kernel
theorem dX5_player_98 : decode cX5_player 98 = .ok (.getfield 26, 3) := by decide +kernel
theorem dX5_player_101 : decode cX5_player 101 = .ok (.aload_n 0, 1) := by decide +kernel
theorem dX5_player_102 : decode cX5_player 102 = .ok (.getfield 19, 3) := by decide +kernel
theorem dX5_player_105 : decode cX5_player 105 = .ok (.aload_n 0, 1) := by decide +kernel
theorem dX5_player_106 : decode cX5_player 106 = .ok (.getfield 19, 3) := by decide +kernel
theorem dX5_player_109 : decode cX5_player 109 = .ok (.invokevirtual 130, 3) := by decide +kernel
theorem dX5_player_112 : decode cX5_player 112 = .ok (.invokevirtual 133, 3) := by decide +kernel
theorem dX5_player_115 : decode cX5_player 115 = .ok (.pop, 1) := by decide +kernel
theorem dX5_player_116 : decode cX5_player 116 = .ok (.aload_n 0, 1) := by decide +kernel
theorem dX5_player_117 : decode cX5_player 117 = .ok (.getfield 26, 3) := by decide +kernel
theorem dX5_player_120 : decode cX5_player 120 = .ok (.iload_n 1, 1) := by decide +kernel
theorem dX5_player_121 : decode cX5_player 121 = .ok (.invokevirtual 167, 3) := by decide +kernel
theorem dX5_player_124 : decode cX5_player 124 = .ok (.ireturn, 1) := by decide +kernel
theorem dX5_player_125 : decode cX5_player 125 = .ok (.new 115, 3) := by decide +kernel
theorem dX5_player_128 : decode cX5_player 128 = .ok (.dup, 1) := by decide +kernel
theorem dX5_player_129 : decode cX5_player 129 = .ok (.ldc 170, 2) := by decide +kernel
theorem dX5_player_131 : decode cX5_player 131 = .ok (.invokespecial 119, 3) := by decide +kernel
theorem dX5_player_134 : decode cX5_player 134 = .ok (.athrow, 1) := by decide +kernel
set_option maxRecDepth 20000 in
theorem ggX5_both_X5_needPlayer : GoodIn wsX5_both wsX5_needPlayer := goodIn_ca (goodIn_r _ [8, 9, 10, 3, 11, 12, 13, 14, 15, 16, 45, 46, 47, 48, 49, 50, 51, 52, 53, 54, 55, 56, 57, 58, 59, 60, 61, 62, 63, 64, 65, 66, 67, 68] (by decide +kernel) (by decide +kernel)) (goodIn_sub (fun _ h => List.mem_cons_of_mem _ (List.mem_append_right _ h)) (by decide +kernel))
set_option maxRecDepth 20000 in
theorem gX5_both_X5_needPlayer : GoodIn wsX5_both (wsV RX5 148 RX5 yX5_needPlayer wsX5_needPlayer) := goodIn_app (goodIn_of _ (by decide +kernel)) ggX5_both_X5_needPlayer
set_option maxRecDepth 20000 in
theorem ggX5_both_X5_needRole : GoodIn wsX5_both wsX5_needRole := goodIn_ca (goodIn_r _ [20, 9, 10, 3, 21, 22, 23, 14, 24, 25, 45, 46, 47, 48, 49, 50, 51, 52, 53, 54, 55, 56, 57, 58, 59, 60, 61, 62, 63, 64, 65, 66, 67, 68] (by decide +kernel) (by decide +kernel)) (goodIn_sub (fun _ h => List.mem_cons_of_mem _ (List.mem_append_right _ h)) (by decide +kernel))
set_option maxRecDepth 20000 in
theorem gX5_both_X5_needRole : GoodIn wsX5_both (wsV RX5 120 RX5 yX5_needRole wsX5_needRole) := goodIn_app (goodIn_of _ (by decide +kernel)) ggX5_both_X5_needRole
set_option maxRecDepth 20000 in
theorem ggX5_both_X2_degreeOf : GoodIn wsX5_both wsX2_degreeOf := goodIn_r _ [29, 30, 31, 32, 14, 33, 52, 53, 54, 55, 56, 57, 58, 59, 60, 61, 62, 63, 64, 65, 66, 67, 68] (by decide +kernel) (by decide +kernel)
set_option maxRecDepth 20000 in
theorem gX5_both_X2_degreeOf : GoodIn wsX5_both (wsV RX5 172 RX2 yX2_degreeOf wsX2_degreeOf) := goodIn_app (goodIn_of _ (by decide +kernel)) ggX5_both_X2_degreeOf
set_option maxRecDepth 20000 in
theorem ggX5_both_X2_timesOf : GoodIn wsX5_both wsX2_timesOf := goodIn_r _ [37, 38, 31, 32, 14, 33, 52, 53, 54, 55, 56, 57, 58, 59, 60, 61, 62, 63, 64, 65, 66, 67, 68] (by decide +kernel) (by decide +kernel)
set_option maxRecDepth 20000 in
theorem gX5_both_X2_timesOf : GoodIn wsX5_both (wsV RX5 176 RX2 yX2_timesOf wsX2_timesOf) := goodIn_app (goodIn_of _ (by decide +kernel)) ggX5_both_X2_timesOf
set_option maxRecDepth 20000 in
theorem ggX5_both_X2_worthOf : GoodIn wsX5_both wsX2_worthOf := goodIn_r _ [42, 30, 43, 44, 31, 32, 14, 33, 52, 53, 54, 55, 56, 57, 58, 59, 60, 61, 62, 63, 64, 65, 66, 67, 68] (by decide +kernel) (by decide +kernel)
set_option maxRecDepth 20000 in
theorem gX5_both_X2_worthOf : GoodIn wsX5_both (wsV RX5 179 RX2 yX2_worthOf wsX2_worthOf) := goodIn_app (goodIn_of _ (by decide +kernel)) ggX5_both_X2_worthOf
theorem dX5_both_0 : decode cX5_both 0 = .ok (.aload_n 0, 1) := by decide +kernel
theorem dX5_both_1 : decode cX5_both 1 = .ok (.iload_n 1, 1) := by decide +kernel
theorem dX5_both_2 : decode cX5_both 2 = .ok (.invokevirtual 148, 3) := by decide +kernel
theorem dX5_both_5 : decode cX5_both 5 = .ok (.aload_n 0, 1) := by decide +kernel
theorem dX5_both_6 : decode cX5_both 6 = .ok (.iload_n 2, 1) := by decide +kernel
theorem dX5_both_7 : decode cX5_both 7 = .ok (.invokevirtual 120, 3) := by decide +kernel
theorem dX5_both_10 : decode cX5_both 10 = .ok (.iload_n 3, 1) := by decide +kernel
theorem dX5_both_11 : decode cX5_both 11 = .ok (.tableswitch 55 0 2 #[25, 35, 45], 25) := by decide +kernel
theorem dX5_both_36 : decode cX5_both 36 = .ok (.aload_n 0, 1) := by decide +kernel
theorem dX5_both_37 : decode cX5_both 37 = .ok (.getfield 19, 3) := by decide +kernel
theorem dX5_both_40 : decode cX5_both 40 = .ok (.iload_n 1, 1) := by decide +kernel
theorem dX5_both_41 : decode cX5_both 41 = .ok (.iload_n 2, 1) := by decide +kernel
theorem dX5_both_42 : decode cX5_both 42 = .ok (.invokevirtual 172, 3) := by decide +kernel
theorem dX5_both_45 : decode cX5_both 45 = .ok (.ireturn, 1) := by decide +kernel
theorem dX5_both_46 : decode cX5_both 46 = .ok (.aload_n 0, 1) := by decide +kernel
theorem dX5_both_47 : decode cX5_both 47 = .ok (.getfield 19, 3) := by decide +kernel
theorem dX5_both_50 : decode cX5_both 50 = .ok (.iload_n 1, 1) := by decide +kernel
theorem dX5_both_51 : decode cX5_both 51 = .ok (.iload_n 2, 1) := by decide +kernel
theorem dX5_both_52 : decode cX5_both 52 = .ok (.invokevirtual 176, 3) := by decide +kernel
theorem dX5_both_55 : decode cX5_both 55 = .ok (.ireturn, 1) := by decide +kernel
theorem dX5_both_56 : decode cX5_both 56 = .ok (.aload_n 0, 1) := by decide +kernel
theorem dX5_both_57 : decode cX5_both 57 = .ok (.getfield 19, 3) := by decide +kernel
theorem dX5_both_60 : decode cX5_both 60 = .ok (.iload_n 1, 1) := by decide +kernel
theorem dX5_both_61 : decode cX5_both 61 = .ok (.iload_n 2, 1) := by decide +kernel
theorem dX5_both_62 : decode cX5_both 62 = .ok (.invokevirtual 179, 3) := by decide +kernel
theorem dX5_both_65 : decode cX5_both 65 = .ok (.ireturn, 1) := by decide +kernel
theorem dX5_both_66 : decode cX5_both 66 = .ok (.new 115, 3) := by decide +kernel
theorem dX5_both_69 : decode cX5_both 69 = .ok (.dup, 1) := by decide +kernel
theorem dX5_both_70 : decode cX5_both 70 = .ok (.ldc 182, 2) := by decide +kernel
theorem dX5_both_72 : decode cX5_both 72 = .ok (.invokespecial 119, 3) := by decide +kernel
theorem dX5_both_75 : decode cX5_both 75 = .ok (.athrow, 1) := by decide +kernel
set_option maxRecDepth 20000 in
theorem ggX5_ranked_X2_playerAtPlace : GoodIn wsX5_ranked wsX2_playerAtPlace := goodIn_r _ [8, 9, 10, 11, 12, 7, 13, 14, 22, 23, 24, 25, 26, 27, 28, 29, 30, 31, 32, 33, 34, 35, 36, 37, 38] (by decide +kernel) (by decide +kernel)
set_option maxRecDepth 20000 in
theorem gX5_ranked_X2_playerAtPlace : GoodIn wsX5_ranked (wsV RX5 189 RX2 yX2_playerAtPlace wsX2_playerAtPlace) := goodIn_app (goodIn_of _ (by decide +kernel)) ggX5_ranked_X2_playerAtPlace
theorem dX5_ranked_0 : decode cX5_ranked 0 = .ok (.iload_n 1, 1) := by decide +kernel
theorem dX5_ranked_1 : decode cX5_ranked 1 = .ok (.ifCond .ge 13, 3) := by decide +kernel
theorem dX5_ranked_4 : decode cX5_ranked 4 = .ok (.new 115, 3) := by decide +kernel
theorem dX5_ranked_7 : decode cX5_ranked 7 = .ok (.dup, 1) := by decide +kernel
theorem dX5_ranked_8 : decode cX5_ranked 8 = .ok (.ldc 187, 2) := by decide +kernel
theorem dX5_ranked_10 : decode cX5_ranked 10 = .ok (.invokespecial 119, 3) := by decide +kernel
theorem dX5_ranked_13 : decode cX5_ranked 13 = .ok (.athrow, 1) := by decide +kernel
theorem dX5_ranked_14 : decode cX5_ranked 14 = .ok (.aload_n 0, 1) := by decide +kernel
theorem dX5_ranked_15 : decode cX5_ranked 15 = .ok (.getfield 19, 3) := by decide +kernel
theorem dX5_ranked_18 : decode cX5_ranked 18 = .ok (.iload_n 1, 1) := by decide +kernel
theorem dX5_ranked_19 : decode cX5_ranked 19 = .ok (.invokevirtual 189, 3) := by decide +kernel
theorem dX5_ranked_22 : decode cX5_ranked 22 = .ok (.ireturn, 1) := by decide +kernel
set_option maxRecDepth 20000 in
theorem ggX5_addRole_X5_needRange : GoodIn wsX5_addRole wsX5_needRange := goodIn_ca (goodIn_r _ [8, 9, 10] (by decide +kernel) (by decide +kernel)) (goodIn_sub (fun _ h => List.mem_cons_of_mem _ (List.mem_append_right _ h)) (by decide +kernel))
set_option maxRecDepth 20000 in
theorem gX5_addRole_X5_needRange : GoodIn wsX5_addRole (va_wsS RX5 52 yX5_needRange wsX5_needRange) := goodIn_app (goodIn_of _ (by decide +kernel)) ggX5_addRole_X5_needRange
set_option maxRecDepth 20000 in
theorem ggX5_addRole_X2_takesRole : GoodIn wsX5_addRole wsX2_takesRole := goodIn_r _ [15, 16, 17, 64, 65, 66, 67, 68, 69, 70, 71, 72, 73, 74, 75, 76, 77, 78, 79, 80] (by decide +kernel) (by decide +kernel)
set_option maxRecDepth 20000 in
theorem gX5_addRole_X2_takesRole : GoodIn wsX5_addRole (wsV RX5 192 RX2 yX2_takesRole wsX2_takesRole) := goodIn_app (goodIn_of _ (by decide +kernel)) ggX5_addRole_X2_takesRole
set_option maxRecDepth 20000 in
theorem ggX5_addRole_X1_remember : GoodIn wsX5_addRole wsX1_remember := goodIn_r _ [22, 23, 24, 25, 26, 27, 28, 14, 29, 30, 31, 32, 33, 34, 35, 36, 37, 38, 39, 16, 40, 41, 42, 43, 44, 17, 45, 46, 47, 81, 82, 83, 64, 65, 66, 67, 68, 69, 70, 71, 72, 73, 74, 75, 76, 77, 78, 79, 80] (by decide +kernel) (by decide +kernel)
set_option maxRecDepth 20000 in
theorem gX5_addRole_X1_remember : GoodIn wsX5_addRole (wsV RX5 197 RX1 yX1_remember wsX1_remember) := goodIn_app (goodIn_of _ (by decide +kernel)) ggX5_addRole_X1_remember
set_option maxRecDepth 20000 in
theorem ggX5_addRole_X2_putRole : GoodIn wsX5_addRole wsX2_putRole := goodIn_r _ [51, 30, 16, 52, 12, 13, 14, 15, 17, 64, 65, 66, 67, 68, 69, 70, 71, 72, 73, 74, 75, 76, 77, 78, 79, 80] (by decide +kernel) (by decide +kernel)
set_option maxRecDepth 20000 in
theorem gX5_addRole_X2_putRole : GoodIn wsX5_addRole (wsV RX5 201 RX2 yX2_putRole wsX2_putRole) := goodIn_app (goodIn_of _ (by decide +kernel)) ggX5_addRole_X2_putRole
set_option maxRecDepth 20000 in
theorem ggX5_addRole_X2_roleCount : GoodIn wsX5_addRole wsX2_roleCount := goodIn_r _ [56, 16, 64, 65, 66, 67, 68, 69, 70, 71, 72, 73, 74, 75, 76, 77, 78, 79, 80] (by decide +kernel) (by decide +kernel)
set_option maxRecDepth 20000 in
theorem gX5_addRole_X2_roleCount : GoodIn wsX5_addRole (wsV RX5 91 RX2 yX2_roleCount wsX2_roleCount) := goodIn_app (goodIn_of _ (by decide +kernel)) ggX5_addRole_X2_roleCount
theorem dX5_addRole_0 : decode cX5_addRole 0 = .ok (.iload_n 1, 1) := by decide +kernel
theorem dX5_addRole_1 : decode cX5_addRole 1 = .ok (.iconst 1, 1) := by decide +kernel
theorem dX5_addRole_2 : decode cX5_addRole 2 = .ok (.bipush 9, 2) := by decide +kernel
theorem dX5_addRole_4 : decode cX5_addRole 4 = .ok (.invokestatic 52, 3) := by decide +kernel
theorem dX5_addRole_7 : decode cX5_addRole 7 = .ok (.aload_n 0, 1) := by decide +kernel
theorem dX5_addRole_8 : decode cX5_addRole 8 = .ok (.getfield 19, 3) := by decide +kernel
theorem dX5_addRole_11 : decode cX5_addRole 11 = .ok (.invokevirtual 192, 3) := by decide +kernel
theorem dX5_addRole_14 : decode cX5_addRole 14 = .ok (.ifCond .ne 13, 3) := by decide +kernel
theorem dX5_addRole_17 : decode cX5_addRole 17 = .ok (.new 60, 3) := by decide +kernel
theorem dX5_addRole_20 : decode cX5_addRole 20 = .ok (.dup, 1) := by decide +kernel
theorem dX5_addRole_21 : decode cX5_addRole 21 = .ok (.ldc 195, 2) := by decide +kernel
theorem dX5_addRole_23 : decode cX5_addRole 23 = .ok (.invokespecial 64, 3) := by decide +kernel
theorem dX5_addRole_26 : decode cX5_addRole 26 = .ok (.athrow, 1) := by decide +kernel
theorem dX5_addRole_27 : decode cX5_addRole 27 = .ok (.aload_n 0, 1) := by decide +kernel
theorem dX5_addRole_28 : decode cX5_addRole 28 = .ok (.getfield 40, 3) := by decide +kernel
theorem dX5_addRole_31 : decode cX5_addRole 31 = .ok (.aload_n 0, 1) := by decide +kernel
theorem dX5_addRole_32 : decode cX5_addRole 32 = .ok (.getfield 19, 3) := by decide +kernel
theorem dX5_addRole_35 : decode cX5_addRole 35 = .ok (.invokevirtual 197, 3) := by decide +kernel
theorem dX5_addRole_38 : decode cX5_addRole 38 = .ok (.aload_n 0, 1) := by decide +kernel
theorem dX5_addRole_39 : decode cX5_addRole 39 = .ok (.getfield 19, 3) := by decide +kernel
theorem dX5_addRole_42 : decode cX5_addRole 42 = .ok (.iload_n 1, 1) := by decide +kernel
theorem dX5_addRole_43 : decode cX5_addRole 43 = .ok (.invokevirtual 201, 3) := by decide +kernel
theorem dX5_addRole_46 : decode cX5_addRole 46 = .ok (.pop, 1) := by decide +kernel
theorem dX5_addRole_47 : decode cX5_addRole 47 = .ok (.aload_n 0, 1) := by decide +kernel
theorem dX5_addRole_48 : decode cX5_addRole 48 = .ok (.getfield 19, 3) := by decide +kernel
theorem dX5_addRole_51 : decode cX5_addRole 51 = .ok (.invokevirtual 91, 3) := by decide +kernel
theorem dX5_addRole_54 : decode cX5_addRole 54 = .ok (.iconst 1, 1) := by decide +kernel
theorem dX5_addRole_55 : decode cX5_addRole 55 = .ok (.isub, 1) := by decide +kernel
theorem dX5_addRole_56 : decode cX5_addRole 56 = .ok (.ireturn, 1) := by decide +kernel
set_option maxRecDepth 20000 in
theorem ggX5_addPlayer_X2_takesPlayer : GoodIn wsX5_addPlayer wsX2_takesPlayer := goodIn_r _ [9, 10, 58, 59, 60, 61, 62, 63, 64, 65, 66, 67, 68, 69, 70, 71, 72, 73, 74] (by decide +kernel) (by decide +kernel)
set_option maxRecDepth 20000 in
theorem gX5_addPlayer_X2_takesPlayer : GoodIn wsX5_addPlayer (wsV RX5 204 RX2 yX2_takesPlayer wsX2_takesPlayer) := goodIn_app (goodIn_of _ (by decide +kernel)) ggX5_addPlayer_X2_takesPlayer
set_option maxRecDepth 20000 in
theorem ggX5_addPlayer_X1_remember : GoodIn wsX5_addPlayer wsX1_remember := goodIn_r _ [15, 16, 17, 18, 19, 20, 21, 8, 22, 23, 24, 25, 26, 27, 28, 29, 30, 31, 32, 33, 10, 34, 35, 36, 37, 38, 39, 40, 41, 75, 76, 77, 58, 59, 60, 61, 62, 63, 64, 65, 66, 67, 68, 69, 70, 71, 72, 73, 74] (by decide +kernel) (by decide +kernel)
set_option maxRecDepth 20000 in
theorem gX5_addPlayer_X1_remember : GoodIn wsX5_addPlayer (wsV RX5 197 RX1 yX1_remember wsX1_remember) := goodIn_app (goodIn_of _ (by decide +kernel)) ggX5_addPlayer_X1_remember
set_option maxRecDepth 20000 in
theorem ggX5_addPlayer_X2_putPlayer : GoodIn wsX5_addPlayer wsX2_putPlayer := goodIn_r _ [45, 10, 46, 6, 7, 8, 9, 58, 59, 60, 61, 62, 63, 64, 65, 66, 67, 68, 69, 70, 71, 72, 73, 74] (by decide +kernel) (by decide +kernel)
set_option maxRecDepth 20000 in
theorem gX5_addPlayer_X2_putPlayer : GoodIn wsX5_addPlayer (wsV RX5 209 RX2 yX2_putPlayer wsX2_putPlayer) := goodIn_app (goodIn_of _ (by decide +kernel)) ggX5_addPlayer_X2_putPlayer
set_option maxRecDepth 20000 in
theorem ggX5_addPlayer_X2_playerCount : GoodIn wsX5_addPlayer wsX2_playerCount := goodIn_r _ [50, 10, 58, 59, 60, 61, 62, 63, 64, 65, 66, 67, 68, 69, 70, 71, 72, 73, 74] (by decide +kernel) (by decide +kernel)
set_option maxRecDepth 20000 in
theorem gX5_addPlayer_X2_playerCount : GoodIn wsX5_addPlayer (wsV RX5 94 RX2 yX2_playerCount wsX2_playerCount) := goodIn_app (goodIn_of _ (by decide +kernel)) ggX5_addPlayer_X2_playerCount
theorem dX5_addPlayer_0 : decode cX5_addPlayer 0 = .ok (.aload_n 0, 1) := by decide +kernel
theorem dX5_addPlayer_1 : decode cX5_addPlayer 1 = .ok (.getfield 19, 3) := by decide +kernel
theorem dX5_addPlayer_4 : decode cX5_addPlayer 4 = .ok (.invokevirtual 204, 3) := by decide +kernel
theorem dX5_addPlayer_7 : decode cX5_addPlayer 7 = .ok (.ifCond .ne 13, 3) := by decide +kernel
theorem dX5_addPlayer_10 : decode cX5_addPlayer 10 = .ok (.new 60, 3) := by decide +kernel
theorem dX5_addPlayer_13 : decode cX5_addPlayer 13 = .ok (.dup, 1) := by decide +kernel
theorem dX5_addPlayer_14 : decode cX5_addPlayer 14 = .ok (.ldc 207, 2) := by decide +kernel
theorem dX5_addPlayer_16 : decode cX5_addPlayer 16 = .ok (.invokespecial 64, 3) := by decide +kernel
theorem dX5_addPlayer_19 : decode cX5_addPlayer 19 = .ok (.athrow, 1) := by decide +kernel
theorem dX5_addPlayer_20 : decode cX5_addPlayer 20 = .ok (.aload_n 0, 1) := by decide +kernel
theorem dX5_addPlayer_21 : decode cX5_addPlayer 21 = .ok (.getfield 40, 3) := by decide +kernel
theorem dX5_addPlayer_24 : decode cX5_addPlayer 24 = .ok (.aload_n 0, 1) := by decide +kernel
theorem dX5_addPlayer_25 : decode cX5_addPlayer 25 = .ok (.getfield 19, 3) := by decide +kernel
theorem dX5_addPlayer_28 : decode cX5_addPlayer 28 = .ok (.invokevirtual 197, 3) := by decide +kernel
theorem dX5_addPlayer_31 : decode cX5_addPlayer 31 = .ok (.aload_n 0, 1) := by decide +kernel
theorem dX5_addPlayer_32 : decode cX5_addPlayer 32 = .ok (.getfield 19, 3) := by decide +kernel
theorem dX5_addPlayer_35 : decode cX5_addPlayer 35 = .ok (.invokevirtual 209, 3) := by decide +kernel
theorem dX5_addPlayer_38 : decode cX5_addPlayer 38 = .ok (.pop, 1) := by decide +kernel
theorem dX5_addPlayer_39 : decode cX5_addPlayer 39 = .ok (.aload_n 0, 1) := by decide +kernel
theorem dX5_addPlayer_40 : decode cX5_addPlayer 40 = .ok (.getfield 19, 3) := by decide +kernel
theorem dX5_addPlayer_43 : decode cX5_addPlayer 43 = .ok (.invokevirtual 94, 3) := by decide +kernel
theorem dX5_addPlayer_46 : decode cX5_addPlayer 46 = .ok (.iconst 1, 1) := by decide +kernel
theorem dX5_addPlayer_47 : decode cX5_addPlayer 47 = .ok (.isub, 1) := by decide +kernel
theorem dX5_addPlayer_48 : decode cX5_addPlayer 48 = .ok (.ireturn, 1) := by decide +kernel
set_option maxRecDepth 20000 in
theorem ggX5_ready_X5_needPlayer : GoodIn wsX5_ready wsX5_needPlayer := goodIn_ca (goodIn_r _ [7, 8, 9, 2, 10, 11, 12, 13, 14, 15, 73, 74, 75, 76, 77, 78, 79, 80, 81, 82, 83, 84, 85, 86, 87, 88, 89, 90, 91, 92, 93, 94, 95, 96] (by decide +kernel) (by decide +kernel)) (goodIn_sub (fun _ h => List.mem_cons_of_mem _ (List.mem_append_left _ (List.mem_append_right _ h))) (by decide +kernel))
set_option maxRecDepth 20000 in
theorem gX5_ready_X5_needPlayer : GoodIn wsX5_ready (wsV RX5 148 RX5 yX5_needPlayer wsX5_needPlayer) := goodIn_app (goodIn_of _ (by decide +kernel)) ggX5_ready_X5_needPlayer
set_option maxRecDepth 20000 in
theorem ggX5_ready_X5_needRole : GoodIn wsX5_ready wsX5_needRole := goodIn_ca (goodIn_r _ [19, 8, 9, 2, 20, 21, 22, 13, 23, 24, 73, 74, 75, 76, 77, 78, 79, 80, 81, 82, 83, 84, 85, 86, 87, 88, 89, 90, 91, 92, 93, 94, 95, 96] (by decide +kernel) (by decide +kernel)) (goodIn_sub (fun _ h => List.mem_cons_of_mem _ (List.mem_append_left _ (List.mem_append_right _ h))) (by decide +kernel))
set_option maxRecDepth 20000 in
theorem gX5_ready_X5_needRole : GoodIn wsX5_ready (wsV RX5 120 RX5 yX5_needRole wsX5_needRole) := goodIn_app (goodIn_of _ (by decide +kernel)) ggX5_ready_X5_needRole
set_option maxRecDepth 20000 in
theorem ggX5_ready_X5_needRange : GoodIn wsX5_ready wsX5_needRange := goodIn_ca (goodIn_r _ [27, 28, 29] (by decide +kernel) (by decide +kernel)) (goodIn_sub (fun _ h => List.mem_cons_of_mem _ (List.mem_append_right _ h)) (by decide +kernel))
set_option maxRecDepth 20000 in
theorem gX5_ready_X5_needRange : GoodIn wsX5_ready (va_wsS RX5 52 yX5_needRange wsX5_needRange) := goodIn_app (goodIn_of _ (by decide +kernel)) ggX5_ready_X5_needRange
set_option maxRecDepth 20000 in
theorem ggX5_ready_X1_remember : GoodIn wsX5_ready wsX1_remember := goodIn_r _ [34, 35, 36, 37, 38, 39, 40, 13, 41, 42, 43, 44, 45, 46, 47, 48, 49, 50, 51, 24, 15, 52, 53, 54, 55, 56, 57, 58, 59, 97, 98, 99, 80, 81, 82, 83, 84, 85, 86, 87, 88, 89, 90, 91, 92, 93, 94, 95, 96] (by decide +kernel) (by decide +kernel)
set_option maxRecDepth 20000 in
theorem gX5_ready_X1_remember : GoodIn wsX5_ready (wsV RX5 197 RX1 yX1_remember wsX1_remember) := goodIn_app (goodIn_of _ (by decide +kernel)) ggX5_ready_X1_remember
set_option maxRecDepth 20000 in
theorem ggX5_ready_X2_degreeOf : GoodIn wsX5_ready wsX2_degreeOf := goodIn_r _ [63, 45, 64, 65, 13, 66, 80, 81, 82, 83, 84, 85, 86, 87, 88, 89, 90, 91, 92, 93, 94, 95, 96] (by decide +kernel) (by decide +kernel)
set_option maxRecDepth 20000 in
theorem gX5_ready_X2_degreeOf : GoodIn wsX5_ready (wsV RX5 172 RX2 yX2_degreeOf wsX2_degreeOf) := goodIn_app (goodIn_of _ (by decide +kernel)) ggX5_ready_X2_degreeOf
set_option maxRecDepth 20000 in
theorem ggX5_ready_X2_putDegree : GoodIn wsX5_ready wsX2_putDegree := goodIn_r _ [70, 45, 71, 11, 12, 13, 14, 15, 72, 21, 22, 23, 24, 64, 65, 66, 80, 81, 82, 83, 84, 85, 86, 87, 88, 89, 90, 91, 92, 93, 94, 95, 96] (by decide +kernel) (by decide +kernel)
set_option maxRecDepth 20000 in
theorem gX5_ready_X2_putDegree : GoodIn wsX5_ready (wsV RX5 212 RX2 yX2_putDegree wsX2_putDegree) := goodIn_app (goodIn_of _ (by decide +kernel)) ggX5_ready_X2_putDegree
theorem dX5_ready_0 : decode cX5_ready 0 = .ok (.aload_n 0, 1) := by decide +kernel
theorem dX5_ready_1 : decode cX5_ready 1 = .ok (.iload_n 1, 1) := by decide +kernel
theorem dX5_ready_2 : decode cX5_ready 2 = .ok (.invokevirtual 148, 3) := by decide +kernel
theorem dX5_ready_5 : decode cX5_ready 5 = .ok (.aload_n 0, 1) := by decide +kernel
theorem dX5_ready_6 : decode cX5_ready 6 = .ok (.iload_n 2, 1) := by decide +kernel
theorem dX5_ready_7 : decode cX5_ready 7 = .ok (.invokevirtual 120, 3) := by decide +kernel
theorem dX5_ready_10 : decode cX5_ready 10 = .ok (.iload_n 3, 1) := by decide +kernel
theorem dX5_ready_11 : decode cX5_ready 11 = .ok (.iconst 0, 1) := by decide +kernel
theorem dX5_ready_12 : decode cX5_ready 12 = .ok (.bipush 9, 2) := by decide +kernel
theorem dX5_ready_14 : decode cX5_ready 14 = .ok (.invokestatic 52, 3) := by decide +kernel
theorem dX5_ready_17 : decode cX5_ready 17 = .ok (.aload_n 0, 1) := by decide +kernel
theorem dX5_ready_18 : decode cX5_ready 18 = .ok (.getfield 40, 3) := by decide +kernel
theorem dX5_ready_21 : decode cX5_ready 21 = .ok (.aload_n 0, 1) := by decide +kernel
theorem dX5_ready_22 : decode cX5_ready 22 = .ok (.getfield 19, 3) := by decide +kernel
theorem dX5_ready_25 : decode cX5_ready 25 = .ok (.invokevirtual 197, 3) := by decide +kernel
theorem dX5_ready_28 : decode cX5_ready 28 = .ok (.aload_n 0, 1) := by decide +kernel
theorem dX5_ready_29 : decode cX5_ready 29 = .ok (.getfield 19, 3) := by decide +kernel
theorem dX5_ready_32 : decode cX5_ready 32 = .ok (.iload_n 1, 1) := by decide +kernel
theorem dX5_ready_33 : decode cX5_ready 33 = .ok (.iload_n 2, 1) := by decide +kernel
theorem dX5_ready_34 : decode cX5_ready 34 = .ok (.invokevirtual 172, 3) := by decide +kernel
theorem dX5_ready_37 : decode cX5_ready 37 = .ok (.istore 4, 2) := by decide +kernel
theorem dX5_ready_39 : decode cX5_ready 39 = .ok (.aload_n 0, 1) := by decide +kernel
theorem dX5_ready_40 : decode cX5_ready 40 = .ok (.getfield 19, 3) := by decide +kernel
theorem dX5_ready_43 : decode cX5_ready 43 = .ok (.iload_n 1, 1) := by decide +kernel
theorem dX5_ready_44 : decode cX5_ready 44 = .ok (.iload_n 2, 1) := by decide +kernel
theorem dX5_ready_45 : decode cX5_ready 45 = .ok (.iload_n 3, 1) := by decide +kernel
theorem dX5_ready_46 : decode cX5_ready 46 = .ok (.invokevirtual 212, 3) := by decide +kernel
theorem dX5_ready_49 : decode cX5_ready 49 = .ok (.pop, 1) := by decide +kernel
theorem dX5_ready_50 : decode cX5_ready 50 = .ok (.iload 4, 2) := by decide +kernel
theorem dX5_ready_52 : decode cX5_ready 52 = .ok (.ireturn, 1) := by decide +kernel
set_option maxRecDepth 20000 in
theorem ggX5_first_X5_needRole : GoodIn wsX5_first wsX5_needRole := goodIn_ca (goodIn_r _ [7, 8, 9, 2, 10, 11, 12, 13, 14, 15, 65, 66, 67, 68, 69, 70, 71, 72, 73, 74, 75, 76, 77, 78, 79, 80, 81, 82, 83, 84, 85, 86, 87, 88] (by decide +kernel) (by decide +kernel)) (goodIn_sub (fun _ h => List.mem_cons_of_mem _ (List.mem_append_right _ h)) (by decide +kernel))
set_option maxRecDepth 20000 in
theorem gX5_first_X5_needRole : GoodIn wsX5_first (wsV RX5 120 RX5 yX5_needRole wsX5_needRole) := goodIn_app (goodIn_of _ (by decide +kernel)) ggX5_first_X5_needRole
set_option maxRecDepth 20000 in
theorem ggX5_first_X5_needPlayer : GoodIn wsX5_first wsX5_needPlayer := goodIn_ca (goodIn_r _ [19, 8, 9, 2, 20, 21, 22, 13, 23, 24, 65, 66, 67, 68, 69, 70, 71, 72, 73, 74, 75, 76, 77, 78, 79, 80, 81, 82, 83, 84, 85, 86, 87, 88] (by decide +kernel) (by decide +kernel)) (goodIn_sub (fun _ h => List.mem_cons_of_mem _ (List.mem_append_right _ h)) (by decide +kernel))
set_option maxRecDepth 20000 in
theorem gX5_first_X5_needPlayer : GoodIn wsX5_first (wsV RX5 148 RX5 yX5_needPlayer wsX5_needPlayer) := goodIn_app (goodIn_of _ (by decide +kernel)) ggX5_first_X5_needPlayer
set_option maxRecDepth 20000 in
theorem ggX5_first_X1_remember : GoodIn wsX5_first wsX1_remember := goodIn_r _ [29, 30, 31, 32, 33, 34, 35, 13, 36, 37, 38, 39, 40, 41, 42, 43, 44, 45, 46, 15, 24, 47, 48, 49, 50, 51, 52, 53, 54, 89, 90, 91, 72, 73, 74, 75, 76, 77, 78, 79, 80, 81, 82, 83, 84, 85, 86, 87, 88] (by decide +kernel) (by decide +kernel)
set_option maxRecDepth 20000 in
theorem gX5_first_X1_remember : GoodIn wsX5_first (wsV RX5 197 RX1 yX1_remember wsX1_remember) := goodIn_app (goodIn_of _ (by decide +kernel)) ggX5_first_X1_remember
set_option maxRecDepth 20000 in
theorem ggX5_first_X2_firstOf : GoodIn wsX5_first wsX2_firstOf := goodIn_r _ [58, 38, 72, 73, 74, 75, 76, 77, 78, 79, 80, 81, 82, 83, 84, 85, 86, 87, 88] (by decide +kernel) (by decide +kernel)
set_option maxRecDepth 20000 in
theorem gX5_first_X2_firstOf : GoodIn wsX5_first (wsV RX5 127 RX2 yX2_firstOf wsX2_firstOf) := goodIn_app (goodIn_of _ (by decide +kernel)) ggX5_first_X2_firstOf
set_option maxRecDepth 20000 in
theorem ggX5_first_X2_putFirst : GoodIn wsX5_first wsX2_putFirst := goodIn_r _ [62, 38, 63, 11, 12, 13, 14, 15, 64, 21, 22, 23, 24, 72, 73, 74, 75, 76, 77, 78, 79, 80, 81, 82, 83, 84, 85, 86, 87, 88] (by decide +kernel) (by decide +kernel)
set_option maxRecDepth 20000 in
theorem gX5_first_X2_putFirst : GoodIn wsX5_first (wsV RX5 216 RX2 yX2_putFirst wsX2_putFirst) := goodIn_app (goodIn_of _ (by decide +kernel)) ggX5_first_X2_putFirst
theorem dX5_first_0 : decode cX5_first 0 = .ok (.aload_n 0, 1) := by decide +kernel
theorem dX5_first_1 : decode cX5_first 1 = .ok (.iload_n 1, 1) := by decide +kernel
theorem dX5_first_2 : decode cX5_first 2 = .ok (.invokevirtual 120, 3) := by decide +kernel
theorem dX5_first_5 : decode cX5_first 5 = .ok (.aload_n 0, 1) := by decide +kernel
theorem dX5_first_6 : decode cX5_first 6 = .ok (.iload_n 2, 1) := by decide +kernel
theorem dX5_first_7 : decode cX5_first 7 = .ok (.invokevirtual 148, 3) := by decide +kernel
theorem dX5_first_10 : decode cX5_first 10 = .ok (.aload_n 0, 1) := by decide +kernel
theorem dX5_first_11 : decode cX5_first 11 = .ok (.getfield 40, 3) := by decide +kernel
theorem dX5_first_14 : decode cX5_first 14 = .ok (.aload_n 0, 1) := by decide +kernel
theorem dX5_first_15 : decode cX5_first 15 = .ok (.getfield 19, 3) := by decide +kernel
theorem dX5_first_18 : decode cX5_first 18 = .ok (.invokevirtual 197, 3) := by decide +kernel
theorem dX5_first_21 : decode cX5_first 21 = .ok (.aload_n 0, 1) := by decide +kernel
theorem dX5_first_22 : decode cX5_first 22 = .ok (.getfield 19, 3) := by decide +kernel
theorem dX5_first_25 : decode cX5_first 25 = .ok (.iload_n 1, 1) := by decide +kernel
theorem dX5_first_26 : decode cX5_first 26 = .ok (.invokevirtual 127, 3) := by decide +kernel
theorem dX5_first_29 : decode cX5_first 29 = .ok (.istore_n 3, 1) := by decide +kernel
theorem dX5_first_30 : decode cX5_first 30 = .ok (.aload_n 0, 1) := by decide +kernel
theorem dX5_first_31 : decode cX5_first 31 = .ok (.getfield 19, 3) := by decide +kernel
theorem dX5_first_34 : decode cX5_first 34 = .ok (.iload_n 1, 1) := by decide +kernel
theorem dX5_first_35 : decode cX5_first 35 = .ok (.iload_n 2, 1) := by decide +kernel
theorem dX5_first_36 : decode cX5_first 36 = .ok (.invokevirtual 216, 3) := by decide +kernel
theorem dX5_first_39 : decode cX5_first 39 = .ok (.pop, 1) := by decide +kernel
theorem dX5_first_40 : decode cX5_first 40 = .ok (.iload_n 3, 1) := by decide +kernel
theorem dX5_first_41 : decode cX5_first 41 = .ok (.ireturn, 1) := by decide +kernel
set_option maxRecDepth 20000 in
theorem ggX5_away_X5_needPlayer : GoodIn wsX5_away wsX5_needPlayer := goodIn_ca (goodIn_r _ [7, 8, 9, 2, 10, 11, 12, 13, 14, 15, 61, 62, 63, 64, 65, 66, 67, 68, 69, 70, 71, 72, 73, 74, 75, 76, 77, 78, 79, 80, 81, 82, 83, 84] (by decide +kernel) (by decide +kernel)) (goodIn_sub (fun _ h => List.mem_cons_of_mem _ (List.mem_append_left _ (List.mem_append_right _ h))) (by decide +kernel))
set_option maxRecDepth 20000 in
theorem gX5_away_X5_needPlayer : GoodIn wsX5_away (wsV RX5 148 RX5 yX5_needPlayer wsX5_needPlayer) := goodIn_app (goodIn_of _ (by decide +kernel)) ggX5_away_X5_needPlayer
set_option maxRecDepth 20000 in
theorem ggX5_away_X5_needRange : GoodIn wsX5_away wsX5_needRange := goodIn_ca (goodIn_r _ [18, 19, 20] (by decide +kernel) (by decide +kernel)) (goodIn_sub (fun _ h => List.mem_cons_of_mem _ (List.mem_append_right _ h)) (by decide +kernel))
set_option maxRecDepth 20000 in
theorem gX5_away_X5_needRange : GoodIn wsX5_away (va_wsS RX5 52 yX5_needRange wsX5_needRange) := goodIn_app (goodIn_of _ (by decide +kernel)) ggX5_away_X5_needRange
set_option maxRecDepth 20000 in
theorem ggX5_away_X1_remember : GoodIn wsX5_away wsX1_remember := goodIn_r _ [25, 26, 27, 28, 29, 30, 31, 13, 32, 33, 34, 35, 36, 37, 38, 39, 40, 41, 42, 43, 15, 44, 45, 46, 47, 48, 49, 50, 51, 85, 86, 87, 68, 69, 70, 71, 72, 73, 74, 75, 76, 77, 78, 79, 80, 81, 82, 83, 84] (by decide +kernel) (by decide +kernel)
set_option maxRecDepth 20000 in
theorem gX5_away_X1_remember : GoodIn wsX5_away (wsV RX5 197 RX1 yX1_remember wsX1_remember) := goodIn_app (goodIn_of _ (by decide +kernel)) ggX5_away_X1_remember
set_option maxRecDepth 20000 in
theorem ggX5_away_X2_sendAway : GoodIn wsX5_away wsX2_sendAway := goodIn_r _ [55, 40, 44, 56, 11, 12, 13, 14, 15, 68, 69, 70, 71, 72, 73, 74, 75, 76, 77, 78, 79, 80, 81, 82, 83, 84] (by decide +kernel) (by decide +kernel)
set_option maxRecDepth 20000 in
theorem gX5_away_X2_sendAway : GoodIn wsX5_away (wsV RX5 220 RX2 yX2_sendAway wsX2_sendAway) := goodIn_app (goodIn_of _ (by decide +kernel)) ggX5_away_X2_sendAway
set_option maxRecDepth 20000 in
theorem ggX5_away_X2_dayNow : GoodIn wsX5_away wsX2_dayNow := goodIn_r _ [60, 44, 68, 69, 70, 71, 72, 73, 74, 75, 76, 77, 78, 79, 80, 81, 82, 83, 84] (by decide +kernel) (by decide +kernel)
set_option maxRecDepth 20000 in
theorem gX5_away_X2_dayNow : GoodIn wsX5_away (wsV RX5 97 RX2 yX2_dayNow wsX2_dayNow) := goodIn_app (goodIn_of _ (by decide +kernel)) ggX5_away_X2_dayNow
theorem dX5_away_0 : decode cX5_away 0 = .ok (.aload_n 0, 1) := by decide +kernel
theorem dX5_away_1 : decode cX5_away 1 = .ok (.iload_n 1, 1) := by decide +kernel
theorem dX5_away_2 : decode cX5_away 2 = .ok (.invokevirtual 148, 3) := by decide +kernel
theorem dX5_away_5 : decode cX5_away 5 = .ok (.iload_n 2, 1) := by decide +kernel
theorem dX5_away_6 : decode cX5_away 6 = .ok (.iconst 1, 1) := by decide +kernel
theorem dX5_away_7 : decode cX5_away 7 = .ok (.bipush 99, 2) := by decide +kernel
theorem dX5_away_9 : decode cX5_away 9 = .ok (.invokestatic 52, 3) := by decide +kernel
theorem dX5_away_12 : decode cX5_away 12 = .ok (.aload_n 0, 1) := by decide +kernel
theorem dX5_away_13 : decode cX5_away 13 = .ok (.getfield 40, 3) := by decide +kernel
theorem dX5_away_16 : decode cX5_away 16 = .ok (.aload_n 0, 1) := by decide +kernel
theorem dX5_away_17 : decode cX5_away 17 = .ok (.getfield 19, 3) := by decide +kernel
theorem dX5_away_20 : decode cX5_away 20 = .ok (.invokevirtual 197, 3) := by decide +kernel
theorem dX5_away_23 : decode cX5_away 23 = .ok (.aload_n 0, 1) := by decide +kernel
theorem dX5_away_24 : decode cX5_away 24 = .ok (.getfield 19, 3) := by decide +kernel
theorem dX5_away_27 : decode cX5_away 27 = .ok (.iload_n 1, 1) := by decide +kernel
theorem dX5_away_28 : decode cX5_away 28 = .ok (.iload_n 2, 1) := by decide +kernel
theorem dX5_away_29 : decode cX5_away 29 = .ok (.invokevirtual 220, 3) := by decide +kernel
theorem dX5_away_32 : decode cX5_away 32 = .ok (.pop, 1) := by decide +kernel
theorem dX5_away_33 : decode cX5_away 33 = .ok (.aload_n 0, 1) := by decide +kernel
theorem dX5_away_34 : decode cX5_away 34 = .ok (.getfield 19, 3) := by decide +kernel
theorem dX5_away_37 : decode cX5_away 37 = .ok (.invokevirtual 97, 3) := by decide +kernel
theorem dX5_away_40 : decode cX5_away 40 = .ok (.iload_n 2, 1) := by decide +kernel
theorem dX5_away_41 : decode cX5_away 41 = .ok (.iadd, 1) := by decide +kernel
theorem dX5_away_42 : decode cX5_away 42 = .ok (.ireturn, 1) := by decide +kernel
set_option maxRecDepth 20000 in
theorem ggX5_post_X2_roleCount : GoodIn wsX5_post wsX2_roleCount := goodIn_r _ [10, 11, 117, 118, 119, 120, 121, 122, 123, 124, 125, 126, 127, 128, 129, 130, 131, 132, 133] (by decide +kernel) (by decide +kernel)
set_option maxRecDepth 20000 in
theorem gX5_post_X2_roleCount : GoodIn wsX5_post (wsV RX5 91 RX2 yX2_roleCount wsX2_roleCount) := goodIn_app (goodIn_of _ (by decide +kernel)) ggX5_post_X2_roleCount
set_option maxRecDepth 20000 in
theorem ggX5_post_X2_freePlayers : GoodIn wsX5_post wsX2_freePlayers := goodIn_r _ [15, 16, 17, 18, 19, 9, 20, 21, 22, 23, 24, 117, 118, 119, 120, 121, 122, 123, 124, 125, 126, 127, 128, 129, 130, 131, 132, 133] (by decide +kernel) (by decide +kernel)
set_option maxRecDepth 20000 in
theorem gX5_post_X2_freePlayers : GoodIn wsX5_post (wsV RX5 130 RX2 yX2_freePlayers wsX2_freePlayers) := goodIn_app (goodIn_of _ (by decide +kernel)) ggX5_post_X2_freePlayers
set_option maxRecDepth 20000 in
theorem ggX5_post_X0_seek : GoodIn wsX5_post wsX0_seek := goodIn_r _ [29, 30, 31, 32, 33, 34, 35, 7, 8, 9, 10, 11, 36, 37, 38, 39, 16, 40, 41, 28, 42, 43, 44, 45, 46, 47, 48, 49, 50, 51, 52, 53, 54, 55, 56, 57, 58, 59, 60, 61, 62, 63, 64, 65, 66, 67, 68, 69, 70, 71, 72, 73, 74, 75, 76, 134, 135, 136, 137, 138, 139, 117, 118, 119, 120, 121, 122, 123, 124, 125, 126, 127, 128, 129, 130, 131, 132, 133] (by decide +kernel) (by decide +kernel)
set_option maxRecDepth 20000 in
theorem gX5_post_X0_seek : GoodIn wsX5_post (wsV RX5 133 RX0 yX0_seek wsX0_seek) := goodIn_app (goodIn_of _ (by decide +kernel)) ggX5_post_X0_seek
set_option maxRecDepth 20000 in
theorem ggX5_post_X1_remember : GoodIn wsX5_post wsX1_remember := goodIn_r _ [81, 82, 83, 84, 85, 86, 87, 9, 88, 48, 49, 89, 47, 90, 91, 23, 21, 92, 24, 11, 16, 22, 93, 94, 95, 96, 97, 98, 99, 140, 141, 142, 117, 118, 119, 120, 121, 122, 123, 124, 125, 126, 127, 128, 129, 130, 131, 132, 133] (by decide +kernel) (by decide +kernel)
set_option maxRecDepth 20000 in
theorem gX5_post_X1_remember : GoodIn wsX5_post (wsV RX5 197 RX1 yX1_remember wsX1_remember) := goodIn_app (goodIn_of _ (by decide +kernel)) ggX5_post_X1_remember
set_option maxRecDepth 20000 in
theorem ggX5_post_X2_postCast : GoodIn wsX5_post wsX2_postCast := goodIn_r _ [103, 11, 89, 96, 104, 13, 14, 9, 15, 16, 17, 18, 19, 20, 21, 22, 23, 24, 105, 26, 27, 28, 29, 30, 31, 32, 33, 34, 35, 7, 8, 10, 36, 37, 38, 39, 40, 41, 42, 43, 44, 45, 46, 47, 48, 49, 50, 51, 52, 53, 54, 55, 56, 57, 58, 59, 60, 61, 62, 63, 64, 65, 66, 67, 68, 69, 70, 71, 72, 73, 74, 75, 76, 106, 107, 108, 109, 117, 118, 119, 120, 121, 122, 123, 124, 125, 126, 127, 128, 129, 130, 131, 132, 133, 134, 135, 136, 137, 138, 139] (by decide +kernel) (by decide +kernel)
set_option maxRecDepth 20000 in
theorem gX5_post_X2_postCast : GoodIn wsX5_post (wsV RX5 227 RX2 yX2_postCast wsX2_postCast) := goodIn_app (goodIn_of _ (by decide +kernel)) ggX5_post_X2_postCast
theorem dX5_post_0 : decode cX5_post 0 = .ok (.aload_n 0, 1) := by decide +kernel
theorem dX5_post_1 : decode cX5_post 1 = .ok (.getfield 19, 3) := by decide +kernel
theorem dX5_post_4 : decode cX5_post 4 = .ok (.invokevirtual 91, 3) := by decide +kernel
theorem dX5_post_7 : decode cX5_post 7 = .ok (.ifCond .ne 13, 3) := by decide +kernel
theorem dX5_post_10 : decode cX5_post 10 = .ok (.new 60, 3) := by decide +kernel
theorem dX5_post_13 : decode cX5_post 13 = .ok (.dup, 1) := by decide +kernel
theorem dX5_post_14 : decode cX5_post 14 = .ok (.ldc 223, 2) := by decide +kernel
theorem dX5_post_16 : decode cX5_post 16 = .ok (.invokespecial 64, 3) := by decide +kernel
theorem dX5_post_19 : decode cX5_post 19 = .ok (.athrow, 1) := by decide +kernel
theorem dX5_post_20 : decode cX5_post 20 = .ok (.aload_n 0, 1) := by decide +kernel
theorem dX5_post_21 : decode cX5_post 21 = .ok (.getfield 26, 3) := by decide +kernel
theorem dX5_post_24 : decode cX5_post 24 = .ok (.aload_n 0, 1) := by decide +kernel
theorem dX5_post_25 : decode cX5_post 25 = .ok (.getfield 19, 3) := by decide +kernel
theorem dX5_post_28 : decode cX5_post 28 = .ok (.aload_n 0, 1) := by decide +kernel
theorem dX5_post_29 : decode cX5_post 29 = .ok (.getfield 19, 3) := by decide +kernel
theorem dX5_post_32 : decode cX5_post 32 = .ok (.invokevirtual 130, 3) := by decide +kernel
theorem dX5_post_35 : decode cX5_post 35 = .ok (.invokevirtual 133, 3) := by decide +kernel
theorem dX5_post_38 : decode cX5_post 38 = .ok (.istore_n 1, 1) := by decide +kernel
theorem dX5_post_39 : decode cX5_post 39 = .ok (.iload_n 1, 1) := by decide +kernel
theorem dX5_post_40 : decode cX5_post 40 = .ok (.iconst (-1), 1) := by decide +kernel
theorem dX5_post_41 : decode cX5_post 41 = .ok (.if_icmp .ne 13, 3) := by decide +kernel
theorem dX5_post_44 : decode cX5_post 44 = .ok (.new 60, 3) := by decide +kernel
theorem dX5_post_47 : decode cX5_post 47 = .ok (.dup, 1) := by decide +kernel
theorem dX5_post_48 : decode cX5_post 48 = .ok (.ldc 225, 2) := by decide +kernel
theorem dX5_post_50 : decode cX5_post 50 = .ok (.invokespecial 64, 3) := by decide +kernel
theorem dX5_post_53 : decode cX5_post 53 = .ok (.athrow, 1) := by decide +kernel
theorem dX5_post_54 : decode cX5_post 54 = .ok (.aload_n 0, 1) := by decide +kernel
theorem dX5_post_55 : decode cX5_post 55 = .ok (.getfield 40, 3) := by decide +kernel
theorem dX5_post_58 : decode cX5_post 58 = .ok (.aload_n 0, 1) := by decide +kernel
theorem dX5_post_59 : decode cX5_post 59 = .ok (.getfield 19, 3) := by decide +kernel
theorem dX5_post_62 : decode cX5_post 62 = .ok (.invokevirtual 197, 3) := by decide +kernel
theorem dX5_post_65 : decode cX5_post 65 = .ok (.aload_n 0, 1) := by decide +kernel
theorem dX5_post_66 : decode cX5_post 66 = .ok (.getfield 19, 3) := by decide +kernel
theorem dX5_post_69 : decode cX5_post 69 = .ok (.aload_n 0, 1) := by decide +kernel
theorem dX5_post_70 : decode cX5_post 70 = .ok (.getfield 26, 3) := by decide +kernel
theorem dX5_post_73 : decode cX5_post 73 = .ok (.invokevirtual 227, 3) := by decide +kernel
theorem dX5_post_76 : decode cX5_post 76 = .ok (.pop, 1) := by decide +kernel
theorem dX5_post_77 : decode cX5_post 77 = .ok (.iload_n 1, 1) := by decide +kernel
theorem dX5_post_78 : decode cX5_post 78 = .ok (.ireturn, 1) := by decide +kernel
set_option maxRecDepth 20000 in
theorem ggX5_play_X5_needSomeRole : GoodIn wsX5_play wsX5_needSomeRole := goodIn_ca (goodIn_r _ [8, 9, 10, 2, 11, 12, 13, 14, 15, 16, 129, 130, 131, 132, 133, 134, 135, 136, 137, 138, 139, 140, 141, 142, 143, 144, 145, 146, 147, 148, 149, 150, 151, 152] (by decide +kernel) (by decide +kernel)) (goodIn_sub (fun _ h => List.mem_cons_of_mem _ (List.mem_append_right _ h)) (by decide +kernel))
set_option maxRecDepth 20000 in
theorem gX5_play_X5_needSomeRole : GoodIn wsX5_play (wsV RX5 231 RX5 yX5_needSomeRole wsX5_needSomeRole) := goodIn_app (goodIn_of _ (by decide +kernel)) ggX5_play_X5_needSomeRole
set_option maxRecDepth 20000 in
theorem ggX5_play_X1_remember : GoodIn wsX5_play wsX1_remember := goodIn_r _ [21, 22, 23, 24, 25, 26, 27, 14, 28, 29, 30, 31, 32, 33, 34, 35, 36, 37, 38, 16, 39, 40, 41, 42, 43, 44, 45, 46, 47, 153, 154, 155, 136, 137, 138, 139, 140, 141, 142, 143, 144, 145, 146, 147, 148, 149, 150, 151, 152] (by decide +kernel) (by decide +kernel)
set_option maxRecDepth 20000 in
theorem gX5_play_X1_remember : GoodIn wsX5_play (wsV RX5 197 RX1 yX1_remember wsX1_remember) := goodIn_app (goodIn_of _ (by decide +kernel)) ggX5_play_X1_remember
set_option maxRecDepth 20000 in
theorem ggX5_play_X2_playDay : GoodIn wsX5_play wsX2_playDay := goodIn_r _ [51, 42, 39, 35, 40, 44, 52, 53, 54, 14, 55, 56, 57, 58, 59, 36, 38, 60, 61, 62, 63, 64, 65, 66, 67, 68, 69, 70, 12, 13, 15, 16, 71, 72, 73, 74, 75, 76, 77, 78, 79, 80, 81, 32, 29, 30, 82, 83, 84, 85, 86, 87, 88, 89, 90, 91, 92, 93, 94, 95, 96, 97, 98, 99, 100, 101, 102, 103, 104, 105, 106, 107, 108, 109, 110, 111, 112, 41, 113, 114, 115, 116, 117, 118, 119, 120, 121, 122, 123, 124, 43, 31, 34, 37, 33, 125, 126, 127, 128, 136, 137, 138, 139, 140, 141, 142, 143, 144, 145, 146, 147, 148, 149, 150, 151, 152, 156, 157, 158, 159, 160, 161] (by decide +kernel) (by decide +kernel)
set_option maxRecDepth 20000 in
theorem gX5_play_X2_playDay : GoodIn wsX5_play (wsV RX5 234 RX2 yX2_playDay wsX2_playDay) := goodIn_app (goodIn_of _ (by decide +kernel)) ggX5_play_X2_playDay
theorem dX5_play_0 : decode cX5_play 0 = .ok (.aload_n 0, 1) := by decide +kernel
theorem dX5_play_1 : decode cX5_play 1 = .ok (.invokevirtual 231, 3) := by decide +kernel
theorem dX5_play_4 : decode cX5_play 4 = .ok (.aload_n 0, 1) := by decide +kernel
theorem dX5_play_5 : decode cX5_play 5 = .ok (.getfield 40, 3) := by decide +kernel
theorem dX5_play_8 : decode cX5_play 8 = .ok (.aload_n 0, 1) := by decide +kernel
theorem dX5_play_9 : decode cX5_play 9 = .ok (.getfield 19, 3) := by decide +kernel
theorem dX5_play_12 : decode cX5_play 12 = .ok (.invokevirtual 197, 3) := by decide +kernel
theorem dX5_play_15 : decode cX5_play 15 = .ok (.aload_n 0, 1) := by decide +kernel
theorem dX5_play_16 : decode cX5_play 16 = .ok (.getfield 19, 3) := by decide +kernel
theorem dX5_play_19 : decode cX5_play 19 = .ok (.aload_n 0, 1) := by decide +kernel
theorem dX5_play_20 : decode cX5_play 20 = .ok (.getfield 26, 3) := by decide +kernel
theorem dX5_play_23 : decode cX5_play 23 = .ok (.invokevirtual 234, 3) := by decide +kernel
theorem dX5_play_26 : decode cX5_play 26 = .ok (.ireturn, 1) := by decide +kernel
set_option maxRecDepth 20000 in
theorem ggX5_dark_X5_needRange : GoodIn wsX5_dark wsX5_needRange := goodIn_ca (goodIn_r _ [6, 7, 8] (by decide +kernel) (by decide +kernel)) (goodIn_sub (fun _ h => List.mem_cons_of_mem _ (List.mem_append_right _ h)) (by decide +kernel))
set_option maxRecDepth 20000 in
theorem gX5_dark_X5_needRange : GoodIn wsX5_dark (va_wsS RX5 52 yX5_needRange wsX5_needRange) := goodIn_app (goodIn_of _ (by decide +kernel)) ggX5_dark_X5_needRange
set_option maxRecDepth 20000 in
theorem ggX5_dark_X1_remember : GoodIn wsX5_dark wsX1_remember := goodIn_r _ [13, 14, 15, 16, 17, 18, 19, 20, 21, 22, 23, 24, 25, 26, 27, 28, 29, 30, 31, 32, 33, 34, 35, 36, 37, 38, 39, 40, 41, 60, 61, 62, 63, 64, 65, 66, 67, 68, 69, 70, 71, 72, 73, 74, 75, 76, 77, 78, 79] (by decide +kernel) (by decide +kernel)
set_option maxRecDepth 20000 in
theorem gX5_dark_X1_remember : GoodIn wsX5_dark (wsV RX5 197 RX1 yX1_remember wsX1_remember) := goodIn_app (goodIn_of _ (by decide +kernel)) ggX5_dark_X1_remember
set_option maxRecDepth 20000 in
theorem ggX5_dark_X2_passDays : GoodIn wsX5_dark wsX2_passDays := goodIn_r _ [45, 28, 34, 38, 46, 47, 20, 48, 63, 64, 65, 66, 67, 68, 69, 70, 71, 72, 73, 74, 75, 76, 77, 78, 79] (by decide +kernel) (by decide +kernel)
set_option maxRecDepth 20000 in
theorem gX5_dark_X2_passDays : GoodIn wsX5_dark (wsV RX5 238 RX2 yX2_passDays wsX2_passDays) := goodIn_app (goodIn_of _ (by decide +kernel)) ggX5_dark_X2_passDays
set_option maxRecDepth 20000 in
theorem ggX5_dark_X2_dayNow : GoodIn wsX5_dark wsX2_dayNow := goodIn_r _ [52, 34, 63, 64, 65, 66, 67, 68, 69, 70, 71, 72, 73, 74, 75, 76, 77, 78, 79] (by decide +kernel) (by decide +kernel)
set_option maxRecDepth 20000 in
theorem gX5_dark_X2_dayNow : GoodIn wsX5_dark (wsV RX5 97 RX2 yX2_dayNow wsX2_dayNow) := goodIn_app (goodIn_of _ (by decide +kernel)) ggX5_dark_X2_dayNow
theorem dX5_dark_0 : decode cX5_dark 0 = .ok (.iload_n 1, 1) := by decide +kernel
theorem dX5_dark_1 : decode cX5_dark 1 = .ok (.iconst 1, 1) := by decide +kernel
theorem dX5_dark_2 : decode cX5_dark 2 = .ok (.bipush 99, 2) := by decide +kernel
theorem dX5_dark_4 : decode cX5_dark 4 = .ok (.invokestatic 52, 3) := by decide +kernel
theorem dX5_dark_7 : decode cX5_dark 7 = .ok (.aload_n 0, 1) := by decide +kernel
theorem dX5_dark_8 : decode cX5_dark 8 = .ok (.getfield 40, 3) := by decide +kernel
theorem dX5_dark_11 : decode cX5_dark 11 = .ok (.aload_n 0, 1) := by decide +kernel
theorem dX5_dark_12 : decode cX5_dark 12 = .ok (.getfield 19, 3) := by decide +kernel
theorem dX5_dark_15 : decode cX5_dark 15 = .ok (.invokevirtual 197, 3) := by decide +kernel
theorem dX5_dark_18 : decode cX5_dark 18 = .ok (.aload_n 0, 1) := by decide +kernel
theorem dX5_dark_19 : decode cX5_dark 19 = .ok (.getfield 19, 3) := by decide +kernel
theorem dX5_dark_22 : decode cX5_dark 22 = .ok (.iload_n 1, 1) := by decide +kernel
theorem dX5_dark_23 : decode cX5_dark 23 = .ok (.invokevirtual 238, 3) := by decide +kernel
theorem dX5_dark_26 : decode cX5_dark 26 = .ok (.pop, 1) := by decide +kernel
theorem dX5_dark_27 : decode cX5_dark 27 = .ok (.aload_n 0, 1) := by decide +kernel
theorem dX5_dark_28 : decode cX5_dark 28 = .ok (.getfield 19, 3) := by decide +kernel
theorem dX5_dark_31 : decode cX5_dark 31 = .ok (.invokevirtual 97, 3) := by decide +kernel
theorem dX5_dark_34 : decode cX5_dark 34 = .ok (.ireturn, 1) := by decide +kernel
set_option maxRecDepth 20000 in
theorem ggX5_promote_X5_needRole : GoodIn wsX5_promote wsX5_needRole := goodIn_ca (goodIn_r _ [9, 10, 11, 3, 12, 13, 14, 15, 16, 17, 65, 66, 67, 68, 69, 70, 71, 72, 73, 74, 75, 76, 77, 78, 79, 80, 81, 82, 83, 84, 85, 86, 87, 88] (by decide +kernel) (by decide +kernel)) (goodIn_sub (fun _ h => List.mem_cons_of_mem _ (List.mem_append_right _ h)) (by decide +kernel))
set_option maxRecDepth 20000 in
theorem gX5_promote_X5_needRole : GoodIn wsX5_promote (wsV RX5 120 RX5 yX5_needRole wsX5_needRole) := goodIn_app (goodIn_of _ (by decide +kernel)) ggX5_promote_X5_needRole
set_option maxRecDepth 20000 in
theorem ggX5_promote_X2_promotable : GoodIn wsX5_promote wsX2_promotable := goodIn_r _ [21, 22, 23, 24, 25, 26, 27, 15, 28, 29, 30, 31, 72, 73, 74, 75, 76, 77, 78, 79, 80, 81, 82, 83, 84, 85, 86, 87, 88] (by decide +kernel) (by decide +kernel)
set_option maxRecDepth 20000 in
theorem gX5_promote_X2_promotable : GoodIn wsX5_promote (wsV RX5 241 RX2 yX2_promotable wsX2_promotable) := goodIn_app (goodIn_of _ (by decide +kernel)) ggX5_promote_X2_promotable
set_option maxRecDepth 20000 in
theorem ggX5_promote_X1_remember : GoodIn wsX5_promote wsX1_remember := goodIn_r _ [36, 37, 38, 39, 40, 41, 42, 15, 43, 44, 22, 45, 46, 23, 47, 48, 49, 50, 51, 17, 24, 52, 53, 54, 55, 56, 57, 58, 59, 89, 90, 91, 72, 73, 74, 75, 76, 77, 78, 79, 80, 81, 82, 83, 84, 85, 86, 87, 88] (by decide +kernel) (by decide +kernel)
set_option maxRecDepth 20000 in
theorem gX5_promote_X1_remember : GoodIn wsX5_promote (wsV RX5 197 RX1 yX1_remember wsX1_remember) := goodIn_app (goodIn_of _ (by decide +kernel)) ggX5_promote_X1_remember
set_option maxRecDepth 20000 in
theorem ggX5_promote_X2_putFirst : GoodIn wsX5_promote wsX2_putFirst := goodIn_r _ [63, 22, 64, 13, 14, 15, 16, 17, 25, 26, 27, 28, 24, 72, 73, 74, 75, 76, 77, 78, 79, 80, 81, 82, 83, 84, 85, 86, 87, 88] (by decide +kernel) (by decide +kernel)
set_option maxRecDepth 20000 in
theorem gX5_promote_X2_putFirst : GoodIn wsX5_promote (wsV RX5 216 RX2 yX2_putFirst wsX2_putFirst) := goodIn_app (goodIn_of _ (by decide +kernel)) ggX5_promote_X2_putFirst
