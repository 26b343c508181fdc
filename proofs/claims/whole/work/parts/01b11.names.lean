theorem dX6_missed_38 : decode cX6_missed 38 = .ok (.iconst 4, 1) := by decide +kernel
theorem dX6_missed_39 : decode cX6_missed 39 = .ok (.iaload, 1) := by decide +kernel
theorem dX6_missed_40 : decode cX6_missed 40 = .ok (.if_icmp .ge 68, 3) := by decide +kernel
theorem dX6_missed_43 : decode cX6_missed 43 = .ok (.aload_n 0, 1) := by decide +kernel
theorem dX6_missed_44 : decode cX6_missed 44 = .ok (.getfield 7, 3) := by decide +kernel
theorem dX6_missed_47 : decode cX6_missed 47 = .ok (.iload_n 3, 1) := by decide +kernel
theorem dX6_missed_48 : decode cX6_missed 48 = .ok (.invokestatic 65, 3) := by decide +kernel
theorem dX6_missed_51 : decode cX6_missed 51 = .ok (.ifCond .eq 51, 3) := by decide +kernel
theorem dX6_missed_54 : decode cX6_missed 54 = .ok (.aload_n 0, 1) := by decide +kernel
theorem dX6_missed_55 : decode cX6_missed 55 = .ok (.iload_n 3, 1) := by decide +kernel
theorem dX6_missed_56 : decode cX6_missed 56 = .ok (.invokevirtual 166, 3) := by decide +kernel
theorem dX6_missed_59 : decode cX6_missed 59 = .ok (.istore 4, 2) := by decide +kernel
theorem dX6_missed_61 : decode cX6_missed 61 = .ok (.iload_n 1, 1) := by decide +kernel
theorem dX6_missed_62 : decode cX6_missed 62 = .ok (.iconst (-1), 1) := by decide +kernel
theorem dX6_missed_63 : decode cX6_missed 63 = .ok (.if_icmp .eq 9, 3) := by decide +kernel
theorem dX6_missed_66 : decode cX6_missed 66 = .ok (.iload 4, 2) := by decide +kernel
theorem dX6_missed_68 : decode cX6_missed 68 = .ok (.iload_n 2, 1) := by decide +kernel
theorem dX6_missed_69 : decode cX6_missed 69 = .ok (.if_icmp .ge 7, 3) := by decide +kernel
theorem dX6_missed_72 : decode cX6_missed 72 = .ok (.iconst 1, 1) := by decide +kernel
theorem dX6_missed_73 : decode cX6_missed 73 = .ok (.goto 4, 3) := by decide +kernel
theorem dX6_missed_76 : decode cX6_missed 76 = .ok (.iconst 0, 1) := by decide +kernel
theorem dX6_missed_77 : decode cX6_missed 77 = .ok (.istore 5, 2) := by decide +kernel
theorem dX6_missed_79 : decode cX6_missed 79 = .ok (.iload 5, 2) := by decide +kernel
theorem dX6_missed_81 : decode cX6_missed 81 = .ok (.ifCond .eq 7, 3) := by decide +kernel
theorem dX6_missed_84 : decode cX6_missed 84 = .ok (.iload_n 3, 1) := by decide +kernel
theorem dX6_missed_85 : decode cX6_missed 85 = .ok (.goto 4, 3) := by decide +kernel
theorem dX6_missed_88 : decode cX6_missed 88 = .ok (.iload_n 1, 1) := by decide +kernel
theorem dX6_missed_89 : decode cX6_missed 89 = .ok (.istore_n 1, 1) := by decide +kernel
theorem dX6_missed_90 : decode cX6_missed 90 = .ok (.iload 5, 2) := by decide +kernel
theorem dX6_missed_92 : decode cX6_missed 92 = .ok (.ifCond .eq 8, 3) := by decide +kernel
theorem dX6_missed_95 : decode cX6_missed 95 = .ok (.iload 4, 2) := by decide +kernel
theorem dX6_missed_97 : decode cX6_missed 97 = .ok (.goto 4, 3) := by decide +kernel
theorem dX6_missed_100 : decode cX6_missed 100 = .ok (.iload_n 2, 1) := by decide +kernel
theorem dX6_missed_101 : decode cX6_missed 101 = .ok (.istore_n 2, 1) := by decide +kernel
theorem dX6_missed_102 : decode cX6_missed 102 = .ok (.iinc 3 1, 3) := by decide +kernel
theorem dX6_missed_105 : decode cX6_missed 105 = .ok (.goto (-72), 3) := by decide +kernel
theorem dX6_missed_108 : decode cX6_missed 108 = .ok (.iload_n 1, 1) := by decide +kernel
theorem dX6_missed_109 : decode cX6_missed 109 = .ok (.ireturn, 1) := by decide +kernel
set_option maxRecDepth 20000 in
theorem ggX6_coming_X6_in : GoodIn wsX6_coming wsX6_in := goodIn_r _ [7] (by decide +kernel) (by decide +kernel)
set_option maxRecDepth 20000 in
theorem gX6_coming_X6_in : GoodIn wsX6_coming (va_wsS RX6 46 yX6_in wsX6_in) := goodIn_app (goodIn_of _ (by decide +kernel)) ggX6_coming_X6_in
set_option maxRecDepth 20000 in
theorem ggX6_coming_X6_fails : GoodIn wsX6_coming wsX6_fails := goodIn_r _ [11, 1, 54, 55, 56, 57, 58, 59, 60, 61, 62, 63, 64, 65, 66, 67] (by decide +kernel) (by decide +kernel)
set_option maxRecDepth 20000 in
theorem gX6_coming_X6_fails : GoodIn wsX6_coming (wsV RX6 57 RX6 yX6_fails wsX6_fails) := goodIn_app (goodIn_of _ (by decide +kernel)) ggX6_coming_X6_fails
set_option maxRecDepth 20000 in
theorem ggX6_coming_X6_tries : GoodIn wsX6_coming wsX6_tries := goodIn_r _ [15, 2, 3, 16, 17, 6, 18, 54, 55, 56, 57, 58, 59, 60, 61, 62, 63, 64, 65, 66, 67] (by decide +kernel) (by decide +kernel)
set_option maxRecDepth 20000 in
theorem gX6_coming_X6_tries : GoodIn wsX6_coming (wsV RX6 163 RX6 yX6_tries wsX6_tries) := goodIn_app (goodIn_of _ (by decide +kernel)) ggX6_coming_X6_tries
set_option maxRecDepth 20000 in
theorem ggX6_coming_X6_plays : GoodIn wsX6_coming wsX6_plays := goodIn_r _ [22, 23, 24, 25, 26, 6, 27, 28, 29, 30, 31, 32, 33, 34, 35, 36, 37, 38, 39, 40, 41, 42, 43, 44, 45, 46, 47, 48, 49, 50, 51, 52, 53, 54, 55, 56, 57, 58, 59, 60, 61, 62, 63, 64, 65, 66, 67] (by decide +kernel) (by decide +kernel)
set_option maxRecDepth 20000 in
theorem gX6_coming_X6_plays : GoodIn wsX6_coming (wsV RX6 127 RX6 yX6_plays wsX6_plays) := goodIn_app (goodIn_of _ (by decide +kernel)) ggX6_coming_X6_plays
theorem dX6_coming_0 : decode cX6_coming 0 = .ok (.aload_n 0, 1) := by decide +kernel
theorem dX6_coming_1 : decode cX6_coming 1 = .ok (.iconst 0, 1) := by decide +kernel
theorem dX6_coming_2 : decode cX6_coming 2 = .ok (.putfield 42, 3) := by decide +kernel
theorem dX6_coming_5 : decode cX6_coming 5 = .ok (.iload_n 1, 1) := by decide +kernel
theorem dX6_coming_6 : decode cX6_coming 6 = .ok (.iconst 1, 1) := by decide +kernel
theorem dX6_coming_7 : decode cX6_coming 7 = .ok (.bipush 30, 2) := by decide +kernel
theorem dX6_coming_9 : decode cX6_coming 9 = .ok (.invokestatic 46, 3) := by decide +kernel
theorem dX6_coming_12 : decode cX6_coming 12 = .ok (.ifCond .ne 9, 3) := by decide +kernel
theorem dX6_coming_15 : decode cX6_coming 15 = .ok (.aload_n 0, 1) := by decide +kernel
theorem dX6_coming_16 : decode cX6_coming 16 = .ok (.iconst 1, 1) := by decide +kernel
theorem dX6_coming_17 : decode cX6_coming 17 = .ok (.invokevirtual 57, 3) := by decide +kernel
theorem dX6_coming_20 : decode cX6_coming 20 = .ok (.ireturn, 1) := by decide +kernel
theorem dX6_coming_21 : decode cX6_coming 21 = .ok (.aload_n 0, 1) := by decide +kernel
theorem dX6_coming_22 : decode cX6_coming 22 = .ok (.getfield 7, 3) := by decide +kernel
theorem dX6_coming_25 : decode cX6_coming 25 = .ok (.iconst 3, 1) := by decide +kernel
theorem dX6_coming_26 : decode cX6_coming 26 = .ok (.iaload, 1) := by decide +kernel
theorem dX6_coming_27 : decode cX6_coming 27 = .ok (.ifCond .ne 9, 3) := by decide +kernel
theorem dX6_coming_30 : decode cX6_coming 30 = .ok (.aload_n 0, 1) := by decide +kernel
theorem dX6_coming_31 : decode cX6_coming 31 = .ok (.iconst 2, 1) := by decide +kernel
theorem dX6_coming_32 : decode cX6_coming 32 = .ok (.invokevirtual 57, 3) := by decide +kernel
theorem dX6_coming_35 : decode cX6_coming 35 = .ok (.ireturn, 1) := by decide +kernel
theorem dX6_coming_36 : decode cX6_coming 36 = .ok (.aload_n 0, 1) := by decide +kernel
theorem dX6_coming_37 : decode cX6_coming 37 = .ok (.invokevirtual 163, 3) := by decide +kernel
theorem dX6_coming_40 : decode cX6_coming 40 = .ok (.iconst 0, 1) := by decide +kernel
theorem dX6_coming_41 : decode cX6_coming 41 = .ok (.istore_n 2, 1) := by decide +kernel
theorem dX6_coming_42 : decode cX6_coming 42 = .ok (.iconst 0, 1) := by decide +kernel
theorem dX6_coming_43 : decode cX6_coming 43 = .ok (.istore_n 3, 1) := by decide +kernel
theorem dX6_coming_44 : decode cX6_coming 44 = .ok (.iload_n 3, 1) := by decide +kernel
theorem dX6_coming_45 : decode cX6_coming 45 = .ok (.iload_n 1, 1) := by decide +kernel
theorem dX6_coming_46 : decode cX6_coming 46 = .ok (.if_icmp .ge 31, 3) := by decide +kernel
theorem dX6_coming_49 : decode cX6_coming 49 = .ok (.iload_n 2, 1) := by decide +kernel
theorem dX6_coming_50 : decode cX6_coming 50 = .ok (.aload_n 0, 1) := by decide +kernel
theorem dX6_coming_51 : decode cX6_coming 51 = .ok (.aload_n 0, 1) := by decide +kernel
theorem dX6_coming_52 : decode cX6_coming 52 = .ok (.getfield 13, 3) := by decide +kernel
theorem dX6_coming_55 : decode cX6_coming 55 = .ok (.invokevirtual 127, 3) := by decide +kernel
theorem dX6_coming_58 : decode cX6_coming 58 = .ok (.iconst (-1), 1) := by decide +kernel
theorem dX6_coming_59 : decode cX6_coming 59 = .ok (.if_icmp .ne 7, 3) := by decide +kernel
theorem dX6_coming_62 : decode cX6_coming 62 = .ok (.iconst 0, 1) := by decide +kernel
theorem dX6_coming_63 : decode cX6_coming 63 = .ok (.goto 6, 3) := by decide +kernel
theorem dX6_coming_66 : decode cX6_coming 66 = .ok (.iconst 1, 1) := by decide +kernel
theorem dX6_coming_67 : decode cX6_coming 67 = .ok (.iload_n 3, 1) := by decide +kernel
theorem dX6_coming_68 : decode cX6_coming 68 = .ok (.ishl, 1) := by decide +kernel
theorem dX6_coming_69 : decode cX6_coming 69 = .ok (.ior, 1) := by decide +kernel
theorem dX6_coming_70 : decode cX6_coming 70 = .ok (.istore_n 2, 1) := by decide +kernel
theorem dX6_coming_71 : decode cX6_coming 71 = .ok (.iinc 3 1, 3) := by decide +kernel
theorem dX6_coming_74 : decode cX6_coming 74 = .ok (.goto (-30), 3) := by decide +kernel
theorem dX6_coming_77 : decode cX6_coming 77 = .ok (.iload_n 2, 1) := by decide +kernel
theorem dX6_coming_78 : decode cX6_coming 78 = .ok (.ireturn, 1) := by decide +kernel
set_option maxRecDepth 20000 in
theorem ggX6_degreeFor_X6_isPlayer : GoodIn wsX6_degreeFor wsX6_isPlayer := goodIn_r _ [7, 8, 9, 6, 10] (by decide +kernel) (by decide +kernel)
set_option maxRecDepth 20000 in
theorem gX6_degreeFor_X6_isPlayer : GoodIn wsX6_degreeFor (va_wsS RX6 133 yX6_isPlayer wsX6_isPlayer) := goodIn_app (goodIn_of _ (by decide +kernel)) ggX6_degreeFor_X6_isPlayer
set_option maxRecDepth 20000 in
theorem ggX6_degreeFor_X6_isRole : GoodIn wsX6_degreeFor wsX6_isRole := goodIn_r _ [13, 8, 9, 6, 10] (by decide +kernel) (by decide +kernel)
set_option maxRecDepth 20000 in
theorem gX6_degreeFor_X6_isRole : GoodIn wsX6_degreeFor (va_wsS RX6 130 yX6_isRole wsX6_isRole) := goodIn_app (goodIn_of _ (by decide +kernel)) ggX6_degreeFor_X6_isRole
set_option maxRecDepth 20000 in
theorem ggX6_degreeFor_X6_fails : GoodIn wsX6_degreeFor wsX6_fails := goodIn_r _ [17, 1, 54, 55, 56, 57, 58, 59, 60, 61, 62, 63, 64, 65, 66, 67] (by decide +kernel) (by decide +kernel)
set_option maxRecDepth 20000 in
theorem gX6_degreeFor_X6_fails : GoodIn wsX6_degreeFor (wsV RX6 57 RX6 yX6_fails wsX6_fails) := goodIn_app (goodIn_of _ (by decide +kernel)) ggX6_degreeFor_X6_fails
set_option maxRecDepth 20000 in
theorem ggX6_degreeFor_X6_tries : GoodIn wsX6_degreeFor wsX6_tries := goodIn_r _ [21, 2, 3, 22, 23, 6, 24, 54, 55, 56, 57, 58, 59, 60, 61, 62, 63, 64, 65, 66, 67] (by decide +kernel) (by decide +kernel)
set_option maxRecDepth 20000 in
theorem gX6_degreeFor_X6_tries : GoodIn wsX6_degreeFor (wsV RX6 163 RX6 yX6_tries wsX6_tries) := goodIn_app (goodIn_of _ (by decide +kernel)) ggX6_degreeFor_X6_tries
set_option maxRecDepth 20000 in
theorem ggX6_degreeFor_X6_castFor : GoodIn wsX6_degreeFor wsX6_castFor := goodIn_r _ [28, 29, 30, 31, 32, 6, 33, 34, 35, 36, 37, 38, 39, 40, 41, 42, 43, 44, 45, 46, 47, 48, 49, 50, 51, 52, 53, 54, 55, 56, 57, 58, 59, 60, 61, 62, 63, 64, 65, 66, 67] (by decide +kernel) (by decide +kernel)
set_option maxRecDepth 20000 in
theorem gX6_degreeFor_X6_castFor : GoodIn wsX6_degreeFor (wsV RX6 140 RX6 yX6_castFor wsX6_castFor) := goodIn_app (goodIn_of _ (by decide +kernel)) ggX6_degreeFor_X6_castFor
theorem dX6_degreeFor_0 : decode cX6_degreeFor 0 = .ok (.aload_n 0, 1) := by decide +kernel
theorem dX6_degreeFor_1 : decode cX6_degreeFor 1 = .ok (.iconst 0, 1) := by decide +kernel
theorem dX6_degreeFor_2 : decode cX6_degreeFor 2 = .ok (.putfield 42, 3) := by decide +kernel
theorem dX6_degreeFor_5 : decode cX6_degreeFor 5 = .ok (.aload_n 0, 1) := by decide +kernel
theorem dX6_degreeFor_6 : decode cX6_degreeFor 6 = .ok (.getfield 7, 3) := by decide +kernel
theorem dX6_degreeFor_9 : decode cX6_degreeFor 9 = .ok (.iload_n 1, 1) := by decide +kernel
theorem dX6_degreeFor_10 : decode cX6_degreeFor 10 = .ok (.invokestatic 133, 3) := by decide +kernel
theorem dX6_degreeFor_13 : decode cX6_degreeFor 13 = .ok (.ifCond .eq 14, 3) := by decide +kernel
theorem dX6_degreeFor_16 : decode cX6_degreeFor 16 = .ok (.aload_n 0, 1) := by decide +kernel
theorem dX6_degreeFor_17 : decode cX6_degreeFor 17 = .ok (.getfield 7, 3) := by decide +kernel
theorem dX6_degreeFor_20 : decode cX6_degreeFor 20 = .ok (.iload_n 2, 1) := by decide +kernel
theorem dX6_degreeFor_21 : decode cX6_degreeFor 21 = .ok (.invokestatic 130, 3) := by decide +kernel
theorem dX6_degreeFor_24 : decode cX6_degreeFor 24 = .ok (.ifCond .ne 9, 3) := by decide +kernel
theorem dX6_degreeFor_27 : decode cX6_degreeFor 27 = .ok (.aload_n 0, 1) := by decide +kernel
theorem dX6_degreeFor_28 : decode cX6_degreeFor 28 = .ok (.iconst 1, 1) := by decide +kernel
theorem dX6_degreeFor_29 : decode cX6_degreeFor 29 = .ok (.invokevirtual 57, 3) := by decide +kernel
theorem dX6_degreeFor_32 : decode cX6_degreeFor 32 = .ok (.ireturn, 1) := by decide +kernel
theorem dX6_degreeFor_33 : decode cX6_degreeFor 33 = .ok (.aload_n 0, 1) := by decide +kernel
theorem dX6_degreeFor_34 : decode cX6_degreeFor 34 = .ok (.invokevirtual 163, 3) := by decide +kernel
theorem dX6_degreeFor_37 : decode cX6_degreeFor 37 = .ok (.iconst 1, 1) := by decide +kernel
theorem dX6_degreeFor_38 : decode cX6_degreeFor 38 = .ok (.istore_n 3, 1) := by decide +kernel
theorem dX6_degreeFor_39 : decode cX6_degreeFor 39 = .ok (.iload_n 3, 1) := by decide +kernel
theorem dX6_degreeFor_40 : decode cX6_degreeFor 40 = .ok (.bipush 10, 2) := by decide +kernel
theorem dX6_degreeFor_42 : decode cX6_degreeFor 42 = .ok (.if_icmp .ge 39, 3) := by decide +kernel
theorem dX6_degreeFor_45 : decode cX6_degreeFor 45 = .ok (.aload_n 0, 1) := by decide +kernel
theorem dX6_degreeFor_46 : decode cX6_degreeFor 46 = .ok (.getfield 13, 3) := by decide +kernel
theorem dX6_degreeFor_49 : decode cX6_degreeFor 49 = .ok (.bipush 70, 2) := by decide +kernel
theorem dX6_degreeFor_51 : decode cX6_degreeFor 51 = .ok (.bipush 6, 2) := by decide +kernel
theorem dX6_degreeFor_53 : decode cX6_degreeFor 53 = .ok (.iload_n 1, 1) := by decide +kernel
theorem dX6_degreeFor_54 : decode cX6_degreeFor 54 = .ok (.imul, 1) := by decide +kernel
theorem dX6_degreeFor_55 : decode cX6_degreeFor 55 = .ok (.iadd, 1) := by decide +kernel
theorem dX6_degreeFor_56 : decode cX6_degreeFor 56 = .ok (.iload_n 2, 1) := by decide +kernel
theorem dX6_degreeFor_57 : decode cX6_degreeFor 57 = .ok (.iadd, 1) := by decide +kernel
theorem dX6_degreeFor_58 : decode cX6_degreeFor 58 = .ok (.iload_n 3, 1) := by decide +kernel
theorem dX6_degreeFor_59 : decode cX6_degreeFor 59 = .ok (.iastore, 1) := by decide +kernel
theorem dX6_degreeFor_60 : decode cX6_degreeFor 60 = .ok (.aload_n 0, 1) := by decide +kernel
theorem dX6_degreeFor_61 : decode cX6_degreeFor 61 = .ok (.aload_n 0, 1) := by decide +kernel
theorem dX6_degreeFor_62 : decode cX6_degreeFor 62 = .ok (.getfield 13, 3) := by decide +kernel
theorem dX6_degreeFor_65 : decode cX6_degreeFor 65 = .ok (.iload_n 2, 1) := by decide +kernel
theorem dX6_degreeFor_66 : decode cX6_degreeFor 66 = .ok (.invokevirtual 140, 3) := by decide +kernel
theorem dX6_degreeFor_69 : decode cX6_degreeFor 69 = .ok (.iload_n 1, 1) := by decide +kernel
theorem dX6_degreeFor_70 : decode cX6_degreeFor 70 = .ok (.if_icmp .ne 5, 3) := by decide +kernel
theorem dX6_degreeFor_73 : decode cX6_degreeFor 73 = .ok (.iload_n 3, 1) := by decide +kernel
theorem dX6_degreeFor_74 : decode cX6_degreeFor 74 = .ok (.ireturn, 1) := by decide +kernel
theorem dX6_degreeFor_75 : decode cX6_degreeFor 75 = .ok (.iinc 3 1, 3) := by decide +kernel
theorem dX6_degreeFor_78 : decode cX6_degreeFor 78 = .ok (.goto (-39), 3) := by decide +kernel
theorem dX6_degreeFor_81 : decode cX6_degreeFor 81 = .ok (.iconst (-1), 1) := by decide +kernel
theorem dX6_degreeFor_82 : decode cX6_degreeFor 82 = .ok (.ireturn, 1) := by decide +kernel
set_option maxRecDepth 20000 in
theorem ggX6_succeeds_X6_isPlayer : GoodIn wsX6_succeeds wsX6_isPlayer := goodIn_r _ [5, 6, 7, 4, 8] (by decide +kernel) (by decide +kernel)
set_option maxRecDepth 20000 in
theorem gX6_succeeds_X6_isPlayer : GoodIn wsX6_succeeds (va_wsS RX6 133 yX6_isPlayer wsX6_isPlayer) := goodIn_app (goodIn_of _ (by decide +kernel)) ggX6_succeeds_X6_isPlayer
set_option maxRecDepth 20000 in
theorem ggX6_succeeds_X6_isRole : GoodIn wsX6_succeeds wsX6_isRole := goodIn_r _ [11, 6, 7, 4, 8] (by decide +kernel) (by decide +kernel)
set_option maxRecDepth 20000 in
theorem gX6_succeeds_X6_isRole : GoodIn wsX6_succeeds (va_wsS RX6 130 yX6_isRole wsX6_isRole) := goodIn_app (goodIn_of _ (by decide +kernel)) ggX6_succeeds_X6_isRole
set_option maxRecDepth 20000 in
theorem ggX6_succeeds_X6_posts : GoodIn wsX6_succeeds wsX6_posts := goodIn_r _ [15, 16, 17, 18, 19, 4, 20, 21, 22, 23, 24, 25, 26, 27, 28, 29, 30, 31, 32, 33, 34, 35, 36, 37, 38, 39, 40, 61, 62, 63, 64, 65, 66, 67, 68, 69, 70, 71, 72, 73, 74] (by decide +kernel) (by decide +kernel)
set_option maxRecDepth 20000 in
theorem gX6_succeeds_X6_posts : GoodIn wsX6_succeeds (wsV RX6 154 RX6 yX6_posts wsX6_posts) := goodIn_app (goodIn_of _ (by decide +kernel)) ggX6_succeeds_X6_posts
set_option maxRecDepth 20000 in
theorem ggX6_succeeds_X6_plays : GoodIn wsX6_succeeds wsX6_plays := goodIn_r _ [44, 16, 17, 18, 19, 4, 20, 21, 22, 23, 24, 25, 26, 27, 28, 29, 30, 31, 32, 33, 34, 35, 36, 37, 38, 39, 40, 45, 46, 47, 48, 49, 50, 61, 62, 63, 64, 65, 66, 67, 68, 69, 70, 71, 72, 73, 74] (by decide +kernel) (by decide +kernel)
set_option maxRecDepth 20000 in
theorem gX6_succeeds_X6_plays : GoodIn wsX6_succeeds (wsV RX6 127 RX6 yX6_plays wsX6_plays) := goodIn_app (goodIn_of _ (by decide +kernel)) ggX6_succeeds_X6_plays
set_option maxRecDepth 20000 in
theorem ggX6_succeeds_X6_darkens : GoodIn wsX6_succeeds wsX6_darkens := goodIn_r _ [53, 48, 49, 4, 50, 54, 55, 56] (by decide +kernel) (by decide +kernel)
set_option maxRecDepth 20000 in
theorem gX6_succeeds_X6_darkens : GoodIn wsX6_succeeds (va_wsS RX6 124 yX6_darkens wsX6_darkens) := goodIn_app (goodIn_of _ (by decide +kernel)) ggX6_succeeds_X6_darkens
set_option maxRecDepth 20000 in
theorem ggX6_succeeds_X6_castFor : GoodIn wsX6_succeeds wsX6_castFor := goodIn_r _ [60, 16, 17, 18, 19, 4, 20, 21, 22, 23, 24, 25, 26, 27, 28, 29, 30, 31, 32, 33, 34, 35, 36, 37, 38, 39, 40, 61, 62, 63, 64, 65, 66, 67, 68, 69, 70, 71, 72, 73, 74] (by decide +kernel) (by decide +kernel)
set_option maxRecDepth 20000 in
theorem gX6_succeeds_X6_castFor : GoodIn wsX6_succeeds (wsV RX6 140 RX6 yX6_castFor wsX6_castFor) := goodIn_app (goodIn_of _ (by decide +kernel)) ggX6_succeeds_X6_castFor
set_option maxRecDepth 20000 in
theorem ggX6_succeeds_X6_casts : GoodIn wsX6_succeeds wsX6_casts := goodIn_r _ [20, 21, 16, 22, 23, 4, 24, 25, 26, 27, 28, 29, 30, 31, 32, 33, 34, 35, 36, 37, 38, 39, 40, 61, 62, 63, 64, 65, 66, 67, 68, 69, 70, 71, 72, 73, 74] (by decide +kernel) (by decide +kernel)
set_option maxRecDepth 20000 in
theorem gX6_succeeds_X6_casts : GoodIn wsX6_succeeds (wsV RX6 83 RX6 yX6_casts wsX6_casts) := goodIn_app (goodIn_of _ (by decide +kernel)) ggX6_succeeds_X6_casts
theorem dX6_succeeds_0 : decode cX6_succeeds 0 = .ok (.iload_n 1, 1) := by decide +kernel
theorem dX6_succeeds_1 : decode cX6_succeeds 1 = .ok (.bipush 100, 2) := by decide +kernel
theorem dX6_succeeds_3 : decode cX6_succeeds 3 = .ok (.idiv, 1) := by decide +kernel
theorem dX6_succeeds_4 : decode cX6_succeeds 4 = .ok (.bipush 10, 2) := by decide +kernel
theorem dX6_succeeds_6 : decode cX6_succeeds 6 = .ok (.irem, 1) := by decide +kernel
theorem dX6_succeeds_7 : decode cX6_succeeds 7 = .ok (.istore_n 2, 1) := by decide +kernel
theorem dX6_succeeds_8 : decode cX6_succeeds 8 = .ok (.iload_n 1, 1) := by decide +kernel
theorem dX6_succeeds_9 : decode cX6_succeeds 9 = .ok (.bipush 10, 2) := by decide +kernel
theorem dX6_succeeds_11 : decode cX6_succeeds 11 = .ok (.idiv, 1) := by decide +kernel
theorem dX6_succeeds_12 : decode cX6_succeeds 12 = .ok (.bipush 10, 2) := by decide +kernel
theorem dX6_succeeds_14 : decode cX6_succeeds 14 = .ok (.irem, 1) := by decide +kernel
theorem dX6_succeeds_15 : decode cX6_succeeds 15 = .ok (.istore_n 3, 1) := by decide +kernel
theorem dX6_succeeds_16 : decode cX6_succeeds 16 = .ok (.iload_n 1, 1) := by decide +kernel
theorem dX6_succeeds_17 : decode cX6_succeeds 17 = .ok (.bipush 10, 2) := by decide +kernel
theorem dX6_succeeds_19 : decode cX6_succeeds 19 = .ok (.irem, 1) := by decide +kernel
theorem dX6_succeeds_20 : decode cX6_succeeds 20 = .ok (.istore 4, 2) := by decide +kernel
theorem dX6_succeeds_22 : decode cX6_succeeds 22 = .ok (.iload_n 1, 1) := by decide +kernel
theorem dX6_succeeds_23 : decode cX6_succeeds 23 = .ok (.sipush 1000, 3) := by decide +kernel
theorem dX6_succeeds_26 : decode cX6_succeeds 26 = .ok (.idiv, 1) := by decide +kernel
theorem dX6_succeeds_27 : decode cX6_succeeds 27 = .ok (.tableswitch 368 1 9 #[49, 91, 132, 174, 207, 241, 267, 313, 335], 49) := by decide +kernel
theorem dX6_succeeds_76 : decode cX6_succeeds 76 = .ok (.aload_n 0, 1) := by decide +kernel
theorem dX6_succeeds_77 : decode cX6_succeeds 77 = .ok (.getfield 13, 3) := by decide +kernel
theorem dX6_succeeds_80 : decode cX6_succeeds 80 = .ok (.iload_n 2, 1) := by decide +kernel
theorem dX6_succeeds_81 : decode cX6_succeeds 81 = .ok (.invokestatic 133, 3) := by decide +kernel
theorem dX6_succeeds_84 : decode cX6_succeeds 84 = .ok (.ifCond .eq 32, 3) := by decide +kernel
theorem dX6_succeeds_87 : decode cX6_succeeds 87 = .ok (.aload_n 0, 1) := by decide +kernel
theorem dX6_succeeds_88 : decode cX6_succeeds 88 = .ok (.getfield 13, 3) := by decide +kernel
theorem dX6_succeeds_91 : decode cX6_succeeds 91 = .ok (.iload_n 3, 1) := by decide +kernel
theorem dX6_succeeds_92 : decode cX6_succeeds 92 = .ok (.invokestatic 130, 3) := by decide +kernel
theorem dX6_succeeds_95 : decode cX6_succeeds 95 = .ok (.ifCond .eq 21, 3) := by decide +kernel
theorem dX6_succeeds_98 : decode cX6_succeeds 98 = .ok (.aload_n 0, 1) := by decide +kernel
theorem dX6_succeeds_99 : decode cX6_succeeds 99 = .ok (.getfield 13, 3) := by decide +kernel
theorem dX6_succeeds_102 : decode cX6_succeeds 102 = .ok (.bipush 70, 2) := by decide +kernel
theorem dX6_succeeds_104 : decode cX6_succeeds 104 = .ok (.bipush 6, 2) := by decide +kernel
theorem dX6_succeeds_106 : decode cX6_succeeds 106 = .ok (.iload_n 2, 1) := by decide +kernel
theorem dX6_succeeds_107 : decode cX6_succeeds 107 = .ok (.imul, 1) := by decide +kernel
theorem dX6_succeeds_108 : decode cX6_succeeds 108 = .ok (.iadd, 1) := by decide +kernel
theorem dX6_succeeds_109 : decode cX6_succeeds 109 = .ok (.iload_n 3, 1) := by decide +kernel
theorem dX6_succeeds_110 : decode cX6_succeeds 110 = .ok (.iadd, 1) := by decide +kernel
theorem dX6_succeeds_111 : decode cX6_succeeds 111 = .ok (.iload 4, 2) := by decide +kernel
theorem dX6_succeeds_113 : decode cX6_succeeds 113 = .ok (.iastore, 1) := by decide +kernel
theorem dX6_succeeds_114 : decode cX6_succeeds 114 = .ok (.iconst 1, 1) := by decide +kernel
theorem dX6_succeeds_115 : decode cX6_succeeds 115 = .ok (.ireturn, 1) := by decide +kernel
theorem dX6_succeeds_116 : decode cX6_succeeds 116 = .ok (.iconst 0, 1) := by decide +kernel
theorem dX6_succeeds_117 : decode cX6_succeeds 117 = .ok (.ireturn, 1) := by decide +kernel
theorem dX6_succeeds_118 : decode cX6_succeeds 118 = .ok (.aload_n 0, 1) := by decide +kernel
theorem dX6_succeeds_119 : decode cX6_succeeds 119 = .ok (.getfield 13, 3) := by decide +kernel
theorem dX6_succeeds_122 : decode cX6_succeeds 122 = .ok (.iload_n 2, 1) := by decide +kernel
theorem dX6_succeeds_123 : decode cX6_succeeds 123 = .ok (.invokestatic 130, 3) := by decide +kernel
theorem dX6_succeeds_126 : decode cX6_succeeds 126 = .ok (.ifCond .eq 31, 3) := by decide +kernel
theorem dX6_succeeds_129 : decode cX6_succeeds 129 = .ok (.aload_n 0, 1) := by decide +kernel
theorem dX6_succeeds_130 : decode cX6_succeeds 130 = .ok (.getfield 13, 3) := by decide +kernel
theorem dX6_succeeds_133 : decode cX6_succeeds 133 = .ok (.iload_n 3, 1) := by decide +kernel
theorem dX6_succeeds_134 : decode cX6_succeeds 134 = .ok (.invokestatic 133, 3) := by decide +kernel
theorem dX6_succeeds_137 : decode cX6_succeeds 137 = .ok (.ifCond .eq 20, 3) := by decide +kernel
theorem dX6_succeeds_140 : decode cX6_succeeds 140 = .ok (.iload 4, 2) := by decide +kernel
theorem dX6_succeeds_142 : decode cX6_succeeds 142 = .ok (.ifCond .ne 15, 3) := by decide +kernel
theorem dX6_succeeds_145 : decode cX6_succeeds 145 = .ok (.aload_n 0, 1) := by decide +kernel
theorem dX6_succeeds_146 : decode cX6_succeeds 146 = .ok (.getfield 13, 3) := by decide +kernel
theorem dX6_succeeds_149 : decode cX6_succeeds 149 = .ok (.bipush 18, 2) := by decide +kernel
theorem dX6_succeeds_151 : decode cX6_succeeds 151 = .ok (.iload_n 2, 1) := by decide +kernel
theorem dX6_succeeds_152 : decode cX6_succeeds 152 = .ok (.iadd, 1) := by decide +kernel
theorem dX6_succeeds_153 : decode cX6_succeeds 153 = .ok (.iload_n 3, 1) := by decide +kernel
theorem dX6_succeeds_154 : decode cX6_succeeds 154 = .ok (.iastore, 1) := by decide +kernel
theorem dX6_succeeds_155 : decode cX6_succeeds 155 = .ok (.iconst 1, 1) := by decide +kernel
theorem dX6_succeeds_156 : decode cX6_succeeds 156 = .ok (.ireturn, 1) := by decide +kernel
theorem dX6_succeeds_157 : decode cX6_succeeds 157 = .ok (.iconst 0, 1) := by decide +kernel
theorem dX6_succeeds_158 : decode cX6_succeeds 158 = .ok (.ireturn, 1) := by decide +kernel
theorem dX6_succeeds_159 : decode cX6_succeeds 159 = .ok (.aload_n 0, 1) := by decide +kernel
theorem dX6_succeeds_160 : decode cX6_succeeds 160 = .ok (.getfield 13, 3) := by decide +kernel
theorem dX6_succeeds_163 : decode cX6_succeeds 163 = .ok (.iload_n 2, 1) := by decide +kernel
theorem dX6_succeeds_164 : decode cX6_succeeds 164 = .ok (.invokestatic 133, 3) := by decide +kernel
theorem dX6_succeeds_167 : decode cX6_succeeds 167 = .ok (.ifCond .eq 32, 3) := by decide +kernel
theorem dX6_succeeds_170 : decode cX6_succeeds 170 = .ok (.iload_n 3, 1) := by decide +kernel
theorem dX6_succeeds_171 : decode cX6_succeeds 171 = .ok (.ifCond .ne 28, 3) := by decide +kernel
theorem dX6_succeeds_174 : decode cX6_succeeds 174 = .ok (.iload 4, 2) := by decide +kernel
theorem dX6_succeeds_176 : decode cX6_succeeds 176 = .ok (.ifCond .le 23, 3) := by decide +kernel
theorem dX6_succeeds_179 : decode cX6_succeeds 179 = .ok (.aload_n 0, 1) := by decide +kernel
theorem dX6_succeeds_180 : decode cX6_succeeds 180 = .ok (.getfield 13, 3) := by decide +kernel
theorem dX6_succeeds_183 : decode cX6_succeeds 183 = .ok (.bipush 50, 2) := by decide +kernel
theorem dX6_succeeds_185 : decode cX6_succeeds 185 = .ok (.iload_n 2, 1) := by decide +kernel
theorem dX6_succeeds_186 : decode cX6_succeeds 186 = .ok (.iadd, 1) := by decide +kernel
theorem dX6_succeeds_187 : decode cX6_succeeds 187 = .ok (.aload_n 0, 1) := by decide +kernel
theorem dX6_succeeds_188 : decode cX6_succeeds 188 = .ok (.getfield 13, 3) := by decide +kernel
theorem dX6_succeeds_191 : decode cX6_succeeds 191 = .ok (.iconst 0, 1) := by decide +kernel
theorem dX6_succeeds_192 : decode cX6_succeeds 192 = .ok (.iaload, 1) := by decide +kernel
theorem dX6_succeeds_193 : decode cX6_succeeds 193 = .ok (.iload 4, 2) := by decide +kernel
theorem dX6_succeeds_195 : decode cX6_succeeds 195 = .ok (.iadd, 1) := by decide +kernel
theorem dX6_succeeds_196 : decode cX6_succeeds 196 = .ok (.iastore, 1) := by decide +kernel
theorem dX6_succeeds_197 : decode cX6_succeeds 197 = .ok (.iconst 1, 1) := by decide +kernel
theorem dX6_succeeds_198 : decode cX6_succeeds 198 = .ok (.ireturn, 1) := by decide +kernel
theorem dX6_succeeds_199 : decode cX6_succeeds 199 = .ok (.iconst 0, 1) := by decide +kernel
theorem dX6_succeeds_200 : decode cX6_succeeds 200 = .ok (.ireturn, 1) := by decide +kernel
theorem dX6_succeeds_201 : decode cX6_succeeds 201 = .ok (.iload_n 1, 1) := by decide +kernel
theorem dX6_succeeds_202 : decode cX6_succeeds 202 = .ok (.sipush 4000, 3) := by decide +kernel
theorem dX6_succeeds_205 : decode cX6_succeeds 205 = .ok (.if_icmp .ne 27, 3) := by decide +kernel
theorem dX6_succeeds_208 : decode cX6_succeeds 208 = .ok (.aload_n 0, 1) := by decide +kernel
theorem dX6_succeeds_209 : decode cX6_succeeds 209 = .ok (.getfield 13, 3) := by decide +kernel
theorem dX6_succeeds_212 : decode cX6_succeeds 212 = .ok (.iconst 3, 1) := by decide +kernel
theorem dX6_succeeds_213 : decode cX6_succeeds 213 = .ok (.iaload, 1) := by decide +kernel
theorem dX6_succeeds_214 : decode cX6_succeeds 214 = .ok (.ifCond .le 18, 3) := by decide +kernel
theorem dX6_succeeds_217 : decode cX6_succeeds 217 = .ok (.aload_n 0, 1) := by decide +kernel
theorem dX6_succeeds_218 : decode cX6_succeeds 218 = .ok (.aload_n 0, 1) := by decide +kernel
theorem dX6_succeeds_219 : decode cX6_succeeds 219 = .ok (.getfield 13, 3) := by decide +kernel
theorem dX6_succeeds_222 : decode cX6_succeeds 222 = .ok (.invokevirtual 154, 3) := by decide +kernel
theorem dX6_succeeds_225 : decode cX6_succeeds 225 = .ok (.ifCond .lt 7, 3) := by decide +kernel
theorem dX6_succeeds_228 : decode cX6_succeeds 228 = .ok (.iconst 1, 1) := by decide +kernel
theorem dX6_succeeds_229 : decode cX6_succeeds 229 = .ok (.goto 4, 3) := by decide +kernel
theorem dX6_succeeds_232 : decode cX6_succeeds 232 = .ok (.iconst 0, 1) := by decide +kernel
theorem dX6_succeeds_233 : decode cX6_succeeds 233 = .ok (.ireturn, 1) := by decide +kernel
theorem dX6_succeeds_234 : decode cX6_succeeds 234 = .ok (.iload_n 1, 1) := by decide +kernel
theorem dX6_succeeds_235 : decode cX6_succeeds 235 = .ok (.sipush 5000, 3) := by decide +kernel
theorem dX6_succeeds_238 : decode cX6_succeeds 238 = .ok (.if_icmp .ne 28, 3) := by decide +kernel
theorem dX6_succeeds_241 : decode cX6_succeeds 241 = .ok (.aload_n 0, 1) := by decide +kernel
theorem dX6_succeeds_242 : decode cX6_succeeds 242 = .ok (.getfield 13, 3) := by decide +kernel
theorem dX6_succeeds_245 : decode cX6_succeeds 245 = .ok (.iconst 3, 1) := by decide +kernel
theorem dX6_succeeds_246 : decode cX6_succeeds 246 = .ok (.iaload, 1) := by decide +kernel
theorem dX6_succeeds_247 : decode cX6_succeeds 247 = .ok (.ifCond .le 19, 3) := by decide +kernel
theorem dX6_succeeds_250 : decode cX6_succeeds 250 = .ok (.aload_n 0, 1) := by decide +kernel
theorem dX6_succeeds_251 : decode cX6_succeeds 251 = .ok (.aload_n 0, 1) := by decide +kernel
theorem dX6_succeeds_252 : decode cX6_succeeds 252 = .ok (.getfield 13, 3) := by decide +kernel
theorem dX6_succeeds_255 : decode cX6_succeeds 255 = .ok (.invokevirtual 127, 3) := by decide +kernel
theorem dX6_succeeds_258 : decode cX6_succeeds 258 = .ok (.iconst (-1), 1) := by decide +kernel
theorem dX6_succeeds_259 : decode cX6_succeeds 259 = .ok (.if_icmp .eq 7, 3) := by decide +kernel
theorem dX6_succeeds_262 : decode cX6_succeeds 262 = .ok (.iconst 1, 1) := by decide +kernel
theorem dX6_succeeds_263 : decode cX6_succeeds 263 = .ok (.goto 4, 3) := by decide +kernel
theorem dX6_succeeds_266 : decode cX6_succeeds 266 = .ok (.iconst 0, 1) := by decide +kernel
theorem dX6_succeeds_267 : decode cX6_succeeds 267 = .ok (.ireturn, 1) := by decide +kernel
theorem dX6_succeeds_268 : decode cX6_succeeds 268 = .ok (.iload_n 2, 1) := by decide +kernel
theorem dX6_succeeds_269 : decode cX6_succeeds 269 = .ok (.ifCond .ne 23, 3) := by decide +kernel
theorem dX6_succeeds_272 : decode cX6_succeeds 272 = .ok (.iload_n 1, 1) := by decide +kernel
theorem dX6_succeeds_273 : decode cX6_succeeds 273 = .ok (.bipush 100, 2) := by decide +kernel
theorem dX6_succeeds_275 : decode cX6_succeeds 275 = .ok (.irem, 1) := by decide +kernel
theorem dX6_succeeds_276 : decode cX6_succeeds 276 = .ok (.ifCond .le 16, 3) := by decide +kernel
theorem dX6_succeeds_279 : decode cX6_succeeds 279 = .ok (.aload_n 0, 1) := by decide +kernel
theorem dX6_succeeds_280 : decode cX6_succeeds 280 = .ok (.getfield 13, 3) := by decide +kernel
theorem dX6_succeeds_283 : decode cX6_succeeds 283 = .ok (.iload_n 1, 1) := by decide +kernel
theorem dX6_succeeds_284 : decode cX6_succeeds 284 = .ok (.bipush 100, 2) := by decide +kernel
theorem dX6_succeeds_286 : decode cX6_succeeds 286 = .ok (.irem, 1) := by decide +kernel
theorem dX6_succeeds_287 : decode cX6_succeeds 287 = .ok (.invokestatic 124, 3) := by decide +kernel
theorem dX6_succeeds_290 : decode cX6_succeeds 290 = .ok (.iconst 1, 1) := by decide +kernel
theorem dX6_succeeds_291 : decode cX6_succeeds 291 = .ok (.ireturn, 1) := by decide +kernel
theorem dX6_succeeds_292 : decode cX6_succeeds 292 = .ok (.iconst 0, 1) := by decide +kernel
theorem dX6_succeeds_293 : decode cX6_succeeds 293 = .ok (.ireturn, 1) := by decide +kernel
theorem dX6_succeeds_294 : decode cX6_succeeds 294 = .ok (.iload 4, 2) := by decide +kernel
theorem dX6_succeeds_296 : decode cX6_succeeds 296 = .ok (.ifCond .ne 42, 3) := by decide +kernel
theorem dX6_succeeds_299 : decode cX6_succeeds 299 = .ok (.aload_n 0, 1) := by decide +kernel
theorem dX6_succeeds_300 : decode cX6_succeeds 300 = .ok (.getfield 13, 3) := by decide +kernel
theorem dX6_succeeds_303 : decode cX6_succeeds 303 = .ok (.iload_n 2, 1) := by decide +kernel
theorem dX6_succeeds_304 : decode cX6_succeeds 304 = .ok (.invokestatic 130, 3) := by decide +kernel
theorem dX6_succeeds_307 : decode cX6_succeeds 307 = .ok (.ifCond .eq 31, 3) := by decide +kernel
theorem dX6_succeeds_310 : decode cX6_succeeds 310 = .ok (.aload_n 0, 1) := by decide +kernel
theorem dX6_succeeds_311 : decode cX6_succeeds 311 = .ok (.getfield 13, 3) := by decide +kernel
theorem dX6_succeeds_314 : decode cX6_succeeds 314 = .ok (.iload_n 3, 1) := by decide +kernel
theorem dX6_succeeds_315 : decode cX6_succeeds 315 = .ok (.invokestatic 133, 3) := by decide +kernel
theorem dX6_succeeds_318 : decode cX6_succeeds 318 = .ok (.ifCond .eq 20, 3) := by decide +kernel
theorem dX6_succeeds_321 : decode cX6_succeeds 321 = .ok (.aload_n 0, 1) := by decide +kernel
theorem dX6_succeeds_322 : decode cX6_succeeds 322 = .ok (.aload_n 0, 1) := by decide +kernel
theorem dX6_succeeds_323 : decode cX6_succeeds 323 = .ok (.getfield 13, 3) := by decide +kernel
theorem dX6_succeeds_326 : decode cX6_succeeds 326 = .ok (.iload_n 2, 1) := by decide +kernel
theorem dX6_succeeds_327 : decode cX6_succeeds 327 = .ok (.invokevirtual 140, 3) := by decide +kernel
theorem dX6_succeeds_330 : decode cX6_succeeds 330 = .ok (.iload_n 3, 1) := by decide +kernel
theorem dX6_succeeds_331 : decode cX6_succeeds 331 = .ok (.if_icmp .ne 7, 3) := by decide +kernel
theorem dX6_succeeds_334 : decode cX6_succeeds 334 = .ok (.iconst 1, 1) := by decide +kernel
theorem dX6_succeeds_335 : decode cX6_succeeds 335 = .ok (.goto 4, 3) := by decide +kernel
theorem dX6_succeeds_338 : decode cX6_succeeds 338 = .ok (.iconst 0, 1) := by decide +kernel
theorem dX6_succeeds_339 : decode cX6_succeeds 339 = .ok (.ireturn, 1) := by decide +kernel
theorem dX6_succeeds_340 : decode cX6_succeeds 340 = .ok (.aload_n 0, 1) := by decide +kernel
theorem dX6_succeeds_341 : decode cX6_succeeds 341 = .ok (.aload_n 0, 1) := by decide +kernel
theorem dX6_succeeds_342 : decode cX6_succeeds 342 = .ok (.getfield 13, 3) := by decide +kernel
theorem dX6_succeeds_345 : decode cX6_succeeds 345 = .ok (.invokevirtual 83, 3) := by decide +kernel
theorem dX6_succeeds_348 : decode cX6_succeeds 348 = .ok (.iload_n 1, 1) := by decide +kernel
theorem dX6_succeeds_349 : decode cX6_succeeds 349 = .ok (.sipush 1000, 3) := by decide +kernel
theorem dX6_succeeds_352 : decode cX6_succeeds 352 = .ok (.irem, 1) := by decide +kernel
theorem dX6_succeeds_353 : decode cX6_succeeds 353 = .ok (.if_icmp .lt 7, 3) := by decide +kernel
theorem dX6_succeeds_356 : decode cX6_succeeds 356 = .ok (.iconst 1, 1) := by decide +kernel
theorem dX6_succeeds_357 : decode cX6_succeeds 357 = .ok (.goto 4, 3) := by decide +kernel
theorem dX6_succeeds_360 : decode cX6_succeeds 360 = .ok (.iconst 0, 1) := by decide +kernel
theorem dX6_succeeds_361 : decode cX6_succeeds 361 = .ok (.ireturn, 1) := by decide +kernel
theorem dX6_succeeds_362 : decode cX6_succeeds 362 = .ok (.aload_n 0, 1) := by decide +kernel
theorem dX6_succeeds_363 : decode cX6_succeeds 363 = .ok (.getfield 13, 3) := by decide +kernel
theorem dX6_succeeds_366 : decode cX6_succeeds 366 = .ok (.iload_n 2, 1) := by decide +kernel
theorem dX6_succeeds_367 : decode cX6_succeeds 367 = .ok (.invokestatic 133, 3) := by decide +kernel
theorem dX6_succeeds_370 : decode cX6_succeeds 370 = .ok (.ifCond .eq 23, 3) := by decide +kernel
theorem dX6_succeeds_373 : decode cX6_succeeds 373 = .ok (.aload_n 0, 1) := by decide +kernel
theorem dX6_succeeds_374 : decode cX6_succeeds 374 = .ok (.getfield 13, 3) := by decide +kernel
theorem dX6_succeeds_377 : decode cX6_succeeds 377 = .ok (.bipush 30, 2) := by decide +kernel
theorem dX6_succeeds_379 : decode cX6_succeeds 379 = .ok (.iload_n 2, 1) := by decide +kernel
theorem dX6_succeeds_380 : decode cX6_succeeds 380 = .ok (.iadd, 1) := by decide +kernel
theorem dX6_succeeds_381 : decode cX6_succeeds 381 = .ok (.iaload, 1) := by decide +kernel
theorem dX6_succeeds_382 : decode cX6_succeeds 382 = .ok (.iload_n 1, 1) := by decide +kernel
theorem dX6_succeeds_383 : decode cX6_succeeds 383 = .ok (.bipush 100, 2) := by decide +kernel
theorem dX6_succeeds_385 : decode cX6_succeeds 385 = .ok (.irem, 1) := by decide +kernel
theorem dX6_succeeds_386 : decode cX6_succeeds 386 = .ok (.if_icmp .lt 7, 3) := by decide +kernel
theorem dX6_succeeds_389 : decode cX6_succeeds 389 = .ok (.iconst 1, 1) := by decide +kernel
theorem dX6_succeeds_390 : decode cX6_succeeds 390 = .ok (.goto 4, 3) := by decide +kernel
theorem dX6_succeeds_393 : decode cX6_succeeds 393 = .ok (.iconst 0, 1) := by decide +kernel
theorem dX6_succeeds_394 : decode cX6_succeeds 394 = .ok (.ireturn, 1) := by decide +kernel
theorem dX6_succeeds_395 : decode cX6_succeeds 395 = .ok (.iconst 0, 1) := by decide +kernel
theorem dX6_succeeds_396 : decode cX6_succeeds 396 = .ok (.ireturn, 1) := by decide +kernel
set_option maxRecDepth 20000 in
theorem ggX6_runScript_X6_in : GoodIn wsX6_runScript wsX6_in := goodIn_r _ [8] (by decide +kernel) (by decide +kernel)
set_option maxRecDepth 20000 in
theorem gX6_runScript_X6_in : GoodIn wsX6_runScript (va_wsS RX6 46 yX6_in wsX6_in) := goodIn_app (goodIn_of _ (by decide +kernel)) ggX6_runScript_X6_in
set_option maxRecDepth 20000 in
theorem ggX6_runScript_X6_fails : GoodIn wsX6_runScript wsX6_fails := goodIn_r _ [12, 1, 81, 82, 83, 84, 85, 86, 87, 88, 89, 90, 91, 92, 93, 94] (by decide +kernel) (by decide +kernel)
set_option maxRecDepth 20000 in
theorem gX6_runScript_X6_fails : GoodIn wsX6_runScript (wsV RX6 57 RX6 yX6_fails wsX6_fails) := goodIn_app (goodIn_of _ (by decide +kernel)) ggX6_runScript_X6_fails
set_option maxRecDepth 20000 in
theorem ggX6_runScript_X6_tries : GoodIn wsX6_runScript wsX6_tries := goodIn_r _ [16, 17, 18, 19, 20, 7, 21, 81, 82, 83, 84, 85, 86, 87, 88, 89, 90, 91, 92, 93, 94] (by decide +kernel) (by decide +kernel)
set_option maxRecDepth 20000 in
theorem gX6_runScript_X6_tries : GoodIn wsX6_runScript (wsV RX6 163 RX6 yX6_tries wsX6_tries) := goodIn_app (goodIn_of _ (by decide +kernel)) ggX6_runScript_X6_tries
set_option maxRecDepth 20000 in
theorem ggX6_runScript_X6_succeeds : GoodIn wsX6_runScript wsX6_succeeds := goodIn_r _ [25, 18, 26, 27, 7, 28, 5, 6, 8, 29, 30, 31, 32, 33, 34, 35, 36, 37, 38, 39, 40, 41, 42, 43, 44, 45, 46, 47, 48, 49, 50, 51, 52, 53, 54, 55, 56, 57, 58, 59, 60, 61, 62, 63, 64, 65, 66, 67, 68, 69, 70, 71, 72, 73, 74, 75, 76, 77, 78, 79, 80, 81, 82, 83, 84, 85, 86, 87, 88, 89, 90, 91, 92, 93, 94] (by decide +kernel) (by decide +kernel)
set_option maxRecDepth 20000 in
theorem gX6_runScript_X6_succeeds : GoodIn wsX6_runScript (wsV RX6 175 RX6 yX6_succeeds wsX6_succeeds) := goodIn_app (goodIn_of _ (by decide +kernel)) ggX6_runScript_X6_succeeds
theorem dX6_runScript_0 : decode cX6_runScript 0 = .ok (.aload_n 0, 1) := by decide +kernel
theorem dX6_runScript_1 : decode cX6_runScript 1 = .ok (.iconst 0, 1) := by decide +kernel
theorem dX6_runScript_2 : decode cX6_runScript 2 = .ok (.putfield 42, 3) := by decide +kernel
theorem dX6_runScript_5 : decode cX6_runScript 5 = .ok (.iload_n 1, 1) := by decide +kernel
theorem dX6_runScript_6 : decode cX6_runScript 6 = .ok (.iconst 1, 1) := by decide +kernel
theorem dX6_runScript_7 : decode cX6_runScript 7 = .ok (.if_icmp .ne 9, 3) := by decide +kernel
theorem dX6_runScript_10 : decode cX6_runScript 10 = .ok (.ldc2_w 169, 3) := by decide +kernel
theorem dX6_runScript_13 : decode cX6_runScript 13 = .ok (.goto 17, 3) := by decide +kernel
theorem dX6_runScript_16 : decode cX6_runScript 16 = .ok (.iload_n 1, 1) := by decide +kernel
theorem dX6_runScript_17 : decode cX6_runScript 17 = .ok (.iconst 2, 1) := by decide +kernel
theorem dX6_runScript_18 : decode cX6_runScript 18 = .ok (.if_icmp .ne 9, 3) := by decide +kernel
theorem dX6_runScript_21 : decode cX6_runScript 21 = .ok (.ldc2_w 171, 3) := by decide +kernel
theorem dX6_runScript_24 : decode cX6_runScript 24 = .ok (.goto 6, 3) := by decide +kernel
theorem dX6_runScript_27 : decode cX6_runScript 27 = .ok (.ldc2_w 173, 3) := by decide +kernel
theorem dX6_runScript_30 : decode cX6_runScript 30 = .ok (.lstore 4, 2) := by decide +kernel
theorem dX6_runScript_32 : decode cX6_runScript 32 = .ok (.iload_n 1, 1) := by decide +kernel
theorem dX6_runScript_33 : decode cX6_runScript 33 = .ok (.iconst 1, 1) := by decide +kernel
theorem dX6_runScript_34 : decode cX6_runScript 34 = .ok (.iconst 3, 1) := by decide +kernel
theorem dX6_runScript_35 : decode cX6_runScript 35 = .ok (.invokestatic 46, 3) := by decide +kernel
theorem dX6_runScript_38 : decode cX6_runScript 38 = .ok (.ifCond .eq 16, 3) := by decide +kernel
theorem dX6_runScript_41 : decode cX6_runScript 41 = .ok (.lload_n 2, 1) := by decide +kernel
theorem dX6_runScript_42 : decode cX6_runScript 42 = .ok (.lconst 0, 1) := by decide +kernel
theorem dX6_runScript_43 : decode cX6_runScript 43 = .ok (.lcmp, 1) := by decide +kernel
theorem dX6_runScript_44 : decode cX6_runScript 44 = .ok (.ifCond .lt 10, 3) := by decide +kernel
theorem dX6_runScript_47 : decode cX6_runScript 47 = .ok (.lload_n 2, 1) := by decide +kernel
theorem dX6_runScript_48 : decode cX6_runScript 48 = .ok (.lload 4, 2) := by decide +kernel
theorem dX6_runScript_50 : decode cX6_runScript 50 = .ok (.lcmp, 1) := by decide +kernel
theorem dX6_runScript_51 : decode cX6_runScript 51 = .ok (.ifCond .lt 9, 3) := by decide +kernel
theorem dX6_runScript_54 : decode cX6_runScript 54 = .ok (.aload_n 0, 1) := by decide +kernel
theorem dX6_runScript_55 : decode cX6_runScript 55 = .ok (.iconst 1, 1) := by decide +kernel
theorem dX6_runScript_56 : decode cX6_runScript 56 = .ok (.invokevirtual 57, 3) := by decide +kernel
theorem dX6_runScript_59 : decode cX6_runScript 59 = .ok (.ireturn, 1) := by decide +kernel
theorem dX6_runScript_60 : decode cX6_runScript 60 = .ok (.aload_n 0, 1) := by decide +kernel
theorem dX6_runScript_61 : decode cX6_runScript 61 = .ok (.invokevirtual 163, 3) := by decide +kernel
theorem dX6_runScript_64 : decode cX6_runScript 64 = .ok (.iconst 0, 1) := by decide +kernel
theorem dX6_runScript_65 : decode cX6_runScript 65 = .ok (.istore 6, 2) := by decide +kernel
theorem dX6_runScript_67 : decode cX6_runScript 67 = .ok (.iload 6, 2) := by decide +kernel
theorem dX6_runScript_69 : decode cX6_runScript 69 = .ok (.iload_n 1, 1) := by decide +kernel
theorem dX6_runScript_70 : decode cX6_runScript 70 = .ok (.if_icmp .ge 55, 3) := by decide +kernel
theorem dX6_runScript_73 : decode cX6_runScript 73 = .ok (.lload_n 2, 1) := by decide +kernel
theorem dX6_runScript_74 : decode cX6_runScript 74 = .ok (.lstore 7, 2) := by decide +kernel
theorem dX6_runScript_76 : decode cX6_runScript 76 = .ok (.iload 6, 2) := by decide +kernel
theorem dX6_runScript_78 : decode cX6_runScript 78 = .ok (.istore 9, 2) := by decide +kernel
theorem dX6_runScript_80 : decode cX6_runScript 80 = .ok (.iload 9, 2) := by decide +kernel
theorem dX6_runScript_82 : decode cX6_runScript 82 = .ok (.iload_n 1, 1) := by decide +kernel
theorem dX6_runScript_83 : decode cX6_runScript 83 = .ok (.iconst 1, 1) := by decide +kernel
theorem dX6_runScript_84 : decode cX6_runScript 84 = .ok (.isub, 1) := by decide +kernel
theorem dX6_runScript_85 : decode cX6_runScript 85 = .ok (.if_icmp .ge 17, 3) := by decide +kernel
theorem dX6_runScript_88 : decode cX6_runScript 88 = .ok (.lload 7, 2) := by decide +kernel
theorem dX6_runScript_90 : decode cX6_runScript 90 = .ok (.ldc2_w 169, 3) := by decide +kernel
theorem dX6_runScript_93 : decode cX6_runScript 93 = .ok (.ldiv, 1) := by decide +kernel
theorem dX6_runScript_94 : decode cX6_runScript 94 = .ok (.lstore 7, 2) := by decide +kernel
theorem dX6_runScript_96 : decode cX6_runScript 96 = .ok (.iinc 9 1, 3) := by decide +kernel
theorem dX6_runScript_99 : decode cX6_runScript 99 = .ok (.goto (-19), 3) := by decide +kernel
theorem dX6_runScript_102 : decode cX6_runScript 102 = .ok (.aload_n 0, 1) := by decide +kernel
theorem dX6_runScript_103 : decode cX6_runScript 103 = .ok (.lload 7, 2) := by decide +kernel
theorem dX6_runScript_105 : decode cX6_runScript 105 = .ok (.ldc2_w 169, 3) := by decide +kernel
theorem dX6_runScript_108 : decode cX6_runScript 108 = .ok (.lrem, 1) := by decide +kernel
theorem dX6_runScript_109 : decode cX6_runScript 109 = .ok (.l2i, 1) := by decide +kernel
theorem dX6_runScript_110 : decode cX6_runScript 110 = .ok (.invokevirtual 175, 3) := by decide +kernel
theorem dX6_runScript_113 : decode cX6_runScript 113 = .ok (.ifCond .ne 6, 3) := by decide +kernel
theorem dX6_runScript_116 : decode cX6_runScript 116 = .ok (.iload 6, 2) := by decide +kernel
theorem dX6_runScript_118 : decode cX6_runScript 118 = .ok (.ireturn, 1) := by decide +kernel
theorem dX6_runScript_119 : decode cX6_runScript 119 = .ok (.iinc 6 1, 3) := by decide +kernel
theorem dX6_runScript_122 : decode cX6_runScript 122 = .ok (.goto (-55), 3) := by decide +kernel
theorem dX6_runScript_125 : decode cX6_runScript 125 = .ok (.iconst (-1), 1) := by decide +kernel
theorem dX6_runScript_126 : decode cX6_runScript 126 = .ok (.ireturn, 1) := by decide +kernel
set_option maxRecDepth 20000 in
theorem ggX6_passes_X6_darkens : GoodIn wsX6_passes wsX6_darkens := goodIn_r _ [5, 6, 7, 4, 8, 9, 10, 11] (by decide +kernel) (by decide +kernel)
set_option maxRecDepth 20000 in
theorem gX6_passes_X6_darkens : GoodIn wsX6_passes (va_wsS RX6 124 yX6_darkens wsX6_darkens) := goodIn_app (goodIn_of _ (by decide +kernel)) ggX6_passes_X6_darkens
set_option maxRecDepth 20000 in
theorem ggX6_passes_X6_posts : GoodIn wsX6_passes wsX6_posts := goodIn_r _ [15, 16, 17, 18, 19, 4, 20, 21, 22, 23, 24, 25, 26, 27, 28, 29, 30, 31, 32, 33, 34, 35, 36, 37, 38, 39, 40, 48, 49, 50, 51, 52, 53, 54, 55, 56, 57, 58, 59, 60, 61] (by decide +kernel) (by decide +kernel)
set_option maxRecDepth 20000 in
theorem gX6_passes_X6_posts : GoodIn wsX6_passes (wsV RX6 154 RX6 yX6_posts wsX6_posts) := goodIn_app (goodIn_of _ (by decide +kernel)) ggX6_passes_X6_posts
set_option maxRecDepth 20000 in
theorem ggX6_passes_X6_plays : GoodIn wsX6_passes wsX6_plays := goodIn_r _ [44, 16, 17, 18, 19, 4, 20, 21, 22, 23, 24, 25, 26, 27, 28, 29, 30, 31, 32, 33, 34, 35, 36, 37, 38, 39, 40, 45, 46, 47, 6, 7, 8, 48, 49, 50, 51, 52, 53, 54, 55, 56, 57, 58, 59, 60, 61] (by decide +kernel) (by decide +kernel)
set_option maxRecDepth 20000 in
theorem gX6_passes_X6_plays : GoodIn wsX6_passes (wsV RX6 127 RX6 yX6_plays wsX6_plays) := goodIn_app (goodIn_of _ (by decide +kernel)) ggX6_passes_X6_plays
theorem dX6_passes_0 : decode cX6_passes 0 = .ok (.iload_n 1, 1) := by decide +kernel
theorem dX6_passes_1 : decode cX6_passes 1 = .ok (.bipush 8, 2) := by decide +kernel
theorem dX6_passes_3 : decode cX6_passes 3 = .ok (.idiv, 1) := by decide +kernel
theorem dX6_passes_4 : decode cX6_passes 4 = .ok (.aload_n 0, 1) := by decide +kernel
theorem dX6_passes_5 : decode cX6_passes 5 = .ok (.getfield 13, 3) := by decide +kernel
theorem dX6_passes_8 : decode cX6_passes 8 = .ok (.iconst 4, 1) := by decide +kernel
theorem dX6_passes_9 : decode cX6_passes 9 = .ok (.iaload, 1) := by decide +kernel
theorem dX6_passes_10 : decode cX6_passes 10 = .ok (.irem, 1) := by decide +kernel
theorem dX6_passes_11 : decode cX6_passes 11 = .ok (.istore_n 2, 1) := by decide +kernel
theorem dX6_passes_12 : decode cX6_passes 12 = .ok (.iload_n 1, 1) := by decide +kernel
theorem dX6_passes_13 : decode cX6_passes 13 = .ok (.bipush 8, 2) := by decide +kernel
theorem dX6_passes_15 : decode cX6_passes 15 = .ok (.irem, 1) := by decide +kernel
theorem dX6_passes_16 : decode cX6_passes 16 = .ok (.iconst 2, 1) := by decide +kernel
theorem dX6_passes_17 : decode cX6_passes 17 = .ok (.if_icmp .ne 12, 3) := by decide +kernel
theorem dX6_passes_20 : decode cX6_passes 20 = .ok (.aload_n 0, 1) := by decide +kernel
theorem dX6_passes_21 : decode cX6_passes 21 = .ok (.getfield 13, 3) := by decide +kernel
theorem dX6_passes_24 : decode cX6_passes 24 = .ok (.iconst 1, 1) := by decide +kernel
theorem dX6_passes_25 : decode cX6_passes 25 = .ok (.invokestatic 124, 3) := by decide +kernel
theorem dX6_passes_28 : decode cX6_passes 28 = .ok (.return_, 1) := by decide +kernel
theorem dX6_passes_29 : decode cX6_passes 29 = .ok (.iload_n 1, 1) := by decide +kernel
theorem dX6_passes_30 : decode cX6_passes 30 = .ok (.bipush 8, 2) := by decide +kernel
theorem dX6_passes_32 : decode cX6_passes 32 = .ok (.irem, 1) := by decide +kernel
theorem dX6_passes_33 : decode cX6_passes 33 = .ok (.ifCond .ne 28, 3) := by decide +kernel
theorem dX6_passes_36 : decode cX6_passes 36 = .ok (.aload_n 0, 1) := by decide +kernel
theorem dX6_passes_37 : decode cX6_passes 37 = .ok (.getfield 13, 3) := by decide +kernel
theorem dX6_passes_40 : decode cX6_passes 40 = .ok (.bipush 50, 2) := by decide +kernel
theorem dX6_passes_42 : decode cX6_passes 42 = .ok (.iload_n 2, 1) := by decide +kernel
theorem dX6_passes_43 : decode cX6_passes 43 = .ok (.iadd, 1) := by decide +kernel
theorem dX6_passes_44 : decode cX6_passes 44 = .ok (.aload_n 0, 1) := by decide +kernel
theorem dX6_passes_45 : decode cX6_passes 45 = .ok (.getfield 13, 3) := by decide +kernel
theorem dX6_passes_48 : decode cX6_passes 48 = .ok (.iconst 0, 1) := by decide +kernel
theorem dX6_passes_49 : decode cX6_passes 49 = .ok (.iaload, 1) := by decide +kernel
theorem dX6_passes_50 : decode cX6_passes 50 = .ok (.iconst 1, 1) := by decide +kernel
theorem dX6_passes_51 : decode cX6_passes 51 = .ok (.iadd, 1) := by decide +kernel
theorem dX6_passes_52 : decode cX6_passes 52 = .ok (.iload_n 1, 1) := by decide +kernel
theorem dX6_passes_53 : decode cX6_passes 53 = .ok (.sipush 128, 3) := by decide +kernel
theorem dX6_passes_56 : decode cX6_passes 56 = .ok (.idiv, 1) := by decide +kernel
theorem dX6_passes_57 : decode cX6_passes 57 = .ok (.iconst 5, 1) := by decide +kernel
theorem dX6_passes_58 : decode cX6_passes 58 = .ok (.irem, 1) := by decide +kernel
theorem dX6_passes_59 : decode cX6_passes 59 = .ok (.iadd, 1) := by decide +kernel
theorem dX6_passes_60 : decode cX6_passes 60 = .ok (.iastore, 1) := by decide +kernel
theorem dX6_passes_61 : decode cX6_passes 61 = .ok (.iload_n 1, 1) := by decide +kernel
theorem dX6_passes_62 : decode cX6_passes 62 = .ok (.bipush 8, 2) := by decide +kernel
theorem dX6_passes_64 : decode cX6_passes 64 = .ok (.irem, 1) := by decide +kernel
theorem dX6_passes_65 : decode cX6_passes 65 = .ok (.iconst 1, 1) := by decide +kernel
theorem dX6_passes_66 : decode cX6_passes 66 = .ok (.if_icmp .ne 29, 3) := by decide +kernel
theorem dX6_passes_69 : decode cX6_passes 69 = .ok (.aload_n 0, 1) := by decide +kernel
theorem dX6_passes_70 : decode cX6_passes 70 = .ok (.aload_n 0, 1) := by decide +kernel
theorem dX6_passes_71 : decode cX6_passes 71 = .ok (.getfield 13, 3) := by decide +kernel
theorem dX6_passes_74 : decode cX6_passes 74 = .ok (.invokevirtual 154, 3) := by decide +kernel
theorem dX6_passes_77 : decode cX6_passes 77 = .ok (.pop, 1) := by decide +kernel
theorem dX6_passes_78 : decode cX6_passes 78 = .ok (.aload_n 0, 1) := by decide +kernel
theorem dX6_passes_79 : decode cX6_passes 79 = .ok (.getfield 13, 3) := by decide +kernel
theorem dX6_passes_82 : decode cX6_passes 82 = .ok (.bipush 50, 2) := by decide +kernel
theorem dX6_passes_84 : decode cX6_passes 84 = .ok (.iload_n 2, 1) := by decide +kernel
theorem dX6_passes_85 : decode cX6_passes 85 = .ok (.iadd, 1) := by decide +kernel
theorem dX6_passes_86 : decode cX6_passes 86 = .ok (.aload_n 0, 1) := by decide +kernel
theorem dX6_passes_87 : decode cX6_passes 87 = .ok (.getfield 13, 3) := by decide +kernel
theorem dX6_passes_90 : decode cX6_passes 90 = .ok (.iconst 0, 1) := by decide +kernel
theorem dX6_passes_91 : decode cX6_passes 91 = .ok (.iaload, 1) := by decide +kernel
theorem dX6_passes_92 : decode cX6_passes 92 = .ok (.iconst 1, 1) := by decide +kernel
theorem dX6_passes_93 : decode cX6_passes 93 = .ok (.iadd, 1) := by decide +kernel
theorem dX6_passes_94 : decode cX6_passes 94 = .ok (.iastore, 1) := by decide +kernel
theorem dX6_passes_95 : decode cX6_passes 95 = .ok (.aload_n 0, 1) := by decide +kernel
theorem dX6_passes_96 : decode cX6_passes 96 = .ok (.aload_n 0, 1) := by decide +kernel
theorem dX6_passes_97 : decode cX6_passes 97 = .ok (.getfield 13, 3) := by decide +kernel
theorem dX6_passes_100 : decode cX6_passes 100 = .ok (.invokevirtual 127, 3) := by decide +kernel
theorem dX6_passes_103 : decode cX6_passes 103 = .ok (.pop, 1) := by decide +kernel
theorem dX6_passes_104 : decode cX6_passes 104 = .ok (.return_, 1) := by decide +kernel
set_option maxRecDepth 20000 in
theorem ggX6_simulate_X6_in : GoodIn wsX6_simulate wsX6_in := goodIn_r _ [9] (by decide +kernel) (by decide +kernel)
set_option maxRecDepth 20000 in
theorem gX6_simulate_X6_in : GoodIn wsX6_simulate (va_wsS RX6 46 yX6_in wsX6_in) := goodIn_app (goodIn_of _ (by decide +kernel)) ggX6_simulate_X6_in
set_option maxRecDepth 20000 in
theorem ggX6_simulate_X6_fails : GoodIn wsX6_simulate wsX6_fails := goodIn_r _ [13, 1, 70, 71, 72, 73, 74, 75, 76, 77, 78, 79, 80, 81, 82, 83] (by decide +kernel) (by decide +kernel)
set_option maxRecDepth 20000 in
theorem gX6_simulate_X6_fails : GoodIn wsX6_simulate (wsV RX6 57 RX6 yX6_fails wsX6_fails) := goodIn_app (goodIn_of _ (by decide +kernel)) ggX6_simulate_X6_fails
set_option maxRecDepth 20000 in
theorem ggX6_simulate_X6_tries : GoodIn wsX6_simulate wsX6_tries := goodIn_r _ [17, 5, 2, 18, 19, 8, 20, 70, 71, 72, 73, 74, 75, 76, 77, 78, 79, 80, 81, 82, 83] (by decide +kernel) (by decide +kernel)
set_option maxRecDepth 20000 in
theorem gX6_simulate_X6_tries : GoodIn wsX6_simulate (wsV RX6 163 RX6 yX6_tries wsX6_tries) := goodIn_app (goodIn_of _ (by decide +kernel)) ggX6_simulate_X6_tries
set_option maxRecDepth 20000 in
theorem ggX6_simulate_X6_passes : GoodIn wsX6_simulate wsX6_passes := goodIn_r _ [24, 2, 25, 26, 8, 27, 28, 29, 30, 31, 32, 33, 34, 35, 36, 37, 38, 39, 40, 41, 42, 43, 44, 45, 46, 47, 48, 49, 50, 51, 52, 53, 54, 55, 56, 57, 58, 59, 60, 61, 62, 63, 64, 65, 66, 67, 68, 69, 70, 71, 72, 73, 74, 75, 76, 77, 78, 79, 80, 81, 82, 83] (by decide +kernel) (by decide +kernel)
set_option maxRecDepth 20000 in
theorem gX6_simulate_X6_passes : GoodIn wsX6_simulate (wsV RX6 182 RX6 yX6_passes wsX6_passes) := goodIn_app (goodIn_of _ (by decide +kernel)) ggX6_simulate_X6_passes
theorem dX6_simulate_0 : decode cX6_simulate 0 = .ok (.aload_n 0, 1) := by decide +kernel
theorem dX6_simulate_1 : decode cX6_simulate 1 = .ok (.iconst 0, 1) := by decide +kernel
theorem dX6_simulate_2 : decode cX6_simulate 2 = .ok (.putfield 42, 3) := by decide +kernel
theorem dX6_simulate_5 : decode cX6_simulate 5 = .ok (.iload_n 3, 1) := by decide +kernel
theorem dX6_simulate_6 : decode cX6_simulate 6 = .ok (.iconst 1, 1) := by decide +kernel
theorem dX6_simulate_7 : decode cX6_simulate 7 = .ok (.bipush 40, 2) := by decide +kernel
theorem dX6_simulate_9 : decode cX6_simulate 9 = .ok (.invokestatic 46, 3) := by decide +kernel
theorem dX6_simulate_12 : decode cX6_simulate 12 = .ok (.ifCond .ne 9, 3) := by decide +kernel
theorem dX6_simulate_15 : decode cX6_simulate 15 = .ok (.aload_n 0, 1) := by decide +kernel
theorem dX6_simulate_16 : decode cX6_simulate 16 = .ok (.iconst 1, 1) := by decide +kernel
theorem dX6_simulate_17 : decode cX6_simulate 17 = .ok (.invokevirtual 57, 3) := by decide +kernel
theorem dX6_simulate_20 : decode cX6_simulate 20 = .ok (.ireturn, 1) := by decide +kernel
theorem dX6_simulate_21 : decode cX6_simulate 21 = .ok (.aload_n 0, 1) := by decide +kernel
theorem dX6_simulate_22 : decode cX6_simulate 22 = .ok (.invokevirtual 163, 3) := by decide +kernel
theorem dX6_simulate_25 : decode cX6_simulate 25 = .ok (.lload_n 1, 1) := by decide +kernel
theorem dX6_simulate_26 : decode cX6_simulate 26 = .ok (.lstore 4, 2) := by decide +kernel
theorem dX6_simulate_28 : decode cX6_simulate 28 = .ok (.iconst 0, 1) := by decide +kernel
theorem dX6_simulate_29 : decode cX6_simulate 29 = .ok (.istore 6, 2) := by decide +kernel
theorem dX6_simulate_31 : decode cX6_simulate 31 = .ok (.iload 6, 2) := by decide +kernel
theorem dX6_simulate_33 : decode cX6_simulate 33 = .ok (.iload_n 3, 1) := by decide +kernel
theorem dX6_simulate_34 : decode cX6_simulate 34 = .ok (.if_icmp .ge 49, 3) := by decide +kernel
theorem dX6_simulate_37 : decode cX6_simulate 37 = .ok (.aload_n 0, 1) := by decide +kernel
theorem dX6_simulate_38 : decode cX6_simulate 38 = .ok (.getfield 13, 3) := by decide +kernel
theorem dX6_simulate_41 : decode cX6_simulate 41 = .ok (.iconst 4, 1) := by decide +kernel
theorem dX6_simulate_42 : decode cX6_simulate 42 = .ok (.iaload, 1) := by decide +kernel
theorem dX6_simulate_43 : decode cX6_simulate 43 = .ok (.ifCond .le 40, 3) := by decide +kernel
theorem dX6_simulate_46 : decode cX6_simulate 46 = .ok (.aload_n 0, 1) := by decide +kernel
theorem dX6_simulate_47 : decode cX6_simulate 47 = .ok (.getfield 13, 3) := by decide +kernel
theorem dX6_simulate_50 : decode cX6_simulate 50 = .ok (.iconst 3, 1) := by decide +kernel
theorem dX6_simulate_51 : decode cX6_simulate 51 = .ok (.iaload, 1) := by decide +kernel
theorem dX6_simulate_52 : decode cX6_simulate 52 = .ok (.ifCond .le 31, 3) := by decide +kernel
theorem dX6_simulate_55 : decode cX6_simulate 55 = .ok (.lload 4, 2) := by decide +kernel
theorem dX6_simulate_57 : decode cX6_simulate 57 = .ok (.ldc2_w 178, 3) := by decide +kernel
theorem dX6_simulate_60 : decode cX6_simulate 60 = .ok (.lmul, 1) := by decide +kernel
theorem dX6_simulate_61 : decode cX6_simulate 61 = .ok (.ldc2_w 180, 3) := by decide +kernel
theorem dX6_simulate_64 : decode cX6_simulate 64 = .ok (.ladd, 1) := by decide +kernel
theorem dX6_simulate_65 : decode cX6_simulate 65 = .ok (.lstore 4, 2) := by decide +kernel
theorem dX6_simulate_67 : decode cX6_simulate 67 = .ok (.aload_n 0, 1) := by decide +kernel
theorem dX6_simulate_68 : decode cX6_simulate 68 = .ok (.lload 4, 2) := by decide +kernel
theorem dX6_simulate_70 : decode cX6_simulate 70 = .ok (.bipush 33, 2) := by decide +kernel
theorem dX6_simulate_72 : decode cX6_simulate 72 = .ok (.lushr, 1) := by decide +kernel
theorem dX6_simulate_73 : decode cX6_simulate 73 = .ok (.l2i, 1) := by decide +kernel
theorem dX6_simulate_74 : decode cX6_simulate 74 = .ok (.invokevirtual 182, 3) := by decide +kernel
theorem dX6_simulate_77 : decode cX6_simulate 77 = .ok (.iinc 6 1, 3) := by decide +kernel
theorem dX6_simulate_80 : decode cX6_simulate 80 = .ok (.goto (-49), 3) := by decide +kernel
theorem dX6_simulate_83 : decode cX6_simulate 83 = .ok (.sipush 1000, 3) := by decide +kernel
theorem dX6_simulate_86 : decode cX6_simulate 86 = .ok (.aload_n 0, 1) := by decide +kernel
theorem dX6_simulate_87 : decode cX6_simulate 87 = .ok (.getfield 13, 3) := by decide +kernel
theorem dX6_simulate_90 : decode cX6_simulate 90 = .ok (.iconst 1, 1) := by decide +kernel
theorem dX6_simulate_91 : decode cX6_simulate 91 = .ok (.iaload, 1) := by decide +kernel
theorem dX6_simulate_92 : decode cX6_simulate 92 = .ok (.aload_n 0, 1) := by decide +kernel
theorem dX6_simulate_93 : decode cX6_simulate 93 = .ok (.getfield 7, 3) := by decide +kernel
theorem dX6_simulate_96 : decode cX6_simulate 96 = .ok (.iconst 1, 1) := by decide +kernel
theorem dX6_simulate_97 : decode cX6_simulate 97 = .ok (.iaload, 1) := by decide +kernel
theorem dX6_simulate_98 : decode cX6_simulate 98 = .ok (.isub, 1) := by decide +kernel
theorem dX6_simulate_99 : decode cX6_simulate 99 = .ok (.imul, 1) := by decide +kernel
theorem dX6_simulate_100 : decode cX6_simulate 100 = .ok (.aload_n 0, 1) := by decide +kernel
theorem dX6_simulate_101 : decode cX6_simulate 101 = .ok (.getfield 13, 3) := by decide +kernel
theorem dX6_simulate_104 : decode cX6_simulate 104 = .ok (.iconst 2, 1) := by decide +kernel
theorem dX6_simulate_105 : decode cX6_simulate 105 = .ok (.iaload, 1) := by decide +kernel
theorem dX6_simulate_106 : decode cX6_simulate 106 = .ok (.iadd, 1) := by decide +kernel
theorem dX6_simulate_107 : decode cX6_simulate 107 = .ok (.aload_n 0, 1) := by decide +kernel
theorem dX6_simulate_108 : decode cX6_simulate 108 = .ok (.getfield 7, 3) := by decide +kernel
theorem dX6_simulate_111 : decode cX6_simulate 111 = .ok (.iconst 2, 1) := by decide +kernel
theorem dX6_simulate_112 : decode cX6_simulate 112 = .ok (.iaload, 1) := by decide +kernel
theorem dX6_simulate_113 : decode cX6_simulate 113 = .ok (.isub, 1) := by decide +kernel
theorem dX6_simulate_114 : decode cX6_simulate 114 = .ok (.ireturn, 1) := by decide +kernel
theorem dJ6_bitCount_0f7a4_0 : decode cJ6_bitCount_0f7a4 0 = .ok (.iload_n 0, 1) := by decide +kernel
theorem dJ6_bitCount_0f7a4_1 : decode cJ6_bitCount_0f7a4 1 = .ok (.iload_n 0, 1) := by decide +kernel
theorem dJ6_bitCount_0f7a4_2 : decode cJ6_bitCount_0f7a4 2 = .ok (.iconst 1, 1) := by decide +kernel
theorem dJ6_bitCount_0f7a4_3 : decode cJ6_bitCount_0f7a4 3 = .ok (.iushr, 1) := by decide +kernel
theorem dJ6_bitCount_0f7a4_4 : decode cJ6_bitCount_0f7a4 4 = .ok (.ldc_w 265, 3) := by decide +kernel
theorem dJ6_bitCount_0f7a4_7 : decode cJ6_bitCount_0f7a4 7 = .ok (.iand, 1) := by decide +kernel
theorem dJ6_bitCount_0f7a4_8 : decode cJ6_bitCount_0f7a4 8 = .ok (.isub, 1) := by decide +kernel
theorem dJ6_bitCount_0f7a4_9 : decode cJ6_bitCount_0f7a4 9 = .ok (.istore_n 0, 1) := by decide +kernel
theorem dJ6_bitCount_0f7a4_10 : decode cJ6_bitCount_0f7a4 10 = .ok (.iload_n 0, 1) := by decide +kernel
theorem dJ6_bitCount_0f7a4_11 : decode cJ6_bitCount_0f7a4 11 = .ok (.ldc_w 266, 3) := by decide +kernel
theorem dJ6_bitCount_0f7a4_14 : decode cJ6_bitCount_0f7a4 14 = .ok (.iand, 1) := by decide +kernel
theorem dJ6_bitCount_0f7a4_15 : decode cJ6_bitCount_0f7a4 15 = .ok (.iload_n 0, 1) := by decide +kernel
theorem dJ6_bitCount_0f7a4_16 : decode cJ6_bitCount_0f7a4 16 = .ok (.iconst 2, 1) := by decide +kernel
theorem dJ6_bitCount_0f7a4_17 : decode cJ6_bitCount_0f7a4 17 = .ok (.iushr, 1) := by decide +kernel
theorem dJ6_bitCount_0f7a4_18 : decode cJ6_bitCount_0f7a4 18 = .ok (.ldc_w 266, 3) := by decide +kernel
theorem dJ6_bitCount_0f7a4_21 : decode cJ6_bitCount_0f7a4 21 = .ok (.iand, 1) := by decide +kernel
theorem dJ6_bitCount_0f7a4_22 : decode cJ6_bitCount_0f7a4 22 = .ok (.iadd, 1) := by decide +kernel
theorem dJ6_bitCount_0f7a4_23 : decode cJ6_bitCount_0f7a4 23 = .ok (.istore_n 0, 1) := by decide +kernel
theorem dJ6_bitCount_0f7a4_24 : decode cJ6_bitCount_0f7a4 24 = .ok (.iload_n 0, 1) := by decide +kernel
theorem dJ6_bitCount_0f7a4_25 : decode cJ6_bitCount_0f7a4 25 = .ok (.iload_n 0, 1) := by decide +kernel
theorem dJ6_bitCount_0f7a4_26 : decode cJ6_bitCount_0f7a4 26 = .ok (.iconst 4, 1) := by decide +kernel
theorem dJ6_bitCount_0f7a4_27 : decode cJ6_bitCount_0f7a4 27 = .ok (.iushr, 1) := by decide +kernel
theorem dJ6_bitCount_0f7a4_28 : decode cJ6_bitCount_0f7a4 28 = .ok (.iadd, 1) := by decide +kernel
theorem dJ6_bitCount_0f7a4_29 : decode cJ6_bitCount_0f7a4 29 = .ok (.ldc_w 267, 3) := by decide +kernel
theorem dJ6_bitCount_0f7a4_32 : decode cJ6_bitCount_0f7a4 32 = .ok (.iand, 1) := by decide +kernel
theorem dJ6_bitCount_0f7a4_33 : decode cJ6_bitCount_0f7a4 33 = .ok (.istore_n 0, 1) := by decide +kernel
theorem dJ6_bitCount_0f7a4_34 : decode cJ6_bitCount_0f7a4 34 = .ok (.iload_n 0, 1) := by decide +kernel
theorem dJ6_bitCount_0f7a4_35 : decode cJ6_bitCount_0f7a4 35 = .ok (.iload_n 0, 1) := by decide +kernel
theorem dJ6_bitCount_0f7a4_36 : decode cJ6_bitCount_0f7a4 36 = .ok (.bipush 8, 2) := by decide +kernel
theorem dJ6_bitCount_0f7a4_38 : decode cJ6_bitCount_0f7a4 38 = .ok (.iushr, 1) := by decide +kernel
theorem dJ6_bitCount_0f7a4_39 : decode cJ6_bitCount_0f7a4 39 = .ok (.iadd, 1) := by decide +kernel
theorem dJ6_bitCount_0f7a4_40 : decode cJ6_bitCount_0f7a4 40 = .ok (.istore_n 0, 1) := by decide +kernel
theorem dJ6_bitCount_0f7a4_41 : decode cJ6_bitCount_0f7a4 41 = .ok (.iload_n 0, 1) := by decide +kernel
theorem dJ6_bitCount_0f7a4_42 : decode cJ6_bitCount_0f7a4 42 = .ok (.iload_n 0, 1) := by decide +kernel
theorem dJ6_bitCount_0f7a4_43 : decode cJ6_bitCount_0f7a4 43 = .ok (.bipush 16, 2) := by decide +kernel
theorem dJ6_bitCount_0f7a4_45 : decode cJ6_bitCount_0f7a4 45 = .ok (.iushr, 1) := by decide +kernel
theorem dJ6_bitCount_0f7a4_46 : decode cJ6_bitCount_0f7a4 46 = .ok (.iadd, 1) := by decide +kernel
theorem dJ6_bitCount_0f7a4_47 : decode cJ6_bitCount_0f7a4 47 = .ok (.istore_n 0, 1) := by decide +kernel
theorem dJ6_bitCount_0f7a4_48 : decode cJ6_bitCount_0f7a4 48 = .ok (.iload_n 0, 1) := by decide +kernel
theorem dJ6_bitCount_0f7a4_49 : decode cJ6_bitCount_0f7a4 49 = .ok (.bipush 63, 2) := by decide +kernel
theorem dJ6_bitCount_0f7a4_51 : decode cJ6_bitCount_0f7a4 51 = .ok (.iand, 1) := by decide +kernel
theorem dJ6_bitCount_0f7a4_52 : decode cJ6_bitCount_0f7a4 52 = .ok (.ireturn, 1) := by decide +kernel
theorem dJ9_max_7cf53_0 : decode cJ9_max_7cf53 0 = .ok (.iload_n 0, 1) := by decide +kernel
theorem dJ9_max_7cf53_1 : decode cJ9_max_7cf53 1 = .ok (.iload_n 1, 1) := by decide +kernel
theorem dJ9_max_7cf53_2 : decode cJ9_max_7cf53 2 = .ok (.if_icmp .lt 7, 3) := by decide +kernel
theorem dJ9_max_7cf53_5 : decode cJ9_max_7cf53 5 = .ok (.iload_n 0, 1) := by decide +kernel
theorem dJ9_max_7cf53_6 : decode cJ9_max_7cf53 6 = .ok (.goto 4, 3) := by decide +kernel
theorem dJ9_max_7cf53_9 : decode cJ9_max_7cf53 9 = .ok (.iload_n 1, 1) := by decide +kernel
theorem dJ9_max_7cf53_10 : decode cJ9_max_7cf53 10 = .ok (.ireturn, 1) := by decide +kernel
abbrev vwCl : List vw_C := [(RX0, TX0, 6), (RX1, TX1, 3), (RX2, TX2, 17), (RX3, TX3, 2), (RX4, TX4, 1), (RX5, TX5, 7), (RX6, TX6, 14)]
