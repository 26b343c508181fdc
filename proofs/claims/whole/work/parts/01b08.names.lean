theorem dX6_first_2 : decode cX6_first 2 = .ok (.putfield 42, 3) := by decide +kernel
theorem dX6_first_5 : decode cX6_first 5 = .ok (.aload_n 0, 1) := by decide +kernel
theorem dX6_first_6 : decode cX6_first 6 = .ok (.getfield 7, 3) := by decide +kernel
theorem dX6_first_9 : decode cX6_first 9 = .ok (.iload_n 1, 1) := by decide +kernel
theorem dX6_first_10 : decode cX6_first 10 = .ok (.invokestatic 130, 3) := by decide +kernel
theorem dX6_first_13 : decode cX6_first 13 = .ok (.ifCond .eq 14, 3) := by decide +kernel
theorem dX6_first_16 : decode cX6_first 16 = .ok (.aload_n 0, 1) := by decide +kernel
theorem dX6_first_17 : decode cX6_first 17 = .ok (.getfield 7, 3) := by decide +kernel
theorem dX6_first_20 : decode cX6_first 20 = .ok (.iload_n 2, 1) := by decide +kernel
theorem dX6_first_21 : decode cX6_first 21 = .ok (.invokestatic 133, 3) := by decide +kernel
theorem dX6_first_24 : decode cX6_first 24 = .ok (.ifCond .ne 9, 3) := by decide +kernel
theorem dX6_first_27 : decode cX6_first 27 = .ok (.aload_n 0, 1) := by decide +kernel
theorem dX6_first_28 : decode cX6_first 28 = .ok (.iconst 1, 1) := by decide +kernel
theorem dX6_first_29 : decode cX6_first 29 = .ok (.invokevirtual 57, 3) := by decide +kernel
theorem dX6_first_32 : decode cX6_first 32 = .ok (.ireturn, 1) := by decide +kernel
theorem dX6_first_33 : decode cX6_first 33 = .ok (.aload_n 0, 1) := by decide +kernel
theorem dX6_first_34 : decode cX6_first 34 = .ok (.invokevirtual 151, 3) := by decide +kernel
theorem dX6_first_37 : decode cX6_first 37 = .ok (.aload_n 0, 1) := by decide +kernel
theorem dX6_first_38 : decode cX6_first 38 = .ok (.getfield 7, 3) := by decide +kernel
theorem dX6_first_41 : decode cX6_first 41 = .ok (.bipush 18, 2) := by decide +kernel
theorem dX6_first_43 : decode cX6_first 43 = .ok (.iload_n 1, 1) := by decide +kernel
theorem dX6_first_44 : decode cX6_first 44 = .ok (.iadd, 1) := by decide +kernel
theorem dX6_first_45 : decode cX6_first 45 = .ok (.iaload, 1) := by decide +kernel
theorem dX6_first_46 : decode cX6_first 46 = .ok (.istore_n 3, 1) := by decide +kernel
theorem dX6_first_47 : decode cX6_first 47 = .ok (.aload_n 0, 1) := by decide +kernel
theorem dX6_first_48 : decode cX6_first 48 = .ok (.getfield 7, 3) := by decide +kernel
theorem dX6_first_51 : decode cX6_first 51 = .ok (.bipush 18, 2) := by decide +kernel
theorem dX6_first_53 : decode cX6_first 53 = .ok (.iload_n 1, 1) := by decide +kernel
theorem dX6_first_54 : decode cX6_first 54 = .ok (.iadd, 1) := by decide +kernel
theorem dX6_first_55 : decode cX6_first 55 = .ok (.iload_n 2, 1) := by decide +kernel
theorem dX6_first_56 : decode cX6_first 56 = .ok (.iastore, 1) := by decide +kernel
theorem dX6_first_57 : decode cX6_first 57 = .ok (.iload_n 3, 1) := by decide +kernel
theorem dX6_first_58 : decode cX6_first 58 = .ok (.ireturn, 1) := by decide +kernel
set_option maxRecDepth 20000 in
theorem ggX6_away_X6_isPlayer : GoodIn wsX6_away wsX6_isPlayer := goodIn_r _ [6, 7, 8, 5, 9] (by decide +kernel) (by decide +kernel)
set_option maxRecDepth 20000 in
theorem gX6_away_X6_isPlayer : GoodIn wsX6_away (va_wsS RX6 133 yX6_isPlayer wsX6_isPlayer) := goodIn_app (goodIn_of _ (by decide +kernel)) ggX6_away_X6_isPlayer
set_option maxRecDepth 20000 in
theorem ggX6_away_X6_fails : GoodIn wsX6_away wsX6_fails := goodIn_r _ [13, 1, 23, 24, 25, 26, 27, 28, 29, 30, 31, 32, 33, 34, 35, 36] (by decide +kernel) (by decide +kernel)
set_option maxRecDepth 20000 in
theorem gX6_away_X6_fails : GoodIn wsX6_away (wsV RX6 57 RX6 yX6_fails wsX6_fails) := goodIn_app (goodIn_of _ (by decide +kernel)) ggX6_away_X6_fails
set_option maxRecDepth 20000 in
theorem ggX6_away_X6_in : GoodIn wsX6_away wsX6_in := goodIn_r _ [9] (by decide +kernel) (by decide +kernel)
set_option maxRecDepth 20000 in
theorem gX6_away_X6_in : GoodIn wsX6_away (va_wsS RX6 46 yX6_in wsX6_in) := goodIn_app (goodIn_of _ (by decide +kernel)) ggX6_away_X6_in
set_option maxRecDepth 20000 in
theorem ggX6_away_X6_remembers : GoodIn wsX6_away wsX6_remembers := goodIn_r _ [17, 18, 19, 2, 20, 21, 5, 22, 23, 24, 25, 26, 27, 28, 29, 30, 31, 32, 33, 34, 35, 36] (by decide +kernel) (by decide +kernel)
set_option maxRecDepth 20000 in
theorem gX6_away_X6_remembers : GoodIn wsX6_away (wsV RX6 151 RX6 yX6_remembers wsX6_remembers) := goodIn_app (goodIn_of _ (by decide +kernel)) ggX6_away_X6_remembers
theorem dX6_away_0 : decode cX6_away 0 = .ok (.aload_n 0, 1) := by decide +kernel
theorem dX6_away_1 : decode cX6_away 1 = .ok (.iconst 0, 1) := by decide +kernel
theorem dX6_away_2 : decode cX6_away 2 = .ok (.putfield 42, 3) := by decide +kernel
theorem dX6_away_5 : decode cX6_away 5 = .ok (.aload_n 0, 1) := by decide +kernel
theorem dX6_away_6 : decode cX6_away 6 = .ok (.getfield 7, 3) := by decide +kernel
theorem dX6_away_9 : decode cX6_away 9 = .ok (.iload_n 1, 1) := by decide +kernel
theorem dX6_away_10 : decode cX6_away 10 = .ok (.invokestatic 133, 3) := by decide +kernel
theorem dX6_away_13 : decode cX6_away 13 = .ok (.ifCond .ne 9, 3) := by decide +kernel
theorem dX6_away_16 : decode cX6_away 16 = .ok (.aload_n 0, 1) := by decide +kernel
theorem dX6_away_17 : decode cX6_away 17 = .ok (.iconst 1, 1) := by decide +kernel
theorem dX6_away_18 : decode cX6_away 18 = .ok (.invokevirtual 57, 3) := by decide +kernel
theorem dX6_away_21 : decode cX6_away 21 = .ok (.ireturn, 1) := by decide +kernel
theorem dX6_away_22 : decode cX6_away 22 = .ok (.iload_n 2, 1) := by decide +kernel
theorem dX6_away_23 : decode cX6_away 23 = .ok (.iconst 1, 1) := by decide +kernel
theorem dX6_away_24 : decode cX6_away 24 = .ok (.bipush 99, 2) := by decide +kernel
theorem dX6_away_26 : decode cX6_away 26 = .ok (.invokestatic 46, 3) := by decide +kernel
theorem dX6_away_29 : decode cX6_away 29 = .ok (.ifCond .ne 9, 3) := by decide +kernel
theorem dX6_away_32 : decode cX6_away 32 = .ok (.aload_n 0, 1) := by decide +kernel
theorem dX6_away_33 : decode cX6_away 33 = .ok (.iconst 2, 1) := by decide +kernel
theorem dX6_away_34 : decode cX6_away 34 = .ok (.invokevirtual 57, 3) := by decide +kernel
theorem dX6_away_37 : decode cX6_away 37 = .ok (.ireturn, 1) := by decide +kernel
theorem dX6_away_38 : decode cX6_away 38 = .ok (.aload_n 0, 1) := by decide +kernel
theorem dX6_away_39 : decode cX6_away 39 = .ok (.invokevirtual 151, 3) := by decide +kernel
theorem dX6_away_42 : decode cX6_away 42 = .ok (.aload_n 0, 1) := by decide +kernel
theorem dX6_away_43 : decode cX6_away 43 = .ok (.getfield 7, 3) := by decide +kernel
theorem dX6_away_46 : decode cX6_away 46 = .ok (.bipush 50, 2) := by decide +kernel
theorem dX6_away_48 : decode cX6_away 48 = .ok (.iload_n 1, 1) := by decide +kernel
theorem dX6_away_49 : decode cX6_away 49 = .ok (.iadd, 1) := by decide +kernel
theorem dX6_away_50 : decode cX6_away 50 = .ok (.aload_n 0, 1) := by decide +kernel
theorem dX6_away_51 : decode cX6_away 51 = .ok (.getfield 7, 3) := by decide +kernel
theorem dX6_away_54 : decode cX6_away 54 = .ok (.iconst 0, 1) := by decide +kernel
theorem dX6_away_55 : decode cX6_away 55 = .ok (.iaload, 1) := by decide +kernel
theorem dX6_away_56 : decode cX6_away 56 = .ok (.iload_n 2, 1) := by decide +kernel
theorem dX6_away_57 : decode cX6_away 57 = .ok (.iadd, 1) := by decide +kernel
theorem dX6_away_58 : decode cX6_away 58 = .ok (.iastore, 1) := by decide +kernel
theorem dX6_away_59 : decode cX6_away 59 = .ok (.aload_n 0, 1) := by decide +kernel
theorem dX6_away_60 : decode cX6_away 60 = .ok (.getfield 7, 3) := by decide +kernel
theorem dX6_away_63 : decode cX6_away 63 = .ok (.bipush 50, 2) := by decide +kernel
theorem dX6_away_65 : decode cX6_away 65 = .ok (.iload_n 1, 1) := by decide +kernel
theorem dX6_away_66 : decode cX6_away 66 = .ok (.iadd, 1) := by decide +kernel
theorem dX6_away_67 : decode cX6_away 67 = .ok (.iaload, 1) := by decide +kernel
theorem dX6_away_68 : decode cX6_away 68 = .ok (.ireturn, 1) := by decide +kernel
set_option maxRecDepth 20000 in
theorem ggX6_post_X6_casts : GoodIn wsX6_post wsX6_casts := goodIn_r _ [7, 8, 9, 10, 11, 6, 12, 13, 14, 15, 16, 17, 18, 19, 20, 21, 22, 23, 24, 25, 26, 27, 28, 46, 47, 48, 49, 50, 51, 52, 53, 54, 55, 56, 57, 58, 59] (by decide +kernel) (by decide +kernel)
set_option maxRecDepth 20000 in
theorem gX6_post_X6_casts : GoodIn wsX6_post (wsV RX6 83 RX6 yX6_casts wsX6_casts) := goodIn_app (goodIn_of _ (by decide +kernel)) ggX6_post_X6_casts
set_option maxRecDepth 20000 in
theorem ggX6_post_X6_fails : GoodIn wsX6_post wsX6_fails := goodIn_r _ [32, 1, 46, 47, 48, 49, 50, 51, 52, 53, 54, 55, 56, 57, 58, 59] (by decide +kernel) (by decide +kernel)
set_option maxRecDepth 20000 in
theorem gX6_post_X6_fails : GoodIn wsX6_post (wsV RX6 57 RX6 yX6_fails wsX6_fails) := goodIn_app (goodIn_of _ (by decide +kernel)) ggX6_post_X6_fails
set_option maxRecDepth 20000 in
theorem ggX6_post_X6_remembers : GoodIn wsX6_post wsX6_remembers := goodIn_r _ [36, 37, 38, 2, 39, 40, 6, 41, 46, 47, 48, 49, 50, 51, 52, 53, 54, 55, 56, 57, 58, 59] (by decide +kernel) (by decide +kernel)
set_option maxRecDepth 20000 in
theorem gX6_post_X6_remembers : GoodIn wsX6_post (wsV RX6 151 RX6 yX6_remembers wsX6_remembers) := goodIn_app (goodIn_of _ (by decide +kernel)) ggX6_post_X6_remembers
set_option maxRecDepth 20000 in
theorem ggX6_post_X6_posts : GoodIn wsX6_post wsX6_posts := goodIn_r _ [45, 9, 3, 4, 5, 6, 7, 8, 10, 11, 12, 13, 14, 15, 16, 17, 18, 19, 20, 21, 22, 23, 24, 25, 26, 27, 28, 46, 47, 48, 49, 50, 51, 52, 53, 54, 55, 56, 57, 58, 59] (by decide +kernel) (by decide +kernel)
set_option maxRecDepth 20000 in
theorem gX6_post_X6_posts : GoodIn wsX6_post (wsV RX6 154 RX6 yX6_posts wsX6_posts) := goodIn_app (goodIn_of _ (by decide +kernel)) ggX6_post_X6_posts
theorem dX6_post_0 : decode cX6_post 0 = .ok (.aload_n 0, 1) := by decide +kernel
theorem dX6_post_1 : decode cX6_post 1 = .ok (.iconst 0, 1) := by decide +kernel
theorem dX6_post_2 : decode cX6_post 2 = .ok (.putfield 42, 3) := by decide +kernel
theorem dX6_post_5 : decode cX6_post 5 = .ok (.aload_n 0, 1) := by decide +kernel
theorem dX6_post_6 : decode cX6_post 6 = .ok (.getfield 7, 3) := by decide +kernel
theorem dX6_post_9 : decode cX6_post 9 = .ok (.iconst 3, 1) := by decide +kernel
theorem dX6_post_10 : decode cX6_post 10 = .ok (.iaload, 1) := by decide +kernel
theorem dX6_post_11 : decode cX6_post 11 = .ok (.ifCond .eq 14, 3) := by decide +kernel
theorem dX6_post_14 : decode cX6_post 14 = .ok (.aload_n 0, 1) := by decide +kernel
theorem dX6_post_15 : decode cX6_post 15 = .ok (.aload_n 0, 1) := by decide +kernel
theorem dX6_post_16 : decode cX6_post 16 = .ok (.getfield 7, 3) := by decide +kernel
theorem dX6_post_19 : decode cX6_post 19 = .ok (.invokevirtual 83, 3) := by decide +kernel
theorem dX6_post_22 : decode cX6_post 22 = .ok (.ifCond .ge 9, 3) := by decide +kernel
theorem dX6_post_25 : decode cX6_post 25 = .ok (.aload_n 0, 1) := by decide +kernel
theorem dX6_post_26 : decode cX6_post 26 = .ok (.iconst 1, 1) := by decide +kernel
theorem dX6_post_27 : decode cX6_post 27 = .ok (.invokevirtual 57, 3) := by decide +kernel
theorem dX6_post_30 : decode cX6_post 30 = .ok (.ireturn, 1) := by decide +kernel
theorem dX6_post_31 : decode cX6_post 31 = .ok (.aload_n 0, 1) := by decide +kernel
theorem dX6_post_32 : decode cX6_post 32 = .ok (.invokevirtual 151, 3) := by decide +kernel
theorem dX6_post_35 : decode cX6_post 35 = .ok (.aload_n 0, 1) := by decide +kernel
theorem dX6_post_36 : decode cX6_post 36 = .ok (.aload_n 0, 1) := by decide +kernel
theorem dX6_post_37 : decode cX6_post 37 = .ok (.getfield 7, 3) := by decide +kernel
theorem dX6_post_40 : decode cX6_post 40 = .ok (.invokevirtual 154, 3) := by decide +kernel
theorem dX6_post_43 : decode cX6_post 43 = .ok (.ireturn, 1) := by decide +kernel
set_option maxRecDepth 20000 in
theorem ggX6_play_X6_fails : GoodIn wsX6_play wsX6_fails := goodIn_r _ [7, 1, 52, 53, 54, 55, 56, 57, 58, 59, 60, 61, 62, 63, 64, 65] (by decide +kernel) (by decide +kernel)
set_option maxRecDepth 20000 in
theorem gX6_play_X6_fails : GoodIn wsX6_play (wsV RX6 57 RX6 yX6_fails wsX6_fails) := goodIn_app (goodIn_of _ (by decide +kernel)) ggX6_play_X6_fails
set_option maxRecDepth 20000 in
theorem ggX6_play_X6_remembers : GoodIn wsX6_play wsX6_remembers := goodIn_r _ [11, 12, 13, 2, 14, 15, 6, 16, 52, 53, 54, 55, 56, 57, 58, 59, 60, 61, 62, 63, 64, 65] (by decide +kernel) (by decide +kernel)
set_option maxRecDepth 20000 in
theorem gX6_play_X6_remembers : GoodIn wsX6_play (wsV RX6 151 RX6 yX6_remembers wsX6_remembers) := goodIn_app (goodIn_of _ (by decide +kernel)) ggX6_play_X6_remembers
set_option maxRecDepth 20000 in
theorem ggX6_play_X6_plays : GoodIn wsX6_play wsX6_plays := goodIn_r _ [20, 21, 22, 23, 24, 6, 25, 26, 27, 28, 29, 30, 31, 32, 33, 34, 35, 36, 37, 38, 39, 40, 41, 42, 43, 44, 45, 46, 47, 48, 49, 50, 51, 52, 53, 54, 55, 56, 57, 58, 59, 60, 61, 62, 63, 64, 65] (by decide +kernel) (by decide +kernel)
set_option maxRecDepth 20000 in
theorem gX6_play_X6_plays : GoodIn wsX6_play (wsV RX6 127 RX6 yX6_plays wsX6_plays) := goodIn_app (goodIn_of _ (by decide +kernel)) ggX6_play_X6_plays
theorem dX6_play_0 : decode cX6_play 0 = .ok (.aload_n 0, 1) := by decide +kernel
theorem dX6_play_1 : decode cX6_play 1 = .ok (.iconst 0, 1) := by decide +kernel
theorem dX6_play_2 : decode cX6_play 2 = .ok (.putfield 42, 3) := by decide +kernel
theorem dX6_play_5 : decode cX6_play 5 = .ok (.aload_n 0, 1) := by decide +kernel
theorem dX6_play_6 : decode cX6_play 6 = .ok (.getfield 7, 3) := by decide +kernel
theorem dX6_play_9 : decode cX6_play 9 = .ok (.iconst 3, 1) := by decide +kernel
theorem dX6_play_10 : decode cX6_play 10 = .ok (.iaload, 1) := by decide +kernel
theorem dX6_play_11 : decode cX6_play 11 = .ok (.ifCond .ne 9, 3) := by decide +kernel
theorem dX6_play_14 : decode cX6_play 14 = .ok (.aload_n 0, 1) := by decide +kernel
theorem dX6_play_15 : decode cX6_play 15 = .ok (.iconst 1, 1) := by decide +kernel
theorem dX6_play_16 : decode cX6_play 16 = .ok (.invokevirtual 57, 3) := by decide +kernel
theorem dX6_play_19 : decode cX6_play 19 = .ok (.ireturn, 1) := by decide +kernel
theorem dX6_play_20 : decode cX6_play 20 = .ok (.aload_n 0, 1) := by decide +kernel
theorem dX6_play_21 : decode cX6_play 21 = .ok (.invokevirtual 151, 3) := by decide +kernel
theorem dX6_play_24 : decode cX6_play 24 = .ok (.aload_n 0, 1) := by decide +kernel
theorem dX6_play_25 : decode cX6_play 25 = .ok (.aload_n 0, 1) := by decide +kernel
theorem dX6_play_26 : decode cX6_play 26 = .ok (.getfield 7, 3) := by decide +kernel
theorem dX6_play_29 : decode cX6_play 29 = .ok (.invokevirtual 127, 3) := by decide +kernel
theorem dX6_play_32 : decode cX6_play 32 = .ok (.ireturn, 1) := by decide +kernel
set_option maxRecDepth 20000 in
theorem ggX6_dark_X6_in : GoodIn wsX6_dark wsX6_in := goodIn_r _ [6] (by decide +kernel) (by decide +kernel)
set_option maxRecDepth 20000 in
theorem gX6_dark_X6_in : GoodIn wsX6_dark (va_wsS RX6 46 yX6_in wsX6_in) := goodIn_app (goodIn_of _ (by decide +kernel)) ggX6_dark_X6_in
set_option maxRecDepth 20000 in
theorem ggX6_dark_X6_fails : GoodIn wsX6_dark wsX6_fails := goodIn_r _ [10, 1, 29, 30, 31, 32, 33, 34, 35, 36, 37, 38, 39, 40, 41, 42] (by decide +kernel) (by decide +kernel)
set_option maxRecDepth 20000 in
theorem gX6_dark_X6_fails : GoodIn wsX6_dark (wsV RX6 57 RX6 yX6_fails wsX6_fails) := goodIn_app (goodIn_of _ (by decide +kernel)) ggX6_dark_X6_fails
set_option maxRecDepth 20000 in
theorem ggX6_dark_X6_remembers : GoodIn wsX6_dark wsX6_remembers := goodIn_r _ [14, 15, 16, 2, 17, 18, 5, 19, 29, 30, 31, 32, 33, 34, 35, 36, 37, 38, 39, 40, 41, 42] (by decide +kernel) (by decide +kernel)
set_option maxRecDepth 20000 in
theorem gX6_dark_X6_remembers : GoodIn wsX6_dark (wsV RX6 151 RX6 yX6_remembers wsX6_remembers) := goodIn_app (goodIn_of _ (by decide +kernel)) ggX6_dark_X6_remembers
set_option maxRecDepth 20000 in
theorem ggX6_dark_X6_darkens : GoodIn wsX6_dark wsX6_darkens := goodIn_r _ [22, 23, 24, 5, 25, 26, 27, 28] (by decide +kernel) (by decide +kernel)
set_option maxRecDepth 20000 in
theorem gX6_dark_X6_darkens : GoodIn wsX6_dark (va_wsS RX6 124 yX6_darkens wsX6_darkens) := goodIn_app (goodIn_of _ (by decide +kernel)) ggX6_dark_X6_darkens
theorem dX6_dark_0 : decode cX6_dark 0 = .ok (.aload_n 0, 1) := by decide +kernel
theorem dX6_dark_1 : decode cX6_dark 1 = .ok (.iconst 0, 1) := by decide +kernel
theorem dX6_dark_2 : decode cX6_dark 2 = .ok (.putfield 42, 3) := by decide +kernel
theorem dX6_dark_5 : decode cX6_dark 5 = .ok (.iload_n 1, 1) := by decide +kernel
theorem dX6_dark_6 : decode cX6_dark 6 = .ok (.iconst 1, 1) := by decide +kernel
theorem dX6_dark_7 : decode cX6_dark 7 = .ok (.bipush 99, 2) := by decide +kernel
theorem dX6_dark_9 : decode cX6_dark 9 = .ok (.invokestatic 46, 3) := by decide +kernel
theorem dX6_dark_12 : decode cX6_dark 12 = .ok (.ifCond .ne 9, 3) := by decide +kernel
theorem dX6_dark_15 : decode cX6_dark 15 = .ok (.aload_n 0, 1) := by decide +kernel
theorem dX6_dark_16 : decode cX6_dark 16 = .ok (.iconst 1, 1) := by decide +kernel
theorem dX6_dark_17 : decode cX6_dark 17 = .ok (.invokevirtual 57, 3) := by decide +kernel
theorem dX6_dark_20 : decode cX6_dark 20 = .ok (.ireturn, 1) := by decide +kernel
theorem dX6_dark_21 : decode cX6_dark 21 = .ok (.aload_n 0, 1) := by decide +kernel
theorem dX6_dark_22 : decode cX6_dark 22 = .ok (.invokevirtual 151, 3) := by decide +kernel
theorem dX6_dark_25 : decode cX6_dark 25 = .ok (.aload_n 0, 1) := by decide +kernel
theorem dX6_dark_26 : decode cX6_dark 26 = .ok (.getfield 7, 3) := by decide +kernel
theorem dX6_dark_29 : decode cX6_dark 29 = .ok (.iload_n 1, 1) := by decide +kernel
theorem dX6_dark_30 : decode cX6_dark 30 = .ok (.invokestatic 124, 3) := by decide +kernel
theorem dX6_dark_33 : decode cX6_dark 33 = .ok (.aload_n 0, 1) := by decide +kernel
theorem dX6_dark_34 : decode cX6_dark 34 = .ok (.getfield 7, 3) := by decide +kernel
theorem dX6_dark_37 : decode cX6_dark 37 = .ok (.iconst 0, 1) := by decide +kernel
theorem dX6_dark_38 : decode cX6_dark 38 = .ok (.iaload, 1) := by decide +kernel
theorem dX6_dark_39 : decode cX6_dark 39 = .ok (.ireturn, 1) := by decide +kernel
theorem dX6_timesOf_0 : decode cX6_timesOf 0 = .ok (.iload_n 1, 1) := by decide +kernel
theorem dX6_timesOf_1 : decode cX6_timesOf 1 = .ok (.iconst (-1), 1) := by decide +kernel
theorem dX6_timesOf_2 : decode cX6_timesOf 2 = .ok (.if_icmp .ne 7, 3) := by decide +kernel
theorem dX6_timesOf_5 : decode cX6_timesOf 5 = .ok (.iconst 0, 1) := by decide +kernel
theorem dX6_timesOf_6 : decode cX6_timesOf 6 = .ok (.goto 18, 3) := by decide +kernel
theorem dX6_timesOf_9 : decode cX6_timesOf 9 = .ok (.aload_n 0, 1) := by decide +kernel
theorem dX6_timesOf_10 : decode cX6_timesOf 10 = .ok (.getfield 7, 3) := by decide +kernel
theorem dX6_timesOf_13 : decode cX6_timesOf 13 = .ok (.sipush 130, 3) := by decide +kernel
theorem dX6_timesOf_16 : decode cX6_timesOf 16 = .ok (.bipush 6, 2) := by decide +kernel
theorem dX6_timesOf_18 : decode cX6_timesOf 18 = .ok (.iload_n 1, 1) := by decide +kernel
theorem dX6_timesOf_19 : decode cX6_timesOf 19 = .ok (.imul, 1) := by decide +kernel
theorem dX6_timesOf_20 : decode cX6_timesOf 20 = .ok (.iadd, 1) := by decide +kernel
theorem dX6_timesOf_21 : decode cX6_timesOf 21 = .ok (.iload_n 2, 1) := by decide +kernel
theorem dX6_timesOf_22 : decode cX6_timesOf 22 = .ok (.iadd, 1) := by decide +kernel
theorem dX6_timesOf_23 : decode cX6_timesOf 23 = .ok (.iaload, 1) := by decide +kernel
theorem dX6_timesOf_24 : decode cX6_timesOf 24 = .ok (.ireturn, 1) := by decide +kernel
set_option maxRecDepth 20000 in
theorem ggX6_promote_X6_isRole : GoodIn wsX6_promote wsX6_isRole := goodIn_r _ [6, 7, 8, 5, 9] (by decide +kernel) (by decide +kernel)
set_option maxRecDepth 20000 in
theorem gX6_promote_X6_isRole : GoodIn wsX6_promote (va_wsS RX6 130 yX6_isRole wsX6_isRole) := goodIn_app (goodIn_of _ (by decide +kernel)) ggX6_promote_X6_isRole
set_option maxRecDepth 20000 in
theorem ggX6_promote_X6_fails : GoodIn wsX6_promote wsX6_fails := goodIn_r _ [13, 1, 27, 28, 29, 30, 31, 32, 33, 34, 35, 36, 37, 38, 39, 40] (by decide +kernel) (by decide +kernel)
set_option maxRecDepth 20000 in
theorem gX6_promote_X6_fails : GoodIn wsX6_promote (wsV RX6 57 RX6 yX6_fails wsX6_fails) := goodIn_app (goodIn_of _ (by decide +kernel)) ggX6_promote_X6_fails
set_option maxRecDepth 20000 in
theorem ggX6_promote_X6_timesOf : GoodIn wsX6_promote wsX6_timesOf := goodIn_r _ [17, 2, 27, 28, 29, 30, 31, 32, 33, 34, 35, 36, 37, 38, 39, 40] (by decide +kernel) (by decide +kernel)
set_option maxRecDepth 20000 in
theorem gX6_promote_X6_timesOf : GoodIn wsX6_promote (wsV RX6 157 RX6 yX6_timesOf wsX6_timesOf) := goodIn_app (goodIn_of _ (by decide +kernel)) ggX6_promote_X6_timesOf
set_option maxRecDepth 20000 in
theorem ggX6_promote_X6_remembers : GoodIn wsX6_promote wsX6_remembers := goodIn_r _ [21, 22, 23, 2, 24, 25, 5, 26, 27, 28, 29, 30, 31, 32, 33, 34, 35, 36, 37, 38, 39, 40] (by decide +kernel) (by decide +kernel)
set_option maxRecDepth 20000 in
theorem gX6_promote_X6_remembers : GoodIn wsX6_promote (wsV RX6 151 RX6 yX6_remembers wsX6_remembers) := goodIn_app (goodIn_of _ (by decide +kernel)) ggX6_promote_X6_remembers
theorem dX6_promote_0 : decode cX6_promote 0 = .ok (.aload_n 0, 1) := by decide +kernel
theorem dX6_promote_1 : decode cX6_promote 1 = .ok (.iconst 0, 1) := by decide +kernel
theorem dX6_promote_2 : decode cX6_promote 2 = .ok (.putfield 42, 3) := by decide +kernel
theorem dX6_promote_5 : decode cX6_promote 5 = .ok (.aload_n 0, 1) := by decide +kernel
theorem dX6_promote_6 : decode cX6_promote 6 = .ok (.getfield 7, 3) := by decide +kernel
theorem dX6_promote_9 : decode cX6_promote 9 = .ok (.iload_n 1, 1) := by decide +kernel
theorem dX6_promote_10 : decode cX6_promote 10 = .ok (.invokestatic 130, 3) := by decide +kernel
theorem dX6_promote_13 : decode cX6_promote 13 = .ok (.ifCond .ne 9, 3) := by decide +kernel
theorem dX6_promote_16 : decode cX6_promote 16 = .ok (.aload_n 0, 1) := by decide +kernel
theorem dX6_promote_17 : decode cX6_promote 17 = .ok (.iconst 1, 1) := by decide +kernel
theorem dX6_promote_18 : decode cX6_promote 18 = .ok (.invokevirtual 57, 3) := by decide +kernel
theorem dX6_promote_21 : decode cX6_promote 21 = .ok (.ireturn, 1) := by decide +kernel
theorem dX6_promote_22 : decode cX6_promote 22 = .ok (.aload_n 0, 1) := by decide +kernel
theorem dX6_promote_23 : decode cX6_promote 23 = .ok (.getfield 7, 3) := by decide +kernel
theorem dX6_promote_26 : decode cX6_promote 26 = .ok (.bipush 18, 2) := by decide +kernel
theorem dX6_promote_28 : decode cX6_promote 28 = .ok (.iload_n 1, 1) := by decide +kernel
theorem dX6_promote_29 : decode cX6_promote 29 = .ok (.iadd, 1) := by decide +kernel
theorem dX6_promote_30 : decode cX6_promote 30 = .ok (.iaload, 1) := by decide +kernel
theorem dX6_promote_31 : decode cX6_promote 31 = .ok (.istore_n 2, 1) := by decide +kernel
theorem dX6_promote_32 : decode cX6_promote 32 = .ok (.aload_n 0, 1) := by decide +kernel
theorem dX6_promote_33 : decode cX6_promote 33 = .ok (.getfield 7, 3) := by decide +kernel
theorem dX6_promote_36 : decode cX6_promote 36 = .ok (.iconst 4, 1) := by decide +kernel
theorem dX6_promote_37 : decode cX6_promote 37 = .ok (.iaload, 1) := by decide +kernel
theorem dX6_promote_38 : decode cX6_promote 38 = .ok (.iconst 1, 1) := by decide +kernel
theorem dX6_promote_39 : decode cX6_promote 39 = .ok (.isub, 1) := by decide +kernel
theorem dX6_promote_40 : decode cX6_promote 40 = .ok (.istore_n 3, 1) := by decide +kernel
theorem dX6_promote_41 : decode cX6_promote 41 = .ok (.iload_n 3, 1) := by decide +kernel
theorem dX6_promote_42 : decode cX6_promote 42 = .ok (.ifCond .lt 65, 3) := by decide +kernel
theorem dX6_promote_45 : decode cX6_promote 45 = .ok (.aload_n 0, 1) := by decide +kernel
theorem dX6_promote_46 : decode cX6_promote 46 = .ok (.iload_n 3, 1) := by decide +kernel
theorem dX6_promote_47 : decode cX6_promote 47 = .ok (.iload_n 1, 1) := by decide +kernel
theorem dX6_promote_48 : decode cX6_promote 48 = .ok (.invokevirtual 157, 3) := by decide +kernel
theorem dX6_promote_51 : decode cX6_promote 51 = .ok (.aload_n 0, 1) := by decide +kernel
theorem dX6_promote_52 : decode cX6_promote 52 = .ok (.aload_n 0, 1) := by decide +kernel
theorem dX6_promote_53 : decode cX6_promote 53 = .ok (.getfield 7, 3) := by decide +kernel
theorem dX6_promote_56 : decode cX6_promote 56 = .ok (.bipush 18, 2) := by decide +kernel
theorem dX6_promote_58 : decode cX6_promote 58 = .ok (.iload_n 1, 1) := by decide +kernel
theorem dX6_promote_59 : decode cX6_promote 59 = .ok (.iadd, 1) := by decide +kernel
theorem dX6_promote_60 : decode cX6_promote 60 = .ok (.iaload, 1) := by decide +kernel
theorem dX6_promote_61 : decode cX6_promote 61 = .ok (.iload_n 1, 1) := by decide +kernel
theorem dX6_promote_62 : decode cX6_promote 62 = .ok (.invokevirtual 157, 3) := by decide +kernel
theorem dX6_promote_65 : decode cX6_promote 65 = .ok (.if_icmp .le 7, 3) := by decide +kernel
theorem dX6_promote_68 : decode cX6_promote 68 = .ok (.iconst 1, 1) := by decide +kernel
theorem dX6_promote_69 : decode cX6_promote 69 = .ok (.goto 4, 3) := by decide +kernel
theorem dX6_promote_72 : decode cX6_promote 72 = .ok (.iconst 0, 1) := by decide +kernel
theorem dX6_promote_73 : decode cX6_promote 73 = .ok (.istore 4, 2) := by decide +kernel
theorem dX6_promote_75 : decode cX6_promote 75 = .ok (.iload 4, 2) := by decide +kernel
theorem dX6_promote_77 : decode cX6_promote 77 = .ok (.ifCond .eq 22, 3) := by decide +kernel
theorem dX6_promote_80 : decode cX6_promote 80 = .ok (.aload_n 0, 1) := by decide +kernel
theorem dX6_promote_81 : decode cX6_promote 81 = .ok (.iload_n 3, 1) := by decide +kernel
theorem dX6_promote_82 : decode cX6_promote 82 = .ok (.iload_n 1, 1) := by decide +kernel
theorem dX6_promote_83 : decode cX6_promote 83 = .ok (.invokevirtual 157, 3) := by decide +kernel
theorem dX6_promote_86 : decode cX6_promote 86 = .ok (.aload_n 0, 1) := by decide +kernel
theorem dX6_promote_87 : decode cX6_promote 87 = .ok (.iload_n 2, 1) := by decide +kernel
theorem dX6_promote_88 : decode cX6_promote 88 = .ok (.iload_n 1, 1) := by decide +kernel
theorem dX6_promote_89 : decode cX6_promote 89 = .ok (.invokevirtual 157, 3) := by decide +kernel
theorem dX6_promote_92 : decode cX6_promote 92 = .ok (.if_icmp .lt 7, 3) := by decide +kernel
theorem dX6_promote_95 : decode cX6_promote 95 = .ok (.iload_n 3, 1) := by decide +kernel
theorem dX6_promote_96 : decode cX6_promote 96 = .ok (.goto 4, 3) := by decide +kernel
theorem dX6_promote_99 : decode cX6_promote 99 = .ok (.iload_n 2, 1) := by decide +kernel
theorem dX6_promote_100 : decode cX6_promote 100 = .ok (.istore_n 2, 1) := by decide +kernel
theorem dX6_promote_101 : decode cX6_promote 101 = .ok (.iinc 3 (-1), 3) := by decide +kernel
theorem dX6_promote_104 : decode cX6_promote 104 = .ok (.goto (-63), 3) := by decide +kernel
theorem dX6_promote_107 : decode cX6_promote 107 = .ok (.iload_n 2, 1) := by decide +kernel
theorem dX6_promote_108 : decode cX6_promote 108 = .ok (.aload_n 0, 1) := by decide +kernel
theorem dX6_promote_109 : decode cX6_promote 109 = .ok (.getfield 7, 3) := by decide +kernel
theorem dX6_promote_112 : decode cX6_promote 112 = .ok (.bipush 18, 2) := by decide +kernel
theorem dX6_promote_114 : decode cX6_promote 114 = .ok (.iload_n 1, 1) := by decide +kernel
theorem dX6_promote_115 : decode cX6_promote 115 = .ok (.iadd, 1) := by decide +kernel
theorem dX6_promote_116 : decode cX6_promote 116 = .ok (.iaload, 1) := by decide +kernel
theorem dX6_promote_117 : decode cX6_promote 117 = .ok (.if_icmp .ne 9, 3) := by decide +kernel
theorem dX6_promote_120 : decode cX6_promote 120 = .ok (.aload_n 0, 1) := by decide +kernel
theorem dX6_promote_121 : decode cX6_promote 121 = .ok (.iconst 2, 1) := by decide +kernel
theorem dX6_promote_122 : decode cX6_promote 122 = .ok (.invokevirtual 57, 3) := by decide +kernel
theorem dX6_promote_125 : decode cX6_promote 125 = .ok (.ireturn, 1) := by decide +kernel
theorem dX6_promote_126 : decode cX6_promote 126 = .ok (.aload_n 0, 1) := by decide +kernel
theorem dX6_promote_127 : decode cX6_promote 127 = .ok (.invokevirtual 151, 3) := by decide +kernel
theorem dX6_promote_130 : decode cX6_promote 130 = .ok (.aload_n 0, 1) := by decide +kernel
theorem dX6_promote_131 : decode cX6_promote 131 = .ok (.getfield 7, 3) := by decide +kernel
theorem dX6_promote_134 : decode cX6_promote 134 = .ok (.bipush 18, 2) := by decide +kernel
theorem dX6_promote_136 : decode cX6_promote 136 = .ok (.iload_n 1, 1) := by decide +kernel
theorem dX6_promote_137 : decode cX6_promote 137 = .ok (.iadd, 1) := by decide +kernel
theorem dX6_promote_138 : decode cX6_promote 138 = .ok (.iload_n 2, 1) := by decide +kernel
theorem dX6_promote_139 : decode cX6_promote 139 = .ok (.iastore, 1) := by decide +kernel
theorem dX6_promote_140 : decode cX6_promote 140 = .ok (.iload_n 2, 1) := by decide +kernel
theorem dX6_promote_141 : decode cX6_promote 141 = .ok (.ireturn, 1) := by decide +kernel
set_option maxRecDepth 20000 in
theorem ggX6_isFor_X6_in : GoodIn wsX6_isFor wsX6_in := goodIn_r _ [4] (by decide +kernel) (by decide +kernel)
set_option maxRecDepth 20000 in
theorem gX6_isFor_X6_in : GoodIn wsX6_isFor (va_wsS RX6 46 yX6_in wsX6_in) := goodIn_app (goodIn_of _ (by decide +kernel)) ggX6_isFor_X6_in
theorem dX6_isFor_0 : decode cX6_isFor 0 = .ok (.iload_n 0, 1) := by decide +kernel
theorem dX6_isFor_1 : decode cX6_isFor 1 = .ok (.ifCond .ne 13, 3) := by decide +kernel
theorem dX6_isFor_4 : decode cX6_isFor 4 = .ok (.iload_n 1, 1) := by decide +kernel
theorem dX6_isFor_5 : decode cX6_isFor 5 = .ok (.iconst 1, 1) := by decide +kernel
theorem dX6_isFor_6 : decode cX6_isFor 6 = .ok (.bipush 9, 2) := by decide +kernel
theorem dX6_isFor_8 : decode cX6_isFor 8 = .ok (.invokestatic 46, 3) := by decide +kernel
theorem dX6_isFor_11 : decode cX6_isFor 11 = .ok (.goto 40, 3) := by decide +kernel
theorem dX6_isFor_14 : decode cX6_isFor 14 = .ok (.iload_n 0, 1) := by decide +kernel
theorem dX6_isFor_15 : decode cX6_isFor 15 = .ok (.iconst 2, 1) := by decide +kernel
theorem dX6_isFor_16 : decode cX6_isFor 16 = .ok (.if_icmp .ne 13, 3) := by decide +kernel
theorem dX6_isFor_19 : decode cX6_isFor 19 = .ok (.iload_n 1, 1) := by decide +kernel
theorem dX6_isFor_20 : decode cX6_isFor 20 = .ok (.iconst 0, 1) := by decide +kernel
theorem dX6_isFor_21 : decode cX6_isFor 21 = .ok (.bipush 20, 2) := by decide +kernel
theorem dX6_isFor_23 : decode cX6_isFor 23 = .ok (.invokestatic 46, 3) := by decide +kernel
theorem dX6_isFor_26 : decode cX6_isFor 26 = .ok (.goto 25, 3) := by decide +kernel
theorem dX6_isFor_29 : decode cX6_isFor 29 = .ok (.iload_n 0, 1) := by decide +kernel
theorem dX6_isFor_30 : decode cX6_isFor 30 = .ok (.iconst 3, 1) := by decide +kernel
theorem dX6_isFor_31 : decode cX6_isFor 31 = .ok (.if_icmp .ne 13, 3) := by decide +kernel
theorem dX6_isFor_34 : decode cX6_isFor 34 = .ok (.iload_n 1, 1) := by decide +kernel
theorem dX6_isFor_35 : decode cX6_isFor 35 = .ok (.iconst 0, 1) := by decide +kernel
theorem dX6_isFor_36 : decode cX6_isFor 36 = .ok (.bipush 50, 2) := by decide +kernel
theorem dX6_isFor_38 : decode cX6_isFor 38 = .ok (.invokestatic 46, 3) := by decide +kernel
theorem dX6_isFor_41 : decode cX6_isFor 41 = .ok (.goto 10, 3) := by decide +kernel
theorem dX6_isFor_44 : decode cX6_isFor 44 = .ok (.iload_n 1, 1) := by decide +kernel
theorem dX6_isFor_45 : decode cX6_isFor 45 = .ok (.iconst 0, 1) := by decide +kernel
theorem dX6_isFor_46 : decode cX6_isFor 46 = .ok (.bipush 99, 2) := by decide +kernel
theorem dX6_isFor_48 : decode cX6_isFor 48 = .ok (.invokestatic 46, 3) := by decide +kernel
theorem dX6_isFor_51 : decode cX6_isFor 51 = .ok (.ireturn, 1) := by decide +kernel
set_option maxRecDepth 20000 in
theorem ggX6_set_X6_in : GoodIn wsX6_set wsX6_in := goodIn_r _ [6] (by decide +kernel) (by decide +kernel)
set_option maxRecDepth 20000 in
theorem gX6_set_X6_in : GoodIn wsX6_set (va_wsS RX6 46 yX6_in wsX6_in) := goodIn_app (goodIn_of _ (by decide +kernel)) ggX6_set_X6_in
set_option maxRecDepth 20000 in
theorem ggX6_set_X6_isFor : GoodIn wsX6_set wsX6_isFor := goodIn_r _ [9, 3, 4, 5, 6] (by decide +kernel) (by decide +kernel)
set_option maxRecDepth 20000 in
theorem gX6_set_X6_isFor : GoodIn wsX6_set (va_wsS RX6 160 yX6_isFor wsX6_isFor) := goodIn_app (goodIn_of _ (by decide +kernel)) ggX6_set_X6_isFor
set_option maxRecDepth 20000 in
theorem ggX6_set_X6_fails : GoodIn wsX6_set wsX6_fails := goodIn_r _ [13, 1, 23, 24, 25, 26, 27, 28, 29, 30, 31, 32, 33, 34, 35, 36] (by decide +kernel) (by decide +kernel)
set_option maxRecDepth 20000 in
theorem gX6_set_X6_fails : GoodIn wsX6_set (wsV RX6 57 RX6 yX6_fails wsX6_fails) := goodIn_app (goodIn_of _ (by decide +kernel)) ggX6_set_X6_fails
set_option maxRecDepth 20000 in
theorem ggX6_set_X6_remembers : GoodIn wsX6_set wsX6_remembers := goodIn_r _ [17, 18, 19, 2, 20, 21, 5, 22, 23, 24, 25, 26, 27, 28, 29, 30, 31, 32, 33, 34, 35, 36] (by decide +kernel) (by decide +kernel)
set_option maxRecDepth 20000 in
theorem gX6_set_X6_remembers : GoodIn wsX6_set (wsV RX6 151 RX6 yX6_remembers wsX6_remembers) := goodIn_app (goodIn_of _ (by decide +kernel)) ggX6_set_X6_remembers
theorem dX6_set_0 : decode cX6_set 0 = .ok (.aload_n 0, 1) := by decide +kernel
theorem dX6_set_1 : decode cX6_set 1 = .ok (.iconst 0, 1) := by decide +kernel
theorem dX6_set_2 : decode cX6_set 2 = .ok (.putfield 42, 3) := by decide +kernel
theorem dX6_set_5 : decode cX6_set 5 = .ok (.iload_n 1, 1) := by decide +kernel
theorem dX6_set_6 : decode cX6_set 6 = .ok (.iconst 0, 1) := by decide +kernel
theorem dX6_set_7 : decode cX6_set 7 = .ok (.iconst 4, 1) := by decide +kernel
theorem dX6_set_8 : decode cX6_set 8 = .ok (.invokestatic 46, 3) := by decide +kernel
theorem dX6_set_11 : decode cX6_set 11 = .ok (.ifCond .eq 11, 3) := by decide +kernel
theorem dX6_set_14 : decode cX6_set 14 = .ok (.iload_n 1, 1) := by decide +kernel
theorem dX6_set_15 : decode cX6_set 15 = .ok (.iload_n 2, 1) := by decide +kernel
theorem dX6_set_16 : decode cX6_set 16 = .ok (.invokestatic 160, 3) := by decide +kernel
theorem dX6_set_19 : decode cX6_set 19 = .ok (.ifCond .ne 9, 3) := by decide +kernel
theorem dX6_set_22 : decode cX6_set 22 = .ok (.aload_n 0, 1) := by decide +kernel
theorem dX6_set_23 : decode cX6_set 23 = .ok (.iconst 1, 1) := by decide +kernel
theorem dX6_set_24 : decode cX6_set 24 = .ok (.invokevirtual 57, 3) := by decide +kernel
theorem dX6_set_27 : decode cX6_set 27 = .ok (.ireturn, 1) := by decide +kernel
theorem dX6_set_28 : decode cX6_set 28 = .ok (.aload_n 0, 1) := by decide +kernel
theorem dX6_set_29 : decode cX6_set 29 = .ok (.invokevirtual 151, 3) := by decide +kernel
theorem dX6_set_32 : decode cX6_set 32 = .ok (.aload_n 0, 1) := by decide +kernel
theorem dX6_set_33 : decode cX6_set 33 = .ok (.getfield 7, 3) := by decide +kernel
theorem dX6_set_36 : decode cX6_set 36 = .ok (.iconst 5, 1) := by decide +kernel
theorem dX6_set_37 : decode cX6_set 37 = .ok (.iload_n 1, 1) := by decide +kernel
theorem dX6_set_38 : decode cX6_set 38 = .ok (.iadd, 1) := by decide +kernel
theorem dX6_set_39 : decode cX6_set 39 = .ok (.iaload, 1) := by decide +kernel
theorem dX6_set_40 : decode cX6_set 40 = .ok (.istore_n 3, 1) := by decide +kernel
theorem dX6_set_41 : decode cX6_set 41 = .ok (.aload_n 0, 1) := by decide +kernel
theorem dX6_set_42 : decode cX6_set 42 = .ok (.getfield 7, 3) := by decide +kernel
theorem dX6_set_45 : decode cX6_set 45 = .ok (.iconst 5, 1) := by decide +kernel
theorem dX6_set_46 : decode cX6_set 46 = .ok (.iload_n 1, 1) := by decide +kernel
theorem dX6_set_47 : decode cX6_set 47 = .ok (.iadd, 1) := by decide +kernel
theorem dX6_set_48 : decode cX6_set 48 = .ok (.iload_n 2, 1) := by decide +kernel
theorem dX6_set_49 : decode cX6_set 49 = .ok (.iastore, 1) := by decide +kernel
theorem dX6_set_50 : decode cX6_set 50 = .ok (.iload_n 3, 1) := by decide +kernel
theorem dX6_set_51 : decode cX6_set 51 = .ok (.ireturn, 1) := by decide +kernel
set_option maxRecDepth 20000 in
theorem ggX6_tries_X6_lays : GoodIn wsX6_tries wsX6_lays := goodIn_r _ [6] (by decide +kernel) (by decide +kernel)
set_option maxRecDepth 20000 in
theorem gX6_tries_X6_lays : GoodIn wsX6_tries (va_wsS RX6 53 yX6_lays wsX6_lays) := goodIn_app (goodIn_of _ (by decide +kernel)) ggX6_tries_X6_lays
theorem dX6_tries_0 : decode cX6_tries 0 = .ok (.aload_n 0, 1) := by decide +kernel
theorem dX6_tries_1 : decode cX6_tries 1 = .ok (.getfield 7, 3) := by decide +kernel
theorem dX6_tries_4 : decode cX6_tries 4 = .ok (.iconst 0, 1) := by decide +kernel
theorem dX6_tries_5 : decode cX6_tries 5 = .ok (.aload_n 0, 1) := by decide +kernel
theorem dX6_tries_6 : decode cX6_tries 6 = .ok (.getfield 13, 3) := by decide +kernel
theorem dX6_tries_9 : decode cX6_tries 9 = .ok (.iconst 0, 1) := by decide +kernel
theorem dX6_tries_10 : decode cX6_tries 10 = .ok (.invokestatic 53, 3) := by decide +kernel
theorem dX6_tries_13 : decode cX6_tries 13 = .ok (.return_, 1) := by decide +kernel
set_option maxRecDepth 20000 in
theorem ggX6_strength_X6_casts : GoodIn wsX6_strength wsX6_casts := goodIn_r _ [7, 8, 9, 10, 11, 6, 12, 13, 14, 15, 16, 17, 18, 19, 20, 21, 22, 23, 24, 25, 26, 27, 28, 29, 30, 31, 32, 33, 34, 35, 36, 37, 38, 39, 40, 41, 42] (by decide +kernel) (by decide +kernel)
set_option maxRecDepth 20000 in
theorem gX6_strength_X6_casts : GoodIn wsX6_strength (wsV RX6 83 RX6 yX6_casts wsX6_casts) := goodIn_app (goodIn_of _ (by decide +kernel)) ggX6_strength_X6_casts
theorem dX6_strength_0 : decode cX6_strength 0 = .ok (.aload_n 0, 1) := by decide +kernel
theorem dX6_strength_1 : decode cX6_strength 1 = .ok (.iconst 0, 1) := by decide +kernel
theorem dX6_strength_2 : decode cX6_strength 2 = .ok (.putfield 42, 3) := by decide +kernel
theorem dX6_strength_5 : decode cX6_strength 5 = .ok (.aload_n 0, 1) := by decide +kernel
theorem dX6_strength_6 : decode cX6_strength 6 = .ok (.aload_n 0, 1) := by decide +kernel
theorem dX6_strength_7 : decode cX6_strength 7 = .ok (.getfield 7, 3) := by decide +kernel
theorem dX6_strength_10 : decode cX6_strength 10 = .ok (.invokevirtual 83, 3) := by decide +kernel
theorem dX6_strength_13 : decode cX6_strength 13 = .ok (.ireturn, 1) := by decide +kernel
set_option maxRecDepth 20000 in
theorem ggX6_lacking_X6_tries : GoodIn wsX6_lacking wsX6_tries := goodIn_r _ [6, 7, 1, 8, 9, 5, 10, 36, 37, 38, 39, 40, 41, 42, 43, 44, 45, 46, 47, 48, 49] (by decide +kernel) (by decide +kernel)
set_option maxRecDepth 20000 in
theorem gX6_lacking_X6_tries : GoodIn wsX6_lacking (wsV RX6 163 RX6 yX6_tries wsX6_tries) := goodIn_app (goodIn_of _ (by decide +kernel)) ggX6_lacking_X6_tries
set_option maxRecDepth 20000 in
theorem ggX6_lacking_X6_casts : GoodIn wsX6_lacking wsX6_casts := goodIn_r _ [14, 15, 16, 17, 18, 5, 19, 20, 21, 22, 23, 24, 25, 26, 27, 28, 29, 30, 31, 32, 33, 34, 35, 36, 37, 38, 39, 40, 41, 42, 43, 44, 45, 46, 47, 48, 49] (by decide +kernel) (by decide +kernel)
set_option maxRecDepth 20000 in
theorem gX6_lacking_X6_casts : GoodIn wsX6_lacking (wsV RX6 83 RX6 yX6_casts wsX6_casts) := goodIn_app (goodIn_of _ (by decide +kernel)) ggX6_lacking_X6_casts
theorem dX6_lacking_0 : decode cX6_lacking 0 = .ok (.aload_n 0, 1) := by decide +kernel
theorem dX6_lacking_1 : decode cX6_lacking 1 = .ok (.invokevirtual 163, 3) := by decide +kernel
theorem dX6_lacking_4 : decode cX6_lacking 4 = .ok (.aload_n 0, 1) := by decide +kernel
theorem dX6_lacking_5 : decode cX6_lacking 5 = .ok (.getfield 13, 3) := by decide +kernel
theorem dX6_lacking_8 : decode cX6_lacking 8 = .ok (.bipush 50, 2) := by decide +kernel
theorem dX6_lacking_10 : decode cX6_lacking 10 = .ok (.iload_n 1, 1) := by decide +kernel
theorem dX6_lacking_11 : decode cX6_lacking 11 = .ok (.iadd, 1) := by decide +kernel
theorem dX6_lacking_12 : decode cX6_lacking 12 = .ok (.aload_n 0, 1) := by decide +kernel
theorem dX6_lacking_13 : decode cX6_lacking 13 = .ok (.getfield 13, 3) := by decide +kernel
theorem dX6_lacking_16 : decode cX6_lacking 16 = .ok (.iconst 0, 1) := by decide +kernel
theorem dX6_lacking_17 : decode cX6_lacking 17 = .ok (.iaload, 1) := by decide +kernel
theorem dX6_lacking_18 : decode cX6_lacking 18 = .ok (.iconst 1, 1) := by decide +kernel
theorem dX6_lacking_19 : decode cX6_lacking 19 = .ok (.iadd, 1) := by decide +kernel
theorem dX6_lacking_20 : decode cX6_lacking 20 = .ok (.iastore, 1) := by decide +kernel
theorem dX6_lacking_21 : decode cX6_lacking 21 = .ok (.aload_n 0, 1) := by decide +kernel
theorem dX6_lacking_22 : decode cX6_lacking 22 = .ok (.aload_n 0, 1) := by decide +kernel
theorem dX6_lacking_23 : decode cX6_lacking 23 = .ok (.getfield 13, 3) := by decide +kernel
theorem dX6_lacking_26 : decode cX6_lacking 26 = .ok (.invokevirtual 83, 3) := by decide +kernel
theorem dX6_lacking_29 : decode cX6_lacking 29 = .ok (.ireturn, 1) := by decide +kernel
set_option maxRecDepth 20000 in
theorem ggX6_without_X6_isPlayer : GoodIn wsX6_without wsX6_isPlayer := goodIn_r _ [6, 7, 8, 5, 9] (by decide +kernel) (by decide +kernel)
set_option maxRecDepth 20000 in
theorem gX6_without_X6_isPlayer : GoodIn wsX6_without (va_wsS RX6 133 yX6_isPlayer wsX6_isPlayer) := goodIn_app (goodIn_of _ (by decide +kernel)) ggX6_without_X6_isPlayer
set_option maxRecDepth 20000 in
theorem ggX6_without_X6_lacking : GoodIn wsX6_without wsX6_lacking := goodIn_r _ [13, 14, 15, 16, 17, 5, 18, 2, 19, 20, 21, 22, 23, 24, 25, 26, 27, 28, 29, 30, 31, 32, 33, 34, 35, 36, 37, 38, 39, 40, 41, 42, 43, 44, 45, 46, 51, 52, 53, 54, 55, 56, 57, 58, 59, 60, 61, 62, 63, 64] (by decide +kernel) (by decide +kernel)
set_option maxRecDepth 20000 in
theorem gX6_without_X6_lacking : GoodIn wsX6_without (wsV RX6 166 RX6 yX6_lacking wsX6_lacking) := goodIn_app (goodIn_of _ (by decide +kernel)) ggX6_without_X6_lacking
set_option maxRecDepth 20000 in
theorem ggX6_without_X6_fails : GoodIn wsX6_without wsX6_fails := goodIn_r _ [50, 1, 51, 52, 53, 54, 55, 56, 57, 58, 59, 60, 61, 62, 63, 64] (by decide +kernel) (by decide +kernel)
set_option maxRecDepth 20000 in
theorem gX6_without_X6_fails : GoodIn wsX6_without (wsV RX6 57 RX6 yX6_fails wsX6_fails) := goodIn_app (goodIn_of _ (by decide +kernel)) ggX6_without_X6_fails
theorem dX6_without_0 : decode cX6_without 0 = .ok (.aload_n 0, 1) := by decide +kernel
theorem dX6_without_1 : decode cX6_without 1 = .ok (.iconst 0, 1) := by decide +kernel
theorem dX6_without_2 : decode cX6_without 2 = .ok (.putfield 42, 3) := by decide +kernel
theorem dX6_without_5 : decode cX6_without 5 = .ok (.aload_n 0, 1) := by decide +kernel
theorem dX6_without_6 : decode cX6_without 6 = .ok (.getfield 7, 3) := by decide +kernel
theorem dX6_without_9 : decode cX6_without 9 = .ok (.iload_n 1, 1) := by decide +kernel
theorem dX6_without_10 : decode cX6_without 10 = .ok (.invokestatic 133, 3) := by decide +kernel
theorem dX6_without_13 : decode cX6_without 13 = .ok (.ifCond .eq 11, 3) := by decide +kernel
theorem dX6_without_16 : decode cX6_without 16 = .ok (.aload_n 0, 1) := by decide +kernel
theorem dX6_without_17 : decode cX6_without 17 = .ok (.iload_n 1, 1) := by decide +kernel
theorem dX6_without_18 : decode cX6_without 18 = .ok (.invokevirtual 166, 3) := by decide +kernel
theorem dX6_without_21 : decode cX6_without 21 = .ok (.goto 8, 3) := by decide +kernel
theorem dX6_without_24 : decode cX6_without 24 = .ok (.aload_n 0, 1) := by decide +kernel
theorem dX6_without_25 : decode cX6_without 25 = .ok (.iconst 1, 1) := by decide +kernel
theorem dX6_without_26 : decode cX6_without 26 = .ok (.invokevirtual 57, 3) := by decide +kernel
theorem dX6_without_29 : decode cX6_without 29 = .ok (.ireturn, 1) := by decide +kernel
set_option maxRecDepth 20000 in
theorem ggX6_missed_X6_casts : GoodIn wsX6_missed wsX6_casts := goodIn_r _ [7, 8, 9, 10, 11, 6, 12, 13, 14, 15, 16, 17, 18, 19, 20, 21, 22, 23, 24, 25, 26, 27, 28, 41, 42, 43, 44, 45, 46, 47, 48, 49, 50, 51, 52, 53, 54] (by decide +kernel) (by decide +kernel)
set_option maxRecDepth 20000 in
theorem gX6_missed_X6_casts : GoodIn wsX6_missed (wsV RX6 83 RX6 yX6_casts wsX6_casts) := goodIn_app (goodIn_of _ (by decide +kernel)) ggX6_missed_X6_casts
set_option maxRecDepth 20000 in
theorem ggX6_missed_X6_isFree : GoodIn wsX6_missed wsX6_isFree := goodIn_r _ [22] (by decide +kernel) (by decide +kernel)
set_option maxRecDepth 20000 in
theorem gX6_missed_X6_isFree : GoodIn wsX6_missed (va_wsS RX6 65 yX6_isFree wsX6_isFree) := goodIn_app (goodIn_of _ (by decide +kernel)) ggX6_missed_X6_isFree
set_option maxRecDepth 20000 in
theorem ggX6_missed_X6_lacking : GoodIn wsX6_missed wsX6_lacking := goodIn_r _ [32, 33, 34, 35, 36, 6, 37, 2, 38, 39, 40, 3, 4, 5, 7, 8, 9, 10, 11, 12, 13, 14, 15, 16, 17, 18, 19, 20, 21, 22, 23, 24, 25, 26, 27, 28, 41, 42, 43, 44, 45, 46, 47, 48, 49, 50, 51, 52, 53, 54] (by decide +kernel) (by decide +kernel)
set_option maxRecDepth 20000 in
theorem gX6_missed_X6_lacking : GoodIn wsX6_missed (wsV RX6 166 RX6 yX6_lacking wsX6_lacking) := goodIn_app (goodIn_of _ (by decide +kernel)) ggX6_missed_X6_lacking
theorem dX6_missed_0 : decode cX6_missed 0 = .ok (.aload_n 0, 1) := by decide +kernel
theorem dX6_missed_1 : decode cX6_missed 1 = .ok (.iconst 0, 1) := by decide +kernel
theorem dX6_missed_2 : decode cX6_missed 2 = .ok (.putfield 42, 3) := by decide +kernel
theorem dX6_missed_5 : decode cX6_missed 5 = .ok (.aload_n 0, 1) := by decide +kernel
theorem dX6_missed_6 : decode cX6_missed 6 = .ok (.getfield 7, 3) := by decide +kernel
theorem dX6_missed_9 : decode cX6_missed 9 = .ok (.iconst 3, 1) := by decide +kernel
theorem dX6_missed_10 : decode cX6_missed 10 = .ok (.iaload, 1) := by decide +kernel
theorem dX6_missed_11 : decode cX6_missed 11 = .ok (.ifCond .eq 14, 3) := by decide +kernel
theorem dX6_missed_14 : decode cX6_missed 14 = .ok (.aload_n 0, 1) := by decide +kernel
theorem dX6_missed_15 : decode cX6_missed 15 = .ok (.aload_n 0, 1) := by decide +kernel
theorem dX6_missed_16 : decode cX6_missed 16 = .ok (.getfield 7, 3) := by decide +kernel
theorem dX6_missed_19 : decode cX6_missed 19 = .ok (.invokevirtual 83, 3) := by decide +kernel
theorem dX6_missed_22 : decode cX6_missed 22 = .ok (.ifCond .ge 5, 3) := by decide +kernel
theorem dX6_missed_25 : decode cX6_missed 25 = .ok (.iconst (-1), 1) := by decide +kernel
theorem dX6_missed_26 : decode cX6_missed 26 = .ok (.ireturn, 1) := by decide +kernel
theorem dX6_missed_27 : decode cX6_missed 27 = .ok (.iconst (-1), 1) := by decide +kernel
theorem dX6_missed_28 : decode cX6_missed 28 = .ok (.istore_n 1, 1) := by decide +kernel
theorem dX6_missed_29 : decode cX6_missed 29 = .ok (.iconst 0, 1) := by decide +kernel
theorem dX6_missed_30 : decode cX6_missed 30 = .ok (.istore_n 2, 1) := by decide +kernel
theorem dX6_missed_31 : decode cX6_missed 31 = .ok (.iconst 0, 1) := by decide +kernel
theorem dX6_missed_32 : decode cX6_missed 32 = .ok (.istore_n 3, 1) := by decide +kernel
theorem dX6_missed_33 : decode cX6_missed 33 = .ok (.iload_n 3, 1) := by decide +kernel
theorem dX6_missed_34 : decode cX6_missed 34 = .ok (.aload_n 0, 1) := by decide +kernel
theorem dX6_missed_35 : decode cX6_missed 35 = .ok (.getfield 7, 3) := by decide +kernel
theorem dX6_missed_38 : decode cX6_missed 38 = .ok (.iconst 4, 1) := by decide +kernel
theorem dX6_missed_39 : decode cX6_missed 39 = .ok (.iaload, 1) := by decide +kernel
theorem dX6_missed_40 : decode cX6_missed 40 = .ok (.if_icmp .ge 68, 3) := by decide +kernel
theorem dX6_missed_43 : decode cX6_missed 43 = .ok (.aload_n 0, 1) := by decide +kernel
theorem dX6_missed_44 : decode cX6_missed 44 = .ok (.getfield 7, 3) := by decide +kernel
theorem dX6_missed_47 : decode cX6_missed 47 = .ok (.iload_n 3, 1) := by decide +kernel
theorem dX6_missed_48 : decode cX6_missed 48 = .ok (.invokestatic 65, 3) := by decide +kernel
theorem dX6_missed_51 : decode cX6_missed 51 = .ok (.ifCond .eq 51, 3) := by decide +kernel
theorem dX6_missed_54 : decode cX6_missed 54 = .ok (.aload_n 0, 1) := by decide +kernel
theorem dX6_missed_55 : decode cX6_missed 55 = .ok (.iload_n 3, 1) := by decide +kernel
theorem dX6_missed_56 : decode cX6_missed 56 = .ok (.invokevirtual 166, 3) := by decide +kernel
theorem dX6_missed_59 : decode cX6_missed 59 = .ok (.istore 4, 2) := by decide +kernel
theorem dX6_missed_61 : decode cX6_missed 61 = .ok (.iload_n 1, 1) := by decide +kernel
theorem dX6_missed_62 : decode cX6_missed 62 = .ok (.iconst (-1), 1) := by decide +kernel
theorem dX6_missed_63 : decode cX6_missed 63 = .ok (.if_icmp .eq 9, 3) := by decide +kernel
theorem dX6_missed_66 : decode cX6_missed 66 = .ok (.iload 4, 2) := by decide +kernel
theorem dX6_missed_68 : decode cX6_missed 68 = .ok (.iload_n 2, 1) := by decide +kernel
theorem dX6_missed_69 : decode cX6_missed 69 = .ok (.if_icmp .ge 7, 3) := by decide +kernel
theorem dX6_missed_72 : decode cX6_missed 72 = .ok (.iconst 1, 1) := by decide +kernel
theorem dX6_missed_73 : decode cX6_missed 73 = .ok (.goto 4, 3) := by decide +kernel
theorem dX6_missed_76 : decode cX6_missed 76 = .ok (.iconst 0, 1) := by decide +kernel
theorem dX6_missed_77 : decode cX6_missed 77 = .ok (.istore 5, 2) := by decide +kernel
theorem dX6_missed_79 : decode cX6_missed 79 = .ok (.iload 5, 2) := by decide +kernel
theorem dX6_missed_81 : decode cX6_missed 81 = .ok (.ifCond .eq 7, 3) := by decide +kernel
theorem dX6_missed_84 : decode cX6_missed 84 = .ok (.iload_n 3, 1) := by decide +kernel
theorem dX6_missed_85 : decode cX6_missed 85 = .ok (.goto 4, 3) := by decide +kernel
theorem dX6_missed_88 : decode cX6_missed 88 = .ok (.iload_n 1, 1) := by decide +kernel
theorem dX6_missed_89 : decode cX6_missed 89 = .ok (.istore_n 1, 1) := by decide +kernel
theorem dX6_missed_90 : decode cX6_missed 90 = .ok (.iload 5, 2) := by decide +kernel
theorem dX6_missed_92 : decode cX6_missed 92 = .ok (.ifCond .eq 8, 3) := by decide +kernel
theorem dX6_missed_95 : decode cX6_missed 95 = .ok (.iload 4, 2) := by decide +kernel
theorem dX6_missed_97 : decode cX6_missed 97 = .ok (.goto 4, 3) := by decide +kernel
theorem dX6_missed_100 : decode cX6_missed 100 = .ok (.iload_n 2, 1) := by decide +kernel
theorem dX6_missed_101 : decode cX6_missed 101 = .ok (.istore_n 2, 1) := by decide +kernel
theorem dX6_missed_102 : decode cX6_missed 102 = .ok (.iinc 3 1, 3) := by decide +kernel
theorem dX6_missed_105 : decode cX6_missed 105 = .ok (.goto (-72), 3) := by decide +kernel
theorem dX6_missed_108 : decode cX6_missed 108 = .ok (.iload_n 1, 1) := by decide +kernel
theorem dX6_missed_109 : decode cX6_missed 109 = .ok (.ireturn, 1) := by decide +kernel
set_option maxRecDepth 20000 in
theorem ggX6_coming_X6_in : GoodIn wsX6_coming wsX6_in := goodIn_r _ [7] (by decide +kernel) (by decide +kernel)
set_option maxRecDepth 20000 in
theorem gX6_coming_X6_in : GoodIn wsX6_coming (va_wsS RX6 46 yX6_in wsX6_in) := goodIn_app (goodIn_of _ (by decide +kernel)) ggX6_coming_X6_in
set_option maxRecDepth 20000 in
theorem ggX6_coming_X6_fails : GoodIn wsX6_coming wsX6_fails := goodIn_r _ [11, 1, 54, 55, 56, 57, 58, 59, 60, 61, 62, 63, 64, 65, 66, 67] (by decide +kernel) (by decide +kernel)
set_option maxRecDepth 20000 in
theorem gX6_coming_X6_fails : GoodIn wsX6_coming (wsV RX6 57 RX6 yX6_fails wsX6_fails) := goodIn_app (goodIn_of _ (by decide +kernel)) ggX6_coming_X6_fails
set_option maxRecDepth 20000 in
theorem ggX6_coming_X6_tries : GoodIn wsX6_coming wsX6_tries := goodIn_r _ [15, 2, 3, 16, 17, 6, 18, 54, 55, 56, 57, 58, 59, 60, 61, 62, 63, 64, 65, 66, 67] (by decide +kernel) (by decide +kernel)
set_option maxRecDepth 20000 in
theorem gX6_coming_X6_tries : GoodIn wsX6_coming (wsV RX6 163 RX6 yX6_tries wsX6_tries) := goodIn_app (goodIn_of _ (by decide +kernel)) ggX6_coming_X6_tries
set_option maxRecDepth 20000 in
theorem ggX6_coming_X6_plays : GoodIn wsX6_coming wsX6_plays := goodIn_r _ [22, 23, 24, 25, 26, 6, 27, 28, 29, 30, 31, 32, 33, 34, 35, 36, 37, 38, 39, 40, 41, 42, 43, 44, 45, 46, 47, 48, 49, 50, 51, 52, 53, 54, 55, 56, 57, 58, 59, 60, 61, 62, 63, 64, 65, 66, 67] (by decide +kernel) (by decide +kernel)
set_option maxRecDepth 20000 in
theorem gX6_coming_X6_plays : GoodIn wsX6_coming (wsV RX6 127 RX6 yX6_plays wsX6_plays) := goodIn_app (goodIn_of _ (by decide +kernel)) ggX6_coming_X6_plays
theorem dX6_coming_0 : decode cX6_coming 0 = .ok (.aload_n 0, 1) := by decide +kernel
theorem dX6_coming_1 : decode cX6_coming 1 = .ok (.iconst 0, 1) := by decide +kernel
theorem dX6_coming_2 : decode cX6_coming 2 = .ok (.putfield 42, 3) := by decide +kernel
theorem dX6_coming_5 : decode cX6_coming 5 = .ok (.iload_n 1, 1) := by decide +kernel
theorem dX6_coming_6 : decode cX6_coming 6 = .ok (.iconst 1, 1) := by decide +kernel
theorem dX6_coming_7 : decode cX6_coming 7 = .ok (.bipush 30, 2) := by decide +kernel
theorem dX6_coming_9 : decode cX6_coming 9 = .ok (.invokestatic 46, 3) := by decide +kernel
theorem dX6_coming_12 : decode cX6_coming 12 = .ok (.ifCond .ne 9, 3) := by decide +kernel
theorem dX6_coming_15 : decode cX6_coming 15 = .ok (.aload_n 0, 1) := by decide +kernel
theorem dX6_coming_16 : decode cX6_coming 16 = .ok (.iconst 1, 1) := by decide +kernel
theorem dX6_coming_17 : decode cX6_coming 17 = .ok (.invokevirtual 57, 3) := by decide +kernel
theorem dX6_coming_20 : decode cX6_coming 20 = .ok (.ireturn, 1) := by decide +kernel
theorem dX6_coming_21 : decode cX6_coming 21 = .ok (.aload_n 0, 1) := by decide +kernel
theorem dX6_coming_22 : decode cX6_coming 22 = .ok (.getfield 7, 3) := by decide +kernel
theorem dX6_coming_25 : decode cX6_coming 25 = .ok (.iconst 3, 1) := by decide +kernel
theorem dX6_coming_26 : decode cX6_coming 26 = .ok (.iaload, 1) := by decide +kernel
theorem dX6_coming_27 : decode cX6_coming 27 = .ok (.ifCond .ne 9, 3) := by decide +kernel
theorem dX6_coming_30 : decode cX6_coming 30 = .ok (.aload_n 0, 1) := by decide +kernel
theorem dX6_coming_31 : decode cX6_coming 31 = .ok (.iconst 2, 1) := by decide +kernel
theorem dX6_coming_32 : decode cX6_coming 32 = .ok (.invokevirtual 57, 3) := by decide +kernel
theorem dX6_coming_35 : decode cX6_coming 35 = .ok (.ireturn, 1) := by decide +kernel
theorem dX6_coming_36 : decode cX6_coming 36 = .ok (.aload_n 0, 1) := by decide +kernel
theorem dX6_coming_37 : decode cX6_coming 37 = .ok (.invokevirtual 163, 3) := by decide +kernel
theorem dX6_coming_40 : decode cX6_coming 40 = .ok (.iconst 0, 1) := by decide +kernel
theorem dX6_coming_41 : decode cX6_coming 41 = .ok (.istore_n 2, 1) := by decide +kernel
theorem dX6_coming_42 : decode cX6_coming 42 = .ok (.iconst 0, 1) := by decide +kernel
theorem dX6_coming_43 : decode cX6_coming 43 = .ok (.istore_n 3, 1) := by decide +kernel
theorem dX6_coming_44 : decode cX6_coming 44 = .ok (.iload_n 3, 1) := by decide +kernel
theorem dX6_coming_45 : decode cX6_coming 45 = .ok (.iload_n 1, 1) := by decide +kernel
theorem dX6_coming_46 : decode cX6_coming 46 = .ok (.if_icmp .ge 31, 3) := by decide +kernel
theorem dX6_coming_49 : decode cX6_coming 49 = .ok (.iload_n 2, 1) := by decide +kernel
theorem dX6_coming_50 : decode cX6_coming 50 = .ok (.aload_n 0, 1) := by decide +kernel
theorem dX6_coming_51 : decode cX6_coming 51 = .ok (.aload_n 0, 1) := by decide +kernel
theorem dX6_coming_52 : decode cX6_coming 52 = .ok (.getfield 13, 3) := by decide +kernel
theorem dX6_coming_55 : decode cX6_coming 55 = .ok (.invokevirtual 127, 3) := by decide +kernel
theorem dX6_coming_58 : decode cX6_coming 58 = .ok (.iconst (-1), 1) := by decide +kernel
theorem dX6_coming_59 : decode cX6_coming 59 = .ok (.if_icmp .ne 7, 3) := by decide +kernel
theorem dX6_coming_62 : decode cX6_coming 62 = .ok (.iconst 0, 1) := by decide +kernel
theorem dX6_coming_63 : decode cX6_coming 63 = .ok (.goto 6, 3) := by decide +kernel
theorem dX6_coming_66 : decode cX6_coming 66 = .ok (.iconst 1, 1) := by decide +kernel
theorem dX6_coming_67 : decode cX6_coming 67 = .ok (.iload_n 3, 1) := by decide +kernel
theorem dX6_coming_68 : decode cX6_coming 68 = .ok (.ishl, 1) := by decide +kernel
theorem dX6_coming_69 : decode cX6_coming 69 = .ok (.ior, 1) := by decide +kernel
theorem dX6_coming_70 : decode cX6_coming 70 = .ok (.istore_n 2, 1) := by decide +kernel
theorem dX6_coming_71 : decode cX6_coming 71 = .ok (.iinc 3 1, 3) := by decide +kernel
theorem dX6_coming_74 : decode cX6_coming 74 = .ok (.goto (-30), 3) := by decide +kernel
theorem dX6_coming_77 : decode cX6_coming 77 = .ok (.iload_n 2, 1) := by decide +kernel
theorem dX6_coming_78 : decode cX6_coming 78 = .ok (.ireturn, 1) := by decide +kernel
set_option maxRecDepth 20000 in
theorem ggX6_degreeFor_X6_isPlayer : GoodIn wsX6_degreeFor wsX6_isPlayer := goodIn_r _ [7, 8, 9, 6, 10] (by decide +kernel) (by decide +kernel)
set_option maxRecDepth 20000 in
theorem gX6_degreeFor_X6_isPlayer : GoodIn wsX6_degreeFor (va_wsS RX6 133 yX6_isPlayer wsX6_isPlayer) := goodIn_app (goodIn_of _ (by decide +kernel)) ggX6_degreeFor_X6_isPlayer
set_option maxRecDepth 20000 in
theorem ggX6_degreeFor_X6_isRole : GoodIn wsX6_degreeFor wsX6_isRole := goodIn_r _ [13, 8, 9, 6, 10] (by decide +kernel) (by decide +kernel)
set_option maxRecDepth 20000 in
theorem gX6_degreeFor_X6_isRole : GoodIn wsX6_degreeFor (va_wsS RX6 130 yX6_isRole wsX6_isRole) := goodIn_app (goodIn_of _ (by decide +kernel)) ggX6_degreeFor_X6_isRole
set_option maxRecDepth 20000 in
theorem ggX6_degreeFor_X6_fails : GoodIn wsX6_degreeFor wsX6_fails := goodIn_r _ [17, 1, 54, 55, 56, 57, 58, 59, 60, 61, 62, 63, 64, 65, 66, 67] (by decide +kernel) (by decide +kernel)
set_option maxRecDepth 20000 in
theorem gX6_degreeFor_X6_fails : GoodIn wsX6_degreeFor (wsV RX6 57 RX6 yX6_fails wsX6_fails) := goodIn_app (goodIn_of _ (by decide +kernel)) ggX6_degreeFor_X6_fails
set_option maxRecDepth 20000 in
theorem ggX6_degreeFor_X6_tries : GoodIn wsX6_degreeFor wsX6_tries := goodIn_r _ [21, 2, 3, 22, 23, 6, 24, 54, 55, 56, 57, 58, 59, 60, 61, 62, 63, 64, 65, 66, 67] (by decide +kernel) (by decide +kernel)
set_option maxRecDepth 20000 in
theorem gX6_degreeFor_X6_tries : GoodIn wsX6_degreeFor (wsV RX6 163 RX6 yX6_tries wsX6_tries) := goodIn_app (goodIn_of _ (by decide +kernel)) ggX6_degreeFor_X6_tries
set_option maxRecDepth 20000 in
theorem ggX6_degreeFor_X6_castFor : GoodIn wsX6_degreeFor wsX6_castFor := goodIn_r _ [28, 29, 30, 31, 32, 6, 33, 34, 35, 36, 37, 38, 39, 40, 41, 42, 43, 44, 45, 46, 47, 48, 49, 50, 51, 52, 53, 54, 55, 56, 57, 58, 59, 60, 61, 62, 63, 64, 65, 66, 67] (by decide +kernel) (by decide +kernel)
set_option maxRecDepth 20000 in
theorem gX6_degreeFor_X6_castFor : GoodIn wsX6_degreeFor (wsV RX6 140 RX6 yX6_castFor wsX6_castFor) := goodIn_app (goodIn_of _ (by decide +kernel)) ggX6_degreeFor_X6_castFor
theorem dX6_degreeFor_0 : decode cX6_degreeFor 0 = .ok (.aload_n 0, 1) := by decide +kernel
theorem dX6_degreeFor_1 : decode cX6_degreeFor 1 = .ok (.iconst 0, 1) := by decide +kernel
theorem dX6_degreeFor_2 : decode cX6_degreeFor 2 = .ok (.putfield 42, 3) := by decide +kernel
theorem dX6_degreeFor_5 : decode cX6_degreeFor 5 = .ok (.aload_n 0, 1) := by decide +kernel
theorem dX6_degreeFor_6 : decode cX6_degreeFor 6 = .ok (.getfield 7, 3) := by decide +kernel
theorem dX6_degreeFor_9 : decode cX6_degreeFor 9 = .ok (.iload_n 1, 1) := by decide +kernel
theorem dX6_degreeFor_10 : decode cX6_degreeFor 10 = .ok (.invokestatic 133, 3) := by decide +kernel
theorem dX6_degreeFor_13 : decode cX6_degreeFor 13 = .ok (.ifCond .eq 14, 3) := by decide +kernel
theorem dX6_degreeFor_16 : decode cX6_degreeFor 16 = .ok (.aload_n 0, 1) := by decide +kernel
theorem dX6_degreeFor_17 : decode cX6_degreeFor 17 = .ok (.getfield 7, 3) := by decide +kernel
theorem dX6_degreeFor_20 : decode cX6_degreeFor 20 = .ok (.iload_n 2, 1) := by decide +kernel
theorem dX6_degreeFor_21 : decode cX6_degreeFor 21 = .ok (.invokestatic 130, 3) := by decide +kernel
theorem dX6_degreeFor_24 : decode cX6_degreeFor 24 = .ok (.ifCond .ne 9, 3) := by decide +kernel
theorem dX6_degreeFor_27 : decode cX6_degreeFor 27 = .ok (.aload_n 0, 1) := by decide +kernel
theorem dX6_degreeFor_28 : decode cX6_degreeFor 28 = .ok (.iconst 1, 1) := by decide +kernel
theorem dX6_degreeFor_29 : decode cX6_degreeFor 29 = .ok (.invokevirtual 57, 3) := by decide +kernel
theorem dX6_degreeFor_32 : decode cX6_degreeFor 32 = .ok (.ireturn, 1) := by decide +kernel
theorem dX6_degreeFor_33 : decode cX6_degreeFor 33 = .ok (.aload_n 0, 1) := by decide +kernel
theorem dX6_degreeFor_34 : decode cX6_degreeFor 34 = .ok (.invokevirtual 163, 3) := by decide +kernel
theorem dX6_degreeFor_37 : decode cX6_degreeFor 37 = .ok (.iconst 1, 1) := by decide +kernel
theorem dX6_degreeFor_38 : decode cX6_degreeFor 38 = .ok (.istore_n 3, 1) := by decide +kernel
theorem dX6_degreeFor_39 : decode cX6_degreeFor 39 = .ok (.iload_n 3, 1) := by decide +kernel
theorem dX6_degreeFor_40 : decode cX6_degreeFor 40 = .ok (.bipush 10, 2) := by decide +kernel
theorem dX6_degreeFor_42 : decode cX6_degreeFor 42 = .ok (.if_icmp .ge 39, 3) := by decide +kernel
theorem dX6_degreeFor_45 : decode cX6_degreeFor 45 = .ok (.aload_n 0, 1) := by decide +kernel
theorem dX6_degreeFor_46 : decode cX6_degreeFor 46 = .ok (.getfield 13, 3) := by decide +kernel
theorem dX6_degreeFor_49 : decode cX6_degreeFor 49 = .ok (.bipush 70, 2) := by decide +kernel
theorem dX6_degreeFor_51 : decode cX6_degreeFor 51 = .ok (.bipush 6, 2) := by decide +kernel
theorem dX6_degreeFor_53 : decode cX6_degreeFor 53 = .ok (.iload_n 1, 1) := by decide +kernel
theorem dX6_degreeFor_54 : decode cX6_degreeFor 54 = .ok (.imul, 1) := by decide +kernel
theorem dX6_degreeFor_55 : decode cX6_degreeFor 55 = .ok (.iadd, 1) := by decide +kernel
theorem dX6_degreeFor_56 : decode cX6_degreeFor 56 = .ok (.iload_n 2, 1) := by decide +kernel
theorem dX6_degreeFor_57 : decode cX6_degreeFor 57 = .ok (.iadd, 1) := by decide +kernel
theorem dX6_degreeFor_58 : decode cX6_degreeFor 58 = .ok (.iload_n 3, 1) := by decide +kernel
theorem dX6_degreeFor_59 : decode cX6_degreeFor 59 = .ok (.iastore, 1) := by decide +kernel
theorem dX6_degreeFor_60 : decode cX6_degreeFor 60 = .ok (.aload_n 0, 1) := by decide +kernel
theorem dX6_degreeFor_61 : decode cX6_degreeFor 61 = .ok (.aload_n 0, 1) := by decide +kernel
theorem dX6_degreeFor_62 : decode cX6_degreeFor 62 = .ok (.getfield 13, 3) := by decide +kernel
theorem dX6_degreeFor_65 : decode cX6_degreeFor 65 = .ok (.iload_n 2, 1) := by decide +kernel
theorem dX6_degreeFor_66 : decode cX6_degreeFor 66 = .ok (.invokevirtual 140, 3) := by decide +kernel
theorem dX6_degreeFor_69 : decode cX6_degreeFor 69 = .ok (.iload_n 1, 1) := by decide +kernel
theorem dX6_degreeFor_70 : decode cX6_degreeFor 70 = .ok (.if_icmp .ne 5, 3) := by decide +kernel
theorem dX6_degreeFor_73 : decode cX6_degreeFor 73 = .ok (.iload_n 3, 1) := by decide +kernel
theorem dX6_degreeFor_74 : decode cX6_degreeFor 74 = .ok (.ireturn, 1) := by decide +kernel
theorem dX6_degreeFor_75 : decode cX6_degreeFor 75 = .ok (.iinc 3 1, 3) := by decide +kernel
theorem dX6_degreeFor_78 : decode cX6_degreeFor 78 = .ok (.goto (-39), 3) := by decide +kernel
theorem dX6_degreeFor_81 : decode cX6_degreeFor 81 = .ok (.iconst (-1), 1) := by decide +kernel
theorem dX6_degreeFor_82 : decode cX6_degreeFor 82 = .ok (.ireturn, 1) := by decide +kernel
set_option maxRecDepth 20000 in
theorem ggX6_succeeds_X6_isPlayer : GoodIn wsX6_succeeds wsX6_isPlayer := goodIn_r _ [5, 6, 7, 4, 8] (by decide +kernel) (by decide +kernel)
set_option maxRecDepth 20000 in
theorem gX6_succeeds_X6_isPlayer : GoodIn wsX6_succeeds (va_wsS RX6 133 yX6_isPlayer wsX6_isPlayer) := goodIn_app (goodIn_of _ (by decide +kernel)) ggX6_succeeds_X6_isPlayer
set_option maxRecDepth 20000 in
theorem ggX6_succeeds_X6_isRole : GoodIn wsX6_succeeds wsX6_isRole := goodIn_r _ [11, 6, 7, 4, 8] (by decide +kernel) (by decide +kernel)
set_option maxRecDepth 20000 in
theorem gX6_succeeds_X6_isRole : GoodIn wsX6_succeeds (va_wsS RX6 130 yX6_isRole wsX6_isRole) := goodIn_app (goodIn_of _ (by decide +kernel)) ggX6_succeeds_X6_isRole
set_option maxRecDepth 20000 in
theorem ggX6_succeeds_X6_posts : GoodIn wsX6_succeeds wsX6_posts := goodIn_r _ [15, 16, 17, 18, 19, 4, 20, 21, 22, 23, 24, 25, 26, 27, 28, 29, 30, 31, 32, 33, 34, 35, 36, 37, 38, 39, 40, 61, 62, 63, 64, 65, 66, 67, 68, 69, 70, 71, 72, 73, 74] (by decide +kernel) (by decide +kernel)
set_option maxRecDepth 20000 in
theorem gX6_succeeds_X6_posts : GoodIn wsX6_succeeds (wsV RX6 154 RX6 yX6_posts wsX6_posts) := goodIn_app (goodIn_of _ (by decide +kernel)) ggX6_succeeds_X6_posts
set_option maxRecDepth 20000 in
theorem ggX6_succeeds_X6_plays : GoodIn wsX6_succeeds wsX6_plays := goodIn_r _ [44, 16, 17, 18, 19, 4, 20, 21, 22, 23, 24, 25, 26, 27, 28, 29, 30, 31, 32, 33, 34, 35, 36, 37, 38, 39, 40, 45, 46, 47, 48, 49, 50, 61, 62, 63, 64, 65, 66, 67, 68, 69, 70, 71, 72, 73, 74] (by decide +kernel) (by decide +kernel)
set_option maxRecDepth 20000 in
theorem gX6_succeeds_X6_plays : GoodIn wsX6_succeeds (wsV RX6 127 RX6 yX6_plays wsX6_plays) := goodIn_app (goodIn_of _ (by decide +kernel)) ggX6_succeeds_X6_plays
set_option maxRecDepth 20000 in
theorem ggX6_succeeds_X6_darkens : GoodIn wsX6_succeeds wsX6_darkens := goodIn_r _ [53, 48, 49, 4, 50, 54, 55, 56] (by decide +kernel) (by decide +kernel)
set_option maxRecDepth 20000 in
theorem gX6_succeeds_X6_darkens : GoodIn wsX6_succeeds (va_wsS RX6 124 yX6_darkens wsX6_darkens) := goodIn_app (goodIn_of _ (by decide +kernel)) ggX6_succeeds_X6_darkens
set_option maxRecDepth 20000 in
theorem ggX6_succeeds_X6_castFor : GoodIn wsX6_succeeds wsX6_castFor := goodIn_r _ [60, 16, 17, 18, 19, 4, 20, 21, 22, 23, 24, 25, 26, 27, 28, 29, 30, 31, 32, 33, 34, 35, 36, 37, 38, 39, 40, 61, 62, 63, 64, 65, 66, 67, 68, 69, 70, 71, 72, 73, 74] (by decide +kernel) (by decide +kernel)
set_option maxRecDepth 20000 in
theorem gX6_succeeds_X6_castFor : GoodIn wsX6_succeeds (wsV RX6 140 RX6 yX6_castFor wsX6_castFor) := goodIn_app (goodIn_of _ (by decide +kernel)) ggX6_succeeds_X6_castFor
set_option maxRecDepth 20000 in
theorem ggX6_succeeds_X6_casts : GoodIn wsX6_succeeds wsX6_casts := goodIn_r _ [20, 21, 16, 22, 23, 4, 24, 25, 26, 27, 28, 29, 30, 31, 32, 33, 34, 35, 36, 37, 38, 39, 40, 61, 62, 63, 64, 65, 66, 67, 68, 69, 70, 71, 72, 73, 74] (by decide +kernel) (by decide +kernel)
set_option maxRecDepth 20000 in
theorem gX6_succeeds_X6_casts : GoodIn wsX6_succeeds (wsV RX6 83 RX6 yX6_casts wsX6_casts) := goodIn_app (goodIn_of _ (by decide +kernel)) ggX6_succeeds_X6_casts
theorem dX6_succeeds_0 : decode cX6_succeeds 0 = .ok (.iload_n 1, 1) := by decide +kernel
theorem dX6_succeeds_1 : decode cX6_succeeds 1 = .ok (.bipush 100, 2) := by decide +kernel
theorem dX6_succeeds_3 : decode cX6_succeeds 3 = .ok (.idiv, 1) := by decide +kernel
theorem dX6_succeeds_4 : decode cX6_succeeds 4 = .ok (.bipush 10, 2) := by decide +kernel
theorem dX6_succeeds_6 : decode cX6_succeeds 6 = .ok (.irem, 1) := by decide +kernel
theorem dX6_succeeds_7 : decode cX6_succeeds 7 = .ok (.istore_n 2, 1) := by decide +kernel
theorem dX6_succeeds_8 : decode cX6_succeeds 8 = .ok (.iload_n 1, 1) := by decide +kernel
theorem dX6_succeeds_9 : decode cX6_succeeds 9 = .ok (.bipush 10, 2) := by decide +kernel
theorem dX6_succeeds_11 : decode cX6_succeeds 11 = .ok (.idiv, 1) := by decide +kernel
theorem dX6_succeeds_12 : decode cX6_succeeds 12 = .ok (.bipush 10, 2) := by decide +kernel
theorem dX6_succeeds_14 : decode cX6_succeeds 14 = .ok (.irem, 1) := by decide +kernel
theorem dX6_succeeds_15 : decode cX6_succeeds 15 = .ok (.istore_n 3, 1) := by decide +kernel
theorem dX6_succeeds_16 : decode cX6_succeeds 16 = .ok (.iload_n 1, 1) := by decide +kernel
theorem dX6_succeeds_17 : decode cX6_succeeds 17 = .ok (.bipush 10, 2) := by decide +kernel
theorem dX6_succeeds_19 : decode cX6_succeeds 19 = .ok (.irem, 1) := by decide +kernel
theorem dX6_succeeds_20 : decode cX6_succeeds 20 = .ok (.istore 4, 2) := by decide +kernel
theorem dX6_succeeds_22 : decode cX6_succeeds 22 = .ok (.iload_n 1, 1) := by decide +kernel
theorem dX6_succeeds_23 : decode cX6_succeeds 23 = .ok (.sipush 1000, 3) := by decide +kernel
theorem dX6_succeeds_26 : decode cX6_succeeds 26 = .ok (.idiv, 1) := by decide +kernel
theorem dX6_succeeds_27 : decode cX6_succeeds 27 = .ok (.tableswitch 368 1 9 #[49, 91, 132, 174, 207, 241, 267, 313, 335], 49) := by decide +kernel
theorem dX6_succeeds_76 : decode cX6_succeeds 76 = .ok (.aload_n 0, 1) := by decide +kernel
theorem dX6_succeeds_77 : decode cX6_succeeds 77 = .ok (.getfield 13, 3) := by decide +kernel
theorem dX6_succeeds_80 : decode cX6_succeeds 80 = .ok (.iload_n 2, 1) := by decide +kernel
theorem dX6_succeeds_81 : decode cX6_succeeds 81 = .ok (.invokestatic 133, 3) := by decide +kernel
theorem dX6_succeeds_84 : decode cX6_succeeds 84 = .ok (.ifCond .eq 32, 3) := by decide +kernel
theorem dX6_succeeds_87 : decode cX6_succeeds 87 = .ok (.aload_n 0, 1) := by decide +kernel
theorem dX6_succeeds_88 : decode cX6_succeeds 88 = .ok (.getfield 13, 3) := by decide +kernel
theorem dX6_succeeds_91 : decode cX6_succeeds 91 = .ok (.iload_n 3, 1) := by decide +kernel
theorem dX6_succeeds_92 : decode cX6_succeeds 92 = .ok (.invokestatic 130, 3) := by decide +kernel
theorem dX6_succeeds_95 : decode cX6_succeeds 95 = .ok (.ifCond .eq 21, 3) := by decide +kernel
theorem dX6_succeeds_98 : decode cX6_succeeds 98 = .ok (.aload_n 0, 1) := by decide +kernel
theorem dX6_succeeds_99 : decode cX6_succeeds 99 = .ok (.getfield 13, 3) := by decide +kernel
theorem dX6_succeeds_102 : decode cX6_succeeds 102 = .ok (.bipush 70, 2) := by decide +kernel
theorem dX6_succeeds_104 : decode cX6_succeeds 104 = .ok (.bipush 6, 2) := by decide +kernel
theorem dX6_succeeds_106 : decode cX6_succeeds 106 = .ok (.iload_n 2, 1) := by decide +kernel
theorem dX6_succeeds_107 : decode cX6_succeeds 107 = .ok (.imul, 1) := by decide +kernel
theorem dX6_succeeds_108 : decode cX6_succeeds 108 = .ok (.iadd, 1) := by decide +kernel
theorem dX6_succeeds_109 : decode cX6_succeeds 109 = .ok (.iload_n 3, 1) := by decide +kernel
theorem dX6_succeeds_110 : decode cX6_succeeds 110 = .ok (.iadd, 1) := by decide +kernel
theorem dX6_succeeds_111 : decode cX6_succeeds 111 = .ok (.iload 4, 2) := by decide +kernel
theorem dX6_succeeds_113 : decode cX6_succeeds 113 = .ok (.iastore, 1) := by decide +kernel
theorem dX6_succeeds_114 : decode cX6_succeeds 114 = .ok (.iconst 1, 1) := by decide +kernel
theorem dX6_succeeds_115 : decode cX6_succeeds 115 = .ok (.ireturn, 1) := by decide +kernel
theorem dX6_succeeds_116 : decode cX6_succeeds 116 = .ok (.iconst 0, 1) := by decide +kernel
theorem dX6_succeeds_117 : decode cX6_succeeds 117 = .ok (.ireturn, 1) := by decide +kernel
theorem dX6_succeeds_118 : decode cX6_succeeds 118 = .ok (.aload_n 0, 1) := by decide +kernel
theorem dX6_succeeds_119 : decode cX6_succeeds 119 = .ok (.getfield 13, 3) := by decide +kernel
theorem dX6_succeeds_122 : decode cX6_succeeds 122 = .ok (.iload_n 2, 1) := by decide +kernel
theorem dX6_succeeds_123 : decode cX6_succeeds 123 = .ok (.invokestatic 130, 3) := by decide +kernel
theorem dX6_succeeds_126 : decode cX6_succeeds 126 = .ok (.ifCond .eq 31, 3) := by decide +kernel
theorem dX6_succeeds_129 : decode cX6_succeeds 129 = .ok (.aload_n 0, 1) := by decide +kernel
theorem dX6_succeeds_130 : decode cX6_succeeds 130 = .ok (.getfield 13, 3) := by decide +kernel
theorem dX6_succeeds_133 : decode cX6_succeeds 133 = .ok (.iload_n 3, 1) := by decide +kernel
theorem dX6_succeeds_134 : decode cX6_succeeds 134 = .ok (.invokestatic 133, 3) := by decide +kernel
theorem dX6_succeeds_137 : decode cX6_succeeds 137 = .ok (.ifCond .eq 20, 3) := by decide +kernel
theorem dX6_succeeds_140 : decode cX6_succeeds 140 = .ok (.iload 4, 2) := by decide +kernel
theorem dX6_succeeds_142 : decode cX6_succeeds 142 = .ok (.ifCond .ne 15, 3) := by decide +kernel
theorem dX6_succeeds_145 : decode cX6_succeeds 145 = .ok (.aload_n 0, 1) := by decide +kernel
theorem dX6_succeeds_146 : decode cX6_succeeds 146 = .ok (.getfield 13, 3) := by decide +kernel
theorem dX6_succeeds_149 : decode cX6_succeeds 149 = .ok (.bipush 18, 2) := by decide +kernel
theorem dX6_succeeds_151 : decode cX6_succeeds 151 = .ok (.iload_n 2, 1) := by decide +kernel
theorem dX6_succeeds_152 : decode cX6_succeeds 152 = .ok (.iadd, 1) := by decide +kernel
theorem dX6_succeeds_153 : decode cX6_succeeds 153 = .ok (.iload_n 3, 1) := by decide +kernel
theorem dX6_succeeds_154 : decode cX6_succeeds 154 = .ok (.iastore, 1) := by decide +kernel
theorem dX6_succeeds_155 : decode cX6_succeeds 155 = .ok (.iconst 1, 1) := by decide +kernel
theorem dX6_succeeds_156 : decode cX6_succeeds 156 = .ok (.ireturn, 1) := by decide +kernel
theorem dX6_succeeds_157 : decode cX6_succeeds 157 = .ok (.iconst 0, 1) := by decide +kernel
theorem dX6_succeeds_158 : decode cX6_succeeds 158 = .ok (.ireturn, 1) := by decide +kernel
theorem dX6_succeeds_159 : decode cX6_succeeds 159 = .ok (.aload_n 0, 1) := by decide +kernel
theorem dX6_succeeds_160 : decode cX6_succeeds 160 = .ok (.getfield 13, 3) := by decide +kernel
theorem dX6_succeeds_163 : decode cX6_succeeds 163 = .ok (.iload_n 2, 1) := by decide +kernel
theorem dX6_succeeds_164 : decode cX6_succeeds 164 = .ok (.invokestatic 133, 3) := by decide +kernel
theorem dX6_succeeds_167 : decode cX6_succeeds 167 = .ok (.ifCond .eq 32, 3) := by decide +kernel
theorem dX6_succeeds_170 : decode cX6_succeeds 170 = .ok (.iload_n 3, 1) := by decide +kernel
theorem dX6_succeeds_171 : decode cX6_succeeds 171 = .ok (.ifCond .ne 28, 3) := by decide +kernel
theorem dX6_succeeds_174 : decode cX6_succeeds 174 = .ok (.iload 4, 2) := by decide +kernel
theorem dX6_succeeds_176 : decode cX6_succeeds 176 = .ok (.ifCond .le 23, 3) := by decide +kernel
theorem dX6_succeeds_179 : decode cX6_succeeds 179 = .ok (.aload_n 0, 1) := by decide +kernel
theorem dX6_succeeds_180 : decode cX6_succeeds 180 = .ok (.getfield 13, 3) := by decide +kernel
theorem dX6_succeeds_183 : decode cX6_succeeds 183 = .ok (.bipush 50, 2) := by decide +kernel
theorem dX6_succeeds_185 : decode cX6_succeeds 185 = .ok (.iload_n 2, 1) := by decide +kernel
theorem dX6_succeeds_186 : decode cX6_succeeds 186 = .ok (.iadd, 1) := by decide +kernel
theorem dX6_succeeds_187 : decode cX6_succeeds 187 = .ok (.aload_n 0, 1) := by decide +kernel
theorem dX6_succeeds_188 : decode cX6_succeeds 188 = .ok (.getfield 13, 3) := by decide +kernel
theorem dX6_succeeds_191 : decode cX6_succeeds 191 = .ok (.iconst 0, 1) := by decide +kernel
theorem dX6_succeeds_192 : decode cX6_succeeds 192 = .ok (.iaload, 1) := by decide +kernel
theorem dX6_succeeds_193 : decode cX6_succeeds 193 = .ok (.iload 4, 2) := by decide +kernel
theorem dX6_succeeds_195 : decode cX6_succeeds 195 = .ok (.iadd, 1) := by decide +kernel
theorem dX6_succeeds_196 : decode cX6_succeeds 196 = .ok (.iastore, 1) := by decide +kernel
theorem dX6_succeeds_197 : decode cX6_succeeds 197 = .ok (.iconst 1, 1) := by decide +kernel
theorem dX6_succeeds_198 : decode cX6_succeeds 198 = .ok (.ireturn, 1) := by decide +kernel
theorem dX6_succeeds_199 : decode cX6_succeeds 199 = .ok (.iconst 0, 1) := by decide +kernel
theorem dX6_succeeds_200 : decode cX6_succeeds 200 = .ok (.ireturn, 1) := by decide +kernel
theorem dX6_succeeds_201 : decode cX6_succeeds 201 = .ok (.iload_n 1, 1) := by decide +kernel
theorem dX6_succeeds_202 : decode cX6_succeeds 202 = .ok (.sipush 4000, 3) := by decide +kernel
theorem dX6_succeeds_205 : decode cX6_succeeds 205 = .ok (.if_icmp .ne 27, 3) := by decide +kernel
theorem dX6_succeeds_208 : decode cX6_succeeds 208 = .ok (.aload_n 0, 1) := by decide +kernel
theorem dX6_succeeds_209 : decode cX6_succeeds 209 = .ok (.getfield 13, 3) := by decide +kernel
theorem dX6_succeeds_212 : decode cX6_succeeds 212 = .ok (.iconst 3, 1) := by decide +kernel
theorem dX6_succeeds_213 : decode cX6_succeeds 213 = .ok (.iaload, 1) := by decide +kernel
theorem dX6_succeeds_214 : decode cX6_succeeds 214 = .ok (.ifCond .le 18, 3) := by decide +kernel
theorem dX6_succeeds_217 : decode cX6_succeeds 217 = .ok (.aload_n 0, 1) := by decide +kernel
theorem dX6_succeeds_218 : decode cX6_succeeds 218 = .ok (.aload_n 0, 1) := by decide +kernel
theorem dX6_succeeds_219 : decode cX6_succeeds 219 = .ok (.getfield 13, 3) := by decide +kernel
theorem dX6_succeeds_222 : decode cX6_succeeds 222 = .ok (.invokevirtual 154, 3) := by decide +kernel
theorem dX6_succeeds_225 : decode cX6_succeeds 225 = .ok (.ifCond .lt 7, 3) := by decide +kernel
theorem dX6_succeeds_228 : decode cX6_succeeds 228 = .ok (.iconst 1, 1) := by decide +kernel
theorem dX6_succeeds_229 : decode cX6_succeeds 229 = .ok (.goto 4, 3) := by decide +kernel
theorem dX6_succeeds_232 : decode cX6_succeeds 232 = .ok (.iconst 0, 1) := by decide +kernel
theorem dX6_succeeds_233 : decode cX6_succeeds 233 = .ok (.ireturn, 1) := by decide +kernel
theorem dX6_succeeds_234 : decode cX6_succeeds 234 = .ok (.iload_n 1, 1) := by decide +kernel
theorem dX6_succeeds_235 : decode cX6_succeeds 235 = .ok (.sipush 5000, 3) := by decide +kernel
theorem dX6_succeeds_238 : decode cX6_succeeds 238 = .ok (.if_icmp .ne 28, 3) := by decide +kernel
theorem dX6_succeeds_241 : decode cX6_succeeds 241 = .ok (.aload_n 0, 1) := by decide +kernel
theorem dX6_succeeds_242 : decode cX6_succeeds 242 = .ok (.getfield 13, 3) := by decide +kernel
theorem dX6_succeeds_245 : decode cX6_succeeds 245 = .ok (.iconst 3, 1) := by decide +kernel
theorem dX6_succeeds_246 : decode cX6_succeeds 246 = .ok (.iaload, 1) := by decide +kernel
theorem dX6_succeeds_247 : decode cX6_succeeds 247 = .ok (.ifCond .le 19, 3) := by decide +kernel
theorem dX6_succeeds_250 : decode cX6_succeeds 250 = .ok (.aload_n 0, 1) := by decide +kernel
theorem dX6_succeeds_251 : decode cX6_succeeds 251 = .ok (.aload_n 0, 1) := by decide +kernel
theorem dX6_succeeds_252 : decode cX6_succeeds 252 = .ok (.getfield 13, 3) := by decide +kernel
theorem dX6_succeeds_255 : decode cX6_succeeds 255 = .ok (.invokevirtual 127, 3) := by decide +kernel
theorem dX6_succeeds_258 : decode cX6_succeeds 258 = .ok (.iconst (-1), 1) := by decide +kernel
theorem dX6_succeeds_259 : decode cX6_succeeds 259 = .ok (.if_icmp .eq 7, 3) := by decide +kernel
theorem dX6_succeeds_262 : decode cX6_succeeds 262 = .ok (.iconst 1, 1) := by decide +kernel
theorem dX6_succeeds_263 : decode cX6_succeeds 263 = .ok (.goto 4, 3) := by decide +kernel
theorem dX6_succeeds_266 : decode cX6_succeeds 266 = .ok (.iconst 0, 1) := by decide +kernel
theorem dX6_succeeds_267 : decode cX6_succeeds 267 = .ok (.ireturn, 1) := by decide +kernel
theorem dX6_succeeds_268 : decode cX6_succeeds 268 = .ok (.iload_n 2, 1) := by decide +kernel
theorem dX6_succeeds_269 : decode cX6_succeeds 269 = .ok (.ifCond .ne 23, 3) := by decide +kernel
theorem dX6_succeeds_272 : decode cX6_succeeds 272 = .ok (.iload_n 1, 1) := by decide +kernel
theorem dX6_succeeds_273 : decode cX6_succeeds 273 = .ok (.bipush 100, 2) := by decide +kernel
theorem dX6_succeeds_275 : decode cX6_succeeds 275 = .ok (.irem, 1) := by decide +kernel
theorem dX6_succeeds_276 : decode cX6_succeeds 276 = .ok (.ifCond .le 16, 3) := by decide +kernel
theorem dX6_succeeds_279 : decode cX6_succeeds 279 = .ok (.aload_n 0, 1) := by decide +kernel
theorem dX6_succeeds_280 : decode cX6_succeeds 280 = .ok (.getfield 13, 3) := by decide +kernel
theorem dX6_succeeds_283 : decode cX6_succeeds 283 = .ok (.iload_n 1, 1) := by decide +kernel
theorem dX6_succeeds_284 : decode cX6_succeeds 284 = .ok (.bipush 100, 2) := by decide +kernel
theorem dX6_succeeds_286 : decode cX6_succeeds 286 = .ok (.irem, 1) := by decide +kernel
theorem dX6_succeeds_287 : decode cX6_succeeds 287 = .ok (.invokestatic 124, 3) := by decide +kernel
theorem dX6_succeeds_290 : decode cX6_succeeds 290 = .ok (.iconst 1, 1) := by decide +kernel
theorem dX6_succeeds_291 : decode cX6_succeeds 291 = .ok (.ireturn, 1) := by decide +kernel
theorem dX6_succeeds_292 : decode cX6_succeeds 292 = .ok (.iconst 0, 1) := by decide +kernel
theorem dX6_succeeds_293 : decode cX6_succeeds 293 = .ok (.ireturn, 1) := by decide +kernel
theorem dX6_succeeds_294 : decode cX6_succeeds 294 = .ok (.iload 4, 2) := by decide +kernel
theorem dX6_succeeds_296 : decode cX6_succeeds 296 = .ok (.ifCond .ne 42, 3) := by decide +kernel
theorem dX6_succeeds_299 : decode cX6_succeeds 299 = .ok (.aload_n 0, 1) := by decide +kernel
theorem dX6_succeeds_300 : decode cX6_succeeds 300 = .ok (.getfield 13, 3) := by decide +kernel
theorem dX6_succeeds_303 : decode cX6_succeeds 303 = .ok (.iload_n 2, 1) := by decide +kernel
theorem dX6_succeeds_304 : decode cX6_succeeds 304 = .ok (.invokestatic 130, 3) := by decide +kernel
theorem dX6_succeeds_307 : decode cX6_succeeds 307 = .ok (.ifCond .eq 31, 3) := by decide +kernel
theorem dX6_succeeds_310 : decode cX6_succeeds 310 = .ok (.aload_n 0, 1) := by decide +kernel
theorem dX6_succeeds_311 : decode cX6_succeeds 311 = .ok (.getfield 13, 3) := by decide +kernel
theorem dX6_succeeds_314 : decode cX6_succeeds 314 = .ok (.iload_n 3, 1) := by decide +kernel
theorem dX6_succeeds_315 : decode cX6_succeeds 315 = .ok (.invokestatic 133, 3) := by decide +kernel
theorem dX6_succeeds_318 : decode cX6_succeeds 318 = .ok (.ifCond .eq 20, 3) := by decide +kernel
theorem dX6_succeeds_321 : decode cX6_succeeds 321 = .ok (.aload_n 0, 1) := by decide +kernel
theorem dX6_succeeds_322 : decode cX6_succeeds 322 = .ok (.aload_n 0, 1) := by decide +kernel
theorem dX6_succeeds_323 : decode cX6_succeeds 323 = .ok (.getfield 13, 3) := by decide +kernel
theorem dX6_succeeds_326 : decode cX6_succeeds 326 = .ok (.iload_n 2, 1) := by decide +kernel
theorem dX6_succeeds_327 : decode cX6_succeeds 327 = .ok (.invokevirtual 140, 3) := by decide +kernel
theorem dX6_succeeds_330 : decode cX6_succeeds 330 = .ok (.iload_n 3, 1) := by decide +kernel
theorem dX6_succeeds_331 : decode cX6_succeeds 331 = .ok (.if_icmp .ne 7, 3) := by decide +kernel
theorem dX6_succeeds_334 : decode cX6_succeeds 334 = .ok (.iconst 1, 1) := by decide +kernel
theorem dX6_succeeds_335 : decode cX6_succeeds 335 = .ok (.goto 4, 3) := by decide +kernel
theorem dX6_succeeds_338 : decode cX6_succeeds 338 = .ok (.iconst 0, 1) := by decide +kernel
theorem dX6_succeeds_339 : decode cX6_succeeds 339 = .ok (.ireturn, 1) := by decide +kernel
theorem dX6_succeeds_340 : decode cX6_succeeds 340 = .ok (.aload_n 0, 1) := by decide +kernel
theorem dX6_succeeds_341 : decode cX6_succeeds 341 = .ok (.aload_n 0, 1) := by decide +kernel
theorem dX6_succeeds_342 : decode cX6_succeeds 342 = .ok (.getfield 13, 3) := by decide +kernel
theorem dX6_succeeds_345 : decode cX6_succeeds 345 = .ok (.invokevirtual 83, 3) := by decide +kernel
theorem dX6_succeeds_348 : decode cX6_succeeds 348 = .ok (.iload_n 1, 1) := by decide +kernel
theorem dX6_succeeds_349 : decode cX6_succeeds 349 = .ok (.sipush 1000, 3) := by decide +kernel
theorem dX6_succeeds_352 : decode cX6_succeeds 352 = .ok (.irem, 1) := by decide +kernel
theorem dX6_succeeds_353 : decode cX6_succeeds 353 = .ok (.if_icmp .lt 7, 3) := by decide +kernel
theorem dX6_succeeds_356 : decode cX6_succeeds 356 = .ok (.iconst 1, 1) := by decide +kernel
theorem dX6_succeeds_357 : decode cX6_succeeds 357 = .ok (.goto 4, 3) := by decide +kernel
theorem dX6_succeeds_360 : decode cX6_succeeds 360 = .ok (.iconst 0, 1) := by decide +kernel
theorem dX6_succeeds_361 : decode cX6_succeeds 361 = .ok (.ireturn, 1) := by decide +kernel
theorem dX6_succeeds_362 : decode cX6_succeeds 362 = .ok (.aload_n 0, 1) := by decide +kernel
theorem dX6_succeeds_363 : decode cX6_succeeds 363 = .ok (.getfield 13, 3) := by decide +kernel
theorem dX6_succeeds_366 : decode cX6_succeeds 366 = .ok (.iload_n 2, 1) := by decide +kernel
theorem dX6_succeeds_367 : decode cX6_succeeds 367 = .ok (.invokestatic 133, 3) := by decide +kernel
theorem dX6_succeeds_370 : decode cX6_succeeds 370 = .ok (.ifCond .eq 23, 3) := by decide +kernel
theorem dX6_succeeds_373 : decode cX6_succeeds 373 = .ok (.aload_n 0, 1) := by decide +kernel
theorem dX6_succeeds_374 : decode cX6_succeeds 374 = .ok (.getfield 13, 3) := by decide +kernel
