theorem dX0_seek_103 : decode cX0_seek 103 = .ok (.iload_n 3, 1) := by decide +kernel
theorem dX0_seek_104 : decode cX0_seek 104 = .ok (.invokestatic 45, 3) := by decide +kernel
theorem dX0_seek_107 : decode cX0_seek 107 = .ok (.aload_n 0, 1) := by decide +kernel
theorem dX0_seek_108 : decode cX0_seek 108 = .ok (.getfield 27, 3) := by decide +kernel
theorem dX0_seek_111 : decode cX0_seek 111 = .ok (.if_icmp .gt 14, 3) := by decide +kernel
theorem dX0_seek_114 : decode cX0_seek 114 = .ok (.aload_n 0, 1) := by decide +kernel
theorem dX0_seek_115 : decode cX0_seek 115 = .ok (.getfield 9, 3) := by decide +kernel
theorem dX0_seek_118 : decode cX0_seek 118 = .ok (.iload_n 3, 1) := by decide +kernel
theorem dX0_seek_119 : decode cX0_seek 119 = .ok (.aload_n 0, 1) := by decide +kernel
theorem dX0_seek_120 : decode cX0_seek 120 = .ok (.iload_n 3, 1) := by decide +kernel
theorem dX0_seek_121 : decode cX0_seek 121 = .ok (.invokevirtual 51, 3) := by decide +kernel
theorem dX0_seek_124 : decode cX0_seek 124 = .ok (.iastore, 1) := by decide +kernel
theorem dX0_seek_125 : decode cX0_seek 125 = .ok (.iinc 3 (-1), 3) := by decide +kernel
theorem dX0_seek_128 : decode cX0_seek 128 = .ok (.goto (-37), 3) := by decide +kernel
theorem dX0_seek_131 : decode cX0_seek 131 = .ok (.aload_n 0, 1) := by decide +kernel
theorem dX0_seek_132 : decode cX0_seek 132 = .ok (.aload_n 0, 1) := by decide +kernel
theorem dX0_seek_133 : decode cX0_seek 133 = .ok (.getfield 9, 3) := by decide +kernel
theorem dX0_seek_136 : decode cX0_seek 136 = .ok (.iconst 0, 1) := by decide +kernel
theorem dX0_seek_137 : decode cX0_seek 137 = .ok (.iaload, 1) := by decide +kernel
theorem dX0_seek_138 : decode cX0_seek 138 = .ok (.iconst (-1), 1) := by decide +kernel
theorem dX0_seek_139 : decode cX0_seek 139 = .ok (.if_icmp .eq 7, 3) := by decide +kernel
theorem dX0_seek_142 : decode cX0_seek 142 = .ok (.iconst 1, 1) := by decide +kernel
theorem dX0_seek_143 : decode cX0_seek 143 = .ok (.goto 4, 3) := by decide +kernel
theorem dX0_seek_146 : decode cX0_seek 146 = .ok (.iconst 0, 1) := by decide +kernel
theorem dX0_seek_147 : decode cX0_seek 147 = .ok (.putfield 54, 3) := by decide +kernel
theorem dX0_seek_150 : decode cX0_seek 150 = .ok (.aload_n 0, 1) := by decide +kernel
theorem dX0_seek_151 : decode cX0_seek 151 = .ok (.invokevirtual 58, 3) := by decide +kernel
theorem dX0_seek_154 : decode cX0_seek 154 = .ok (.aload_n 0, 1) := by decide +kernel
theorem dX0_seek_155 : decode cX0_seek 155 = .ok (.getfield 9, 3) := by decide +kernel
theorem dX0_seek_158 : decode cX0_seek 158 = .ok (.iconst 0, 1) := by decide +kernel
theorem dX0_seek_159 : decode cX0_seek 159 = .ok (.iaload, 1) := by decide +kernel
theorem dX0_seek_160 : decode cX0_seek 160 = .ok (.ireturn, 1) := by decide +kernel
theorem dX0_isIn_0 : decode cX0_isIn 0 = .ok (.iload_n 0, 1) := by decide +kernel
theorem dX0_isIn_1 : decode cX0_isIn 1 = .ok (.iload_n 1, 1) := by decide +kernel
theorem dX0_isIn_2 : decode cX0_isIn 2 = .ok (.ishr, 1) := by decide +kernel
theorem dX0_isIn_3 : decode cX0_isIn 3 = .ok (.iconst 1, 1) := by decide +kernel
theorem dX0_isIn_4 : decode cX0_isIn 4 = .ok (.iand, 1) := by decide +kernel
theorem dX0_isIn_5 : decode cX0_isIn 5 = .ok (.iconst 1, 1) := by decide +kernel
theorem dX0_isIn_6 : decode cX0_isIn 6 = .ok (.if_icmp .ne 7, 3) := by decide +kernel
theorem dX0_isIn_9 : decode cX0_isIn 9 = .ok (.iconst 1, 1) := by decide +kernel
theorem dX0_isIn_10 : decode cX0_isIn 10 = .ok (.goto 4, 3) := by decide +kernel
theorem dX0_isIn_13 : decode cX0_isIn 13 = .ok (.iconst 0, 1) := by decide +kernel
theorem dX0_isIn_14 : decode cX0_isIn 14 = .ok (.ireturn, 1) := by decide +kernel
set_option maxRecDepth 20000 in
theorem ggX0_bestBehind_J6_bitCount_0f7a4 : GoodIn wsX0_bestBehind wsJ6_bitCount_0f7a4 := goodIn_r _ [10, 11, 12, 13] (by decide +kernel) (by decide +kernel)
set_option maxRecDepth 20000 in
theorem gX0_bestBehind_J6_bitCount_0f7a4 : GoodIn wsX0_bestBehind (va_wsS RX0 45 yJ6_bitCount_0f7a4 wsJ6_bitCount_0f7a4) := goodIn_app (goodIn_of _ (by decide +kernel)) ggX0_bestBehind_J6_bitCount_0f7a4
set_option maxRecDepth 20000 in
theorem ggX0_bestBehind_X0_sumWith : GoodIn wsX0_bestBehind wsX0_sumWith := goodIn_r _ [18, 19, 20, 21, 22, 17, 23, 24, 25, 26, 27, 28, 29] (by decide +kernel) (by decide +kernel)
set_option maxRecDepth 20000 in
theorem gX0_bestBehind_X0_sumWith : GoodIn wsX0_bestBehind (wsV RX0 61 RX0 yX0_sumWith wsX0_sumWith) := goodIn_app (goodIn_of _ (by decide +kernel)) ggX0_bestBehind_X0_sumWith
theorem dX0_bestBehind_0 : decode cX0_bestBehind 0 = .ok (.iload_n 1, 1) := by decide +kernel
theorem dX0_bestBehind_1 : decode cX0_bestBehind 1 = .ok (.invokestatic 45, 3) := by decide +kernel
theorem dX0_bestBehind_4 : decode cX0_bestBehind 4 = .ok (.istore_n 2, 1) := by decide +kernel
theorem dX0_bestBehind_5 : decode cX0_bestBehind 5 = .ok (.iload_n 2, 1) := by decide +kernel
theorem dX0_bestBehind_6 : decode cX0_bestBehind 6 = .ok (.aload_n 0, 1) := by decide +kernel
theorem dX0_bestBehind_7 : decode cX0_bestBehind 7 = .ok (.getfield 27, 3) := by decide +kernel
theorem dX0_bestBehind_10 : decode cX0_bestBehind 10 = .ok (.if_icmp .lt 5, 3) := by decide +kernel
theorem dX0_bestBehind_13 : decode cX0_bestBehind 13 = .ok (.iconst 0, 1) := by decide +kernel
theorem dX0_bestBehind_14 : decode cX0_bestBehind 14 = .ok (.ireturn, 1) := by decide +kernel
theorem dX0_bestBehind_15 : decode cX0_bestBehind 15 = .ok (.iconst (-1), 1) := by decide +kernel
theorem dX0_bestBehind_16 : decode cX0_bestBehind 16 = .ok (.istore_n 3, 1) := by decide +kernel
theorem dX0_bestBehind_17 : decode cX0_bestBehind 17 = .ok (.iconst 0, 1) := by decide +kernel
theorem dX0_bestBehind_18 : decode cX0_bestBehind 18 = .ok (.istore 4, 2) := by decide +kernel
theorem dX0_bestBehind_20 : decode cX0_bestBehind 20 = .ok (.iload 4, 2) := by decide +kernel
theorem dX0_bestBehind_22 : decode cX0_bestBehind 22 = .ok (.aload_n 0, 1) := by decide +kernel
theorem dX0_bestBehind_23 : decode cX0_bestBehind 23 = .ok (.getfield 34, 3) := by decide +kernel
theorem dX0_bestBehind_26 : decode cX0_bestBehind 26 = .ok (.if_icmp .ge 22, 3) := by decide +kernel
theorem dX0_bestBehind_29 : decode cX0_bestBehind 29 = .ok (.iload_n 3, 1) := by decide +kernel
theorem dX0_bestBehind_30 : decode cX0_bestBehind 30 = .ok (.aload_n 0, 1) := by decide +kernel
theorem dX0_bestBehind_31 : decode cX0_bestBehind 31 = .ok (.iload 4, 2) := by decide +kernel
theorem dX0_bestBehind_33 : decode cX0_bestBehind 33 = .ok (.iload_n 2, 1) := by decide +kernel
theorem dX0_bestBehind_34 : decode cX0_bestBehind 34 = .ok (.iload_n 1, 1) := by decide +kernel
theorem dX0_bestBehind_35 : decode cX0_bestBehind 35 = .ok (.invokevirtual 61, 3) := by decide +kernel
theorem dX0_bestBehind_38 : decode cX0_bestBehind 38 = .ok (.invokestatic 65, 3) := by decide +kernel
theorem dX0_bestBehind_41 : decode cX0_bestBehind 41 = .ok (.istore_n 3, 1) := by decide +kernel
theorem dX0_bestBehind_42 : decode cX0_bestBehind 42 = .ok (.iinc 4 1, 3) := by decide +kernel
theorem dX0_bestBehind_45 : decode cX0_bestBehind 45 = .ok (.goto (-25), 3) := by decide +kernel
theorem dX0_bestBehind_48 : decode cX0_bestBehind 48 = .ok (.iload_n 3, 1) := by decide +kernel
theorem dX0_bestBehind_49 : decode cX0_bestBehind 49 = .ok (.ireturn, 1) := by decide +kernel
set_option maxRecDepth 20000 in
theorem ggX0_sumWith_X0_isIn : GoodIn wsX0_sumWith wsX0_isIn := goodIn_r _ [6] (by decide +kernel) (by decide +kernel)
set_option maxRecDepth 20000 in
theorem gX0_sumWith_X0_isIn : GoodIn wsX0_sumWith (va_wsS RX0 37 yX0_isIn wsX0_isIn) := goodIn_app (goodIn_of _ (by decide +kernel)) ggX0_sumWith_X0_isIn
theorem dX0_sumWith_0 : decode cX0_sumWith 0 = .ok (.aload_n 0, 1) := by decide +kernel
theorem dX0_sumWith_1 : decode cX0_sumWith 1 = .ok (.getfield 15, 3) := by decide +kernel
theorem dX0_sumWith_4 : decode cX0_sumWith 4 = .ok (.iload_n 2, 1) := by decide +kernel
theorem dX0_sumWith_5 : decode cX0_sumWith 5 = .ok (.bipush 10, 2) := by decide +kernel
theorem dX0_sumWith_7 : decode cX0_sumWith 7 = .ok (.imul, 1) := by decide +kernel
theorem dX0_sumWith_8 : decode cX0_sumWith 8 = .ok (.iload_n 1, 1) := by decide +kernel
theorem dX0_sumWith_9 : decode cX0_sumWith 9 = .ok (.iadd, 1) := by decide +kernel
theorem dX0_sumWith_10 : decode cX0_sumWith 10 = .ok (.iaload, 1) := by decide +kernel
theorem dX0_sumWith_11 : decode cX0_sumWith 11 = .ok (.istore 4, 2) := by decide +kernel
theorem dX0_sumWith_13 : decode cX0_sumWith 13 = .ok (.iload 4, 2) := by decide +kernel
theorem dX0_sumWith_15 : decode cX0_sumWith 15 = .ok (.ifCond .eq 11, 3) := by decide +kernel
theorem dX0_sumWith_18 : decode cX0_sumWith 18 = .ok (.iload_n 3, 1) := by decide +kernel
theorem dX0_sumWith_19 : decode cX0_sumWith 19 = .ok (.iload_n 1, 1) := by decide +kernel
theorem dX0_sumWith_20 : decode cX0_sumWith 20 = .ok (.invokestatic 37, 3) := by decide +kernel
theorem dX0_sumWith_23 : decode cX0_sumWith 23 = .ok (.ifCond .eq 5, 3) := by decide +kernel
theorem dX0_sumWith_26 : decode cX0_sumWith 26 = .ok (.iconst (-1), 1) := by decide +kernel
theorem dX0_sumWith_27 : decode cX0_sumWith 27 = .ok (.ireturn, 1) := by decide +kernel
theorem dX0_sumWith_28 : decode cX0_sumWith 28 = .ok (.aload_n 0, 1) := by decide +kernel
theorem dX0_sumWith_29 : decode cX0_sumWith 29 = .ok (.getfield 9, 3) := by decide +kernel
theorem dX0_sumWith_32 : decode cX0_sumWith 32 = .ok (.iload_n 3, 1) := by decide +kernel
theorem dX0_sumWith_33 : decode cX0_sumWith 33 = .ok (.iconst 1, 1) := by decide +kernel
theorem dX0_sumWith_34 : decode cX0_sumWith 34 = .ok (.iload_n 1, 1) := by decide +kernel
theorem dX0_sumWith_35 : decode cX0_sumWith 35 = .ok (.ishl, 1) := by decide +kernel
theorem dX0_sumWith_36 : decode cX0_sumWith 36 = .ok (.ior, 1) := by decide +kernel
theorem dX0_sumWith_37 : decode cX0_sumWith 37 = .ok (.iaload, 1) := by decide +kernel
theorem dX0_sumWith_38 : decode cX0_sumWith 38 = .ok (.istore 5, 2) := by decide +kernel
theorem dX0_sumWith_40 : decode cX0_sumWith 40 = .ok (.iload 5, 2) := by decide +kernel
theorem dX0_sumWith_42 : decode cX0_sumWith 42 = .ok (.iconst (-1), 1) := by decide +kernel
theorem dX0_sumWith_43 : decode cX0_sumWith 43 = .ok (.if_icmp .ne 7, 3) := by decide +kernel
theorem dX0_sumWith_46 : decode cX0_sumWith 46 = .ok (.iconst (-1), 1) := by decide +kernel
theorem dX0_sumWith_47 : decode cX0_sumWith 47 = .ok (.goto 8, 3) := by decide +kernel
theorem dX0_sumWith_50 : decode cX0_sumWith 50 = .ok (.iload 4, 2) := by decide +kernel
theorem dX0_sumWith_52 : decode cX0_sumWith 52 = .ok (.iload 5, 2) := by decide +kernel
theorem dX0_sumWith_54 : decode cX0_sumWith 54 = .ok (.iadd, 1) := by decide +kernel
theorem dX0_sumWith_55 : decode cX0_sumWith 55 = .ok (.ireturn, 1) := by decide +kernel
set_option maxRecDepth 20000 in
theorem ggX0_chooseLowest_X0_sumWith : GoodIn wsX0_chooseLowest wsX0_sumWith := goodIn_r _ [10, 11, 5, 12, 13, 9, 14, 15, 16, 17, 18, 19, 20] (by decide +kernel) (by decide +kernel)
set_option maxRecDepth 20000 in
theorem gX0_chooseLowest_X0_sumWith : GoodIn wsX0_chooseLowest (wsV RX0 61 RX0 yX0_sumWith wsX0_sumWith) := goodIn_app (goodIn_of _ (by decide +kernel)) ggX0_chooseLowest_X0_sumWith
theorem dX0_chooseLowest_0 : decode cX0_chooseLowest 0 = .ok (.iconst 0, 1) := by decide +kernel
theorem dX0_chooseLowest_1 : decode cX0_chooseLowest 1 = .ok (.istore_n 1, 1) := by decide +kernel
theorem dX0_chooseLowest_2 : decode cX0_chooseLowest 2 = .ok (.iconst 0, 1) := by decide +kernel
theorem dX0_chooseLowest_3 : decode cX0_chooseLowest 3 = .ok (.istore_n 2, 1) := by decide +kernel
theorem dX0_chooseLowest_4 : decode cX0_chooseLowest 4 = .ok (.iload_n 2, 1) := by decide +kernel
theorem dX0_chooseLowest_5 : decode cX0_chooseLowest 5 = .ok (.aload_n 0, 1) := by decide +kernel
theorem dX0_chooseLowest_6 : decode cX0_chooseLowest 6 = .ok (.getfield 27, 3) := by decide +kernel
theorem dX0_chooseLowest_9 : decode cX0_chooseLowest 9 = .ok (.if_icmp .ge 78, 3) := by decide +kernel
theorem dX0_chooseLowest_12 : decode cX0_chooseLowest 12 = .ok (.aload_n 0, 1) := by decide +kernel
theorem dX0_chooseLowest_13 : decode cX0_chooseLowest 13 = .ok (.getfield 18, 3) := by decide +kernel
theorem dX0_chooseLowest_16 : decode cX0_chooseLowest 16 = .ok (.iload_n 2, 1) := by decide +kernel
theorem dX0_chooseLowest_17 : decode cX0_chooseLowest 17 = .ok (.iconst (-1), 1) := by decide +kernel
theorem dX0_chooseLowest_18 : decode cX0_chooseLowest 18 = .ok (.iastore, 1) := by decide +kernel
theorem dX0_chooseLowest_19 : decode cX0_chooseLowest 19 = .ok (.iconst 0, 1) := by decide +kernel
theorem dX0_chooseLowest_20 : decode cX0_chooseLowest 20 = .ok (.istore_n 3, 1) := by decide +kernel
theorem dX0_chooseLowest_21 : decode cX0_chooseLowest 21 = .ok (.aload_n 0, 1) := by decide +kernel
theorem dX0_chooseLowest_22 : decode cX0_chooseLowest 22 = .ok (.getfield 54, 3) := by decide +kernel
theorem dX0_chooseLowest_25 : decode cX0_chooseLowest 25 = .ok (.ifCond .eq 56, 3) := by decide +kernel
theorem dX0_chooseLowest_28 : decode cX0_chooseLowest 28 = .ok (.iload_n 3, 1) := by decide +kernel
theorem dX0_chooseLowest_29 : decode cX0_chooseLowest 29 = .ok (.aload_n 0, 1) := by decide +kernel
theorem dX0_chooseLowest_30 : decode cX0_chooseLowest 30 = .ok (.getfield 34, 3) := by decide +kernel
theorem dX0_chooseLowest_33 : decode cX0_chooseLowest 33 = .ok (.if_icmp .ge 48, 3) := by decide +kernel
theorem dX0_chooseLowest_36 : decode cX0_chooseLowest 36 = .ok (.aload_n 0, 1) := by decide +kernel
theorem dX0_chooseLowest_37 : decode cX0_chooseLowest 37 = .ok (.getfield 18, 3) := by decide +kernel
theorem dX0_chooseLowest_40 : decode cX0_chooseLowest 40 = .ok (.iload_n 2, 1) := by decide +kernel
theorem dX0_chooseLowest_41 : decode cX0_chooseLowest 41 = .ok (.iaload, 1) := by decide +kernel
theorem dX0_chooseLowest_42 : decode cX0_chooseLowest 42 = .ok (.iconst (-1), 1) := by decide +kernel
theorem dX0_chooseLowest_43 : decode cX0_chooseLowest 43 = .ok (.if_icmp .ne 38, 3) := by decide +kernel
theorem dX0_chooseLowest_46 : decode cX0_chooseLowest 46 = .ok (.aload_n 0, 1) := by decide +kernel
theorem dX0_chooseLowest_47 : decode cX0_chooseLowest 47 = .ok (.iload_n 3, 1) := by decide +kernel
theorem dX0_chooseLowest_48 : decode cX0_chooseLowest 48 = .ok (.iload_n 2, 1) := by decide +kernel
theorem dX0_chooseLowest_49 : decode cX0_chooseLowest 49 = .ok (.iload_n 1, 1) := by decide +kernel
theorem dX0_chooseLowest_50 : decode cX0_chooseLowest 50 = .ok (.invokevirtual 61, 3) := by decide +kernel
theorem dX0_chooseLowest_53 : decode cX0_chooseLowest 53 = .ok (.aload_n 0, 1) := by decide +kernel
theorem dX0_chooseLowest_54 : decode cX0_chooseLowest 54 = .ok (.getfield 9, 3) := by decide +kernel
theorem dX0_chooseLowest_57 : decode cX0_chooseLowest 57 = .ok (.iload_n 1, 1) := by decide +kernel
theorem dX0_chooseLowest_58 : decode cX0_chooseLowest 58 = .ok (.iaload, 1) := by decide +kernel
theorem dX0_chooseLowest_59 : decode cX0_chooseLowest 59 = .ok (.if_icmp .ne 16, 3) := by decide +kernel
theorem dX0_chooseLowest_62 : decode cX0_chooseLowest 62 = .ok (.aload_n 0, 1) := by decide +kernel
theorem dX0_chooseLowest_63 : decode cX0_chooseLowest 63 = .ok (.getfield 18, 3) := by decide +kernel
theorem dX0_chooseLowest_66 : decode cX0_chooseLowest 66 = .ok (.iload_n 2, 1) := by decide +kernel
theorem dX0_chooseLowest_67 : decode cX0_chooseLowest 67 = .ok (.iload_n 3, 1) := by decide +kernel
theorem dX0_chooseLowest_68 : decode cX0_chooseLowest 68 = .ok (.iastore, 1) := by decide +kernel
theorem dX0_chooseLowest_69 : decode cX0_chooseLowest 69 = .ok (.iload_n 1, 1) := by decide +kernel
theorem dX0_chooseLowest_70 : decode cX0_chooseLowest 70 = .ok (.iconst 1, 1) := by decide +kernel
theorem dX0_chooseLowest_71 : decode cX0_chooseLowest 71 = .ok (.iload_n 3, 1) := by decide +kernel
theorem dX0_chooseLowest_72 : decode cX0_chooseLowest 72 = .ok (.ishl, 1) := by decide +kernel
theorem dX0_chooseLowest_73 : decode cX0_chooseLowest 73 = .ok (.ior, 1) := by decide +kernel
theorem dX0_chooseLowest_74 : decode cX0_chooseLowest 74 = .ok (.istore_n 1, 1) := by decide +kernel
theorem dX0_chooseLowest_75 : decode cX0_chooseLowest 75 = .ok (.iinc 3 1, 3) := by decide +kernel
theorem dX0_chooseLowest_78 : decode cX0_chooseLowest 78 = .ok (.goto (-57), 3) := by decide +kernel
theorem dX0_chooseLowest_81 : decode cX0_chooseLowest 81 = .ok (.iinc 2 1, 3) := by decide +kernel
theorem dX0_chooseLowest_84 : decode cX0_chooseLowest 84 = .ok (.goto (-80), 3) := by decide +kernel
theorem dX0_chooseLowest_87 : decode cX0_chooseLowest 87 = .ok (.return_, 1) := by decide +kernel
theorem dX0_playerOf_0 : decode cX0_playerOf 0 = .ok (.iload_n 1, 1) := by decide +kernel
theorem dX0_playerOf_1 : decode cX0_playerOf 1 = .ok (.ifCond .lt 20, 3) := by decide +kernel
theorem dX0_playerOf_4 : decode cX0_playerOf 4 = .ok (.iload_n 1, 1) := by decide +kernel
theorem dX0_playerOf_5 : decode cX0_playerOf 5 = .ok (.aload_n 0, 1) := by decide +kernel
theorem dX0_playerOf_6 : decode cX0_playerOf 6 = .ok (.getfield 27, 3) := by decide +kernel
theorem dX0_playerOf_9 : decode cX0_playerOf 9 = .ok (.if_icmp .ge 12, 3) := by decide +kernel
theorem dX0_playerOf_12 : decode cX0_playerOf 12 = .ok (.aload_n 0, 1) := by decide +kernel
theorem dX0_playerOf_13 : decode cX0_playerOf 13 = .ok (.getfield 18, 3) := by decide +kernel
theorem dX0_playerOf_16 : decode cX0_playerOf 16 = .ok (.iload_n 1, 1) := by decide +kernel
theorem dX0_playerOf_17 : decode cX0_playerOf 17 = .ok (.iaload, 1) := by decide +kernel
theorem dX0_playerOf_18 : decode cX0_playerOf 18 = .ok (.goto 4, 3) := by decide +kernel
theorem dX0_playerOf_21 : decode cX0_playerOf 21 = .ok (.iconst (-1), 1) := by decide +kernel
theorem dX0_playerOf_22 : decode cX0_playerOf 22 = .ok (.ireturn, 1) := by decide +kernel
theorem dX0_roleOf_0 : decode cX0_roleOf 0 = .ok (.iconst 0, 1) := by decide +kernel
theorem dX0_roleOf_1 : decode cX0_roleOf 1 = .ok (.istore_n 2, 1) := by decide +kernel
theorem dX0_roleOf_2 : decode cX0_roleOf 2 = .ok (.iload_n 2, 1) := by decide +kernel
theorem dX0_roleOf_3 : decode cX0_roleOf 3 = .ok (.aload_n 0, 1) := by decide +kernel
theorem dX0_roleOf_4 : decode cX0_roleOf 4 = .ok (.getfield 27, 3) := by decide +kernel
theorem dX0_roleOf_7 : decode cX0_roleOf 7 = .ok (.if_icmp .ge 21, 3) := by decide +kernel
theorem dX0_roleOf_10 : decode cX0_roleOf 10 = .ok (.aload_n 0, 1) := by decide +kernel
theorem dX0_roleOf_11 : decode cX0_roleOf 11 = .ok (.getfield 18, 3) := by decide +kernel
theorem dX0_roleOf_14 : decode cX0_roleOf 14 = .ok (.iload_n 2, 1) := by decide +kernel
theorem dX0_roleOf_15 : decode cX0_roleOf 15 = .ok (.iaload, 1) := by decide +kernel
theorem dX0_roleOf_16 : decode cX0_roleOf 16 = .ok (.iload_n 1, 1) := by decide +kernel
theorem dX0_roleOf_17 : decode cX0_roleOf 17 = .ok (.if_icmp .ne 5, 3) := by decide +kernel
theorem dX0_roleOf_20 : decode cX0_roleOf 20 = .ok (.iload_n 2, 1) := by decide +kernel
theorem dX0_roleOf_21 : decode cX0_roleOf 21 = .ok (.ireturn, 1) := by decide +kernel
theorem dX0_roleOf_22 : decode cX0_roleOf 22 = .ok (.iinc 2 1, 3) := by decide +kernel
theorem dX0_roleOf_25 : decode cX0_roleOf 25 = .ok (.goto (-23), 3) := by decide +kernel
theorem dX0_roleOf_28 : decode cX0_roleOf 28 = .ok (.iconst (-1), 1) := by decide +kernel
theorem dX0_roleOf_29 : decode cX0_roleOf 29 = .ok (.ireturn, 1) := by decide +kernel
set_option maxRecDepth 20000 in
theorem ggX1_init_X2_init : GoodIn wsX1_init wsX2_init := goodIn_r _ [10, 11, 2, 3, 12, 13, 14, 15, 16, 17, 18, 19, 20, 21, 22, 23, 24, 25, 7, 26, 27, 28, 29, 30, 31, 32, 33, 34, 35, 36, 40, 41, 42, 43, 44, 45, 46, 47, 48, 49, 50, 51, 52, 53, 54, 55, 56] (by decide +kernel) (by decide +kernel)
set_option maxRecDepth 20000 in
theorem gX1_init_X2_init : GoodIn wsX1_init (wsX2_init) := ggX1_init_X2_init
theorem dX1_init_0 : decode cX1_init 0 = .ok (.aload_n 0, 1) := by decide +kernel
theorem dX1_init_1 : decode cX1_init 1 = .ok (.invokespecial 3, 3) := by decide +kernel
theorem dX1_init_4 : decode cX1_init 4 = .ok (.aload_n 0, 1) := by decide +kernel
theorem dX1_init_5 : decode cX1_init 5 = .ok (.bipush 14, 2) := by decide +kernel
theorem dX1_init_7 : decode cX1_init 7 = .ok (.anewarray 9, 3) := by decide +kernel
theorem dX1_init_10 : decode cX1_init 10 = .ok (.putfield 11, 3) := by decide +kernel
theorem dX1_init_13 : decode cX1_init 13 = .ok (.iconst 0, 1) := by decide +kernel
theorem dX1_init_14 : decode cX1_init 14 = .ok (.istore_n 1, 1) := by decide +kernel
theorem dX1_init_15 : decode cX1_init 15 = .ok (.iload_n 1, 1) := by decide +kernel
theorem dX1_init_16 : decode cX1_init 16 = .ok (.bipush 14, 2) := by decide +kernel
theorem dX1_init_18 : decode cX1_init 18 = .ok (.if_icmp .ge 22, 3) := by decide +kernel
theorem dX1_init_21 : decode cX1_init 21 = .ok (.aload_n 0, 1) := by decide +kernel
theorem dX1_init_22 : decode cX1_init 22 = .ok (.getfield 11, 3) := by decide +kernel
theorem dX1_init_25 : decode cX1_init 25 = .ok (.iload_n 1, 1) := by decide +kernel
theorem dX1_init_26 : decode cX1_init 26 = .ok (.new 9, 3) := by decide +kernel
theorem dX1_init_29 : decode cX1_init 29 = .ok (.dup, 1) := by decide +kernel
theorem dX1_init_30 : decode cX1_init 30 = .ok (.invokespecial 17, 3) := by decide +kernel
theorem dX1_init_33 : decode cX1_init 33 = .ok (.aastore, 1) := by decide +kernel
theorem dX1_init_34 : decode cX1_init 34 = .ok (.iinc 1 1, 3) := by decide +kernel
theorem dX1_init_37 : decode cX1_init 37 = .ok (.goto (-22), 3) := by decide +kernel
theorem dX1_init_40 : decode cX1_init 40 = .ok (.return_, 1) := by decide +kernel
theorem dX1_isEmpty_0 : decode cX1_isEmpty 0 = .ok (.aload_n 0, 1) := by decide +kernel
theorem dX1_isEmpty_1 : decode cX1_isEmpty 1 = .ok (.getfield 18, 3) := by decide +kernel
theorem dX1_isEmpty_4 : decode cX1_isEmpty 4 = .ok (.ifCond .ne 7, 3) := by decide +kernel
theorem dX1_isEmpty_7 : decode cX1_isEmpty 7 = .ok (.iconst 1, 1) := by decide +kernel
theorem dX1_isEmpty_8 : decode cX1_isEmpty 8 = .ok (.goto 4, 3) := by decide +kernel
theorem dX1_isEmpty_11 : decode cX1_isEmpty 11 = .ok (.iconst 0, 1) := by decide +kernel
theorem dX1_isEmpty_12 : decode cX1_isEmpty 12 = .ok (.ireturn, 1) := by decide +kernel
theorem dX1_size_0 : decode cX1_size 0 = .ok (.aload_n 0, 1) := by decide +kernel
theorem dX1_size_1 : decode cX1_size 1 = .ok (.getfield 18, 3) := by decide +kernel
theorem dX1_size_4 : decode cX1_size 4 = .ok (.ireturn, 1) := by decide +kernel
set_option maxRecDepth 20000 in
theorem ggX1_remember_X2_copyFrom : GoodIn wsX1_remember wsX2_copyFrom := goodIn_r _ [8, 9, 10, 11, 12, 13, 14, 15, 16, 17, 18, 19, 20, 21, 22, 23, 24, 25, 26, 27, 7, 28, 32, 33, 34, 35, 36, 37, 38, 39, 40, 41, 42, 43, 44, 45, 46, 47, 48] (by decide +kernel) (by decide +kernel)
set_option maxRecDepth 20000 in
theorem gX1_remember_X2_copyFrom : GoodIn wsX1_remember (wsV RX1 25 RX2 yX2_copyFrom wsX2_copyFrom) := goodIn_app (goodIn_of _ (by decide +kernel)) ggX1_remember_X2_copyFrom
theorem dX1_remember_0 : decode cX1_remember 0 = .ok (.aload_n 0, 1) := by decide +kernel
theorem dX1_remember_1 : decode cX1_remember 1 = .ok (.getfield 11, 3) := by decide +kernel
theorem dX1_remember_4 : decode cX1_remember 4 = .ok (.aload_n 0, 1) := by decide +kernel
theorem dX1_remember_5 : decode cX1_remember 5 = .ok (.getfield 22, 3) := by decide +kernel
theorem dX1_remember_8 : decode cX1_remember 8 = .ok (.aaload, 1) := by decide +kernel
theorem dX1_remember_9 : decode cX1_remember 9 = .ok (.aload_n 1, 1) := by decide +kernel
theorem dX1_remember_10 : decode cX1_remember 10 = .ok (.invokevirtual 25, 3) := by decide +kernel
theorem dX1_remember_13 : decode cX1_remember 13 = .ok (.aload_n 0, 1) := by decide +kernel
theorem dX1_remember_14 : decode cX1_remember 14 = .ok (.aload_n 0, 1) := by decide +kernel
theorem dX1_remember_15 : decode cX1_remember 15 = .ok (.getfield 22, 3) := by decide +kernel
theorem dX1_remember_18 : decode cX1_remember 18 = .ok (.iconst 1, 1) := by decide +kernel
theorem dX1_remember_19 : decode cX1_remember 19 = .ok (.iadd, 1) := by decide +kernel
theorem dX1_remember_20 : decode cX1_remember 20 = .ok (.bipush 14, 2) := by decide +kernel
theorem dX1_remember_22 : decode cX1_remember 22 = .ok (.if_icmp .ge 12, 3) := by decide +kernel
theorem dX1_remember_25 : decode cX1_remember 25 = .ok (.aload_n 0, 1) := by decide +kernel
theorem dX1_remember_26 : decode cX1_remember 26 = .ok (.getfield 22, 3) := by decide +kernel
theorem dX1_remember_29 : decode cX1_remember 29 = .ok (.iconst 1, 1) := by decide +kernel
theorem dX1_remember_30 : decode cX1_remember 30 = .ok (.iadd, 1) := by decide +kernel
theorem dX1_remember_31 : decode cX1_remember 31 = .ok (.goto 4, 3) := by decide +kernel
theorem dX1_remember_34 : decode cX1_remember 34 = .ok (.iconst 0, 1) := by decide +kernel
theorem dX1_remember_35 : decode cX1_remember 35 = .ok (.putfield 22, 3) := by decide +kernel
theorem dX1_remember_38 : decode cX1_remember 38 = .ok (.aload_n 0, 1) := by decide +kernel
theorem dX1_remember_39 : decode cX1_remember 39 = .ok (.getfield 18, 3) := by decide +kernel
theorem dX1_remember_42 : decode cX1_remember 42 = .ok (.bipush 14, 2) := by decide +kernel
theorem dX1_remember_44 : decode cX1_remember 44 = .ok (.if_icmp .ge 13, 3) := by decide +kernel
theorem dX1_remember_47 : decode cX1_remember 47 = .ok (.aload_n 0, 1) := by decide +kernel
theorem dX1_remember_48 : decode cX1_remember 48 = .ok (.dup, 1) := by decide +kernel
theorem dX1_remember_49 : decode cX1_remember 49 = .ok (.getfield 18, 3) := by decide +kernel
theorem dX1_remember_52 : decode cX1_remember 52 = .ok (.iconst 1, 1) := by decide +kernel
theorem dX1_remember_53 : decode cX1_remember 53 = .ok (.iadd, 1) := by decide +kernel
theorem dX1_remember_54 : decode cX1_remember 54 = .ok (.putfield 18, 3) := by decide +kernel
theorem dX1_remember_57 : decode cX1_remember 57 = .ok (.return_, 1) := by decide +kernel
set_option maxRecDepth 20000 in
theorem ggX1_takeBack_X2_copyFrom : GoodIn wsX1_takeBack wsX2_copyFrom := goodIn_r _ [8, 9, 10, 11, 12, 13, 14, 15, 16, 17, 18, 19, 20, 21, 22, 23, 24, 25, 26, 27, 7, 28, 32, 33, 34, 35, 36, 37, 38, 39, 40, 41, 42, 43, 44, 45, 46, 47, 48] (by decide +kernel) (by decide +kernel)
set_option maxRecDepth 20000 in
theorem gX1_takeBack_X2_copyFrom : GoodIn wsX1_takeBack (wsV RX1 25 RX2 yX2_copyFrom wsX2_copyFrom) := goodIn_app (goodIn_of _ (by decide +kernel)) ggX1_takeBack_X2_copyFrom
theorem dX1_takeBack_0 : decode cX1_takeBack 0 = .ok (.aload_n 0, 1) := by decide +kernel
theorem dX1_takeBack_1 : decode cX1_takeBack 1 = .ok (.getfield 18, 3) := by decide +kernel
theorem dX1_takeBack_4 : decode cX1_takeBack 4 = .ok (.ifCond .ne 4, 3) := by decide +kernel
theorem dX1_takeBack_7 : decode cX1_takeBack 7 = .ok (.return_, 1) := by decide +kernel
theorem dX1_takeBack_8 : decode cX1_takeBack 8 = .ok (.aload_n 0, 1) := by decide +kernel
theorem dX1_takeBack_9 : decode cX1_takeBack 9 = .ok (.aload_n 0, 1) := by decide +kernel
theorem dX1_takeBack_10 : decode cX1_takeBack 10 = .ok (.getfield 22, 3) := by decide +kernel
theorem dX1_takeBack_13 : decode cX1_takeBack 13 = .ok (.ifCond .le 12, 3) := by decide +kernel
theorem dX1_takeBack_16 : decode cX1_takeBack 16 = .ok (.aload_n 0, 1) := by decide +kernel
theorem dX1_takeBack_17 : decode cX1_takeBack 17 = .ok (.getfield 22, 3) := by decide +kernel
theorem dX1_takeBack_20 : decode cX1_takeBack 20 = .ok (.iconst 1, 1) := by decide +kernel
theorem dX1_takeBack_21 : decode cX1_takeBack 21 = .ok (.isub, 1) := by decide +kernel
theorem dX1_takeBack_22 : decode cX1_takeBack 22 = .ok (.goto 5, 3) := by decide +kernel
theorem dX1_takeBack_25 : decode cX1_takeBack 25 = .ok (.bipush 13, 2) := by decide +kernel
theorem dX1_takeBack_27 : decode cX1_takeBack 27 = .ok (.putfield 22, 3) := by decide +kernel
theorem dX1_takeBack_30 : decode cX1_takeBack 30 = .ok (.aload_n 0, 1) := by decide +kernel
theorem dX1_takeBack_31 : decode cX1_takeBack 31 = .ok (.dup, 1) := by decide +kernel
theorem dX1_takeBack_32 : decode cX1_takeBack 32 = .ok (.getfield 18, 3) := by decide +kernel
theorem dX1_takeBack_35 : decode cX1_takeBack 35 = .ok (.iconst 1, 1) := by decide +kernel
theorem dX1_takeBack_36 : decode cX1_takeBack 36 = .ok (.isub, 1) := by decide +kernel
theorem dX1_takeBack_37 : decode cX1_takeBack 37 = .ok (.putfield 18, 3) := by decide +kernel
theorem dX1_takeBack_40 : decode cX1_takeBack 40 = .ok (.aload_n 1, 1) := by decide +kernel
theorem dX1_takeBack_41 : decode cX1_takeBack 41 = .ok (.aload_n 0, 1) := by decide +kernel
theorem dX1_takeBack_42 : decode cX1_takeBack 42 = .ok (.getfield 11, 3) := by decide +kernel
theorem dX1_takeBack_45 : decode cX1_takeBack 45 = .ok (.aload_n 0, 1) := by decide +kernel
theorem dX1_takeBack_46 : decode cX1_takeBack 46 = .ok (.getfield 22, 3) := by decide +kernel
theorem dX1_takeBack_49 : decode cX1_takeBack 49 = .ok (.aaload, 1) := by decide +kernel
theorem dX1_takeBack_50 : decode cX1_takeBack 50 = .ok (.invokevirtual 25, 3) := by decide +kernel
theorem dX1_takeBack_53 : decode cX1_takeBack 53 = .ok (.return_, 1) := by decide +kernel
set_option maxRecDepth 20000 in
theorem ggX2_init_X2_empty : GoodIn wsX2_init wsX2_empty := goodIn_r _ [19, 5, 6, 7, 8, 9, 10, 11, 12, 13, 14, 20, 21, 22, 23, 24, 25, 26, 27, 28, 18, 29, 30, 31, 32, 33, 34, 35, 36, 37, 38, 39, 40, 41, 42, 43, 44, 45, 46] (by decide +kernel) (by decide +kernel)
set_option maxRecDepth 20000 in
theorem gX2_init_X2_empty : GoodIn wsX2_init (wsV RX2 42 RX2 yX2_empty wsX2_empty) := goodIn_app (goodIn_of _ (by decide +kernel)) ggX2_init_X2_empty
theorem dX2_init_0 : decode cX2_init 0 = .ok (.aload_n 0, 1) := by decide +kernel
theorem dX2_init_1 : decode cX2_init 1 = .ok (.invokespecial 3, 3) := by decide +kernel
theorem dX2_init_4 : decode cX2_init 4 = .ok (.aload_n 0, 1) := by decide +kernel
theorem dX2_init_5 : decode cX2_init 5 = .ok (.bipush 6, 2) := by decide +kernel
theorem dX2_init_7 : decode cX2_init 7 = .ok (.newarray .int, 2) := by decide +kernel
theorem dX2_init_9 : decode cX2_init 9 = .ok (.putfield 9, 3) := by decide +kernel
theorem dX2_init_12 : decode cX2_init 12 = .ok (.aload_n 0, 1) := by decide +kernel
theorem dX2_init_13 : decode cX2_init 13 = .ok (.bipush 6, 2) := by decide +kernel
theorem dX2_init_15 : decode cX2_init 15 = .ok (.newarray .int, 2) := by decide +kernel
theorem dX2_init_17 : decode cX2_init 17 = .ok (.putfield 15, 3) := by decide +kernel
theorem dX2_init_20 : decode cX2_init 20 = .ok (.aload_n 0, 1) := by decide +kernel
theorem dX2_init_21 : decode cX2_init 21 = .ok (.bipush 6, 2) := by decide +kernel
theorem dX2_init_23 : decode cX2_init 23 = .ok (.newarray .int, 2) := by decide +kernel
theorem dX2_init_25 : decode cX2_init 25 = .ok (.putfield 18, 3) := by decide +kernel
theorem dX2_init_28 : decode cX2_init 28 = .ok (.aload_n 0, 1) := by decide +kernel
theorem dX2_init_29 : decode cX2_init 29 = .ok (.bipush 60, 2) := by decide +kernel
theorem dX2_init_31 : decode cX2_init 31 = .ok (.newarray .int, 2) := by decide +kernel
theorem dX2_init_33 : decode cX2_init 33 = .ok (.putfield 21, 3) := by decide +kernel
theorem dX2_init_36 : decode cX2_init 36 = .ok (.aload_n 0, 1) := by decide +kernel
theorem dX2_init_37 : decode cX2_init 37 = .ok (.bipush 60, 2) := by decide +kernel
theorem dX2_init_39 : decode cX2_init 39 = .ok (.newarray .int, 2) := by decide +kernel
theorem dX2_init_41 : decode cX2_init 41 = .ok (.putfield 24, 3) := by decide +kernel
theorem dX2_init_44 : decode cX2_init 44 = .ok (.aload_n 0, 1) := by decide +kernel
theorem dX2_init_45 : decode cX2_init 45 = .ok (.bipush 10, 2) := by decide +kernel
theorem dX2_init_47 : decode cX2_init 47 = .ok (.newarray .int, 2) := by decide +kernel
theorem dX2_init_49 : decode cX2_init 49 = .ok (.putfield 27, 3) := by decide +kernel
theorem dX2_init_52 : decode cX2_init 52 = .ok (.aload_n 0, 1) := by decide +kernel
theorem dX2_init_53 : decode cX2_init 53 = .ok (.bipush 10, 2) := by decide +kernel
theorem dX2_init_55 : decode cX2_init 55 = .ok (.newarray .int, 2) := by decide +kernel
theorem dX2_init_57 : decode cX2_init 57 = .ok (.putfield 30, 3) := by decide +kernel
theorem dX2_init_60 : decode cX2_init 60 = .ok (.aload_n 0, 1) := by decide +kernel
theorem dX2_init_61 : decode cX2_init 61 = .ok (.bipush 10, 2) := by decide +kernel
theorem dX2_init_63 : decode cX2_init 63 = .ok (.newarray .int, 2) := by decide +kernel
theorem dX2_init_65 : decode cX2_init 65 = .ok (.putfield 33, 3) := by decide +kernel
theorem dX2_init_68 : decode cX2_init 68 = .ok (.aload_n 0, 1) := by decide +kernel
theorem dX2_init_69 : decode cX2_init 69 = .ok (.bipush 10, 2) := by decide +kernel
theorem dX2_init_71 : decode cX2_init 71 = .ok (.newarray .int, 2) := by decide +kernel
theorem dX2_init_73 : decode cX2_init 73 = .ok (.putfield 36, 3) := by decide +kernel
theorem dX2_init_76 : decode cX2_init 76 = .ok (.aload_n 0, 1) := by decide +kernel
theorem dX2_init_77 : decode cX2_init 77 = .ok (.iconst 5, 1) := by decide +kernel
theorem dX2_init_78 : decode cX2_init 78 = .ok (.newarray .int, 2) := by decide +kernel
theorem dX2_init_80 : decode cX2_init 80 = .ok (.putfield 39, 3) := by decide +kernel
theorem dX2_init_83 : decode cX2_init 83 = .ok (.aload_n 0, 1) := by decide +kernel
theorem dX2_init_84 : decode cX2_init 84 = .ok (.invokevirtual 42, 3) := by decide +kernel
theorem dX2_init_87 : decode cX2_init 87 = .ok (.return_, 1) := by decide +kernel
set_option maxRecDepth 20000 in
theorem ggX2_empty_X2_fill : GoodIn wsX2_empty wsX2_fill := goodIn_r _ [21] (by decide +kernel) (by decide +kernel)
set_option maxRecDepth 20000 in
theorem gX2_empty_X2_fill : GoodIn wsX2_empty (va_wsS RX2 45 yX2_fill wsX2_fill) := goodIn_app (goodIn_of _ (by decide +kernel)) ggX2_empty_X2_fill
theorem dX2_empty_0 : decode cX2_empty 0 = .ok (.aload_n 0, 1) := by decide +kernel
theorem dX2_empty_1 : decode cX2_empty 1 = .ok (.getfield 9, 3) := by decide +kernel
theorem dX2_empty_4 : decode cX2_empty 4 = .ok (.iconst 0, 1) := by decide +kernel
theorem dX2_empty_5 : decode cX2_empty 5 = .ok (.invokestatic 45, 3) := by decide +kernel
theorem dX2_empty_8 : decode cX2_empty 8 = .ok (.aload_n 0, 1) := by decide +kernel
theorem dX2_empty_9 : decode cX2_empty 9 = .ok (.getfield 15, 3) := by decide +kernel
theorem dX2_empty_12 : decode cX2_empty 12 = .ok (.iconst (-1), 1) := by decide +kernel
theorem dX2_empty_13 : decode cX2_empty 13 = .ok (.invokestatic 45, 3) := by decide +kernel
theorem dX2_empty_16 : decode cX2_empty 16 = .ok (.aload_n 0, 1) := by decide +kernel
theorem dX2_empty_17 : decode cX2_empty 17 = .ok (.getfield 18, 3) := by decide +kernel
theorem dX2_empty_20 : decode cX2_empty 20 = .ok (.iconst (-1), 1) := by decide +kernel
theorem dX2_empty_21 : decode cX2_empty 21 = .ok (.invokestatic 45, 3) := by decide +kernel
theorem dX2_empty_24 : decode cX2_empty 24 = .ok (.aload_n 0, 1) := by decide +kernel
theorem dX2_empty_25 : decode cX2_empty 25 = .ok (.getfield 21, 3) := by decide +kernel
theorem dX2_empty_28 : decode cX2_empty 28 = .ok (.iconst 0, 1) := by decide +kernel
theorem dX2_empty_29 : decode cX2_empty 29 = .ok (.invokestatic 45, 3) := by decide +kernel
theorem dX2_empty_32 : decode cX2_empty 32 = .ok (.aload_n 0, 1) := by decide +kernel
theorem dX2_empty_33 : decode cX2_empty 33 = .ok (.getfield 24, 3) := by decide +kernel
theorem dX2_empty_36 : decode cX2_empty 36 = .ok (.iconst 0, 1) := by decide +kernel
theorem dX2_empty_37 : decode cX2_empty 37 = .ok (.invokestatic 45, 3) := by decide +kernel
theorem dX2_empty_40 : decode cX2_empty 40 = .ok (.aload_n 0, 1) := by decide +kernel
theorem dX2_empty_41 : decode cX2_empty 41 = .ok (.getfield 27, 3) := by decide +kernel
theorem dX2_empty_44 : decode cX2_empty 44 = .ok (.iconst 0, 1) := by decide +kernel
theorem dX2_empty_45 : decode cX2_empty 45 = .ok (.invokestatic 45, 3) := by decide +kernel
theorem dX2_empty_48 : decode cX2_empty 48 = .ok (.aload_n 0, 1) := by decide +kernel
theorem dX2_empty_49 : decode cX2_empty 49 = .ok (.getfield 30, 3) := by decide +kernel
theorem dX2_empty_52 : decode cX2_empty 52 = .ok (.iconst 0, 1) := by decide +kernel
theorem dX2_empty_53 : decode cX2_empty 53 = .ok (.invokestatic 45, 3) := by decide +kernel
theorem dX2_empty_56 : decode cX2_empty 56 = .ok (.aload_n 0, 1) := by decide +kernel
theorem dX2_empty_57 : decode cX2_empty 57 = .ok (.getfield 33, 3) := by decide +kernel
theorem dX2_empty_60 : decode cX2_empty 60 = .ok (.iconst 0, 1) := by decide +kernel
theorem dX2_empty_61 : decode cX2_empty 61 = .ok (.invokestatic 45, 3) := by decide +kernel
theorem dX2_empty_64 : decode cX2_empty 64 = .ok (.aload_n 0, 1) := by decide +kernel
theorem dX2_empty_65 : decode cX2_empty 65 = .ok (.getfield 36, 3) := by decide +kernel
theorem dX2_empty_68 : decode cX2_empty 68 = .ok (.iconst 0, 1) := by decide +kernel
theorem dX2_empty_69 : decode cX2_empty 69 = .ok (.invokestatic 45, 3) := by decide +kernel
theorem dX2_empty_72 : decode cX2_empty 72 = .ok (.iconst 0, 1) := by decide +kernel
theorem dX2_empty_73 : decode cX2_empty 73 = .ok (.istore_n 1, 1) := by decide +kernel
theorem dX2_empty_74 : decode cX2_empty 74 = .ok (.iload_n 1, 1) := by decide +kernel
theorem dX2_empty_75 : decode cX2_empty 75 = .ok (.iconst 5, 1) := by decide +kernel
theorem dX2_empty_76 : decode cX2_empty 76 = .ok (.if_icmp .ge 20, 3) := by decide +kernel
theorem dX2_empty_79 : decode cX2_empty 79 = .ok (.aload_n 0, 1) := by decide +kernel
theorem dX2_empty_80 : decode cX2_empty 80 = .ok (.getfield 39, 3) := by decide +kernel
theorem dX2_empty_83 : decode cX2_empty 83 = .ok (.iload_n 1, 1) := by decide +kernel
theorem dX2_empty_84 : decode cX2_empty 84 = .ok (.getstatic 49, 3) := by decide +kernel
theorem dX2_empty_87 : decode cX2_empty 87 = .ok (.iload_n 1, 1) := by decide +kernel
theorem dX2_empty_88 : decode cX2_empty 88 = .ok (.iaload, 1) := by decide +kernel
theorem dX2_empty_89 : decode cX2_empty 89 = .ok (.iastore, 1) := by decide +kernel
theorem dX2_empty_90 : decode cX2_empty 90 = .ok (.iinc 1 1, 3) := by decide +kernel
theorem dX2_empty_93 : decode cX2_empty 93 = .ok (.goto (-19), 3) := by decide +kernel
theorem dX2_empty_96 : decode cX2_empty 96 = .ok (.aload_n 0, 1) := by decide +kernel
theorem dX2_empty_97 : decode cX2_empty 97 = .ok (.iconst 0, 1) := by decide +kernel
theorem dX2_empty_98 : decode cX2_empty 98 = .ok (.putfield 52, 3) := by decide +kernel
theorem dX2_empty_101 : decode cX2_empty 101 = .ok (.aload_n 0, 1) := by decide +kernel
theorem dX2_empty_102 : decode cX2_empty 102 = .ok (.iconst 0, 1) := by decide +kernel
theorem dX2_empty_103 : decode cX2_empty 103 = .ok (.putfield 56, 3) := by decide +kernel
theorem dX2_empty_106 : decode cX2_empty 106 = .ok (.aload_n 0, 1) := by decide +kernel
theorem dX2_empty_107 : decode cX2_empty 107 = .ok (.iconst 0, 1) := by decide +kernel
theorem dX2_empty_108 : decode cX2_empty 108 = .ok (.putfield 59, 3) := by decide +kernel
theorem dX2_empty_111 : decode cX2_empty 111 = .ok (.aload_n 0, 1) := by decide +kernel
theorem dX2_empty_112 : decode cX2_empty 112 = .ok (.iconst 0, 1) := by decide +kernel
theorem dX2_empty_113 : decode cX2_empty 113 = .ok (.putfield 62, 3) := by decide +kernel
theorem dX2_empty_116 : decode cX2_empty 116 = .ok (.aload_n 0, 1) := by decide +kernel
theorem dX2_empty_117 : decode cX2_empty 117 = .ok (.iconst 0, 1) := by decide +kernel
theorem dX2_empty_118 : decode cX2_empty 118 = .ok (.putfield 65, 3) := by decide +kernel
theorem dX2_empty_121 : decode cX2_empty 121 = .ok (.aload_n 0, 1) := by decide +kernel
theorem dX2_empty_122 : decode cX2_empty 122 = .ok (.iconst 0, 1) := by decide +kernel
theorem dX2_empty_123 : decode cX2_empty 123 = .ok (.putfield 68, 3) := by decide +kernel
theorem dX2_empty_126 : decode cX2_empty 126 = .ok (.aload_n 0, 1) := by decide +kernel
theorem dX2_empty_127 : decode cX2_empty 127 = .ok (.iconst 0, 1) := by decide +kernel
theorem dX2_empty_128 : decode cX2_empty 128 = .ok (.putfield 71, 3) := by decide +kernel
theorem dX2_empty_131 : decode cX2_empty 131 = .ok (.return_, 1) := by decide +kernel
set_option maxRecDepth 20000 in
theorem ggX2_copyFrom_X2_copy : GoodIn wsX2_copyFrom wsX2_copy := goodIn_r _ [21] (by decide +kernel) (by decide +kernel)
set_option maxRecDepth 20000 in
theorem gX2_copyFrom_X2_copy : GoodIn wsX2_copyFrom (va_wsS RX2 75 yX2_copy wsX2_copy) := goodIn_app (goodIn_of _ (by decide +kernel)) ggX2_copyFrom_X2_copy
theorem dX2_copyFrom_0 : decode cX2_copyFrom 0 = .ok (.aload_n 1, 1) := by decide +kernel
theorem dX2_copyFrom_1 : decode cX2_copyFrom 1 = .ok (.getfield 9, 3) := by decide +kernel
theorem dX2_copyFrom_4 : decode cX2_copyFrom 4 = .ok (.aload_n 0, 1) := by decide +kernel
theorem dX2_copyFrom_5 : decode cX2_copyFrom 5 = .ok (.getfield 9, 3) := by decide +kernel
theorem dX2_copyFrom_8 : decode cX2_copyFrom 8 = .ok (.invokestatic 75, 3) := by decide +kernel
theorem dX2_copyFrom_11 : decode cX2_copyFrom 11 = .ok (.aload_n 1, 1) := by decide +kernel
theorem dX2_copyFrom_12 : decode cX2_copyFrom 12 = .ok (.getfield 15, 3) := by decide +kernel
theorem dX2_copyFrom_15 : decode cX2_copyFrom 15 = .ok (.aload_n 0, 1) := by decide +kernel
theorem dX2_copyFrom_16 : decode cX2_copyFrom 16 = .ok (.getfield 15, 3) := by decide +kernel
theorem dX2_copyFrom_19 : decode cX2_copyFrom 19 = .ok (.invokestatic 75, 3) := by decide +kernel
theorem dX2_copyFrom_22 : decode cX2_copyFrom 22 = .ok (.aload_n 1, 1) := by decide +kernel
theorem dX2_copyFrom_23 : decode cX2_copyFrom 23 = .ok (.getfield 18, 3) := by decide +kernel
theorem dX2_copyFrom_26 : decode cX2_copyFrom 26 = .ok (.aload_n 0, 1) := by decide +kernel
theorem dX2_copyFrom_27 : decode cX2_copyFrom 27 = .ok (.getfield 18, 3) := by decide +kernel
theorem dX2_copyFrom_30 : decode cX2_copyFrom 30 = .ok (.invokestatic 75, 3) := by decide +kernel
theorem dX2_copyFrom_33 : decode cX2_copyFrom 33 = .ok (.aload_n 1, 1) := by decide +kernel
theorem dX2_copyFrom_34 : decode cX2_copyFrom 34 = .ok (.getfield 21, 3) := by decide +kernel
theorem dX2_copyFrom_37 : decode cX2_copyFrom 37 = .ok (.aload_n 0, 1) := by decide +kernel
theorem dX2_copyFrom_38 : decode cX2_copyFrom 38 = .ok (.getfield 21, 3) := by decide +kernel
theorem dX2_copyFrom_41 : decode cX2_copyFrom 41 = .ok (.invokestatic 75, 3) := by decide +kernel
theorem dX2_copyFrom_44 : decode cX2_copyFrom 44 = .ok (.aload_n 1, 1) := by decide +kernel
theorem dX2_copyFrom_45 : decode cX2_copyFrom 45 = .ok (.getfield 24, 3) := by decide +kernel
theorem dX2_copyFrom_48 : decode cX2_copyFrom 48 = .ok (.aload_n 0, 1) := by decide +kernel
theorem dX2_copyFrom_49 : decode cX2_copyFrom 49 = .ok (.getfield 24, 3) := by decide +kernel
theorem dX2_copyFrom_52 : decode cX2_copyFrom 52 = .ok (.invokestatic 75, 3) := by decide +kernel
theorem dX2_copyFrom_55 : decode cX2_copyFrom 55 = .ok (.aload_n 1, 1) := by decide +kernel
theorem dX2_copyFrom_56 : decode cX2_copyFrom 56 = .ok (.getfield 27, 3) := by decide +kernel
theorem dX2_copyFrom_59 : decode cX2_copyFrom 59 = .ok (.aload_n 0, 1) := by decide +kernel
theorem dX2_copyFrom_60 : decode cX2_copyFrom 60 = .ok (.getfield 27, 3) := by decide +kernel
theorem dX2_copyFrom_63 : decode cX2_copyFrom 63 = .ok (.invokestatic 75, 3) := by decide +kernel
theorem dX2_copyFrom_66 : decode cX2_copyFrom 66 = .ok (.aload_n 1, 1) := by decide +kernel
theorem dX2_copyFrom_67 : decode cX2_copyFrom 67 = .ok (.getfield 30, 3) := by decide +kernel
theorem dX2_copyFrom_70 : decode cX2_copyFrom 70 = .ok (.aload_n 0, 1) := by decide +kernel
theorem dX2_copyFrom_71 : decode cX2_copyFrom 71 = .ok (.getfield 30, 3) := by decide +kernel
theorem dX2_copyFrom_74 : decode cX2_copyFrom 74 = .ok (.invokestatic 75, 3) := by decide +kernel
theorem dX2_copyFrom_77 : decode cX2_copyFrom 77 = .ok (.aload_n 1, 1) := by decide +kernel
theorem dX2_copyFrom_78 : decode cX2_copyFrom 78 = .ok (.getfield 33, 3) := by decide +kernel
theorem dX2_copyFrom_81 : decode cX2_copyFrom 81 = .ok (.aload_n 0, 1) := by decide +kernel
theorem dX2_copyFrom_82 : decode cX2_copyFrom 82 = .ok (.getfield 33, 3) := by decide +kernel
theorem dX2_copyFrom_85 : decode cX2_copyFrom 85 = .ok (.invokestatic 75, 3) := by decide +kernel
theorem dX2_copyFrom_88 : decode cX2_copyFrom 88 = .ok (.aload_n 1, 1) := by decide +kernel
theorem dX2_copyFrom_89 : decode cX2_copyFrom 89 = .ok (.getfield 36, 3) := by decide +kernel
theorem dX2_copyFrom_92 : decode cX2_copyFrom 92 = .ok (.aload_n 0, 1) := by decide +kernel
theorem dX2_copyFrom_93 : decode cX2_copyFrom 93 = .ok (.getfield 36, 3) := by decide +kernel
theorem dX2_copyFrom_96 : decode cX2_copyFrom 96 = .ok (.invokestatic 75, 3) := by decide +kernel
theorem dX2_copyFrom_99 : decode cX2_copyFrom 99 = .ok (.aload_n 1, 1) := by decide +kernel
theorem dX2_copyFrom_100 : decode cX2_copyFrom 100 = .ok (.getfield 39, 3) := by decide +kernel
theorem dX2_copyFrom_103 : decode cX2_copyFrom 103 = .ok (.aload_n 0, 1) := by decide +kernel
theorem dX2_copyFrom_104 : decode cX2_copyFrom 104 = .ok (.getfield 39, 3) := by decide +kernel
theorem dX2_copyFrom_107 : decode cX2_copyFrom 107 = .ok (.invokestatic 75, 3) := by decide +kernel
theorem dX2_copyFrom_110 : decode cX2_copyFrom 110 = .ok (.aload_n 0, 1) := by decide +kernel
theorem dX2_copyFrom_111 : decode cX2_copyFrom 111 = .ok (.aload_n 1, 1) := by decide +kernel
theorem dX2_copyFrom_112 : decode cX2_copyFrom 112 = .ok (.getfield 52, 3) := by decide +kernel
theorem dX2_copyFrom_115 : decode cX2_copyFrom 115 = .ok (.putfield 52, 3) := by decide +kernel
theorem dX2_copyFrom_118 : decode cX2_copyFrom 118 = .ok (.aload_n 0, 1) := by decide +kernel
theorem dX2_copyFrom_119 : decode cX2_copyFrom 119 = .ok (.aload_n 1, 1) := by decide +kernel
theorem dX2_copyFrom_120 : decode cX2_copyFrom 120 = .ok (.getfield 56, 3) := by decide +kernel
theorem dX2_copyFrom_123 : decode cX2_copyFrom 123 = .ok (.putfield 56, 3) := by decide +kernel
theorem dX2_copyFrom_126 : decode cX2_copyFrom 126 = .ok (.aload_n 0, 1) := by decide +kernel
theorem dX2_copyFrom_127 : decode cX2_copyFrom 127 = .ok (.aload_n 1, 1) := by decide +kernel
theorem dX2_copyFrom_128 : decode cX2_copyFrom 128 = .ok (.getfield 59, 3) := by decide +kernel
theorem dX2_copyFrom_131 : decode cX2_copyFrom 131 = .ok (.putfield 59, 3) := by decide +kernel
theorem dX2_copyFrom_134 : decode cX2_copyFrom 134 = .ok (.aload_n 0, 1) := by decide +kernel
theorem dX2_copyFrom_135 : decode cX2_copyFrom 135 = .ok (.aload_n 1, 1) := by decide +kernel
theorem dX2_copyFrom_136 : decode cX2_copyFrom 136 = .ok (.getfield 62, 3) := by decide +kernel
theorem dX2_copyFrom_139 : decode cX2_copyFrom 139 = .ok (.putfield 62, 3) := by decide +kernel
theorem dX2_copyFrom_142 : decode cX2_copyFrom 142 = .ok (.aload_n 0, 1) := by decide +kernel
theorem dX2_copyFrom_143 : decode cX2_copyFrom 143 = .ok (.aload_n 1, 1) := by decide +kernel
theorem dX2_copyFrom_144 : decode cX2_copyFrom 144 = .ok (.getfield 65, 3) := by decide +kernel
theorem dX2_copyFrom_147 : decode cX2_copyFrom 147 = .ok (.putfield 65, 3) := by decide +kernel
theorem dX2_copyFrom_150 : decode cX2_copyFrom 150 = .ok (.aload_n 0, 1) := by decide +kernel
theorem dX2_copyFrom_151 : decode cX2_copyFrom 151 = .ok (.aload_n 1, 1) := by decide +kernel
theorem dX2_copyFrom_152 : decode cX2_copyFrom 152 = .ok (.getfield 68, 3) := by decide +kernel
theorem dX2_copyFrom_155 : decode cX2_copyFrom 155 = .ok (.putfield 68, 3) := by decide +kernel
theorem dX2_copyFrom_158 : decode cX2_copyFrom 158 = .ok (.aload_n 0, 1) := by decide +kernel
theorem dX2_copyFrom_159 : decode cX2_copyFrom 159 = .ok (.aload_n 1, 1) := by decide +kernel
theorem dX2_copyFrom_160 : decode cX2_copyFrom 160 = .ok (.getfield 71, 3) := by decide +kernel
theorem dX2_copyFrom_163 : decode cX2_copyFrom 163 = .ok (.putfield 71, 3) := by decide +kernel
theorem dX2_copyFrom_166 : decode cX2_copyFrom 166 = .ok (.return_, 1) := by decide +kernel
theorem dX2_fill_0 : decode cX2_fill 0 = .ok (.iconst 0, 1) := by decide +kernel
theorem dX2_fill_1 : decode cX2_fill 1 = .ok (.istore_n 2, 1) := by decide +kernel
theorem dX2_fill_2 : decode cX2_fill 2 = .ok (.iload_n 2, 1) := by decide +kernel
theorem dX2_fill_3 : decode cX2_fill 3 = .ok (.aload_n 0, 1) := by decide +kernel
theorem dX2_fill_4 : decode cX2_fill 4 = .ok (.arraylength, 1) := by decide +kernel
theorem dX2_fill_5 : decode cX2_fill 5 = .ok (.if_icmp .ge 13, 3) := by decide +kernel
theorem dX2_fill_8 : decode cX2_fill 8 = .ok (.aload_n 0, 1) := by decide +kernel
theorem dX2_fill_9 : decode cX2_fill 9 = .ok (.iload_n 2, 1) := by decide +kernel
theorem dX2_fill_10 : decode cX2_fill 10 = .ok (.iload_n 1, 1) := by decide +kernel
theorem dX2_fill_11 : decode cX2_fill 11 = .ok (.iastore, 1) := by decide +kernel
theorem dX2_fill_12 : decode cX2_fill 12 = .ok (.iinc 2 1, 3) := by decide +kernel
theorem dX2_fill_15 : decode cX2_fill 15 = .ok (.goto (-13), 3) := by decide +kernel
theorem dX2_fill_18 : decode cX2_fill 18 = .ok (.return_, 1) := by decide +kernel
theorem dX2_copy_0 : decode cX2_copy 0 = .ok (.iconst 0, 1) := by decide +kernel
theorem dX2_copy_1 : decode cX2_copy 1 = .ok (.istore_n 2, 1) := by decide +kernel
theorem dX2_copy_2 : decode cX2_copy 2 = .ok (.iload_n 2, 1) := by decide +kernel
theorem dX2_copy_3 : decode cX2_copy 3 = .ok (.aload_n 0, 1) := by decide +kernel
theorem dX2_copy_4 : decode cX2_copy 4 = .ok (.arraylength, 1) := by decide +kernel
theorem dX2_copy_5 : decode cX2_copy 5 = .ok (.if_icmp .ge 21, 3) := by decide +kernel
theorem dX2_copy_8 : decode cX2_copy 8 = .ok (.iload_n 2, 1) := by decide +kernel
theorem dX2_copy_9 : decode cX2_copy 9 = .ok (.aload_n 1, 1) := by decide +kernel
theorem dX2_copy_10 : decode cX2_copy 10 = .ok (.arraylength, 1) := by decide +kernel
theorem dX2_copy_11 : decode cX2_copy 11 = .ok (.if_icmp .ge 15, 3) := by decide +kernel
theorem dX2_copy_14 : decode cX2_copy 14 = .ok (.aload_n 1, 1) := by decide +kernel
theorem dX2_copy_15 : decode cX2_copy 15 = .ok (.iload_n 2, 1) := by decide +kernel
theorem dX2_copy_16 : decode cX2_copy 16 = .ok (.aload_n 0, 1) := by decide +kernel
theorem dX2_copy_17 : decode cX2_copy 17 = .ok (.iload_n 2, 1) := by decide +kernel
theorem dX2_copy_18 : decode cX2_copy 18 = .ok (.iaload, 1) := by decide +kernel
theorem dX2_copy_19 : decode cX2_copy 19 = .ok (.iastore, 1) := by decide +kernel
theorem dX2_copy_20 : decode cX2_copy 20 = .ok (.iinc 2 1, 3) := by decide +kernel
theorem dX2_copy_23 : decode cX2_copy 23 = .ok (.goto (-21), 3) := by decide +kernel
theorem dX2_copy_26 : decode cX2_copy 26 = .ok (.return_, 1) := by decide +kernel
theorem dX2_cell_0 : decode cX2_cell 0 = .ok (.iload_n 1, 1) := by decide +kernel
theorem dX2_cell_1 : decode cX2_cell 1 = .ok (.bipush 10, 2) := by decide +kernel
theorem dX2_cell_3 : decode cX2_cell 3 = .ok (.imul, 1) := by decide +kernel
theorem dX2_cell_4 : decode cX2_cell 4 = .ok (.iload_n 0, 1) := by decide +kernel
theorem dX2_cell_5 : decode cX2_cell 5 = .ok (.iadd, 1) := by decide +kernel
theorem dX2_cell_6 : decode cX2_cell 6 = .ok (.ireturn, 1) := by decide +kernel
theorem dX2_hasRole_0 : decode cX2_hasRole 0 = .ok (.iload_n 1, 1) := by decide +kernel
theorem dX2_hasRole_1 : decode cX2_hasRole 1 = .ok (.ifCond .lt 15, 3) := by decide +kernel
theorem dX2_hasRole_4 : decode cX2_hasRole 4 = .ok (.iload_n 1, 1) := by decide +kernel
theorem dX2_hasRole_5 : decode cX2_hasRole 5 = .ok (.aload_n 0, 1) := by decide +kernel
theorem dX2_hasRole_6 : decode cX2_hasRole 6 = .ok (.getfield 52, 3) := by decide +kernel
theorem dX2_hasRole_9 : decode cX2_hasRole 9 = .ok (.if_icmp .ge 7, 3) := by decide +kernel
theorem dX2_hasRole_12 : decode cX2_hasRole 12 = .ok (.iconst 1, 1) := by decide +kernel
theorem dX2_hasRole_13 : decode cX2_hasRole 13 = .ok (.goto 4, 3) := by decide +kernel
theorem dX2_hasRole_16 : decode cX2_hasRole 16 = .ok (.iconst 0, 1) := by decide +kernel
theorem dX2_hasRole_17 : decode cX2_hasRole 17 = .ok (.ireturn, 1) := by decide +kernel
theorem dX2_hasPlayer_0 : decode cX2_hasPlayer 0 = .ok (.iload_n 1, 1) := by decide +kernel
theorem dX2_hasPlayer_1 : decode cX2_hasPlayer 1 = .ok (.ifCond .lt 15, 3) := by decide +kernel
theorem dX2_hasPlayer_4 : decode cX2_hasPlayer 4 = .ok (.iload_n 1, 1) := by decide +kernel
theorem dX2_hasPlayer_5 : decode cX2_hasPlayer 5 = .ok (.aload_n 0, 1) := by decide +kernel
theorem dX2_hasPlayer_6 : decode cX2_hasPlayer 6 = .ok (.getfield 56, 3) := by decide +kernel
theorem dX2_hasPlayer_9 : decode cX2_hasPlayer 9 = .ok (.if_icmp .ge 7, 3) := by decide +kernel
theorem dX2_hasPlayer_12 : decode cX2_hasPlayer 12 = .ok (.iconst 1, 1) := by decide +kernel
theorem dX2_hasPlayer_13 : decode cX2_hasPlayer 13 = .ok (.goto 4, 3) := by decide +kernel
theorem dX2_hasPlayer_16 : decode cX2_hasPlayer 16 = .ok (.iconst 0, 1) := by decide +kernel
theorem dX2_hasPlayer_17 : decode cX2_hasPlayer 17 = .ok (.ireturn, 1) := by decide +kernel
theorem dX2_roleCount_0 : decode cX2_roleCount 0 = .ok (.aload_n 0, 1) := by decide +kernel
theorem dX2_roleCount_1 : decode cX2_roleCount 1 = .ok (.getfield 52, 3) := by decide +kernel
theorem dX2_roleCount_4 : decode cX2_roleCount 4 = .ok (.ireturn, 1) := by decide +kernel
theorem dX2_playerCount_0 : decode cX2_playerCount 0 = .ok (.aload_n 0, 1) := by decide +kernel
theorem dX2_playerCount_1 : decode cX2_playerCount 1 = .ok (.getfield 56, 3) := by decide +kernel
theorem dX2_playerCount_4 : decode cX2_playerCount 4 = .ok (.ireturn, 1) := by decide +kernel
theorem dX2_dayNow_0 : decode cX2_dayNow 0 = .ok (.aload_n 0, 1) := by decide +kernel
theorem dX2_dayNow_1 : decode cX2_dayNow 1 = .ok (.getfield 59, 3) := by decide +kernel
theorem dX2_dayNow_4 : decode cX2_dayNow 4 = .ok (.ireturn, 1) := by decide +kernel
theorem dX2_performedCount_0 : decode cX2_performedCount 0 = .ok (.aload_n 0, 1) := by decide +kernel
theorem dX2_performedCount_1 : decode cX2_performedCount 1 = .ok (.getfield 62, 3) := by decide +kernel
theorem dX2_performedCount_4 : decode cX2_performedCount 4 = .ok (.ireturn, 1) := by decide +kernel
theorem dX2_calledOffCount_0 : decode cX2_calledOffCount 0 = .ok (.aload_n 0, 1) := by decide +kernel
theorem dX2_calledOffCount_1 : decode cX2_calledOffCount 1 = .ok (.getfield 65, 3) := by decide +kernel
theorem dX2_calledOffCount_4 : decode cX2_calledOffCount 4 = .ok (.ireturn, 1) := by decide +kernel
theorem dX2_standInCount_0 : decode cX2_standInCount 0 = .ok (.aload_n 0, 1) := by decide +kernel
theorem dX2_standInCount_1 : decode cX2_standInCount 1 = .ok (.getfield 68, 3) := by decide +kernel
theorem dX2_standInCount_4 : decode cX2_standInCount 4 = .ok (.ireturn, 1) := by decide +kernel
theorem dX2_isPosted_0 : decode cX2_isPosted 0 = .ok (.aload_n 0, 1) := by decide +kernel
theorem dX2_isPosted_1 : decode cX2_isPosted 1 = .ok (.getfield 71, 3) := by decide +kernel
theorem dX2_isPosted_4 : decode cX2_isPosted 4 = .ok (.ireturn, 1) := by decide +kernel
theorem dX2_paidTogether_0 : decode cX2_paidTogether 0 = .ok (.iconst 0, 1) := by decide +kernel
theorem dX2_paidTogether_1 : decode cX2_paidTogether 1 = .ok (.istore_n 1, 1) := by decide +kernel
theorem dX2_paidTogether_2 : decode cX2_paidTogether 2 = .ok (.iconst 0, 1) := by decide +kernel
theorem dX2_paidTogether_3 : decode cX2_paidTogether 3 = .ok (.istore_n 2, 1) := by decide +kernel
theorem dX2_paidTogether_4 : decode cX2_paidTogether 4 = .ok (.iload_n 2, 1) := by decide +kernel
theorem dX2_paidTogether_5 : decode cX2_paidTogether 5 = .ok (.aload_n 0, 1) := by decide +kernel
theorem dX2_paidTogether_6 : decode cX2_paidTogether 6 = .ok (.getfield 56, 3) := by decide +kernel
theorem dX2_paidTogether_9 : decode cX2_paidTogether 9 = .ok (.if_icmp .ge 18, 3) := by decide +kernel
theorem dX2_paidTogether_12 : decode cX2_paidTogether 12 = .ok (.iload_n 1, 1) := by decide +kernel
theorem dX2_paidTogether_13 : decode cX2_paidTogether 13 = .ok (.aload_n 0, 1) := by decide +kernel
theorem dX2_paidTogether_14 : decode cX2_paidTogether 14 = .ok (.getfield 27, 3) := by decide +kernel
theorem dX2_paidTogether_17 : decode cX2_paidTogether 17 = .ok (.iload_n 2, 1) := by decide +kernel
theorem dX2_paidTogether_18 : decode cX2_paidTogether 18 = .ok (.iaload, 1) := by decide +kernel
theorem dX2_paidTogether_19 : decode cX2_paidTogether 19 = .ok (.iadd, 1) := by decide +kernel
theorem dX2_paidTogether_20 : decode cX2_paidTogether 20 = .ok (.istore_n 1, 1) := by decide +kernel
theorem dX2_paidTogether_21 : decode cX2_paidTogether 21 = .ok (.iinc 2 1, 3) := by decide +kernel
theorem dX2_paidTogether_24 : decode cX2_paidTogether 24 = .ok (.goto (-20), 3) := by decide +kernel
theorem dX2_paidTogether_27 : decode cX2_paidTogether 27 = .ok (.iload_n 1, 1) := by decide +kernel
theorem dX2_paidTogether_28 : decode cX2_paidTogether 28 = .ok (.ireturn, 1) := by decide +kernel
theorem dX2_weightOf_0 : decode cX2_weightOf 0 = .ok (.aload_n 0, 1) := by decide +kernel
theorem dX2_weightOf_1 : decode cX2_weightOf 1 = .ok (.getfield 9, 3) := by decide +kernel
theorem dX2_weightOf_4 : decode cX2_weightOf 4 = .ok (.iload_n 1, 1) := by decide +kernel
theorem dX2_weightOf_5 : decode cX2_weightOf 5 = .ok (.iaload, 1) := by decide +kernel
theorem dX2_weightOf_6 : decode cX2_weightOf 6 = .ok (.ireturn, 1) := by decide +kernel
theorem dX2_firstOf_0 : decode cX2_firstOf 0 = .ok (.aload_n 0, 1) := by decide +kernel
theorem dX2_firstOf_1 : decode cX2_firstOf 1 = .ok (.getfield 15, 3) := by decide +kernel
theorem dX2_firstOf_4 : decode cX2_firstOf 4 = .ok (.iload_n 1, 1) := by decide +kernel
theorem dX2_firstOf_5 : decode cX2_firstOf 5 = .ok (.iaload, 1) := by decide +kernel
theorem dX2_firstOf_6 : decode cX2_firstOf 6 = .ok (.ireturn, 1) := by decide +kernel
theorem dX2_postedFor_0 : decode cX2_postedFor 0 = .ok (.aload_n 0, 1) := by decide +kernel
theorem dX2_postedFor_1 : decode cX2_postedFor 1 = .ok (.getfield 71, 3) := by decide +kernel
theorem dX2_postedFor_4 : decode cX2_postedFor 4 = .ok (.ifCond .eq 12, 3) := by decide +kernel
theorem dX2_postedFor_7 : decode cX2_postedFor 7 = .ok (.aload_n 0, 1) := by decide +kernel
theorem dX2_postedFor_8 : decode cX2_postedFor 8 = .ok (.getfield 18, 3) := by decide +kernel
theorem dX2_postedFor_11 : decode cX2_postedFor 11 = .ok (.iload_n 1, 1) := by decide +kernel
theorem dX2_postedFor_12 : decode cX2_postedFor 12 = .ok (.iaload, 1) := by decide +kernel
theorem dX2_postedFor_13 : decode cX2_postedFor 13 = .ok (.goto 4, 3) := by decide +kernel
theorem dX2_postedFor_16 : decode cX2_postedFor 16 = .ok (.iconst (-1), 1) := by decide +kernel
theorem dX2_postedFor_17 : decode cX2_postedFor 17 = .ok (.ireturn, 1) := by decide +kernel
set_option maxRecDepth 20000 in
theorem ggX2_candidateCount_X2_isFree : GoodIn wsX2_candidateCount wsX2_isFree := goodIn_r _ [7, 8, 9, 10, 11, 15, 16, 17, 18, 19, 20, 21, 22, 23, 24, 25, 26, 27, 28, 29, 30, 31] (by decide +kernel) (by decide +kernel)
set_option maxRecDepth 20000 in
theorem gX2_candidateCount_X2_isFree : GoodIn wsX2_candidateCount (wsV RX2 79 RX2 yX2_isFree wsX2_isFree) := goodIn_app (goodIn_of _ (by decide +kernel)) ggX2_candidateCount_X2_isFree
set_option maxRecDepth 20000 in
theorem ggX2_candidateCount_X2_cell : GoodIn wsX2_candidateCount wsX2_cell := goodIn_r _ [14] (by decide +kernel) (by decide +kernel)
set_option maxRecDepth 20000 in
theorem gX2_candidateCount_X2_cell : GoodIn wsX2_candidateCount (va_wsS RX2 83 yX2_cell wsX2_cell) := goodIn_app (goodIn_of _ (by decide +kernel)) ggX2_candidateCount_X2_cell
theorem dX2_candidateCount_0 : decode cX2_candidateCount 0 = .ok (.iconst 0, 1) := by decide +kernel
theorem dX2_candidateCount_1 : decode cX2_candidateCount 1 = .ok (.istore_n 2, 1) := by decide +kernel
theorem dX2_candidateCount_2 : decode cX2_candidateCount 2 = .ok (.iconst 0, 1) := by decide +kernel
theorem dX2_candidateCount_3 : decode cX2_candidateCount 3 = .ok (.istore_n 3, 1) := by decide +kernel
theorem dX2_candidateCount_4 : decode cX2_candidateCount 4 = .ok (.iload_n 3, 1) := by decide +kernel
theorem dX2_candidateCount_5 : decode cX2_candidateCount 5 = .ok (.aload_n 0, 1) := by decide +kernel
theorem dX2_candidateCount_6 : decode cX2_candidateCount 6 = .ok (.getfield 56, 3) := by decide +kernel
theorem dX2_candidateCount_9 : decode cX2_candidateCount 9 = .ok (.if_icmp .ge 33, 3) := by decide +kernel
theorem dX2_candidateCount_12 : decode cX2_candidateCount 12 = .ok (.aload_n 0, 1) := by decide +kernel
theorem dX2_candidateCount_13 : decode cX2_candidateCount 13 = .ok (.iload_n 3, 1) := by decide +kernel
theorem dX2_candidateCount_14 : decode cX2_candidateCount 14 = .ok (.invokevirtual 79, 3) := by decide +kernel
theorem dX2_candidateCount_17 : decode cX2_candidateCount 17 = .ok (.ifCond .eq 19, 3) := by decide +kernel
theorem dX2_candidateCount_20 : decode cX2_candidateCount 20 = .ok (.aload_n 0, 1) := by decide +kernel
theorem dX2_candidateCount_21 : decode cX2_candidateCount 21 = .ok (.getfield 21, 3) := by decide +kernel
theorem dX2_candidateCount_24 : decode cX2_candidateCount 24 = .ok (.iload_n 3, 1) := by decide +kernel
theorem dX2_candidateCount_25 : decode cX2_candidateCount 25 = .ok (.iload_n 1, 1) := by decide +kernel
theorem dX2_candidateCount_26 : decode cX2_candidateCount 26 = .ok (.invokestatic 83, 3) := by decide +kernel
theorem dX2_candidateCount_29 : decode cX2_candidateCount 29 = .ok (.iaload, 1) := by decide +kernel
theorem dX2_candidateCount_30 : decode cX2_candidateCount 30 = .ok (.ifCond .le 6, 3) := by decide +kernel
theorem dX2_candidateCount_33 : decode cX2_candidateCount 33 = .ok (.iinc 2 1, 3) := by decide +kernel
theorem dX2_candidateCount_36 : decode cX2_candidateCount 36 = .ok (.iinc 3 1, 3) := by decide +kernel
theorem dX2_candidateCount_39 : decode cX2_candidateCount 39 = .ok (.goto (-35), 3) := by decide +kernel
theorem dX2_candidateCount_42 : decode cX2_candidateCount 42 = .ok (.iload_n 2, 1) := by decide +kernel
theorem dX2_candidateCount_43 : decode cX2_candidateCount 43 = .ok (.ireturn, 1) := by decide +kernel
theorem dX2_payOf_0 : decode cX2_payOf 0 = .ok (.aload_n 0, 1) := by decide +kernel
theorem dX2_payOf_1 : decode cX2_payOf 1 = .ok (.getfield 27, 3) := by decide +kernel
theorem dX2_payOf_4 : decode cX2_payOf 4 = .ok (.iload_n 1, 1) := by decide +kernel
theorem dX2_payOf_5 : decode cX2_payOf 5 = .ok (.iaload, 1) := by decide +kernel
theorem dX2_payOf_6 : decode cX2_payOf 6 = .ok (.ireturn, 1) := by decide +kernel
theorem dX2_rowOf_0 : decode cX2_rowOf 0 = .ok (.aload_n 0, 1) := by decide +kernel
theorem dX2_rowOf_1 : decode cX2_rowOf 1 = .ok (.getfield 30, 3) := by decide +kernel
theorem dX2_rowOf_4 : decode cX2_rowOf 4 = .ok (.iload_n 1, 1) := by decide +kernel
theorem dX2_rowOf_5 : decode cX2_rowOf 5 = .ok (.iaload, 1) := by decide +kernel
theorem dX2_rowOf_6 : decode cX2_rowOf 6 = .ok (.ireturn, 1) := by decide +kernel
theorem dX2_showsOf_0 : decode cX2_showsOf 0 = .ok (.aload_n 0, 1) := by decide +kernel
theorem dX2_showsOf_1 : decode cX2_showsOf 1 = .ok (.getfield 36, 3) := by decide +kernel
theorem dX2_showsOf_4 : decode cX2_showsOf 4 = .ok (.iload_n 1, 1) := by decide +kernel
theorem dX2_showsOf_5 : decode cX2_showsOf 5 = .ok (.iaload, 1) := by decide +kernel
theorem dX2_showsOf_6 : decode cX2_showsOf 6 = .ok (.ireturn, 1) := by decide +kernel
theorem dX2_daysStillAway_0 : decode cX2_daysStillAway 0 = .ok (.iconst 0, 1) := by decide +kernel
theorem dX2_daysStillAway_1 : decode cX2_daysStillAway 1 = .ok (.aload_n 0, 1) := by decide +kernel
theorem dX2_daysStillAway_2 : decode cX2_daysStillAway 2 = .ok (.getfield 33, 3) := by decide +kernel
theorem dX2_daysStillAway_5 : decode cX2_daysStillAway 5 = .ok (.iload_n 1, 1) := by decide +kernel
theorem dX2_daysStillAway_6 : decode cX2_daysStillAway 6 = .ok (.iaload, 1) := by decide +kernel
theorem dX2_daysStillAway_7 : decode cX2_daysStillAway 7 = .ok (.aload_n 0, 1) := by decide +kernel
theorem dX2_daysStillAway_8 : decode cX2_daysStillAway 8 = .ok (.getfield 59, 3) := by decide +kernel
theorem dX2_daysStillAway_11 : decode cX2_daysStillAway 11 = .ok (.isub, 1) := by decide +kernel
theorem dX2_daysStillAway_12 : decode cX2_daysStillAway 12 = .ok (.invokestatic 87, 3) := by decide +kernel
theorem dX2_daysStillAway_15 : decode cX2_daysStillAway 15 = .ok (.ireturn, 1) := by decide +kernel
theorem dX2_isFree_0 : decode cX2_isFree 0 = .ok (.aload_n 0, 1) := by decide +kernel
theorem dX2_isFree_1 : decode cX2_isFree 1 = .ok (.getfield 33, 3) := by decide +kernel
theorem dX2_isFree_4 : decode cX2_isFree 4 = .ok (.iload_n 1, 1) := by decide +kernel
theorem dX2_isFree_5 : decode cX2_isFree 5 = .ok (.iaload, 1) := by decide +kernel
theorem dX2_isFree_6 : decode cX2_isFree 6 = .ok (.aload_n 0, 1) := by decide +kernel
