theorem dX6_rests_0 : decode cX6_rests 0 = .ok (.aload_n 0, 1) := by decide +kernel
theorem dX6_rests_1 : decode cX6_rests 1 = .ok (.bipush 40, 2) := by decide +kernel
theorem dX6_rests_3 : decode cX6_rests 3 = .ok (.iload_n 1, 1) := by decide +kernel
theorem dX6_rests_4 : decode cX6_rests 4 = .ok (.iadd, 1) := by decide +kernel
theorem dX6_rests_5 : decode cX6_rests 5 = .ok (.iconst 0, 1) := by decide +kernel
theorem dX6_rests_6 : decode cX6_rests 6 = .ok (.iastore, 1) := by decide +kernel
theorem dX6_rests_7 : decode cX6_rests 7 = .ok (.return_, 1) := by decide +kernel
theorem dX6_payFor_0 : decode cX6_payFor 0 = .ok (.aload_n 0, 1) := by decide +kernel
theorem dX6_payFor_1 : decode cX6_payFor 1 = .ok (.bipush 6, 2) := by decide +kernel
theorem dX6_payFor_3 : decode cX6_payFor 3 = .ok (.iaload, 1) := by decide +kernel
theorem dX6_payFor_4 : decode cX6_payFor 4 = .ok (.aload_n 0, 1) := by decide +kernel
theorem dX6_payFor_5 : decode cX6_payFor 5 = .ok (.bipush 7, 2) := by decide +kernel
theorem dX6_payFor_7 : decode cX6_payFor 7 = .ok (.iaload, 1) := by decide +kernel
theorem dX6_payFor_8 : decode cX6_payFor 8 = .ok (.aload_n 0, 1) := by decide +kernel
theorem dX6_payFor_9 : decode cX6_payFor 9 = .ok (.bipush 12, 2) := by decide +kernel
theorem dX6_payFor_11 : decode cX6_payFor 11 = .ok (.iload_n 2, 1) := by decide +kernel
theorem dX6_payFor_12 : decode cX6_payFor 12 = .ok (.iadd, 1) := by decide +kernel
theorem dX6_payFor_13 : decode cX6_payFor 13 = .ok (.iaload, 1) := by decide +kernel
theorem dX6_payFor_14 : decode cX6_payFor 14 = .ok (.imul, 1) := by decide +kernel
theorem dX6_payFor_15 : decode cX6_payFor 15 = .ok (.iadd, 1) := by decide +kernel
theorem dX6_payFor_16 : decode cX6_payFor 16 = .ok (.istore_n 3, 1) := by decide +kernel
theorem dX6_payFor_17 : decode cX6_payFor 17 = .ok (.iload_n 3, 1) := by decide +kernel
theorem dX6_payFor_18 : decode cX6_payFor 18 = .ok (.aload_n 0, 1) := by decide +kernel
theorem dX6_payFor_19 : decode cX6_payFor 19 = .ok (.bipush 18, 2) := by decide +kernel
theorem dX6_payFor_21 : decode cX6_payFor 21 = .ok (.iload_n 2, 1) := by decide +kernel
theorem dX6_payFor_22 : decode cX6_payFor 22 = .ok (.iadd, 1) := by decide +kernel
theorem dX6_payFor_23 : decode cX6_payFor 23 = .ok (.iaload, 1) := by decide +kernel
theorem dX6_payFor_24 : decode cX6_payFor 24 = .ok (.iload_n 1, 1) := by decide +kernel
theorem dX6_payFor_25 : decode cX6_payFor 25 = .ok (.if_icmp .ne 7, 3) := by decide +kernel
theorem dX6_payFor_28 : decode cX6_payFor 28 = .ok (.iconst 0, 1) := by decide +kernel
theorem dX6_payFor_29 : decode cX6_payFor 29 = .ok (.goto 7, 3) := by decide +kernel
theorem dX6_payFor_32 : decode cX6_payFor 32 = .ok (.aload_n 0, 1) := by decide +kernel
theorem dX6_payFor_33 : decode cX6_payFor 33 = .ok (.bipush 8, 2) := by decide +kernel
theorem dX6_payFor_35 : decode cX6_payFor 35 = .ok (.iaload, 1) := by decide +kernel
theorem dX6_payFor_36 : decode cX6_payFor 36 = .ok (.iadd, 1) := by decide +kernel
theorem dX6_payFor_37 : decode cX6_payFor 37 = .ok (.istore_n 3, 1) := by decide +kernel
theorem dX6_payFor_38 : decode cX6_payFor 38 = .ok (.iload_n 3, 1) := by decide +kernel
theorem dX6_payFor_39 : decode cX6_payFor 39 = .ok (.aload_n 0, 1) := by decide +kernel
theorem dX6_payFor_40 : decode cX6_payFor 40 = .ok (.bipush 10, 2) := by decide +kernel
theorem dX6_payFor_42 : decode cX6_payFor 42 = .ok (.iaload, 1) := by decide +kernel
theorem dX6_payFor_43 : decode cX6_payFor 43 = .ok (.iconst 1, 1) := by decide +kernel
theorem dX6_payFor_44 : decode cX6_payFor 44 = .ok (.if_icmp .ne 20, 3) := by decide +kernel
theorem dX6_payFor_47 : decode cX6_payFor 47 = .ok (.aload_n 0, 1) := by decide +kernel
theorem dX6_payFor_48 : decode cX6_payFor 48 = .ok (.bipush 24, 2) := by decide +kernel
theorem dX6_payFor_50 : decode cX6_payFor 50 = .ok (.iload_n 2, 1) := by decide +kernel
theorem dX6_payFor_51 : decode cX6_payFor 51 = .ok (.iadd, 1) := by decide +kernel
theorem dX6_payFor_52 : decode cX6_payFor 52 = .ok (.iaload, 1) := by decide +kernel
theorem dX6_payFor_53 : decode cX6_payFor 53 = .ok (.iload_n 1, 1) := by decide +kernel
theorem dX6_payFor_54 : decode cX6_payFor 54 = .ok (.if_icmp .eq 10, 3) := by decide +kernel
theorem dX6_payFor_57 : decode cX6_payFor 57 = .ok (.aload_n 0, 1) := by decide +kernel
theorem dX6_payFor_58 : decode cX6_payFor 58 = .ok (.bipush 9, 2) := by decide +kernel
theorem dX6_payFor_60 : decode cX6_payFor 60 = .ok (.iaload, 1) := by decide +kernel
theorem dX6_payFor_61 : decode cX6_payFor 61 = .ok (.goto 4, 3) := by decide +kernel
theorem dX6_payFor_64 : decode cX6_payFor 64 = .ok (.iconst 0, 1) := by decide +kernel
theorem dX6_payFor_65 : decode cX6_payFor 65 = .ok (.iadd, 1) := by decide +kernel
theorem dX6_payFor_66 : decode cX6_payFor 66 = .ok (.ireturn, 1) := by decide +kernel
set_option maxRecDepth 20000 in
theorem ggX6_plays_X6_casts : GoodIn wsX6_plays wsX6_casts := goodIn_r _ [6, 7, 1, 8, 9, 5, 10, 11, 12, 13, 14, 15, 16, 17, 18, 19, 20, 21, 22, 23, 24, 25, 26, 33, 34, 35, 36, 37, 38, 39, 40, 41, 42, 43, 44, 45, 46] (by decide +kernel) (by decide +kernel)
set_option maxRecDepth 20000 in
theorem gX6_plays_X6_casts : GoodIn wsX6_plays (wsV RX6 83 RX6 yX6_casts wsX6_casts) := goodIn_app (goodIn_of _ (by decide +kernel)) ggX6_plays_X6_casts
set_option maxRecDepth 20000 in
theorem ggX6_plays_X6_payFor : GoodIn wsX6_plays wsX6_payFor := goodIn_r _ [29] (by decide +kernel) (by decide +kernel)
set_option maxRecDepth 20000 in
theorem gX6_plays_X6_payFor : GoodIn wsX6_plays (va_wsS RX6 87 yX6_payFor wsX6_payFor) := goodIn_app (goodIn_of _ (by decide +kernel)) ggX6_plays_X6_payFor
set_option maxRecDepth 20000 in
theorem ggX6_plays_X6_nextDay : GoodIn wsX6_plays wsX6_nextDay := goodIn_r _ [32] (by decide +kernel) (by decide +kernel)
set_option maxRecDepth 20000 in
theorem gX6_plays_X6_nextDay : GoodIn wsX6_plays (va_wsS RX6 90 yX6_nextDay wsX6_nextDay) := goodIn_app (goodIn_of _ (by decide +kernel)) ggX6_plays_X6_nextDay
theorem dX6_plays_0 : decode cX6_plays 0 = .ok (.aload_n 0, 1) := by decide +kernel
theorem dX6_plays_1 : decode cX6_plays 1 = .ok (.aload_n 1, 1) := by decide +kernel
theorem dX6_plays_2 : decode cX6_plays 2 = .ok (.invokevirtual 83, 3) := by decide +kernel
theorem dX6_plays_5 : decode cX6_plays 5 = .ok (.istore_n 2, 1) := by decide +kernel
theorem dX6_plays_6 : decode cX6_plays 6 = .ok (.iconst 0, 1) := by decide +kernel
theorem dX6_plays_7 : decode cX6_plays 7 = .ok (.istore_n 3, 1) := by decide +kernel
theorem dX6_plays_8 : decode cX6_plays 8 = .ok (.iconst 0, 1) := by decide +kernel
theorem dX6_plays_9 : decode cX6_plays 9 = .ok (.istore 4, 2) := by decide +kernel
theorem dX6_plays_11 : decode cX6_plays 11 = .ok (.iconst 0, 1) := by decide +kernel
theorem dX6_plays_12 : decode cX6_plays 12 = .ok (.istore 5, 2) := by decide +kernel
theorem dX6_plays_14 : decode cX6_plays 14 = .ok (.iload 5, 2) := by decide +kernel
theorem dX6_plays_16 : decode cX6_plays 16 = .ok (.aload_n 1, 1) := by decide +kernel
theorem dX6_plays_17 : decode cX6_plays 17 = .ok (.iconst 3, 1) := by decide +kernel
theorem dX6_plays_18 : decode cX6_plays 18 = .ok (.iaload, 1) := by decide +kernel
theorem dX6_plays_19 : decode cX6_plays 19 = .ok (.if_icmp .ge 111, 3) := by decide +kernel
theorem dX6_plays_22 : decode cX6_plays 22 = .ok (.iload_n 2, 1) := by decide +kernel
theorem dX6_plays_23 : decode cX6_plays 23 = .ok (.ifCond .lt 107, 3) := by decide +kernel
theorem dX6_plays_26 : decode cX6_plays 26 = .ok (.aload_n 0, 1) := by decide +kernel
theorem dX6_plays_27 : decode cX6_plays 27 = .ok (.getfield 32, 3) := by decide +kernel
theorem dX6_plays_30 : decode cX6_plays 30 = .ok (.iload 5, 2) := by decide +kernel
theorem dX6_plays_32 : decode cX6_plays 32 = .ok (.iaload, 1) := by decide +kernel
theorem dX6_plays_33 : decode cX6_plays 33 = .ok (.istore 6, 2) := by decide +kernel
theorem dX6_plays_35 : decode cX6_plays 35 = .ok (.aload_n 1, 1) := by decide +kernel
theorem dX6_plays_36 : decode cX6_plays 36 = .ok (.iload 6, 2) := by decide +kernel
theorem dX6_plays_38 : decode cX6_plays 38 = .ok (.iload 5, 2) := by decide +kernel
theorem dX6_plays_40 : decode cX6_plays 40 = .ok (.invokestatic 87, 3) := by decide +kernel
theorem dX6_plays_43 : decode cX6_plays 43 = .ok (.istore 7, 2) := by decide +kernel
theorem dX6_plays_45 : decode cX6_plays 45 = .ok (.iload_n 3, 1) := by decide +kernel
theorem dX6_plays_46 : decode cX6_plays 46 = .ok (.iload 7, 2) := by decide +kernel
theorem dX6_plays_48 : decode cX6_plays 48 = .ok (.iadd, 1) := by decide +kernel
theorem dX6_plays_49 : decode cX6_plays 49 = .ok (.istore_n 3, 1) := by decide +kernel
theorem dX6_plays_50 : decode cX6_plays 50 = .ok (.iload 4, 2) := by decide +kernel
theorem dX6_plays_52 : decode cX6_plays 52 = .ok (.iconst 1, 1) := by decide +kernel
theorem dX6_plays_53 : decode cX6_plays 53 = .ok (.iload 6, 2) := by decide +kernel
theorem dX6_plays_55 : decode cX6_plays 55 = .ok (.ishl, 1) := by decide +kernel
theorem dX6_plays_56 : decode cX6_plays 56 = .ok (.ior, 1) := by decide +kernel
theorem dX6_plays_57 : decode cX6_plays 57 = .ok (.istore 4, 2) := by decide +kernel
theorem dX6_plays_59 : decode cX6_plays 59 = .ok (.aload_n 1, 1) := by decide +kernel
theorem dX6_plays_60 : decode cX6_plays 60 = .ok (.bipush 30, 2) := by decide +kernel
theorem dX6_plays_62 : decode cX6_plays 62 = .ok (.iload 6, 2) := by decide +kernel
theorem dX6_plays_64 : decode cX6_plays 64 = .ok (.iadd, 1) := by decide +kernel
theorem dX6_plays_65 : decode cX6_plays 65 = .ok (.dup2, 1) := by decide +kernel
theorem dX6_plays_66 : decode cX6_plays 66 = .ok (.iaload, 1) := by decide +kernel
theorem dX6_plays_67 : decode cX6_plays 67 = .ok (.iload 7, 2) := by decide +kernel
theorem dX6_plays_69 : decode cX6_plays 69 = .ok (.iadd, 1) := by decide +kernel
theorem dX6_plays_70 : decode cX6_plays 70 = .ok (.iastore, 1) := by decide +kernel
theorem dX6_plays_71 : decode cX6_plays 71 = .ok (.aload_n 1, 1) := by decide +kernel
theorem dX6_plays_72 : decode cX6_plays 72 = .ok (.bipush 60, 2) := by decide +kernel
theorem dX6_plays_74 : decode cX6_plays 74 = .ok (.iload 6, 2) := by decide +kernel
theorem dX6_plays_76 : decode cX6_plays 76 = .ok (.iadd, 1) := by decide +kernel
theorem dX6_plays_77 : decode cX6_plays 77 = .ok (.dup2, 1) := by decide +kernel
theorem dX6_plays_78 : decode cX6_plays 78 = .ok (.iaload, 1) := by decide +kernel
theorem dX6_plays_79 : decode cX6_plays 79 = .ok (.iconst 1, 1) := by decide +kernel
theorem dX6_plays_80 : decode cX6_plays 80 = .ok (.iadd, 1) := by decide +kernel
theorem dX6_plays_81 : decode cX6_plays 81 = .ok (.iastore, 1) := by decide +kernel
theorem dX6_plays_82 : decode cX6_plays 82 = .ok (.aload_n 1, 1) := by decide +kernel
theorem dX6_plays_83 : decode cX6_plays 83 = .ok (.sipush 130, 3) := by decide +kernel
theorem dX6_plays_86 : decode cX6_plays 86 = .ok (.bipush 6, 2) := by decide +kernel
theorem dX6_plays_88 : decode cX6_plays 88 = .ok (.iload 6, 2) := by decide +kernel
theorem dX6_plays_90 : decode cX6_plays 90 = .ok (.imul, 1) := by decide +kernel
theorem dX6_plays_91 : decode cX6_plays 91 = .ok (.iadd, 1) := by decide +kernel
theorem dX6_plays_92 : decode cX6_plays 92 = .ok (.iload 5, 2) := by decide +kernel
theorem dX6_plays_94 : decode cX6_plays 94 = .ok (.iadd, 1) := by decide +kernel
theorem dX6_plays_95 : decode cX6_plays 95 = .ok (.dup2, 1) := by decide +kernel
theorem dX6_plays_96 : decode cX6_plays 96 = .ok (.iaload, 1) := by decide +kernel
theorem dX6_plays_97 : decode cX6_plays 97 = .ok (.iconst 1, 1) := by decide +kernel
theorem dX6_plays_98 : decode cX6_plays 98 = .ok (.iadd, 1) := by decide +kernel
theorem dX6_plays_99 : decode cX6_plays 99 = .ok (.iastore, 1) := by decide +kernel
theorem dX6_plays_100 : decode cX6_plays 100 = .ok (.aload_n 1, 1) := by decide +kernel
theorem dX6_plays_101 : decode cX6_plays 101 = .ok (.bipush 11, 2) := by decide +kernel
theorem dX6_plays_103 : decode cX6_plays 103 = .ok (.dup2, 1) := by decide +kernel
theorem dX6_plays_104 : decode cX6_plays 104 = .ok (.iaload, 1) := by decide +kernel
theorem dX6_plays_105 : decode cX6_plays 105 = .ok (.aload_n 1, 1) := by decide +kernel
theorem dX6_plays_106 : decode cX6_plays 106 = .ok (.bipush 18, 2) := by decide +kernel
theorem dX6_plays_108 : decode cX6_plays 108 = .ok (.iload 5, 2) := by decide +kernel
theorem dX6_plays_110 : decode cX6_plays 110 = .ok (.iadd, 1) := by decide +kernel
theorem dX6_plays_111 : decode cX6_plays 111 = .ok (.iaload, 1) := by decide +kernel
theorem dX6_plays_112 : decode cX6_plays 112 = .ok (.iload 6, 2) := by decide +kernel
theorem dX6_plays_114 : decode cX6_plays 114 = .ok (.if_icmp .ne 7, 3) := by decide +kernel
theorem dX6_plays_117 : decode cX6_plays 117 = .ok (.iconst 0, 1) := by decide +kernel
theorem dX6_plays_118 : decode cX6_plays 118 = .ok (.goto 4, 3) := by decide +kernel
theorem dX6_plays_121 : decode cX6_plays 121 = .ok (.iconst 1, 1) := by decide +kernel
theorem dX6_plays_122 : decode cX6_plays 122 = .ok (.iadd, 1) := by decide +kernel
theorem dX6_plays_123 : decode cX6_plays 123 = .ok (.iastore, 1) := by decide +kernel
theorem dX6_plays_124 : decode cX6_plays 124 = .ok (.iinc 5 1, 3) := by decide +kernel
theorem dX6_plays_127 : decode cX6_plays 127 = .ok (.goto (-113), 3) := by decide +kernel
theorem dX6_plays_130 : decode cX6_plays 130 = .ok (.iconst 0, 1) := by decide +kernel
theorem dX6_plays_131 : decode cX6_plays 131 = .ok (.istore 5, 2) := by decide +kernel
theorem dX6_plays_133 : decode cX6_plays 133 = .ok (.iload 5, 2) := by decide +kernel
theorem dX6_plays_135 : decode cX6_plays 135 = .ok (.aload_n 1, 1) := by decide +kernel
theorem dX6_plays_136 : decode cX6_plays 136 = .ok (.iconst 4, 1) := by decide +kernel
theorem dX6_plays_137 : decode cX6_plays 137 = .ok (.iaload, 1) := by decide +kernel
theorem dX6_plays_138 : decode cX6_plays 138 = .ok (.if_icmp .ge 40, 3) := by decide +kernel
theorem dX6_plays_141 : decode cX6_plays 141 = .ok (.aload_n 1, 1) := by decide +kernel
theorem dX6_plays_142 : decode cX6_plays 142 = .ok (.bipush 40, 2) := by decide +kernel
theorem dX6_plays_144 : decode cX6_plays 144 = .ok (.iload 5, 2) := by decide +kernel
theorem dX6_plays_146 : decode cX6_plays 146 = .ok (.iadd, 1) := by decide +kernel
theorem dX6_plays_147 : decode cX6_plays 147 = .ok (.iload 4, 2) := by decide +kernel
theorem dX6_plays_149 : decode cX6_plays 149 = .ok (.iload 5, 2) := by decide +kernel
theorem dX6_plays_151 : decode cX6_plays 151 = .ok (.ishr, 1) := by decide +kernel
theorem dX6_plays_152 : decode cX6_plays 152 = .ok (.iconst 1, 1) := by decide +kernel
theorem dX6_plays_153 : decode cX6_plays 153 = .ok (.iand, 1) := by decide +kernel
theorem dX6_plays_154 : decode cX6_plays 154 = .ok (.iconst 1, 1) := by decide +kernel
theorem dX6_plays_155 : decode cX6_plays 155 = .ok (.if_icmp .ne 15, 3) := by decide +kernel
theorem dX6_plays_158 : decode cX6_plays 158 = .ok (.aload_n 1, 1) := by decide +kernel
theorem dX6_plays_159 : decode cX6_plays 159 = .ok (.bipush 40, 2) := by decide +kernel
theorem dX6_plays_161 : decode cX6_plays 161 = .ok (.iload 5, 2) := by decide +kernel
theorem dX6_plays_163 : decode cX6_plays 163 = .ok (.iadd, 1) := by decide +kernel
theorem dX6_plays_164 : decode cX6_plays 164 = .ok (.iaload, 1) := by decide +kernel
theorem dX6_plays_165 : decode cX6_plays 165 = .ok (.iconst 1, 1) := by decide +kernel
theorem dX6_plays_166 : decode cX6_plays 166 = .ok (.iadd, 1) := by decide +kernel
theorem dX6_plays_167 : decode cX6_plays 167 = .ok (.goto 4, 3) := by decide +kernel
theorem dX6_plays_170 : decode cX6_plays 170 = .ok (.iconst 0, 1) := by decide +kernel
theorem dX6_plays_171 : decode cX6_plays 171 = .ok (.iastore, 1) := by decide +kernel
theorem dX6_plays_172 : decode cX6_plays 172 = .ok (.iinc 5 1, 3) := by decide +kernel
theorem dX6_plays_175 : decode cX6_plays 175 = .ok (.goto (-42), 3) := by decide +kernel
theorem dX6_plays_178 : decode cX6_plays 178 = .ok (.aload_n 1, 1) := by decide +kernel
theorem dX6_plays_179 : decode cX6_plays 179 = .ok (.iload_n 2, 1) := by decide +kernel
theorem dX6_plays_180 : decode cX6_plays 180 = .ok (.ifCond .ge 7, 3) := by decide +kernel
theorem dX6_plays_183 : decode cX6_plays 183 = .ok (.iconst 2, 1) := by decide +kernel
theorem dX6_plays_184 : decode cX6_plays 184 = .ok (.goto 4, 3) := by decide +kernel
theorem dX6_plays_187 : decode cX6_plays 187 = .ok (.iconst 1, 1) := by decide +kernel
theorem dX6_plays_188 : decode cX6_plays 188 = .ok (.dup2, 1) := by decide +kernel
theorem dX6_plays_189 : decode cX6_plays 189 = .ok (.iaload, 1) := by decide +kernel
theorem dX6_plays_190 : decode cX6_plays 190 = .ok (.iconst 1, 1) := by decide +kernel
theorem dX6_plays_191 : decode cX6_plays 191 = .ok (.iadd, 1) := by decide +kernel
theorem dX6_plays_192 : decode cX6_plays 192 = .ok (.iastore, 1) := by decide +kernel
theorem dX6_plays_193 : decode cX6_plays 193 = .ok (.aload_n 1, 1) := by decide +kernel
theorem dX6_plays_194 : decode cX6_plays 194 = .ok (.invokestatic 90, 3) := by decide +kernel
theorem dX6_plays_197 : decode cX6_plays 197 = .ok (.iload_n 2, 1) := by decide +kernel
theorem dX6_plays_198 : decode cX6_plays 198 = .ok (.ifCond .ge 7, 3) := by decide +kernel
theorem dX6_plays_201 : decode cX6_plays 201 = .ok (.iconst (-1), 1) := by decide +kernel
theorem dX6_plays_202 : decode cX6_plays 202 = .ok (.goto 4, 3) := by decide +kernel
theorem dX6_plays_205 : decode cX6_plays 205 = .ok (.iload_n 3, 1) := by decide +kernel
theorem dX6_plays_206 : decode cX6_plays 206 = .ok (.ireturn, 1) := by decide +kernel
set_option maxRecDepth 20000 in
theorem ggX6_darkens_X6_nextDay : GoodIn wsX6_darkens wsX6_nextDay := goodIn_r _ [4] (by decide +kernel) (by decide +kernel)
set_option maxRecDepth 20000 in
theorem gX6_darkens_X6_nextDay : GoodIn wsX6_darkens (va_wsS RX6 90 yX6_nextDay wsX6_nextDay) := goodIn_app (goodIn_of _ (by decide +kernel)) ggX6_darkens_X6_nextDay
set_option maxRecDepth 20000 in
theorem ggX6_darkens_X6_rests : GoodIn wsX6_darkens wsX6_rests := goodIn_r _ [7] (by decide +kernel) (by decide +kernel)
set_option maxRecDepth 20000 in
theorem gX6_darkens_X6_rests : GoodIn wsX6_darkens (va_wsS RX6 93 yX6_rests wsX6_rests) := goodIn_app (goodIn_of _ (by decide +kernel)) ggX6_darkens_X6_rests
theorem dX6_darkens_0 : decode cX6_darkens 0 = .ok (.iconst 0, 1) := by decide +kernel
theorem dX6_darkens_1 : decode cX6_darkens 1 = .ok (.istore_n 2, 1) := by decide +kernel
theorem dX6_darkens_2 : decode cX6_darkens 2 = .ok (.iload_n 2, 1) := by decide +kernel
theorem dX6_darkens_3 : decode cX6_darkens 3 = .ok (.iload_n 1, 1) := by decide +kernel
theorem dX6_darkens_4 : decode cX6_darkens 4 = .ok (.if_icmp .ge 13, 3) := by decide +kernel
theorem dX6_darkens_7 : decode cX6_darkens 7 = .ok (.aload_n 0, 1) := by decide +kernel
theorem dX6_darkens_8 : decode cX6_darkens 8 = .ok (.invokestatic 90, 3) := by decide +kernel
theorem dX6_darkens_11 : decode cX6_darkens 11 = .ok (.iinc 2 1, 3) := by decide +kernel
theorem dX6_darkens_14 : decode cX6_darkens 14 = .ok (.goto (-12), 3) := by decide +kernel
theorem dX6_darkens_17 : decode cX6_darkens 17 = .ok (.iconst 0, 1) := by decide +kernel
theorem dX6_darkens_18 : decode cX6_darkens 18 = .ok (.istore_n 2, 1) := by decide +kernel
theorem dX6_darkens_19 : decode cX6_darkens 19 = .ok (.iload_n 2, 1) := by decide +kernel
theorem dX6_darkens_20 : decode cX6_darkens 20 = .ok (.aload_n 0, 1) := by decide +kernel
theorem dX6_darkens_21 : decode cX6_darkens 21 = .ok (.iconst 4, 1) := by decide +kernel
theorem dX6_darkens_22 : decode cX6_darkens 22 = .ok (.iaload, 1) := by decide +kernel
theorem dX6_darkens_23 : decode cX6_darkens 23 = .ok (.if_icmp .ge 14, 3) := by decide +kernel
theorem dX6_darkens_26 : decode cX6_darkens 26 = .ok (.aload_n 0, 1) := by decide +kernel
theorem dX6_darkens_27 : decode cX6_darkens 27 = .ok (.iload_n 2, 1) := by decide +kernel
theorem dX6_darkens_28 : decode cX6_darkens 28 = .ok (.invokestatic 93, 3) := by decide +kernel
theorem dX6_darkens_31 : decode cX6_darkens 31 = .ok (.iinc 2 1, 3) := by decide +kernel
theorem dX6_darkens_34 : decode cX6_darkens 34 = .ok (.goto (-15), 3) := by decide +kernel
theorem dX6_darkens_37 : decode cX6_darkens 37 = .ok (.return_, 1) := by decide +kernel
set_option maxRecDepth 20000 in
theorem ggX6_posts_X6_casts : GoodIn wsX6_posts wsX6_casts := goodIn_r _ [6, 7, 1, 8, 9, 5, 10, 11, 12, 13, 14, 15, 16, 17, 18, 19, 20, 21, 22, 23, 24, 25, 26, 27, 28, 29, 30, 31, 32, 33, 34, 35, 36, 37, 38, 39, 40] (by decide +kernel) (by decide +kernel)
set_option maxRecDepth 20000 in
theorem gX6_posts_X6_casts : GoodIn wsX6_posts (wsV RX6 83 RX6 yX6_casts wsX6_casts) := goodIn_app (goodIn_of _ (by decide +kernel)) ggX6_posts_X6_casts
theorem dX6_posts_0 : decode cX6_posts 0 = .ok (.aload_n 0, 1) := by decide +kernel
theorem dX6_posts_1 : decode cX6_posts 1 = .ok (.aload_n 1, 1) := by decide +kernel
theorem dX6_posts_2 : decode cX6_posts 2 = .ok (.invokevirtual 83, 3) := by decide +kernel
theorem dX6_posts_5 : decode cX6_posts 5 = .ok (.istore_n 2, 1) := by decide +kernel
theorem dX6_posts_6 : decode cX6_posts 6 = .ok (.iload_n 2, 1) := by decide +kernel
theorem dX6_posts_7 : decode cX6_posts 7 = .ok (.ifCond .lt 35, 3) := by decide +kernel
theorem dX6_posts_10 : decode cX6_posts 10 = .ok (.aload_n 1, 1) := by decide +kernel
theorem dX6_posts_11 : decode cX6_posts 11 = .ok (.bipush 10, 2) := by decide +kernel
theorem dX6_posts_13 : decode cX6_posts 13 = .ok (.iconst 1, 1) := by decide +kernel
theorem dX6_posts_14 : decode cX6_posts 14 = .ok (.iastore, 1) := by decide +kernel
theorem dX6_posts_15 : decode cX6_posts 15 = .ok (.iconst 0, 1) := by decide +kernel
theorem dX6_posts_16 : decode cX6_posts 16 = .ok (.istore_n 3, 1) := by decide +kernel
theorem dX6_posts_17 : decode cX6_posts 17 = .ok (.iload_n 3, 1) := by decide +kernel
theorem dX6_posts_18 : decode cX6_posts 18 = .ok (.aload_n 1, 1) := by decide +kernel
theorem dX6_posts_19 : decode cX6_posts 19 = .ok (.iconst 3, 1) := by decide +kernel
theorem dX6_posts_20 : decode cX6_posts 20 = .ok (.iaload, 1) := by decide +kernel
theorem dX6_posts_21 : decode cX6_posts 21 = .ok (.if_icmp .ge 21, 3) := by decide +kernel
theorem dX6_posts_24 : decode cX6_posts 24 = .ok (.aload_n 1, 1) := by decide +kernel
theorem dX6_posts_25 : decode cX6_posts 25 = .ok (.bipush 24, 2) := by decide +kernel
theorem dX6_posts_27 : decode cX6_posts 27 = .ok (.iload_n 3, 1) := by decide +kernel
theorem dX6_posts_28 : decode cX6_posts 28 = .ok (.iadd, 1) := by decide +kernel
theorem dX6_posts_29 : decode cX6_posts 29 = .ok (.aload_n 0, 1) := by decide +kernel
theorem dX6_posts_30 : decode cX6_posts 30 = .ok (.getfield 32, 3) := by decide +kernel
theorem dX6_posts_33 : decode cX6_posts 33 = .ok (.iload_n 3, 1) := by decide +kernel
theorem dX6_posts_34 : decode cX6_posts 34 = .ok (.iaload, 1) := by decide +kernel
theorem dX6_posts_35 : decode cX6_posts 35 = .ok (.iastore, 1) := by decide +kernel
theorem dX6_posts_36 : decode cX6_posts 36 = .ok (.iinc 3 1, 3) := by decide +kernel
theorem dX6_posts_39 : decode cX6_posts 39 = .ok (.goto (-22), 3) := by decide +kernel
theorem dX6_posts_42 : decode cX6_posts 42 = .ok (.iload_n 2, 1) := by decide +kernel
theorem dX6_posts_43 : decode cX6_posts 43 = .ok (.ireturn, 1) := by decide +kernel
set_option maxRecDepth 20000 in
theorem ggX6_append_X6_in : GoodIn wsX6_append wsX6_in := goodIn_r _ [7] (by decide +kernel) (by decide +kernel)
set_option maxRecDepth 20000 in
theorem gX6_append_X6_in : GoodIn wsX6_append (va_wsS RX6 46 yX6_in wsX6_in) := goodIn_app (goodIn_of _ (by decide +kernel)) ggX6_append_X6_in
set_option maxRecDepth 20000 in
theorem ggX6_append_X6_fails : GoodIn wsX6_append wsX6_fails := goodIn_r _ [11, 1, 12, 13, 14, 15, 16, 17, 18, 19, 20, 21, 22, 23, 24, 25] (by decide +kernel) (by decide +kernel)
set_option maxRecDepth 20000 in
theorem gX6_append_X6_fails : GoodIn wsX6_append (wsV RX6 57 RX6 yX6_fails wsX6_fails) := goodIn_app (goodIn_of _ (by decide +kernel)) ggX6_append_X6_fails
theorem dX6_append_0 : decode cX6_append 0 = .ok (.aload_n 0, 1) := by decide +kernel
theorem dX6_append_1 : decode cX6_append 1 = .ok (.iconst 0, 1) := by decide +kernel
theorem dX6_append_2 : decode cX6_append 2 = .ok (.putfield 42, 3) := by decide +kernel
theorem dX6_append_5 : decode cX6_append 5 = .ok (.iload_n 1, 1) := by decide +kernel
theorem dX6_append_6 : decode cX6_append 6 = .ok (.iconst 0, 1) := by decide +kernel
theorem dX6_append_7 : decode cX6_append 7 = .ok (.sipush 255, 3) := by decide +kernel
theorem dX6_append_10 : decode cX6_append 10 = .ok (.invokestatic 46, 3) := by decide +kernel
theorem dX6_append_13 : decode cX6_append 13 = .ok (.ifCond .ne 9, 3) := by decide +kernel
theorem dX6_append_16 : decode cX6_append 16 = .ok (.aload_n 0, 1) := by decide +kernel
theorem dX6_append_17 : decode cX6_append 17 = .ok (.iconst 1, 1) := by decide +kernel
theorem dX6_append_18 : decode cX6_append 18 = .ok (.invokevirtual 57, 3) := by decide +kernel
theorem dX6_append_21 : decode cX6_append 21 = .ok (.ireturn, 1) := by decide +kernel
theorem dX6_append_22 : decode cX6_append 22 = .ok (.aload_n 0, 1) := by decide +kernel
theorem dX6_append_23 : decode cX6_append 23 = .ok (.getfield 97, 3) := by decide +kernel
theorem dX6_append_26 : decode cX6_append 26 = .ok (.bipush 120, 2) := by decide +kernel
theorem dX6_append_28 : decode cX6_append 28 = .ok (.if_icmp .ne 9, 3) := by decide +kernel
theorem dX6_append_31 : decode cX6_append 31 = .ok (.aload_n 0, 1) := by decide +kernel
theorem dX6_append_32 : decode cX6_append 32 = .ok (.iconst 2, 1) := by decide +kernel
theorem dX6_append_33 : decode cX6_append 33 = .ok (.invokevirtual 57, 3) := by decide +kernel
theorem dX6_append_36 : decode cX6_append 36 = .ok (.ireturn, 1) := by decide +kernel
theorem dX6_append_37 : decode cX6_append 37 = .ok (.aload_n 0, 1) := by decide +kernel
theorem dX6_append_38 : decode cX6_append 38 = .ok (.getfield 26, 3) := by decide +kernel
theorem dX6_append_41 : decode cX6_append 41 = .ok (.aload_n 0, 1) := by decide +kernel
theorem dX6_append_42 : decode cX6_append 42 = .ok (.getfield 97, 3) := by decide +kernel
theorem dX6_append_45 : decode cX6_append 45 = .ok (.iload_n 1, 1) := by decide +kernel
theorem dX6_append_46 : decode cX6_append 46 = .ok (.iastore, 1) := by decide +kernel
theorem dX6_append_47 : decode cX6_append 47 = .ok (.aload_n 0, 1) := by decide +kernel
theorem dX6_append_48 : decode cX6_append 48 = .ok (.dup, 1) := by decide +kernel
theorem dX6_append_49 : decode cX6_append 49 = .ok (.getfield 97, 3) := by decide +kernel
theorem dX6_append_52 : decode cX6_append 52 = .ok (.iconst 1, 1) := by decide +kernel
theorem dX6_append_53 : decode cX6_append 53 = .ok (.iadd, 1) := by decide +kernel
theorem dX6_append_54 : decode cX6_append 54 = .ok (.putfield 97, 3) := by decide +kernel
theorem dX6_append_57 : decode cX6_append 57 = .ok (.aload_n 0, 1) := by decide +kernel
theorem dX6_append_58 : decode cX6_append 58 = .ok (.getfield 97, 3) := by decide +kernel
theorem dX6_append_61 : decode cX6_append 61 = .ok (.ireturn, 1) := by decide +kernel
theorem dX6_clearText_0 : decode cX6_clearText 0 = .ok (.aload_n 0, 1) := by decide +kernel
theorem dX6_clearText_1 : decode cX6_clearText 1 = .ok (.iconst 0, 1) := by decide +kernel
theorem dX6_clearText_2 : decode cX6_clearText 2 = .ok (.putfield 42, 3) := by decide +kernel
theorem dX6_clearText_5 : decode cX6_clearText 5 = .ok (.aload_n 0, 1) := by decide +kernel
theorem dX6_clearText_6 : decode cX6_clearText 6 = .ok (.getfield 97, 3) := by decide +kernel
theorem dX6_clearText_9 : decode cX6_clearText 9 = .ok (.istore_n 1, 1) := by decide +kernel
theorem dX6_clearText_10 : decode cX6_clearText 10 = .ok (.aload_n 0, 1) := by decide +kernel
theorem dX6_clearText_11 : decode cX6_clearText 11 = .ok (.iconst 0, 1) := by decide +kernel
theorem dX6_clearText_12 : decode cX6_clearText 12 = .ok (.putfield 97, 3) := by decide +kernel
theorem dX6_clearText_15 : decode cX6_clearText 15 = .ok (.iload_n 1, 1) := by decide +kernel
theorem dX6_clearText_16 : decode cX6_clearText 16 = .ok (.ireturn, 1) := by decide +kernel
set_option maxRecDepth 20000 in
theorem ggX6_isAt_X6_in : GoodIn wsX6_isAt wsX6_in := goodIn_r _ [7] (by decide +kernel) (by decide +kernel)
set_option maxRecDepth 20000 in
theorem gX6_isAt_X6_in : GoodIn wsX6_isAt (va_wsS RX6 46 yX6_in wsX6_in) := goodIn_app (goodIn_of _ (by decide +kernel)) ggX6_isAt_X6_in
theorem dX6_isAt_0 : decode cX6_isAt 0 = .ok (.aload_n 0, 1) := by decide +kernel
theorem dX6_isAt_1 : decode cX6_isAt 1 = .ok (.getfield 100, 3) := by decide +kernel
theorem dX6_isAt_4 : decode cX6_isAt 4 = .ok (.aload_n 0, 1) := by decide +kernel
theorem dX6_isAt_5 : decode cX6_isAt 5 = .ok (.getfield 97, 3) := by decide +kernel
theorem dX6_isAt_8 : decode cX6_isAt 8 = .ok (.if_icmp .ge 24, 3) := by decide +kernel
theorem dX6_isAt_11 : decode cX6_isAt 11 = .ok (.aload_n 0, 1) := by decide +kernel
theorem dX6_isAt_12 : decode cX6_isAt 12 = .ok (.getfield 26, 3) := by decide +kernel
theorem dX6_isAt_15 : decode cX6_isAt 15 = .ok (.aload_n 0, 1) := by decide +kernel
theorem dX6_isAt_16 : decode cX6_isAt 16 = .ok (.getfield 100, 3) := by decide +kernel
theorem dX6_isAt_19 : decode cX6_isAt 19 = .ok (.iaload, 1) := by decide +kernel
theorem dX6_isAt_20 : decode cX6_isAt 20 = .ok (.iload_n 1, 1) := by decide +kernel
theorem dX6_isAt_21 : decode cX6_isAt 21 = .ok (.iload_n 2, 1) := by decide +kernel
theorem dX6_isAt_22 : decode cX6_isAt 22 = .ok (.invokestatic 46, 3) := by decide +kernel
theorem dX6_isAt_25 : decode cX6_isAt 25 = .ok (.ifCond .eq 7, 3) := by decide +kernel
theorem dX6_isAt_28 : decode cX6_isAt 28 = .ok (.iconst 1, 1) := by decide +kernel
theorem dX6_isAt_29 : decode cX6_isAt 29 = .ok (.goto 4, 3) := by decide +kernel
theorem dX6_isAt_32 : decode cX6_isAt 32 = .ok (.iconst 0, 1) := by decide +kernel
theorem dX6_isAt_33 : decode cX6_isAt 33 = .ok (.ireturn, 1) := by decide +kernel
set_option maxRecDepth 20000 in
theorem ggX6_isDigit_X6_isAt : GoodIn wsX6_isDigit wsX6_isAt := goodIn_r _ [9, 4, 10, 3, 11, 12, 8, 13, 14, 15, 16, 17, 18, 19, 20, 21, 22, 23, 24, 25, 26, 27] (by decide +kernel) (by decide +kernel)
set_option maxRecDepth 20000 in
theorem gX6_isDigit_X6_isAt : GoodIn wsX6_isDigit (wsV RX6 103 RX6 yX6_isAt wsX6_isAt) := goodIn_app (goodIn_of _ (by decide +kernel)) ggX6_isDigit_X6_isAt
theorem dX6_isDigit_0 : decode cX6_isDigit 0 = .ok (.aload_n 0, 1) := by decide +kernel
theorem dX6_isDigit_1 : decode cX6_isDigit 1 = .ok (.bipush 48, 2) := by decide +kernel
theorem dX6_isDigit_3 : decode cX6_isDigit 3 = .ok (.iload_n 2, 1) := by decide +kernel
theorem dX6_isDigit_4 : decode cX6_isDigit 4 = .ok (.iadd, 1) := by decide +kernel
theorem dX6_isDigit_5 : decode cX6_isDigit 5 = .ok (.bipush 48, 2) := by decide +kernel
theorem dX6_isDigit_7 : decode cX6_isDigit 7 = .ok (.iload_n 3, 1) := by decide +kernel
theorem dX6_isDigit_8 : decode cX6_isDigit 8 = .ok (.iadd, 1) := by decide +kernel
theorem dX6_isDigit_9 : decode cX6_isDigit 9 = .ok (.invokevirtual 103, 3) := by decide +kernel
theorem dX6_isDigit_12 : decode cX6_isDigit 12 = .ok (.istore 4, 2) := by decide +kernel
theorem dX6_isDigit_14 : decode cX6_isDigit 14 = .ok (.iload 4, 2) := by decide +kernel
theorem dX6_isDigit_16 : decode cX6_isDigit 16 = .ok (.ifCond .eq 38, 3) := by decide +kernel
theorem dX6_isDigit_19 : decode cX6_isDigit 19 = .ok (.aload_n 0, 1) := by decide +kernel
theorem dX6_isDigit_20 : decode cX6_isDigit 20 = .ok (.getfield 35, 3) := by decide +kernel
theorem dX6_isDigit_23 : decode cX6_isDigit 23 = .ok (.iconst 4, 1) := by decide +kernel
theorem dX6_isDigit_24 : decode cX6_isDigit 24 = .ok (.aload_n 0, 1) := by decide +kernel
theorem dX6_isDigit_25 : decode cX6_isDigit 25 = .ok (.getfield 107, 3) := by decide +kernel
theorem dX6_isDigit_28 : decode cX6_isDigit 28 = .ok (.imul, 1) := by decide +kernel
theorem dX6_isDigit_29 : decode cX6_isDigit 29 = .ok (.iload_n 1, 1) := by decide +kernel
theorem dX6_isDigit_30 : decode cX6_isDigit 30 = .ok (.iadd, 1) := by decide +kernel
theorem dX6_isDigit_31 : decode cX6_isDigit 31 = .ok (.aload_n 0, 1) := by decide +kernel
theorem dX6_isDigit_32 : decode cX6_isDigit 32 = .ok (.getfield 26, 3) := by decide +kernel
theorem dX6_isDigit_35 : decode cX6_isDigit 35 = .ok (.aload_n 0, 1) := by decide +kernel
theorem dX6_isDigit_36 : decode cX6_isDigit 36 = .ok (.getfield 100, 3) := by decide +kernel
theorem dX6_isDigit_39 : decode cX6_isDigit 39 = .ok (.iaload, 1) := by decide +kernel
theorem dX6_isDigit_40 : decode cX6_isDigit 40 = .ok (.bipush 48, 2) := by decide +kernel
theorem dX6_isDigit_42 : decode cX6_isDigit 42 = .ok (.isub, 1) := by decide +kernel
theorem dX6_isDigit_43 : decode cX6_isDigit 43 = .ok (.iastore, 1) := by decide +kernel
theorem dX6_isDigit_44 : decode cX6_isDigit 44 = .ok (.aload_n 0, 1) := by decide +kernel
theorem dX6_isDigit_45 : decode cX6_isDigit 45 = .ok (.dup, 1) := by decide +kernel
theorem dX6_isDigit_46 : decode cX6_isDigit 46 = .ok (.getfield 100, 3) := by decide +kernel
theorem dX6_isDigit_49 : decode cX6_isDigit 49 = .ok (.iconst 1, 1) := by decide +kernel
theorem dX6_isDigit_50 : decode cX6_isDigit 50 = .ok (.iadd, 1) := by decide +kernel
theorem dX6_isDigit_51 : decode cX6_isDigit 51 = .ok (.putfield 100, 3) := by decide +kernel
theorem dX6_isDigit_54 : decode cX6_isDigit 54 = .ok (.iload 4, 2) := by decide +kernel
theorem dX6_isDigit_56 : decode cX6_isDigit 56 = .ok (.ireturn, 1) := by decide +kernel
set_option maxRecDepth 20000 in
theorem ggX6_isCommand_X6_isDigit : GoodIn wsX6_isCommand wsX6_isDigit := goodIn_r _ [9, 3, 4, 1, 2, 10, 11, 12, 8, 13, 14, 15, 16, 17, 18, 19, 20, 21, 22, 23, 24, 25, 26, 27, 28, 29, 30, 31] (by decide +kernel) (by decide +kernel)
set_option maxRecDepth 20000 in
theorem gX6_isCommand_X6_isDigit : GoodIn wsX6_isCommand (wsV RX6 110 RX6 yX6_isDigit wsX6_isDigit) := goodIn_app (goodIn_of _ (by decide +kernel)) ggX6_isCommand_X6_isDigit
theorem dX6_isCommand_0 : decode cX6_isCommand 0 = .ok (.aload_n 0, 1) := by decide +kernel
theorem dX6_isCommand_1 : decode cX6_isCommand 1 = .ok (.getfield 26, 3) := by decide +kernel
theorem dX6_isCommand_4 : decode cX6_isCommand 4 = .ok (.aload_n 0, 1) := by decide +kernel
theorem dX6_isCommand_5 : decode cX6_isCommand 5 = .ok (.getfield 100, 3) := by decide +kernel
theorem dX6_isCommand_8 : decode cX6_isCommand 8 = .ok (.iaload, 1) := by decide +kernel
theorem dX6_isCommand_9 : decode cX6_isCommand 9 = .ok (.istore_n 1, 1) := by decide +kernel
theorem dX6_isCommand_10 : decode cX6_isCommand 10 = .ok (.aload_n 0, 1) := by decide +kernel
theorem dX6_isCommand_11 : decode cX6_isCommand 11 = .ok (.getfield 35, 3) := by decide +kernel
theorem dX6_isCommand_14 : decode cX6_isCommand 14 = .ok (.iconst 4, 1) := by decide +kernel
theorem dX6_isCommand_15 : decode cX6_isCommand 15 = .ok (.aload_n 0, 1) := by decide +kernel
theorem dX6_isCommand_16 : decode cX6_isCommand 16 = .ok (.getfield 107, 3) := by decide +kernel
theorem dX6_isCommand_19 : decode cX6_isCommand 19 = .ok (.imul, 1) := by decide +kernel
theorem dX6_isCommand_20 : decode cX6_isCommand 20 = .ok (.iload_n 1, 1) := by decide +kernel
theorem dX6_isCommand_21 : decode cX6_isCommand 21 = .ok (.iastore, 1) := by decide +kernel
theorem dX6_isCommand_22 : decode cX6_isCommand 22 = .ok (.iload_n 1, 1) := by decide +kernel
theorem dX6_isCommand_23 : decode cX6_isCommand 23 = .ok (.bipush 114, 2) := by decide +kernel
theorem dX6_isCommand_25 : decode cX6_isCommand 25 = .ok (.if_icmp .eq 39, 3) := by decide +kernel
theorem dX6_isCommand_28 : decode cX6_isCommand 28 = .ok (.iload_n 1, 1) := by decide +kernel
theorem dX6_isCommand_29 : decode cX6_isCommand 29 = .ok (.bipush 112, 2) := by decide +kernel
theorem dX6_isCommand_31 : decode cX6_isCommand 31 = .ok (.if_icmp .eq 33, 3) := by decide +kernel
theorem dX6_isCommand_34 : decode cX6_isCommand 34 = .ok (.iload_n 1, 1) := by decide +kernel
theorem dX6_isCommand_35 : decode cX6_isCommand 35 = .ok (.bipush 121, 2) := by decide +kernel
theorem dX6_isCommand_37 : decode cX6_isCommand 37 = .ok (.if_icmp .eq 27, 3) := by decide +kernel
theorem dX6_isCommand_40 : decode cX6_isCommand 40 = .ok (.iload_n 1, 1) := by decide +kernel
theorem dX6_isCommand_41 : decode cX6_isCommand 41 = .ok (.bipush 102, 2) := by decide +kernel
theorem dX6_isCommand_43 : decode cX6_isCommand 43 = .ok (.if_icmp .eq 21, 3) := by decide +kernel
theorem dX6_isCommand_46 : decode cX6_isCommand 46 = .ok (.iload_n 1, 1) := by decide +kernel
theorem dX6_isCommand_47 : decode cX6_isCommand 47 = .ok (.bipush 97, 2) := by decide +kernel
theorem dX6_isCommand_49 : decode cX6_isCommand 49 = .ok (.if_icmp .eq 15, 3) := by decide +kernel
theorem dX6_isCommand_52 : decode cX6_isCommand 52 = .ok (.iload_n 1, 1) := by decide +kernel
theorem dX6_isCommand_53 : decode cX6_isCommand 53 = .ok (.bipush 100, 2) := by decide +kernel
theorem dX6_isCommand_55 : decode cX6_isCommand 55 = .ok (.if_icmp .eq 9, 3) := by decide +kernel
theorem dX6_isCommand_58 : decode cX6_isCommand 58 = .ok (.iload_n 1, 1) := by decide +kernel
theorem dX6_isCommand_59 : decode cX6_isCommand 59 = .ok (.bipush 103, 2) := by decide +kernel
theorem dX6_isCommand_61 : decode cX6_isCommand 61 = .ok (.if_icmp .ne 7, 3) := by decide +kernel
theorem dX6_isCommand_64 : decode cX6_isCommand 64 = .ok (.iconst 1, 1) := by decide +kernel
theorem dX6_isCommand_65 : decode cX6_isCommand 65 = .ok (.goto 4, 3) := by decide +kernel
theorem dX6_isCommand_68 : decode cX6_isCommand 68 = .ok (.iconst 0, 1) := by decide +kernel
theorem dX6_isCommand_69 : decode cX6_isCommand 69 = .ok (.istore_n 2, 1) := by decide +kernel
theorem dX6_isCommand_70 : decode cX6_isCommand 70 = .ok (.aload_n 0, 1) := by decide +kernel
theorem dX6_isCommand_71 : decode cX6_isCommand 71 = .ok (.dup, 1) := by decide +kernel
theorem dX6_isCommand_72 : decode cX6_isCommand 72 = .ok (.getfield 100, 3) := by decide +kernel
theorem dX6_isCommand_75 : decode cX6_isCommand 75 = .ok (.iload_n 2, 1) := by decide +kernel
theorem dX6_isCommand_76 : decode cX6_isCommand 76 = .ok (.ifCond .eq 7, 3) := by decide +kernel
theorem dX6_isCommand_79 : decode cX6_isCommand 79 = .ok (.iconst 1, 1) := by decide +kernel
theorem dX6_isCommand_80 : decode cX6_isCommand 80 = .ok (.goto 4, 3) := by decide +kernel
theorem dX6_isCommand_83 : decode cX6_isCommand 83 = .ok (.iconst 0, 1) := by decide +kernel
theorem dX6_isCommand_84 : decode cX6_isCommand 84 = .ok (.iadd, 1) := by decide +kernel
theorem dX6_isCommand_85 : decode cX6_isCommand 85 = .ok (.putfield 100, 3) := by decide +kernel
theorem dX6_isCommand_88 : decode cX6_isCommand 88 = .ok (.iload_n 1, 1) := by decide +kernel
theorem dX6_isCommand_89 : decode cX6_isCommand 89 = .ok (.bipush 114, 2) := by decide +kernel
theorem dX6_isCommand_91 : decode cX6_isCommand 91 = .ok (.if_icmp .eq 9, 3) := by decide +kernel
theorem dX6_isCommand_94 : decode cX6_isCommand 94 = .ok (.iload_n 1, 1) := by decide +kernel
theorem dX6_isCommand_95 : decode cX6_isCommand 95 = .ok (.bipush 100, 2) := by decide +kernel
theorem dX6_isCommand_97 : decode cX6_isCommand 97 = .ok (.if_icmp .ne 12, 3) := by decide +kernel
theorem dX6_isCommand_100 : decode cX6_isCommand 100 = .ok (.aload_n 0, 1) := by decide +kernel
theorem dX6_isCommand_101 : decode cX6_isCommand 101 = .ok (.iconst 1, 1) := by decide +kernel
theorem dX6_isCommand_102 : decode cX6_isCommand 102 = .ok (.iconst 1, 1) := by decide +kernel
theorem dX6_isCommand_103 : decode cX6_isCommand 103 = .ok (.bipush 9, 2) := by decide +kernel
theorem dX6_isCommand_105 : decode cX6_isCommand 105 = .ok (.invokevirtual 110, 3) := by decide +kernel
theorem dX6_isCommand_108 : decode cX6_isCommand 108 = .ok (.ireturn, 1) := by decide +kernel
theorem dX6_isCommand_109 : decode cX6_isCommand 109 = .ok (.iload_n 1, 1) := by decide +kernel
theorem dX6_isCommand_110 : decode cX6_isCommand 110 = .ok (.bipush 121, 2) := by decide +kernel
theorem dX6_isCommand_112 : decode cX6_isCommand 112 = .ok (.if_icmp .ne 41, 3) := by decide +kernel
theorem dX6_isCommand_115 : decode cX6_isCommand 115 = .ok (.aload_n 0, 1) := by decide +kernel
theorem dX6_isCommand_116 : decode cX6_isCommand 116 = .ok (.iconst 1, 1) := by decide +kernel
theorem dX6_isCommand_117 : decode cX6_isCommand 117 = .ok (.iconst 0, 1) := by decide +kernel
theorem dX6_isCommand_118 : decode cX6_isCommand 118 = .ok (.bipush 9, 2) := by decide +kernel
theorem dX6_isCommand_120 : decode cX6_isCommand 120 = .ok (.invokevirtual 110, 3) := by decide +kernel
theorem dX6_isCommand_123 : decode cX6_isCommand 123 = .ok (.ifCond .eq 28, 3) := by decide +kernel
theorem dX6_isCommand_126 : decode cX6_isCommand 126 = .ok (.aload_n 0, 1) := by decide +kernel
theorem dX6_isCommand_127 : decode cX6_isCommand 127 = .ok (.iconst 2, 1) := by decide +kernel
theorem dX6_isCommand_128 : decode cX6_isCommand 128 = .ok (.iconst 0, 1) := by decide +kernel
theorem dX6_isCommand_129 : decode cX6_isCommand 129 = .ok (.iconst 5, 1) := by decide +kernel
theorem dX6_isCommand_130 : decode cX6_isCommand 130 = .ok (.invokevirtual 110, 3) := by decide +kernel
theorem dX6_isCommand_133 : decode cX6_isCommand 133 = .ok (.ifCond .eq 18, 3) := by decide +kernel
theorem dX6_isCommand_136 : decode cX6_isCommand 136 = .ok (.aload_n 0, 1) := by decide +kernel
theorem dX6_isCommand_137 : decode cX6_isCommand 137 = .ok (.iconst 3, 1) := by decide +kernel
theorem dX6_isCommand_138 : decode cX6_isCommand 138 = .ok (.iconst 0, 1) := by decide +kernel
theorem dX6_isCommand_139 : decode cX6_isCommand 139 = .ok (.bipush 9, 2) := by decide +kernel
theorem dX6_isCommand_141 : decode cX6_isCommand 141 = .ok (.invokevirtual 110, 3) := by decide +kernel
theorem dX6_isCommand_144 : decode cX6_isCommand 144 = .ok (.ifCond .eq 7, 3) := by decide +kernel
theorem dX6_isCommand_147 : decode cX6_isCommand 147 = .ok (.iconst 1, 1) := by decide +kernel
theorem dX6_isCommand_148 : decode cX6_isCommand 148 = .ok (.goto 4, 3) := by decide +kernel
theorem dX6_isCommand_151 : decode cX6_isCommand 151 = .ok (.iconst 0, 1) := by decide +kernel
theorem dX6_isCommand_152 : decode cX6_isCommand 152 = .ok (.ireturn, 1) := by decide +kernel
theorem dX6_isCommand_153 : decode cX6_isCommand 153 = .ok (.iload_n 1, 1) := by decide +kernel
theorem dX6_isCommand_154 : decode cX6_isCommand 154 = .ok (.bipush 102, 2) := by decide +kernel
theorem dX6_isCommand_156 : decode cX6_isCommand 156 = .ok (.if_icmp .ne 30, 3) := by decide +kernel
theorem dX6_isCommand_159 : decode cX6_isCommand 159 = .ok (.aload_n 0, 1) := by decide +kernel
theorem dX6_isCommand_160 : decode cX6_isCommand 160 = .ok (.iconst 1, 1) := by decide +kernel
theorem dX6_isCommand_161 : decode cX6_isCommand 161 = .ok (.iconst 0, 1) := by decide +kernel
theorem dX6_isCommand_162 : decode cX6_isCommand 162 = .ok (.iconst 5, 1) := by decide +kernel
theorem dX6_isCommand_163 : decode cX6_isCommand 163 = .ok (.invokevirtual 110, 3) := by decide +kernel
theorem dX6_isCommand_166 : decode cX6_isCommand 166 = .ok (.ifCond .eq 18, 3) := by decide +kernel
theorem dX6_isCommand_169 : decode cX6_isCommand 169 = .ok (.aload_n 0, 1) := by decide +kernel
theorem dX6_isCommand_170 : decode cX6_isCommand 170 = .ok (.iconst 2, 1) := by decide +kernel
theorem dX6_isCommand_171 : decode cX6_isCommand 171 = .ok (.iconst 0, 1) := by decide +kernel
theorem dX6_isCommand_172 : decode cX6_isCommand 172 = .ok (.bipush 9, 2) := by decide +kernel
theorem dX6_isCommand_174 : decode cX6_isCommand 174 = .ok (.invokevirtual 110, 3) := by decide +kernel
theorem dX6_isCommand_177 : decode cX6_isCommand 177 = .ok (.ifCond .eq 7, 3) := by decide +kernel
theorem dX6_isCommand_180 : decode cX6_isCommand 180 = .ok (.iconst 1, 1) := by decide +kernel
theorem dX6_isCommand_181 : decode cX6_isCommand 181 = .ok (.goto 4, 3) := by decide +kernel
theorem dX6_isCommand_184 : decode cX6_isCommand 184 = .ok (.iconst 0, 1) := by decide +kernel
theorem dX6_isCommand_185 : decode cX6_isCommand 185 = .ok (.ireturn, 1) := by decide +kernel
theorem dX6_isCommand_186 : decode cX6_isCommand 186 = .ok (.iload_n 2, 1) := by decide +kernel
theorem dX6_isCommand_187 : decode cX6_isCommand 187 = .ok (.ifCond .eq 35, 3) := by decide +kernel
theorem dX6_isCommand_190 : decode cX6_isCommand 190 = .ok (.iload_n 1, 1) := by decide +kernel
theorem dX6_isCommand_191 : decode cX6_isCommand 191 = .ok (.bipush 97, 2) := by decide +kernel
theorem dX6_isCommand_193 : decode cX6_isCommand 193 = .ok (.if_icmp .ne 25, 3) := by decide +kernel
theorem dX6_isCommand_196 : decode cX6_isCommand 196 = .ok (.aload_n 0, 1) := by decide +kernel
theorem dX6_isCommand_197 : decode cX6_isCommand 197 = .ok (.iconst 1, 1) := by decide +kernel
theorem dX6_isCommand_198 : decode cX6_isCommand 198 = .ok (.iconst 0, 1) := by decide +kernel
theorem dX6_isCommand_199 : decode cX6_isCommand 199 = .ok (.bipush 9, 2) := by decide +kernel
theorem dX6_isCommand_201 : decode cX6_isCommand 201 = .ok (.invokevirtual 110, 3) := by decide +kernel
theorem dX6_isCommand_204 : decode cX6_isCommand 204 = .ok (.ifCond .eq 18, 3) := by decide +kernel
theorem dX6_isCommand_207 : decode cX6_isCommand 207 = .ok (.aload_n 0, 1) := by decide +kernel
theorem dX6_isCommand_208 : decode cX6_isCommand 208 = .ok (.iconst 2, 1) := by decide +kernel
theorem dX6_isCommand_209 : decode cX6_isCommand 209 = .ok (.iconst 1, 1) := by decide +kernel
theorem dX6_isCommand_210 : decode cX6_isCommand 210 = .ok (.bipush 9, 2) := by decide +kernel
theorem dX6_isCommand_212 : decode cX6_isCommand 212 = .ok (.invokevirtual 110, 3) := by decide +kernel
theorem dX6_isCommand_215 : decode cX6_isCommand 215 = .ok (.ifCond .eq 7, 3) := by decide +kernel
theorem dX6_isCommand_218 : decode cX6_isCommand 218 = .ok (.iconst 1, 1) := by decide +kernel
theorem dX6_isCommand_219 : decode cX6_isCommand 219 = .ok (.goto 4, 3) := by decide +kernel
theorem dX6_isCommand_222 : decode cX6_isCommand 222 = .ok (.iconst 0, 1) := by decide +kernel
theorem dX6_isCommand_223 : decode cX6_isCommand 223 = .ok (.ireturn, 1) := by decide +kernel
set_option maxRecDepth 20000 in
theorem ggX6_isHouse_X6_isAt : GoodIn wsX6_isHouse wsX6_isAt := goodIn_r _ [8, 1, 3, 9, 10, 11, 7, 12, 22, 23, 24, 25, 26, 27, 28, 29, 30, 31, 32, 33, 34, 35] (by decide +kernel) (by decide +kernel)
set_option maxRecDepth 20000 in
theorem gX6_isHouse_X6_isAt : GoodIn wsX6_isHouse (wsV RX6 103 RX6 yX6_isAt wsX6_isAt) := goodIn_app (goodIn_of _ (by decide +kernel)) ggX6_isHouse_X6_isAt
set_option maxRecDepth 20000 in
theorem ggX6_isHouse_X6_isCommand : GoodIn wsX6_isHouse wsX6_isCommand := goodIn_r _ [16, 9, 1, 17, 2, 18, 19, 20, 7, 21, 4, 5, 6, 8, 3, 10, 11, 12, 22, 23, 24, 25, 26, 27, 28, 29, 30, 31, 32, 33, 34, 35] (by decide +kernel) (by decide +kernel)
set_option maxRecDepth 20000 in
theorem gX6_isHouse_X6_isCommand : GoodIn wsX6_isHouse (wsV RX6 113 RX6 yX6_isCommand wsX6_isCommand) := goodIn_app (goodIn_of _ (by decide +kernel)) ggX6_isHouse_X6_isCommand
theorem dX6_isHouse_0 : decode cX6_isHouse 0 = .ok (.aload_n 0, 1) := by decide +kernel
theorem dX6_isHouse_1 : decode cX6_isHouse 1 = .ok (.iconst 0, 1) := by decide +kernel
theorem dX6_isHouse_2 : decode cX6_isHouse 2 = .ok (.putfield 100, 3) := by decide +kernel
theorem dX6_isHouse_5 : decode cX6_isHouse 5 = .ok (.aload_n 0, 1) := by decide +kernel
theorem dX6_isHouse_6 : decode cX6_isHouse 6 = .ok (.iconst 0, 1) := by decide +kernel
theorem dX6_isHouse_7 : decode cX6_isHouse 7 = .ok (.putfield 107, 3) := by decide +kernel
theorem dX6_isHouse_10 : decode cX6_isHouse 10 = .ok (.aload_n 0, 1) := by decide +kernel
theorem dX6_isHouse_11 : decode cX6_isHouse 11 = .ok (.bipush 72, 2) := by decide +kernel
theorem dX6_isHouse_13 : decode cX6_isHouse 13 = .ok (.bipush 72, 2) := by decide +kernel
theorem dX6_isHouse_15 : decode cX6_isHouse 15 = .ok (.invokevirtual 103, 3) := by decide +kernel
theorem dX6_isHouse_18 : decode cX6_isHouse 18 = .ok (.ifCond .ne 5, 3) := by decide +kernel
theorem dX6_isHouse_21 : decode cX6_isHouse 21 = .ok (.iconst 0, 1) := by decide +kernel
theorem dX6_isHouse_22 : decode cX6_isHouse 22 = .ok (.ireturn, 1) := by decide +kernel
theorem dX6_isHouse_23 : decode cX6_isHouse 23 = .ok (.aload_n 0, 1) := by decide +kernel
theorem dX6_isHouse_24 : decode cX6_isHouse 24 = .ok (.dup, 1) := by decide +kernel
theorem dX6_isHouse_25 : decode cX6_isHouse 25 = .ok (.getfield 100, 3) := by decide +kernel
theorem dX6_isHouse_28 : decode cX6_isHouse 28 = .ok (.iconst 1, 1) := by decide +kernel
theorem dX6_isHouse_29 : decode cX6_isHouse 29 = .ok (.iadd, 1) := by decide +kernel
theorem dX6_isHouse_30 : decode cX6_isHouse 30 = .ok (.putfield 100, 3) := by decide +kernel
theorem dX6_isHouse_33 : decode cX6_isHouse 33 = .ok (.aload_n 0, 1) := by decide +kernel
theorem dX6_isHouse_34 : decode cX6_isHouse 34 = .ok (.getfield 100, 3) := by decide +kernel
theorem dX6_isHouse_37 : decode cX6_isHouse 37 = .ok (.aload_n 0, 1) := by decide +kernel
theorem dX6_isHouse_38 : decode cX6_isHouse 38 = .ok (.getfield 97, 3) := by decide +kernel
theorem dX6_isHouse_41 : decode cX6_isHouse 41 = .ok (.if_icmp .ge 25, 3) := by decide +kernel
theorem dX6_isHouse_44 : decode cX6_isHouse 44 = .ok (.aload_n 0, 1) := by decide +kernel
theorem dX6_isHouse_45 : decode cX6_isHouse 45 = .ok (.invokevirtual 113, 3) := by decide +kernel
theorem dX6_isHouse_48 : decode cX6_isHouse 48 = .ok (.ifCond .ne 5, 3) := by decide +kernel
theorem dX6_isHouse_51 : decode cX6_isHouse 51 = .ok (.iconst 0, 1) := by decide +kernel
theorem dX6_isHouse_52 : decode cX6_isHouse 52 = .ok (.ireturn, 1) := by decide +kernel
theorem dX6_isHouse_53 : decode cX6_isHouse 53 = .ok (.aload_n 0, 1) := by decide +kernel
theorem dX6_isHouse_54 : decode cX6_isHouse 54 = .ok (.dup, 1) := by decide +kernel
theorem dX6_isHouse_55 : decode cX6_isHouse 55 = .ok (.getfield 107, 3) := by decide +kernel
theorem dX6_isHouse_58 : decode cX6_isHouse 58 = .ok (.iconst 1, 1) := by decide +kernel
theorem dX6_isHouse_59 : decode cX6_isHouse 59 = .ok (.iadd, 1) := by decide +kernel
theorem dX6_isHouse_60 : decode cX6_isHouse 60 = .ok (.putfield 107, 3) := by decide +kernel
theorem dX6_isHouse_63 : decode cX6_isHouse 63 = .ok (.goto (-30), 3) := by decide +kernel
theorem dX6_isHouse_66 : decode cX6_isHouse 66 = .ok (.iconst 1, 1) := by decide +kernel
theorem dX6_isHouse_67 : decode cX6_isHouse 67 = .ok (.ireturn, 1) := by decide +kernel
set_option maxRecDepth 20000 in
theorem ggX6_errorPosition_X6_isHouse : GoodIn wsX6_errorPosition wsX6_isHouse := goodIn_r _ [7, 2, 8, 9, 10, 11, 12, 6, 13, 14, 15, 16, 17, 18, 19, 20, 21, 22, 23, 24, 25, 26, 27, 28, 29, 30, 31, 32, 33, 34, 35, 36, 37, 38, 39, 40] (by decide +kernel) (by decide +kernel)
set_option maxRecDepth 20000 in
theorem gX6_errorPosition_X6_isHouse : GoodIn wsX6_errorPosition (wsV RX6 117 RX6 yX6_isHouse wsX6_isHouse) := goodIn_app (goodIn_of _ (by decide +kernel)) ggX6_errorPosition_X6_isHouse
theorem dX6_errorPosition_0 : decode cX6_errorPosition 0 = .ok (.aload_n 0, 1) := by decide +kernel
theorem dX6_errorPosition_1 : decode cX6_errorPosition 1 = .ok (.iconst 0, 1) := by decide +kernel
theorem dX6_errorPosition_2 : decode cX6_errorPosition 2 = .ok (.putfield 42, 3) := by decide +kernel
theorem dX6_errorPosition_5 : decode cX6_errorPosition 5 = .ok (.aload_n 0, 1) := by decide +kernel
theorem dX6_errorPosition_6 : decode cX6_errorPosition 6 = .ok (.invokevirtual 117, 3) := by decide +kernel
theorem dX6_errorPosition_9 : decode cX6_errorPosition 9 = .ok (.ifCond .eq 7, 3) := by decide +kernel
theorem dX6_errorPosition_12 : decode cX6_errorPosition 12 = .ok (.iconst (-1), 1) := by decide +kernel
theorem dX6_errorPosition_13 : decode cX6_errorPosition 13 = .ok (.goto 7, 3) := by decide +kernel
theorem dX6_errorPosition_16 : decode cX6_errorPosition 16 = .ok (.aload_n 0, 1) := by decide +kernel
theorem dX6_errorPosition_17 : decode cX6_errorPosition 17 = .ok (.getfield 100, 3) := by decide +kernel
theorem dX6_errorPosition_20 : decode cX6_errorPosition 20 = .ok (.ireturn, 1) := by decide +kernel
set_option maxRecDepth 20000 in
theorem ggX6_isDone_X6_comes : GoodIn wsX6_isDone wsX6_comes := goodIn_r _ [7, 2, 58, 59, 60, 61, 62, 63, 64, 65, 66, 67, 68, 69, 70, 71] (by decide +kernel) (by decide +kernel)
set_option maxRecDepth 20000 in
theorem gX6_isDone_X6_comes : GoodIn wsX6_isDone (wsV RX6 120 RX6 yX6_comes wsX6_comes) := goodIn_app (goodIn_of _ (by decide +kernel)) ggX6_isDone_X6_comes
set_option maxRecDepth 20000 in
theorem ggX6_isDone_X6_darkens : GoodIn wsX6_isDone wsX6_darkens := goodIn_r _ [10, 11, 12, 6, 13, 14, 15, 16] (by decide +kernel) (by decide +kernel)
set_option maxRecDepth 20000 in
theorem gX6_isDone_X6_darkens : GoodIn wsX6_isDone (va_wsS RX6 124 yX6_darkens wsX6_darkens) := goodIn_app (goodIn_of _ (by decide +kernel)) ggX6_isDone_X6_darkens
set_option maxRecDepth 20000 in
theorem ggX6_isDone_X6_plays : GoodIn wsX6_isDone wsX6_plays := goodIn_r _ [20, 21, 22, 23, 24, 6, 25, 26, 27, 28, 29, 30, 31, 32, 33, 34, 35, 36, 37, 38, 39, 40, 41, 42, 43, 44, 45, 46, 47, 48, 11, 12, 13, 58, 59, 60, 61, 62, 63, 64, 65, 66, 67, 68, 69, 70, 71] (by decide +kernel) (by decide +kernel)
set_option maxRecDepth 20000 in
theorem gX6_isDone_X6_plays : GoodIn wsX6_isDone (wsV RX6 127 RX6 yX6_plays wsX6_plays) := goodIn_app (goodIn_of _ (by decide +kernel)) ggX6_isDone_X6_plays
set_option maxRecDepth 20000 in
theorem ggX6_isDone_X6_isRole : GoodIn wsX6_isDone wsX6_isRole := goodIn_r _ [51, 52, 53, 6, 54] (by decide +kernel) (by decide +kernel)
set_option maxRecDepth 20000 in
theorem gX6_isDone_X6_isRole : GoodIn wsX6_isDone (va_wsS RX6 130 yX6_isRole wsX6_isRole) := goodIn_app (goodIn_of _ (by decide +kernel)) ggX6_isDone_X6_isRole
set_option maxRecDepth 20000 in
theorem ggX6_isDone_X6_isPlayer : GoodIn wsX6_isDone wsX6_isPlayer := goodIn_r _ [57, 52, 53, 6, 54] (by decide +kernel) (by decide +kernel)
set_option maxRecDepth 20000 in
theorem gX6_isDone_X6_isPlayer : GoodIn wsX6_isDone (va_wsS RX6 133 yX6_isPlayer wsX6_isPlayer) := goodIn_app (goodIn_of _ (by decide +kernel)) ggX6_isDone_X6_isPlayer
theorem dX6_isDone_0 : decode cX6_isDone 0 = .ok (.aload_n 0, 1) := by decide +kernel
theorem dX6_isDone_1 : decode cX6_isDone 1 = .ok (.getfield 35, 3) := by decide +kernel
theorem dX6_isDone_4 : decode cX6_isDone 4 = .ok (.iconst 4, 1) := by decide +kernel
theorem dX6_isDone_5 : decode cX6_isDone 5 = .ok (.iload_n 1, 1) := by decide +kernel
theorem dX6_isDone_6 : decode cX6_isDone 6 = .ok (.imul, 1) := by decide +kernel
theorem dX6_isDone_7 : decode cX6_isDone 7 = .ok (.iaload, 1) := by decide +kernel
theorem dX6_isDone_8 : decode cX6_isDone 8 = .ok (.istore_n 2, 1) := by decide +kernel
theorem dX6_isDone_9 : decode cX6_isDone 9 = .ok (.aload_n 0, 1) := by decide +kernel
theorem dX6_isDone_10 : decode cX6_isDone 10 = .ok (.getfield 35, 3) := by decide +kernel
theorem dX6_isDone_13 : decode cX6_isDone 13 = .ok (.iconst 4, 1) := by decide +kernel
theorem dX6_isDone_14 : decode cX6_isDone 14 = .ok (.iload_n 1, 1) := by decide +kernel
theorem dX6_isDone_15 : decode cX6_isDone 15 = .ok (.imul, 1) := by decide +kernel
theorem dX6_isDone_16 : decode cX6_isDone 16 = .ok (.iconst 1, 1) := by decide +kernel
theorem dX6_isDone_17 : decode cX6_isDone 17 = .ok (.iadd, 1) := by decide +kernel
theorem dX6_isDone_18 : decode cX6_isDone 18 = .ok (.iaload, 1) := by decide +kernel
theorem dX6_isDone_19 : decode cX6_isDone 19 = .ok (.istore_n 3, 1) := by decide +kernel
theorem dX6_isDone_20 : decode cX6_isDone 20 = .ok (.aload_n 0, 1) := by decide +kernel
theorem dX6_isDone_21 : decode cX6_isDone 21 = .ok (.getfield 35, 3) := by decide +kernel
theorem dX6_isDone_24 : decode cX6_isDone 24 = .ok (.iconst 4, 1) := by decide +kernel
theorem dX6_isDone_25 : decode cX6_isDone 25 = .ok (.iload_n 1, 1) := by decide +kernel
theorem dX6_isDone_26 : decode cX6_isDone 26 = .ok (.imul, 1) := by decide +kernel
theorem dX6_isDone_27 : decode cX6_isDone 27 = .ok (.iconst 2, 1) := by decide +kernel
theorem dX6_isDone_28 : decode cX6_isDone 28 = .ok (.iadd, 1) := by decide +kernel
theorem dX6_isDone_29 : decode cX6_isDone 29 = .ok (.iaload, 1) := by decide +kernel
theorem dX6_isDone_30 : decode cX6_isDone 30 = .ok (.istore 4, 2) := by decide +kernel
theorem dX6_isDone_32 : decode cX6_isDone 32 = .ok (.iload_n 2, 1) := by decide +kernel
theorem dX6_isDone_33 : decode cX6_isDone 33 = .ok (.bipush 114, 2) := by decide +kernel
theorem dX6_isDone_35 : decode cX6_isDone 35 = .ok (.if_icmp .ne 34, 3) := by decide +kernel
theorem dX6_isDone_38 : decode cX6_isDone 38 = .ok (.aload_n 0, 1) := by decide +kernel
theorem dX6_isDone_39 : decode cX6_isDone 39 = .ok (.getfield 7, 3) := by decide +kernel
theorem dX6_isDone_42 : decode cX6_isDone 42 = .ok (.iconst 3, 1) := by decide +kernel
theorem dX6_isDone_43 : decode cX6_isDone 43 = .ok (.iaload, 1) := by decide +kernel
theorem dX6_isDone_44 : decode cX6_isDone 44 = .ok (.bipush 6, 2) := by decide +kernel
theorem dX6_isDone_46 : decode cX6_isDone 46 = .ok (.if_icmp .ge 7, 3) := by decide +kernel
theorem dX6_isDone_49 : decode cX6_isDone 49 = .ok (.iconst 1, 1) := by decide +kernel
theorem dX6_isDone_50 : decode cX6_isDone 50 = .ok (.goto 4, 3) := by decide +kernel
theorem dX6_isDone_53 : decode cX6_isDone 53 = .ok (.iconst 0, 1) := by decide +kernel
theorem dX6_isDone_54 : decode cX6_isDone 54 = .ok (.istore 5, 2) := by decide +kernel
theorem dX6_isDone_56 : decode cX6_isDone 56 = .ok (.iload 5, 2) := by decide +kernel
theorem dX6_isDone_58 : decode cX6_isDone 58 = .ok (.ifCond .eq 8, 3) := by decide +kernel
theorem dX6_isDone_61 : decode cX6_isDone 61 = .ok (.aload_n 0, 1) := by decide +kernel
theorem dX6_isDone_62 : decode cX6_isDone 62 = .ok (.iload_n 3, 1) := by decide +kernel
theorem dX6_isDone_63 : decode cX6_isDone 63 = .ok (.invokevirtual 120, 3) := by decide +kernel
theorem dX6_isDone_66 : decode cX6_isDone 66 = .ok (.iload 5, 2) := by decide +kernel
theorem dX6_isDone_68 : decode cX6_isDone 68 = .ok (.ireturn, 1) := by decide +kernel
theorem dX6_isDone_69 : decode cX6_isDone 69 = .ok (.iload_n 2, 1) := by decide +kernel
theorem dX6_isDone_70 : decode cX6_isDone 70 = .ok (.bipush 112, 2) := by decide +kernel
theorem dX6_isDone_72 : decode cX6_isDone 72 = .ok (.if_icmp .ne 43, 3) := by decide +kernel
theorem dX6_isDone_75 : decode cX6_isDone 75 = .ok (.aload_n 0, 1) := by decide +kernel
theorem dX6_isDone_76 : decode cX6_isDone 76 = .ok (.getfield 7, 3) := by decide +kernel
theorem dX6_isDone_79 : decode cX6_isDone 79 = .ok (.iconst 4, 1) := by decide +kernel
theorem dX6_isDone_80 : decode cX6_isDone 80 = .ok (.iaload, 1) := by decide +kernel
theorem dX6_isDone_81 : decode cX6_isDone 81 = .ok (.bipush 10, 2) := by decide +kernel
theorem dX6_isDone_83 : decode cX6_isDone 83 = .ok (.if_icmp .ge 7, 3) := by decide +kernel
theorem dX6_isDone_86 : decode cX6_isDone 86 = .ok (.iconst 1, 1) := by decide +kernel
theorem dX6_isDone_87 : decode cX6_isDone 87 = .ok (.goto 4, 3) := by decide +kernel
theorem dX6_isDone_90 : decode cX6_isDone 90 = .ok (.iconst 0, 1) := by decide +kernel
theorem dX6_isDone_91 : decode cX6_isDone 91 = .ok (.istore 5, 2) := by decide +kernel
theorem dX6_isDone_93 : decode cX6_isDone 93 = .ok (.aload_n 0, 1) := by decide +kernel
theorem dX6_isDone_94 : decode cX6_isDone 94 = .ok (.getfield 7, 3) := by decide +kernel
theorem dX6_isDone_97 : decode cX6_isDone 97 = .ok (.iconst 4, 1) := by decide +kernel
theorem dX6_isDone_98 : decode cX6_isDone 98 = .ok (.dup2, 1) := by decide +kernel
theorem dX6_isDone_99 : decode cX6_isDone 99 = .ok (.iaload, 1) := by decide +kernel
theorem dX6_isDone_100 : decode cX6_isDone 100 = .ok (.iload 5, 2) := by decide +kernel
theorem dX6_isDone_102 : decode cX6_isDone 102 = .ok (.ifCond .eq 7, 3) := by decide +kernel
theorem dX6_isDone_105 : decode cX6_isDone 105 = .ok (.iconst 1, 1) := by decide +kernel
theorem dX6_isDone_106 : decode cX6_isDone 106 = .ok (.goto 4, 3) := by decide +kernel
theorem dX6_isDone_109 : decode cX6_isDone 109 = .ok (.iconst 0, 1) := by decide +kernel
theorem dX6_isDone_110 : decode cX6_isDone 110 = .ok (.iadd, 1) := by decide +kernel
theorem dX6_isDone_111 : decode cX6_isDone 111 = .ok (.iastore, 1) := by decide +kernel
theorem dX6_isDone_112 : decode cX6_isDone 112 = .ok (.iload 5, 2) := by decide +kernel
theorem dX6_isDone_114 : decode cX6_isDone 114 = .ok (.ireturn, 1) := by decide +kernel
theorem dX6_isDone_115 : decode cX6_isDone 115 = .ok (.iload_n 2, 1) := by decide +kernel
theorem dX6_isDone_116 : decode cX6_isDone 116 = .ok (.bipush 100, 2) := by decide +kernel
theorem dX6_isDone_118 : decode cX6_isDone 118 = .ok (.if_icmp .ne 13, 3) := by decide +kernel
theorem dX6_isDone_121 : decode cX6_isDone 121 = .ok (.aload_n 0, 1) := by decide +kernel
theorem dX6_isDone_122 : decode cX6_isDone 122 = .ok (.getfield 7, 3) := by decide +kernel
theorem dX6_isDone_125 : decode cX6_isDone 125 = .ok (.iload_n 3, 1) := by decide +kernel
theorem dX6_isDone_126 : decode cX6_isDone 126 = .ok (.invokestatic 124, 3) := by decide +kernel
theorem dX6_isDone_129 : decode cX6_isDone 129 = .ok (.iconst 1, 1) := by decide +kernel
theorem dX6_isDone_130 : decode cX6_isDone 130 = .ok (.ireturn, 1) := by decide +kernel
theorem dX6_isDone_131 : decode cX6_isDone 131 = .ok (.iload_n 2, 1) := by decide +kernel
theorem dX6_isDone_132 : decode cX6_isDone 132 = .ok (.bipush 103, 2) := by decide +kernel
theorem dX6_isDone_134 : decode cX6_isDone 134 = .ok (.if_icmp .ne 36, 3) := by decide +kernel
theorem dX6_isDone_137 : decode cX6_isDone 137 = .ok (.aload_n 0, 1) := by decide +kernel
theorem dX6_isDone_138 : decode cX6_isDone 138 = .ok (.getfield 7, 3) := by decide +kernel
theorem dX6_isDone_141 : decode cX6_isDone 141 = .ok (.iconst 3, 1) := by decide +kernel
theorem dX6_isDone_142 : decode cX6_isDone 142 = .ok (.iaload, 1) := by decide +kernel
theorem dX6_isDone_143 : decode cX6_isDone 143 = .ok (.ifCond .le 7, 3) := by decide +kernel
theorem dX6_isDone_146 : decode cX6_isDone 146 = .ok (.iconst 1, 1) := by decide +kernel
theorem dX6_isDone_147 : decode cX6_isDone 147 = .ok (.goto 4, 3) := by decide +kernel
theorem dX6_isDone_150 : decode cX6_isDone 150 = .ok (.iconst 0, 1) := by decide +kernel
theorem dX6_isDone_151 : decode cX6_isDone 151 = .ok (.istore 5, 2) := by decide +kernel
theorem dX6_isDone_153 : decode cX6_isDone 153 = .ok (.iload 5, 2) := by decide +kernel
theorem dX6_isDone_155 : decode cX6_isDone 155 = .ok (.ifCond .eq 12, 3) := by decide +kernel
theorem dX6_isDone_158 : decode cX6_isDone 158 = .ok (.aload_n 0, 1) := by decide +kernel
theorem dX6_isDone_159 : decode cX6_isDone 159 = .ok (.aload_n 0, 1) := by decide +kernel
theorem dX6_isDone_160 : decode cX6_isDone 160 = .ok (.getfield 7, 3) := by decide +kernel
theorem dX6_isDone_163 : decode cX6_isDone 163 = .ok (.invokevirtual 127, 3) := by decide +kernel
theorem dX6_isDone_166 : decode cX6_isDone 166 = .ok (.pop, 1) := by decide +kernel
theorem dX6_isDone_167 : decode cX6_isDone 167 = .ok (.iload 5, 2) := by decide +kernel
theorem dX6_isDone_169 : decode cX6_isDone 169 = .ok (.ireturn, 1) := by decide +kernel
theorem dX6_isDone_170 : decode cX6_isDone 170 = .ok (.iload_n 2, 1) := by decide +kernel
theorem dX6_isDone_171 : decode cX6_isDone 171 = .ok (.bipush 102, 2) := by decide +kernel
theorem dX6_isDone_173 : decode cX6_isDone 173 = .ok (.if_icmp .ne 34, 3) := by decide +kernel
theorem dX6_isDone_176 : decode cX6_isDone 176 = .ok (.aload_n 0, 1) := by decide +kernel
theorem dX6_isDone_177 : decode cX6_isDone 177 = .ok (.getfield 7, 3) := by decide +kernel
