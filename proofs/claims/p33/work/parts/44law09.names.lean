theorem dL_pay_79 : decode cL_pay 79 = .ok (.istore_n 3, 1) := by decide +kernel
theorem dL_pay_80 : decode cL_pay 80 = .ok (.aload_n 0, 1) := by decide +kernel
theorem dL_pay_81 : decode cL_pay 81 = .ok (.iload 7, 2) := by decide +kernel
theorem dL_pay_83 : decode cL_pay 83 = .ok (.iconst 1, 1) := by decide +kernel
theorem dL_pay_84 : decode cL_pay 84 = .ok (.invokevirtual 36, 3) := by decide +kernel
theorem dL_pay_87 : decode cL_pay 87 = .ok (.iload 6, 2) := by decide +kernel
theorem dL_pay_89 : decode cL_pay 89 = .ok (.if_icmp .ne 7, 3) := by decide +kernel
theorem dL_pay_92 : decode cL_pay 92 = .ok (.iconst 1, 1) := by decide +kernel
theorem dL_pay_93 : decode cL_pay 93 = .ok (.goto 4, 3) := by decide +kernel
theorem dL_pay_96 : decode cL_pay 96 = .ok (.iconst 0, 1) := by decide +kernel
theorem dL_pay_97 : decode cL_pay 97 = .ok (.istore 8, 2) := by decide +kernel
theorem dL_pay_99 : decode cL_pay 99 = .ok (.aload_n 0, 1) := by decide +kernel
theorem dL_pay_100 : decode cL_pay 100 = .ok (.iload 6, 2) := by decide +kernel
theorem dL_pay_102 : decode cL_pay 102 = .ok (.iload 7, 2) := by decide +kernel
theorem dL_pay_104 : decode cL_pay 104 = .ok (.iconst 0, 1) := by decide +kernel
theorem dL_pay_105 : decode cL_pay 105 = .ok (.invokevirtual 43, 3) := by decide +kernel
theorem dL_pay_108 : decode cL_pay 108 = .ok (.istore 9, 2) := by decide +kernel
theorem dL_pay_110 : decode cL_pay 110 = .ok (.aload_n 0, 1) := by decide +kernel
theorem dL_pay_111 : decode cL_pay 111 = .ok (.iload 6, 2) := by decide +kernel
theorem dL_pay_113 : decode cL_pay 113 = .ok (.iload 7, 2) := by decide +kernel
theorem dL_pay_115 : decode cL_pay 115 = .ok (.iconst 2, 1) := by decide +kernel
theorem dL_pay_116 : decode cL_pay 116 = .ok (.invokevirtual 43, 3) := by decide +kernel
theorem dL_pay_119 : decode cL_pay 119 = .ok (.iload 9, 2) := by decide +kernel
theorem dL_pay_121 : decode cL_pay 121 = .ok (.ifCond .ne 7, 3) := by decide +kernel
theorem dL_pay_124 : decode cL_pay 124 = .ok (.iconst 0, 1) := by decide +kernel
theorem dL_pay_125 : decode cL_pay 125 = .ok (.goto 26, 3) := by decide +kernel
theorem dL_pay_128 : decode cL_pay 128 = .ok (.aload_n 0, 1) := by decide +kernel
theorem dL_pay_129 : decode cL_pay 129 = .ok (.iload 7, 2) := by decide +kernel
theorem dL_pay_131 : decode cL_pay 131 = .ok (.iconst 0, 1) := by decide +kernel
theorem dL_pay_132 : decode cL_pay 132 = .ok (.invokevirtual 36, 3) := by decide +kernel
theorem dL_pay_135 : decode cL_pay 135 = .ok (.iload 8, 2) := by decide +kernel
theorem dL_pay_137 : decode cL_pay 137 = .ok (.ifCond .eq 11, 3) := by decide +kernel
theorem dL_pay_140 : decode cL_pay 140 = .ok (.iload 9, 2) := by decide +kernel
theorem dL_pay_142 : decode cL_pay 142 = .ok (.bipush 10, 2) := by decide +kernel
theorem dL_pay_144 : decode cL_pay 144 = .ok (.iadd, 1) := by decide +kernel
theorem dL_pay_145 : decode cL_pay 145 = .ok (.goto 5, 3) := by decide +kernel
theorem dL_pay_148 : decode cL_pay 148 = .ok (.iload 9, 2) := by decide +kernel
theorem dL_pay_150 : decode cL_pay 150 = .ok (.imul, 1) := by decide +kernel
theorem dL_pay_151 : decode cL_pay 151 = .ok (.if_icmp .ne 7, 3) := by decide +kernel
theorem dL_pay_154 : decode cL_pay 154 = .ok (.iconst 1, 1) := by decide +kernel
theorem dL_pay_155 : decode cL_pay 155 = .ok (.goto 4, 3) := by decide +kernel
theorem dL_pay_158 : decode cL_pay 158 = .ok (.iconst 0, 1) := by decide +kernel
theorem dL_pay_159 : decode cL_pay 159 = .ok (.istore 5, 2) := by decide +kernel
theorem dL_pay_161 : decode cL_pay 161 = .ok (.iinc 7 1, 3) := by decide +kernel
theorem dL_pay_164 : decode cL_pay 164 = .ok (.goto (-111), 3) := by decide +kernel
theorem dL_pay_167 : decode cL_pay 167 = .ok (.aload_n 0, 1) := by decide +kernel
theorem dL_pay_168 : decode cL_pay 168 = .ok (.iload 6, 2) := by decide +kernel
theorem dL_pay_170 : decode cL_pay 170 = .ok (.invokevirtual 50, 3) := by decide +kernel
theorem dL_pay_173 : decode cL_pay 173 = .ok (.istore 7, 2) := by decide +kernel
theorem dL_pay_175 : decode cL_pay 175 = .ok (.iload 5, 2) := by decide +kernel
