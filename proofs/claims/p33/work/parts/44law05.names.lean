theorem dL_cast_132 : decode cL_cast 132 = .ok (.invokevirtual 40, 3) := by decide +kernel
theorem dL_cast_135 : decode cL_cast 135 = .ok (.iload 6, 2) := by decide +kernel
theorem dL_cast_137 : decode cL_cast 137 = .ok (.if_icmp .ne 17, 3) := by decide +kernel
theorem dL_cast_140 : decode cL_cast 140 = .ok (.aload_n 0, 1) := by decide +kernel
theorem dL_cast_141 : decode cL_cast 141 = .ok (.iload 6, 2) := by decide +kernel
theorem dL_cast_143 : decode cL_cast 143 = .ok (.iconst 4, 1) := by decide +kernel
theorem dL_cast_144 : decode cL_cast 144 = .ok (.invokevirtual 36, 3) := by decide +kernel
theorem dL_cast_147 : decode cL_cast 147 = .ok (.ifCond .le 7, 3) := by decide +kernel
theorem dL_cast_150 : decode cL_cast 150 = .ok (.iconst 1, 1) := by decide +kernel
theorem dL_cast_151 : decode cL_cast 151 = .ok (.goto 4, 3) := by decide +kernel
theorem dL_cast_154 : decode cL_cast 154 = .ok (.iconst 0, 1) := by decide +kernel
theorem dL_cast_155 : decode cL_cast 155 = .ok (.istore 5, 2) := by decide +kernel
theorem dL_cast_157 : decode cL_cast 157 = .ok (.iload 4, 2) := by decide +kernel
theorem dL_cast_159 : decode cL_cast 159 = .ok (.iconst 1, 1) := by decide +kernel
theorem dL_cast_160 : decode cL_cast 160 = .ok (.iload 7, 2) := by decide +kernel
theorem dL_cast_162 : decode cL_cast 162 = .ok (.ishl, 1) := by decide +kernel
theorem dL_cast_163 : decode cL_cast 163 = .ok (.ior, 1) := by decide +kernel
theorem dL_cast_164 : decode cL_cast 164 = .ok (.istore 4, 2) := by decide +kernel
theorem dL_cast_166 : decode cL_cast 166 = .ok (.iload_n 3, 1) := by decide +kernel
theorem dL_cast_167 : decode cL_cast 167 = .ok (.aload_n 0, 1) := by decide +kernel
theorem dL_cast_168 : decode cL_cast 168 = .ok (.iload 7, 2) := by decide +kernel
theorem dL_cast_170 : decode cL_cast 170 = .ok (.iload 6, 2) := by decide +kernel
theorem dL_cast_172 : decode cL_cast 172 = .ok (.iconst 2, 1) := by decide +kernel
theorem dL_cast_173 : decode cL_cast 173 = .ok (.invokevirtual 43, 3) := by decide +kernel
theorem dL_cast_176 : decode cL_cast 176 = .ok (.iadd, 1) := by decide +kernel
theorem dL_cast_177 : decode cL_cast 177 = .ok (.istore_n 3, 1) := by decide +kernel
theorem dL_cast_178 : decode cL_cast 178 = .ok (.iinc 6 1, 3) := by decide +kernel
theorem dL_cast_181 : decode cL_cast 181 = .ok (.goto (-147), 3) := by decide +kernel
theorem dL_cast_184 : decode cL_cast 184 = .ok (.iload 5, 2) := by decide +kernel
theorem dL_cast_186 : decode cL_cast 186 = .ok (.ifCond .eq 17, 3) := by decide +kernel
theorem dL_cast_189 : decode cL_cast 189 = .ok (.iload_n 2, 1) := by decide +kernel
theorem dL_cast_190 : decode cL_cast 190 = .ok (.iconst (-1), 1) := by decide +kernel
theorem dL_cast_191 : decode cL_cast 191 = .ok (.if_icmp .eq 8, 3) := by decide +kernel
theorem dL_cast_194 : decode cL_cast 194 = .ok (.iload_n 3, 1) := by decide +kernel
theorem dL_cast_195 : decode cL_cast 195 = .ok (.iload_n 2, 1) := by decide +kernel
theorem dL_cast_196 : decode cL_cast 196 = .ok (.if_icmp .ne 7, 3) := by decide +kernel
theorem dL_cast_199 : decode cL_cast 199 = .ok (.iconst 1, 1) := by decide +kernel
theorem dL_cast_200 : decode cL_cast 200 = .ok (.goto 4, 3) := by decide +kernel
theorem dL_cast_203 : decode cL_cast 203 = .ok (.iconst 0, 1) := by decide +kernel
theorem dL_cast_204 : decode cL_cast 204 = .ok (.istore 5, 2) := by decide +kernel
theorem dL_cast_206 : decode cL_cast 206 = .ok (.iconst 0, 1) := by decide +kernel
theorem dL_cast_207 : decode cL_cast 207 = .ok (.istore 6, 2) := by decide +kernel
theorem dL_cast_209 : decode cL_cast 209 = .ok (.iload 6, 2) := by decide +kernel
theorem dL_cast_211 : decode cL_cast 211 = .ok (.aload_n 0, 1) := by decide +kernel
theorem dL_cast_212 : decode cL_cast 212 = .ok (.iconst 1, 1) := by decide +kernel
theorem dL_cast_213 : decode cL_cast 213 = .ok (.invokevirtual 30, 3) := by decide +kernel
theorem dL_cast_216 : decode cL_cast 216 = .ok (.if_icmp .ge 86, 3) := by decide +kernel
theorem dL_cast_219 : decode cL_cast 219 = .ok (.iload 5, 2) := by decide +kernel
theorem dL_cast_221 : decode cL_cast 221 = .ok (.ifCond .eq 81, 3) := by decide +kernel
theorem dL_cast_224 : decode cL_cast 224 = .ok (.aload_n 0, 1) := by decide +kernel
