theorem dL_pay_177 : decode cL_pay 177 = .ok (.ifCond .eq 59, 3) := by decide +kernel
theorem dL_pay_180 : decode cL_pay 180 = .ok (.iload 7, 2) := by decide +kernel
theorem dL_pay_182 : decode cL_pay 182 = .ok (.ifCond .lt 54, 3) := by decide +kernel
theorem dL_pay_185 : decode cL_pay 185 = .ok (.iload 4, 2) := by decide +kernel
theorem dL_pay_187 : decode cL_pay 187 = .ok (.iconst (-1), 1) := by decide +kernel
theorem dL_pay_188 : decode cL_pay 188 = .ok (.if_icmp .eq 44, 3) := by decide +kernel
theorem dL_pay_191 : decode cL_pay 191 = .ok (.aload_n 0, 1) := by decide +kernel
theorem dL_pay_192 : decode cL_pay 192 = .ok (.iload 4, 2) := by decide +kernel
theorem dL_pay_194 : decode cL_pay 194 = .ok (.iconst 0, 1) := by decide +kernel
theorem dL_pay_195 : decode cL_pay 195 = .ok (.invokevirtual 40, 3) := by decide +kernel
theorem dL_pay_198 : decode cL_pay 198 = .ok (.aload_n 0, 1) := by decide +kernel
theorem dL_pay_199 : decode cL_pay 199 = .ok (.iload 7, 2) := by decide +kernel
theorem dL_pay_201 : decode cL_pay 201 = .ok (.iconst 0, 1) := by decide +kernel
theorem dL_pay_202 : decode cL_pay 202 = .ok (.invokevirtual 40, 3) := by decide +kernel
theorem dL_pay_205 : decode cL_pay 205 = .ok (.if_icmp .gt 27, 3) := by decide +kernel
theorem dL_pay_208 : decode cL_pay 208 = .ok (.aload_n 0, 1) := by decide +kernel
theorem dL_pay_209 : decode cL_pay 209 = .ok (.iload 4, 2) := by decide +kernel
theorem dL_pay_211 : decode cL_pay 211 = .ok (.iconst 0, 1) := by decide +kernel
theorem dL_pay_212 : decode cL_pay 212 = .ok (.invokevirtual 40, 3) := by decide +kernel
theorem dL_pay_215 : decode cL_pay 215 = .ok (.aload_n 0, 1) := by decide +kernel
theorem dL_pay_216 : decode cL_pay 216 = .ok (.iload 7, 2) := by decide +kernel
theorem dL_pay_218 : decode cL_pay 218 = .ok (.iconst 0, 1) := by decide +kernel
theorem dL_pay_219 : decode cL_pay 219 = .ok (.invokevirtual 40, 3) := by decide +kernel
theorem dL_pay_222 : decode cL_pay 222 = .ok (.if_icmp .ne 14, 3) := by decide +kernel
theorem dL_pay_225 : decode cL_pay 225 = .ok (.iload 4, 2) := by decide +kernel
theorem dL_pay_227 : decode cL_pay 227 = .ok (.iload 7, 2) := by decide +kernel
theorem dL_pay_229 : decode cL_pay 229 = .ok (.if_icmp .ge 7, 3) := by decide +kernel
theorem dL_pay_232 : decode cL_pay 232 = .ok (.iconst 1, 1) := by decide +kernel
theorem dL_pay_233 : decode cL_pay 233 = .ok (.goto 4, 3) := by decide +kernel
theorem dL_pay_236 : decode cL_pay 236 = .ok (.iconst 0, 1) := by decide +kernel
theorem dL_pay_237 : decode cL_pay 237 = .ok (.istore 5, 2) := by decide +kernel
theorem dL_pay_239 : decode cL_pay 239 = .ok (.iload 7, 2) := by decide +kernel
theorem dL_pay_241 : decode cL_pay 241 = .ok (.istore 4, 2) := by decide +kernel
theorem dL_pay_243 : decode cL_pay 243 = .ok (.iload 5, 2) := by decide +kernel
theorem dL_pay_245 : decode cL_pay 245 = .ok (.ifCond .eq 59, 3) := by decide +kernel
theorem dL_pay_248 : decode cL_pay 248 = .ok (.aload_n 0, 1) := by decide +kernel
theorem dL_pay_249 : decode cL_pay 249 = .ok (.iload 6, 2) := by decide +kernel
theorem dL_pay_251 : decode cL_pay 251 = .ok (.iconst 2, 1) := by decide +kernel
theorem dL_pay_252 : decode cL_pay 252 = .ok (.invokevirtual 40, 3) := by decide +kernel
theorem dL_pay_255 : decode cL_pay 255 = .ok (.ifCond .eq 13, 3) := by decide +kernel
theorem dL_pay_258 : decode cL_pay 258 = .ok (.aload_n 0, 1) := by decide +kernel
theorem dL_pay_259 : decode cL_pay 259 = .ok (.iload 6, 2) := by decide +kernel
theorem dL_pay_261 : decode cL_pay 261 = .ok (.iconst 3, 1) := by decide +kernel
theorem dL_pay_262 : decode cL_pay 262 = .ok (.invokevirtual 40, 3) := by decide +kernel
theorem dL_pay_265 : decode cL_pay 265 = .ok (.ifCond .ne 39, 3) := by decide +kernel
theorem dL_pay_268 : decode cL_pay 268 = .ok (.aload_n 0, 1) := by decide +kernel
theorem dL_pay_269 : decode cL_pay 269 = .ok (.iload 6, 2) := by decide +kernel
theorem dL_pay_271 : decode cL_pay 271 = .ok (.iconst 1, 1) := by decide +kernel
theorem dL_pay_272 : decode cL_pay 272 = .ok (.invokevirtual 40, 3) := by decide +kernel
theorem dL_pay_275 : decode cL_pay 275 = .ok (.aload_n 0, 1) := by decide +kernel
