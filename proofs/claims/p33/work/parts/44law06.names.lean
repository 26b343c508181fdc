theorem dL_cast_225 : decode cL_cast 225 = .ok (.iload 6, 2) := by decide +kernel
theorem dL_cast_227 : decode cL_cast 227 = .ok (.invokevirtual 47, 3) := by decide +kernel
theorem dL_cast_230 : decode cL_cast 230 = .ok (.istore 7, 2) := by decide +kernel
theorem dL_cast_232 : decode cL_cast 232 = .ok (.iload 7, 2) := by decide +kernel
theorem dL_cast_234 : decode cL_cast 234 = .ok (.iload_n 2, 1) := by decide +kernel
theorem dL_cast_235 : decode cL_cast 235 = .ok (.if_icmp .gt 58, 3) := by decide +kernel
theorem dL_cast_238 : decode cL_cast 238 = .ok (.iload 4, 2) := by decide +kernel
theorem dL_cast_240 : decode cL_cast 240 = .ok (.iload 6, 2) := by decide +kernel
theorem dL_cast_242 : decode cL_cast 242 = .ok (.ishr, 1) := by decide +kernel
theorem dL_cast_243 : decode cL_cast 243 = .ok (.iconst 1, 1) := by decide +kernel
theorem dL_cast_244 : decode cL_cast 244 = .ok (.iand, 1) := by decide +kernel
theorem dL_cast_245 : decode cL_cast 245 = .ok (.iconst 1, 1) := by decide +kernel
theorem dL_cast_246 : decode cL_cast 246 = .ok (.if_icmp .eq 9, 3) := by decide +kernel
theorem dL_cast_249 : decode cL_cast 249 = .ok (.iload 7, 2) := by decide +kernel
theorem dL_cast_251 : decode cL_cast 251 = .ok (.iload_n 2, 1) := by decide +kernel
theorem dL_cast_252 : decode cL_cast 252 = .ok (.if_icmp .ne 41, 3) := by decide +kernel
theorem dL_cast_255 : decode cL_cast 255 = .ok (.aload_n 0, 1) := by decide +kernel
theorem dL_cast_256 : decode cL_cast 256 = .ok (.iload 6, 2) := by decide +kernel
theorem dL_cast_258 : decode cL_cast 258 = .ok (.iconst 5, 1) := by decide +kernel
theorem dL_cast_259 : decode cL_cast 259 = .ok (.invokevirtual 40, 3) := by decide +kernel
theorem dL_cast_262 : decode cL_cast 262 = .ok (.ifCond .lt 7, 3) := by decide +kernel
theorem dL_cast_265 : decode cL_cast 265 = .ok (.iconst 1, 1) := by decide +kernel
theorem dL_cast_266 : decode cL_cast 266 = .ok (.goto 4, 3) := by decide +kernel
theorem dL_cast_269 : decode cL_cast 269 = .ok (.iconst 0, 1) := by decide +kernel
theorem dL_cast_270 : decode cL_cast 270 = .ok (.iload 4, 2) := by decide +kernel
theorem dL_cast_272 : decode cL_cast 272 = .ok (.iload 6, 2) := by decide +kernel
theorem dL_cast_274 : decode cL_cast 274 = .ok (.ishr, 1) := by decide +kernel
theorem dL_cast_275 : decode cL_cast 275 = .ok (.iconst 1, 1) := by decide +kernel
theorem dL_cast_276 : decode cL_cast 276 = .ok (.iand, 1) := by decide +kernel
theorem dL_cast_277 : decode cL_cast 277 = .ok (.iconst 1, 1) := by decide +kernel
theorem dL_cast_278 : decode cL_cast 278 = .ok (.if_icmp .ne 7, 3) := by decide +kernel
theorem dL_cast_281 : decode cL_cast 281 = .ok (.iconst 1, 1) := by decide +kernel
theorem dL_cast_282 : decode cL_cast 282 = .ok (.goto 4, 3) := by decide +kernel
theorem dL_cast_285 : decode cL_cast 285 = .ok (.iconst 0, 1) := by decide +kernel
theorem dL_cast_286 : decode cL_cast 286 = .ok (.if_icmp .ne 7, 3) := by decide +kernel
theorem dL_cast_289 : decode cL_cast 289 = .ok (.iconst 1, 1) := by decide +kernel
theorem dL_cast_290 : decode cL_cast 290 = .ok (.goto 4, 3) := by decide +kernel
theorem dL_cast_293 : decode cL_cast 293 = .ok (.iconst 0, 1) := by decide +kernel
theorem dL_cast_294 : decode cL_cast 294 = .ok (.istore 5, 2) := by decide +kernel
theorem dL_cast_296 : decode cL_cast 296 = .ok (.iinc 6 1, 3) := by decide +kernel
theorem dL_cast_299 : decode cL_cast 299 = .ok (.goto (-90), 3) := by decide +kernel
theorem dL_cast_302 : decode cL_cast 302 = .ok (.iload 5, 2) := by decide +kernel
theorem dL_cast_304 : decode cL_cast 304 = .ok (.ireturn, 1) := by decide +kernel
set_option maxRecDepth 20000 in
theorem ggL_pay_X5_about : GoodIn wsL_pay wsX5_about := goodIn_ca (goodIn_r _ [5, 6, 7, 8, 9, 10, 11, 12, 13, 14, 15, 16, 17, 18, 19, 20, 21, 22, 23, 24, 25, 26, 27, 28, 29, 30, 31, 32, 33, 34, 35, 36, 37, 38, 39, 40, 41, 42, 43, 44, 45, 46, 47, 48, 49, 207, 208, 209, 210, 211, 212, 213, 214, 215, 216, 217, 218, 219, 220, 221, 222, 223, 224, 225, 226, 227, 228, 229, 230] (by decide +kernel) (by decide +kernel)) (goodIn_sub (fun _ h => List.mem_cons_of_mem _ (List.mem_append_left _ (List.mem_append_right _ h))) (by decide +kernel))
