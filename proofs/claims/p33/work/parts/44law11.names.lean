theorem dL_pay_276 : decode cL_pay 276 = .ok (.iload 6, 2) := by decide +kernel
theorem dL_pay_278 : decode cL_pay 278 = .ok (.iconst 4, 1) := by decide +kernel
theorem dL_pay_279 : decode cL_pay 279 = .ok (.invokevirtual 40, 3) := by decide +kernel
theorem dL_pay_282 : decode cL_pay 282 = .ok (.if_icmp .gt 22, 3) := by decide +kernel
theorem dL_pay_285 : decode cL_pay 285 = .ok (.aload_n 0, 1) := by decide +kernel
theorem dL_pay_286 : decode cL_pay 286 = .ok (.iload 6, 2) := by decide +kernel
theorem dL_pay_288 : decode cL_pay 288 = .ok (.iconst 4, 1) := by decide +kernel
theorem dL_pay_289 : decode cL_pay 289 = .ok (.invokevirtual 40, 3) := by decide +kernel
theorem dL_pay_292 : decode cL_pay 292 = .ok (.aload_n 0, 1) := by decide +kernel
theorem dL_pay_293 : decode cL_pay 293 = .ok (.iconst 3, 1) := by decide +kernel
theorem dL_pay_294 : decode cL_pay 294 = .ok (.invokevirtual 30, 3) := by decide +kernel
theorem dL_pay_297 : decode cL_pay 297 = .ok (.if_icmp .gt 7, 3) := by decide +kernel
theorem dL_pay_300 : decode cL_pay 300 = .ok (.iconst 1, 1) := by decide +kernel
theorem dL_pay_301 : decode cL_pay 301 = .ok (.goto 4, 3) := by decide +kernel
theorem dL_pay_304 : decode cL_pay 304 = .ok (.iconst 0, 1) := by decide +kernel
theorem dL_pay_305 : decode cL_pay 305 = .ok (.istore 5, 2) := by decide +kernel
theorem dL_pay_307 : decode cL_pay 307 = .ok (.iinc 6 1, 3) := by decide +kernel
theorem dL_pay_310 : decode cL_pay 310 = .ok (.goto (-295), 3) := by decide +kernel
theorem dL_pay_313 : decode cL_pay 313 = .ok (.iload 5, 2) := by decide +kernel
theorem dL_pay_315 : decode cL_pay 315 = .ok (.ifCond .eq 44, 3) := by decide +kernel
theorem dL_pay_318 : decode cL_pay 318 = .ok (.iload_n 1, 1) := by decide +kernel
theorem dL_pay_319 : decode cL_pay 319 = .ok (.aload_n 0, 1) := by decide +kernel
theorem dL_pay_320 : decode cL_pay 320 = .ok (.iconst 5, 1) := by decide +kernel
theorem dL_pay_321 : decode cL_pay 321 = .ok (.invokevirtual 30, 3) := by decide +kernel
theorem dL_pay_324 : decode cL_pay 324 = .ok (.if_icmp .ne 35, 3) := by decide +kernel
theorem dL_pay_327 : decode cL_pay 327 = .ok (.iload_n 2, 1) := by decide +kernel
theorem dL_pay_328 : decode cL_pay 328 = .ok (.iload_n 3, 1) := by decide +kernel
theorem dL_pay_329 : decode cL_pay 329 = .ok (.if_icmp .ne 30, 3) := by decide +kernel
theorem dL_pay_332 : decode cL_pay 332 = .ok (.aload_n 0, 1) := by decide +kernel
theorem dL_pay_333 : decode cL_pay 333 = .ok (.bipush 7, 2) := by decide +kernel
theorem dL_pay_335 : decode cL_pay 335 = .ok (.invokevirtual 30, 3) := by decide +kernel
theorem dL_pay_338 : decode cL_pay 338 = .ok (.iload_n 3, 1) := by decide +kernel
theorem dL_pay_339 : decode cL_pay 339 = .ok (.if_icmp .gt 20, 3) := by decide +kernel
theorem dL_pay_342 : decode cL_pay 342 = .ok (.aload_n 0, 1) := by decide +kernel
theorem dL_pay_343 : decode cL_pay 343 = .ok (.aload_n 0, 1) := by decide +kernel
theorem dL_pay_344 : decode cL_pay 344 = .ok (.iconst 1, 1) := by decide +kernel
theorem dL_pay_345 : decode cL_pay 345 = .ok (.invokevirtual 30, 3) := by decide +kernel
theorem dL_pay_348 : decode cL_pay 348 = .ok (.invokevirtual 50, 3) := by decide +kernel
theorem dL_pay_351 : decode cL_pay 351 = .ok (.iconst (-1), 1) := by decide +kernel
theorem dL_pay_352 : decode cL_pay 352 = .ok (.if_icmp .ne 7, 3) := by decide +kernel
theorem dL_pay_355 : decode cL_pay 355 = .ok (.iconst 1, 1) := by decide +kernel
theorem dL_pay_356 : decode cL_pay 356 = .ok (.goto 4, 3) := by decide +kernel
theorem dL_pay_359 : decode cL_pay 359 = .ok (.iconst 0, 1) := by decide +kernel
theorem dL_pay_360 : decode cL_pay 360 = .ok (.ireturn, 1) := by decide +kernel
set_option maxRecDepth 20000 in
theorem ggL_act_X5_about : GoodIn wsL_act wsX5_about := goodIn_ca (goodIn_r _ [5, 6, 7, 8, 9, 10, 11, 12, 13, 14, 15, 16, 17, 18, 19, 20, 21, 22, 23, 24, 25, 26, 27, 28, 29, 30, 31, 32, 33, 34, 35, 36, 37, 38, 39, 40, 41, 42, 43, 44, 45, 46, 47, 48, 49, 298, 299, 300, 301, 302, 303, 304, 305, 306, 307, 308, 309, 310, 311, 312, 313, 314, 315, 316, 317, 318, 319, 320, 321] (by decide +kernel) (by decide +kernel)) (goodIn_sub (fun _ h => List.mem_cons_of_mem _ (List.mem_append_left _ (List.mem_append_left _ (List.mem_append_right _ h)))) (by decide +kernel))
