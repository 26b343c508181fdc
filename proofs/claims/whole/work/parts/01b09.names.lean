theorem dX6_isDone_180 : decode cX6_isDone 180 = .ok (.iload_n 3, 1) := by decide +kernel
theorem dX6_isDone_181 : decode cX6_isDone 181 = .ok (.invokestatic 130, 3) := by decide +kernel
theorem dX6_isDone_184 : decode cX6_isDone 184 = .ok (.ifCond .eq 19, 3) := by decide +kernel
theorem dX6_isDone_187 : decode cX6_isDone 187 = .ok (.aload_n 0, 1) := by decide +kernel
theorem dX6_isDone_188 : decode cX6_isDone 188 = .ok (.getfield 7, 3) := by decide +kernel
theorem dX6_isDone_191 : decode cX6_isDone 191 = .ok (.iload 4, 2) := by decide +kernel
theorem dX6_isDone_193 : decode cX6_isDone 193 = .ok (.invokestatic 133, 3) := by decide +kernel
theorem dX6_isDone_196 : decode cX6_isDone 196 = .ok (.ifCond .eq 7, 3) := by decide +kernel
theorem dX6_isDone_199 : decode cX6_isDone 199 = .ok (.iconst 1, 1) := by decide +kernel
theorem dX6_isDone_200 : decode cX6_isDone 200 = .ok (.goto 41, 3) := by decide +kernel
theorem dX6_isDone_203 : decode cX6_isDone 203 = .ok (.iconst 0, 1) := by decide +kernel
theorem dX6_isDone_204 : decode cX6_isDone 204 = .ok (.goto 37, 3) := by decide +kernel
theorem dX6_isDone_207 : decode cX6_isDone 207 = .ok (.aload_n 0, 1) := by decide +kernel
theorem dX6_isDone_208 : decode cX6_isDone 208 = .ok (.getfield 7, 3) := by decide +kernel
theorem dX6_isDone_211 : decode cX6_isDone 211 = .ok (.iload_n 3, 1) := by decide +kernel
theorem dX6_isDone_212 : decode cX6_isDone 212 = .ok (.invokestatic 133, 3) := by decide +kernel
theorem dX6_isDone_215 : decode cX6_isDone 215 = .ok (.ifCond .eq 25, 3) := by decide +kernel
theorem dX6_isDone_218 : decode cX6_isDone 218 = .ok (.iload_n 2, 1) := by decide +kernel
theorem dX6_isDone_219 : decode cX6_isDone 219 = .ok (.bipush 97, 2) := by decide +kernel
theorem dX6_isDone_221 : decode cX6_isDone 221 = .ok (.if_icmp .eq 15, 3) := by decide +kernel
theorem dX6_isDone_224 : decode cX6_isDone 224 = .ok (.aload_n 0, 1) := by decide +kernel
theorem dX6_isDone_225 : decode cX6_isDone 225 = .ok (.getfield 7, 3) := by decide +kernel
theorem dX6_isDone_228 : decode cX6_isDone 228 = .ok (.iload 4, 2) := by decide +kernel
theorem dX6_isDone_230 : decode cX6_isDone 230 = .ok (.invokestatic 130, 3) := by decide +kernel
theorem dX6_isDone_233 : decode cX6_isDone 233 = .ok (.ifCond .eq 7, 3) := by decide +kernel
theorem dX6_isDone_236 : decode cX6_isDone 236 = .ok (.iconst 1, 1) := by decide +kernel
theorem dX6_isDone_237 : decode cX6_isDone 237 = .ok (.goto 4, 3) := by decide +kernel
theorem dX6_isDone_240 : decode cX6_isDone 240 = .ok (.iconst 0, 1) := by decide +kernel
theorem dX6_isDone_241 : decode cX6_isDone 241 = .ok (.istore 5, 2) := by decide +kernel
theorem dX6_isDone_243 : decode cX6_isDone 243 = .ok (.iload 5, 2) := by decide +kernel
theorem dX6_isDone_245 : decode cX6_isDone 245 = .ok (.ifCond .eq 34, 3) := by decide +kernel
theorem dX6_isDone_248 : decode cX6_isDone 248 = .ok (.iload_n 2, 1) := by decide +kernel
theorem dX6_isDone_249 : decode cX6_isDone 249 = .ok (.bipush 121, 2) := by decide +kernel
theorem dX6_isDone_251 : decode cX6_isDone 251 = .ok (.if_icmp .ne 28, 3) := by decide +kernel
theorem dX6_isDone_254 : decode cX6_isDone 254 = .ok (.aload_n 0, 1) := by decide +kernel
theorem dX6_isDone_255 : decode cX6_isDone 255 = .ok (.getfield 7, 3) := by decide +kernel
theorem dX6_isDone_258 : decode cX6_isDone 258 = .ok (.bipush 70, 2) := by decide +kernel
theorem dX6_isDone_260 : decode cX6_isDone 260 = .ok (.bipush 6, 2) := by decide +kernel
theorem dX6_isDone_262 : decode cX6_isDone 262 = .ok (.iload_n 3, 1) := by decide +kernel
theorem dX6_isDone_263 : decode cX6_isDone 263 = .ok (.imul, 1) := by decide +kernel
theorem dX6_isDone_264 : decode cX6_isDone 264 = .ok (.iadd, 1) := by decide +kernel
theorem dX6_isDone_265 : decode cX6_isDone 265 = .ok (.iload 4, 2) := by decide +kernel
theorem dX6_isDone_267 : decode cX6_isDone 267 = .ok (.iadd, 1) := by decide +kernel
theorem dX6_isDone_268 : decode cX6_isDone 268 = .ok (.aload_n 0, 1) := by decide +kernel
theorem dX6_isDone_269 : decode cX6_isDone 269 = .ok (.getfield 35, 3) := by decide +kernel
theorem dX6_isDone_272 : decode cX6_isDone 272 = .ok (.iconst 4, 1) := by decide +kernel
theorem dX6_isDone_273 : decode cX6_isDone 273 = .ok (.iload_n 1, 1) := by decide +kernel
theorem dX6_isDone_274 : decode cX6_isDone 274 = .ok (.imul, 1) := by decide +kernel
theorem dX6_isDone_275 : decode cX6_isDone 275 = .ok (.iconst 3, 1) := by decide +kernel
theorem dX6_isDone_276 : decode cX6_isDone 276 = .ok (.iadd, 1) := by decide +kernel
theorem dX6_isDone_277 : decode cX6_isDone 277 = .ok (.iaload, 1) := by decide +kernel
theorem dX6_isDone_278 : decode cX6_isDone 278 = .ok (.iastore, 1) := by decide +kernel
theorem dX6_isDone_279 : decode cX6_isDone 279 = .ok (.iload 5, 2) := by decide +kernel
theorem dX6_isDone_281 : decode cX6_isDone 281 = .ok (.ifCond .eq 20, 3) := by decide +kernel
theorem dX6_isDone_284 : decode cX6_isDone 284 = .ok (.iload_n 2, 1) := by decide +kernel
theorem dX6_isDone_285 : decode cX6_isDone 285 = .ok (.bipush 102, 2) := by decide +kernel
theorem dX6_isDone_287 : decode cX6_isDone 287 = .ok (.if_icmp .ne 14, 3) := by decide +kernel
theorem dX6_isDone_290 : decode cX6_isDone 290 = .ok (.aload_n 0, 1) := by decide +kernel
theorem dX6_isDone_291 : decode cX6_isDone 291 = .ok (.getfield 7, 3) := by decide +kernel
theorem dX6_isDone_294 : decode cX6_isDone 294 = .ok (.bipush 18, 2) := by decide +kernel
theorem dX6_isDone_296 : decode cX6_isDone 296 = .ok (.iload_n 3, 1) := by decide +kernel
theorem dX6_isDone_297 : decode cX6_isDone 297 = .ok (.iadd, 1) := by decide +kernel
theorem dX6_isDone_298 : decode cX6_isDone 298 = .ok (.iload 4, 2) := by decide +kernel
theorem dX6_isDone_300 : decode cX6_isDone 300 = .ok (.iastore, 1) := by decide +kernel
theorem dX6_isDone_301 : decode cX6_isDone 301 = .ok (.iload 5, 2) := by decide +kernel
theorem dX6_isDone_303 : decode cX6_isDone 303 = .ok (.ifCond .eq 27, 3) := by decide +kernel
theorem dX6_isDone_306 : decode cX6_isDone 306 = .ok (.iload_n 2, 1) := by decide +kernel
theorem dX6_isDone_307 : decode cX6_isDone 307 = .ok (.bipush 97, 2) := by decide +kernel
theorem dX6_isDone_309 : decode cX6_isDone 309 = .ok (.if_icmp .ne 21, 3) := by decide +kernel
theorem dX6_isDone_312 : decode cX6_isDone 312 = .ok (.aload_n 0, 1) := by decide +kernel
theorem dX6_isDone_313 : decode cX6_isDone 313 = .ok (.getfield 7, 3) := by decide +kernel
theorem dX6_isDone_316 : decode cX6_isDone 316 = .ok (.bipush 50, 2) := by decide +kernel
theorem dX6_isDone_318 : decode cX6_isDone 318 = .ok (.iload_n 3, 1) := by decide +kernel
theorem dX6_isDone_319 : decode cX6_isDone 319 = .ok (.iadd, 1) := by decide +kernel
theorem dX6_isDone_320 : decode cX6_isDone 320 = .ok (.aload_n 0, 1) := by decide +kernel
theorem dX6_isDone_321 : decode cX6_isDone 321 = .ok (.getfield 7, 3) := by decide +kernel
theorem dX6_isDone_324 : decode cX6_isDone 324 = .ok (.iconst 0, 1) := by decide +kernel
theorem dX6_isDone_325 : decode cX6_isDone 325 = .ok (.iaload, 1) := by decide +kernel
theorem dX6_isDone_326 : decode cX6_isDone 326 = .ok (.iload 4, 2) := by decide +kernel
theorem dX6_isDone_328 : decode cX6_isDone 328 = .ok (.iadd, 1) := by decide +kernel
theorem dX6_isDone_329 : decode cX6_isDone 329 = .ok (.iastore, 1) := by decide +kernel
theorem dX6_isDone_330 : decode cX6_isDone 330 = .ok (.iload 5, 2) := by decide +kernel
theorem dX6_isDone_332 : decode cX6_isDone 332 = .ok (.ireturn, 1) := by decide +kernel
set_option maxRecDepth 20000 in
theorem ggX6_load_X6_isHouse : GoodIn wsX6_load wsX6_isHouse := goodIn_r _ [10, 11, 5, 12, 13, 14, 15, 9, 16, 17, 18, 19, 20, 21, 22, 23, 24, 25, 26, 27, 28, 29, 92, 93, 94, 95, 96, 97, 98, 99, 100, 101, 102, 103, 104, 105] (by decide +kernel) (by decide +kernel)
set_option maxRecDepth 20000 in
theorem gX6_load_X6_isHouse : GoodIn wsX6_load (wsV RX6 117 RX6 yX6_isHouse wsX6_isHouse) := goodIn_app (goodIn_of _ (by decide +kernel)) ggX6_load_X6_isHouse
set_option maxRecDepth 20000 in
theorem ggX6_load_X6_fails : GoodIn wsX6_load wsX6_fails := goodIn_r _ [33, 1, 92, 93, 94, 95, 96, 97, 98, 99, 100, 101, 102, 103, 104, 105] (by decide +kernel) (by decide +kernel)
set_option maxRecDepth 20000 in
theorem gX6_load_X6_fails : GoodIn wsX6_load (wsV RX6 57 RX6 yX6_fails wsX6_fails) := goodIn_app (goodIn_of _ (by decide +kernel)) ggX6_load_X6_fails
set_option maxRecDepth 20000 in
theorem ggX6_load_X6_begins : GoodIn wsX6_load wsX6_begins := goodIn_r _ [36, 18, 19, 9, 20] (by decide +kernel) (by decide +kernel)
set_option maxRecDepth 20000 in
theorem gX6_load_X6_begins : GoodIn wsX6_load (va_wsS RX6 38 yX6_begins wsX6_begins) := goodIn_app (goodIn_of _ (by decide +kernel)) ggX6_load_X6_begins
set_option maxRecDepth 20000 in
theorem ggX6_load_X6_isDone : GoodIn wsX6_load wsX6_isDone := goodIn_r _ [40, 25, 2, 41, 42, 43, 9, 44, 45, 46, 47, 48, 49, 50, 51, 52, 53, 54, 55, 56, 57, 58, 59, 60, 61, 62, 63, 64, 65, 66, 67, 68, 69, 70, 71, 72, 73, 74, 75, 76, 77, 78, 79, 80, 81, 82, 83, 84, 85, 86, 87, 88, 18, 19, 20, 89, 90, 91, 92, 93, 94, 95, 96, 97, 98, 99, 100, 101, 102, 103, 104, 105] (by decide +kernel) (by decide +kernel)
set_option maxRecDepth 20000 in
theorem gX6_load_X6_isDone : GoodIn wsX6_load (wsV RX6 136 RX6 yX6_isDone wsX6_isDone) := goodIn_app (goodIn_of _ (by decide +kernel)) ggX6_load_X6_isDone
theorem dX6_load_0 : decode cX6_load 0 = .ok (.aload_n 0, 1) := by decide +kernel
theorem dX6_load_1 : decode cX6_load 1 = .ok (.iconst 0, 1) := by decide +kernel
theorem dX6_load_2 : decode cX6_load 2 = .ok (.putfield 42, 3) := by decide +kernel
theorem dX6_load_5 : decode cX6_load 5 = .ok (.aload_n 0, 1) := by decide +kernel
theorem dX6_load_6 : decode cX6_load 6 = .ok (.invokevirtual 117, 3) := by decide +kernel
theorem dX6_load_9 : decode cX6_load 9 = .ok (.ifCond .ne 9, 3) := by decide +kernel
theorem dX6_load_12 : decode cX6_load 12 = .ok (.aload_n 0, 1) := by decide +kernel
theorem dX6_load_13 : decode cX6_load 13 = .ok (.iconst 1, 1) := by decide +kernel
theorem dX6_load_14 : decode cX6_load 14 = .ok (.invokevirtual 57, 3) := by decide +kernel
theorem dX6_load_17 : decode cX6_load 17 = .ok (.ireturn, 1) := by decide +kernel
theorem dX6_load_18 : decode cX6_load 18 = .ok (.aload_n 0, 1) := by decide +kernel
theorem dX6_load_19 : decode cX6_load 19 = .ok (.getfield 7, 3) := by decide +kernel
theorem dX6_load_22 : decode cX6_load 22 = .ok (.invokestatic 38, 3) := by decide +kernel
theorem dX6_load_25 : decode cX6_load 25 = .ok (.aload_n 0, 1) := by decide +kernel
theorem dX6_load_26 : decode cX6_load 26 = .ok (.iconst 0, 1) := by decide +kernel
theorem dX6_load_27 : decode cX6_load 27 = .ok (.putfield 50, 3) := by decide +kernel
theorem dX6_load_30 : decode cX6_load 30 = .ok (.aload_n 0, 1) := by decide +kernel
theorem dX6_load_31 : decode cX6_load 31 = .ok (.getfield 22, 3) := by decide +kernel
theorem dX6_load_34 : decode cX6_load 34 = .ok (.iconst 0, 1) := by decide +kernel
theorem dX6_load_35 : decode cX6_load 35 = .ok (.iconst 0, 1) := by decide +kernel
theorem dX6_load_36 : decode cX6_load 36 = .ok (.bastore, 1) := by decide +kernel
theorem dX6_load_37 : decode cX6_load 37 = .ok (.aload_n 0, 1) := by decide +kernel
theorem dX6_load_38 : decode cX6_load 38 = .ok (.getfield 22, 3) := by decide +kernel
theorem dX6_load_41 : decode cX6_load 41 = .ok (.iconst 1, 1) := by decide +kernel
theorem dX6_load_42 : decode cX6_load 42 = .ok (.iconst 0, 1) := by decide +kernel
theorem dX6_load_43 : decode cX6_load 43 = .ok (.bastore, 1) := by decide +kernel
theorem dX6_load_44 : decode cX6_load 44 = .ok (.iconst 0, 1) := by decide +kernel
theorem dX6_load_45 : decode cX6_load 45 = .ok (.istore_n 1, 1) := by decide +kernel
theorem dX6_load_46 : decode cX6_load 46 = .ok (.iconst 0, 1) := by decide +kernel
theorem dX6_load_47 : decode cX6_load 47 = .ok (.istore_n 2, 1) := by decide +kernel
theorem dX6_load_48 : decode cX6_load 48 = .ok (.iload_n 2, 1) := by decide +kernel
theorem dX6_load_49 : decode cX6_load 49 = .ok (.aload_n 0, 1) := by decide +kernel
theorem dX6_load_50 : decode cX6_load 50 = .ok (.getfield 107, 3) := by decide +kernel
theorem dX6_load_53 : decode cX6_load 53 = .ok (.if_icmp .ge 25, 3) := by decide +kernel
theorem dX6_load_56 : decode cX6_load 56 = .ok (.iload_n 1, 1) := by decide +kernel
theorem dX6_load_57 : decode cX6_load 57 = .ok (.aload_n 0, 1) := by decide +kernel
theorem dX6_load_58 : decode cX6_load 58 = .ok (.iload_n 2, 1) := by decide +kernel
theorem dX6_load_59 : decode cX6_load 59 = .ok (.invokevirtual 136, 3) := by decide +kernel
theorem dX6_load_62 : decode cX6_load 62 = .ok (.ifCond .eq 7, 3) := by decide +kernel
theorem dX6_load_65 : decode cX6_load 65 = .ok (.iconst 0, 1) := by decide +kernel
theorem dX6_load_66 : decode cX6_load 66 = .ok (.goto 4, 3) := by decide +kernel
theorem dX6_load_69 : decode cX6_load 69 = .ok (.iconst 1, 1) := by decide +kernel
theorem dX6_load_70 : decode cX6_load 70 = .ok (.iadd, 1) := by decide +kernel
theorem dX6_load_71 : decode cX6_load 71 = .ok (.istore_n 1, 1) := by decide +kernel
theorem dX6_load_72 : decode cX6_load 72 = .ok (.iinc 2 1, 3) := by decide +kernel
theorem dX6_load_75 : decode cX6_load 75 = .ok (.goto (-27), 3) := by decide +kernel
theorem dX6_load_78 : decode cX6_load 78 = .ok (.iload_n 1, 1) := by decide +kernel
theorem dX6_load_79 : decode cX6_load 79 = .ok (.ireturn, 1) := by decide +kernel
set_option maxRecDepth 20000 in
theorem ggX6_about_X6_in : GoodIn wsX6_about wsX6_in := goodIn_r _ [6] (by decide +kernel) (by decide +kernel)
set_option maxRecDepth 20000 in
theorem gX6_about_X6_in : GoodIn wsX6_about (va_wsS RX6 46 yX6_in wsX6_in) := goodIn_app (goodIn_of _ (by decide +kernel)) ggX6_about_X6_in
set_option maxRecDepth 20000 in
theorem ggX6_about_X6_fails : GoodIn wsX6_about wsX6_fails := goodIn_r _ [10, 1, 11, 12, 13, 14, 15, 16, 17, 18, 19, 20, 21, 22, 23, 24] (by decide +kernel) (by decide +kernel)
set_option maxRecDepth 20000 in
theorem gX6_about_X6_fails : GoodIn wsX6_about (wsV RX6 57 RX6 yX6_fails wsX6_fails) := goodIn_app (goodIn_of _ (by decide +kernel)) ggX6_about_X6_fails
theorem dX6_about_0 : decode cX6_about 0 = .ok (.aload_n 0, 1) := by decide +kernel
theorem dX6_about_1 : decode cX6_about 1 = .ok (.iconst 0, 1) := by decide +kernel
theorem dX6_about_2 : decode cX6_about 2 = .ok (.putfield 42, 3) := by decide +kernel
theorem dX6_about_5 : decode cX6_about 5 = .ok (.iload_n 1, 1) := by decide +kernel
theorem dX6_about_6 : decode cX6_about 6 = .ok (.iconst 0, 1) := by decide +kernel
theorem dX6_about_7 : decode cX6_about 7 = .ok (.bipush 7, 2) := by decide +kernel
theorem dX6_about_9 : decode cX6_about 9 = .ok (.invokestatic 46, 3) := by decide +kernel
theorem dX6_about_12 : decode cX6_about 12 = .ok (.ifCond .ne 9, 3) := by decide +kernel
theorem dX6_about_15 : decode cX6_about 15 = .ok (.aload_n 0, 1) := by decide +kernel
theorem dX6_about_16 : decode cX6_about 16 = .ok (.iconst 1, 1) := by decide +kernel
theorem dX6_about_17 : decode cX6_about 17 = .ok (.invokevirtual 57, 3) := by decide +kernel
theorem dX6_about_20 : decode cX6_about 20 = .ok (.ireturn, 1) := by decide +kernel
theorem dX6_about_21 : decode cX6_about 21 = .ok (.iload_n 1, 1) := by decide +kernel
theorem dX6_about_22 : decode cX6_about 22 = .ok (.iconst 2, 1) := by decide +kernel
theorem dX6_about_23 : decode cX6_about 23 = .ok (.if_icmp .ge 18, 3) := by decide +kernel
theorem dX6_about_26 : decode cX6_about 26 = .ok (.aload_n 0, 1) := by decide +kernel
theorem dX6_about_27 : decode cX6_about 27 = .ok (.getfield 7, 3) := by decide +kernel
theorem dX6_about_30 : decode cX6_about 30 = .ok (.iload_n 1, 1) := by decide +kernel
theorem dX6_about_31 : decode cX6_about 31 = .ok (.ifCond .ne 7, 3) := by decide +kernel
theorem dX6_about_34 : decode cX6_about 34 = .ok (.iconst 3, 1) := by decide +kernel
theorem dX6_about_35 : decode cX6_about 35 = .ok (.goto 4, 3) := by decide +kernel
theorem dX6_about_38 : decode cX6_about 38 = .ok (.iconst 4, 1) := by decide +kernel
theorem dX6_about_39 : decode cX6_about 39 = .ok (.iaload, 1) := by decide +kernel
theorem dX6_about_40 : decode cX6_about 40 = .ok (.ireturn, 1) := by decide +kernel
theorem dX6_about_41 : decode cX6_about 41 = .ok (.iload_n 1, 1) := by decide +kernel
theorem dX6_about_42 : decode cX6_about 42 = .ok (.iconst 5, 1) := by decide +kernel
theorem dX6_about_43 : decode cX6_about 43 = .ok (.if_icmp .ne 37, 3) := by decide +kernel
theorem dX6_about_46 : decode cX6_about 46 = .ok (.iconst 0, 1) := by decide +kernel
theorem dX6_about_47 : decode cX6_about 47 = .ok (.istore_n 2, 1) := by decide +kernel
theorem dX6_about_48 : decode cX6_about 48 = .ok (.iconst 0, 1) := by decide +kernel
theorem dX6_about_49 : decode cX6_about 49 = .ok (.istore_n 3, 1) := by decide +kernel
theorem dX6_about_50 : decode cX6_about 50 = .ok (.iload_n 3, 1) := by decide +kernel
theorem dX6_about_51 : decode cX6_about 51 = .ok (.aload_n 0, 1) := by decide +kernel
theorem dX6_about_52 : decode cX6_about 52 = .ok (.getfield 7, 3) := by decide +kernel
theorem dX6_about_55 : decode cX6_about 55 = .ok (.iconst 4, 1) := by decide +kernel
theorem dX6_about_56 : decode cX6_about 56 = .ok (.iaload, 1) := by decide +kernel
theorem dX6_about_57 : decode cX6_about 57 = .ok (.if_icmp .ge 21, 3) := by decide +kernel
theorem dX6_about_60 : decode cX6_about 60 = .ok (.iload_n 2, 1) := by decide +kernel
theorem dX6_about_61 : decode cX6_about 61 = .ok (.aload_n 0, 1) := by decide +kernel
theorem dX6_about_62 : decode cX6_about 62 = .ok (.getfield 7, 3) := by decide +kernel
theorem dX6_about_65 : decode cX6_about 65 = .ok (.bipush 30, 2) := by decide +kernel
theorem dX6_about_67 : decode cX6_about 67 = .ok (.iload_n 3, 1) := by decide +kernel
theorem dX6_about_68 : decode cX6_about 68 = .ok (.iadd, 1) := by decide +kernel
theorem dX6_about_69 : decode cX6_about 69 = .ok (.iaload, 1) := by decide +kernel
theorem dX6_about_70 : decode cX6_about 70 = .ok (.iadd, 1) := by decide +kernel
theorem dX6_about_71 : decode cX6_about 71 = .ok (.istore_n 2, 1) := by decide +kernel
theorem dX6_about_72 : decode cX6_about 72 = .ok (.iinc 3 1, 3) := by decide +kernel
theorem dX6_about_75 : decode cX6_about 75 = .ok (.goto (-25), 3) := by decide +kernel
theorem dX6_about_78 : decode cX6_about 78 = .ok (.iload_n 2, 1) := by decide +kernel
theorem dX6_about_79 : decode cX6_about 79 = .ok (.ireturn, 1) := by decide +kernel
theorem dX6_about_80 : decode cX6_about 80 = .ok (.aload_n 0, 1) := by decide +kernel
theorem dX6_about_81 : decode cX6_about 81 = .ok (.getfield 7, 3) := by decide +kernel
theorem dX6_about_84 : decode cX6_about 84 = .ok (.iload_n 1, 1) := by decide +kernel
theorem dX6_about_85 : decode cX6_about 85 = .ok (.iconst 2, 1) := by decide +kernel
theorem dX6_about_86 : decode cX6_about 86 = .ok (.if_icmp .ne 7, 3) := by decide +kernel
theorem dX6_about_89 : decode cX6_about 89 = .ok (.iconst 0, 1) := by decide +kernel
theorem dX6_about_90 : decode cX6_about 90 = .ok (.goto 34, 3) := by decide +kernel
theorem dX6_about_93 : decode cX6_about 93 = .ok (.iload_n 1, 1) := by decide +kernel
theorem dX6_about_94 : decode cX6_about 94 = .ok (.iconst 3, 1) := by decide +kernel
theorem dX6_about_95 : decode cX6_about 95 = .ok (.if_icmp .ne 7, 3) := by decide +kernel
theorem dX6_about_98 : decode cX6_about 98 = .ok (.iconst 1, 1) := by decide +kernel
theorem dX6_about_99 : decode cX6_about 99 = .ok (.goto 25, 3) := by decide +kernel
theorem dX6_about_102 : decode cX6_about 102 = .ok (.iload_n 1, 1) := by decide +kernel
theorem dX6_about_103 : decode cX6_about 103 = .ok (.iconst 4, 1) := by decide +kernel
theorem dX6_about_104 : decode cX6_about 104 = .ok (.if_icmp .ne 7, 3) := by decide +kernel
theorem dX6_about_107 : decode cX6_about 107 = .ok (.iconst 2, 1) := by decide +kernel
theorem dX6_about_108 : decode cX6_about 108 = .ok (.goto 16, 3) := by decide +kernel
theorem dX6_about_111 : decode cX6_about 111 = .ok (.iload_n 1, 1) := by decide +kernel
theorem dX6_about_112 : decode cX6_about 112 = .ok (.bipush 6, 2) := by decide +kernel
theorem dX6_about_114 : decode cX6_about 114 = .ok (.if_icmp .ne 8, 3) := by decide +kernel
theorem dX6_about_117 : decode cX6_about 117 = .ok (.bipush 10, 2) := by decide +kernel
theorem dX6_about_119 : decode cX6_about 119 = .ok (.goto 5, 3) := by decide +kernel
theorem dX6_about_122 : decode cX6_about 122 = .ok (.bipush 11, 2) := by decide +kernel
theorem dX6_about_124 : decode cX6_about 124 = .ok (.iaload, 1) := by decide +kernel
theorem dX6_about_125 : decode cX6_about 125 = .ok (.ireturn, 1) := by decide +kernel
set_option maxRecDepth 20000 in
theorem ggX6_ofRole_X6_castFor : GoodIn wsX6_ofRole wsX6_castFor := goodIn_r _ [6, 7, 8, 9, 10, 5, 11, 12, 13, 14, 15, 16, 17, 18, 19, 20, 21, 22, 23, 24, 25, 26, 27, 28, 29, 30, 31, 32, 33, 34, 35, 36, 37, 38, 39, 40, 41, 42, 43, 44, 45] (by decide +kernel) (by decide +kernel)
set_option maxRecDepth 20000 in
theorem gX6_ofRole_X6_castFor : GoodIn wsX6_ofRole (wsV RX6 140 RX6 yX6_castFor wsX6_castFor) := goodIn_app (goodIn_of _ (by decide +kernel)) ggX6_ofRole_X6_castFor
set_option maxRecDepth 20000 in
theorem ggX6_ofRole_X6_canPlay : GoodIn wsX6_ofRole wsX6_canPlay := goodIn_r _ [22, 23, 24, 5, 25, 26, 27, 28] (by decide +kernel) (by decide +kernel)
set_option maxRecDepth 20000 in
theorem gX6_ofRole_X6_canPlay : GoodIn wsX6_ofRole (va_wsS RX6 69 yX6_canPlay wsX6_canPlay) := goodIn_app (goodIn_of _ (by decide +kernel)) ggX6_ofRole_X6_canPlay
theorem dX6_ofRole_0 : decode cX6_ofRole 0 = .ok (.iload_n 2, 1) := by decide +kernel
theorem dX6_ofRole_1 : decode cX6_ofRole 1 = .ok (.iconst 2, 1) := by decide +kernel
theorem dX6_ofRole_2 : decode cX6_ofRole 2 = .ok (.if_icmp .ne 13, 3) := by decide +kernel
theorem dX6_ofRole_5 : decode cX6_ofRole 5 = .ok (.aload_n 0, 1) := by decide +kernel
theorem dX6_ofRole_6 : decode cX6_ofRole 6 = .ok (.aload_n 0, 1) := by decide +kernel
theorem dX6_ofRole_7 : decode cX6_ofRole 7 = .ok (.getfield 7, 3) := by decide +kernel
theorem dX6_ofRole_10 : decode cX6_ofRole 10 = .ok (.iload_n 1, 1) := by decide +kernel
theorem dX6_ofRole_11 : decode cX6_ofRole 11 = .ok (.invokevirtual 140, 3) := by decide +kernel
theorem dX6_ofRole_14 : decode cX6_ofRole 14 = .ok (.ireturn, 1) := by decide +kernel
theorem dX6_ofRole_15 : decode cX6_ofRole 15 = .ok (.iload_n 2, 1) := by decide +kernel
theorem dX6_ofRole_16 : decode cX6_ofRole 16 = .ok (.iconst 4, 1) := by decide +kernel
theorem dX6_ofRole_17 : decode cX6_ofRole 17 = .ok (.if_icmp .ne 48, 3) := by decide +kernel
theorem dX6_ofRole_20 : decode cX6_ofRole 20 = .ok (.iconst 0, 1) := by decide +kernel
theorem dX6_ofRole_21 : decode cX6_ofRole 21 = .ok (.istore_n 3, 1) := by decide +kernel
theorem dX6_ofRole_22 : decode cX6_ofRole 22 = .ok (.iconst 0, 1) := by decide +kernel
theorem dX6_ofRole_23 : decode cX6_ofRole 23 = .ok (.istore 4, 2) := by decide +kernel
theorem dX6_ofRole_25 : decode cX6_ofRole 25 = .ok (.iload 4, 2) := by decide +kernel
theorem dX6_ofRole_27 : decode cX6_ofRole 27 = .ok (.aload_n 0, 1) := by decide +kernel
theorem dX6_ofRole_28 : decode cX6_ofRole 28 = .ok (.getfield 7, 3) := by decide +kernel
theorem dX6_ofRole_31 : decode cX6_ofRole 31 = .ok (.iconst 4, 1) := by decide +kernel
theorem dX6_ofRole_32 : decode cX6_ofRole 32 = .ok (.iaload, 1) := by decide +kernel
theorem dX6_ofRole_33 : decode cX6_ofRole 33 = .ok (.if_icmp .ge 30, 3) := by decide +kernel
theorem dX6_ofRole_36 : decode cX6_ofRole 36 = .ok (.iload_n 3, 1) := by decide +kernel
theorem dX6_ofRole_37 : decode cX6_ofRole 37 = .ok (.aload_n 0, 1) := by decide +kernel
theorem dX6_ofRole_38 : decode cX6_ofRole 38 = .ok (.getfield 7, 3) := by decide +kernel
theorem dX6_ofRole_41 : decode cX6_ofRole 41 = .ok (.iload 4, 2) := by decide +kernel
theorem dX6_ofRole_43 : decode cX6_ofRole 43 = .ok (.iload_n 1, 1) := by decide +kernel
theorem dX6_ofRole_44 : decode cX6_ofRole 44 = .ok (.invokestatic 69, 3) := by decide +kernel
theorem dX6_ofRole_47 : decode cX6_ofRole 47 = .ok (.ifCond .eq 7, 3) := by decide +kernel
theorem dX6_ofRole_50 : decode cX6_ofRole 50 = .ok (.iconst 1, 1) := by decide +kernel
theorem dX6_ofRole_51 : decode cX6_ofRole 51 = .ok (.goto 4, 3) := by decide +kernel
theorem dX6_ofRole_54 : decode cX6_ofRole 54 = .ok (.iconst 0, 1) := by decide +kernel
theorem dX6_ofRole_55 : decode cX6_ofRole 55 = .ok (.iadd, 1) := by decide +kernel
theorem dX6_ofRole_56 : decode cX6_ofRole 56 = .ok (.istore_n 3, 1) := by decide +kernel
theorem dX6_ofRole_57 : decode cX6_ofRole 57 = .ok (.iinc 4 1, 3) := by decide +kernel
theorem dX6_ofRole_60 : decode cX6_ofRole 60 = .ok (.goto (-35), 3) := by decide +kernel
theorem dX6_ofRole_63 : decode cX6_ofRole 63 = .ok (.iload_n 3, 1) := by decide +kernel
theorem dX6_ofRole_64 : decode cX6_ofRole 64 = .ok (.ireturn, 1) := by decide +kernel
theorem dX6_ofRole_65 : decode cX6_ofRole 65 = .ok (.iload_n 2, 1) := by decide +kernel
theorem dX6_ofRole_66 : decode cX6_ofRole 66 = .ok (.ifCond .ne 15, 3) := by decide +kernel
theorem dX6_ofRole_69 : decode cX6_ofRole 69 = .ok (.aload_n 0, 1) := by decide +kernel
theorem dX6_ofRole_70 : decode cX6_ofRole 70 = .ok (.getfield 7, 3) := by decide +kernel
theorem dX6_ofRole_73 : decode cX6_ofRole 73 = .ok (.bipush 12, 2) := by decide +kernel
theorem dX6_ofRole_75 : decode cX6_ofRole 75 = .ok (.iload_n 1, 1) := by decide +kernel
theorem dX6_ofRole_76 : decode cX6_ofRole 76 = .ok (.iadd, 1) := by decide +kernel
theorem dX6_ofRole_77 : decode cX6_ofRole 77 = .ok (.iaload, 1) := by decide +kernel
theorem dX6_ofRole_78 : decode cX6_ofRole 78 = .ok (.goto 44, 3) := by decide +kernel
theorem dX6_ofRole_81 : decode cX6_ofRole 81 = .ok (.iload_n 2, 1) := by decide +kernel
theorem dX6_ofRole_82 : decode cX6_ofRole 82 = .ok (.iconst 1, 1) := by decide +kernel
theorem dX6_ofRole_83 : decode cX6_ofRole 83 = .ok (.if_icmp .ne 15, 3) := by decide +kernel
theorem dX6_ofRole_86 : decode cX6_ofRole 86 = .ok (.aload_n 0, 1) := by decide +kernel
theorem dX6_ofRole_87 : decode cX6_ofRole 87 = .ok (.getfield 7, 3) := by decide +kernel
theorem dX6_ofRole_90 : decode cX6_ofRole 90 = .ok (.bipush 18, 2) := by decide +kernel
theorem dX6_ofRole_92 : decode cX6_ofRole 92 = .ok (.iload_n 1, 1) := by decide +kernel
theorem dX6_ofRole_93 : decode cX6_ofRole 93 = .ok (.iadd, 1) := by decide +kernel
theorem dX6_ofRole_94 : decode cX6_ofRole 94 = .ok (.iaload, 1) := by decide +kernel
theorem dX6_ofRole_95 : decode cX6_ofRole 95 = .ok (.goto 27, 3) := by decide +kernel
theorem dX6_ofRole_98 : decode cX6_ofRole 98 = .ok (.aload_n 0, 1) := by decide +kernel
theorem dX6_ofRole_99 : decode cX6_ofRole 99 = .ok (.getfield 7, 3) := by decide +kernel
theorem dX6_ofRole_102 : decode cX6_ofRole 102 = .ok (.bipush 10, 2) := by decide +kernel
theorem dX6_ofRole_104 : decode cX6_ofRole 104 = .ok (.iaload, 1) := by decide +kernel
theorem dX6_ofRole_105 : decode cX6_ofRole 105 = .ok (.iconst 1, 1) := by decide +kernel
theorem dX6_ofRole_106 : decode cX6_ofRole 106 = .ok (.if_icmp .ne 15, 3) := by decide +kernel
theorem dX6_ofRole_109 : decode cX6_ofRole 109 = .ok (.aload_n 0, 1) := by decide +kernel
theorem dX6_ofRole_110 : decode cX6_ofRole 110 = .ok (.getfield 7, 3) := by decide +kernel
theorem dX6_ofRole_113 : decode cX6_ofRole 113 = .ok (.bipush 24, 2) := by decide +kernel
theorem dX6_ofRole_115 : decode cX6_ofRole 115 = .ok (.iload_n 1, 1) := by decide +kernel
theorem dX6_ofRole_116 : decode cX6_ofRole 116 = .ok (.iadd, 1) := by decide +kernel
theorem dX6_ofRole_117 : decode cX6_ofRole 117 = .ok (.iaload, 1) := by decide +kernel
theorem dX6_ofRole_118 : decode cX6_ofRole 118 = .ok (.goto 4, 3) := by decide +kernel
theorem dX6_ofRole_121 : decode cX6_ofRole 121 = .ok (.iconst (-1), 1) := by decide +kernel
theorem dX6_ofRole_122 : decode cX6_ofRole 122 = .ok (.ireturn, 1) := by decide +kernel
set_option maxRecDepth 20000 in
theorem ggX6_role_X6_isRole : GoodIn wsX6_role wsX6_isRole := goodIn_r _ [6, 7, 8, 5, 9] (by decide +kernel) (by decide +kernel)
set_option maxRecDepth 20000 in
theorem gX6_role_X6_isRole : GoodIn wsX6_role (va_wsS RX6 130 yX6_isRole wsX6_isRole) := goodIn_app (goodIn_of _ (by decide +kernel)) ggX6_role_X6_isRole
set_option maxRecDepth 20000 in
theorem ggX6_role_X6_fails : GoodIn wsX6_role wsX6_fails := goodIn_r _ [13, 1, 47, 48, 49, 50, 51, 52, 53, 54, 55, 56, 57, 58, 59, 60] (by decide +kernel) (by decide +kernel)
set_option maxRecDepth 20000 in
theorem gX6_role_X6_fails : GoodIn wsX6_role (wsV RX6 57 RX6 yX6_fails wsX6_fails) := goodIn_app (goodIn_of _ (by decide +kernel)) ggX6_role_X6_fails
set_option maxRecDepth 20000 in
theorem ggX6_role_X6_in : GoodIn wsX6_role wsX6_in := goodIn_r _ [9] (by decide +kernel) (by decide +kernel)
set_option maxRecDepth 20000 in
theorem gX6_role_X6_in : GoodIn wsX6_role (va_wsS RX6 46 yX6_in wsX6_in) := goodIn_app (goodIn_of _ (by decide +kernel)) ggX6_role_X6_in
set_option maxRecDepth 20000 in
theorem ggX6_role_X6_ofRole : GoodIn wsX6_role wsX6_ofRole := goodIn_r _ [17, 2, 18, 19, 20, 5, 21, 22, 23, 24, 25, 26, 27, 28, 29, 30, 31, 32, 33, 34, 35, 36, 37, 38, 39, 40, 41, 42, 43, 44, 45, 46, 47, 48, 49, 50, 51, 52, 53, 54, 55, 56, 57, 58, 59, 60] (by decide +kernel) (by decide +kernel)
set_option maxRecDepth 20000 in
theorem gX6_role_X6_ofRole : GoodIn wsX6_role (wsV RX6 144 RX6 yX6_ofRole wsX6_ofRole) := goodIn_app (goodIn_of _ (by decide +kernel)) ggX6_role_X6_ofRole
theorem dX6_role_0 : decode cX6_role 0 = .ok (.aload_n 0, 1) := by decide +kernel
theorem dX6_role_1 : decode cX6_role 1 = .ok (.iconst 0, 1) := by decide +kernel
theorem dX6_role_2 : decode cX6_role 2 = .ok (.putfield 42, 3) := by decide +kernel
theorem dX6_role_5 : decode cX6_role 5 = .ok (.aload_n 0, 1) := by decide +kernel
theorem dX6_role_6 : decode cX6_role 6 = .ok (.getfield 7, 3) := by decide +kernel
theorem dX6_role_9 : decode cX6_role 9 = .ok (.iload_n 1, 1) := by decide +kernel
theorem dX6_role_10 : decode cX6_role 10 = .ok (.invokestatic 130, 3) := by decide +kernel
theorem dX6_role_13 : decode cX6_role 13 = .ok (.ifCond .ne 9, 3) := by decide +kernel
theorem dX6_role_16 : decode cX6_role 16 = .ok (.aload_n 0, 1) := by decide +kernel
theorem dX6_role_17 : decode cX6_role 17 = .ok (.iconst 1, 1) := by decide +kernel
theorem dX6_role_18 : decode cX6_role 18 = .ok (.invokevirtual 57, 3) := by decide +kernel
theorem dX6_role_21 : decode cX6_role 21 = .ok (.ireturn, 1) := by decide +kernel
theorem dX6_role_22 : decode cX6_role 22 = .ok (.iload_n 2, 1) := by decide +kernel
theorem dX6_role_23 : decode cX6_role 23 = .ok (.iconst 0, 1) := by decide +kernel
theorem dX6_role_24 : decode cX6_role 24 = .ok (.iconst 4, 1) := by decide +kernel
theorem dX6_role_25 : decode cX6_role 25 = .ok (.invokestatic 46, 3) := by decide +kernel
theorem dX6_role_28 : decode cX6_role 28 = .ok (.ifCond .eq 12, 3) := by decide +kernel
theorem dX6_role_31 : decode cX6_role 31 = .ok (.aload_n 0, 1) := by decide +kernel
theorem dX6_role_32 : decode cX6_role 32 = .ok (.iload_n 1, 1) := by decide +kernel
theorem dX6_role_33 : decode cX6_role 33 = .ok (.iload_n 2, 1) := by decide +kernel
theorem dX6_role_34 : decode cX6_role 34 = .ok (.invokevirtual 144, 3) := by decide +kernel
theorem dX6_role_37 : decode cX6_role 37 = .ok (.goto 8, 3) := by decide +kernel
theorem dX6_role_40 : decode cX6_role 40 = .ok (.aload_n 0, 1) := by decide +kernel
theorem dX6_role_41 : decode cX6_role 41 = .ok (.iconst 2, 1) := by decide +kernel
theorem dX6_role_42 : decode cX6_role 42 = .ok (.invokevirtual 57, 3) := by decide +kernel
theorem dX6_role_45 : decode cX6_role 45 = .ok (.ireturn, 1) := by decide +kernel
set_option maxRecDepth 20000 in
theorem ggX6_ofPlayer_X6_casts : GoodIn wsX6_ofPlayer wsX6_casts := goodIn_r _ [7, 8, 2, 9, 10, 6, 11, 12, 13, 14, 15, 16, 17, 18, 19, 20, 21, 22, 23, 24, 25, 26, 27, 28, 29, 30, 31, 32, 33, 34, 35, 36, 37, 38, 39, 40, 41] (by decide +kernel) (by decide +kernel)
set_option maxRecDepth 20000 in
theorem gX6_ofPlayer_X6_casts : GoodIn wsX6_ofPlayer (wsV RX6 83 RX6 yX6_casts wsX6_casts) := goodIn_app (goodIn_of _ (by decide +kernel)) ggX6_ofPlayer_X6_casts
set_option maxRecDepth 20000 in
theorem ggX6_ofPlayer_X6_isFree : GoodIn wsX6_ofPlayer wsX6_isFree := goodIn_r _ [21] (by decide +kernel) (by decide +kernel)
set_option maxRecDepth 20000 in
theorem gX6_ofPlayer_X6_isFree : GoodIn wsX6_ofPlayer (va_wsS RX6 65 yX6_isFree wsX6_isFree) := goodIn_app (goodIn_of _ (by decide +kernel)) ggX6_ofPlayer_X6_isFree
theorem dX6_ofPlayer_0 : decode cX6_ofPlayer 0 = .ok (.iload_n 2, 1) := by decide +kernel
theorem dX6_ofPlayer_1 : decode cX6_ofPlayer 1 = .ok (.iconst 5, 1) := by decide +kernel
theorem dX6_ofPlayer_2 : decode cX6_ofPlayer 2 = .ok (.if_icmp .ne 54, 3) := by decide +kernel
theorem dX6_ofPlayer_5 : decode cX6_ofPlayer 5 = .ok (.aload_n 0, 1) := by decide +kernel
theorem dX6_ofPlayer_6 : decode cX6_ofPlayer 6 = .ok (.aload_n 0, 1) := by decide +kernel
theorem dX6_ofPlayer_7 : decode cX6_ofPlayer 7 = .ok (.getfield 7, 3) := by decide +kernel
theorem dX6_ofPlayer_10 : decode cX6_ofPlayer 10 = .ok (.invokevirtual 83, 3) := by decide +kernel
theorem dX6_ofPlayer_13 : decode cX6_ofPlayer 13 = .ok (.pop, 1) := by decide +kernel
theorem dX6_ofPlayer_14 : decode cX6_ofPlayer 14 = .ok (.iconst (-1), 1) := by decide +kernel
theorem dX6_ofPlayer_15 : decode cX6_ofPlayer 15 = .ok (.istore_n 3, 1) := by decide +kernel
theorem dX6_ofPlayer_16 : decode cX6_ofPlayer 16 = .ok (.iconst 0, 1) := by decide +kernel
theorem dX6_ofPlayer_17 : decode cX6_ofPlayer 17 = .ok (.istore 4, 2) := by decide +kernel
theorem dX6_ofPlayer_19 : decode cX6_ofPlayer 19 = .ok (.iload 4, 2) := by decide +kernel
theorem dX6_ofPlayer_21 : decode cX6_ofPlayer 21 = .ok (.aload_n 0, 1) := by decide +kernel
theorem dX6_ofPlayer_22 : decode cX6_ofPlayer 22 = .ok (.getfield 7, 3) := by decide +kernel
theorem dX6_ofPlayer_25 : decode cX6_ofPlayer 25 = .ok (.iconst 3, 1) := by decide +kernel
theorem dX6_ofPlayer_26 : decode cX6_ofPlayer 26 = .ok (.iaload, 1) := by decide +kernel
theorem dX6_ofPlayer_27 : decode cX6_ofPlayer 27 = .ok (.if_icmp .ge 27, 3) := by decide +kernel
theorem dX6_ofPlayer_30 : decode cX6_ofPlayer 30 = .ok (.aload_n 0, 1) := by decide +kernel
theorem dX6_ofPlayer_31 : decode cX6_ofPlayer 31 = .ok (.getfield 32, 3) := by decide +kernel
theorem dX6_ofPlayer_34 : decode cX6_ofPlayer 34 = .ok (.iload 4, 2) := by decide +kernel
theorem dX6_ofPlayer_36 : decode cX6_ofPlayer 36 = .ok (.iaload, 1) := by decide +kernel
theorem dX6_ofPlayer_37 : decode cX6_ofPlayer 37 = .ok (.iload_n 1, 1) := by decide +kernel
theorem dX6_ofPlayer_38 : decode cX6_ofPlayer 38 = .ok (.if_icmp .ne 8, 3) := by decide +kernel
theorem dX6_ofPlayer_41 : decode cX6_ofPlayer 41 = .ok (.iload 4, 2) := by decide +kernel
theorem dX6_ofPlayer_43 : decode cX6_ofPlayer 43 = .ok (.goto 4, 3) := by decide +kernel
theorem dX6_ofPlayer_46 : decode cX6_ofPlayer 46 = .ok (.iload_n 3, 1) := by decide +kernel
theorem dX6_ofPlayer_47 : decode cX6_ofPlayer 47 = .ok (.istore_n 3, 1) := by decide +kernel
theorem dX6_ofPlayer_48 : decode cX6_ofPlayer 48 = .ok (.iinc 4 1, 3) := by decide +kernel
theorem dX6_ofPlayer_51 : decode cX6_ofPlayer 51 = .ok (.goto (-32), 3) := by decide +kernel
theorem dX6_ofPlayer_54 : decode cX6_ofPlayer 54 = .ok (.iload_n 3, 1) := by decide +kernel
theorem dX6_ofPlayer_55 : decode cX6_ofPlayer 55 = .ok (.ireturn, 1) := by decide +kernel
theorem dX6_ofPlayer_56 : decode cX6_ofPlayer 56 = .ok (.iload_n 2, 1) := by decide +kernel
theorem dX6_ofPlayer_57 : decode cX6_ofPlayer 57 = .ok (.iconst 2, 1) := by decide +kernel
theorem dX6_ofPlayer_58 : decode cX6_ofPlayer 58 = .ok (.if_icmp .ne 42, 3) := by decide +kernel
theorem dX6_ofPlayer_61 : decode cX6_ofPlayer 61 = .ok (.aload_n 0, 1) := by decide +kernel
theorem dX6_ofPlayer_62 : decode cX6_ofPlayer 62 = .ok (.getfield 7, 3) := by decide +kernel
theorem dX6_ofPlayer_65 : decode cX6_ofPlayer 65 = .ok (.bipush 50, 2) := by decide +kernel
theorem dX6_ofPlayer_67 : decode cX6_ofPlayer 67 = .ok (.iload_n 1, 1) := by decide +kernel
theorem dX6_ofPlayer_68 : decode cX6_ofPlayer 68 = .ok (.iadd, 1) := by decide +kernel
theorem dX6_ofPlayer_69 : decode cX6_ofPlayer 69 = .ok (.iaload, 1) := by decide +kernel
theorem dX6_ofPlayer_70 : decode cX6_ofPlayer 70 = .ok (.aload_n 0, 1) := by decide +kernel
theorem dX6_ofPlayer_71 : decode cX6_ofPlayer 71 = .ok (.getfield 7, 3) := by decide +kernel
theorem dX6_ofPlayer_74 : decode cX6_ofPlayer 74 = .ok (.iconst 0, 1) := by decide +kernel
theorem dX6_ofPlayer_75 : decode cX6_ofPlayer 75 = .ok (.iaload, 1) := by decide +kernel
theorem dX6_ofPlayer_76 : decode cX6_ofPlayer 76 = .ok (.if_icmp .le 22, 3) := by decide +kernel
theorem dX6_ofPlayer_79 : decode cX6_ofPlayer 79 = .ok (.aload_n 0, 1) := by decide +kernel
theorem dX6_ofPlayer_80 : decode cX6_ofPlayer 80 = .ok (.getfield 7, 3) := by decide +kernel
theorem dX6_ofPlayer_83 : decode cX6_ofPlayer 83 = .ok (.bipush 50, 2) := by decide +kernel
theorem dX6_ofPlayer_85 : decode cX6_ofPlayer 85 = .ok (.iload_n 1, 1) := by decide +kernel
theorem dX6_ofPlayer_86 : decode cX6_ofPlayer 86 = .ok (.iadd, 1) := by decide +kernel
theorem dX6_ofPlayer_87 : decode cX6_ofPlayer 87 = .ok (.iaload, 1) := by decide +kernel
theorem dX6_ofPlayer_88 : decode cX6_ofPlayer 88 = .ok (.aload_n 0, 1) := by decide +kernel
theorem dX6_ofPlayer_89 : decode cX6_ofPlayer 89 = .ok (.getfield 7, 3) := by decide +kernel
theorem dX6_ofPlayer_92 : decode cX6_ofPlayer 92 = .ok (.iconst 0, 1) := by decide +kernel
theorem dX6_ofPlayer_93 : decode cX6_ofPlayer 93 = .ok (.iaload, 1) := by decide +kernel
theorem dX6_ofPlayer_94 : decode cX6_ofPlayer 94 = .ok (.isub, 1) := by decide +kernel
theorem dX6_ofPlayer_95 : decode cX6_ofPlayer 95 = .ok (.goto 4, 3) := by decide +kernel
theorem dX6_ofPlayer_98 : decode cX6_ofPlayer 98 = .ok (.iconst 0, 1) := by decide +kernel
theorem dX6_ofPlayer_99 : decode cX6_ofPlayer 99 = .ok (.ireturn, 1) := by decide +kernel
theorem dX6_ofPlayer_100 : decode cX6_ofPlayer 100 = .ok (.iload_n 2, 1) := by decide +kernel
theorem dX6_ofPlayer_101 : decode cX6_ofPlayer 101 = .ok (.ifCond .ne 15, 3) := by decide +kernel
theorem dX6_ofPlayer_104 : decode cX6_ofPlayer 104 = .ok (.aload_n 0, 1) := by decide +kernel
theorem dX6_ofPlayer_105 : decode cX6_ofPlayer 105 = .ok (.getfield 7, 3) := by decide +kernel
theorem dX6_ofPlayer_108 : decode cX6_ofPlayer 108 = .ok (.bipush 30, 2) := by decide +kernel
theorem dX6_ofPlayer_110 : decode cX6_ofPlayer 110 = .ok (.iload_n 1, 1) := by decide +kernel
theorem dX6_ofPlayer_111 : decode cX6_ofPlayer 111 = .ok (.iadd, 1) := by decide +kernel
theorem dX6_ofPlayer_112 : decode cX6_ofPlayer 112 = .ok (.iaload, 1) := by decide +kernel
theorem dX6_ofPlayer_113 : decode cX6_ofPlayer 113 = .ok (.goto 53, 3) := by decide +kernel
theorem dX6_ofPlayer_116 : decode cX6_ofPlayer 116 = .ok (.iload_n 2, 1) := by decide +kernel
theorem dX6_ofPlayer_117 : decode cX6_ofPlayer 117 = .ok (.iconst 1, 1) := by decide +kernel
theorem dX6_ofPlayer_118 : decode cX6_ofPlayer 118 = .ok (.if_icmp .ne 15, 3) := by decide +kernel
theorem dX6_ofPlayer_121 : decode cX6_ofPlayer 121 = .ok (.aload_n 0, 1) := by decide +kernel
theorem dX6_ofPlayer_122 : decode cX6_ofPlayer 122 = .ok (.getfield 7, 3) := by decide +kernel
theorem dX6_ofPlayer_125 : decode cX6_ofPlayer 125 = .ok (.bipush 40, 2) := by decide +kernel
theorem dX6_ofPlayer_127 : decode cX6_ofPlayer 127 = .ok (.iload_n 1, 1) := by decide +kernel
theorem dX6_ofPlayer_128 : decode cX6_ofPlayer 128 = .ok (.iadd, 1) := by decide +kernel
theorem dX6_ofPlayer_129 : decode cX6_ofPlayer 129 = .ok (.iaload, 1) := by decide +kernel
theorem dX6_ofPlayer_130 : decode cX6_ofPlayer 130 = .ok (.goto 36, 3) := by decide +kernel
theorem dX6_ofPlayer_133 : decode cX6_ofPlayer 133 = .ok (.iload_n 2, 1) := by decide +kernel
theorem dX6_ofPlayer_134 : decode cX6_ofPlayer 134 = .ok (.iconst 3, 1) := by decide +kernel
theorem dX6_ofPlayer_135 : decode cX6_ofPlayer 135 = .ok (.if_icmp .ne 22, 3) := by decide +kernel
theorem dX6_ofPlayer_138 : decode cX6_ofPlayer 138 = .ok (.aload_n 0, 1) := by decide +kernel
theorem dX6_ofPlayer_139 : decode cX6_ofPlayer 139 = .ok (.getfield 7, 3) := by decide +kernel
theorem dX6_ofPlayer_142 : decode cX6_ofPlayer 142 = .ok (.iload_n 1, 1) := by decide +kernel
theorem dX6_ofPlayer_143 : decode cX6_ofPlayer 143 = .ok (.invokestatic 65, 3) := by decide +kernel
theorem dX6_ofPlayer_146 : decode cX6_ofPlayer 146 = .ok (.ifCond .eq 7, 3) := by decide +kernel
theorem dX6_ofPlayer_149 : decode cX6_ofPlayer 149 = .ok (.iconst 1, 1) := by decide +kernel
theorem dX6_ofPlayer_150 : decode cX6_ofPlayer 150 = .ok (.goto 16, 3) := by decide +kernel
theorem dX6_ofPlayer_153 : decode cX6_ofPlayer 153 = .ok (.iconst 0, 1) := by decide +kernel
theorem dX6_ofPlayer_154 : decode cX6_ofPlayer 154 = .ok (.goto 12, 3) := by decide +kernel
theorem dX6_ofPlayer_157 : decode cX6_ofPlayer 157 = .ok (.aload_n 0, 1) := by decide +kernel
theorem dX6_ofPlayer_158 : decode cX6_ofPlayer 158 = .ok (.getfield 7, 3) := by decide +kernel
theorem dX6_ofPlayer_161 : decode cX6_ofPlayer 161 = .ok (.bipush 60, 2) := by decide +kernel
theorem dX6_ofPlayer_163 : decode cX6_ofPlayer 163 = .ok (.iload_n 1, 1) := by decide +kernel
theorem dX6_ofPlayer_164 : decode cX6_ofPlayer 164 = .ok (.iadd, 1) := by decide +kernel
theorem dX6_ofPlayer_165 : decode cX6_ofPlayer 165 = .ok (.iaload, 1) := by decide +kernel
theorem dX6_ofPlayer_166 : decode cX6_ofPlayer 166 = .ok (.ireturn, 1) := by decide +kernel
set_option maxRecDepth 20000 in
theorem ggX6_player_X6_isPlayer : GoodIn wsX6_player wsX6_isPlayer := goodIn_r _ [6, 7, 8, 5, 9] (by decide +kernel) (by decide +kernel)
set_option maxRecDepth 20000 in
theorem gX6_player_X6_isPlayer : GoodIn wsX6_player (va_wsS RX6 133 yX6_isPlayer wsX6_isPlayer) := goodIn_app (goodIn_of _ (by decide +kernel)) ggX6_player_X6_isPlayer
set_option maxRecDepth 20000 in
theorem ggX6_player_X6_fails : GoodIn wsX6_player wsX6_fails := goodIn_r _ [13, 1, 43, 44, 45, 46, 47, 48, 49, 50, 51, 52, 53, 54, 55, 56] (by decide +kernel) (by decide +kernel)
set_option maxRecDepth 20000 in
theorem gX6_player_X6_fails : GoodIn wsX6_player (wsV RX6 57 RX6 yX6_fails wsX6_fails) := goodIn_app (goodIn_of _ (by decide +kernel)) ggX6_player_X6_fails
set_option maxRecDepth 20000 in
theorem ggX6_player_X6_in : GoodIn wsX6_player wsX6_in := goodIn_r _ [9] (by decide +kernel) (by decide +kernel)
set_option maxRecDepth 20000 in
theorem gX6_player_X6_in : GoodIn wsX6_player (va_wsS RX6 46 yX6_in wsX6_in) := goodIn_app (goodIn_of _ (by decide +kernel)) ggX6_player_X6_in
set_option maxRecDepth 20000 in
theorem ggX6_player_X6_ofPlayer : GoodIn wsX6_player wsX6_ofPlayer := goodIn_r _ [17, 2, 18, 19, 20, 21, 5, 22, 23, 24, 25, 26, 27, 28, 29, 30, 31, 32, 33, 34, 35, 36, 37, 38, 39, 40, 41, 42, 43, 44, 45, 46, 47, 48, 49, 50, 51, 52, 53, 54, 55, 56] (by decide +kernel) (by decide +kernel)
set_option maxRecDepth 20000 in
theorem gX6_player_X6_ofPlayer : GoodIn wsX6_player (wsV RX6 148 RX6 yX6_ofPlayer wsX6_ofPlayer) := goodIn_app (goodIn_of _ (by decide +kernel)) ggX6_player_X6_ofPlayer
theorem dX6_player_0 : decode cX6_player 0 = .ok (.aload_n 0, 1) := by decide +kernel
theorem dX6_player_1 : decode cX6_player 1 = .ok (.iconst 0, 1) := by decide +kernel
theorem dX6_player_2 : decode cX6_player 2 = .ok (.putfield 42, 3) := by decide +kernel
theorem dX6_player_5 : decode cX6_player 5 = .ok (.aload_n 0, 1) := by decide +kernel
theorem dX6_player_6 : decode cX6_player 6 = .ok (.getfield 7, 3) := by decide +kernel
theorem dX6_player_9 : decode cX6_player 9 = .ok (.iload_n 1, 1) := by decide +kernel
theorem dX6_player_10 : decode cX6_player 10 = .ok (.invokestatic 133, 3) := by decide +kernel
theorem dX6_player_13 : decode cX6_player 13 = .ok (.ifCond .ne 9, 3) := by decide +kernel
theorem dX6_player_16 : decode cX6_player 16 = .ok (.aload_n 0, 1) := by decide +kernel
theorem dX6_player_17 : decode cX6_player 17 = .ok (.iconst 1, 1) := by decide +kernel
theorem dX6_player_18 : decode cX6_player 18 = .ok (.invokevirtual 57, 3) := by decide +kernel
theorem dX6_player_21 : decode cX6_player 21 = .ok (.ireturn, 1) := by decide +kernel
theorem dX6_player_22 : decode cX6_player 22 = .ok (.iload_n 2, 1) := by decide +kernel
theorem dX6_player_23 : decode cX6_player 23 = .ok (.iconst 0, 1) := by decide +kernel
theorem dX6_player_24 : decode cX6_player 24 = .ok (.iconst 5, 1) := by decide +kernel
theorem dX6_player_25 : decode cX6_player 25 = .ok (.invokestatic 46, 3) := by decide +kernel
theorem dX6_player_28 : decode cX6_player 28 = .ok (.ifCond .eq 12, 3) := by decide +kernel
theorem dX6_player_31 : decode cX6_player 31 = .ok (.aload_n 0, 1) := by decide +kernel
theorem dX6_player_32 : decode cX6_player 32 = .ok (.iload_n 1, 1) := by decide +kernel
theorem dX6_player_33 : decode cX6_player 33 = .ok (.iload_n 2, 1) := by decide +kernel
theorem dX6_player_34 : decode cX6_player 34 = .ok (.invokevirtual 148, 3) := by decide +kernel
theorem dX6_player_37 : decode cX6_player 37 = .ok (.goto 8, 3) := by decide +kernel
theorem dX6_player_40 : decode cX6_player 40 = .ok (.aload_n 0, 1) := by decide +kernel
theorem dX6_player_41 : decode cX6_player 41 = .ok (.iconst 2, 1) := by decide +kernel
theorem dX6_player_42 : decode cX6_player 42 = .ok (.invokevirtual 57, 3) := by decide +kernel
theorem dX6_player_45 : decode cX6_player 45 = .ok (.ireturn, 1) := by decide +kernel
set_option maxRecDepth 20000 in
theorem ggX6_both_X6_isPlayer : GoodIn wsX6_both wsX6_isPlayer := goodIn_r _ [6, 7, 8, 5, 9] (by decide +kernel) (by decide +kernel)
set_option maxRecDepth 20000 in
theorem gX6_both_X6_isPlayer : GoodIn wsX6_both (va_wsS RX6 133 yX6_isPlayer wsX6_isPlayer) := goodIn_app (goodIn_of _ (by decide +kernel)) ggX6_both_X6_isPlayer
set_option maxRecDepth 20000 in
theorem ggX6_both_X6_isRole : GoodIn wsX6_both wsX6_isRole := goodIn_r _ [12, 7, 8, 5, 9] (by decide +kernel) (by decide +kernel)
set_option maxRecDepth 20000 in
theorem gX6_both_X6_isRole : GoodIn wsX6_both (va_wsS RX6 130 yX6_isRole wsX6_isRole) := goodIn_app (goodIn_of _ (by decide +kernel)) ggX6_both_X6_isRole
set_option maxRecDepth 20000 in
theorem ggX6_both_X6_fails : GoodIn wsX6_both wsX6_fails := goodIn_r _ [16, 1, 23, 24, 25, 26, 27, 28, 29, 30, 31, 32, 33, 34, 35, 36] (by decide +kernel) (by decide +kernel)
set_option maxRecDepth 20000 in
theorem gX6_both_X6_fails : GoodIn wsX6_both (wsV RX6 57 RX6 yX6_fails wsX6_fails) := goodIn_app (goodIn_of _ (by decide +kernel)) ggX6_both_X6_fails
set_option maxRecDepth 20000 in
theorem ggX6_both_X6_in : GoodIn wsX6_both wsX6_in := goodIn_r _ [9] (by decide +kernel) (by decide +kernel)
set_option maxRecDepth 20000 in
theorem gX6_both_X6_in : GoodIn wsX6_both (va_wsS RX6 46 yX6_in wsX6_in) := goodIn_app (goodIn_of _ (by decide +kernel)) ggX6_both_X6_in
set_option maxRecDepth 20000 in
theorem ggX6_both_X6_readyFor : GoodIn wsX6_both wsX6_readyFor := goodIn_r _ [19] (by decide +kernel) (by decide +kernel)
set_option maxRecDepth 20000 in
theorem gX6_both_X6_readyFor : GoodIn wsX6_both (va_wsS RX6 61 yX6_readyFor wsX6_readyFor) := goodIn_app (goodIn_of _ (by decide +kernel)) ggX6_both_X6_readyFor
set_option maxRecDepth 20000 in
theorem ggX6_both_X6_worth : GoodIn wsX6_both wsX6_worth := goodIn_r _ [22, 17, 18, 5, 19] (by decide +kernel) (by decide +kernel)
set_option maxRecDepth 20000 in
theorem gX6_both_X6_worth : GoodIn wsX6_both (va_wsS RX6 73 yX6_worth wsX6_worth) := goodIn_app (goodIn_of _ (by decide +kernel)) ggX6_both_X6_worth
theorem dX6_both_0 : decode cX6_both 0 = .ok (.aload_n 0, 1) := by decide +kernel
theorem dX6_both_1 : decode cX6_both 1 = .ok (.iconst 0, 1) := by decide +kernel
theorem dX6_both_2 : decode cX6_both 2 = .ok (.putfield 42, 3) := by decide +kernel
theorem dX6_both_5 : decode cX6_both 5 = .ok (.aload_n 0, 1) := by decide +kernel
theorem dX6_both_6 : decode cX6_both 6 = .ok (.getfield 7, 3) := by decide +kernel
theorem dX6_both_9 : decode cX6_both 9 = .ok (.iload_n 1, 1) := by decide +kernel
theorem dX6_both_10 : decode cX6_both 10 = .ok (.invokestatic 133, 3) := by decide +kernel
theorem dX6_both_13 : decode cX6_both 13 = .ok (.ifCond .eq 14, 3) := by decide +kernel
theorem dX6_both_16 : decode cX6_both 16 = .ok (.aload_n 0, 1) := by decide +kernel
theorem dX6_both_17 : decode cX6_both 17 = .ok (.getfield 7, 3) := by decide +kernel
theorem dX6_both_20 : decode cX6_both 20 = .ok (.iload_n 2, 1) := by decide +kernel
theorem dX6_both_21 : decode cX6_both 21 = .ok (.invokestatic 130, 3) := by decide +kernel
theorem dX6_both_24 : decode cX6_both 24 = .ok (.ifCond .ne 9, 3) := by decide +kernel
theorem dX6_both_27 : decode cX6_both 27 = .ok (.aload_n 0, 1) := by decide +kernel
theorem dX6_both_28 : decode cX6_both 28 = .ok (.iconst 1, 1) := by decide +kernel
theorem dX6_both_29 : decode cX6_both 29 = .ok (.invokevirtual 57, 3) := by decide +kernel
theorem dX6_both_32 : decode cX6_both 32 = .ok (.ireturn, 1) := by decide +kernel
theorem dX6_both_33 : decode cX6_both 33 = .ok (.iload_n 3, 1) := by decide +kernel
theorem dX6_both_34 : decode cX6_both 34 = .ok (.iconst 0, 1) := by decide +kernel
theorem dX6_both_35 : decode cX6_both 35 = .ok (.iconst 2, 1) := by decide +kernel
theorem dX6_both_36 : decode cX6_both 36 = .ok (.invokestatic 46, 3) := by decide +kernel
theorem dX6_both_39 : decode cX6_both 39 = .ok (.ifCond .ne 9, 3) := by decide +kernel
theorem dX6_both_42 : decode cX6_both 42 = .ok (.aload_n 0, 1) := by decide +kernel
theorem dX6_both_43 : decode cX6_both 43 = .ok (.iconst 2, 1) := by decide +kernel
theorem dX6_both_44 : decode cX6_both 44 = .ok (.invokevirtual 57, 3) := by decide +kernel
theorem dX6_both_47 : decode cX6_both 47 = .ok (.ireturn, 1) := by decide +kernel
theorem dX6_both_48 : decode cX6_both 48 = .ok (.iload_n 3, 1) := by decide +kernel
theorem dX6_both_49 : decode cX6_both 49 = .ok (.ifCond .ne 15, 3) := by decide +kernel
theorem dX6_both_52 : decode cX6_both 52 = .ok (.aload_n 0, 1) := by decide +kernel
theorem dX6_both_53 : decode cX6_both 53 = .ok (.getfield 7, 3) := by decide +kernel
theorem dX6_both_56 : decode cX6_both 56 = .ok (.iload_n 1, 1) := by decide +kernel
theorem dX6_both_57 : decode cX6_both 57 = .ok (.iload_n 2, 1) := by decide +kernel
theorem dX6_both_58 : decode cX6_both 58 = .ok (.invokestatic 61, 3) := by decide +kernel
theorem dX6_both_61 : decode cX6_both 61 = .ok (.goto 35, 3) := by decide +kernel
theorem dX6_both_64 : decode cX6_both 64 = .ok (.iload_n 3, 1) := by decide +kernel
theorem dX6_both_65 : decode cX6_both 65 = .ok (.iconst 1, 1) := by decide +kernel
theorem dX6_both_66 : decode cX6_both 66 = .ok (.if_icmp .ne 21, 3) := by decide +kernel
theorem dX6_both_69 : decode cX6_both 69 = .ok (.aload_n 0, 1) := by decide +kernel
theorem dX6_both_70 : decode cX6_both 70 = .ok (.getfield 7, 3) := by decide +kernel
theorem dX6_both_73 : decode cX6_both 73 = .ok (.sipush 130, 3) := by decide +kernel
theorem dX6_both_76 : decode cX6_both 76 = .ok (.bipush 6, 2) := by decide +kernel
theorem dX6_both_78 : decode cX6_both 78 = .ok (.iload_n 1, 1) := by decide +kernel
theorem dX6_both_79 : decode cX6_both 79 = .ok (.imul, 1) := by decide +kernel
theorem dX6_both_80 : decode cX6_both 80 = .ok (.iadd, 1) := by decide +kernel
theorem dX6_both_81 : decode cX6_both 81 = .ok (.iload_n 2, 1) := by decide +kernel
theorem dX6_both_82 : decode cX6_both 82 = .ok (.iadd, 1) := by decide +kernel
theorem dX6_both_83 : decode cX6_both 83 = .ok (.iaload, 1) := by decide +kernel
theorem dX6_both_84 : decode cX6_both 84 = .ok (.goto 12, 3) := by decide +kernel
theorem dX6_both_87 : decode cX6_both 87 = .ok (.aload_n 0, 1) := by decide +kernel
theorem dX6_both_88 : decode cX6_both 88 = .ok (.getfield 7, 3) := by decide +kernel
theorem dX6_both_91 : decode cX6_both 91 = .ok (.iload_n 1, 1) := by decide +kernel
theorem dX6_both_92 : decode cX6_both 92 = .ok (.iload_n 2, 1) := by decide +kernel
theorem dX6_both_93 : decode cX6_both 93 = .ok (.invokestatic 73, 3) := by decide +kernel
theorem dX6_both_96 : decode cX6_both 96 = .ok (.ireturn, 1) := by decide +kernel
set_option maxRecDepth 20000 in
theorem ggX6_setting_X6_in : GoodIn wsX6_setting wsX6_in := goodIn_r _ [6] (by decide +kernel) (by decide +kernel)
set_option maxRecDepth 20000 in
theorem gX6_setting_X6_in : GoodIn wsX6_setting (va_wsS RX6 46 yX6_in wsX6_in) := goodIn_app (goodIn_of _ (by decide +kernel)) ggX6_setting_X6_in
set_option maxRecDepth 20000 in
theorem ggX6_setting_X6_fails : GoodIn wsX6_setting wsX6_fails := goodIn_r _ [10, 1, 11, 12, 13, 14, 15, 16, 17, 18, 19, 20, 21, 22, 23, 24] (by decide +kernel) (by decide +kernel)
set_option maxRecDepth 20000 in
theorem gX6_setting_X6_fails : GoodIn wsX6_setting (wsV RX6 57 RX6 yX6_fails wsX6_fails) := goodIn_app (goodIn_of _ (by decide +kernel)) ggX6_setting_X6_fails
theorem dX6_setting_0 : decode cX6_setting 0 = .ok (.aload_n 0, 1) := by decide +kernel
theorem dX6_setting_1 : decode cX6_setting 1 = .ok (.iconst 0, 1) := by decide +kernel
theorem dX6_setting_2 : decode cX6_setting 2 = .ok (.putfield 42, 3) := by decide +kernel
theorem dX6_setting_5 : decode cX6_setting 5 = .ok (.iload_n 1, 1) := by decide +kernel
theorem dX6_setting_6 : decode cX6_setting 6 = .ok (.iconst 0, 1) := by decide +kernel
theorem dX6_setting_7 : decode cX6_setting 7 = .ok (.iconst 4, 1) := by decide +kernel
theorem dX6_setting_8 : decode cX6_setting 8 = .ok (.invokestatic 46, 3) := by decide +kernel
theorem dX6_setting_11 : decode cX6_setting 11 = .ok (.ifCond .eq 14, 3) := by decide +kernel
theorem dX6_setting_14 : decode cX6_setting 14 = .ok (.aload_n 0, 1) := by decide +kernel
theorem dX6_setting_15 : decode cX6_setting 15 = .ok (.getfield 7, 3) := by decide +kernel
theorem dX6_setting_18 : decode cX6_setting 18 = .ok (.iconst 5, 1) := by decide +kernel
theorem dX6_setting_19 : decode cX6_setting 19 = .ok (.iload_n 1, 1) := by decide +kernel
theorem dX6_setting_20 : decode cX6_setting 20 = .ok (.iadd, 1) := by decide +kernel
theorem dX6_setting_21 : decode cX6_setting 21 = .ok (.iaload, 1) := by decide +kernel
theorem dX6_setting_22 : decode cX6_setting 22 = .ok (.goto 8, 3) := by decide +kernel
theorem dX6_setting_25 : decode cX6_setting 25 = .ok (.aload_n 0, 1) := by decide +kernel
theorem dX6_setting_26 : decode cX6_setting 26 = .ok (.iconst 1, 1) := by decide +kernel
theorem dX6_setting_27 : decode cX6_setting 27 = .ok (.invokevirtual 57, 3) := by decide +kernel
theorem dX6_setting_30 : decode cX6_setting 30 = .ok (.ireturn, 1) := by decide +kernel
set_option maxRecDepth 20000 in
theorem ggX6_ranked_X6_fails : GoodIn wsX6_ranked wsX6_fails := goodIn_r _ [7, 1, 8, 9, 10, 11, 12, 13, 14, 15, 16, 17, 18, 19, 20, 21] (by decide +kernel) (by decide +kernel)
set_option maxRecDepth 20000 in
theorem gX6_ranked_X6_fails : GoodIn wsX6_ranked (wsV RX6 57 RX6 yX6_fails wsX6_fails) := goodIn_app (goodIn_of _ (by decide +kernel)) ggX6_ranked_X6_fails
theorem dX6_ranked_0 : decode cX6_ranked 0 = .ok (.aload_n 0, 1) := by decide +kernel
theorem dX6_ranked_1 : decode cX6_ranked 1 = .ok (.iconst 0, 1) := by decide +kernel
theorem dX6_ranked_2 : decode cX6_ranked 2 = .ok (.putfield 42, 3) := by decide +kernel
theorem dX6_ranked_5 : decode cX6_ranked 5 = .ok (.iload_n 1, 1) := by decide +kernel
theorem dX6_ranked_6 : decode cX6_ranked 6 = .ok (.ifCond .ge 9, 3) := by decide +kernel
theorem dX6_ranked_9 : decode cX6_ranked 9 = .ok (.aload_n 0, 1) := by decide +kernel
theorem dX6_ranked_10 : decode cX6_ranked 10 = .ok (.iconst 1, 1) := by decide +kernel
theorem dX6_ranked_11 : decode cX6_ranked 11 = .ok (.invokevirtual 57, 3) := by decide +kernel
theorem dX6_ranked_14 : decode cX6_ranked 14 = .ok (.ireturn, 1) := by decide +kernel
theorem dX6_ranked_15 : decode cX6_ranked 15 = .ok (.iconst 0, 1) := by decide +kernel
theorem dX6_ranked_16 : decode cX6_ranked 16 = .ok (.istore_n 2, 1) := by decide +kernel
theorem dX6_ranked_17 : decode cX6_ranked 17 = .ok (.iload_n 2, 1) := by decide +kernel
theorem dX6_ranked_18 : decode cX6_ranked 18 = .ok (.aload_n 0, 1) := by decide +kernel
theorem dX6_ranked_19 : decode cX6_ranked 19 = .ok (.getfield 7, 3) := by decide +kernel
theorem dX6_ranked_22 : decode cX6_ranked 22 = .ok (.iconst 4, 1) := by decide +kernel
theorem dX6_ranked_23 : decode cX6_ranked 23 = .ok (.iaload, 1) := by decide +kernel
theorem dX6_ranked_24 : decode cX6_ranked 24 = .ok (.if_icmp .ge 96, 3) := by decide +kernel
theorem dX6_ranked_27 : decode cX6_ranked 27 = .ok (.iconst 0, 1) := by decide +kernel
theorem dX6_ranked_28 : decode cX6_ranked 28 = .ok (.istore_n 3, 1) := by decide +kernel
theorem dX6_ranked_29 : decode cX6_ranked 29 = .ok (.iconst 0, 1) := by decide +kernel
theorem dX6_ranked_30 : decode cX6_ranked 30 = .ok (.istore 4, 2) := by decide +kernel
theorem dX6_ranked_32 : decode cX6_ranked 32 = .ok (.iload 4, 2) := by decide +kernel
theorem dX6_ranked_34 : decode cX6_ranked 34 = .ok (.aload_n 0, 1) := by decide +kernel
theorem dX6_ranked_35 : decode cX6_ranked 35 = .ok (.getfield 7, 3) := by decide +kernel
theorem dX6_ranked_38 : decode cX6_ranked 38 = .ok (.iconst 4, 1) := by decide +kernel
theorem dX6_ranked_39 : decode cX6_ranked 39 = .ok (.iaload, 1) := by decide +kernel
theorem dX6_ranked_40 : decode cX6_ranked 40 = .ok (.if_icmp .ge 67, 3) := by decide +kernel
theorem dX6_ranked_43 : decode cX6_ranked 43 = .ok (.iload_n 3, 1) := by decide +kernel
theorem dX6_ranked_44 : decode cX6_ranked 44 = .ok (.aload_n 0, 1) := by decide +kernel
theorem dX6_ranked_45 : decode cX6_ranked 45 = .ok (.getfield 7, 3) := by decide +kernel
theorem dX6_ranked_48 : decode cX6_ranked 48 = .ok (.bipush 30, 2) := by decide +kernel
theorem dX6_ranked_50 : decode cX6_ranked 50 = .ok (.iload 4, 2) := by decide +kernel
theorem dX6_ranked_52 : decode cX6_ranked 52 = .ok (.iadd, 1) := by decide +kernel
theorem dX6_ranked_53 : decode cX6_ranked 53 = .ok (.iaload, 1) := by decide +kernel
theorem dX6_ranked_54 : decode cX6_ranked 54 = .ok (.aload_n 0, 1) := by decide +kernel
theorem dX6_ranked_55 : decode cX6_ranked 55 = .ok (.getfield 7, 3) := by decide +kernel
theorem dX6_ranked_58 : decode cX6_ranked 58 = .ok (.bipush 30, 2) := by decide +kernel
theorem dX6_ranked_60 : decode cX6_ranked 60 = .ok (.iload_n 2, 1) := by decide +kernel
theorem dX6_ranked_61 : decode cX6_ranked 61 = .ok (.iadd, 1) := by decide +kernel
theorem dX6_ranked_62 : decode cX6_ranked 62 = .ok (.iaload, 1) := by decide +kernel
theorem dX6_ranked_63 : decode cX6_ranked 63 = .ok (.if_icmp .gt 31, 3) := by decide +kernel
theorem dX6_ranked_66 : decode cX6_ranked 66 = .ok (.aload_n 0, 1) := by decide +kernel
theorem dX6_ranked_67 : decode cX6_ranked 67 = .ok (.getfield 7, 3) := by decide +kernel
theorem dX6_ranked_70 : decode cX6_ranked 70 = .ok (.bipush 30, 2) := by decide +kernel
theorem dX6_ranked_72 : decode cX6_ranked 72 = .ok (.iload 4, 2) := by decide +kernel
theorem dX6_ranked_74 : decode cX6_ranked 74 = .ok (.iadd, 1) := by decide +kernel
theorem dX6_ranked_75 : decode cX6_ranked 75 = .ok (.iaload, 1) := by decide +kernel
theorem dX6_ranked_76 : decode cX6_ranked 76 = .ok (.aload_n 0, 1) := by decide +kernel
theorem dX6_ranked_77 : decode cX6_ranked 77 = .ok (.getfield 7, 3) := by decide +kernel
theorem dX6_ranked_80 : decode cX6_ranked 80 = .ok (.bipush 30, 2) := by decide +kernel
theorem dX6_ranked_82 : decode cX6_ranked 82 = .ok (.iload_n 2, 1) := by decide +kernel
theorem dX6_ranked_83 : decode cX6_ranked 83 = .ok (.iadd, 1) := by decide +kernel
theorem dX6_ranked_84 : decode cX6_ranked 84 = .ok (.iaload, 1) := by decide +kernel
theorem dX6_ranked_85 : decode cX6_ranked 85 = .ok (.if_icmp .ne 13, 3) := by decide +kernel
theorem dX6_ranked_88 : decode cX6_ranked 88 = .ok (.iload 4, 2) := by decide +kernel
theorem dX6_ranked_90 : decode cX6_ranked 90 = .ok (.iload_n 2, 1) := by decide +kernel
theorem dX6_ranked_91 : decode cX6_ranked 91 = .ok (.if_icmp .ge 7, 3) := by decide +kernel
theorem dX6_ranked_94 : decode cX6_ranked 94 = .ok (.iconst 1, 1) := by decide +kernel
theorem dX6_ranked_95 : decode cX6_ranked 95 = .ok (.goto 4, 3) := by decide +kernel
theorem dX6_ranked_98 : decode cX6_ranked 98 = .ok (.iconst 0, 1) := by decide +kernel
theorem dX6_ranked_99 : decode cX6_ranked 99 = .ok (.iadd, 1) := by decide +kernel
theorem dX6_ranked_100 : decode cX6_ranked 100 = .ok (.istore_n 3, 1) := by decide +kernel
theorem dX6_ranked_101 : decode cX6_ranked 101 = .ok (.iinc 4 1, 3) := by decide +kernel
theorem dX6_ranked_104 : decode cX6_ranked 104 = .ok (.goto (-72), 3) := by decide +kernel
theorem dX6_ranked_107 : decode cX6_ranked 107 = .ok (.iload_n 3, 1) := by decide +kernel
theorem dX6_ranked_108 : decode cX6_ranked 108 = .ok (.iload_n 1, 1) := by decide +kernel
theorem dX6_ranked_109 : decode cX6_ranked 109 = .ok (.if_icmp .ne 5, 3) := by decide +kernel
theorem dX6_ranked_112 : decode cX6_ranked 112 = .ok (.iload_n 2, 1) := by decide +kernel
theorem dX6_ranked_113 : decode cX6_ranked 113 = .ok (.ireturn, 1) := by decide +kernel
theorem dX6_ranked_114 : decode cX6_ranked 114 = .ok (.iinc 2 1, 3) := by decide +kernel
theorem dX6_ranked_117 : decode cX6_ranked 117 = .ok (.goto (-100), 3) := by decide +kernel
theorem dX6_ranked_120 : decode cX6_ranked 120 = .ok (.iconst (-1), 1) := by decide +kernel
theorem dX6_ranked_121 : decode cX6_ranked 121 = .ok (.ireturn, 1) := by decide +kernel
theorem dX6_comes_0 : decode cX6_comes 0 = .ok (.aload_n 0, 1) := by decide +kernel
theorem dX6_comes_1 : decode cX6_comes 1 = .ok (.getfield 7, 3) := by decide +kernel
theorem dX6_comes_4 : decode cX6_comes 4 = .ok (.bipush 12, 2) := by decide +kernel
theorem dX6_comes_6 : decode cX6_comes 6 = .ok (.aload_n 0, 1) := by decide +kernel
theorem dX6_comes_7 : decode cX6_comes 7 = .ok (.getfield 7, 3) := by decide +kernel
theorem dX6_comes_10 : decode cX6_comes 10 = .ok (.iconst 3, 1) := by decide +kernel
theorem dX6_comes_11 : decode cX6_comes 11 = .ok (.iaload, 1) := by decide +kernel
theorem dX6_comes_12 : decode cX6_comes 12 = .ok (.iadd, 1) := by decide +kernel
theorem dX6_comes_13 : decode cX6_comes 13 = .ok (.iload_n 1, 1) := by decide +kernel
theorem dX6_comes_14 : decode cX6_comes 14 = .ok (.iastore, 1) := by decide +kernel
theorem dX6_comes_15 : decode cX6_comes 15 = .ok (.aload_n 0, 1) := by decide +kernel
theorem dX6_comes_16 : decode cX6_comes 16 = .ok (.getfield 7, 3) := by decide +kernel
theorem dX6_comes_19 : decode cX6_comes 19 = .ok (.iconst 3, 1) := by decide +kernel
theorem dX6_comes_20 : decode cX6_comes 20 = .ok (.dup2, 1) := by decide +kernel
theorem dX6_comes_21 : decode cX6_comes 21 = .ok (.iaload, 1) := by decide +kernel
theorem dX6_comes_22 : decode cX6_comes 22 = .ok (.iconst 1, 1) := by decide +kernel
theorem dX6_comes_23 : decode cX6_comes 23 = .ok (.iadd, 1) := by decide +kernel
theorem dX6_comes_24 : decode cX6_comes 24 = .ok (.iastore, 1) := by decide +kernel
