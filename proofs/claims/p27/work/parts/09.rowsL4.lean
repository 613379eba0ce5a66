theorem dL_areAlike_228 : decode cL_areAlike 228 = .ok (.istore_n 3, 1) := by decide +kernel
theorem dL_areAlike_229 : decode cL_areAlike 229 = .ok (.iload_n 2, 1) := by decide +kernel
theorem dL_areAlike_230 : decode cL_areAlike 230 = .ok (.iload 4, 2) := by decide +kernel
theorem dL_areAlike_232 : decode cL_areAlike 232 = .ok (.ishr, 1) := by decide +kernel
theorem dL_areAlike_233 : decode cL_areAlike 233 = .ok (.aload_n 0, 1) := by decide +kernel
theorem dL_areAlike_234 : decode cL_areAlike 234 = .ok (.iconst 1, 1) := by decide +kernel
theorem dL_areAlike_235 : decode cL_areAlike 235 = .ok (.invokevirtual 15, 3) := by decide +kernel
theorem dL_areAlike_238 : decode cL_areAlike 238 = .ok (.invokestatic 19, 3) := by decide +kernel
theorem dL_areAlike_241 : decode cL_areAlike 241 = .ok (.istore 5, 2) := by decide +kernel
theorem dL_areAlike_243 : decode cL_areAlike 243 = .ok (.iload_n 3, 1) := by decide +kernel
theorem dL_areAlike_244 : decode cL_areAlike 244 = .ok (.ifCond .eq 26, 3) := by decide +kernel
theorem dL_areAlike_247 : decode cL_areAlike 247 = .ok (.aload_n 0, 1) := by decide +kernel
theorem dL_areAlike_248 : decode cL_areAlike 248 = .ok (.iload 4, 2) := by decide +kernel
theorem dL_areAlike_250 : decode cL_areAlike 250 = .ok (.iload 5, 2) := by decide +kernel
theorem dL_areAlike_252 : decode cL_areAlike 252 = .ok (.invokevirtual 44, 3) := by decide +kernel
theorem dL_areAlike_255 : decode cL_areAlike 255 = .ok (.aload_n 1, 1) := by decide +kernel
theorem dL_areAlike_256 : decode cL_areAlike 256 = .ok (.iload 4, 2) := by decide +kernel
theorem dL_areAlike_258 : decode cL_areAlike 258 = .ok (.iload 5, 2) := by decide +kernel
theorem dL_areAlike_260 : decode cL_areAlike 260 = .ok (.invokevirtual 44, 3) := by decide +kernel
theorem dL_areAlike_263 : decode cL_areAlike 263 = .ok (.if_icmp .ne 7, 3) := by decide +kernel
theorem dL_areAlike_266 : decode cL_areAlike 266 = .ok (.iconst 1, 1) := by decide +kernel
theorem dL_areAlike_267 : decode cL_areAlike 267 = .ok (.goto 4, 3) := by decide +kernel
theorem dL_areAlike_270 : decode cL_areAlike 270 = .ok (.iconst 0, 1) := by decide +kernel
theorem dL_areAlike_271 : decode cL_areAlike 271 = .ok (.istore_n 3, 1) := by decide +kernel
theorem dL_areAlike_272 : decode cL_areAlike 272 = .ok (.iinc 4 1, 3) := by decide +kernel
theorem dL_areAlike_275 : decode cL_areAlike 275 = .ok (.goto (-154), 3) := by decide +kernel
theorem dL_areAlike_278 : decode cL_areAlike 278 = .ok (.iconst 0, 1) := by decide +kernel
theorem dL_areAlike_279 : decode cL_areAlike 279 = .ok (.istore 4, 2) := by decide +kernel
theorem dL_areAlike_281 : decode cL_areAlike 281 = .ok (.iload 4, 2) := by decide +kernel
theorem dL_areAlike_283 : decode cL_areAlike 283 = .ok (.bipush 12, 2) := by decide +kernel
theorem dL_areAlike_285 : decode cL_areAlike 285 = .ok (.if_icmp .ge 49, 3) := by decide +kernel
theorem dL_areAlike_288 : decode cL_areAlike 288 = .ok (.iload_n 3, 1) := by decide +kernel
theorem dL_areAlike_289 : decode cL_areAlike 289 = .ok (.ifCond .eq 37, 3) := by decide +kernel
theorem dL_areAlike_292 : decode cL_areAlike 292 = .ok (.aload_n 0, 1) := by decide +kernel
theorem dL_areAlike_293 : decode cL_areAlike 293 = .ok (.iload 4, 2) := by decide +kernel
theorem dL_areAlike_295 : decode cL_areAlike 295 = .ok (.invokevirtual 31, 3) := by decide +kernel
theorem dL_areAlike_298 : decode cL_areAlike 298 = .ok (.aload_n 1, 1) := by decide +kernel
theorem dL_areAlike_299 : decode cL_areAlike 299 = .ok (.iload 4, 2) := by decide +kernel
theorem dL_areAlike_301 : decode cL_areAlike 301 = .ok (.invokevirtual 31, 3) := by decide +kernel
theorem dL_areAlike_304 : decode cL_areAlike 304 = .ok (.if_icmp .ne 22, 3) := by decide +kernel
theorem dL_areAlike_307 : decode cL_areAlike 307 = .ok (.aload_n 0, 1) := by decide +kernel
theorem dL_areAlike_308 : decode cL_areAlike 308 = .ok (.iload 4, 2) := by decide +kernel
theorem dL_areAlike_310 : decode cL_areAlike 310 = .ok (.invokevirtual 88, 3) := by decide +kernel
theorem dL_areAlike_313 : decode cL_areAlike 313 = .ok (.aload_n 1, 1) := by decide +kernel
theorem dL_areAlike_314 : decode cL_areAlike 314 = .ok (.iload 4, 2) := by decide +kernel
theorem dL_areAlike_316 : decode cL_areAlike 316 = .ok (.invokevirtual 88, 3) := by decide +kernel
theorem dL_areAlike_319 : decode cL_areAlike 319 = .ok (.if_icmp .ne 7, 3) := by decide +kernel
theorem dL_areAlike_322 : decode cL_areAlike 322 = .ok (.iconst 1, 1) := by decide +kernel
theorem dL_areAlike_323 : decode cL_areAlike 323 = .ok (.goto 4, 3) := by decide +kernel
theorem dL_areAlike_326 : decode cL_areAlike 326 = .ok (.iconst 0, 1) := by decide +kernel
theorem dL_areAlike_327 : decode cL_areAlike 327 = .ok (.istore_n 3, 1) := by decide +kernel
theorem dL_areAlike_328 : decode cL_areAlike 328 = .ok (.iinc 4 1, 3) := by decide +kernel
theorem dL_areAlike_331 : decode cL_areAlike 331 = .ok (.goto (-50), 3) := by decide +kernel
theorem dL_areAlike_334 : decode cL_areAlike 334 = .ok (.iload_n 2, 1) := by decide +kernel
theorem dL_areAlike_335 : decode cL_areAlike 335 = .ok (.iconst 5, 1) := by decide +kernel
theorem dL_areAlike_336 : decode cL_areAlike 336 = .ok (.ishr, 1) := by decide +kernel
theorem dL_areAlike_337 : decode cL_areAlike 337 = .ok (.bipush 61, 2) := by decide +kernel
theorem dL_areAlike_339 : decode cL_areAlike 339 = .ok (.invokestatic 19, 3) := by decide +kernel
theorem dL_areAlike_342 : decode cL_areAlike 342 = .ok (.istore 4, 2) := by decide +kernel
theorem dL_areAlike_344 : decode cL_areAlike 344 = .ok (.iload_n 3, 1) := by decide +kernel
theorem dL_areAlike_345 : decode cL_areAlike 345 = .ok (.ifCond .eq 40, 3) := by decide +kernel
theorem dL_areAlike_348 : decode cL_areAlike 348 = .ok (.aload_n 0, 1) := by decide +kernel
theorem dL_areAlike_349 : decode cL_areAlike 349 = .ok (.iconst 1, 1) := by decide +kernel
theorem dL_areAlike_350 : decode cL_areAlike 350 = .ok (.iload_n 2, 1) := by decide +kernel
theorem dL_areAlike_351 : decode cL_areAlike 351 = .ok (.bipush 9, 2) := by decide +kernel
theorem dL_areAlike_353 : decode cL_areAlike 353 = .ok (.invokestatic 19, 3) := by decide +kernel
theorem dL_areAlike_356 : decode cL_areAlike 356 = .ok (.iadd, 1) := by decide +kernel
theorem dL_areAlike_357 : decode cL_areAlike 357 = .ok (.iload 4, 2) := by decide +kernel
theorem dL_areAlike_359 : decode cL_areAlike 359 = .ok (.invokevirtual 91, 3) := by decide +kernel
theorem dL_areAlike_362 : decode cL_areAlike 362 = .ok (.aload_n 1, 1) := by decide +kernel
theorem dL_areAlike_363 : decode cL_areAlike 363 = .ok (.iconst 1, 1) := by decide +kernel
theorem dL_areAlike_364 : decode cL_areAlike 364 = .ok (.iload_n 2, 1) := by decide +kernel
theorem dL_areAlike_365 : decode cL_areAlike 365 = .ok (.bipush 9, 2) := by decide +kernel
theorem dL_areAlike_367 : decode cL_areAlike 367 = .ok (.invokestatic 19, 3) := by decide +kernel
theorem dL_areAlike_370 : decode cL_areAlike 370 = .ok (.iadd, 1) := by decide +kernel
theorem dL_areAlike_371 : decode cL_areAlike 371 = .ok (.iconst 2, 1) := by decide +kernel
theorem dL_areAlike_372 : decode cL_areAlike 372 = .ok (.iload 4, 2) := by decide +kernel
theorem dL_areAlike_374 : decode cL_areAlike 374 = .ok (.imul, 1) := by decide +kernel
theorem dL_areAlike_375 : decode cL_areAlike 375 = .ok (.invokevirtual 91, 3) := by decide +kernel
theorem dL_areAlike_378 : decode cL_areAlike 378 = .ok (.if_icmp .ne 7, 3) := by decide +kernel
theorem dL_areAlike_381 : decode cL_areAlike 381 = .ok (.iconst 1, 1) := by decide +kernel
theorem dL_areAlike_382 : decode cL_areAlike 382 = .ok (.goto 4, 3) := by decide +kernel
theorem dL_areAlike_385 : decode cL_areAlike 385 = .ok (.iconst 0, 1) := by decide +kernel
theorem dL_areAlike_386 : decode cL_areAlike 386 = .ok (.ireturn, 1) := by decide +kernel
set_option maxRecDepth 20000 in
theorem ggL_isWell_X4_count : GoodIn wsL_isWell wsX4_count := goodIn_r _ [6, 7, 8, 9, 10, 11, 12, 13, 14, 15, 16, 17, 18, 19, 20, 21, 22, 23, 24, 25, 26, 27, 28, 29, 30, 31, 32, 33, 34, 35, 36, 37, 38, 39, 40, 41, 42, 43, 44, 45, 46, 47, 48, 49, 50, 51, 52, 193, 194, 195, 196, 197, 198, 199, 200, 201, 202, 203, 204, 205, 206, 207, 208, 209, 210, 211, 212, 213, 214, 215, 216, 217, 218, 219] (by decide +kernel) (by decide +kernel)
set_option maxRecDepth 20000 in
theorem gL_isWell_X4_count : GoodIn wsL_isWell (wsV RL 15 RX4 yX4_count wsX4_count) := goodIn_app (goodIn_of _ (by decide +kernel)) ggL_isWell_X4_count
set_option maxRecDepth 20000 in
theorem ggL_isWell_X4_wrongPairs : GoodIn wsL_isWell wsX4_wrongPairs := goodIn_r _ [56, 9, 57, 58, 59, 25, 60, 61, 62, 63, 64, 65, 66, 67, 68, 69, 70, 71, 72, 73, 74, 75, 76, 77, 193, 194, 195, 196, 197, 198, 199, 200, 211, 212, 213, 214, 215, 216, 217, 218, 219, 220, 221] (by decide +kernel) (by decide +kernel)
set_option maxRecDepth 20000 in
theorem gL_isWell_X4_wrongPairs : GoodIn wsL_isWell (wsV RL 37 RX4 yX4_wrongPairs wsX4_wrongPairs) := goodIn_app (goodIn_of _ (by decide +kernel)) ggL_isWell_X4_wrongPairs
set_option maxRecDepth 20000 in
theorem ggL_isWell_X4_changesNeeded : GoodIn wsL_isWell wsX4_changesNeeded := goodIn_r _ [81, 82, 9, 83, 84, 85, 25, 86, 39, 77, 52, 61, 87, 28, 27, 29, 30, 88, 5, 89, 90, 91, 92, 93, 94, 95, 96, 97, 98, 99, 100, 65, 101, 72, 67, 102, 103, 104, 105, 106, 107, 108, 109, 110, 62, 63, 64, 66, 68, 69, 70, 71, 73, 74, 75, 76, 111, 112, 113, 114, 115, 116, 117, 118, 193, 194, 195, 196, 197, 198, 199, 200, 211, 212, 213, 214, 215, 216, 217, 218, 219, 220, 221] (by decide +kernel) (by decide +kernel)
set_option maxRecDepth 20000 in
theorem gL_isWell_X4_changesNeeded : GoodIn wsL_isWell (wsV RL 73 RX4 yX4_changesNeeded wsX4_changesNeeded) := goodIn_app (goodIn_of _ (by decide +kernel)) ggL_isWell_X4_changesNeeded
set_option maxRecDepth 20000 in
theorem ggL_isWell_X4_king : GoodIn wsL_isWell wsX4_king := goodIn_r _ [122, 9, 123, 41, 42, 25, 43, 28, 124, 125, 126, 127, 61, 87, 128, 129, 130, 65, 131, 67, 72, 35, 36, 37, 38, 39, 40, 193, 194, 195, 196, 197, 198, 199, 200, 211, 212, 213, 214, 215, 216, 217, 218, 219, 220, 221] (by decide +kernel) (by decide +kernel)
set_option maxRecDepth 20000 in
theorem gL_isWell_X4_king : GoodIn wsL_isWell (wsV RL 28 RX4 yX4_king wsX4_king) := goodIn_app (goodIn_of _ (by decide +kernel)) ggL_isWell_X4_king
set_option maxRecDepth 20000 in
theorem ggL_isWell_X4_seat : GoodIn wsL_isWell wsX4_seat := goodIn_r _ [135, 9, 136, 137, 138, 25, 139, 61, 68, 69, 70, 65, 71, 67, 72, 193, 194, 195, 196, 197, 198, 199, 200, 211, 212, 213, 214, 215, 216, 217, 218, 219, 220, 221] (by decide +kernel) (by decide +kernel)
set_option maxRecDepth 20000 in
theorem gL_isWell_X4_seat : GoodIn wsL_isWell (wsV RL 31 RX4 yX4_seat wsX4_seat) := goodIn_app (goodIn_of _ (by decide +kernel)) ggL_isWell_X4_seat
set_option maxRecDepth 20000 in
theorem ggL_isWell_X4_waits : GoodIn wsL_isWell wsX4_waits := goodIn_r _ [143, 9, 144, 145, 146, 25, 147, 87, 68, 69, 70, 65, 71, 67, 72, 193, 194, 195, 196, 197, 198, 199, 200, 211, 212, 213, 214, 215, 216, 217, 218, 219, 220, 221] (by decide +kernel) (by decide +kernel)
set_option maxRecDepth 20000 in
theorem gL_isWell_X4_waits : GoodIn wsL_isWell (wsV RL 88 RX4 yX4_waits wsX4_waits) := goodIn_app (goodIn_of _ (by decide +kernel)) ggL_isWell_X4_waits
set_option maxRecDepth 20000 in
theorem ggL_isWell_X4_reason : GoodIn wsL_isWell wsX4_reason := goodIn_r _ [151, 9, 123, 41, 42, 25, 43, 28, 152, 153, 154, 155, 61, 128, 129, 130, 65, 131, 67, 72, 73, 74, 75, 76, 77, 35, 36, 37, 38, 39, 40, 193, 194, 195, 196, 197, 198, 199, 200, 211, 212, 213, 214, 215, 216, 217, 218, 219, 220, 221] (by decide +kernel) (by decide +kernel)
set_option maxRecDepth 20000 in
theorem gL_isWell_X4_reason : GoodIn wsL_isWell (wsV RL 44 RX4 yX4_reason wsX4_reason) := goodIn_app (goodIn_of _ (by decide +kernel)) ggL_isWell_X4_reason
set_option maxRecDepth 20000 in
theorem ggL_isWell_X4_dueIn : GoodIn wsL_isWell wsX4_dueIn := goodIn_r _ [159, 9, 82, 123, 41, 42, 25, 43, 28, 124, 125, 126, 127, 61, 87, 128, 129, 130, 65, 131, 67, 72, 35, 36, 37, 38, 39, 40, 83, 84, 85, 86, 77, 52, 27, 29, 30, 88, 5, 89, 90, 91, 92, 93, 94, 95, 96, 97, 98, 99, 100, 101, 102, 160, 161, 162, 163, 68, 69, 70, 71, 73, 74, 75, 76, 164, 49, 50, 51, 103, 104, 105, 106, 107, 108, 109, 110, 62, 63, 64, 66, 111, 112, 113, 114, 115, 116, 117, 118, 193, 194, 195, 196, 197, 198, 199, 200, 211, 212, 213, 214, 215, 216, 217, 218, 219, 220, 221] (by decide +kernel) (by decide +kernel)
set_option maxRecDepth 20000 in
theorem gL_isWell_X4_dueIn : GoodIn wsL_isWell (wsV RL 85 RX4 yX4_dueIn wsX4_dueIn) := goodIn_app (goodIn_of _ (by decide +kernel)) ggL_isWell_X4_dueIn
set_option maxRecDepth 20000 in
theorem ggL_isWell_X4_ifRounds : GoodIn wsL_isWell wsX4_ifRounds := goodIn_r _ [168, 82, 9, 83, 84, 85, 25, 86, 39, 77, 52, 61, 87, 28, 27, 29, 30, 88, 5, 89, 90, 91, 92, 93, 94, 95, 96, 97, 98, 99, 100, 65, 101, 72, 67, 102, 169, 170, 171, 172, 62, 63, 64, 66, 68, 69, 70, 71, 35, 36, 37, 38, 40, 41, 42, 43, 173, 174, 175, 176, 107, 108, 109, 110, 73, 74, 75, 76, 177, 178, 179, 180, 181, 161, 162, 163, 128, 129, 130, 131, 48, 49, 50, 51, 182, 104, 105, 106, 111, 112, 113, 114, 115, 116, 117, 118, 183, 184, 185, 186, 187, 188, 189, 190, 191, 192, 45, 46, 47, 193, 194, 195, 196, 197, 198, 199, 200, 211, 212, 213, 214, 215, 216, 217, 218, 219, 220, 221] (by decide +kernel) (by decide +kernel)
set_option maxRecDepth 20000 in
theorem gL_isWell_X4_ifRounds : GoodIn wsL_isWell (wsV RL 82 RX4 yX4_ifRounds wsX4_ifRounds) := goodIn_app (goodIn_of _ (by decide +kernel)) ggL_isWell_X4_ifRounds
theorem dL_isWell_0 : decode cL_isWell 0 = .ok (.aload_n 0, 1) := by decide +kernel
theorem dL_isWell_1 : decode cL_isWell 1 = .ok (.iconst 1, 1) := by decide +kernel
theorem dL_isWell_2 : decode cL_isWell 2 = .ok (.invokevirtual 15, 3) := by decide +kernel
theorem dL_isWell_5 : decode cL_isWell 5 = .ok (.istore_n 1, 1) := by decide +kernel
theorem dL_isWell_6 : decode cL_isWell 6 = .ok (.iconst 0, 1) := by decide +kernel
theorem dL_isWell_7 : decode cL_isWell 7 = .ok (.istore_n 2, 1) := by decide +kernel
theorem dL_isWell_8 : decode cL_isWell 8 = .ok (.iconst 0, 1) := by decide +kernel
theorem dL_isWell_9 : decode cL_isWell 9 = .ok (.istore_n 3, 1) := by decide +kernel
theorem dL_isWell_10 : decode cL_isWell 10 = .ok (.iconst 0, 1) := by decide +kernel
theorem dL_isWell_11 : decode cL_isWell 11 = .ok (.istore 4, 2) := by decide +kernel
theorem dL_isWell_13 : decode cL_isWell 13 = .ok (.iconst 4, 1) := by decide +kernel
theorem dL_isWell_14 : decode cL_isWell 14 = .ok (.newarray .int, 2) := by decide +kernel
theorem dL_isWell_16 : decode cL_isWell 16 = .ok (.astore 5, 2) := by decide +kernel
theorem dL_isWell_18 : decode cL_isWell 18 = .ok (.aload_n 0, 1) := by decide +kernel
theorem dL_isWell_19 : decode cL_isWell 19 = .ok (.invokevirtual 37, 3) := by decide +kernel
theorem dL_isWell_22 : decode cL_isWell 22 = .ok (.aload_n 0, 1) := by decide +kernel
theorem dL_isWell_23 : decode cL_isWell 23 = .ok (.invokevirtual 73, 3) := by decide +kernel
theorem dL_isWell_26 : decode cL_isWell 26 = .ok (.if_icmp .ne 21, 3) := by decide +kernel
theorem dL_isWell_29 : decode cL_isWell 29 = .ok (.aload_n 0, 1) := by decide +kernel
theorem dL_isWell_30 : decode cL_isWell 30 = .ok (.iconst 4, 1) := by decide +kernel
theorem dL_isWell_31 : decode cL_isWell 31 = .ok (.invokevirtual 15, 3) := by decide +kernel
theorem dL_isWell_34 : decode cL_isWell 34 = .ok (.aload_n 0, 1) := by decide +kernel
theorem dL_isWell_35 : decode cL_isWell 35 = .ok (.bipush 11, 2) := by decide +kernel
theorem dL_isWell_37 : decode cL_isWell 37 = .ok (.invokevirtual 15, 3) := by decide +kernel
theorem dL_isWell_40 : decode cL_isWell 40 = .ok (.if_icmp .gt 7, 3) := by decide +kernel
theorem dL_isWell_43 : decode cL_isWell 43 = .ok (.iconst 1, 1) := by decide +kernel
theorem dL_isWell_44 : decode cL_isWell 44 = .ok (.goto 4, 3) := by decide +kernel
theorem dL_isWell_47 : decode cL_isWell 47 = .ok (.iconst 0, 1) := by decide +kernel
theorem dL_isWell_48 : decode cL_isWell 48 = .ok (.istore 6, 2) := by decide +kernel
theorem dL_isWell_50 : decode cL_isWell 50 = .ok (.iconst 0, 1) := by decide +kernel
theorem dL_isWell_51 : decode cL_isWell 51 = .ok (.istore 7, 2) := by decide +kernel
theorem dL_isWell_53 : decode cL_isWell 53 = .ok (.iload 7, 2) := by decide +kernel
theorem dL_isWell_55 : decode cL_isWell 55 = .ok (.iload_n 1, 1) := by decide +kernel
theorem dL_isWell_56 : decode cL_isWell 56 = .ok (.if_icmp .ge 244, 3) := by decide +kernel
theorem dL_isWell_59 : decode cL_isWell 59 = .ok (.aload_n 0, 1) := by decide +kernel
theorem dL_isWell_60 : decode cL_isWell 60 = .ok (.iload 7, 2) := by decide +kernel
theorem dL_isWell_62 : decode cL_isWell 62 = .ok (.iconst 4, 1) := by decide +kernel
theorem dL_isWell_63 : decode cL_isWell 63 = .ok (.invokevirtual 28, 3) := by decide +kernel
theorem dL_isWell_66 : decode cL_isWell 66 = .ok (.istore 8, 2) := by decide +kernel
theorem dL_isWell_68 : decode cL_isWell 68 = .ok (.aload_n 0, 1) := by decide +kernel
theorem dL_isWell_69 : decode cL_isWell 69 = .ok (.iload 7, 2) := by decide +kernel
theorem dL_isWell_71 : decode cL_isWell 71 = .ok (.iconst 5, 1) := by decide +kernel
theorem dL_isWell_72 : decode cL_isWell 72 = .ok (.invokevirtual 28, 3) := by decide +kernel
theorem dL_isWell_75 : decode cL_isWell 75 = .ok (.istore 9, 2) := by decide +kernel
theorem dL_isWell_77 : decode cL_isWell 77 = .ok (.iload_n 2, 1) := by decide +kernel
theorem dL_isWell_78 : decode cL_isWell 78 = .ok (.aload_n 0, 1) := by decide +kernel
theorem dL_isWell_79 : decode cL_isWell 79 = .ok (.iload 7, 2) := by decide +kernel
theorem dL_isWell_81 : decode cL_isWell 81 = .ok (.bipush 6, 2) := by decide +kernel
theorem dL_isWell_83 : decode cL_isWell 83 = .ok (.invokevirtual 28, 3) := by decide +kernel
theorem dL_isWell_86 : decode cL_isWell 86 = .ok (.iadd, 1) := by decide +kernel
theorem dL_isWell_87 : decode cL_isWell 87 = .ok (.istore_n 2, 1) := by decide +kernel
theorem dL_isWell_88 : decode cL_isWell 88 = .ok (.iload_n 3, 1) := by decide +kernel
theorem dL_isWell_89 : decode cL_isWell 89 = .ok (.aload_n 0, 1) := by decide +kernel
theorem dL_isWell_90 : decode cL_isWell 90 = .ok (.iload 7, 2) := by decide +kernel
theorem dL_isWell_92 : decode cL_isWell 92 = .ok (.bipush 7, 2) := by decide +kernel
theorem dL_isWell_94 : decode cL_isWell 94 = .ok (.invokevirtual 28, 3) := by decide +kernel
theorem dL_isWell_97 : decode cL_isWell 97 = .ok (.iadd, 1) := by decide +kernel
theorem dL_isWell_98 : decode cL_isWell 98 = .ok (.istore_n 3, 1) := by decide +kernel
theorem dL_isWell_99 : decode cL_isWell 99 = .ok (.iload 4, 2) := by decide +kernel
theorem dL_isWell_101 : decode cL_isWell 101 = .ok (.aload_n 0, 1) := by decide +kernel
theorem dL_isWell_102 : decode cL_isWell 102 = .ok (.iload 7, 2) := by decide +kernel
theorem dL_isWell_104 : decode cL_isWell 104 = .ok (.bipush 8, 2) := by decide +kernel
theorem dL_isWell_106 : decode cL_isWell 106 = .ok (.invokevirtual 28, 3) := by decide +kernel
theorem dL_isWell_109 : decode cL_isWell 109 = .ok (.iadd, 1) := by decide +kernel
theorem dL_isWell_110 : decode cL_isWell 110 = .ok (.istore 4, 2) := by decide +kernel
theorem dL_isWell_112 : decode cL_isWell 112 = .ok (.aload 5, 2) := by decide +kernel
theorem dL_isWell_114 : decode cL_isWell 114 = .ok (.aload_n 0, 1) := by decide +kernel
theorem dL_isWell_115 : decode cL_isWell 115 = .ok (.iload 7, 2) := by decide +kernel
theorem dL_isWell_117 : decode cL_isWell 117 = .ok (.iconst 3, 1) := by decide +kernel
theorem dL_isWell_118 : decode cL_isWell 118 = .ok (.invokevirtual 28, 3) := by decide +kernel
theorem dL_isWell_121 : decode cL_isWell 121 = .ok (.dup2, 1) := by decide +kernel
theorem dL_isWell_122 : decode cL_isWell 122 = .ok (.iaload, 1) := by decide +kernel
theorem dL_isWell_123 : decode cL_isWell 123 = .ok (.iconst 1, 1) := by decide +kernel
theorem dL_isWell_124 : decode cL_isWell 124 = .ok (.iadd, 1) := by decide +kernel
theorem dL_isWell_125 : decode cL_isWell 125 = .ok (.iastore, 1) := by decide +kernel
theorem dL_isWell_126 : decode cL_isWell 126 = .ok (.iload 6, 2) := by decide +kernel
