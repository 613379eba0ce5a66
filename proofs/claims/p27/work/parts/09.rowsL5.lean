theorem dL_isWell_128 : decode cL_isWell 128 = .ok (.ifCond .eq 163, 3) := by decide +kernel
theorem dL_isWell_131 : decode cL_isWell 131 = .ok (.iload 8, 2) := by decide +kernel
theorem dL_isWell_133 : decode cL_isWell 133 = .ok (.ifCond .lt 7, 3) := by decide +kernel
theorem dL_isWell_136 : decode cL_isWell 136 = .ok (.iconst 1, 1) := by decide +kernel
theorem dL_isWell_137 : decode cL_isWell 137 = .ok (.goto 4, 3) := by decide +kernel
theorem dL_isWell_140 : decode cL_isWell 140 = .ok (.iconst 0, 1) := by decide +kernel
theorem dL_isWell_141 : decode cL_isWell 141 = .ok (.aload_n 0, 1) := by decide +kernel
theorem dL_isWell_142 : decode cL_isWell 142 = .ok (.iload 7, 2) := by decide +kernel
theorem dL_isWell_144 : decode cL_isWell 144 = .ok (.iconst 3, 1) := by decide +kernel
theorem dL_isWell_145 : decode cL_isWell 145 = .ok (.invokevirtual 28, 3) := by decide +kernel
theorem dL_isWell_148 : decode cL_isWell 148 = .ok (.iconst 2, 1) := by decide +kernel
theorem dL_isWell_149 : decode cL_isWell 149 = .ok (.if_icmp .ne 7, 3) := by decide +kernel
theorem dL_isWell_152 : decode cL_isWell 152 = .ok (.iconst 1, 1) := by decide +kernel
theorem dL_isWell_153 : decode cL_isWell 153 = .ok (.goto 4, 3) := by decide +kernel
theorem dL_isWell_156 : decode cL_isWell 156 = .ok (.iconst 0, 1) := by decide +kernel
theorem dL_isWell_157 : decode cL_isWell 157 = .ok (.if_icmp .ne 134, 3) := by decide +kernel
theorem dL_isWell_160 : decode cL_isWell 160 = .ok (.iload 9, 2) := by decide +kernel
theorem dL_isWell_162 : decode cL_isWell 162 = .ok (.ifCond .lt 7, 3) := by decide +kernel
theorem dL_isWell_165 : decode cL_isWell 165 = .ok (.iconst 1, 1) := by decide +kernel
theorem dL_isWell_166 : decode cL_isWell 166 = .ok (.goto 4, 3) := by decide +kernel
theorem dL_isWell_169 : decode cL_isWell 169 = .ok (.iconst 0, 1) := by decide +kernel
theorem dL_isWell_170 : decode cL_isWell 170 = .ok (.aload_n 0, 1) := by decide +kernel
theorem dL_isWell_171 : decode cL_isWell 171 = .ok (.iload 7, 2) := by decide +kernel
theorem dL_isWell_173 : decode cL_isWell 173 = .ok (.iconst 3, 1) := by decide +kernel
theorem dL_isWell_174 : decode cL_isWell 174 = .ok (.invokevirtual 28, 3) := by decide +kernel
theorem dL_isWell_177 : decode cL_isWell 177 = .ok (.iconst 1, 1) := by decide +kernel
theorem dL_isWell_178 : decode cL_isWell 178 = .ok (.if_icmp .ne 7, 3) := by decide +kernel
theorem dL_isWell_181 : decode cL_isWell 181 = .ok (.iconst 1, 1) := by decide +kernel
theorem dL_isWell_182 : decode cL_isWell 182 = .ok (.goto 4, 3) := by decide +kernel
theorem dL_isWell_185 : decode cL_isWell 185 = .ok (.iconst 0, 1) := by decide +kernel
theorem dL_isWell_186 : decode cL_isWell 186 = .ok (.if_icmp .ne 105, 3) := by decide +kernel
theorem dL_isWell_189 : decode cL_isWell 189 = .ok (.iload 8, 2) := by decide +kernel
theorem dL_isWell_191 : decode cL_isWell 191 = .ok (.ifCond .lt 14, 3) := by decide +kernel
theorem dL_isWell_194 : decode cL_isWell 194 = .ok (.aload_n 0, 1) := by decide +kernel
theorem dL_isWell_195 : decode cL_isWell 195 = .ok (.iload 8, 2) := by decide +kernel
theorem dL_isWell_197 : decode cL_isWell 197 = .ok (.invokevirtual 31, 3) := by decide +kernel
theorem dL_isWell_200 : decode cL_isWell 200 = .ok (.iload 7, 2) := by decide +kernel
theorem dL_isWell_202 : decode cL_isWell 202 = .ok (.if_icmp .ne 89, 3) := by decide +kernel
theorem dL_isWell_205 : decode cL_isWell 205 = .ok (.iload 9, 2) := by decide +kernel
theorem dL_isWell_207 : decode cL_isWell 207 = .ok (.ifCond .lt 14, 3) := by decide +kernel
theorem dL_isWell_210 : decode cL_isWell 210 = .ok (.aload_n 0, 1) := by decide +kernel
theorem dL_isWell_211 : decode cL_isWell 211 = .ok (.iload 9, 2) := by decide +kernel
theorem dL_isWell_213 : decode cL_isWell 213 = .ok (.invokevirtual 88, 3) := by decide +kernel
theorem dL_isWell_216 : decode cL_isWell 216 = .ok (.iload 7, 2) := by decide +kernel
theorem dL_isWell_218 : decode cL_isWell 218 = .ok (.if_icmp .ne 73, 3) := by decide +kernel
theorem dL_isWell_221 : decode cL_isWell 221 = .ok (.aload_n 0, 1) := by decide +kernel
theorem dL_isWell_222 : decode cL_isWell 222 = .ok (.iload 7, 2) := by decide +kernel
theorem dL_isWell_224 : decode cL_isWell 224 = .ok (.bipush 7, 2) := by decide +kernel
theorem dL_isWell_226 : decode cL_isWell 226 = .ok (.invokevirtual 28, 3) := by decide +kernel
theorem dL_isWell_229 : decode cL_isWell 229 = .ok (.aload_n 0, 1) := by decide +kernel
theorem dL_isWell_230 : decode cL_isWell 230 = .ok (.iload 7, 2) := by decide +kernel
theorem dL_isWell_232 : decode cL_isWell 232 = .ok (.bipush 6, 2) := by decide +kernel
theorem dL_isWell_234 : decode cL_isWell 234 = .ok (.invokevirtual 28, 3) := by decide +kernel
theorem dL_isWell_237 : decode cL_isWell 237 = .ok (.if_icmp .gt 54, 3) := by decide +kernel
theorem dL_isWell_240 : decode cL_isWell 240 = .ok (.aload_n 0, 1) := by decide +kernel
theorem dL_isWell_241 : decode cL_isWell 241 = .ok (.iload 7, 2) := by decide +kernel
theorem dL_isWell_243 : decode cL_isWell 243 = .ok (.bipush 8, 2) := by decide +kernel
theorem dL_isWell_245 : decode cL_isWell 245 = .ok (.invokevirtual 28, 3) := by decide +kernel
theorem dL_isWell_248 : decode cL_isWell 248 = .ok (.ifCond .eq 14, 3) := by decide +kernel
theorem dL_isWell_251 : decode cL_isWell 251 = .ok (.aload_n 0, 1) := by decide +kernel
theorem dL_isWell_252 : decode cL_isWell 252 = .ok (.iload 7, 2) := by decide +kernel
theorem dL_isWell_254 : decode cL_isWell 254 = .ok (.iconst 3, 1) := by decide +kernel
theorem dL_isWell_255 : decode cL_isWell 255 = .ok (.invokevirtual 28, 3) := by decide +kernel
theorem dL_isWell_258 : decode cL_isWell 258 = .ok (.iconst 3, 1) := by decide +kernel
theorem dL_isWell_259 : decode cL_isWell 259 = .ok (.if_icmp .ne 32, 3) := by decide +kernel
theorem dL_isWell_262 : decode cL_isWell 262 = .ok (.aload_n 0, 1) := by decide +kernel
theorem dL_isWell_263 : decode cL_isWell 263 = .ok (.iload 7, 2) := by decide +kernel
theorem dL_isWell_265 : decode cL_isWell 265 = .ok (.iconst 3, 1) := by decide +kernel
theorem dL_isWell_266 : decode cL_isWell 266 = .ok (.invokevirtual 28, 3) := by decide +kernel
theorem dL_isWell_269 : decode cL_isWell 269 = .ok (.ifCond .gt 18, 3) := by decide +kernel
theorem dL_isWell_272 : decode cL_isWell 272 = .ok (.aload_n 0, 1) := by decide +kernel
theorem dL_isWell_273 : decode cL_isWell 273 = .ok (.iload 7, 2) := by decide +kernel
theorem dL_isWell_275 : decode cL_isWell 275 = .ok (.iconst 2, 1) := by decide +kernel
theorem dL_isWell_276 : decode cL_isWell 276 = .ok (.invokevirtual 28, 3) := by decide +kernel
theorem dL_isWell_279 : decode cL_isWell 279 = .ok (.aload_n 0, 1) := by decide +kernel
theorem dL_isWell_280 : decode cL_isWell 280 = .ok (.iconst 0, 1) := by decide +kernel
theorem dL_isWell_281 : decode cL_isWell 281 = .ok (.invokevirtual 15, 3) := by decide +kernel
theorem dL_isWell_284 : decode cL_isWell 284 = .ok (.if_icmp .lt 7, 3) := by decide +kernel
theorem dL_isWell_287 : decode cL_isWell 287 = .ok (.iconst 1, 1) := by decide +kernel
theorem dL_isWell_288 : decode cL_isWell 288 = .ok (.goto 4, 3) := by decide +kernel
theorem dL_isWell_291 : decode cL_isWell 291 = .ok (.iconst 0, 1) := by decide +kernel
theorem dL_isWell_292 : decode cL_isWell 292 = .ok (.istore 6, 2) := by decide +kernel
theorem dL_isWell_294 : decode cL_isWell 294 = .ok (.iinc 7 1, 3) := by decide +kernel
theorem dL_isWell_297 : decode cL_isWell 297 = .ok (.goto (-244), 3) := by decide +kernel
theorem dL_isWell_300 : decode cL_isWell 300 = .ok (.iconst 0, 1) := by decide +kernel
theorem dL_isWell_301 : decode cL_isWell 301 = .ok (.istore 7, 2) := by decide +kernel
theorem dL_isWell_303 : decode cL_isWell 303 = .ok (.iload 7, 2) := by decide +kernel
theorem dL_isWell_305 : decode cL_isWell 305 = .ok (.iconst 4, 1) := by decide +kernel
theorem dL_isWell_306 : decode cL_isWell 306 = .ok (.if_icmp .ge 37, 3) := by decide +kernel
theorem dL_isWell_309 : decode cL_isWell 309 = .ok (.iload 6, 2) := by decide +kernel
theorem dL_isWell_311 : decode cL_isWell 311 = .ok (.ifCond .eq 23, 3) := by decide +kernel
theorem dL_isWell_314 : decode cL_isWell 314 = .ok (.aload 5, 2) := by decide +kernel
theorem dL_isWell_316 : decode cL_isWell 316 = .ok (.iload 7, 2) := by decide +kernel
theorem dL_isWell_318 : decode cL_isWell 318 = .ok (.iaload, 1) := by decide +kernel
theorem dL_isWell_319 : decode cL_isWell 319 = .ok (.aload_n 0, 1) := by decide +kernel
theorem dL_isWell_320 : decode cL_isWell 320 = .ok (.iconst 2, 1) := by decide +kernel
theorem dL_isWell_321 : decode cL_isWell 321 = .ok (.iload 7, 2) := by decide +kernel
theorem dL_isWell_323 : decode cL_isWell 323 = .ok (.iadd, 1) := by decide +kernel
theorem dL_isWell_324 : decode cL_isWell 324 = .ok (.invokevirtual 15, 3) := by decide +kernel
theorem dL_isWell_327 : decode cL_isWell 327 = .ok (.if_icmp .ne 7, 3) := by decide +kernel
theorem dL_isWell_330 : decode cL_isWell 330 = .ok (.iconst 1, 1) := by decide +kernel
theorem dL_isWell_331 : decode cL_isWell 331 = .ok (.goto 4, 3) := by decide +kernel
theorem dL_isWell_334 : decode cL_isWell 334 = .ok (.iconst 0, 1) := by decide +kernel
theorem dL_isWell_335 : decode cL_isWell 335 = .ok (.istore 6, 2) := by decide +kernel
theorem dL_isWell_337 : decode cL_isWell 337 = .ok (.iinc 7 1, 3) := by decide +kernel
theorem dL_isWell_340 : decode cL_isWell 340 = .ok (.goto (-37), 3) := by decide +kernel
theorem dL_isWell_343 : decode cL_isWell 343 = .ok (.aload_n 0, 1) := by decide +kernel
theorem dL_isWell_344 : decode cL_isWell 344 = .ok (.iconst 4, 1) := by decide +kernel
theorem dL_isWell_345 : decode cL_isWell 345 = .ok (.invokevirtual 15, 3) := by decide +kernel
theorem dL_isWell_348 : decode cL_isWell 348 = .ok (.istore 7, 2) := by decide +kernel
theorem dL_isWell_350 : decode cL_isWell 350 = .ok (.iconst 0, 1) := by decide +kernel
theorem dL_isWell_351 : decode cL_isWell 351 = .ok (.istore 8, 2) := by decide +kernel
theorem dL_isWell_353 : decode cL_isWell 353 = .ok (.iconst 0, 1) := by decide +kernel
theorem dL_isWell_354 : decode cL_isWell 354 = .ok (.istore 9, 2) := by decide +kernel
theorem dL_isWell_356 : decode cL_isWell 356 = .ok (.iload 9, 2) := by decide +kernel
theorem dL_isWell_358 : decode cL_isWell 358 = .ok (.iload 7, 2) := by decide +kernel
theorem dL_isWell_360 : decode cL_isWell 360 = .ok (.if_icmp .ge 170, 3) := by decide +kernel
theorem dL_isWell_363 : decode cL_isWell 363 = .ok (.iconst 1, 1) := by decide +kernel
theorem dL_isWell_364 : decode cL_isWell 364 = .ok (.istore 10, 2) := by decide +kernel
theorem dL_isWell_366 : decode cL_isWell 366 = .ok (.iconst 0, 1) := by decide +kernel
theorem dL_isWell_367 : decode cL_isWell 367 = .ok (.istore 11, 2) := by decide +kernel
theorem dL_isWell_369 : decode cL_isWell 369 = .ok (.iload 11, 2) := by decide +kernel
theorem dL_isWell_371 : decode cL_isWell 371 = .ok (.iload 7, 2) := by decide +kernel
theorem dL_isWell_373 : decode cL_isWell 373 = .ok (.if_icmp .ge 101, 3) := by decide +kernel
theorem dL_isWell_376 : decode cL_isWell 376 = .ok (.iload 11, 2) := by decide +kernel
theorem dL_isWell_378 : decode cL_isWell 378 = .ok (.iload 9, 2) := by decide +kernel
theorem dL_isWell_380 : decode cL_isWell 380 = .ok (.if_icmp .ne 7, 3) := by decide +kernel
theorem dL_isWell_383 : decode cL_isWell 383 = .ok (.iconst 1, 1) := by decide +kernel
theorem dL_isWell_384 : decode cL_isWell 384 = .ok (.goto 19, 3) := by decide +kernel
theorem dL_isWell_387 : decode cL_isWell 387 = .ok (.aload_n 0, 1) := by decide +kernel
theorem dL_isWell_388 : decode cL_isWell 388 = .ok (.aload_n 0, 1) := by decide +kernel
theorem dL_isWell_389 : decode cL_isWell 389 = .ok (.iload 11, 2) := by decide +kernel
theorem dL_isWell_391 : decode cL_isWell 391 = .ok (.invokevirtual 31, 3) := by decide +kernel
theorem dL_isWell_394 : decode cL_isWell 394 = .ok (.aload_n 0, 1) := by decide +kernel
theorem dL_isWell_395 : decode cL_isWell 395 = .ok (.iload 9, 2) := by decide +kernel
theorem dL_isWell_397 : decode cL_isWell 397 = .ok (.invokevirtual 31, 3) := by decide +kernel
theorem dL_isWell_400 : decode cL_isWell 400 = .ok (.invokevirtual 44, 3) := by decide +kernel
theorem dL_isWell_403 : decode cL_isWell 403 = .ok (.istore 12, 2) := by decide +kernel
theorem dL_isWell_405 : decode cL_isWell 405 = .ok (.iload 10, 2) := by decide +kernel
theorem dL_isWell_407 : decode cL_isWell 407 = .ok (.ifCond .eq 13, 3) := by decide +kernel
theorem dL_isWell_410 : decode cL_isWell 410 = .ok (.iload 12, 2) := by decide +kernel
theorem dL_isWell_412 : decode cL_isWell 412 = .ok (.iconst 2, 1) := by decide +kernel
theorem dL_isWell_413 : decode cL_isWell 413 = .ok (.if_icmp .eq 7, 3) := by decide +kernel
theorem dL_isWell_416 : decode cL_isWell 416 = .ok (.iconst 1, 1) := by decide +kernel
theorem dL_isWell_417 : decode cL_isWell 417 = .ok (.goto 4, 3) := by decide +kernel
theorem dL_isWell_420 : decode cL_isWell 420 = .ok (.iconst 0, 1) := by decide +kernel
theorem dL_isWell_421 : decode cL_isWell 421 = .ok (.istore 10, 2) := by decide +kernel
theorem dL_isWell_423 : decode cL_isWell 423 = .ok (.iload 6, 2) := by decide +kernel
theorem dL_isWell_425 : decode cL_isWell 425 = .ok (.ifCond .eq 40, 3) := by decide +kernel
theorem dL_isWell_428 : decode cL_isWell 428 = .ok (.iload 11, 2) := by decide +kernel
theorem dL_isWell_430 : decode cL_isWell 430 = .ok (.iload 9, 2) := by decide +kernel
theorem dL_isWell_432 : decode cL_isWell 432 = .ok (.if_icmp .eq 29, 3) := by decide +kernel
theorem dL_isWell_435 : decode cL_isWell 435 = .ok (.iload 12, 2) := by decide +kernel
theorem dL_isWell_437 : decode cL_isWell 437 = .ok (.iconst 1, 1) := by decide +kernel
theorem dL_isWell_438 : decode cL_isWell 438 = .ok (.if_icmp .ne 7, 3) := by decide +kernel
theorem dL_isWell_441 : decode cL_isWell 441 = .ok (.iconst 1, 1) := by decide +kernel
theorem dL_isWell_442 : decode cL_isWell 442 = .ok (.goto 4, 3) := by decide +kernel
theorem dL_isWell_445 : decode cL_isWell 445 = .ok (.iconst 0, 1) := by decide +kernel
theorem dL_isWell_446 : decode cL_isWell 446 = .ok (.iload 11, 2) := by decide +kernel
theorem dL_isWell_448 : decode cL_isWell 448 = .ok (.iload 9, 2) := by decide +kernel
