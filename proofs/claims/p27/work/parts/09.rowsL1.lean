theorem dL_isStep_227 : decode cL_isStep 227 = .ok (.iload 7, 2) := by decide +kernel
theorem dL_isStep_229 : decode cL_isStep 229 = .ok (.if_icmp .le 8, 3) := by decide +kernel
theorem dL_isStep_232 : decode cL_isStep 232 = .ok (.bipush (-4), 2) := by decide +kernel
theorem dL_isStep_234 : decode cL_isStep 234 = .ok (.goto 17, 3) := by decide +kernel
theorem dL_isStep_237 : decode cL_isStep 237 = .ok (.iload 8, 2) := by decide +kernel
theorem dL_isStep_239 : decode cL_isStep 239 = .ok (.iload 7, 2) := by decide +kernel
theorem dL_isStep_241 : decode cL_isStep 241 = .ok (.if_icmp .ne 8, 3) := by decide +kernel
theorem dL_isStep_244 : decode cL_isStep 244 = .ok (.bipush (-5), 2) := by decide +kernel
theorem dL_isStep_246 : decode cL_isStep 246 = .ok (.goto 5, 3) := by decide +kernel
theorem dL_isStep_249 : decode cL_isStep 249 = .ok (.iload 8, 2) := by decide +kernel
theorem dL_isStep_251 : decode cL_isStep 251 = .ok (.if_icmp .ne 7, 3) := by decide +kernel
theorem dL_isStep_254 : decode cL_isStep 254 = .ok (.iconst 1, 1) := by decide +kernel
theorem dL_isStep_255 : decode cL_isStep 255 = .ok (.goto 4, 3) := by decide +kernel
theorem dL_isStep_258 : decode cL_isStep 258 = .ok (.iconst 0, 1) := by decide +kernel
theorem dL_isStep_259 : decode cL_isStep 259 = .ok (.ireturn, 1) := by decide +kernel
theorem dL_isStep_260 : decode cL_isStep 260 = .ok (.iload 4, 2) := by decide +kernel
theorem dL_isStep_262 : decode cL_isStep 262 = .ok (.iload 5, 2) := by decide +kernel
theorem dL_isStep_264 : decode cL_isStep 264 = .ok (.iconst 1, 1) := by decide +kernel
theorem dL_isStep_265 : decode cL_isStep 265 = .ok (.iadd, 1) := by decide +kernel
theorem dL_isStep_266 : decode cL_isStep 266 = .ok (.invokestatic 19, 3) := by decide +kernel
theorem dL_isStep_269 : decode cL_isStep 269 = .ok (.istore 6, 2) := by decide +kernel
theorem dL_isStep_271 : decode cL_isStep 271 = .ok (.iload 6, 2) := by decide +kernel
theorem dL_isStep_273 : decode cL_isStep 273 = .ok (.iload 5, 2) := by decide +kernel
theorem dL_isStep_275 : decode cL_isStep 275 = .ok (.if_icmp .ne 7, 3) := by decide +kernel
theorem dL_isStep_278 : decode cL_isStep 278 = .ok (.iconst (-1), 1) := by decide +kernel
theorem dL_isStep_279 : decode cL_isStep 279 = .ok (.goto 10, 3) := by decide +kernel
theorem dL_isStep_282 : decode cL_isStep 282 = .ok (.aload_n 0, 1) := by decide +kernel
theorem dL_isStep_283 : decode cL_isStep 283 = .ok (.iload 6, 2) := by decide +kernel
theorem dL_isStep_285 : decode cL_isStep 285 = .ok (.iconst 3, 1) := by decide +kernel
theorem dL_isStep_286 : decode cL_isStep 286 = .ok (.invokevirtual 28, 3) := by decide +kernel
theorem dL_isStep_289 : decode cL_isStep 289 = .ok (.istore 7, 2) := by decide +kernel
theorem dL_isStep_291 : decode cL_isStep 291 = .ok (.aload_n 0, 1) := by decide +kernel
theorem dL_isStep_292 : decode cL_isStep 292 = .ok (.iload 6, 2) := by decide +kernel
theorem dL_isStep_294 : decode cL_isStep 294 = .ok (.iconst 4, 1) := by decide +kernel
theorem dL_isStep_295 : decode cL_isStep 295 = .ok (.invokevirtual 28, 3) := by decide +kernel
theorem dL_isStep_298 : decode cL_isStep 298 = .ok (.istore 8, 2) := by decide +kernel
theorem dL_isStep_300 : decode cL_isStep 300 = .ok (.iload 8, 2) := by decide +kernel
theorem dL_isStep_302 : decode cL_isStep 302 = .ok (.ifCond .ge 7, 3) := by decide +kernel
theorem dL_isStep_305 : decode cL_isStep 305 = .ok (.iconst 0, 1) := by decide +kernel
theorem dL_isStep_306 : decode cL_isStep 306 = .ok (.goto 11, 3) := by decide +kernel
theorem dL_isStep_309 : decode cL_isStep 309 = .ok (.aload_n 0, 1) := by decide +kernel
theorem dL_isStep_310 : decode cL_isStep 310 = .ok (.iload 8, 2) := by decide +kernel
theorem dL_isStep_312 : decode cL_isStep 312 = .ok (.iconst 1, 1) := by decide +kernel
theorem dL_isStep_313 : decode cL_isStep 313 = .ok (.iadd, 1) := by decide +kernel
theorem dL_isStep_314 : decode cL_isStep 314 = .ok (.invokevirtual 31, 3) := by decide +kernel
theorem dL_isStep_317 : decode cL_isStep 317 = .ok (.istore 9, 2) := by decide +kernel
theorem dL_isStep_319 : decode cL_isStep 319 = .ok (.aload_n 0, 1) := by decide +kernel
theorem dL_isStep_320 : decode cL_isStep 320 = .ok (.iload 6, 2) := by decide +kernel
theorem dL_isStep_322 : decode cL_isStep 322 = .ok (.invokevirtual 34, 3) := by decide +kernel
theorem dL_isStep_325 : decode cL_isStep 325 = .ok (.istore 10, 2) := by decide +kernel
theorem dL_isStep_327 : decode cL_isStep 327 = .ok (.iload 10, 2) := by decide +kernel
theorem dL_isStep_329 : decode cL_isStep 329 = .ok (.aload_n 1, 1) := by decide +kernel
theorem dL_isStep_330 : decode cL_isStep 330 = .ok (.iload 6, 2) := by decide +kernel
theorem dL_isStep_332 : decode cL_isStep 332 = .ok (.invokevirtual 34, 3) := by decide +kernel
theorem dL_isStep_335 : decode cL_isStep 335 = .ok (.if_icmp .ne 57, 3) := by decide +kernel
theorem dL_isStep_338 : decode cL_isStep 338 = .ok (.iload 10, 2) := by decide +kernel
theorem dL_isStep_340 : decode cL_isStep 340 = .ok (.iload 7, 2) := by decide +kernel
theorem dL_isStep_342 : decode cL_isStep 342 = .ok (.ifCond .ge 7, 3) := by decide +kernel
theorem dL_isStep_345 : decode cL_isStep 345 = .ok (.iconst (-1), 1) := by decide +kernel
theorem dL_isStep_346 : decode cL_isStep 346 = .ok (.goto 16, 3) := by decide +kernel
theorem dL_isStep_349 : decode cL_isStep 349 = .ok (.iload 7, 2) := by decide +kernel
theorem dL_isStep_351 : decode cL_isStep 351 = .ok (.iconst 3, 1) := by decide +kernel
theorem dL_isStep_352 : decode cL_isStep 352 = .ok (.if_icmp .ne 8, 3) := by decide +kernel
theorem dL_isStep_355 : decode cL_isStep 355 = .ok (.bipush (-4), 2) := by decide +kernel
theorem dL_isStep_357 : decode cL_isStep 357 = .ok (.goto 5, 3) := by decide +kernel
theorem dL_isStep_360 : decode cL_isStep 360 = .ok (.iload 7, 2) := by decide +kernel
theorem dL_isStep_362 : decode cL_isStep 362 = .ok (.if_icmp .ne 30, 3) := by decide +kernel
theorem dL_isStep_365 : decode cL_isStep 365 = .ok (.iload 8, 2) := by decide +kernel
theorem dL_isStep_367 : decode cL_isStep 367 = .ok (.ifCond .lt 21, 3) := by decide +kernel
theorem dL_isStep_370 : decode cL_isStep 370 = .ok (.iload 8, 2) := by decide +kernel
theorem dL_isStep_372 : decode cL_isStep 372 = .ok (.bipush 11, 2) := by decide +kernel
theorem dL_isStep_374 : decode cL_isStep 374 = .ok (.if_icmp .eq 14, 3) := by decide +kernel
theorem dL_isStep_377 : decode cL_isStep 377 = .ok (.aload_n 0, 1) := by decide +kernel
theorem dL_isStep_378 : decode cL_isStep 378 = .ok (.iload 8, 2) := by decide +kernel
theorem dL_isStep_380 : decode cL_isStep 380 = .ok (.invokevirtual 31, 3) := by decide +kernel
theorem dL_isStep_383 : decode cL_isStep 383 = .ok (.iload 9, 2) := by decide +kernel
theorem dL_isStep_385 : decode cL_isStep 385 = .ok (.if_icmp .ne 7, 3) := by decide +kernel
theorem dL_isStep_388 : decode cL_isStep 388 = .ok (.iconst 1, 1) := by decide +kernel
theorem dL_isStep_389 : decode cL_isStep 389 = .ok (.goto 4, 3) := by decide +kernel
theorem dL_isStep_392 : decode cL_isStep 392 = .ok (.iconst 0, 1) := by decide +kernel
theorem dL_isStep_393 : decode cL_isStep 393 = .ok (.ireturn, 1) := by decide +kernel
theorem dL_isStep_394 : decode cL_isStep 394 = .ok (.iload 4, 2) := by decide +kernel
theorem dL_isStep_396 : decode cL_isStep 396 = .ok (.bipush 12, 2) := by decide +kernel
theorem dL_isStep_398 : decode cL_isStep 398 = .ok (.invokestatic 19, 3) := by decide +kernel
theorem dL_isStep_401 : decode cL_isStep 401 = .ok (.istore 6, 2) := by decide +kernel
theorem dL_isStep_403 : decode cL_isStep 403 = .ok (.aload_n 0, 1) := by decide +kernel
theorem dL_isStep_404 : decode cL_isStep 404 = .ok (.iload 6, 2) := by decide +kernel
theorem dL_isStep_406 : decode cL_isStep 406 = .ok (.invokevirtual 31, 3) := by decide +kernel
theorem dL_isStep_409 : decode cL_isStep 409 = .ok (.istore 7, 2) := by decide +kernel
theorem dL_isStep_411 : decode cL_isStep 411 = .ok (.iload 6, 2) := by decide +kernel
theorem dL_isStep_413 : decode cL_isStep 413 = .ok (.bipush 11, 2) := by decide +kernel
theorem dL_isStep_415 : decode cL_isStep 415 = .ok (.if_icmp .ne 8, 3) := by decide +kernel
theorem dL_isStep_418 : decode cL_isStep 418 = .ok (.bipush (-5), 2) := by decide +kernel
theorem dL_isStep_420 : decode cL_isStep 420 = .ok (.goto 11, 3) := by decide +kernel
theorem dL_isStep_423 : decode cL_isStep 423 = .ok (.aload_n 0, 1) := by decide +kernel
theorem dL_isStep_424 : decode cL_isStep 424 = .ok (.iload 6, 2) := by decide +kernel
theorem dL_isStep_426 : decode cL_isStep 426 = .ok (.iconst 1, 1) := by decide +kernel
theorem dL_isStep_427 : decode cL_isStep 427 = .ok (.iadd, 1) := by decide +kernel
theorem dL_isStep_428 : decode cL_isStep 428 = .ok (.invokevirtual 31, 3) := by decide +kernel
theorem dL_isStep_431 : decode cL_isStep 431 = .ok (.istore 8, 2) := by decide +kernel
theorem dL_isStep_433 : decode cL_isStep 433 = .ok (.aload_n 0, 1) := by decide +kernel
theorem dL_isStep_434 : decode cL_isStep 434 = .ok (.invokevirtual 37, 3) := by decide +kernel
theorem dL_isStep_437 : decode cL_isStep 437 = .ok (.istore 9, 2) := by decide +kernel
theorem dL_isStep_439 : decode cL_isStep 439 = .ok (.aload_n 0, 1) := by decide +kernel
theorem dL_isStep_440 : decode cL_isStep 440 = .ok (.iload 6, 2) := by decide +kernel
theorem dL_isStep_442 : decode cL_isStep 442 = .ok (.invokevirtual 41, 3) := by decide +kernel
theorem dL_isStep_445 : decode cL_isStep 445 = .ok (.istore 10, 2) := by decide +kernel
theorem dL_isStep_447 : decode cL_isStep 447 = .ok (.iload 8, 2) := by decide +kernel
theorem dL_isStep_449 : decode cL_isStep 449 = .ok (.ifCond .ge 26, 3) := by decide +kernel
theorem dL_isStep_452 : decode cL_isStep 452 = .ok (.iload 10, 2) := by decide +kernel
theorem dL_isStep_454 : decode cL_isStep 454 = .ok (.iconst (-1), 1) := by decide +kernel
theorem dL_isStep_455 : decode cL_isStep 455 = .ok (.if_icmp .ne 18, 3) := by decide +kernel
theorem dL_isStep_458 : decode cL_isStep 458 = .ok (.aload_n 1, 1) := by decide +kernel
theorem dL_isStep_459 : decode cL_isStep 459 = .ok (.iload 6, 2) := by decide +kernel
theorem dL_isStep_461 : decode cL_isStep 461 = .ok (.invokevirtual 41, 3) := by decide +kernel
theorem dL_isStep_464 : decode cL_isStep 464 = .ok (.iload 10, 2) := by decide +kernel
theorem dL_isStep_466 : decode cL_isStep 466 = .ok (.if_icmp .ne 7, 3) := by decide +kernel
theorem dL_isStep_469 : decode cL_isStep 469 = .ok (.iconst 1, 1) := by decide +kernel
theorem dL_isStep_470 : decode cL_isStep 470 = .ok (.goto 4, 3) := by decide +kernel
theorem dL_isStep_473 : decode cL_isStep 473 = .ok (.iconst 0, 1) := by decide +kernel
theorem dL_isStep_474 : decode cL_isStep 474 = .ok (.ireturn, 1) := by decide +kernel
theorem dL_isStep_475 : decode cL_isStep 475 = .ok (.iload 10, 2) := by decide +kernel
theorem dL_isStep_477 : decode cL_isStep 477 = .ok (.aload_n 1, 1) := by decide +kernel
theorem dL_isStep_478 : decode cL_isStep 478 = .ok (.iload 6, 2) := by decide +kernel
theorem dL_isStep_480 : decode cL_isStep 480 = .ok (.invokevirtual 41, 3) := by decide +kernel
theorem dL_isStep_483 : decode cL_isStep 483 = .ok (.if_icmp .ne 65, 3) := by decide +kernel
theorem dL_isStep_486 : decode cL_isStep 486 = .ok (.iload 10, 2) := by decide +kernel
theorem dL_isStep_488 : decode cL_isStep 488 = .ok (.ifCond .ge 25, 3) := by decide +kernel
theorem dL_isStep_491 : decode cL_isStep 491 = .ok (.iload 10, 2) := by decide +kernel
theorem dL_isStep_493 : decode cL_isStep 493 = .ok (.bipush (-4), 2) := by decide +kernel
theorem dL_isStep_495 : decode cL_isStep 495 = .ok (.if_icmp .ne 53, 3) := by decide +kernel
theorem dL_isStep_498 : decode cL_isStep 498 = .ok (.aload_n 0, 1) := by decide +kernel
theorem dL_isStep_499 : decode cL_isStep 499 = .ok (.iload 7, 2) := by decide +kernel
theorem dL_isStep_501 : decode cL_isStep 501 = .ok (.iload 8, 2) := by decide +kernel
theorem dL_isStep_503 : decode cL_isStep 503 = .ok (.invokevirtual 44, 3) := by decide +kernel
theorem dL_isStep_506 : decode cL_isStep 506 = .ok (.iconst 2, 1) := by decide +kernel
theorem dL_isStep_507 : decode cL_isStep 507 = .ok (.if_icmp .eq 41, 3) := by decide +kernel
theorem dL_isStep_510 : decode cL_isStep 510 = .ok (.goto 34, 3) := by decide +kernel
theorem dL_isStep_513 : decode cL_isStep 513 = .ok (.iload 10, 2) := by decide +kernel
theorem dL_isStep_515 : decode cL_isStep 515 = .ok (.iload 8, 2) := by decide +kernel
theorem dL_isStep_517 : decode cL_isStep 517 = .ok (.if_icmp .ne 31, 3) := by decide +kernel
theorem dL_isStep_520 : decode cL_isStep 520 = .ok (.aload_n 0, 1) := by decide +kernel
theorem dL_isStep_521 : decode cL_isStep 521 = .ok (.iload 6, 2) := by decide +kernel
theorem dL_isStep_523 : decode cL_isStep 523 = .ok (.iconst 1, 1) := by decide +kernel
theorem dL_isStep_524 : decode cL_isStep 524 = .ok (.iadd, 1) := by decide +kernel
theorem dL_isStep_525 : decode cL_isStep 525 = .ok (.invokevirtual 31, 3) := by decide +kernel
theorem dL_isStep_528 : decode cL_isStep 528 = .ok (.iload 7, 2) := by decide +kernel
theorem dL_isStep_530 : decode cL_isStep 530 = .ok (.if_icmp .ne 18, 3) := by decide +kernel
theorem dL_isStep_533 : decode cL_isStep 533 = .ok (.aload_n 0, 1) := by decide +kernel
theorem dL_isStep_534 : decode cL_isStep 534 = .ok (.invokevirtual 37, 3) := by decide +kernel
theorem dL_isStep_537 : decode cL_isStep 537 = .ok (.iload 9, 2) := by decide +kernel
theorem dL_isStep_539 : decode cL_isStep 539 = .ok (.iconst 1, 1) := by decide +kernel
theorem dL_isStep_540 : decode cL_isStep 540 = .ok (.isub, 1) := by decide +kernel
theorem dL_isStep_541 : decode cL_isStep 541 = .ok (.if_icmp .ne 7, 3) := by decide +kernel
theorem dL_isStep_544 : decode cL_isStep 544 = .ok (.iconst 1, 1) := by decide +kernel
theorem dL_isStep_545 : decode cL_isStep 545 = .ok (.goto 4, 3) := by decide +kernel
theorem dL_isStep_548 : decode cL_isStep 548 = .ok (.iconst 0, 1) := by decide +kernel
theorem dL_isStep_549 : decode cL_isStep 549 = .ok (.ireturn, 1) := by decide +kernel
theorem dL_isStep_550 : decode cL_isStep 550 = .ok (.aload_n 0, 1) := by decide +kernel
theorem dL_isStep_551 : decode cL_isStep 551 = .ok (.bipush 15, 2) := by decide +kernel
