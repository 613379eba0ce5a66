theorem dL_isWell_450 : decode cL_isWell 450 = .ok (.if_icmp .le 7, 3) := by decide +kernel
theorem dL_isWell_453 : decode cL_isWell 453 = .ok (.iconst 1, 1) := by decide +kernel
theorem dL_isWell_454 : decode cL_isWell 454 = .ok (.goto 4, 3) := by decide +kernel
theorem dL_isWell_457 : decode cL_isWell 457 = .ok (.iconst 0, 1) := by decide +kernel
theorem dL_isWell_458 : decode cL_isWell 458 = .ok (.if_icmp .ne 7, 3) := by decide +kernel
theorem dL_isWell_461 : decode cL_isWell 461 = .ok (.iconst 1, 1) := by decide +kernel
theorem dL_isWell_462 : decode cL_isWell 462 = .ok (.goto 4, 3) := by decide +kernel
theorem dL_isWell_465 : decode cL_isWell 465 = .ok (.iconst 0, 1) := by decide +kernel
theorem dL_isWell_466 : decode cL_isWell 466 = .ok (.istore 6, 2) := by decide +kernel
theorem dL_isWell_468 : decode cL_isWell 468 = .ok (.iinc 11 1, 3) := by decide +kernel
theorem dL_isWell_471 : decode cL_isWell 471 = .ok (.goto (-102), 3) := by decide +kernel
theorem dL_isWell_474 : decode cL_isWell 474 = .ok (.iload 8, 2) := by decide +kernel
theorem dL_isWell_476 : decode cL_isWell 476 = .ok (.iload 10, 2) := by decide +kernel
theorem dL_isWell_478 : decode cL_isWell 478 = .ok (.ifCond .eq 7, 3) := by decide +kernel
theorem dL_isWell_481 : decode cL_isWell 481 = .ok (.iconst 1, 1) := by decide +kernel
theorem dL_isWell_482 : decode cL_isWell 482 = .ok (.goto 4, 3) := by decide +kernel
theorem dL_isWell_485 : decode cL_isWell 485 = .ok (.iconst 0, 1) := by decide +kernel
theorem dL_isWell_486 : decode cL_isWell 486 = .ok (.iadd, 1) := by decide +kernel
theorem dL_isWell_487 : decode cL_isWell 487 = .ok (.istore 8, 2) := by decide +kernel
theorem dL_isWell_489 : decode cL_isWell 489 = .ok (.iload 6, 2) := by decide +kernel
theorem dL_isWell_491 : decode cL_isWell 491 = .ok (.ifCond .eq 30, 3) := by decide +kernel
theorem dL_isWell_494 : decode cL_isWell 494 = .ok (.aload_n 0, 1) := by decide +kernel
theorem dL_isWell_495 : decode cL_isWell 495 = .ok (.aload_n 0, 1) := by decide +kernel
theorem dL_isWell_496 : decode cL_isWell 496 = .ok (.iload 9, 2) := by decide +kernel
theorem dL_isWell_498 : decode cL_isWell 498 = .ok (.invokevirtual 31, 3) := by decide +kernel
theorem dL_isWell_501 : decode cL_isWell 501 = .ok (.invokevirtual 85, 3) := by decide +kernel
theorem dL_isWell_504 : decode cL_isWell 504 = .ok (.ifCond .ne 7, 3) := by decide +kernel
theorem dL_isWell_507 : decode cL_isWell 507 = .ok (.iconst 1, 1) := by decide +kernel
theorem dL_isWell_508 : decode cL_isWell 508 = .ok (.goto 4, 3) := by decide +kernel
theorem dL_isWell_511 : decode cL_isWell 511 = .ok (.iconst 0, 1) := by decide +kernel
theorem dL_isWell_512 : decode cL_isWell 512 = .ok (.iload 10, 2) := by decide +kernel
theorem dL_isWell_514 : decode cL_isWell 514 = .ok (.if_icmp .ne 7, 3) := by decide +kernel
theorem dL_isWell_517 : decode cL_isWell 517 = .ok (.iconst 1, 1) := by decide +kernel
theorem dL_isWell_518 : decode cL_isWell 518 = .ok (.goto 4, 3) := by decide +kernel
theorem dL_isWell_521 : decode cL_isWell 521 = .ok (.iconst 0, 1) := by decide +kernel
theorem dL_isWell_522 : decode cL_isWell 522 = .ok (.istore 6, 2) := by decide +kernel
theorem dL_isWell_524 : decode cL_isWell 524 = .ok (.iinc 9 1, 3) := by decide +kernel
theorem dL_isWell_527 : decode cL_isWell 527 = .ok (.goto (-171), 3) := by decide +kernel
theorem dL_isWell_530 : decode cL_isWell 530 = .ok (.iload 6, 2) := by decide +kernel
theorem dL_isWell_532 : decode cL_isWell 532 = .ok (.ifCond .eq 102, 3) := by decide +kernel
theorem dL_isWell_535 : decode cL_isWell 535 = .ok (.iload_n 2, 1) := by decide +kernel
theorem dL_isWell_536 : decode cL_isWell 536 = .ok (.aload_n 0, 1) := by decide +kernel
theorem dL_isWell_537 : decode cL_isWell 537 = .ok (.bipush 8, 2) := by decide +kernel
theorem dL_isWell_539 : decode cL_isWell 539 = .ok (.invokevirtual 15, 3) := by decide +kernel
theorem dL_isWell_542 : decode cL_isWell 542 = .ok (.if_icmp .ne 92, 3) := by decide +kernel
theorem dL_isWell_545 : decode cL_isWell 545 = .ok (.iload_n 3, 1) := by decide +kernel
theorem dL_isWell_546 : decode cL_isWell 546 = .ok (.aload_n 0, 1) := by decide +kernel
theorem dL_isWell_547 : decode cL_isWell 547 = .ok (.bipush 9, 2) := by decide +kernel
theorem dL_isWell_549 : decode cL_isWell 549 = .ok (.invokevirtual 15, 3) := by decide +kernel
theorem dL_isWell_552 : decode cL_isWell 552 = .ok (.if_icmp .ne 82, 3) := by decide +kernel
theorem dL_isWell_555 : decode cL_isWell 555 = .ok (.iload 4, 2) := by decide +kernel
theorem dL_isWell_557 : decode cL_isWell 557 = .ok (.aload_n 0, 1) := by decide +kernel
theorem dL_isWell_558 : decode cL_isWell 558 = .ok (.bipush 6, 2) := by decide +kernel
theorem dL_isWell_560 : decode cL_isWell 560 = .ok (.invokevirtual 15, 3) := by decide +kernel
theorem dL_isWell_563 : decode cL_isWell 563 = .ok (.if_icmp .ne 71, 3) := by decide +kernel
theorem dL_isWell_566 : decode cL_isWell 566 = .ok (.iload 8, 2) := by decide +kernel
theorem dL_isWell_568 : decode cL_isWell 568 = .ok (.iload 7, 2) := by decide +kernel
theorem dL_isWell_570 : decode cL_isWell 570 = .ok (.if_icmp .ne 7, 3) := by decide +kernel
theorem dL_isWell_573 : decode cL_isWell 573 = .ok (.iconst 1, 1) := by decide +kernel
theorem dL_isWell_574 : decode cL_isWell 574 = .ok (.goto 4, 3) := by decide +kernel
theorem dL_isWell_577 : decode cL_isWell 577 = .ok (.iconst 0, 1) := by decide +kernel
theorem dL_isWell_578 : decode cL_isWell 578 = .ok (.aload_n 0, 1) := by decide +kernel
theorem dL_isWell_579 : decode cL_isWell 579 = .ok (.invokevirtual 37, 3) := by decide +kernel
theorem dL_isWell_582 : decode cL_isWell 582 = .ok (.ifCond .ne 7, 3) := by decide +kernel
theorem dL_isWell_585 : decode cL_isWell 585 = .ok (.iconst 1, 1) := by decide +kernel
theorem dL_isWell_586 : decode cL_isWell 586 = .ok (.goto 4, 3) := by decide +kernel
theorem dL_isWell_589 : decode cL_isWell 589 = .ok (.iconst 0, 1) := by decide +kernel
theorem dL_isWell_590 : decode cL_isWell 590 = .ok (.if_icmp .ne 44, 3) := by decide +kernel
theorem dL_isWell_593 : decode cL_isWell 593 = .ok (.aload_n 0, 1) := by decide +kernel
theorem dL_isWell_594 : decode cL_isWell 594 = .ok (.invokevirtual 37, 3) := by decide +kernel
theorem dL_isWell_597 : decode cL_isWell 597 = .ok (.ifCond .gt 11, 3) := by decide +kernel
theorem dL_isWell_600 : decode cL_isWell 600 = .ok (.aload_n 0, 1) := by decide +kernel
theorem dL_isWell_601 : decode cL_isWell 601 = .ok (.iconst 5, 1) := by decide +kernel
theorem dL_isWell_602 : decode cL_isWell 602 = .ok (.invokevirtual 82, 3) := by decide +kernel
theorem dL_isWell_605 : decode cL_isWell 605 = .ok (.ifCond .ne 29, 3) := by decide +kernel
theorem dL_isWell_608 : decode cL_isWell 608 = .ok (.aload_n 0, 1) := by decide +kernel
theorem dL_isWell_609 : decode cL_isWell 609 = .ok (.iconst 3, 1) := by decide +kernel
theorem dL_isWell_610 : decode cL_isWell 610 = .ok (.invokevirtual 15, 3) := by decide +kernel
theorem dL_isWell_613 : decode cL_isWell 613 = .ok (.ifCond .eq 17, 3) := by decide +kernel
theorem dL_isWell_616 : decode cL_isWell 616 = .ok (.aload_n 0, 1) := by decide +kernel
theorem dL_isWell_617 : decode cL_isWell 617 = .ok (.iconst 4, 1) := by decide +kernel
theorem dL_isWell_618 : decode cL_isWell 618 = .ok (.invokevirtual 15, 3) := by decide +kernel
theorem dL_isWell_621 : decode cL_isWell 621 = .ok (.aload_n 0, 1) := by decide +kernel
theorem dL_isWell_622 : decode cL_isWell 622 = .ok (.bipush 11, 2) := by decide +kernel
theorem dL_isWell_624 : decode cL_isWell 624 = .ok (.invokevirtual 15, 3) := by decide +kernel
theorem dL_isWell_627 : decode cL_isWell 627 = .ok (.if_icmp .gt 7, 3) := by decide +kernel
theorem dL_isWell_630 : decode cL_isWell 630 = .ok (.iconst 1, 1) := by decide +kernel
theorem dL_isWell_631 : decode cL_isWell 631 = .ok (.goto 4, 3) := by decide +kernel
theorem dL_isWell_634 : decode cL_isWell 634 = .ok (.iconst 0, 1) := by decide +kernel
theorem dL_isWell_635 : decode cL_isWell 635 = .ok (.ireturn, 1) := by decide +kernel
set_option maxRecDepth 20000 in
theorem ggL_law_X4_init : GoodIn wsL_law wsX4_init := goodIn_r _ [5, 6, 7, 8, 9, 10, 11, 12, 13, 14, 15, 16, 17, 18, 19, 20, 21, 22, 23, 24, 25, 26, 27, 28, 29, 30, 31, 32, 33, 34, 35, 36, 37, 38, 39, 40, 41, 42, 43, 44, 45, 46, 47, 48, 49, 50, 51, 52, 53, 54, 55, 56, 57, 58, 59, 60, 61, 62, 63, 64, 65, 66, 67, 68, 69, 70, 71, 72, 73, 481, 482, 483, 484, 485, 486, 487, 488, 489, 473, 474, 475, 476, 477, 478, 479, 480, 490, 491, 492, 493, 494, 495, 496, 497, 498, 499, 500, 501] (by decide +kernel) (by decide +kernel)
set_option maxRecDepth 20000 in
theorem gL_law_X4_init : GoodIn wsL_law (wsX4_init) := ggL_law_X4_init
set_option maxRecDepth 20000 in
theorem ggL_law_L_cell : GoodIn wsL_law wsL_cell := goodIn_r _ [77, 78] (by decide +kernel) (by decide +kernel)
set_option maxRecDepth 20000 in
theorem gL_law_L_cell : GoodIn wsL_law (va_wsS RL 95 yL_cell wsL_cell) := goodIn_app (goodIn_of _ (by decide +kernel)) ggL_law_L_cell
set_option maxRecDepth 20000 in
theorem ggL_law_L_isStep : GoodIn wsL_law wsL_isStep := goodIn_c 81 rfl (by decide +kernel) (goodIn_r (((wsL_isStep_r1 ++ (wsL_isStep_r2 ++ (wsL_isStep_r3 ++ (wsL_isStep_r4 ++ (wsL_isStep_r5 ++ (wsL_isStep_r6 ++ (wsL_isStep_r7 ++ (wsL_isStep_r8 ++ (wsL_isStep_r9 ++ (wsL_isStep_r10 ++ (wsL_isStep_r11 ++ (wsL_isStep_r12 ++ (wsL_isStep_r13 ++ (wsL_isStep_r14 ++ (wsL_isStep_r15 ++ wsL_isStep_r16))))))))))))))) ++ wsX40 ++ wsX10 ++ wsX00 ++ wsX30 ++ wsX20)) [82, 83, 84, 2, 85, 18, 22, 12, 86, 87, 88, 17, 89, 60, 90, 91, 92, 21, 93, 68, 94, 95, 96, 11, 97, 40, 39, 41, 42, 98, 99, 100, 101, 102, 103, 104, 105, 31, 106, 107, 108, 109, 110, 111, 112, 113, 114, 115, 116, 117, 33, 118, 119, 76, 120, 121, 122, 123, 124, 125, 13, 126, 127, 128, 129, 32, 37, 38, 130, 131, 132, 133, 49, 134, 135, 136, 137, 138, 139, 140, 141, 36, 142, 51, 52, 143, 144, 145, 146, 147, 148, 149, 150, 151, 152, 153, 154, 155, 156, 157, 158, 159, 160, 161, 162, 59, 163, 164, 165, 166, 167, 58, 168, 169, 170, 171, 172, 173, 174, 175, 176, 177, 178, 179, 180, 181, 182, 183, 184, 185, 186, 187, 188, 189, 190, 191, 192, 193, 194, 195, 196, 197, 198, 199, 200, 201, 202, 203, 204, 205, 206, 207, 208, 209, 210, 211, 212, 213, 214, 215, 216, 217, 218, 219, 220, 221, 222, 223, 224, 225, 226, 227, 228, 229, 230, 231, 232, 233, 234, 235, 236, 237, 238, 239, 240, 241, 242, 243, 244, 245, 246, 247, 248, 249, 250, 251, 252, 253, 254, 255, 256, 257, 258, 14, 23, 259, 260, 261, 262, 263, 264, 265, 266, 267, 268, 269, 270, 271, 272, 273, 274, 275, 276, 277, 278, 279, 280, 281, 282, 283, 284, 285, 286, 287, 288, 289, 290, 291, 292, 293, 294, 295, 296, 297, 298, 299, 300, 301, 302, 303, 304, 305, 306, 307, 308, 309, 310, 311, 312, 313, 314, 315, 316, 317, 318, 319, 320, 321, 322, 323, 324, 325, 326, 327, 328, 329, 330, 331, 332, 333, 334, 335, 336, 337, 338, 339, 340, 341, 342, 343, 344, 345, 346, 347, 348, 349, 67, 350, 351, 352, 353, 354, 355, 356, 24, 25, 357, 358, 359, 360, 69, 361, 362, 363, 364, 365, 366, 367, 368, 70, 369, 370, 371, 372, 373, 374, 375, 376, 377, 378, 379, 380, 73, 71, 72, 381, 382, 383, 384, 385, 386, 387, 388, 389, 390, 391, 392, 393, 394, 395, 396, 397, 398, 399, 400, 401, 402, 403, 404, 405, 406, 407, 408, 409, 410, 411, 412, 413, 414, 473, 474, 475, 476, 477, 478, 479, 480, 490, 491, 492, 493, 494, 495, 496, 497, 498, 499, 481, 482, 483, 484, 485, 486, 487, 488, 489, 500, 501] (by decide +kernel) (by decide +kernel))
set_option maxRecDepth 20000 in
theorem gL_law_L_isStep : GoodIn wsL_law (va_wsS RL 99 yL_isStep wsL_isStep) := goodIn_app (goodIn_of _ (by decide +kernel)) ggL_law_L_isStep
set_option maxRecDepth 20000 in
theorem ggL_law_L_isWell : GoodIn wsL_law wsL_isWell := goodIn_c 417 rfl (by decide +kernel) (goodIn_r (((wsL_isWell_r1 ++ (wsL_isWell_r2 ++ (wsL_isWell_r3 ++ (wsL_isWell_r4 ++ (wsL_isWell_r5 ++ (wsL_isWell_r6 ++ (wsL_isWell_r7 ++ wsL_isWell_r8))))))) ++ wsX40 ++ wsX10 ++ wsX00 ++ wsX30 ++ wsX20)) [30, 82, 83, 84, 2, 85, 18, 22, 12, 86, 87, 88, 17, 89, 60, 90, 91, 92, 21, 93, 68, 94, 95, 96, 11, 97, 40, 39, 41, 42, 98, 99, 100, 101, 102, 103, 104, 105, 31, 106, 107, 108, 109, 110, 111, 112, 113, 114, 115, 116, 117, 33, 211, 212, 213, 214, 215, 216, 217, 218, 37, 151, 152, 153, 36, 154, 52, 190, 191, 192, 193, 51, 219, 220, 221, 222, 32, 418, 419, 420, 421, 13, 126, 127, 128, 129, 38, 130, 131, 132, 133, 49, 134, 135, 136, 137, 138, 139, 140, 141, 142, 143, 422, 313, 314, 315, 300, 301, 302, 303, 231, 232, 233, 234, 235, 236, 237, 238, 169, 170, 171, 172, 173, 174, 175, 176, 177, 178, 179, 180, 181, 182, 183, 184, 185, 186, 187, 188, 189, 423, 424, 425, 426, 427, 428, 429, 430, 239, 240, 241, 242, 243, 244, 245, 246, 431, 432, 433, 434, 435, 309, 310, 311, 436, 437, 438, 439, 440, 441, 297, 298, 299, 207, 208, 209, 210, 304, 305, 306, 307, 308, 312, 316, 317, 318, 319, 202, 203, 204, 205, 206, 442, 473, 474, 475, 476, 477, 478, 479, 480, 490, 491, 492, 493, 494, 495, 496, 497, 498, 499, 481, 482, 483, 484, 485, 486, 487, 488, 489, 500, 501] (by decide +kernel) (by decide +kernel))
set_option maxRecDepth 20000 in
theorem gL_law_L_isWell : GoodIn wsL_law (va_wsS RL 103 yL_isWell wsL_isWell) := goodIn_app (goodIn_of _ (by decide +kernel)) ggL_law_L_isWell
set_option maxRecDepth 20000 in
theorem ggL_law_X4_count : GoodIn wsL_law wsX4_count := goodIn_r _ [85, 18, 22, 12, 86, 87, 88, 17, 89, 60, 90, 91, 92, 21, 93, 68, 94, 95, 96, 11, 97, 40, 39, 41, 42, 98, 99, 100, 101, 102, 103, 104, 105, 31, 106, 107, 108, 109, 110, 111, 112, 113, 114, 115, 116, 117, 33, 473, 474, 475, 476, 477, 478, 479, 480, 490, 491, 492, 493, 494, 495, 496, 497, 498, 499, 481, 482, 483, 484, 485, 486, 487, 488, 489] (by decide +kernel) (by decide +kernel)
set_option maxRecDepth 20000 in
theorem gL_law_X4_count : GoodIn wsL_law (wsV RL 15 RX4 yX4_count wsX4_count) := goodIn_app (goodIn_of _ (by decide +kernel)) ggL_law_X4_count
set_option maxRecDepth 20000 in
theorem ggL_law_L_areAlike : GoodIn wsL_law wsL_areAlike := goodIn_c 445 rfl (by decide +kernel) (goodIn_r (((wsL_areAlike_r1 ++ (wsL_areAlike_r2 ++ (wsL_areAlike_r3 ++ (wsL_areAlike_r4 ++ (wsL_areAlike_r5 ++ (wsL_areAlike_r6 ++ (wsL_areAlike_r7 ++ (wsL_areAlike_r8 ++ (wsL_areAlike_r9 ++ wsL_areAlike_r10))))))))) ++ wsX40 ++ wsX30 ++ wsX20 ++ wsX10 ++ wsX00)) [211, 212, 213, 2, 214, 12, 215, 216, 217, 11, 218, 37, 151, 152, 153, 36, 154, 52, 190, 191, 192, 193, 51, 219, 220, 221, 222, 32, 418, 419, 420, 421, 13, 126, 127, 128, 129, 31, 33, 38, 39, 40, 41, 42, 130, 131, 132, 133, 49, 134, 135, 136, 137, 138, 139, 140, 141, 142, 143, 422, 313, 314, 315, 300, 301, 302, 303, 231, 232, 233, 234, 235, 236, 237, 238, 446, 447, 448, 449, 450, 451, 452, 453, 102, 103, 104, 105, 106, 107, 108, 109, 454, 455, 456, 457, 458, 459, 460, 461, 118, 119, 76, 120, 121, 437, 438, 439, 440, 441, 297, 298, 299, 207, 208, 209, 210, 304, 305, 306, 307, 308, 309, 310, 311, 178, 179, 180, 181, 114, 115, 116, 117, 312, 316, 317, 318, 319, 202, 203, 204, 205, 206, 442, 111, 112, 113, 82, 83, 84, 85, 18, 22, 86, 87, 88, 17, 89, 60, 90, 91, 92, 21, 93, 68, 94, 95, 96, 97, 98, 99, 100, 101, 110, 169, 170, 171, 172, 173, 174, 175, 176, 177, 431, 432, 433, 434, 435, 436, 239, 240, 241, 242, 243, 244, 245, 246, 182, 183, 184, 185, 186, 187, 188, 189, 423, 424, 425, 426, 427, 428, 429, 430, 462, 463, 464, 465, 466, 328, 329, 467, 330, 331, 468, 332, 333, 469, 470, 471, 472, 473, 474, 475, 476, 477, 478, 479, 480, 481, 482, 483, 484, 485, 486, 487, 488, 489, 500, 501, 490, 491, 492, 493, 494, 495, 496, 497, 498, 499] (by decide +kernel) (by decide +kernel))
set_option maxRecDepth 20000 in
theorem gL_law_L_areAlike : GoodIn wsL_law (va_wsS RL 107 yL_areAlike wsL_areAlike) := goodIn_app (goodIn_of _ (by decide +kernel)) ggL_law_L_areAlike
theorem dL_law_0 : decode cL_law 0 = .ok (.new 10, 3) := by decide +kernel
theorem dL_law_3 : decode cL_law 3 = .ok (.dup, 1) := by decide +kernel
theorem dL_law_4 : decode cL_law 4 = .ok (.invokespecial 94, 3) := by decide +kernel
theorem dL_law_7 : decode cL_law 7 = .ok (.astore_n 1, 1) := by decide +kernel
theorem dL_law_8 : decode cL_law 8 = .ok (.new 10, 3) := by decide +kernel
theorem dL_law_11 : decode cL_law 11 = .ok (.dup, 1) := by decide +kernel
theorem dL_law_12 : decode cL_law 12 = .ok (.invokespecial 94, 3) := by decide +kernel
theorem dL_law_15 : decode cL_law 15 = .ok (.astore_n 2, 1) := by decide +kernel
theorem dL_law_16 : decode cL_law 16 = .ok (.iconst 1, 1) := by decide +kernel
theorem dL_law_17 : decode cL_law 17 = .ok (.istore_n 3, 1) := by decide +kernel
theorem dL_law_18 : decode cL_law 18 = .ok (.iconst 0, 1) := by decide +kernel
theorem dL_law_19 : decode cL_law 19 = .ok (.istore 4, 2) := by decide +kernel
theorem dL_law_21 : decode cL_law 21 = .ok (.iload 4, 2) := by decide +kernel
theorem dL_law_23 : decode cL_law 23 = .ok (.bipush 60, 2) := by decide +kernel
theorem dL_law_25 : decode cL_law 25 = .ok (.if_icmp .ge 57, 3) := by decide +kernel
theorem dL_law_28 : decode cL_law 28 = .ok (.iload_n 3, 1) := by decide +kernel
theorem dL_law_29 : decode cL_law 29 = .ok (.ifCond .eq 53, 3) := by decide +kernel
theorem dL_law_32 : decode cL_law 32 = .ok (.aload_n 1, 1) := by decide +kernel
theorem dL_law_33 : decode cL_law 33 = .ok (.aload_n 2, 1) := by decide +kernel
theorem dL_law_34 : decode cL_law 34 = .ok (.aload_n 0, 1) := by decide +kernel
theorem dL_law_35 : decode cL_law 35 = .ok (.iload 4, 2) := by decide +kernel
theorem dL_law_37 : decode cL_law 37 = .ok (.invokestatic 95, 3) := by decide +kernel
theorem dL_law_40 : decode cL_law 40 = .ok (.aload_n 0, 1) := by decide +kernel
theorem dL_law_41 : decode cL_law 41 = .ok (.iload 4, 2) := by decide +kernel
theorem dL_law_43 : decode cL_law 43 = .ok (.iconst 1, 1) := by decide +kernel
theorem dL_law_44 : decode cL_law 44 = .ok (.iadd, 1) := by decide +kernel
theorem dL_law_45 : decode cL_law 45 = .ok (.invokestatic 95, 3) := by decide +kernel
theorem dL_law_48 : decode cL_law 48 = .ok (.iconst 2, 1) := by decide +kernel
theorem dL_law_49 : decode cL_law 49 = .ok (.ishr, 1) := by decide +kernel
theorem dL_law_50 : decode cL_law 50 = .ok (.invokestatic 99, 3) := by decide +kernel
theorem dL_law_53 : decode cL_law 53 = .ok (.ifCond .eq 21, 3) := by decide +kernel
theorem dL_law_56 : decode cL_law 56 = .ok (.iload 4, 2) := by decide +kernel
theorem dL_law_58 : decode cL_law 58 = .ok (.iconst 3, 1) := by decide +kernel
theorem dL_law_59 : decode cL_law 59 = .ok (.irem, 1) := by decide +kernel
theorem dL_law_60 : decode cL_law 60 = .ok (.ifCond .gt 10, 3) := by decide +kernel
theorem dL_law_63 : decode cL_law 63 = .ok (.aload_n 1, 1) := by decide +kernel
theorem dL_law_64 : decode cL_law 64 = .ok (.invokestatic 103, 3) := by decide +kernel
theorem dL_law_67 : decode cL_law 67 = .ok (.ifCond .eq 7, 3) := by decide +kernel
theorem dL_law_70 : decode cL_law 70 = .ok (.iconst 1, 1) := by decide +kernel
theorem dL_law_71 : decode cL_law 71 = .ok (.goto 4, 3) := by decide +kernel
theorem dL_law_74 : decode cL_law 74 = .ok (.iconst 0, 1) := by decide +kernel
theorem dL_law_75 : decode cL_law 75 = .ok (.istore_n 3, 1) := by decide +kernel
theorem dL_law_76 : decode cL_law 76 = .ok (.iinc 4 1, 3) := by decide +kernel
theorem dL_law_79 : decode cL_law 79 = .ok (.goto (-58), 3) := by decide +kernel
theorem dL_law_82 : decode cL_law 82 = .ok (.iload_n 3, 1) := by decide +kernel
theorem dL_law_83 : decode cL_law 83 = .ok (.ifCond .eq 36, 3) := by decide +kernel
theorem dL_law_86 : decode cL_law 86 = .ok (.aload_n 1, 1) := by decide +kernel
theorem dL_law_87 : decode cL_law 87 = .ok (.invokestatic 103, 3) := by decide +kernel
theorem dL_law_90 : decode cL_law 90 = .ok (.ifCond .eq 29, 3) := by decide +kernel
theorem dL_law_93 : decode cL_law 93 = .ok (.aload_n 1, 1) := by decide +kernel
theorem dL_law_94 : decode cL_law 94 = .ok (.iconst 1, 1) := by decide +kernel
theorem dL_law_95 : decode cL_law 95 = .ok (.invokevirtual 15, 3) := by decide +kernel
theorem dL_law_98 : decode cL_law 98 = .ok (.ifCond .eq 17, 3) := by decide +kernel
theorem dL_law_101 : decode cL_law 101 = .ok (.aload_n 1, 1) := by decide +kernel
theorem dL_law_102 : decode cL_law 102 = .ok (.aload_n 2, 1) := by decide +kernel
theorem dL_law_103 : decode cL_law 103 = .ok (.aload_n 0, 1) := by decide +kernel
theorem dL_law_104 : decode cL_law 104 = .ok (.bipush 60, 2) := by decide +kernel
theorem dL_law_106 : decode cL_law 106 = .ok (.invokestatic 95, 3) := by decide +kernel
theorem dL_law_109 : decode cL_law 109 = .ok (.invokestatic 107, 3) := by decide +kernel
theorem dL_law_112 : decode cL_law 112 = .ok (.ifCond .eq 7, 3) := by decide +kernel
theorem dL_law_115 : decode cL_law 115 = .ok (.iconst 1, 1) := by decide +kernel
theorem dL_law_116 : decode cL_law 116 = .ok (.goto 4, 3) := by decide +kernel
theorem dL_law_119 : decode cL_law 119 = .ok (.iconst 0, 1) := by decide +kernel
theorem dL_law_120 : decode cL_law 120 = .ok (.ireturn, 1) := by decide +kernel
