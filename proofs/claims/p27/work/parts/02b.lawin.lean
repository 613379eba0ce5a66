theorem goodIn_c {big ws : List Cond} {w : Cond} (i : Nat) (hi : big[i]? = some w) (hg : goodWord w = true) (h : GoodIn big ws) : GoodIn big (w :: ws) := fun v hv => (List.mem_cons.mp hv).elim (fun e => by subst e; exact ⟨by first | exact List.mem_of_getElem? hi | exact List.getElem?_mem hi, good_of_word hg⟩) (h v)
set_option maxRecDepth 20000 in
theorem wsL_law_r1_g : GoodIn lw_tbl wsL_law_r1 := goodIn_r _ [28, 29, 21, 30, 31, 32, 33, 34, 35, 36, 37, 22, 135, 136, 137, 87, 88, 25, 138, 106, 107, 26, 139, 140] (by decide +kernel) (by decide +kernel)
set_option maxRecDepth 20000 in
theorem wsL_law_r2_g : GoodIn lw_tbl wsL_law_r2 := goodIn_r _ [141, 142, 38, 39, 40, 41, 58, 59, 60, 61, 42, 43, 23, 62, 63, 64, 65, 66, 67, 44, 45, 46, 47, 48] (by decide +kernel) (by decide +kernel)
set_option maxRecDepth 20000 in
theorem wsL_law_r3_g : GoodIn lw_tbl wsL_law_r3 := goodIn_r _ [49, 24, 50, 51, 52, 89, 90, 91, 92, 93, 96, 97, 98, 95, 108, 109, 110, 111, 134, 112, 113, 114, 115, 116] (by decide +kernel) (by decide +kernel)
set_option maxRecDepth 20000 in
theorem wsL_law_r4_g : GoodIn lw_tbl wsL_law_r4 := goodIn_app (goodIn_r [Cond.fieldLink RX0 28 "KingsBanquet$Guests" "age" "I", Cond.fieldLink RX0 31 "KingsBanquet$Guests" "number" "I", Cond.methodLink RL 95 yL_cell, Cond.static yL_cell, Cond.initialized RL, Cond.code yL_cell cL_cell 2 (some .int), Cond.constant RL 7 (2144854985), Cond.methodLink RL 99 yL_isStep, Cond.static yL_isStep] [117, 118, 196, 197, 20, 198, 199, 200, 201] (by decide +kernel) (by decide +kernel)) (goodIn_c 202 rfl (by decide +kernel) (goodIn_r [Cond.methodLink RL 15 yX4_count, Cond.instanceMethod yX4_count, Cond.selects RX4 yX4_count yX4_count, Cond.code yX4_count cX4_count 2 (some .int), Cond.methodLink RX4 96 yX1_size, Cond.instanceMethod yX1_size, Cond.selects RX1 yX1_size yX1_size, Cond.code yX1_size cX1_size 1 (some .int), Cond.methodLink RX4 157 yX0_length, Cond.instanceMethod yX0_length, Cond.selects RX0 yX0_length yX0_length, Cond.code yX0_length cX0_length 1 (some .int), Cond.methodLink RX4 160 yX3_account, Cond.instanceMethod yX3_account] [160, 161, 162, 163, 164, 165, 166, 167, 168, 169, 170, 171, 172, 173] (by decide +kernel) (by decide +kernel)))
set_option maxRecDepth 20000 in
theorem wsL_law_r5_g : GoodIn lw_tbl wsL_law_r5 := goodIn_r _ [174, 175, 176, 178, 0, 179, 180, 182, 1, 183, 184, 185, 186, 187, 188, 189, 190, 191, 192, 193, 194, 195, 203, 204] (by decide +kernel) (by decide +kernel)
set_option maxRecDepth 20000 in
theorem wsL_law_r6_g : GoodIn lw_tbl wsL_law_r6 := goodIn_r _ [205, 206, 207, 208, 209, 210, 211, 212, 213, 214, 216, 217, 218, 219, 220, 221, 223, 222, 27, 224, 225, 226, 227, 229] (by decide +kernel) (by decide +kernel)
set_option maxRecDepth 20000 in
theorem wsL_law_r7_g : GoodIn lw_tbl wsL_law_r7 := goodIn_r _ [230, 231, 232, 233, 234, 235, 236, 237, 238, 239, 240, 241, 243, 2, 244, 245, 246, 247, 248, 254, 249, 251, 3, 252] (by decide +kernel) (by decide +kernel)
set_option maxRecDepth 20000 in
theorem wsL_law_r8_g : GoodIn lw_tbl wsL_law_r8 := goodIn_r _ [253, 255, 256, 257, 258, 259, 260, 261, 262, 263, 264, 265, 266, 267, 268, 269, 270, 271, 272, 273, 274, 275, 276, 277] (by decide +kernel) (by decide +kernel)
set_option maxRecDepth 20000 in
theorem wsL_law_r9_g : GoodIn lw_tbl wsL_law_r9 := goodIn_r _ [278, 279, 280, 281, 282, 283, 284, 285, 286, 287, 288, 289, 290, 291, 292, 293, 295, 4, 296, 297, 298, 299, 300, 301] (by decide +kernel) (by decide +kernel)
set_option maxRecDepth 20000 in
theorem wsL_law_r10_g : GoodIn lw_tbl wsL_law_r10 := goodIn_r _ [302, 303, 304, 305, 307, 5, 308, 309, 310, 311, 312, 313, 314, 315, 316, 317, 319, 6, 320, 321, 322, 323, 324, 325] (by decide +kernel) (by decide +kernel)
set_option maxRecDepth 20000 in
theorem wsL_law_r11_g : GoodIn lw_tbl wsL_law_r11 := goodIn_r _ [326, 327, 328, 329, 330, 331, 332, 333, 334, 335, 336, 337, 338, 339, 340, 341, 342, 343, 344, 345, 346, 347, 348, 349] (by decide +kernel) (by decide +kernel)
set_option maxRecDepth 20000 in
theorem wsL_law_r12_g : GoodIn lw_tbl wsL_law_r12 := goodIn_r _ [350, 351, 352, 353, 354, 355, 356, 357, 358, 359, 360, 361, 362, 364, 7, 365, 366, 368, 8, 369, 370, 371, 372, 373] (by decide +kernel) (by decide +kernel)
set_option maxRecDepth 20000 in
theorem wsL_law_r13_g : GoodIn lw_tbl wsL_law_r13 := goodIn_r _ [374, 376, 9, 377, 378, 380, 10, 381, 382, 383, 384, 385, 386, 388, 11, 389, 390, 392, 12, 393, 394, 395, 396, 397] (by decide +kernel) (by decide +kernel)
set_option maxRecDepth 20000 in
theorem wsL_law_r14_g : GoodIn lw_tbl wsL_law_r14 := goodIn_r _ [398, 399, 400, 401, 402, 404, 13, 405, 406, 407, 408, 409, 410, 411, 412, 413, 415, 416, 418, 419, 421, 422, 423, 424] (by decide +kernel) (by decide +kernel)
set_option maxRecDepth 20000 in
theorem wsL_law_r15_g : GoodIn lw_tbl wsL_law_r15 := goodIn_r _ [425, 426, 427, 428, 429, 430, 431, 432, 433, 434, 435, 436, 437, 438, 439, 440, 441, 442, 443, 444, 445, 446, 447, 448] (by decide +kernel) (by decide +kernel)
set_option maxRecDepth 20000 in
theorem wsL_law_r16_g : GoodIn lw_tbl wsL_law_r16 := goodIn_r _ [449, 450, 451, 452, 453, 454, 455, 456, 457, 458, 460, 14, 461, 462, 464, 15, 465, 466, 468, 16, 469, 470, 472, 17] (by decide +kernel) (by decide +kernel)
set_option maxRecDepth 20000 in
theorem wsL_law_r17_g : GoodIn lw_tbl wsL_law_r17 := goodIn_r _ [473, 474, 476, 18, 477, 478, 479, 480, 481, 482, 483, 484, 486, 19, 487, 488, 489, 490, 491, 492, 493, 494, 495, 496] (by decide +kernel) (by decide +kernel)
set_option maxRecDepth 20000 in
theorem wsL_law_r18_g : GoodIn lw_tbl wsL_law_r18 := goodIn_app (goodIn_r [Cond.instanceMethod yX0_age, Cond.selects RX0 yX0_age yX0_age, Cond.code yX0_age cX0_age 1 (some .int), Cond.methodLink RX4 175 yX0_number, Cond.instanceMethod yX0_number, Cond.selects RX0 yX0_number yX0_number, Cond.code yX0_number cX0_number 1 (some .int), Cond.methodLink RL 103 yL_isWell, Cond.static yL_isWell] [497, 498, 499, 500, 501, 502, 503, 559, 560] (by decide +kernel) (by decide +kernel)) (goodIn_c 561 rfl (by decide +kernel) (goodIn_r [Cond.methodLink RL 73 yX4_changesNeeded, Cond.instanceMethod yX4_changesNeeded, Cond.selects RX4 yX4_changesNeeded yX4_changesNeeded, Cond.code yX4_changesNeeded cX4_changesNeeded 1 (some .int), Cond.methodLink RX4 127 yX3_sendEnvoys, Cond.methodLink RL 88 yX4_waits, Cond.instanceMethod yX4_waits, Cond.selects RX4 yX4_waits yX4_waits, Cond.code yX4_waits cX4_waits 2 (some .int), Cond.methodLink RX4 115 yX3_waiterAt, Cond.instanceMethod yX3_waiterAt, Cond.selects RX3 yX3_waiterAt yX3_waiterAt, Cond.code yX3_waiterAt cX3_waiterAt 2 (some .int), Cond.methodLink RL 85 yX4_dueIn] [507, 508, 509, 510, 511, 540, 541, 542, 543, 544, 545, 546, 547, 534] (by decide +kernel) (by decide +kernel)))
set_option maxRecDepth 20000 in
theorem wsL_law_r19_g : GoodIn lw_tbl wsL_law_r19 := goodIn_app (goodIn_r [Cond.instanceMethod yX4_dueIn, Cond.selects RX4 yX4_dueIn yX4_dueIn, Cond.code yX4_dueIn cX4_dueIn 3 (some .int), Cond.methodLink RX4 121 yX3_isLesserAbove, Cond.methodLink RX4 124 yX3_setting, Cond.methodLink RL 82 yX4_ifRounds, Cond.instanceMethod yX4_ifRounds, Cond.selects RX4 yX4_ifRounds yX4_ifRounds, Cond.code yX4_ifRounds cX4_ifRounds 3 (some .int), Cond.methodLink RX4 148 yX3_holdRound, Cond.methodLink RX4 151 yX3_sum, Cond.methodLink RL 107 yL_areAlike, Cond.static yL_areAlike] [535, 536, 537, 538, 539, 528, 529, 530, 531, 532, 533, 504, 505] (by decide +kernel) (by decide +kernel)) (goodIn_c 506 rfl (by decide +kernel) (goodIn_r [Cond.methodLink RL 76 yX4_mostSlighted, Cond.instanceMethod yX4_mostSlighted, Cond.selects RX4 yX4_mostSlighted yX4_mostSlighted, Cond.code yX4_mostSlighted cX4_mostSlighted 1 (some .int), Cond.methodLink RX4 145 yX3_mostSlightedSitter, Cond.instanceMethod yX3_mostSlightedSitter, Cond.selects RX3 yX3_mostSlightedSitter yX3_mostSlightedSitter, Cond.code yX3_mostSlightedSitter cX3_mostSlightedSitter 5 (some .int), Cond.methodLink RL 79 yX4_nextArrival, Cond.instanceMethod yX4_nextArrival] [512, 513, 514, 515, 516, 517, 518, 519, 520, 521] (by decide +kernel) (by decide +kernel)))
set_option maxRecDepth 20000 in
theorem wsL_law_r20_g : GoodIn lw_tbl wsL_law_r20 := goodIn_r _ [522, 523, 524, 525, 526, 527, 548, 549, 550, 551, 552, 553, 554, 555, 556, 557, 558] (by decide +kernel) (by decide +kernel)
set_option maxRecDepth 20000 in
theorem wsX00_g : GoodIn lw_tbl wsX00 := goodIn_sub (by decide +kernel) (by decide +kernel)
set_option maxRecDepth 20000 in
theorem wsX10_g : GoodIn lw_tbl wsX10 := goodIn_sub (by decide +kernel) (by decide +kernel)
set_option maxRecDepth 20000 in
theorem wsX20_g : GoodIn lw_tbl wsX20 := goodIn_sub (by decide +kernel) (by decide +kernel)
set_option maxRecDepth 20000 in
theorem wsX30_g : GoodIn lw_tbl wsX30 := goodIn_sub (by decide +kernel) (by decide +kernel)
set_option maxRecDepth 20000 in
theorem wsX40_g : GoodIn lw_tbl wsX40 := goodIn_sub (by decide +kernel) (by decide +kernel)
theorem wsL_law_g : GoodIn lw_tbl wsL_law := (goodIn_app (goodIn_app (goodIn_app (goodIn_app (goodIn_app (goodIn_app (goodIn_app wsL_law_r1_g (goodIn_app wsL_law_r2_g (goodIn_app wsL_law_r3_g (goodIn_app wsL_law_r4_g (goodIn_app wsL_law_r5_g (goodIn_app wsL_law_r6_g (goodIn_app wsL_law_r7_g (goodIn_app wsL_law_r8_g (goodIn_app wsL_law_r9_g (goodIn_app wsL_law_r10_g (goodIn_app wsL_law_r11_g (goodIn_app wsL_law_r12_g (goodIn_app wsL_law_r13_g (goodIn_app wsL_law_r14_g (goodIn_app wsL_law_r15_g (goodIn_app wsL_law_r16_g (goodIn_app wsL_law_r17_g (goodIn_app wsL_law_r18_g (goodIn_app wsL_law_r19_g wsL_law_r20_g))))))))))))))))))) wsX40_g) wsX30_g) wsX10_g) wsX00_g) wsX20_g) (fun w h => absurd h List.not_mem_nil))
theorem wsL_law_in : ∀ w ∈ wsL_law, w ∈ lw_tbl := fun w h => (wsL_law_g w h).1
theorem inlX0 : ∀ w ∈ wsX00, w ∈ wsL_law := fun _ h => List.mem_append_left _ (List.mem_append_left _ (List.mem_append_right _ h))
theorem inX0 : ∀ w ∈ wsX00, w ∈ lw_tbl := fun w h => wsL_law_in w (inlX0 w h)
theorem inlX1 : ∀ w ∈ wsX10, w ∈ wsL_law := fun _ h => List.mem_append_left _ (List.mem_append_left _ (List.mem_append_left _ (List.mem_append_right _ h)))
theorem inX1 : ∀ w ∈ wsX10, w ∈ lw_tbl := fun w h => wsL_law_in w (inlX1 w h)
theorem inlX2 : ∀ w ∈ wsX20, w ∈ wsL_law := fun _ h => List.mem_append_left _ (List.mem_append_right _ h)
theorem inX2 : ∀ w ∈ wsX20, w ∈ lw_tbl := fun w h => wsL_law_in w (inlX2 w h)
theorem inlX3 : ∀ w ∈ wsX30, w ∈ wsL_law := fun _ h => List.mem_append_left _ (List.mem_append_left _ (List.mem_append_left _ (List.mem_append_left _ (List.mem_append_right _ h))))
theorem inX3 : ∀ w ∈ wsX30, w ∈ lw_tbl := fun w h => wsL_law_in w (inlX3 w h)
theorem inlX4 : ∀ w ∈ wsX40, w ∈ wsL_law := fun _ h => List.mem_append_left _ (List.mem_append_left _ (List.mem_append_left _ (List.mem_append_left _ (List.mem_append_left _ (List.mem_append_right _ h)))))
theorem inX4 : ∀ w ∈ wsX40, w ∈ lw_tbl := fun w h => wsL_law_in w (inlX4 w h)
theorem inX5 : ∀ w ∈ wsX50, w ∈ lw_tbl := by decide +kernel
theorem inJ9 : ∀ w ∈ wsJ90, w ∈ lw_tbl := by decide +kernel
theorem inJ10 : ∀ w ∈ wsJ100, w ∈ lw_tbl := by decide +kernel
