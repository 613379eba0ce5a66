theorem dL_cell_0 : decode cL_cell 0 = .ok (.iload_n 1, 1) := by decide +kernel
theorem dL_cell_1 : decode cL_cell 1 = .ok (.aload_n 0, 1) := by decide +kernel
theorem dL_cell_2 : decode cL_cell 2 = .ok (.arraylength, 1) := by decide +kernel
theorem dL_cell_3 : decode cL_cell 3 = .ok (.if_icmp .ge 9, 3) := by decide +kernel
theorem dL_cell_6 : decode cL_cell 6 = .ok (.aload_n 0, 1) := by decide +kernel
theorem dL_cell_7 : decode cL_cell 7 = .ok (.iload_n 1, 1) := by decide +kernel
theorem dL_cell_8 : decode cL_cell 8 = .ok (.iaload, 1) := by decide +kernel
theorem dL_cell_9 : decode cL_cell 9 = .ok (.goto 11, 3) := by decide +kernel
theorem dL_cell_12 : decode cL_cell 12 = .ok (.ldc 7, 2) := by decide +kernel
theorem dL_cell_14 : decode cL_cell 14 = .ok (.iload_n 1, 1) := by decide +kernel
theorem dL_cell_15 : decode cL_cell 15 = .ok (.sipush 1433, 3) := by decide +kernel
theorem dL_cell_18 : decode cL_cell 18 = .ok (.iadd, 1) := by decide +kernel
theorem dL_cell_19 : decode cL_cell 19 = .ok (.imul, 1) := by decide +kernel
theorem dL_cell_20 : decode cL_cell 20 = .ok (.ireturn, 1) := by decide +kernel
theorem dL_up_0 : decode cL_up 0 = .ok (.iload_n 0, 1) := by decide +kernel
theorem dL_up_1 : decode cL_up 1 = .ok (.ldc 8, 2) := by decide +kernel
theorem dL_up_3 : decode cL_up 3 = .ok (.iand, 1) := by decide +kernel
theorem dL_up_4 : decode cL_up 4 = .ok (.iload_n 1, 1) := by decide +kernel
theorem dL_up_5 : decode cL_up 5 = .ok (.irem, 1) := by decide +kernel
theorem dL_up_6 : decode cL_up 6 = .ok (.ireturn, 1) := by decide +kernel
set_option maxRecDepth 20000 in
theorem ggL_number_X4_type : GoodIn wsL_number wsX4_type := goodIn_r _ [5, 6, 7, 8, 9, 10, 11, 12, 13, 14, 15, 16, 17, 18, 19, 20, 21, 22, 23, 24, 25, 26, 27, 28] (by decide +kernel) (by decide +kernel)
set_option maxRecDepth 20000 in
theorem gL_number_X4_type : GoodIn wsL_number (wsV RL 9 RX4 yX4_type wsX4_type) := goodIn_app (goodIn_of _ (by decide +kernel)) ggL_number_X4_type
theorem dL_number_0 : decode cL_number 0 = .ok (.iload_n 1, 1) := by decide +kernel
theorem dL_number_1 : decode cL_number 1 = .ok (.sipush 1000, 3) := by decide +kernel
theorem dL_number_4 : decode cL_number 4 = .ok (.if_icmp .lt 19, 3) := by decide +kernel
theorem dL_number_7 : decode cL_number 7 = .ok (.aload_n 0, 1) := by decide +kernel
theorem dL_number_8 : decode cL_number 8 = .ok (.bipush 48, 2) := by decide +kernel
theorem dL_number_10 : decode cL_number 10 = .ok (.iload_n 1, 1) := by decide +kernel
theorem dL_number_11 : decode cL_number 11 = .ok (.sipush 1000, 3) := by decide +kernel
theorem dL_number_14 : decode cL_number 14 = .ok (.idiv, 1) := by decide +kernel
theorem dL_number_15 : decode cL_number 15 = .ok (.iadd, 1) := by decide +kernel
theorem dL_number_16 : decode cL_number 16 = .ok (.i2c, 1) := by decide +kernel
theorem dL_number_17 : decode cL_number 17 = .ok (.invokevirtual 9, 3) := by decide +kernel
theorem dL_number_20 : decode cL_number 20 = .ok (.ifCond .le 70, 3) := by decide +kernel
theorem dL_number_23 : decode cL_number 23 = .ok (.iload_n 1, 1) := by decide +kernel
theorem dL_number_24 : decode cL_number 24 = .ok (.bipush 100, 2) := by decide +kernel
theorem dL_number_26 : decode cL_number 26 = .ok (.if_icmp .lt 21, 3) := by decide +kernel
theorem dL_number_29 : decode cL_number 29 = .ok (.aload_n 0, 1) := by decide +kernel
theorem dL_number_30 : decode cL_number 30 = .ok (.bipush 48, 2) := by decide +kernel
theorem dL_number_32 : decode cL_number 32 = .ok (.iload_n 1, 1) := by decide +kernel
theorem dL_number_33 : decode cL_number 33 = .ok (.bipush 100, 2) := by decide +kernel
theorem dL_number_35 : decode cL_number 35 = .ok (.idiv, 1) := by decide +kernel
theorem dL_number_36 : decode cL_number 36 = .ok (.bipush 10, 2) := by decide +kernel
theorem dL_number_38 : decode cL_number 38 = .ok (.irem, 1) := by decide +kernel
theorem dL_number_39 : decode cL_number 39 = .ok (.iadd, 1) := by decide +kernel
theorem dL_number_40 : decode cL_number 40 = .ok (.i2c, 1) := by decide +kernel
theorem dL_number_41 : decode cL_number 41 = .ok (.invokevirtual 9, 3) := by decide +kernel
theorem dL_number_44 : decode cL_number 44 = .ok (.ifCond .le 46, 3) := by decide +kernel
theorem dL_number_47 : decode cL_number 47 = .ok (.iload_n 1, 1) := by decide +kernel
theorem dL_number_48 : decode cL_number 48 = .ok (.bipush 10, 2) := by decide +kernel
theorem dL_number_50 : decode cL_number 50 = .ok (.if_icmp .lt 21, 3) := by decide +kernel
theorem dL_number_53 : decode cL_number 53 = .ok (.aload_n 0, 1) := by decide +kernel
theorem dL_number_54 : decode cL_number 54 = .ok (.bipush 48, 2) := by decide +kernel
theorem dL_number_56 : decode cL_number 56 = .ok (.iload_n 1, 1) := by decide +kernel
theorem dL_number_57 : decode cL_number 57 = .ok (.bipush 10, 2) := by decide +kernel
theorem dL_number_59 : decode cL_number 59 = .ok (.idiv, 1) := by decide +kernel
theorem dL_number_60 : decode cL_number 60 = .ok (.bipush 10, 2) := by decide +kernel
theorem dL_number_62 : decode cL_number 62 = .ok (.irem, 1) := by decide +kernel
theorem dL_number_63 : decode cL_number 63 = .ok (.iadd, 1) := by decide +kernel
theorem dL_number_64 : decode cL_number 64 = .ok (.i2c, 1) := by decide +kernel
theorem dL_number_65 : decode cL_number 65 = .ok (.invokevirtual 9, 3) := by decide +kernel
theorem dL_number_68 : decode cL_number 68 = .ok (.ifCond .le 22, 3) := by decide +kernel
theorem dL_number_71 : decode cL_number 71 = .ok (.aload_n 0, 1) := by decide +kernel
theorem dL_number_72 : decode cL_number 72 = .ok (.bipush 48, 2) := by decide +kernel
theorem dL_number_74 : decode cL_number 74 = .ok (.iload_n 1, 1) := by decide +kernel
theorem dL_number_75 : decode cL_number 75 = .ok (.bipush 10, 2) := by decide +kernel
theorem dL_number_77 : decode cL_number 77 = .ok (.irem, 1) := by decide +kernel
theorem dL_number_78 : decode cL_number 78 = .ok (.iadd, 1) := by decide +kernel
theorem dL_number_79 : decode cL_number 79 = .ok (.i2c, 1) := by decide +kernel
theorem dL_number_80 : decode cL_number 80 = .ok (.invokevirtual 9, 3) := by decide +kernel
theorem dL_number_83 : decode cL_number 83 = .ok (.ifCond .le 7, 3) := by decide +kernel
theorem dL_number_86 : decode cL_number 86 = .ok (.iconst 1, 1) := by decide +kernel
theorem dL_number_87 : decode cL_number 87 = .ok (.goto 4, 3) := by decide +kernel
theorem dL_number_90 : decode cL_number 90 = .ok (.iconst 0, 1) := by decide +kernel
theorem dL_number_91 : decode cL_number 91 = .ok (.ireturn, 1) := by decide +kernel
set_option maxRecDepth 20000 in
theorem ggL_isStep_X4_count : GoodIn wsL_isStep wsX4_count := goodIn_r _ [5, 6, 7, 8, 9, 10, 11, 12, 13, 14, 15, 16, 17, 18, 19, 20, 21, 22, 23, 24, 25, 26, 27, 28, 29, 30, 31, 32, 33, 34, 35, 36, 37, 38, 39, 40, 41, 42, 43, 44, 45, 46, 47, 48, 49, 50, 51, 370, 371, 372, 373, 374, 375, 376, 377, 378, 379, 380, 381, 382, 383, 384, 385, 386, 387, 388, 389, 390, 391, 392, 393, 394, 395, 396] (by decide +kernel) (by decide +kernel)
set_option maxRecDepth 20000 in
theorem gL_isStep_X4_count : GoodIn wsL_isStep (wsV RL 15 RX4 yX4_count wsX4_count) := goodIn_app (goodIn_of _ (by decide +kernel)) ggL_isStep_X4_count
set_option maxRecDepth 20000 in
theorem ggL_isStep_L_up : GoodIn wsL_isStep wsL_up := goodIn_r _ [55, 56] (by decide +kernel) (by decide +kernel)
set_option maxRecDepth 20000 in
theorem gL_isStep_L_up : GoodIn wsL_isStep (va_wsS RL 19 yL_up wsL_up) := goodIn_app (goodIn_of _ (by decide +kernel)) ggL_isStep_L_up
set_option maxRecDepth 20000 in
theorem ggL_isStep_X4_set : GoodIn wsL_isStep wsX4_set := goodIn_r _ [60, 61, 8, 62, 63, 64, 24, 65, 38, 66, 51, 67, 68, 27, 26, 28, 29, 69, 4, 70, 71, 72, 73, 74, 75, 76, 77, 78, 79, 80, 81, 82, 83, 84, 85, 86, 87, 88, 89, 90, 91, 92, 93, 94, 95, 96, 97, 98, 99, 100, 101, 6, 102, 103, 104, 12, 105, 106, 14, 107, 108, 109, 110, 111, 112, 113, 370, 371, 372, 373, 374, 375, 376, 377, 388, 389, 390, 391, 392, 393, 394, 395, 396, 397, 398, 378, 379, 380] (by decide +kernel) (by decide +kernel)
set_option maxRecDepth 20000 in
theorem gL_isStep_X4_set : GoodIn wsL_isStep (wsV RL 25 RX4 yX4_set wsX4_set) := goodIn_app (goodIn_of _ (by decide +kernel)) ggL_isStep_X4_set
set_option maxRecDepth 20000 in
theorem ggL_isStep_X4_king : GoodIn wsL_isStep wsX4_king := goodIn_r _ [117, 8, 118, 40, 41, 24, 42, 27, 119, 120, 121, 122, 67, 68, 123, 124, 125, 82, 126, 85, 84, 34, 35, 36, 37, 38, 39, 370, 371, 372, 373, 374, 375, 376, 377, 388, 389, 390, 391, 392, 393, 394, 395, 396, 397, 398] (by decide +kernel) (by decide +kernel)
set_option maxRecDepth 20000 in
theorem gL_isStep_X4_king : GoodIn wsL_isStep (wsV RL 28 RX4 yX4_king wsX4_king) := goodIn_app (goodIn_of _ (by decide +kernel)) ggL_isStep_X4_king
set_option maxRecDepth 20000 in
theorem ggL_isStep_X4_seat : GoodIn wsL_isStep wsX4_seat := goodIn_r _ [130, 8, 131, 132, 133, 24, 134, 67, 135, 136, 137, 82, 138, 85, 84, 370, 371, 372, 373, 374, 375, 376, 377, 388, 389, 390, 391, 392, 393, 394, 395, 396, 397, 398] (by decide +kernel) (by decide +kernel)
set_option maxRecDepth 20000 in
theorem gL_isStep_X4_seat : GoodIn wsL_isStep (wsV RL 31 RX4 yX4_seat wsX4_seat) := goodIn_app (goodIn_of _ (by decide +kernel)) ggL_isStep_X4_seat
set_option maxRecDepth 20000 in
theorem ggL_isStep_X4_leave : GoodIn wsL_isStep wsX4_leave := goodIn_r _ [142, 61, 8, 62, 63, 64, 24, 65, 38, 66, 51, 67, 68, 27, 26, 28, 29, 69, 4, 70, 71, 72, 73, 74, 75, 76, 77, 78, 79, 80, 81, 82, 83, 84, 85, 86, 143, 144, 145, 146, 39, 40, 41, 42, 34, 35, 36, 37, 147, 148, 149, 150, 151, 124, 125, 126, 152, 153, 154, 155, 98, 99, 100, 101, 6, 102, 103, 104, 12, 105, 106, 14, 107, 108, 109, 110, 111, 112, 113, 370, 371, 372, 373, 374, 375, 376, 377, 388, 389, 390, 391, 392, 393, 394, 395, 396, 397, 398, 378, 379, 380] (by decide +kernel) (by decide +kernel)
set_option maxRecDepth 20000 in
theorem gL_isStep_X4_leave : GoodIn wsL_isStep (wsV RL 34 RX4 yX4_leave wsX4_leave) := goodIn_app (goodIn_of _ (by decide +kernel)) ggL_isStep_X4_leave
set_option maxRecDepth 20000 in
theorem ggL_isStep_X4_wrongPairs : GoodIn wsL_isStep wsX4_wrongPairs := goodIn_r _ [159, 8, 160, 161, 162, 24, 163, 67, 94, 95, 96, 82, 97, 85, 135, 136, 137, 138, 84, 164, 165, 166, 167, 66, 370, 371, 372, 373, 374, 375, 376, 377, 388, 389, 390, 391, 392, 393, 394, 395, 396, 397, 398] (by decide +kernel) (by decide +kernel)
set_option maxRecDepth 20000 in
theorem gL_isStep_X4_wrongPairs : GoodIn wsL_isStep (wsV RL 37 RX4 yX4_wrongPairs wsX4_wrongPairs) := goodIn_app (goodIn_of _ (by decide +kernel)) ggL_isStep_X4_wrongPairs
set_option maxRecDepth 20000 in
theorem ggL_isStep_X4_send : GoodIn wsL_isStep wsX4_send := goodIn_r _ [171, 61, 8, 62, 63, 64, 24, 65, 38, 66, 51, 67, 68, 27, 26, 28, 29, 69, 4, 70, 71, 72, 73, 74, 75, 76, 77, 78, 79, 80, 81, 82, 83, 84, 85, 86, 172, 173, 174, 175, 94, 95, 96, 97, 135, 136, 137, 138, 164, 165, 166, 167, 176, 177, 178, 179, 180, 181, 182, 183, 98, 99, 100, 101, 6, 102, 103, 104, 12, 105, 106, 14, 107, 108, 109, 110, 111, 112, 113, 370, 371, 372, 373, 374, 375, 376, 377, 388, 389, 390, 391, 392, 393, 394, 395, 396, 397, 398, 378, 379, 380] (by decide +kernel) (by decide +kernel)
set_option maxRecDepth 20000 in
theorem gL_isStep_X4_send : GoodIn wsL_isStep (wsV RL 41 RX4 yX4_send wsX4_send) := goodIn_app (goodIn_of _ (by decide +kernel)) ggL_isStep_X4_send
set_option maxRecDepth 20000 in
theorem ggL_isStep_X4_reason : GoodIn wsL_isStep wsX4_reason := goodIn_r _ [187, 8, 118, 40, 41, 24, 42, 27, 188, 189, 190, 191, 67, 123, 124, 125, 82, 126, 85, 84, 164, 165, 166, 167, 66, 34, 35, 36, 37, 38, 39, 370, 371, 372, 373, 374, 375, 376, 377, 388, 389, 390, 391, 392, 393, 394, 395, 396, 397, 398] (by decide +kernel) (by decide +kernel)
set_option maxRecDepth 20000 in
theorem gL_isStep_X4_reason : GoodIn wsL_isStep (wsV RL 44 RX4 yX4_reason wsX4_reason) := goodIn_app (goodIn_of _ (by decide +kernel)) ggL_isStep_X4_reason
set_option maxRecDepth 20000 in
theorem ggL_isStep_X4_undo : GoodIn wsL_isStep wsX4_undo := goodIn_r _ [195, 6, 8, 9, 10, 11, 12, 13, 14, 196, 197, 198, 199, 106, 108, 109, 110, 111, 112, 113, 63, 64, 24, 65, 38, 66, 51, 67, 68, 27, 26, 28, 29, 69, 4, 70, 71, 72, 73, 74, 75, 76, 77, 78, 79, 80, 81, 82, 83, 84, 85, 86, 370, 371, 372, 373, 374, 375, 376, 377, 378, 379, 380, 388, 389, 390, 391, 392, 393, 394, 395, 396, 397, 398] (by decide +kernel) (by decide +kernel)
set_option maxRecDepth 20000 in
theorem gL_isStep_X4_undo : GoodIn wsL_isStep (wsV RL 47 RX4 yX4_undo wsX4_undo) := goodIn_app (goodIn_of _ (by decide +kernel)) ggL_isStep_X4_undo
set_option maxRecDepth 20000 in
theorem ggL_isStep_X4_keep : GoodIn wsL_isStep wsX4_keep := goodIn_r _ [203, 204, 8, 205, 62, 63, 64, 24, 65, 38, 66, 51, 67, 68, 27, 26, 28, 29, 69, 4, 70, 71, 72, 73, 74, 75, 76, 77, 78, 79, 80, 81, 82, 83, 84, 85, 86, 206, 207, 208, 209, 94, 95, 96, 97, 370, 371, 372, 373, 374, 375, 376, 377, 388, 389, 390, 391, 392, 393, 394, 395, 396, 397, 398] (by decide +kernel) (by decide +kernel)
set_option maxRecDepth 20000 in
theorem gL_isStep_X4_keep : GoodIn wsL_isStep (wsV RL 50 RX4 yX4_keep wsX4_keep) := goodIn_app (goodIn_of _ (by decide +kernel)) ggL_isStep_X4_keep
set_option maxRecDepth 20000 in
theorem ggL_isStep_X4_restore : GoodIn wsL_isStep wsX4_restore := goodIn_r _ [213, 205, 61, 204, 62, 63, 64, 24, 65, 38, 66, 51, 67, 68, 27, 26, 28, 29, 69, 4, 70, 71, 72, 73, 74, 75, 76, 77, 78, 79, 80, 81, 82, 83, 84, 85, 86, 206, 207, 208, 209, 94, 95, 96, 97, 98, 99, 100, 101, 6, 8, 102, 103, 104, 12, 105, 106, 14, 107, 108, 109, 110, 111, 112, 113, 370, 371, 372, 373, 374, 375, 376, 377, 388, 389, 390, 391, 392, 393, 394, 395, 396, 397, 398, 378, 379, 380] (by decide +kernel) (by decide +kernel)
set_option maxRecDepth 20000 in
theorem gL_isStep_X4_restore : GoodIn wsL_isStep (wsV RL 53 RX4 yX4_restore wsX4_restore) := goodIn_app (goodIn_of _ (by decide +kernel)) ggL_isStep_X4_restore
set_option maxRecDepth 20000 in
theorem ggL_isStep_X4_pass : GoodIn wsL_isStep wsX4_pass := goodIn_r _ [217, 61, 8, 62, 63, 64, 24, 65, 38, 66, 51, 67, 68, 27, 26, 28, 29, 69, 4, 70, 71, 72, 73, 74, 75, 76, 77, 78, 79, 80, 81, 82, 83, 84, 85, 86, 218, 219, 220, 221, 222, 223, 224, 225, 226, 227, 228, 229, 230, 34, 35, 36, 37, 39, 40, 41, 42, 164, 165, 166, 167, 231, 232, 233, 234, 152, 153, 154, 155, 235, 236, 237, 238, 47, 48, 49, 50, 94, 95, 96, 97, 135, 136, 137, 138, 147, 148, 149, 150, 151, 124, 125, 126, 239, 240, 241, 242, 243, 244, 245, 246, 247, 248, 249, 250, 251, 252, 253, 254, 255, 256, 257, 258, 123, 259, 260, 261, 262, 176, 177, 178, 179, 180, 181, 182, 183, 263, 264, 265, 266, 98, 99, 100, 101, 6, 102, 103, 104, 12, 105, 106, 14, 107, 108, 109, 110, 111, 112, 113, 370, 371, 372, 373, 374, 375, 376, 377, 388, 389, 390, 391, 392, 393, 394, 395, 396, 397, 398, 378, 379, 380] (by decide +kernel) (by decide +kernel)
set_option maxRecDepth 20000 in
theorem gL_isStep_X4_pass : GoodIn wsL_isStep (wsV RL 56 RX4 yX4_pass wsX4_pass) := goodIn_app (goodIn_of _ (by decide +kernel)) ggL_isStep_X4_pass
set_option maxRecDepth 20000 in
theorem ggL_isStep_X4_announce : GoodIn wsL_isStep wsX4_announce := goodIn_r _ [270, 61, 8, 62, 63, 64, 24, 65, 38, 66, 51, 67, 68, 27, 26, 28, 29, 69, 4, 70, 71, 72, 73, 74, 75, 76, 77, 78, 79, 80, 81, 82, 83, 84, 85, 86, 271, 272, 273, 274, 275, 276, 277, 278, 279, 280, 152, 153, 154, 155, 39, 40, 41, 42, 98, 99, 100, 101, 6, 102, 103, 104, 12, 105, 106, 14, 107, 108, 109, 110, 111, 112, 113, 370, 371, 372, 373, 374, 375, 376, 377, 388, 389, 390, 391, 392, 393, 394, 395, 396, 397, 398, 378, 379, 380] (by decide +kernel) (by decide +kernel)
set_option maxRecDepth 20000 in
theorem gL_isStep_X4_announce : GoodIn wsL_isStep (wsV RL 59 RX4 yX4_announce wsX4_announce) := goodIn_app (goodIn_of _ (by decide +kernel)) ggL_isStep_X4_announce
set_option maxRecDepth 20000 in
theorem ggL_isStep_X4_clearText : GoodIn wsL_isStep wsX4_clearText := goodIn_r _ [284, 7, 285, 286, 287, 18, 288, 20, 370, 371, 372, 373, 374, 375, 376, 377, 381, 382, 383, 384, 385, 386, 387] (by decide +kernel) (by decide +kernel)
set_option maxRecDepth 20000 in
theorem gL_isStep_X4_clearText : GoodIn wsL_isStep (wsV RL 63 RX4 yX4_clearText wsX4_clearText) := goodIn_app (goodIn_of _ (by decide +kernel)) ggL_isStep_X4_clearText
set_option maxRecDepth 20000 in
theorem ggL_isStep_X4_type : GoodIn wsL_isStep wsX4_type := goodIn_r _ [292, 7, 293, 294, 295, 18, 296, 20, 297, 370, 371, 372, 373, 374, 375, 376, 377, 381, 382, 383, 384, 385, 386, 387] (by decide +kernel) (by decide +kernel)
set_option maxRecDepth 20000 in
theorem gL_isStep_X4_type : GoodIn wsL_isStep (wsV RL 9 RX4 yX4_type wsX4_type) := goodIn_app (goodIn_of _ (by decide +kernel)) ggL_isStep_X4_type
set_option maxRecDepth 20000 in
theorem ggL_isStep_L_number : GoodIn wsL_isStep wsL_number := goodIn_r _ [300, 289, 290, 291, 4, 292, 7, 293, 294, 295, 18, 296, 20, 297, 370, 371, 372, 373, 374, 375, 376, 377, 381, 382, 383, 384, 385, 386, 387] (by decide +kernel) (by decide +kernel)
set_option maxRecDepth 20000 in
theorem gL_isStep_L_number : GoodIn wsL_isStep (va_wsS RL 66 yL_number wsL_number) := goodIn_app (goodIn_of _ (by decide +kernel)) ggL_isStep_L_number
set_option maxRecDepth 20000 in
theorem ggL_isStep_X4_perform : GoodIn wsL_isStep wsX4_perform := goodIn_r _ [304, 7, 61, 8, 305, 306, 307, 308, 309, 18, 310, 311, 20, 312, 313, 314, 315, 316, 317, 318, 319, 320, 321, 322, 323, 324, 325, 326, 327, 328, 297, 329, 330, 331, 332, 333, 334, 335, 336, 337, 338, 339, 340, 341, 342, 343, 344, 345, 346, 347, 62, 63, 64, 24, 65, 38, 66, 51, 67, 68, 27, 26, 28, 29, 69, 4, 70, 71, 72, 73, 74, 75, 76, 77, 78, 79, 80, 81, 82, 83, 84, 85, 86, 348, 349, 350, 351, 352, 353, 354, 355, 356, 357, 358, 359, 360, 361, 362, 363, 364, 365, 366, 367, 368, 369, 271, 272, 273, 274, 275, 276, 277, 278, 279, 280, 152, 153, 154, 155, 39, 40, 41, 42, 143, 144, 145, 146, 34, 35, 36, 37, 147, 148, 149, 150, 151, 124, 125, 126, 218, 219, 220, 221, 222, 223, 224, 225, 226, 227, 228, 229, 230, 164, 165, 166, 167, 231, 232, 233, 234, 235, 236, 237, 238, 47, 48, 49, 50, 94, 95, 96, 97, 135, 136, 137, 138, 239, 240, 241, 242, 243, 244, 245, 246, 247, 248, 249, 250, 251, 252, 253, 254, 255, 256, 257, 258, 123, 259, 260, 261, 262, 176, 177, 178, 179, 180, 181, 182, 183, 263, 264, 265, 266, 98, 99, 100, 101, 6, 102, 103, 104, 12, 105, 106, 14, 107, 108, 109, 110, 111, 112, 113, 370, 371, 372, 373, 374, 375, 376, 377, 381, 382, 383, 384, 385, 386, 387, 388, 389, 390, 391, 392, 393, 394, 395, 396, 397, 398, 378, 379, 380] (by decide +kernel) (by decide +kernel)
set_option maxRecDepth 20000 in
theorem gL_isStep_X4_perform : GoodIn wsL_isStep (wsV RL 70 RX4 yX4_perform wsX4_perform) := goodIn_app (goodIn_of _ (by decide +kernel)) ggL_isStep_X4_perform
theorem dL_isStep_0 : decode cL_isStep 0 = .ok (.iload_n 2, 1) := by decide +kernel
theorem dL_isStep_1 : decode cL_isStep 1 = .ok (.iconst 4, 1) := by decide +kernel
theorem dL_isStep_2 : decode cL_isStep 2 = .ok (.ishr, 1) := by decide +kernel
theorem dL_isStep_3 : decode cL_isStep 3 = .ok (.istore 4, 2) := by decide +kernel
theorem dL_isStep_5 : decode cL_isStep 5 = .ok (.aload_n 0, 1) := by decide +kernel
theorem dL_isStep_6 : decode cL_isStep 6 = .ok (.iconst 1, 1) := by decide +kernel
theorem dL_isStep_7 : decode cL_isStep 7 = .ok (.invokevirtual 15, 3) := by decide +kernel
theorem dL_isStep_10 : decode cL_isStep 10 = .ok (.istore 5, 2) := by decide +kernel
theorem dL_isStep_12 : decode cL_isStep 12 = .ok (.iload_n 2, 1) := by decide +kernel
theorem dL_isStep_13 : decode cL_isStep 13 = .ok (.bipush 16, 2) := by decide +kernel
theorem dL_isStep_15 : decode cL_isStep 15 = .ok (.invokestatic 19, 3) := by decide +kernel
theorem dL_isStep_18 : decode cL_isStep 18 = .ok (.tableswitch 747 0 10 #[58, 58, 242, 376, 532, 558, 602, 602, 602, 602, 602], 58) := by decide +kernel
theorem dL_isStep_76 : decode cL_isStep 76 = .ok (.iload 4, 2) := by decide +kernel
theorem dL_isStep_78 : decode cL_isStep 78 = .ok (.iconst 4, 1) := by decide +kernel
theorem dL_isStep_79 : decode cL_isStep 79 = .ok (.invokestatic 19, 3) := by decide +kernel
theorem dL_isStep_82 : decode cL_isStep 82 = .ok (.istore 6, 2) := by decide +kernel
theorem dL_isStep_84 : decode cL_isStep 84 = .ok (.iload 6, 2) := by decide +kernel
theorem dL_isStep_86 : decode cL_isStep 86 = .ok (.ifCond .ne 14, 3) := by decide +kernel
theorem dL_isStep_89 : decode cL_isStep 89 = .ok (.iconst 1, 1) := by decide +kernel
theorem dL_isStep_90 : decode cL_isStep 90 = .ok (.iload_n 3, 1) := by decide +kernel
theorem dL_isStep_91 : decode cL_isStep 91 = .ok (.bipush 12, 2) := by decide +kernel
theorem dL_isStep_93 : decode cL_isStep 93 = .ok (.invokestatic 19, 3) := by decide +kernel
theorem dL_isStep_96 : decode cL_isStep 96 = .ok (.iadd, 1) := by decide +kernel
theorem dL_isStep_97 : decode cL_isStep 97 = .ok (.goto 82, 3) := by decide +kernel
theorem dL_isStep_100 : decode cL_isStep 100 = .ok (.iload 6, 2) := by decide +kernel
theorem dL_isStep_102 : decode cL_isStep 102 = .ok (.iconst 1, 1) := by decide +kernel
theorem dL_isStep_103 : decode cL_isStep 103 = .ok (.if_icmp .ne 27, 3) := by decide +kernel
theorem dL_isStep_106 : decode cL_isStep 106 = .ok (.iconst 1, 1) := by decide +kernel
theorem dL_isStep_107 : decode cL_isStep 107 = .ok (.iload_n 3, 1) := by decide +kernel
theorem dL_isStep_108 : decode cL_isStep 108 = .ok (.iload 4, 2) := by decide +kernel
theorem dL_isStep_110 : decode cL_isStep 110 = .ok (.iconst 3, 1) := by decide +kernel
theorem dL_isStep_111 : decode cL_isStep 111 = .ok (.invokestatic 19, 3) := by decide +kernel
theorem dL_isStep_114 : decode cL_isStep 114 = .ok (.ifCond .ne 8, 3) := by decide +kernel
theorem dL_isStep_117 : decode cL_isStep 117 = .ok (.bipush 60, 2) := by decide +kernel
theorem dL_isStep_119 : decode cL_isStep 119 = .ok (.goto 4, 3) := by decide +kernel
theorem dL_isStep_122 : decode cL_isStep 122 = .ok (.iconst 5, 1) := by decide +kernel
theorem dL_isStep_123 : decode cL_isStep 123 = .ok (.invokestatic 19, 3) := by decide +kernel
theorem dL_isStep_126 : decode cL_isStep 126 = .ok (.iadd, 1) := by decide +kernel
theorem dL_isStep_127 : decode cL_isStep 127 = .ok (.goto 52, 3) := by decide +kernel
theorem dL_isStep_130 : decode cL_isStep 130 = .ok (.iload 6, 2) := by decide +kernel
theorem dL_isStep_132 : decode cL_isStep 132 = .ok (.iconst 2, 1) := by decide +kernel
theorem dL_isStep_133 : decode cL_isStep 133 = .ok (.if_icmp .ne 25, 3) := by decide +kernel
theorem dL_isStep_136 : decode cL_isStep 136 = .ok (.iload_n 3, 1) := by decide +kernel
theorem dL_isStep_137 : decode cL_isStep 137 = .ok (.iload 4, 2) := by decide +kernel
theorem dL_isStep_139 : decode cL_isStep 139 = .ok (.iconst 3, 1) := by decide +kernel
theorem dL_isStep_140 : decode cL_isStep 140 = .ok (.invokestatic 19, 3) := by decide +kernel
theorem dL_isStep_143 : decode cL_isStep 143 = .ok (.ifCond .ne 8, 3) := by decide +kernel
theorem dL_isStep_146 : decode cL_isStep 146 = .ok (.bipush 10, 2) := by decide +kernel
theorem dL_isStep_148 : decode cL_isStep 148 = .ok (.goto 4, 3) := by decide +kernel
theorem dL_isStep_151 : decode cL_isStep 151 = .ok (.iconst 3, 1) := by decide +kernel
theorem dL_isStep_152 : decode cL_isStep 152 = .ok (.invokestatic 19, 3) := by decide +kernel
theorem dL_isStep_155 : decode cL_isStep 155 = .ok (.goto 24, 3) := by decide +kernel
theorem dL_isStep_158 : decode cL_isStep 158 = .ok (.iconst 1, 1) := by decide +kernel
theorem dL_isStep_159 : decode cL_isStep 159 = .ok (.iload_n 3, 1) := by decide +kernel
theorem dL_isStep_160 : decode cL_isStep 160 = .ok (.iload 4, 2) := by decide +kernel
theorem dL_isStep_162 : decode cL_isStep 162 = .ok (.iconst 2, 1) := by decide +kernel
theorem dL_isStep_163 : decode cL_isStep 163 = .ok (.invokestatic 19, 3) := by decide +kernel
theorem dL_isStep_166 : decode cL_isStep 166 = .ok (.ifCond .ne 8, 3) := by decide +kernel
theorem dL_isStep_169 : decode cL_isStep 169 = .ok (.bipush 9, 2) := by decide +kernel
theorem dL_isStep_171 : decode cL_isStep 171 = .ok (.goto 4, 3) := by decide +kernel
theorem dL_isStep_174 : decode cL_isStep 174 = .ok (.iconst 2, 1) := by decide +kernel
theorem dL_isStep_175 : decode cL_isStep 175 = .ok (.invokestatic 19, 3) := by decide +kernel
theorem dL_isStep_178 : decode cL_isStep 178 = .ok (.iadd, 1) := by decide +kernel
theorem dL_isStep_179 : decode cL_isStep 179 = .ok (.istore 7, 2) := by decide +kernel
theorem dL_isStep_181 : decode cL_isStep 181 = .ok (.aload_n 0, 1) := by decide +kernel
theorem dL_isStep_182 : decode cL_isStep 182 = .ok (.bipush 11, 2) := by decide +kernel
theorem dL_isStep_184 : decode cL_isStep 184 = .ok (.iload 6, 2) := by decide +kernel
theorem dL_isStep_186 : decode cL_isStep 186 = .ok (.iadd, 1) := by decide +kernel
theorem dL_isStep_187 : decode cL_isStep 187 = .ok (.invokevirtual 15, 3) := by decide +kernel
theorem dL_isStep_190 : decode cL_isStep 190 = .ok (.istore 8, 2) := by decide +kernel
theorem dL_isStep_192 : decode cL_isStep 192 = .ok (.aload_n 0, 1) := by decide +kernel
theorem dL_isStep_193 : decode cL_isStep 193 = .ok (.iload 6, 2) := by decide +kernel
theorem dL_isStep_195 : decode cL_isStep 195 = .ok (.iload 7, 2) := by decide +kernel
theorem dL_isStep_197 : decode cL_isStep 197 = .ok (.invokevirtual 25, 3) := by decide +kernel
theorem dL_isStep_200 : decode cL_isStep 200 = .ok (.istore 9, 2) := by decide +kernel
theorem dL_isStep_202 : decode cL_isStep 202 = .ok (.iload 9, 2) := by decide +kernel
theorem dL_isStep_204 : decode cL_isStep 204 = .ok (.aload_n 1, 1) := by decide +kernel
theorem dL_isStep_205 : decode cL_isStep 205 = .ok (.iload 6, 2) := by decide +kernel
theorem dL_isStep_207 : decode cL_isStep 207 = .ok (.iload 7, 2) := by decide +kernel
theorem dL_isStep_209 : decode cL_isStep 209 = .ok (.invokevirtual 25, 3) := by decide +kernel
theorem dL_isStep_212 : decode cL_isStep 212 = .ok (.if_icmp .ne 46, 3) := by decide +kernel
theorem dL_isStep_215 : decode cL_isStep 215 = .ok (.iload 9, 2) := by decide +kernel
theorem dL_isStep_217 : decode cL_isStep 217 = .ok (.iload 6, 2) := by decide +kernel
theorem dL_isStep_219 : decode cL_isStep 219 = .ok (.ifCond .ne 18, 3) := by decide +kernel
theorem dL_isStep_222 : decode cL_isStep 222 = .ok (.aload_n 0, 1) := by decide +kernel
theorem dL_isStep_223 : decode cL_isStep 223 = .ok (.iconst 4, 1) := by decide +kernel
theorem dL_isStep_224 : decode cL_isStep 224 = .ok (.invokevirtual 15, 3) := by decide +kernel
