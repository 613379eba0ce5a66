set_option maxRecDepth 20000 in
theorem ggL_law_X4_init : GoodIn wsL_law wsX4_init := goodIn_r _ [8, 9, 10, 11, 12, 13, 14, 15, 16, 17, 18, 19, 20, 21, 22, 23, 24, 25, 26, 27, 28, 29, 30, 31, 32, 33, 34, 35, 36, 37, 38, 39, 40, 41, 42, 43, 44, 45, 46, 47, 48, 49, 50, 51, 52, 53, 54, 55, 56, 57, 58, 59, 60, 61, 62, 63, 64, 65, 66, 67, 68, 69, 70, 71, 72, 73, 74, 75, 76, 760, 761, 762, 763, 764, 765, 766, 767, 768, 734, 735, 736, 737, 738, 739, 740, 741, 769, 770, 771, 772, 773, 774, 775, 776, 777, 778, 779, 780] (by decide +kernel) (by decide +kernel)
set_option maxRecDepth 20000 in
theorem gL_law_X4_init : GoodIn wsL_law (wsX4_init) := ggL_law_X4_init
set_option maxRecDepth 20000 in
theorem ggL_law_X5_init : GoodIn wsL_law wsX5_init := goodIn_r _ [79, 80, 10, 11, 33, 81, 82, 83, 84, 85, 86, 87, 742, 743, 744, 745, 746, 747, 748, 749, 750, 751, 752, 753, 754, 755, 756, 757, 758, 759] (by decide +kernel) (by decide +kernel)
set_option maxRecDepth 20000 in
theorem gL_law_X5_init : GoodIn wsL_law (wsX5_init) := ggL_law_X5_init
set_option maxRecDepth 20000 in
theorem ggL_law_X4_announce : GoodIn wsL_law wsX4_announce := goodIn_r _ [91, 16, 15, 92, 93, 94, 14, 95, 34, 35, 36, 40, 41, 42, 43, 44, 45, 96, 2, 97, 98, 99, 52, 100, 101, 102, 103, 104, 105, 106, 107, 39, 108, 54, 55, 109, 110, 111, 112, 113, 114, 115, 116, 117, 118, 119, 120, 121, 122, 123, 124, 125, 126, 127, 128, 129, 130, 131, 21, 132, 133, 134, 20, 135, 62, 63, 136, 137, 138, 139, 140, 61, 141, 734, 735, 736, 737, 738, 739, 740, 741, 760, 761, 762, 763, 764, 765, 766, 767, 768, 779, 780, 769, 770, 771] (by decide +kernel) (by decide +kernel)
set_option maxRecDepth 20000 in
theorem gL_law_X4_announce : GoodIn wsL_law (wsV RL 13 RX4 yX4_announce wsX4_announce) := goodIn_app (goodIn_of _ (by decide +kernel)) ggL_law_X4_announce
set_option maxRecDepth 20000 in
theorem ggL_law_X5_announce : GoodIn wsL_law wsX5_announce := goodIn_r _ [145, 146, 147, 148, 5, 149, 82, 81, 150, 151, 152, 153, 154, 155, 156, 157, 158, 159, 160, 161, 162, 163, 164, 165, 166, 167, 168, 84, 742, 743, 744, 745, 746, 747, 748, 749, 750, 751, 752, 753, 754, 755, 756, 757, 758, 759] (by decide +kernel) (by decide +kernel)
set_option maxRecDepth 20000 in
theorem gL_law_X5_announce : GoodIn wsL_law (wsV RL 17 RX5 yX5_announce wsX5_announce) := goodIn_app (goodIn_of _ (by decide +kernel)) ggL_law_X5_announce
set_option maxRecDepth 20000 in
theorem ggL_law_X4_leave : GoodIn wsL_law wsX4_leave := goodIn_r _ [172, 16, 15, 92, 93, 94, 14, 95, 34, 35, 36, 40, 41, 42, 43, 44, 45, 96, 2, 97, 98, 99, 52, 100, 101, 102, 103, 104, 105, 106, 107, 39, 108, 54, 55, 109, 173, 174, 175, 176, 124, 125, 126, 127, 177, 178, 179, 180, 181, 182, 183, 184, 185, 186, 187, 188, 120, 121, 122, 123, 128, 129, 130, 131, 21, 132, 133, 134, 20, 135, 62, 63, 136, 137, 138, 139, 140, 61, 141, 734, 735, 736, 737, 738, 739, 740, 741, 760, 761, 762, 763, 764, 765, 766, 767, 768, 779, 780, 769, 770, 771] (by decide +kernel) (by decide +kernel)
set_option maxRecDepth 20000 in
theorem gL_law_X4_leave : GoodIn wsL_law (wsV RL 18 RX4 yX4_leave wsX4_leave) := goodIn_app (goodIn_of _ (by decide +kernel)) ggL_law_X4_leave
set_option maxRecDepth 20000 in
theorem ggL_law_X5_leave : GoodIn wsL_law wsX5_leave := goodIn_r _ [192, 146, 147, 148, 5, 149, 82, 81, 193, 194, 195, 196, 197, 198, 199, 200, 157, 158, 159, 201, 202, 203, 204, 205, 206, 207, 208, 209, 210, 211, 212, 213, 214, 215, 216, 217, 218, 219, 220, 160, 161, 162, 163, 164, 165, 166, 167, 168, 84, 742, 743, 744, 745, 746, 747, 748, 749, 750, 751, 752, 753, 754, 755, 756, 757, 758, 759] (by decide +kernel) (by decide +kernel)
set_option maxRecDepth 20000 in
theorem gL_law_X5_leave : GoodIn wsL_law (wsV RL 22 RX5 yX5_leave wsX5_leave) := goodIn_app (goodIn_of _ (by decide +kernel)) ggL_law_X5_leave
set_option maxRecDepth 20000 in
theorem ggL_law_X4_send : GoodIn wsL_law wsX4_send := goodIn_r _ [224, 16, 15, 92, 93, 94, 14, 95, 34, 35, 36, 40, 41, 42, 43, 44, 45, 96, 2, 97, 98, 99, 52, 100, 101, 102, 103, 104, 105, 106, 107, 39, 108, 54, 55, 109, 225, 226, 227, 228, 229, 230, 231, 232, 233, 234, 235, 236, 237, 238, 239, 240, 241, 242, 243, 244, 245, 246, 247, 248, 128, 129, 130, 131, 21, 132, 133, 134, 20, 135, 62, 63, 136, 137, 138, 139, 140, 61, 141, 734, 735, 736, 737, 738, 739, 740, 741, 760, 761, 762, 763, 764, 765, 766, 767, 768, 779, 780, 769, 770, 771] (by decide +kernel) (by decide +kernel)
set_option maxRecDepth 20000 in
theorem gL_law_X4_send : GoodIn wsL_law (wsV RL 23 RX4 yX4_send wsX4_send) := goodIn_app (goodIn_of _ (by decide +kernel)) ggL_law_X4_send
set_option maxRecDepth 20000 in
theorem ggL_law_X5_send : GoodIn wsL_law wsX5_send := goodIn_r _ [252, 81, 253, 157, 158, 5, 159, 254, 255, 256, 257, 258, 259, 260, 261, 201, 202, 203, 204, 146, 147, 148, 149, 82, 262, 263, 264, 265, 164, 165, 166, 167, 168, 84, 742, 743, 744, 745, 746, 747, 748, 749, 750, 751, 752, 753, 754, 755, 756, 757, 758, 759] (by decide +kernel) (by decide +kernel)
set_option maxRecDepth 20000 in
theorem gL_law_X5_send : GoodIn wsL_law (wsV RL 26 RX5 yX5_send wsX5_send) := goodIn_app (goodIn_of _ (by decide +kernel)) ggL_law_X5_send
set_option maxRecDepth 20000 in
theorem ggL_law_X4_set : GoodIn wsL_law wsX4_set := goodIn_r _ [269, 16, 15, 92, 93, 94, 14, 95, 34, 35, 36, 40, 41, 42, 43, 44, 45, 96, 2, 97, 98, 99, 52, 100, 101, 102, 103, 104, 105, 106, 107, 39, 108, 54, 55, 109, 270, 271, 272, 273, 274, 275, 276, 229, 230, 231, 232, 128, 129, 130, 131, 21, 132, 133, 134, 20, 135, 62, 63, 136, 137, 138, 139, 140, 61, 141, 734, 735, 736, 737, 738, 739, 740, 741, 760, 761, 762, 763, 764, 765, 766, 767, 768, 779, 780, 769, 770, 771] (by decide +kernel) (by decide +kernel)
set_option maxRecDepth 20000 in
theorem gL_law_X4_set : GoodIn wsL_law (wsV RL 27 RX4 yX4_set wsX4_set) := goodIn_app (goodIn_of _ (by decide +kernel)) ggL_law_X4_set
set_option maxRecDepth 20000 in
theorem ggL_law_X5_set : GoodIn wsL_law wsX5_set := goodIn_r _ [280, 281, 81, 157, 158, 5, 159, 282, 283, 284, 285, 286, 154, 146, 147, 148, 149, 82, 164, 165, 166, 167, 168, 84, 742, 743, 744, 745, 746, 747, 748, 749, 750, 751, 752, 753, 754, 755, 756, 757, 758, 759] (by decide +kernel) (by decide +kernel)
set_option maxRecDepth 20000 in
theorem gL_law_X5_set : GoodIn wsL_law (wsV RL 31 RX5 yX5_set wsX5_set) := goodIn_app (goodIn_of _ (by decide +kernel)) ggL_law_X5_set
set_option maxRecDepth 20000 in
theorem ggL_law_X4_pass : GoodIn wsL_law wsX4_pass := goodIn_r _ [290, 16, 15, 92, 93, 94, 14, 95, 34, 35, 36, 40, 41, 42, 43, 44, 45, 96, 2, 97, 98, 99, 52, 100, 101, 102, 103, 104, 105, 106, 107, 39, 108, 54, 55, 109, 291, 292, 293, 294, 295, 296, 297, 298, 299, 300, 301, 302, 303, 177, 178, 179, 180, 124, 125, 126, 127, 237, 238, 239, 240, 304, 305, 306, 307, 120, 121, 122, 123, 308, 309, 310, 311, 312, 313, 314, 315, 229, 230, 231, 232, 233, 234, 235, 236, 181, 182, 183, 184, 185, 186, 187, 188, 316, 317, 318, 319, 320, 321, 322, 323, 324, 325, 326, 327, 328, 329, 330, 331, 332, 333, 334, 335, 336, 337, 338, 339, 340, 241, 242, 243, 244, 245, 246, 247, 248, 341, 342, 343, 344, 128, 129, 130, 131, 21, 132, 133, 134, 20, 135, 62, 63, 136, 137, 138, 139, 140, 61, 141, 734, 735, 736, 737, 738, 739, 740, 741, 760, 761, 762, 763, 764, 765, 766, 767, 768, 779, 780, 769, 770, 771] (by decide +kernel) (by decide +kernel)
set_option maxRecDepth 20000 in
theorem gL_law_X4_pass : GoodIn wsL_law (wsV RL 32 RX4 yX4_pass wsX4_pass) := goodIn_app (goodIn_of _ (by decide +kernel)) ggL_law_X4_pass
set_option maxRecDepth 20000 in
theorem ggL_law_X5_pass : GoodIn wsL_law wsX5_pass := goodIn_r _ [348, 146, 147, 148, 5, 149, 82, 81, 349, 350, 351, 352, 353, 354, 157, 158, 159, 355, 356, 357, 358, 359, 360, 361, 362, 363, 364, 365, 366, 201, 202, 203, 204, 258, 259, 260, 261, 160, 161, 162, 163, 367, 368, 369, 370, 213, 214, 215, 216, 371, 372, 373, 374, 375, 376, 377, 378, 379, 380, 381, 382, 383, 384, 385, 386, 387, 388, 389, 390, 254, 255, 256, 257, 262, 263, 264, 265, 391, 392, 393, 394, 86, 164, 165, 166, 167, 168, 84, 742, 743, 744, 745, 746, 747, 748, 749, 750, 751, 752, 753, 754, 755, 756, 757, 758, 759] (by decide +kernel) (by decide +kernel)
set_option maxRecDepth 20000 in
theorem gL_law_X5_pass : GoodIn wsL_law (wsV RL 35 RX5 yX5_pass wsX5_pass) := goodIn_app (goodIn_of _ (by decide +kernel)) ggL_law_X5_pass
set_option maxRecDepth 20000 in
theorem ggL_law_X4_type : GoodIn wsL_law wsX4_type := goodIn_r _ [398, 25, 399, 400, 401, 24, 402, 71, 70, 734, 735, 736, 737, 738, 739, 740, 741, 772, 773, 774, 775, 776, 777, 778] (by decide +kernel) (by decide +kernel)
set_option maxRecDepth 20000 in
theorem gL_law_X4_type : GoodIn wsL_law (wsV RL 36 RX4 yX4_type wsX4_type) := goodIn_app (goodIn_of _ (by decide +kernel)) ggL_law_X4_type
set_option maxRecDepth 20000 in
theorem ggL_law_X5_type : GoodIn wsL_law wsX5_type := goodIn_r _ [406, 407, 87, 742, 743, 744, 745, 746, 747, 748, 749, 750, 751, 752, 753, 754, 755, 756, 757, 758, 759] (by decide +kernel) (by decide +kernel)
set_option maxRecDepth 20000 in
theorem gL_law_X5_type : GoodIn wsL_law (wsV RL 40 RX5 yX5_type wsX5_type) := goodIn_app (goodIn_of _ (by decide +kernel)) ggL_law_X5_type
set_option maxRecDepth 20000 in
theorem ggL_law_X4_clearText : GoodIn wsL_law wsX4_clearText := goodIn_r _ [411, 25, 412, 413, 414, 24, 415, 71, 734, 735, 736, 737, 738, 739, 740, 741, 772, 773, 774, 775, 776, 777, 778] (by decide +kernel) (by decide +kernel)
set_option maxRecDepth 20000 in
theorem gL_law_X4_clearText : GoodIn wsL_law (wsV RL 41 RX4 yX4_clearText wsX4_clearText) := goodIn_app (goodIn_of _ (by decide +kernel)) ggL_law_X4_clearText
set_option maxRecDepth 20000 in
theorem ggL_law_X5_clearText : GoodIn wsL_law wsX5_clearText := goodIn_r _ [419, 407, 742, 743, 744, 745, 746, 747, 748, 749, 750, 751, 752, 753, 754, 755, 756, 757, 758, 759] (by decide +kernel) (by decide +kernel)
set_option maxRecDepth 20000 in
theorem gL_law_X5_clearText : GoodIn wsL_law (wsV RL 45 RX5 yX5_clearText wsX5_clearText) := goodIn_app (goodIn_of _ (by decide +kernel)) ggL_law_X5_clearText
set_option maxRecDepth 20000 in
theorem ggL_law_X4_perform : GoodIn wsL_law wsX4_perform := goodIn_r _ [423, 25, 16, 15, 27, 28, 424, 425, 426, 24, 427, 72, 71, 428, 429, 430, 431, 432, 433, 434, 435, 73, 436, 437, 438, 439, 440, 441, 442, 443, 70, 444, 445, 446, 447, 76, 74, 75, 448, 449, 450, 451, 452, 453, 454, 455, 456, 457, 458, 459, 92, 93, 94, 14, 95, 34, 35, 36, 40, 41, 42, 43, 44, 45, 96, 2, 97, 98, 99, 52, 100, 101, 102, 103, 104, 105, 106, 107, 39, 108, 54, 55, 109, 460, 461, 462, 463, 464, 465, 466, 467, 468, 469, 470, 471, 472, 473, 474, 475, 476, 477, 478, 479, 480, 481, 110, 111, 112, 113, 114, 115, 116, 117, 118, 119, 120, 121, 122, 123, 124, 125, 126, 127, 173, 174, 175, 176, 177, 178, 179, 180, 181, 182, 183, 184, 185, 186, 187, 188, 291, 292, 293, 294, 295, 296, 297, 298, 299, 300, 301, 302, 303, 237, 238, 239, 240, 304, 305, 306, 307, 308, 309, 310, 311, 312, 313, 314, 315, 229, 230, 231, 232, 233, 234, 235, 236, 316, 317, 318, 319, 320, 321, 322, 323, 324, 325, 326, 327, 328, 329, 330, 331, 332, 333, 334, 335, 336, 337, 338, 339, 340, 241, 242, 243, 244, 245, 246, 247, 248, 341, 342, 343, 344, 128, 129, 130, 131, 21, 132, 133, 134, 20, 135, 62, 63, 136, 137, 138, 139, 140, 61, 141, 734, 735, 736, 737, 738, 739, 740, 741, 772, 773, 774, 775, 776, 777, 778, 760, 761, 762, 763, 764, 765, 766, 767, 768, 779, 780, 769, 770, 771] (by decide +kernel) (by decide +kernel)
set_option maxRecDepth 20000 in
theorem gL_law_X4_perform : GoodIn wsL_law (wsV RL 46 RX4 yX4_perform wsX4_perform) := goodIn_app (goodIn_of _ (by decide +kernel)) ggL_law_X4_perform
set_option maxRecDepth 20000 in
theorem ggL_law_X5_perform : GoodIn wsL_law wsX5_perform := goodIn_r _ [485, 486, 487, 488, 489, 490, 491, 492, 5, 493, 407, 494, 495, 496, 497, 87, 498, 499, 500, 501, 502, 503, 504, 505, 506, 157, 158, 159, 507, 508, 509, 510, 511, 512, 513, 514, 515, 516, 517, 146, 147, 148, 149, 82, 81, 518, 519, 520, 521, 150, 151, 152, 153, 154, 155, 156, 160, 161, 162, 163, 193, 194, 195, 196, 197, 198, 199, 200, 201, 202, 203, 204, 205, 206, 207, 208, 209, 210, 211, 212, 213, 214, 215, 216, 217, 218, 219, 220, 349, 350, 351, 352, 353, 354, 355, 356, 357, 358, 359, 360, 361, 362, 363, 364, 365, 366, 258, 259, 260, 261, 367, 368, 369, 370, 371, 372, 373, 374, 375, 376, 377, 378, 379, 380, 381, 382, 383, 384, 385, 386, 387, 388, 389, 390, 254, 255, 256, 257, 262, 263, 264, 265, 391, 392, 393, 394, 86, 164, 165, 166, 167, 168, 84, 742, 743, 744, 745, 746, 747, 748, 749, 750, 751, 752, 753, 754, 755, 756, 757, 758, 759] (by decide +kernel) (by decide +kernel)
set_option maxRecDepth 20000 in
theorem gL_law_X5_perform : GoodIn wsL_law (wsV RL 49 RX5 yX5_perform wsX5_perform) := goodIn_app (goodIn_of _ (by decide +kernel)) ggL_law_X5_perform
set_option maxRecDepth 20000 in
theorem ggL_law_X4_stopped : GoodIn wsL_law wsX4_stopped := goodIn_r _ [525, 27, 28, 734, 735, 736, 737, 738, 739, 740, 741] (by decide +kernel) (by decide +kernel)
set_option maxRecDepth 20000 in
theorem gL_law_X4_stopped : GoodIn wsL_law (wsV RL 50 RX4 yX4_stopped wsX4_stopped) := goodIn_app (goodIn_of _ (by decide +kernel)) ggL_law_X4_stopped
set_option maxRecDepth 20000 in
theorem ggL_law_X5_stopped : GoodIn wsL_law wsX5_stopped := goodIn_r _ [529, 487, 488, 489, 157, 158, 5, 159, 742, 743, 744, 745, 746, 747, 748, 749, 750, 751, 752, 753, 754, 755, 756, 757, 758, 759] (by decide +kernel) (by decide +kernel)
set_option maxRecDepth 20000 in
theorem gL_law_X5_stopped : GoodIn wsL_law (wsV RL 53 RX5 yX5_stopped wsX5_stopped) := goodIn_app (goodIn_of _ (by decide +kernel)) ggL_law_X5_stopped
set_option maxRecDepth 20000 in
theorem ggL_law_X4_undo : GoodIn wsL_law wsX4_undo := goodIn_r _ [533, 21, 15, 534, 535, 536, 20, 537, 63, 538, 539, 540, 541, 62, 137, 138, 139, 140, 61, 141, 93, 94, 14, 95, 34, 35, 36, 40, 41, 42, 43, 44, 45, 96, 2, 97, 98, 99, 52, 100, 101, 102, 103, 104, 105, 106, 107, 39, 108, 54, 55, 109, 734, 735, 736, 737, 738, 739, 740, 741, 769, 770, 771, 760, 761, 762, 763, 764, 765, 766, 767, 768, 779, 780] (by decide +kernel) (by decide +kernel)
set_option maxRecDepth 20000 in
theorem gL_law_X4_undo : GoodIn wsL_law (wsV RL 54 RX4 yX4_undo wsX4_undo) := goodIn_app (goodIn_of _ (by decide +kernel)) ggL_law_X4_undo
set_option maxRecDepth 20000 in
theorem ggL_law_X5_undo : GoodIn wsL_law wsX5_undo := goodIn_r _ [545, 168, 81, 84, 742, 743, 744, 745, 746, 747, 748, 749, 750, 751, 752, 753, 754, 755, 756, 757, 758, 759] (by decide +kernel) (by decide +kernel)
set_option maxRecDepth 20000 in
theorem gL_law_X5_undo : GoodIn wsL_law (wsV RL 57 RX5 yX5_undo wsX5_undo) := goodIn_app (goodIn_of _ (by decide +kernel)) ggL_law_X5_undo
set_option maxRecDepth 20000 in
theorem ggL_law_X4_keep : GoodIn wsL_law wsX4_keep := goodIn_r _ [549, 17, 15, 26, 92, 93, 94, 14, 95, 34, 35, 36, 40, 41, 42, 43, 44, 45, 96, 2, 97, 98, 99, 52, 100, 101, 102, 103, 104, 105, 106, 107, 39, 108, 54, 55, 109, 550, 551, 552, 553, 229, 230, 231, 232, 734, 735, 736, 737, 738, 739, 740, 741, 760, 761, 762, 763, 764, 765, 766, 767, 768, 779, 780] (by decide +kernel) (by decide +kernel)
set_option maxRecDepth 20000 in
theorem gL_law_X4_keep : GoodIn wsL_law (wsV RL 58 RX4 yX4_keep wsX4_keep) := goodIn_app (goodIn_of _ (by decide +kernel)) ggL_law_X4_keep
set_option maxRecDepth 20000 in
theorem ggL_law_X5_keep : GoodIn wsL_law wsX5_keep := goodIn_r _ [557, 85, 81, 558, 742, 743, 744, 745, 746, 747, 748, 749, 750, 751, 752, 753, 754, 755, 756, 757, 758, 759] (by decide +kernel) (by decide +kernel)
set_option maxRecDepth 20000 in
theorem gL_law_X5_keep : GoodIn wsL_law (wsV RL 61 RX5 yX5_keep wsX5_keep) := goodIn_app (goodIn_of _ (by decide +kernel)) ggL_law_X5_keep
set_option maxRecDepth 20000 in
theorem ggL_law_X4_restore : GoodIn wsL_law wsX4_restore := goodIn_r _ [562, 26, 16, 17, 92, 93, 94, 14, 95, 34, 35, 36, 40, 41, 42, 43, 44, 45, 96, 2, 97, 98, 99, 52, 100, 101, 102, 103, 104, 105, 106, 107, 39, 108, 54, 55, 109, 550, 551, 552, 553, 229, 230, 231, 232, 128, 129, 130, 131, 21, 15, 132, 133, 134, 20, 135, 62, 63, 136, 137, 138, 139, 140, 61, 141, 734, 735, 736, 737, 738, 739, 740, 741, 760, 761, 762, 763, 764, 765, 766, 767, 768, 779, 780, 769, 770, 771] (by decide +kernel) (by decide +kernel)
set_option maxRecDepth 20000 in
theorem gL_law_X4_restore : GoodIn wsL_law (wsV RL 62 RX4 yX4_restore wsX4_restore) := goodIn_app (goodIn_of _ (by decide +kernel)) ggL_law_X4_restore
set_option maxRecDepth 20000 in
theorem ggL_law_X5_restore : GoodIn wsL_law wsX5_restore := goodIn_r _ [566, 558, 81, 85, 146, 147, 148, 5, 149, 82, 164, 165, 166, 167, 168, 84, 742, 743, 744, 745, 746, 747, 748, 749, 750, 751, 752, 753, 754, 755, 756, 757, 758, 759] (by decide +kernel) (by decide +kernel)
set_option maxRecDepth 20000 in
theorem gL_law_X5_restore : GoodIn wsL_law (wsV RL 65 RX5 yX5_restore wsX5_restore) := goodIn_app (goodIn_of _ (by decide +kernel)) ggL_law_X5_restore
set_option maxRecDepth 20000 in
theorem ggL_law_X4_king : GoodIn wsL_law wsX4_king := goodIn_r _ [570, 15, 571, 125, 126, 14, 127, 42, 572, 573, 574, 575, 40, 41, 336, 186, 187, 39, 188, 55, 54, 177, 178, 179, 180, 34, 124, 734, 735, 736, 737, 738, 739, 740, 741, 760, 761, 762, 763, 764, 765, 766, 767, 768, 779, 780] (by decide +kernel) (by decide +kernel)
set_option maxRecDepth 20000 in
theorem gL_law_X4_king : GoodIn wsL_law (wsV RL 66 RX4 yX4_king wsX4_king) := goodIn_app (goodIn_of _ (by decide +kernel)) ggL_law_X4_king
set_option maxRecDepth 20000 in
theorem ggL_law_X5_king : GoodIn wsL_law wsX5_king := goodIn_r _ [579, 197, 198, 199, 5, 200, 81, 157, 158, 159, 201, 202, 203, 204, 205, 206, 207, 208, 209, 210, 211, 212, 217, 218, 219, 220, 742, 743, 744, 745, 746, 747, 748, 749, 750, 751, 752, 753, 754, 755, 756, 757, 758, 759] (by decide +kernel) (by decide +kernel)
set_option maxRecDepth 20000 in
theorem gL_law_X5_king : GoodIn wsL_law (wsV RL 69 RX5 yX5_king wsX5_king) := goodIn_app (goodIn_of _ (by decide +kernel)) ggL_law_X5_king
set_option maxRecDepth 20000 in
theorem ggL_law_X4_seat : GoodIn wsL_law wsX4_seat := goodIn_r _ [583, 15, 584, 585, 586, 14, 587, 40, 233, 234, 235, 39, 236, 55, 54, 734, 735, 736, 737, 738, 739, 740, 741, 760, 761, 762, 763, 764, 765, 766, 767, 768, 779, 780] (by decide +kernel) (by decide +kernel)
set_option maxRecDepth 20000 in
theorem gL_law_X4_seat : GoodIn wsL_law (wsV RL 70 RX4 yX4_seat wsX4_seat) := goodIn_app (goodIn_of _ (by decide +kernel)) ggL_law_X4_seat
set_option maxRecDepth 20000 in
theorem ggL_law_X5_seat : GoodIn wsL_law wsX5_seat := goodIn_r _ [591, 592, 81, 157, 158, 5, 159, 742, 743, 744, 745, 746, 747, 748, 749, 750, 751, 752, 753, 754, 755, 756, 757, 758, 759] (by decide +kernel) (by decide +kernel)
set_option maxRecDepth 20000 in
theorem gL_law_X5_seat : GoodIn wsL_law (wsV RL 73 RX5 yX5_seat wsX5_seat) := goodIn_app (goodIn_of _ (by decide +kernel)) ggL_law_X5_seat
set_option maxRecDepth 20000 in
theorem ggL_law_X4_waits : GoodIn wsL_law wsX4_waits := goodIn_r _ [596, 15, 597, 598, 599, 14, 600, 41, 233, 234, 235, 39, 236, 55, 54, 734, 735, 736, 737, 738, 739, 740, 741, 760, 761, 762, 763, 764, 765, 766, 767, 768, 779, 780] (by decide +kernel) (by decide +kernel)
set_option maxRecDepth 20000 in
theorem gL_law_X4_waits : GoodIn wsL_law (wsV RL 74 RX4 yX4_waits wsX4_waits) := goodIn_app (goodIn_of _ (by decide +kernel)) ggL_law_X4_waits
set_option maxRecDepth 20000 in
theorem ggL_law_X5_waits : GoodIn wsL_law wsX5_waits := goodIn_r _ [604, 81, 742, 743, 744, 745, 746, 747, 748, 749, 750, 751, 752, 753, 754, 755, 756, 757, 758, 759] (by decide +kernel) (by decide +kernel)
set_option maxRecDepth 20000 in
theorem gL_law_X5_waits : GoodIn wsL_law (wsV RL 77 RX5 yX5_waits wsX5_waits) := goodIn_app (goodIn_of _ (by decide +kernel)) ggL_law_X5_waits
set_option maxRecDepth 20000 in
theorem ggL_law_X4_reason : GoodIn wsL_law wsX4_reason := goodIn_r _ [608, 15, 571, 125, 126, 14, 127, 42, 609, 610, 611, 612, 40, 336, 186, 187, 39, 188, 55, 54, 237, 238, 239, 240, 35, 177, 178, 179, 180, 34, 124, 734, 735, 736, 737, 738, 739, 740, 741, 760, 761, 762, 763, 764, 765, 766, 767, 768, 779, 780] (by decide +kernel) (by decide +kernel)
set_option maxRecDepth 20000 in
theorem gL_law_X4_reason : GoodIn wsL_law (wsV RL 78 RX4 yX4_reason wsX4_reason) := goodIn_app (goodIn_of _ (by decide +kernel)) ggL_law_X4_reason
set_option maxRecDepth 20000 in
theorem ggL_law_X5_reason : GoodIn wsL_law wsX5_reason := goodIn_r _ [616, 197, 198, 199, 5, 200, 81, 157, 158, 159, 205, 206, 207, 208, 209, 210, 211, 212, 258, 259, 260, 261, 201, 202, 203, 204, 742, 743, 744, 745, 746, 747, 748, 749, 750, 751, 752, 753, 754, 755, 756, 757, 758, 759] (by decide +kernel) (by decide +kernel)
set_option maxRecDepth 20000 in
theorem gL_law_X5_reason : GoodIn wsL_law (wsV RL 81 RX5 yX5_reason wsX5_reason) := goodIn_app (goodIn_of _ (by decide +kernel)) ggL_law_X5_reason
set_option maxRecDepth 20000 in
theorem ggL_law_X4_dueIn : GoodIn wsL_law wsX4_dueIn := goodIn_r _ [620, 15, 16, 571, 125, 126, 14, 127, 42, 572, 573, 574, 575, 40, 41, 336, 186, 187, 39, 188, 55, 54, 177, 178, 179, 180, 34, 124, 92, 93, 94, 95, 35, 36, 43, 44, 45, 96, 2, 97, 98, 99, 52, 100, 101, 102, 103, 104, 105, 106, 107, 108, 109, 621, 333, 334, 335, 233, 234, 235, 236, 237, 238, 239, 240, 622, 313, 314, 315, 623, 338, 339, 340, 324, 325, 326, 327, 229, 230, 231, 232, 241, 242, 243, 244, 245, 246, 247, 248, 734, 735, 736, 737, 738, 739, 740, 741, 760, 761, 762, 763, 764, 765, 766, 767, 768, 779, 780] (by decide +kernel) (by decide +kernel)
set_option maxRecDepth 20000 in
theorem gL_law_X4_dueIn : GoodIn wsL_law (wsV RL 82 RX4 yX4_dueIn wsX4_dueIn) := goodIn_app (goodIn_of _ (by decide +kernel)) ggL_law_X4_dueIn
set_option maxRecDepth 20000 in
theorem ggL_law_X5_dueIn : GoodIn wsL_law wsX5_dueIn := goodIn_r _ [627, 197, 198, 199, 5, 200, 81, 157, 158, 159, 205, 206, 207, 208, 209, 210, 211, 212, 628, 629, 630, 631, 83, 379, 380, 381, 382, 258, 259, 260, 261, 201, 202, 203, 204, 383, 384, 385, 386, 387, 388, 389, 390, 254, 255, 256, 257, 262, 263, 264, 265, 632, 633, 634, 635, 742, 743, 744, 745, 746, 747, 748, 749, 750, 751, 752, 753, 754, 755, 756, 757, 758, 759] (by decide +kernel) (by decide +kernel)
set_option maxRecDepth 20000 in
theorem gL_law_X5_dueIn : GoodIn wsL_law (wsV RL 85 RX5 yX5_dueIn wsX5_dueIn) := goodIn_app (goodIn_of _ (by decide +kernel)) ggL_law_X5_dueIn
set_option maxRecDepth 20000 in
theorem ggL_law_X4_dueSeat : GoodIn wsL_law wsX4_dueSeat := goodIn_r _ [639, 15, 640, 114, 2, 115, 641, 116, 117, 642, 118, 119, 643, 644, 645, 14, 646, 42, 35, 177, 178, 179, 180, 34, 124, 125, 126, 127, 734, 735, 736, 737, 738, 739, 740, 741, 760, 761, 762, 763, 764, 765, 766, 767, 768] (by decide +kernel) (by decide +kernel)
set_option maxRecDepth 20000 in
theorem gL_law_X4_dueSeat : GoodIn wsL_law (wsV RL 86 RX4 yX4_dueSeat wsX4_dueSeat) := goodIn_app (goodIn_of _ (by decide +kernel)) ggL_law_X4_dueSeat
set_option maxRecDepth 20000 in
theorem ggL_law_X5_dueSeat : GoodIn wsL_law wsX5_dueSeat := goodIn_r _ [650, 154, 155, 81, 157, 158, 5, 159, 201, 202, 203, 204, 742, 743, 744, 745, 746, 747, 748, 749, 750, 751, 752, 753, 754, 755, 756, 757, 758, 759] (by decide +kernel) (by decide +kernel)
set_option maxRecDepth 20000 in
theorem gL_law_X5_dueSeat : GoodIn wsL_law (wsV RL 89 RX5 yX5_dueSeat wsX5_dueSeat) := goodIn_app (goodIn_of _ (by decide +kernel)) ggL_law_X5_dueSeat
set_option maxRecDepth 20000 in
theorem ggL_law_X4_wrongPairs : GoodIn wsL_law wsX4_wrongPairs := goodIn_r _ [654, 15, 655, 656, 657, 14, 658, 40, 229, 230, 231, 39, 232, 55, 233, 234, 235, 236, 54, 237, 238, 239, 240, 35, 734, 735, 736, 737, 738, 739, 740, 741, 760, 761, 762, 763, 764, 765, 766, 767, 768, 779, 780] (by decide +kernel) (by decide +kernel)
set_option maxRecDepth 20000 in
theorem gL_law_X4_wrongPairs : GoodIn wsL_law (wsV RL 90 RX4 yX4_wrongPairs wsX4_wrongPairs) := goodIn_app (goodIn_of _ (by decide +kernel)) ggL_law_X4_wrongPairs
set_option maxRecDepth 20000 in
theorem ggL_law_X5_wrongPairs : GoodIn wsL_law wsX5_wrongPairs := goodIn_r _ [662, 81, 258, 259, 260, 5, 261, 201, 202, 203, 204, 742, 743, 744, 745, 746, 747, 748, 749, 750, 751, 752, 753, 754, 755, 756, 757, 758, 759] (by decide +kernel) (by decide +kernel)
set_option maxRecDepth 20000 in
theorem gL_law_X5_wrongPairs : GoodIn wsL_law (wsV RL 93 RX5 yX5_wrongPairs wsX5_wrongPairs) := goodIn_app (goodIn_of _ (by decide +kernel)) ggL_law_X5_wrongPairs
set_option maxRecDepth 20000 in
theorem ggL_law_X4_changesNeeded : GoodIn wsL_law wsX4_changesNeeded := goodIn_r _ [666, 16, 15, 92, 93, 94, 14, 95, 34, 35, 36, 40, 41, 42, 43, 44, 45, 96, 2, 97, 98, 99, 52, 100, 101, 102, 103, 104, 105, 106, 107, 39, 108, 54, 55, 109, 623, 338, 339, 340, 324, 325, 326, 327, 229, 230, 231, 232, 233, 234, 235, 236, 237, 238, 239, 240, 241, 242, 243, 244, 245, 246, 247, 248, 734, 735, 736, 737, 738, 739, 740, 741, 760, 761, 762, 763, 764, 765, 766, 767, 768, 779, 780] (by decide +kernel) (by decide +kernel)
set_option maxRecDepth 20000 in
theorem gL_law_X4_changesNeeded : GoodIn wsL_law (wsV RL 94 RX4 yX4_changesNeeded wsX4_changesNeeded) := goodIn_app (goodIn_of _ (by decide +kernel)) ggL_law_X4_changesNeeded
set_option maxRecDepth 20000 in
theorem ggL_law_X5_changesNeeded : GoodIn wsL_law wsX5_changesNeeded := goodIn_r _ [670, 628, 629, 630, 5, 631, 83, 81, 387, 388, 389, 390, 254, 255, 256, 257, 258, 259, 260, 261, 201, 202, 203, 204, 262, 263, 264, 265, 632, 633, 634, 635, 742, 743, 744, 745, 746, 747, 748, 749, 750, 751, 752, 753, 754, 755, 756, 757, 758, 759] (by decide +kernel) (by decide +kernel)
set_option maxRecDepth 20000 in
theorem gL_law_X5_changesNeeded : GoodIn wsL_law (wsV RL 97 RX5 yX5_changesNeeded wsX5_changesNeeded) := goodIn_app (goodIn_of _ (by decide +kernel)) ggL_law_X5_changesNeeded
set_option maxRecDepth 20000 in
theorem ggL_law_X4_mostSlighted : GoodIn wsL_law wsX4_mostSlighted := goodIn_r _ [674, 15, 675, 676, 677, 14, 678, 40, 229, 230, 231, 39, 232, 55, 233, 234, 235, 236, 54, 177, 178, 179, 180, 34, 124, 125, 126, 127, 42, 734, 735, 736, 737, 738, 739, 740, 741, 760, 761, 762, 763, 764, 765, 766, 767, 768, 779, 780] (by decide +kernel) (by decide +kernel)
set_option maxRecDepth 20000 in
theorem gL_law_X4_mostSlighted : GoodIn wsL_law (wsV RL 98 RX4 yX4_mostSlighted wsX4_mostSlighted) := goodIn_app (goodIn_of _ (by decide +kernel)) ggL_law_X4_mostSlighted
set_option maxRecDepth 20000 in
theorem ggL_law_X5_mostSlighted : GoodIn wsL_law wsX5_mostSlighted := goodIn_r _ [682, 81, 201, 202, 203, 5, 204, 742, 743, 744, 745, 746, 747, 748, 749, 750, 751, 752, 753, 754, 755, 756, 757, 758, 759] (by decide +kernel) (by decide +kernel)
set_option maxRecDepth 20000 in
theorem gL_law_X5_mostSlighted : GoodIn wsL_law (wsV RL 101 RX5 yX5_mostSlighted wsX5_mostSlighted) := goodIn_app (goodIn_of _ (by decide +kernel)) ggL_law_X5_mostSlighted
set_option maxRecDepth 20000 in
theorem ggL_law_X4_ifRounds : GoodIn wsL_law wsX4_ifRounds := goodIn_r _ [686, 16, 15, 92, 93, 94, 14, 95, 34, 35, 36, 40, 41, 42, 43, 44, 45, 96, 2, 97, 98, 99, 52, 100, 101, 102, 103, 104, 105, 106, 107, 39, 108, 54, 55, 109, 687, 321, 322, 323, 229, 230, 231, 232, 233, 234, 235, 236, 177, 178, 179, 180, 124, 125, 126, 127, 120, 121, 122, 123, 324, 325, 326, 327, 237, 238, 239, 240, 328, 329, 330, 331, 332, 333, 334, 335, 336, 186, 187, 188, 312, 313, 314, 315, 337, 338, 339, 340, 241, 242, 243, 244, 245, 246, 247, 248, 341, 342, 343, 344, 181, 182, 183, 184, 185, 688, 689, 690, 691, 734, 735, 736, 737, 738, 739, 740, 741, 760, 761, 762, 763, 764, 765, 766, 767, 768, 779, 780] (by decide +kernel) (by decide +kernel)
set_option maxRecDepth 20000 in
theorem gL_law_X4_ifRounds : GoodIn wsL_law (wsV RL 102 RX4 yX4_ifRounds wsX4_ifRounds) := goodIn_app (goodIn_of _ (by decide +kernel)) ggL_law_X4_ifRounds
set_option maxRecDepth 20000 in
theorem ggL_law_X5_ifRounds : GoodIn wsL_law wsX5_ifRounds := goodIn_r _ [695, 696, 157, 158, 5, 159, 628, 629, 630, 631, 83, 81, 371, 372, 373, 374, 375, 376, 377, 378, 379, 380, 381, 382, 258, 259, 260, 261, 201, 202, 203, 204, 383, 384, 385, 386, 387, 388, 389, 390, 254, 255, 256, 257, 262, 263, 264, 265, 391, 392, 393, 394, 86, 160, 161, 162, 163, 213, 214, 215, 216, 632, 633, 634, 635, 742, 743, 744, 745, 746, 747, 748, 749, 750, 751, 752, 753, 754, 755, 756, 757, 758, 759] (by decide +kernel) (by decide +kernel)
set_option maxRecDepth 20000 in
theorem gL_law_X5_ifRounds : GoodIn wsL_law (wsV RL 105 RX5 yX5_ifRounds wsX5_ifRounds) := goodIn_app (goodIn_of _ (by decide +kernel)) ggL_law_X5_ifRounds
set_option maxRecDepth 20000 in
theorem ggL_law_X4_nextArrival : GoodIn wsL_law wsX4_nextArrival := goodIn_r _ [700, 15, 701, 702, 703, 14, 704, 42, 177, 178, 179, 180, 34, 124, 125, 126, 127, 734, 735, 736, 737, 738, 739, 740, 741, 760, 761, 762, 763, 764, 765, 766, 767, 768] (by decide +kernel) (by decide +kernel)
set_option maxRecDepth 20000 in
theorem gL_law_X4_nextArrival : GoodIn wsL_law (wsV RL 106 RX4 yX4_nextArrival wsX4_nextArrival) := goodIn_app (goodIn_of _ (by decide +kernel)) ggL_law_X4_nextArrival
set_option maxRecDepth 20000 in
theorem ggL_law_X5_nextArrival : GoodIn wsL_law wsX5_nextArrival := goodIn_r _ [708, 81, 201, 202, 203, 5, 204, 742, 743, 744, 745, 746, 747, 748, 749, 750, 751, 752, 753, 754, 755, 756, 757, 758, 759] (by decide +kernel) (by decide +kernel)
set_option maxRecDepth 20000 in
theorem gL_law_X5_nextArrival : GoodIn wsL_law (wsV RL 109 RX5 yX5_nextArrival wsX5_nextArrival) := goodIn_app (goodIn_of _ (by decide +kernel)) ggL_law_X5_nextArrival
set_option maxRecDepth 20000 in
theorem ggL_law_X4_count : GoodIn wsL_law wsX4_count := goodIn_r _ [712, 21, 25, 15, 534, 535, 536, 20, 537, 63, 713, 714, 715, 24, 716, 71, 717, 718, 719, 14, 720, 43, 42, 44, 45, 721, 722, 723, 724, 177, 178, 179, 180, 34, 124, 125, 126, 127, 725, 689, 690, 691, 312, 313, 314, 315, 36, 734, 735, 736, 737, 738, 739, 740, 741, 769, 770, 771, 772, 773, 774, 775, 776, 777, 778, 760, 761, 762, 763, 764, 765, 766, 767, 768] (by decide +kernel) (by decide +kernel)
set_option maxRecDepth 20000 in
theorem gL_law_X4_count : GoodIn wsL_law (wsV RL 110 RX4 yX4_count wsX4_count) := goodIn_app (goodIn_of _ (by decide +kernel)) ggL_law_X4_count
set_option maxRecDepth 20000 in
theorem ggL_law_X5_count : GoodIn wsL_law wsX5_count := goodIn_r _ [729, 81, 168, 407, 730, 731, 732, 5, 733, 201, 202, 203, 204, 742, 743, 744, 745, 746, 747, 748, 749, 750, 751, 752, 753, 754, 755, 756, 757, 758, 759] (by decide +kernel) (by decide +kernel)
set_option maxRecDepth 20000 in
theorem gL_law_X5_count : GoodIn wsL_law (wsV RL 113 RX5 yX5_count wsX5_count) := goodIn_app (goodIn_of _ (by decide +kernel)) ggL_law_X5_count
