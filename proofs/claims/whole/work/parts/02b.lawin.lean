set_option maxRecDepth 20000 in
theorem wsL_law_r1_g : GoodIn lw_tbl wsL_law_r1 := goodIn_r _ [64, 65, 56, 582, 583, 62, 66, 67, 68, 69, 70, 71, 72, 73, 57, 171, 172, 173, 123, 124, 60, 174, 142, 143] (by decide +kernel) (by decide +kernel)
set_option maxRecDepth 20000 in
theorem wsL_law_r2_g : GoodIn lw_tbl wsL_law_r2 := goodIn_r _ [61, 175, 176, 177, 178, 74, 75, 76, 77, 94, 95, 96, 97, 78, 79, 58, 98, 99, 100, 101, 102, 103, 80, 81] (by decide +kernel) (by decide +kernel)
set_option maxRecDepth 20000 in
theorem wsL_law_r3_g : GoodIn lw_tbl wsL_law_r3 := goodIn_r _ [82, 83, 84, 85, 59, 86, 87, 88, 125, 126, 127, 128, 129, 132, 133, 134, 131, 144, 145, 146, 147, 170, 148, 149] (by decide +kernel) (by decide +kernel)
set_option maxRecDepth 20000 in
theorem wsL_law_r4_g : GoodIn lw_tbl wsL_law_r4 := goodIn_r _ [150, 151, 152, 153, 154, 584, 585, 586, 587, 588, 589, 590, 591, 593, 595, 596, 196, 197, 198, 199, 200, 201, 202, 203] (by decide +kernel) (by decide +kernel)
set_option maxRecDepth 20000 in
theorem wsL_law_r5_g : GoodIn lw_tbl wsL_law_r5 := goodIn_r _ [205, 206, 207, 208, 209, 210, 212, 211, 63, 213, 214, 215, 216, 218, 219, 220, 221, 222, 224, 225, 227, 228, 230, 231] (by decide +kernel) (by decide +kernel)
set_option maxRecDepth 20000 in
theorem wsL_law_r6_g : GoodIn lw_tbl wsL_law_r6 := goodIn_r _ [232, 234, 0, 235, 236, 237, 238, 239, 240, 242, 1, 243, 244, 245, 246, 247, 253, 248, 250, 2, 251, 252, 643, 644] (by decide +kernel) (by decide +kernel)
set_option maxRecDepth 20000 in
theorem wsL_law_r7_g : GoodIn lw_tbl wsL_law_r7 := goodIn_r _ [645, 646, 647, 649, 20, 650, 651, 653, 21, 654, 655, 659, 660, 656, 657, 658, 661, 663, 22, 664, 665, 667, 23, 668] (by decide +kernel) (by decide +kernel)
set_option maxRecDepth 20000 in
theorem wsL_law_r8_g : GoodIn lw_tbl wsL_law_r8 := goodIn_r _ [592, 254, 255, 256, 257, 258, 259, 260, 261, 262, 264, 3, 265, 266, 267, 268, 269, 270, 271, 272, 273, 669, 670, 671] (by decide +kernel) (by decide +kernel)
set_option maxRecDepth 20000 in
theorem wsL_law_r9_g : GoodIn lw_tbl wsL_law_r9 := goodIn_r _ [672, 673, 675, 24, 676, 677, 679, 25, 680, 681, 683, 26, 684, 685, 687, 27, 688, 689, 691, 28, 692, 693, 695, 29] (by decide +kernel) (by decide +kernel)
set_option maxRecDepth 20000 in
theorem wsL_law_r10_g : GoodIn lw_tbl wsL_law_r10 := goodIn_r _ [696, 697, 699, 30, 700, 274, 275, 276, 277, 278, 279, 280, 281, 282, 283, 284, 285, 286, 287, 288, 289, 290, 292, 4] (by decide +kernel) (by decide +kernel)
set_option maxRecDepth 20000 in
theorem wsL_law_r11_g : GoodIn lw_tbl wsL_law_r11 := goodIn_r _ [293, 294, 296, 5, 297, 298, 299, 300, 301, 701, 702, 703, 704, 705, 706, 708, 31, 709, 710, 712, 32, 713, 714, 716] (by decide +kernel) (by decide +kernel)
set_option maxRecDepth 20000 in
theorem wsL_law_r12_g : GoodIn lw_tbl wsL_law_r12 := goodIn_r _ [33, 717, 302, 303, 304, 305, 306, 307, 308, 309, 310, 311, 312, 718, 719, 720, 721, 722, 723, 724, 725, 726, 727, 313] (by decide +kernel) (by decide +kernel)
set_option maxRecDepth 20000 in
theorem wsL_law_r13_g : GoodIn lw_tbl wsL_law_r13 := goodIn_r _ [314, 315, 316, 317, 318, 319, 320, 321, 322, 324, 6, 325, 326, 328, 7, 329, 330, 331, 332, 333, 334, 336, 8, 337] (by decide +kernel) (by decide +kernel)
set_option maxRecDepth 20000 in
theorem wsL_law_r14_g : GoodIn lw_tbl wsL_law_r14 := goodIn_r _ [338, 339, 340, 341, 342, 344, 9, 345, 346, 347, 348, 349, 350, 352, 10, 353, 354, 356, 11, 357, 358, 359, 360, 361] (by decide +kernel) (by decide +kernel)
set_option maxRecDepth 20000 in
theorem wsL_law_r15_g : GoodIn lw_tbl wsL_law_r15 := goodIn_r _ [362, 363, 364, 365, 366, 367, 369, 12, 370, 728, 729, 730, 731, 732, 734, 34, 735, 736, 737, 738, 740, 35, 741, 742] (by decide +kernel) (by decide +kernel)
set_option maxRecDepth 20000 in
theorem wsL_law_r16_g : GoodIn lw_tbl wsL_law_r16 := goodIn_r _ [744, 36, 745, 746, 748, 37, 749, 750, 752, 38, 753, 754, 756, 39, 757, 758, 760, 40, 761, 762, 764, 41, 765, 766] (by decide +kernel) (by decide +kernel)
set_option maxRecDepth 20000 in
theorem wsL_law_r17_g : GoodIn lw_tbl wsL_law_r17 := goodIn_r _ [768, 42, 769, 770, 772, 43, 773, 774, 776, 44, 777, 371, 372, 373, 374, 375, 376, 377, 378, 778, 779, 780, 781, 597] (by decide +kernel) (by decide +kernel)
set_option maxRecDepth 20000 in
theorem wsL_law_r18_g : GoodIn lw_tbl wsL_law_r18 := goodIn_r _ [379, 380, 381, 382, 383, 384, 385, 386, 782, 783, 784, 785, 387, 388, 389, 390, 391, 392, 393, 394, 395, 396, 397, 398] (by decide +kernel) (by decide +kernel)
set_option maxRecDepth 20000 in
theorem wsL_law_r19_g : GoodIn lw_tbl wsL_law_r19 := goodIn_r _ [399, 400, 401, 402, 403, 405, 13, 406, 407, 409, 14, 410, 411, 413, 15, 414, 415, 417, 16, 418, 419, 421, 17, 422] (by decide +kernel) (by decide +kernel)
set_option maxRecDepth 20000 in
theorem wsL_law_r20_g : GoodIn lw_tbl wsL_law_r20 := goodIn_r _ [423, 424, 425, 426, 427, 428, 429, 431, 18, 432, 433, 434, 435, 436, 437, 438, 439, 440, 441, 442, 443, 444, 445, 446] (by decide +kernel) (by decide +kernel)
set_option maxRecDepth 20000 in
theorem wsL_law_r21_g : GoodIn lw_tbl wsL_law_r21 := goodIn_r _ [447, 448, 786, 787, 788, 789, 598, 600, 601, 602, 790, 792, 45, 793, 794, 796, 46, 797, 603, 798, 800, 47, 801, 802] (by decide +kernel) (by decide +kernel)
set_option maxRecDepth 20000 in
theorem wsL_law_r22_g : GoodIn lw_tbl wsL_law_r22 := goodIn_r _ [804, 48, 805, 806, 808, 49, 809, 599, 604, 605, 810, 812, 50, 813, 814, 816, 51, 817, 449, 450, 451, 452, 818, 819] (by decide +kernel) (by decide +kernel)
set_option maxRecDepth 20000 in
theorem wsL_law_r23_g : GoodIn lw_tbl wsL_law_r23 := goodIn_r _ [820, 821, 453, 454, 455, 456, 457, 458, 459, 460, 461, 462, 463, 464, 822, 823, 824, 825, 465, 466, 467, 468, 469, 470] (by decide +kernel) (by decide +kernel)
set_option maxRecDepth 20000 in
theorem wsL_law_r24_g : GoodIn lw_tbl wsL_law_r24 := goodIn_r _ [471, 472, 826, 827, 828, 829, 594, 473, 474, 475, 476, 830, 831, 832, 833, 477, 478, 479, 480, 481, 482, 483, 484, 485] (by decide +kernel) (by decide +kernel)
set_option maxRecDepth 20000 in
theorem wsL_law_r25_g : GoodIn lw_tbl wsL_law_r25 := goodIn_r _ [834, 835, 836, 837, 486, 487, 488, 489, 490, 491, 492, 493, 838, 839, 840, 841, 842, 494, 495, 496, 497, 498, 499, 500] (by decide +kernel) (by decide +kernel)
set_option maxRecDepth 20000 in
theorem wsL_law_r26_g : GoodIn lw_tbl wsL_law_r26 := goodIn_r _ [501, 843, 844, 845, 846, 502, 503, 504, 505, 506, 507, 508, 509, 847, 848, 849, 850, 510, 511, 512, 513, 514, 515, 516] (by decide +kernel) (by decide +kernel)
set_option maxRecDepth 20000 in
theorem wsL_law_r27_g : GoodIn lw_tbl wsL_law_r27 := goodIn_r _ [851, 852, 853, 854, 855, 857, 52, 858, 859, 861, 53, 862, 517, 518, 519, 520, 521, 522, 523, 524, 525, 526, 527, 863] (by decide +kernel) (by decide +kernel)
set_option maxRecDepth 20000 in
theorem wsL_law_r28_g : GoodIn lw_tbl wsL_law_r28 := goodIn_r _ [864, 865, 866, 528, 529, 530, 531, 532, 533, 534, 535, 867, 868, 869, 870, 536, 537, 538, 539, 871, 872, 873, 874, 540] (by decide +kernel) (by decide +kernel)
set_option maxRecDepth 20000 in
theorem wsL_law_r29_g : GoodIn lw_tbl wsL_law_r29 := goodIn_r _ [541, 542, 543, 544, 545, 546, 547, 875, 876, 877, 878, 548, 549, 550, 551, 552, 553, 554, 555, 556, 879, 880, 881, 882] (by decide +kernel) (by decide +kernel)
set_option maxRecDepth 20000 in
theorem wsL_law_r30_g : GoodIn lw_tbl wsL_law_r30 := goodIn_r _ [883, 557, 558, 559, 560, 561, 562, 563, 564, 884, 885, 886, 887, 565, 566, 567, 568, 569, 570, 571, 572, 573, 574, 575] (by decide +kernel) (by decide +kernel)
set_option maxRecDepth 20000 in
theorem wsL_law_r31_g : GoodIn lw_tbl wsL_law_r31 := goodIn_r _ [576, 577, 579, 19, 580, 581, 888, 889, 890, 891, 892, 894, 54, 895] (by decide +kernel) (by decide +kernel)

set_option maxRecDepth 20000 in
theorem wsX00_g : GoodIn lw_tbl wsX00 := goodIn_sub (by decide +kernel) (by decide +kernel)
set_option maxRecDepth 20000 in
theorem wsX10_g : GoodIn lw_tbl wsX10 := goodIn_sub (by decide +kernel) (by decide +kernel)
set_option maxRecDepth 20000 in
theorem wsX20_g : GoodIn lw_tbl wsX20 := goodIn_sub (by decide +kernel) (by decide +kernel)
set_option maxRecDepth 20000 in
theorem wsX30_g : GoodIn lw_tbl wsX30 := goodIn_sub (by decide +kernel) (by decide +kernel)
set_option maxRecDepth 20000 in
theorem wsX40_g : GoodIn lw_tbl wsX40 := goodIn_sub (by decide +kernel) (by decide +kernel)
set_option maxRecDepth 20000 in
theorem wsX50_g : GoodIn lw_tbl wsX50 := goodIn_sub (by decide +kernel) (by decide +kernel)
theorem wsL_law_g : GoodIn lw_tbl wsL_law := (goodIn_app (goodIn_app (goodIn_app (goodIn_app (goodIn_app (goodIn_app (goodIn_app (goodIn_app wsL_law_r1_g (goodIn_app wsL_law_r2_g (goodIn_app wsL_law_r3_g (goodIn_app wsL_law_r4_g (goodIn_app wsL_law_r5_g (goodIn_app wsL_law_r6_g (goodIn_app wsL_law_r7_g (goodIn_app wsL_law_r8_g (goodIn_app wsL_law_r9_g (goodIn_app wsL_law_r10_g (goodIn_app wsL_law_r11_g (goodIn_app wsL_law_r12_g (goodIn_app wsL_law_r13_g (goodIn_app wsL_law_r14_g (goodIn_app wsL_law_r15_g (goodIn_app wsL_law_r16_g (goodIn_app wsL_law_r17_g (goodIn_app wsL_law_r18_g (goodIn_app wsL_law_r19_g (goodIn_app wsL_law_r20_g (goodIn_app wsL_law_r21_g (goodIn_app wsL_law_r22_g (goodIn_app wsL_law_r23_g (goodIn_app wsL_law_r24_g (goodIn_app wsL_law_r25_g (goodIn_app wsL_law_r26_g (goodIn_app wsL_law_r27_g (goodIn_app wsL_law_r28_g (goodIn_app wsL_law_r29_g (goodIn_app wsL_law_r30_g wsL_law_r31_g)))))))))))))))))))))))))))))) wsX40_g) wsX50_g) wsX30_g) wsX10_g) wsX00_g) wsX20_g) (fun w h => absurd h List.not_mem_nil))
theorem wsL_law_in : ∀ w ∈ wsL_law, w ∈ lw_tbl := fun w h => (wsL_law_g w h).1
theorem inlX0 : ∀ w ∈ wsX00, w ∈ wsL_law := fun _ h => List.mem_append_left _ (List.mem_append_left _ (List.mem_append_right _ h))
theorem inX0 : ∀ w ∈ wsX00, w ∈ lw_tbl := fun w h => wsL_law_in w (inlX0 w h)
theorem inlX1 : ∀ w ∈ wsX10, w ∈ wsL_law := fun _ h => List.mem_append_left _ (List.mem_append_left _ (List.mem_append_left _ (List.mem_append_right _ h)))
theorem inX1 : ∀ w ∈ wsX10, w ∈ lw_tbl := fun w h => wsL_law_in w (inlX1 w h)
theorem inlX2 : ∀ w ∈ wsX20, w ∈ wsL_law := fun _ h => List.mem_append_left _ (List.mem_append_right _ h)
theorem inX2 : ∀ w ∈ wsX20, w ∈ lw_tbl := fun w h => wsL_law_in w (inlX2 w h)
theorem inlX3 : ∀ w ∈ wsX30, w ∈ wsL_law := fun _ h => List.mem_append_left _ (List.mem_append_left _ (List.mem_append_left _ (List.mem_append_left _ (List.mem_append_right _ h))))
theorem inX3 : ∀ w ∈ wsX30, w ∈ lw_tbl := fun w h => wsL_law_in w (inlX3 w h)
theorem inlX4 : ∀ w ∈ wsX40, w ∈ wsL_law := fun _ h => List.mem_append_left _ (List.mem_append_left _ (List.mem_append_left _ (List.mem_append_left _ (List.mem_append_left _ (List.mem_append_left _ (List.mem_append_right _ h))))))
theorem inX4 : ∀ w ∈ wsX40, w ∈ lw_tbl := fun w h => wsL_law_in w (inlX4 w h)
theorem inlX5 : ∀ w ∈ wsX50, w ∈ wsL_law := fun _ h => List.mem_append_left _ (List.mem_append_left _ (List.mem_append_left _ (List.mem_append_left _ (List.mem_append_left _ (List.mem_append_right _ h)))))
theorem inX5 : ∀ w ∈ wsX50, w ∈ lw_tbl := fun w h => wsL_law_in w (inlX5 w h)
theorem inJ9 : ∀ w ∈ wsJ90, w ∈ lw_tbl := by decide +kernel
theorem inJ10 : ∀ w ∈ wsJ100, w ∈ lw_tbl := by decide +kernel
