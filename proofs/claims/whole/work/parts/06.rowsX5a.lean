theorem dX5_init_0 : decode cX5_init 0 = .ok (.aload_n 0, 1) := by decide +kernel
theorem dX5_init_1 : decode cX5_init 1 = .ok (.invokespecial 1, 3) := by decide +kernel
theorem dX5_init_4 : decode cX5_init 4 = .ok (.aload_n 0, 1) := by decide +kernel
theorem dX5_init_5 : decode cX5_init 5 = .ok (.sipush 217, 3) := by decide +kernel
theorem dX5_init_8 : decode cX5_init 8 = .ok (.newarray .int, 2) := by decide +kernel
theorem dX5_init_10 : decode cX5_init 10 = .ok (.putfield 7, 3) := by decide +kernel
theorem dX5_init_13 : decode cX5_init 13 = .ok (.aload_n 0, 1) := by decide +kernel
theorem dX5_init_14 : decode cX5_init 14 = .ok (.sipush 217, 3) := by decide +kernel
theorem dX5_init_17 : decode cX5_init 17 = .ok (.newarray .int, 2) := by decide +kernel
theorem dX5_init_19 : decode cX5_init 19 = .ok (.putfield 13, 3) := by decide +kernel
theorem dX5_init_22 : decode cX5_init 22 = .ok (.aload_n 0, 1) := by decide +kernel
theorem dX5_init_23 : decode cX5_init 23 = .ok (.sipush 217, 3) := by decide +kernel
theorem dX5_init_26 : decode cX5_init 26 = .ok (.newarray .int, 2) := by decide +kernel
theorem dX5_init_28 : decode cX5_init 28 = .ok (.putfield 16, 3) := by decide +kernel
theorem dX5_init_31 : decode cX5_init 31 = .ok (.aload_n 0, 1) := by decide +kernel
theorem dX5_init_32 : decode cX5_init 32 = .ok (.sipush 868, 3) := by decide +kernel
theorem dX5_init_35 : decode cX5_init 35 = .ok (.newarray .int, 2) := by decide +kernel
theorem dX5_init_37 : decode cX5_init 37 = .ok (.putfield 19, 3) := by decide +kernel
theorem dX5_init_40 : decode cX5_init 40 = .ok (.aload_n 0, 1) := by decide +kernel
theorem dX5_init_41 : decode cX5_init 41 = .ok (.sipush 217, 3) := by decide +kernel
theorem dX5_init_44 : decode cX5_init 44 = .ok (.newarray .int, 2) := by decide +kernel
theorem dX5_init_46 : decode cX5_init 46 = .ok (.putfield 22, 3) := by decide +kernel
theorem dX5_init_49 : decode cX5_init 49 = .ok (.aload_n 0, 1) := by decide +kernel
theorem dX5_init_50 : decode cX5_init 50 = .ok (.bipush 12, 2) := by decide +kernel
theorem dX5_init_52 : decode cX5_init 52 = .ok (.newarray .int, 2) := by decide +kernel
theorem dX5_init_54 : decode cX5_init 54 = .ok (.putfield 25, 3) := by decide +kernel
theorem dX5_init_57 : decode cX5_init 57 = .ok (.aload_n 0, 1) := by decide +kernel
theorem dX5_init_58 : decode cX5_init 58 = .ok (.bipush 60, 2) := by decide +kernel
theorem dX5_init_60 : decode cX5_init 60 = .ok (.newarray .int, 2) := by decide +kernel
theorem dX5_init_62 : decode cX5_init 62 = .ok (.putfield 28, 3) := by decide +kernel
theorem dX5_init_65 : decode cX5_init 65 = .ok (.aload_n 0, 1) := by decide +kernel
theorem dX5_init_66 : decode cX5_init 66 = .ok (.getfield 7, 3) := by decide +kernel
theorem dX5_init_69 : decode cX5_init 69 = .ok (.iconst 0, 1) := by decide +kernel
theorem dX5_init_70 : decode cX5_init 70 = .ok (.bipush 8, 2) := by decide +kernel
theorem dX5_init_72 : decode cX5_init 72 = .ok (.iastore, 1) := by decide +kernel
theorem dX5_init_73 : decode cX5_init 73 = .ok (.aload_n 0, 1) := by decide +kernel
theorem dX5_init_74 : decode cX5_init 74 = .ok (.getfield 7, 3) := by decide +kernel
theorem dX5_init_77 : decode cX5_init 77 = .ok (.iconst 1, 1) := by decide +kernel
theorem dX5_init_78 : decode cX5_init 78 = .ok (.bipush 10, 2) := by decide +kernel
theorem dX5_init_80 : decode cX5_init 80 = .ok (.iastore, 1) := by decide +kernel
theorem dX5_init_81 : decode cX5_init 81 = .ok (.aload_n 0, 1) := by decide +kernel
theorem dX5_init_82 : decode cX5_init 82 = .ok (.getfield 7, 3) := by decide +kernel
theorem dX5_init_85 : decode cX5_init 85 = .ok (.iconst 2, 1) := by decide +kernel
theorem dX5_init_86 : decode cX5_init 86 = .ok (.iconst 3, 1) := by decide +kernel
theorem dX5_init_87 : decode cX5_init 87 = .ok (.iastore, 1) := by decide +kernel
theorem dX5_init_88 : decode cX5_init 88 = .ok (.aload_n 0, 1) := by decide +kernel
theorem dX5_init_89 : decode cX5_init 89 = .ok (.getfield 7, 3) := by decide +kernel
theorem dX5_init_92 : decode cX5_init 92 = .ok (.iconst 3, 1) := by decide +kernel
theorem dX5_init_93 : decode cX5_init 93 = .ok (.iconst 4, 1) := by decide +kernel
theorem dX5_init_94 : decode cX5_init 94 = .ok (.iastore, 1) := by decide +kernel
theorem dX5_init_95 : decode cX5_init 95 = .ok (.return_, 1) := by decide +kernel
theorem dX5_in_0 : decode cX5_in 0 = .ok (.lload_n 0, 1) := by decide +kernel
theorem dX5_in_1 : decode cX5_in 1 = .ok (.lload_n 2, 1) := by decide +kernel
theorem dX5_in_2 : decode cX5_in 2 = .ok (.lcmp, 1) := by decide +kernel
theorem dX5_in_3 : decode cX5_in 3 = .ok (.ifCond .lt 14, 3) := by decide +kernel
theorem dX5_in_6 : decode cX5_in 6 = .ok (.lload_n 0, 1) := by decide +kernel
theorem dX5_in_7 : decode cX5_in 7 = .ok (.lload 4, 2) := by decide +kernel
theorem dX5_in_9 : decode cX5_in 9 = .ok (.lcmp, 1) := by decide +kernel
theorem dX5_in_10 : decode cX5_in 10 = .ok (.ifCond .gt 7, 3) := by decide +kernel
theorem dX5_in_13 : decode cX5_in 13 = .ok (.iconst 1, 1) := by decide +kernel
theorem dX5_in_14 : decode cX5_in 14 = .ok (.goto 4, 3) := by decide +kernel
theorem dX5_in_17 : decode cX5_in 17 = .ok (.iconst 0, 1) := by decide +kernel
theorem dX5_in_18 : decode cX5_in 18 = .ok (.ireturn, 1) := by decide +kernel
theorem dX5_keeps_0 : decode cX5_keeps 0 = .ok (.iconst 0, 1) := by decide +kernel
theorem dX5_keeps_1 : decode cX5_keeps 1 = .ok (.istore_n 1, 1) := by decide +kernel
theorem dX5_keeps_2 : decode cX5_keeps 2 = .ok (.iload_n 1, 1) := by decide +kernel
theorem dX5_keeps_3 : decode cX5_keeps 3 = .ok (.sipush 217, 3) := by decide +kernel
theorem dX5_keeps_6 : decode cX5_keeps 6 = .ok (.if_icmp .ge 21, 3) := by decide +kernel
theorem dX5_keeps_9 : decode cX5_keeps 9 = .ok (.aload_n 0, 1) := by decide +kernel
theorem dX5_keeps_10 : decode cX5_keeps 10 = .ok (.getfield 13, 3) := by decide +kernel
theorem dX5_keeps_13 : decode cX5_keeps 13 = .ok (.iload_n 1, 1) := by decide +kernel
theorem dX5_keeps_14 : decode cX5_keeps 14 = .ok (.aload_n 0, 1) := by decide +kernel
theorem dX5_keeps_15 : decode cX5_keeps 15 = .ok (.getfield 7, 3) := by decide +kernel
theorem dX5_keeps_18 : decode cX5_keeps 18 = .ok (.iload_n 1, 1) := by decide +kernel
theorem dX5_keeps_19 : decode cX5_keeps 19 = .ok (.iaload, 1) := by decide +kernel
theorem dX5_keeps_20 : decode cX5_keeps 20 = .ok (.iastore, 1) := by decide +kernel
theorem dX5_keeps_21 : decode cX5_keeps 21 = .ok (.iinc 1 1, 3) := by decide +kernel
theorem dX5_keeps_24 : decode cX5_keeps 24 = .ok (.goto (-22), 3) := by decide +kernel
theorem dX5_keeps_27 : decode cX5_keeps 27 = .ok (.return_, 1) := by decide +kernel
theorem dX5_ends_0 : decode cX5_ends 0 = .ok (.iload_n 1, 1) := by decide +kernel
theorem dX5_ends_1 : decode cX5_ends 1 = .ok (.ifCond .ge 32, 3) := by decide +kernel
theorem dX5_ends_4 : decode cX5_ends 4 = .ok (.iconst 0, 1) := by decide +kernel
theorem dX5_ends_5 : decode cX5_ends 5 = .ok (.istore_n 2, 1) := by decide +kernel
theorem dX5_ends_6 : decode cX5_ends 6 = .ok (.iload_n 2, 1) := by decide +kernel
theorem dX5_ends_7 : decode cX5_ends 7 = .ok (.sipush 217, 3) := by decide +kernel
theorem dX5_ends_10 : decode cX5_ends 10 = .ok (.if_icmp .ge 21, 3) := by decide +kernel
theorem dX5_ends_13 : decode cX5_ends 13 = .ok (.aload_n 0, 1) := by decide +kernel
theorem dX5_ends_14 : decode cX5_ends 14 = .ok (.getfield 7, 3) := by decide +kernel
theorem dX5_ends_17 : decode cX5_ends 17 = .ok (.iload_n 2, 1) := by decide +kernel
theorem dX5_ends_18 : decode cX5_ends 18 = .ok (.aload_n 0, 1) := by decide +kernel
theorem dX5_ends_19 : decode cX5_ends 19 = .ok (.getfield 13, 3) := by decide +kernel
theorem dX5_ends_22 : decode cX5_ends 22 = .ok (.iload_n 2, 1) := by decide +kernel
theorem dX5_ends_23 : decode cX5_ends 23 = .ok (.iaload, 1) := by decide +kernel
theorem dX5_ends_24 : decode cX5_ends 24 = .ok (.iastore, 1) := by decide +kernel
theorem dX5_ends_25 : decode cX5_ends 25 = .ok (.iinc 2 1, 3) := by decide +kernel
theorem dX5_ends_28 : decode cX5_ends 28 = .ok (.goto (-22), 3) := by decide +kernel
theorem dX5_ends_31 : decode cX5_ends 31 = .ok (.iload_n 1, 1) := by decide +kernel
theorem dX5_ends_32 : decode cX5_ends 32 = .ok (.ireturn, 1) := by decide +kernel
theorem dX5_ends_33 : decode cX5_ends 33 = .ok (.aload_n 0, 1) := by decide +kernel
theorem dX5_ends_34 : decode cX5_ends 34 = .ok (.getfield 31, 3) := by decide +kernel
theorem dX5_ends_37 : decode cX5_ends 37 = .ok (.iconst 4, 1) := by decide +kernel
theorem dX5_ends_38 : decode cX5_ends 38 = .ok (.if_icmp .ne 44, 3) := by decide +kernel
theorem dX5_ends_41 : decode cX5_ends 41 = .ok (.iconst 0, 1) := by decide +kernel
theorem dX5_ends_42 : decode cX5_ends 42 = .ok (.istore_n 2, 1) := by decide +kernel
theorem dX5_ends_43 : decode cX5_ends 43 = .ok (.iload_n 2, 1) := by decide +kernel
theorem dX5_ends_44 : decode cX5_ends 44 = .ok (.sipush 651, 3) := by decide +kernel
theorem dX5_ends_47 : decode cX5_ends 47 = .ok (.if_icmp .ge 25, 3) := by decide +kernel
theorem dX5_ends_50 : decode cX5_ends 50 = .ok (.aload_n 0, 1) := by decide +kernel
theorem dX5_ends_51 : decode cX5_ends 51 = .ok (.getfield 19, 3) := by decide +kernel
theorem dX5_ends_54 : decode cX5_ends 54 = .ok (.iload_n 2, 1) := by decide +kernel
theorem dX5_ends_55 : decode cX5_ends 55 = .ok (.aload_n 0, 1) := by decide +kernel
theorem dX5_ends_56 : decode cX5_ends 56 = .ok (.getfield 19, 3) := by decide +kernel
theorem dX5_ends_59 : decode cX5_ends 59 = .ok (.iload_n 2, 1) := by decide +kernel
theorem dX5_ends_60 : decode cX5_ends 60 = .ok (.sipush 217, 3) := by decide +kernel
theorem dX5_ends_63 : decode cX5_ends 63 = .ok (.iadd, 1) := by decide +kernel
theorem dX5_ends_64 : decode cX5_ends 64 = .ok (.iaload, 1) := by decide +kernel
theorem dX5_ends_65 : decode cX5_ends 65 = .ok (.iastore, 1) := by decide +kernel
theorem dX5_ends_66 : decode cX5_ends 66 = .ok (.iinc 2 1, 3) := by decide +kernel
theorem dX5_ends_69 : decode cX5_ends 69 = .ok (.goto (-26), 3) := by decide +kernel
theorem dX5_ends_72 : decode cX5_ends 72 = .ok (.aload_n 0, 1) := by decide +kernel
theorem dX5_ends_73 : decode cX5_ends 73 = .ok (.dup, 1) := by decide +kernel
theorem dX5_ends_74 : decode cX5_ends 74 = .ok (.getfield 31, 3) := by decide +kernel
theorem dX5_ends_77 : decode cX5_ends 77 = .ok (.iconst 1, 1) := by decide +kernel
theorem dX5_ends_78 : decode cX5_ends 78 = .ok (.isub, 1) := by decide +kernel
theorem dX5_ends_79 : decode cX5_ends 79 = .ok (.putfield 31, 3) := by decide +kernel
theorem dX5_ends_82 : decode cX5_ends 82 = .ok (.iconst 0, 1) := by decide +kernel
theorem dX5_ends_83 : decode cX5_ends 83 = .ok (.istore_n 2, 1) := by decide +kernel
theorem dX5_ends_84 : decode cX5_ends 84 = .ok (.iload_n 2, 1) := by decide +kernel
theorem dX5_ends_85 : decode cX5_ends 85 = .ok (.sipush 217, 3) := by decide +kernel
theorem dX5_ends_88 : decode cX5_ends 88 = .ok (.if_icmp .ge 30, 3) := by decide +kernel
theorem dX5_ends_91 : decode cX5_ends 91 = .ok (.aload_n 0, 1) := by decide +kernel
theorem dX5_ends_92 : decode cX5_ends 92 = .ok (.getfield 19, 3) := by decide +kernel
theorem dX5_ends_95 : decode cX5_ends 95 = .ok (.sipush 217, 3) := by decide +kernel
theorem dX5_ends_98 : decode cX5_ends 98 = .ok (.aload_n 0, 1) := by decide +kernel
theorem dX5_ends_99 : decode cX5_ends 99 = .ok (.getfield 31, 3) := by decide +kernel
theorem dX5_ends_102 : decode cX5_ends 102 = .ok (.imul, 1) := by decide +kernel
theorem dX5_ends_103 : decode cX5_ends 103 = .ok (.iload_n 2, 1) := by decide +kernel
theorem dX5_ends_104 : decode cX5_ends 104 = .ok (.iadd, 1) := by decide +kernel
theorem dX5_ends_105 : decode cX5_ends 105 = .ok (.aload_n 0, 1) := by decide +kernel
theorem dX5_ends_106 : decode cX5_ends 106 = .ok (.getfield 13, 3) := by decide +kernel
theorem dX5_ends_109 : decode cX5_ends 109 = .ok (.iload_n 2, 1) := by decide +kernel
theorem dX5_ends_110 : decode cX5_ends 110 = .ok (.iaload, 1) := by decide +kernel
theorem dX5_ends_111 : decode cX5_ends 111 = .ok (.iastore, 1) := by decide +kernel
theorem dX5_ends_112 : decode cX5_ends 112 = .ok (.iinc 2 1, 3) := by decide +kernel
theorem dX5_ends_115 : decode cX5_ends 115 = .ok (.goto (-31), 3) := by decide +kernel
theorem dX5_ends_118 : decode cX5_ends 118 = .ok (.aload_n 0, 1) := by decide +kernel
theorem dX5_ends_119 : decode cX5_ends 119 = .ok (.dup, 1) := by decide +kernel
theorem dX5_ends_120 : decode cX5_ends 120 = .ok (.getfield 31, 3) := by decide +kernel
theorem dX5_ends_123 : decode cX5_ends 123 = .ok (.iconst 1, 1) := by decide +kernel
theorem dX5_ends_124 : decode cX5_ends 124 = .ok (.iadd, 1) := by decide +kernel
theorem dX5_ends_125 : decode cX5_ends 125 = .ok (.putfield 31, 3) := by decide +kernel
theorem dX5_ends_128 : decode cX5_ends 128 = .ok (.iload_n 1, 1) := by decide +kernel
theorem dX5_ends_129 : decode cX5_ends 129 = .ok (.ireturn, 1) := by decide +kernel
theorem dX5_tries_0 : decode cX5_tries 0 = .ok (.iconst 0, 1) := by decide +kernel
theorem dX5_tries_1 : decode cX5_tries 1 = .ok (.istore_n 1, 1) := by decide +kernel
theorem dX5_tries_2 : decode cX5_tries 2 = .ok (.iload_n 1, 1) := by decide +kernel
theorem dX5_tries_3 : decode cX5_tries 3 = .ok (.sipush 217, 3) := by decide +kernel
theorem dX5_tries_6 : decode cX5_tries 6 = .ok (.if_icmp .ge 21, 3) := by decide +kernel
theorem dX5_tries_9 : decode cX5_tries 9 = .ok (.aload_n 0, 1) := by decide +kernel
theorem dX5_tries_10 : decode cX5_tries 10 = .ok (.getfield 16, 3) := by decide +kernel
theorem dX5_tries_13 : decode cX5_tries 13 = .ok (.iload_n 1, 1) := by decide +kernel
theorem dX5_tries_14 : decode cX5_tries 14 = .ok (.aload_n 0, 1) := by decide +kernel
theorem dX5_tries_15 : decode cX5_tries 15 = .ok (.getfield 7, 3) := by decide +kernel
theorem dX5_tries_18 : decode cX5_tries 18 = .ok (.iload_n 1, 1) := by decide +kernel
theorem dX5_tries_19 : decode cX5_tries 19 = .ok (.iaload, 1) := by decide +kernel
theorem dX5_tries_20 : decode cX5_tries 20 = .ok (.iastore, 1) := by decide +kernel
theorem dX5_tries_21 : decode cX5_tries 21 = .ok (.iinc 1 1, 3) := by decide +kernel
theorem dX5_tries_24 : decode cX5_tries 24 = .ok (.goto (-22), 3) := by decide +kernel
theorem dX5_tries_27 : decode cX5_tries 27 = .ok (.return_, 1) := by decide +kernel
theorem dX5_comesBack_0 : decode cX5_comesBack 0 = .ok (.iconst 0, 1) := by decide +kernel
theorem dX5_comesBack_1 : decode cX5_comesBack 1 = .ok (.istore_n 1, 1) := by decide +kernel
theorem dX5_comesBack_2 : decode cX5_comesBack 2 = .ok (.iload_n 1, 1) := by decide +kernel
theorem dX5_comesBack_3 : decode cX5_comesBack 3 = .ok (.sipush 217, 3) := by decide +kernel
theorem dX5_comesBack_6 : decode cX5_comesBack 6 = .ok (.if_icmp .ge 21, 3) := by decide +kernel
theorem dX5_comesBack_9 : decode cX5_comesBack 9 = .ok (.aload_n 0, 1) := by decide +kernel
theorem dX5_comesBack_10 : decode cX5_comesBack 10 = .ok (.getfield 7, 3) := by decide +kernel
theorem dX5_comesBack_13 : decode cX5_comesBack 13 = .ok (.iload_n 1, 1) := by decide +kernel
theorem dX5_comesBack_14 : decode cX5_comesBack 14 = .ok (.aload_n 0, 1) := by decide +kernel
theorem dX5_comesBack_15 : decode cX5_comesBack 15 = .ok (.getfield 16, 3) := by decide +kernel
theorem dX5_comesBack_18 : decode cX5_comesBack 18 = .ok (.iload_n 1, 1) := by decide +kernel
theorem dX5_comesBack_19 : decode cX5_comesBack 19 = .ok (.iaload, 1) := by decide +kernel
theorem dX5_comesBack_20 : decode cX5_comesBack 20 = .ok (.iastore, 1) := by decide +kernel
theorem dX5_comesBack_21 : decode cX5_comesBack 21 = .ok (.iinc 1 1, 3) := by decide +kernel
theorem dX5_comesBack_24 : decode cX5_comesBack 24 = .ok (.goto (-22), 3) := by decide +kernel
theorem dX5_comesBack_27 : decode cX5_comesBack 27 = .ok (.return_, 1) := by decide +kernel
set_option maxRecDepth 20000 in
theorem ggX5_isKing_X5_in : GoodIn wsX5_isKing wsX5_in := goodIn_r _ [5] (by decide +kernel) (by decide +kernel)
set_option maxRecDepth 20000 in
theorem gX5_isKing_X5_in : GoodIn wsX5_isKing (va_wsS RX5 35 yX5_in wsX5_in) := goodIn_app (goodIn_of _ (by decide +kernel)) ggX5_isKing_X5_in
theorem dX5_isKing_0 : decode cX5_isKing 0 = .ok (.iload_n 1, 1) := by decide +kernel
theorem dX5_isKing_1 : decode cX5_isKing 1 = .ok (.i2l, 1) := by decide +kernel
theorem dX5_isKing_2 : decode cX5_isKing 2 = .ok (.lconst 0, 1) := by decide +kernel
theorem dX5_isKing_3 : decode cX5_isKing 3 = .ok (.aload_n 0, 1) := by decide +kernel
theorem dX5_isKing_4 : decode cX5_isKing 4 = .ok (.getfield 7, 3) := by decide +kernel
theorem dX5_isKing_7 : decode cX5_isKing 7 = .ok (.iconst 5, 1) := by decide +kernel
theorem dX5_isKing_8 : decode cX5_isKing 8 = .ok (.iaload, 1) := by decide +kernel
theorem dX5_isKing_9 : decode cX5_isKing 9 = .ok (.i2l, 1) := by decide +kernel
theorem dX5_isKing_10 : decode cX5_isKing 10 = .ok (.lconst 1, 1) := by decide +kernel
theorem dX5_isKing_11 : decode cX5_isKing 11 = .ok (.lsub, 1) := by decide +kernel
theorem dX5_isKing_12 : decode cX5_isKing 12 = .ok (.invokestatic 35, 3) := by decide +kernel
theorem dX5_isKing_15 : decode cX5_isKing 15 = .ok (.ireturn, 1) := by decide +kernel
theorem dX5_get_0 : decode cX5_get 0 = .ok (.aload_n 0, 1) := by decide +kernel
theorem dX5_get_1 : decode cX5_get 1 = .ok (.getfield 7, 3) := by decide +kernel
theorem dX5_get_4 : decode cX5_get 4 = .ok (.bipush 49, 2) := by decide +kernel
theorem dX5_get_6 : decode cX5_get 6 = .ok (.bipush 7, 2) := by decide +kernel
theorem dX5_get_8 : decode cX5_get 8 = .ok (.iload_n 1, 1) := by decide +kernel
theorem dX5_get_9 : decode cX5_get 9 = .ok (.imul, 1) := by decide +kernel
theorem dX5_get_10 : decode cX5_get 10 = .ok (.iadd, 1) := by decide +kernel
theorem dX5_get_11 : decode cX5_get 11 = .ok (.iload_n 2, 1) := by decide +kernel
theorem dX5_get_12 : decode cX5_get 12 = .ok (.iadd, 1) := by decide +kernel
theorem dX5_get_13 : decode cX5_get 13 = .ok (.iaload, 1) := by decide +kernel
theorem dX5_get_14 : decode cX5_get 14 = .ok (.ireturn, 1) := by decide +kernel
theorem dX5_lays_0 : decode cX5_lays 0 = .ok (.aload_n 0, 1) := by decide +kernel
theorem dX5_lays_1 : decode cX5_lays 1 = .ok (.getfield 7, 3) := by decide +kernel
theorem dX5_lays_4 : decode cX5_lays 4 = .ok (.bipush 49, 2) := by decide +kernel
theorem dX5_lays_6 : decode cX5_lays 6 = .ok (.bipush 7, 2) := by decide +kernel
theorem dX5_lays_8 : decode cX5_lays 8 = .ok (.iload_n 1, 1) := by decide +kernel
theorem dX5_lays_9 : decode cX5_lays 9 = .ok (.imul, 1) := by decide +kernel
theorem dX5_lays_10 : decode cX5_lays 10 = .ok (.iadd, 1) := by decide +kernel
theorem dX5_lays_11 : decode cX5_lays 11 = .ok (.iload_n 2, 1) := by decide +kernel
theorem dX5_lays_12 : decode cX5_lays 12 = .ok (.iadd, 1) := by decide +kernel
theorem dX5_lays_13 : decode cX5_lays 13 = .ok (.iload_n 3, 1) := by decide +kernel
theorem dX5_lays_14 : decode cX5_lays 14 = .ok (.iastore, 1) := by decide +kernel
theorem dX5_lays_15 : decode cX5_lays 15 = .ok (.return_, 1) := by decide +kernel
theorem dX5_more_0 : decode cX5_more 0 = .ok (.aload_n 0, 1) := by decide +kernel
theorem dX5_more_1 : decode cX5_more 1 = .ok (.getfield 7, 3) := by decide +kernel
theorem dX5_more_4 : decode cX5_more 4 = .ok (.bipush 49, 2) := by decide +kernel
theorem dX5_more_6 : decode cX5_more 6 = .ok (.bipush 7, 2) := by decide +kernel
theorem dX5_more_8 : decode cX5_more 8 = .ok (.iload_n 1, 1) := by decide +kernel
theorem dX5_more_9 : decode cX5_more 9 = .ok (.imul, 1) := by decide +kernel
theorem dX5_more_10 : decode cX5_more 10 = .ok (.iadd, 1) := by decide +kernel
theorem dX5_more_11 : decode cX5_more 11 = .ok (.iload_n 2, 1) := by decide +kernel
theorem dX5_more_12 : decode cX5_more 12 = .ok (.iadd, 1) := by decide +kernel
theorem dX5_more_13 : decode cX5_more 13 = .ok (.dup2, 1) := by decide +kernel
theorem dX5_more_14 : decode cX5_more 14 = .ok (.iaload, 1) := by decide +kernel
theorem dX5_more_15 : decode cX5_more 15 = .ok (.iconst 1, 1) := by decide +kernel
theorem dX5_more_16 : decode cX5_more 16 = .ok (.iadd, 1) := by decide +kernel
theorem dX5_more_17 : decode cX5_more 17 = .ok (.iastore, 1) := by decide +kernel
theorem dX5_more_18 : decode cX5_more 18 = .ok (.return_, 1) := by decide +kernel
set_option maxRecDepth 20000 in
theorem ggX5_isGreater_X5_get : GoodIn wsX5_isGreater wsX5_get := goodIn_r _ [5, 6, 7, 8, 9, 10, 11, 12, 13, 14, 15, 16, 17, 18, 19, 20, 21, 22, 23, 24] (by decide +kernel) (by decide +kernel)
set_option maxRecDepth 20000 in
theorem gX5_isGreater_X5_get : GoodIn wsX5_isGreater (wsV RX5 39 RX5 yX5_get wsX5_get) := goodIn_app (goodIn_of _ (by decide +kernel)) ggX5_isGreater_X5_get
theorem dX5_isGreater_0 : decode cX5_isGreater 0 = .ok (.aload_n 0, 1) := by decide +kernel
theorem dX5_isGreater_1 : decode cX5_isGreater 1 = .ok (.iload_n 1, 1) := by decide +kernel
theorem dX5_isGreater_2 : decode cX5_isGreater 2 = .ok (.iconst 0, 1) := by decide +kernel
theorem dX5_isGreater_3 : decode cX5_isGreater 3 = .ok (.invokevirtual 39, 3) := by decide +kernel
theorem dX5_isGreater_6 : decode cX5_isGreater 6 = .ok (.aload_n 0, 1) := by decide +kernel
theorem dX5_isGreater_7 : decode cX5_isGreater 7 = .ok (.iload_n 2, 1) := by decide +kernel
theorem dX5_isGreater_8 : decode cX5_isGreater 8 = .ok (.iconst 0, 1) := by decide +kernel
theorem dX5_isGreater_9 : decode cX5_isGreater 9 = .ok (.invokevirtual 39, 3) := by decide +kernel
theorem dX5_isGreater_12 : decode cX5_isGreater 12 = .ok (.isub, 1) := by decide +kernel
theorem dX5_isGreater_13 : decode cX5_isGreater 13 = .ok (.istore_n 3, 1) := by decide +kernel
theorem dX5_isGreater_14 : decode cX5_isGreater 14 = .ok (.aload_n 0, 1) := by decide +kernel
theorem dX5_isGreater_15 : decode cX5_isGreater 15 = .ok (.iload_n 1, 1) := by decide +kernel
theorem dX5_isGreater_16 : decode cX5_isGreater 16 = .ok (.iconst 1, 1) := by decide +kernel
theorem dX5_isGreater_17 : decode cX5_isGreater 17 = .ok (.invokevirtual 39, 3) := by decide +kernel
theorem dX5_isGreater_20 : decode cX5_isGreater 20 = .ok (.aload_n 0, 1) := by decide +kernel
theorem dX5_isGreater_21 : decode cX5_isGreater 21 = .ok (.iload_n 2, 1) := by decide +kernel
theorem dX5_isGreater_22 : decode cX5_isGreater 22 = .ok (.iconst 1, 1) := by decide +kernel
theorem dX5_isGreater_23 : decode cX5_isGreater 23 = .ok (.invokevirtual 39, 3) := by decide +kernel
theorem dX5_isGreater_26 : decode cX5_isGreater 26 = .ok (.isub, 1) := by decide +kernel
theorem dX5_isGreater_27 : decode cX5_isGreater 27 = .ok (.istore 4, 2) := by decide +kernel
theorem dX5_isGreater_29 : decode cX5_isGreater 29 = .ok (.iload_n 3, 1) := by decide +kernel
theorem dX5_isGreater_30 : decode cX5_isGreater 30 = .ok (.ifCond .gt 22, 3) := by decide +kernel
theorem dX5_isGreater_33 : decode cX5_isGreater 33 = .ok (.iload_n 3, 1) := by decide +kernel
theorem dX5_isGreater_34 : decode cX5_isGreater 34 = .ok (.ifCond .ne 22, 3) := by decide +kernel
theorem dX5_isGreater_37 : decode cX5_isGreater 37 = .ok (.iload 4, 2) := by decide +kernel
theorem dX5_isGreater_39 : decode cX5_isGreater 39 = .ok (.ifCond .gt 13, 3) := by decide +kernel
theorem dX5_isGreater_42 : decode cX5_isGreater 42 = .ok (.iload 4, 2) := by decide +kernel
theorem dX5_isGreater_44 : decode cX5_isGreater 44 = .ok (.ifCond .ne 12, 3) := by decide +kernel
theorem dX5_isGreater_47 : decode cX5_isGreater 47 = .ok (.iload_n 1, 1) := by decide +kernel
theorem dX5_isGreater_48 : decode cX5_isGreater 48 = .ok (.iload_n 2, 1) := by decide +kernel
theorem dX5_isGreater_49 : decode cX5_isGreater 49 = .ok (.if_icmp .ge 7, 3) := by decide +kernel
theorem dX5_isGreater_52 : decode cX5_isGreater 52 = .ok (.iconst 1, 1) := by decide +kernel
theorem dX5_isGreater_53 : decode cX5_isGreater 53 = .ok (.goto 4, 3) := by decide +kernel
theorem dX5_isGreater_56 : decode cX5_isGreater 56 = .ok (.iconst 0, 1) := by decide +kernel
theorem dX5_isGreater_57 : decode cX5_isGreater 57 = .ok (.ireturn, 1) := by decide +kernel
theorem dX5_placeIn_0 : decode cX5_placeIn 0 = .ok (.iconst 0, 1) := by decide +kernel
theorem dX5_placeIn_1 : decode cX5_placeIn 1 = .ok (.istore 4, 2) := by decide +kernel
theorem dX5_placeIn_3 : decode cX5_placeIn 3 = .ok (.iload 4, 2) := by decide +kernel
theorem dX5_placeIn_5 : decode cX5_placeIn 5 = .ok (.iload_n 2, 1) := by decide +kernel
theorem dX5_placeIn_6 : decode cX5_placeIn 6 = .ok (.if_icmp .ge 25, 3) := by decide +kernel
theorem dX5_placeIn_9 : decode cX5_placeIn 9 = .ok (.aload_n 0, 1) := by decide +kernel
theorem dX5_placeIn_10 : decode cX5_placeIn 10 = .ok (.getfield 7, 3) := by decide +kernel
theorem dX5_placeIn_13 : decode cX5_placeIn 13 = .ok (.iload_n 1, 1) := by decide +kernel
theorem dX5_placeIn_14 : decode cX5_placeIn 14 = .ok (.iload 4, 2) := by decide +kernel
theorem dX5_placeIn_16 : decode cX5_placeIn 16 = .ok (.iadd, 1) := by decide +kernel
theorem dX5_placeIn_17 : decode cX5_placeIn 17 = .ok (.iaload, 1) := by decide +kernel
theorem dX5_placeIn_18 : decode cX5_placeIn 18 = .ok (.iload_n 3, 1) := by decide +kernel
theorem dX5_placeIn_19 : decode cX5_placeIn 19 = .ok (.if_icmp .ne 6, 3) := by decide +kernel
theorem dX5_placeIn_22 : decode cX5_placeIn 22 = .ok (.iload 4, 2) := by decide +kernel
theorem dX5_placeIn_24 : decode cX5_placeIn 24 = .ok (.ireturn, 1) := by decide +kernel
theorem dX5_placeIn_25 : decode cX5_placeIn 25 = .ok (.iinc 4 1, 3) := by decide +kernel
theorem dX5_placeIn_28 : decode cX5_placeIn 28 = .ok (.goto (-25), 3) := by decide +kernel
theorem dX5_placeIn_31 : decode cX5_placeIn 31 = .ok (.bipush (-5), 2) := by decide +kernel
theorem dX5_placeIn_33 : decode cX5_placeIn 33 = .ok (.ireturn, 1) := by decide +kernel
set_option maxRecDepth 20000 in
theorem ggX5_seatOf_X5_placeIn : GoodIn wsX5_seatOf wsX5_placeIn := goodIn_r _ [6, 1, 7, 8, 9, 10, 11, 12, 13, 14, 15, 16, 17, 18, 19, 20, 21, 22, 23, 24] (by decide +kernel) (by decide +kernel)
set_option maxRecDepth 20000 in
theorem gX5_seatOf_X5_placeIn : GoodIn wsX5_seatOf (wsV RX5 43 RX5 yX5_placeIn wsX5_placeIn) := goodIn_app (goodIn_of _ (by decide +kernel)) ggX5_seatOf_X5_placeIn
theorem dX5_seatOf_0 : decode cX5_seatOf 0 = .ok (.aload_n 0, 1) := by decide +kernel
theorem dX5_seatOf_1 : decode cX5_seatOf 1 = .ok (.bipush 12, 2) := by decide +kernel
theorem dX5_seatOf_3 : decode cX5_seatOf 3 = .ok (.aload_n 0, 1) := by decide +kernel
theorem dX5_seatOf_4 : decode cX5_seatOf 4 = .ok (.getfield 7, 3) := by decide +kernel
theorem dX5_seatOf_7 : decode cX5_seatOf 7 = .ok (.bipush 11, 2) := by decide +kernel
theorem dX5_seatOf_9 : decode cX5_seatOf 9 = .ok (.iaload, 1) := by decide +kernel
theorem dX5_seatOf_10 : decode cX5_seatOf 10 = .ok (.iload_n 1, 1) := by decide +kernel
theorem dX5_seatOf_11 : decode cX5_seatOf 11 = .ok (.invokevirtual 43, 3) := by decide +kernel
theorem dX5_seatOf_14 : decode cX5_seatOf 14 = .ok (.ireturn, 1) := by decide +kernel
set_option maxRecDepth 20000 in
theorem ggX5_waitOf_X5_placeIn : GoodIn wsX5_waitOf wsX5_placeIn := goodIn_r _ [6, 1, 7, 8, 9, 10, 11, 12, 13, 14, 15, 16, 17, 18, 19, 20, 21, 22, 23, 24] (by decide +kernel) (by decide +kernel)
set_option maxRecDepth 20000 in
theorem gX5_waitOf_X5_placeIn : GoodIn wsX5_waitOf (wsV RX5 43 RX5 yX5_placeIn wsX5_placeIn) := goodIn_app (goodIn_of _ (by decide +kernel)) ggX5_waitOf_X5_placeIn
theorem dX5_waitOf_0 : decode cX5_waitOf 0 = .ok (.aload_n 0, 1) := by decide +kernel
theorem dX5_waitOf_1 : decode cX5_waitOf 1 = .ok (.bipush 25, 2) := by decide +kernel
theorem dX5_waitOf_3 : decode cX5_waitOf 3 = .ok (.aload_n 0, 1) := by decide +kernel
theorem dX5_waitOf_4 : decode cX5_waitOf 4 = .ok (.getfield 7, 3) := by decide +kernel
theorem dX5_waitOf_7 : decode cX5_waitOf 7 = .ok (.bipush 24, 2) := by decide +kernel
theorem dX5_waitOf_9 : decode cX5_waitOf 9 = .ok (.iaload, 1) := by decide +kernel
theorem dX5_waitOf_10 : decode cX5_waitOf 10 = .ok (.iload_n 1, 1) := by decide +kernel
theorem dX5_waitOf_11 : decode cX5_waitOf 11 = .ok (.invokevirtual 43, 3) := by decide +kernel
theorem dX5_waitOf_14 : decode cX5_waitOf 14 = .ok (.ireturn, 1) := by decide +kernel
theorem dX5_takesOff_0 : decode cX5_takesOff 0 = .ok (.iload_n 3, 1) := by decide +kernel
theorem dX5_takesOff_1 : decode cX5_takesOff 1 = .ok (.istore 4, 2) := by decide +kernel
theorem dX5_takesOff_3 : decode cX5_takesOff 3 = .ok (.iload 4, 2) := by decide +kernel
theorem dX5_takesOff_5 : decode cX5_takesOff 5 = .ok (.aload_n 0, 1) := by decide +kernel
theorem dX5_takesOff_6 : decode cX5_takesOff 6 = .ok (.getfield 7, 3) := by decide +kernel
theorem dX5_takesOff_9 : decode cX5_takesOff 9 = .ok (.iload_n 2, 1) := by decide +kernel
theorem dX5_takesOff_10 : decode cX5_takesOff 10 = .ok (.iaload, 1) := by decide +kernel
theorem dX5_takesOff_11 : decode cX5_takesOff 11 = .ok (.iconst 1, 1) := by decide +kernel
theorem dX5_takesOff_12 : decode cX5_takesOff 12 = .ok (.isub, 1) := by decide +kernel
theorem dX5_takesOff_13 : decode cX5_takesOff 13 = .ok (.if_icmp .ge 29, 3) := by decide +kernel
theorem dX5_takesOff_16 : decode cX5_takesOff 16 = .ok (.aload_n 0, 1) := by decide +kernel
theorem dX5_takesOff_17 : decode cX5_takesOff 17 = .ok (.getfield 7, 3) := by decide +kernel
theorem dX5_takesOff_20 : decode cX5_takesOff 20 = .ok (.iload_n 1, 1) := by decide +kernel
theorem dX5_takesOff_21 : decode cX5_takesOff 21 = .ok (.iload 4, 2) := by decide +kernel
theorem dX5_takesOff_23 : decode cX5_takesOff 23 = .ok (.iadd, 1) := by decide +kernel
theorem dX5_takesOff_24 : decode cX5_takesOff 24 = .ok (.aload_n 0, 1) := by decide +kernel
theorem dX5_takesOff_25 : decode cX5_takesOff 25 = .ok (.getfield 7, 3) := by decide +kernel
theorem dX5_takesOff_28 : decode cX5_takesOff 28 = .ok (.iload_n 1, 1) := by decide +kernel
theorem dX5_takesOff_29 : decode cX5_takesOff 29 = .ok (.iload 4, 2) := by decide +kernel
theorem dX5_takesOff_31 : decode cX5_takesOff 31 = .ok (.iadd, 1) := by decide +kernel
theorem dX5_takesOff_32 : decode cX5_takesOff 32 = .ok (.iconst 1, 1) := by decide +kernel
theorem dX5_takesOff_33 : decode cX5_takesOff 33 = .ok (.iadd, 1) := by decide +kernel
theorem dX5_takesOff_34 : decode cX5_takesOff 34 = .ok (.iaload, 1) := by decide +kernel
theorem dX5_takesOff_35 : decode cX5_takesOff 35 = .ok (.iastore, 1) := by decide +kernel
theorem dX5_takesOff_36 : decode cX5_takesOff 36 = .ok (.iinc 4 1, 3) := by decide +kernel
theorem dX5_takesOff_39 : decode cX5_takesOff 39 = .ok (.goto (-36), 3) := by decide +kernel
theorem dX5_takesOff_42 : decode cX5_takesOff 42 = .ok (.aload_n 0, 1) := by decide +kernel
theorem dX5_takesOff_43 : decode cX5_takesOff 43 = .ok (.getfield 7, 3) := by decide +kernel
theorem dX5_takesOff_46 : decode cX5_takesOff 46 = .ok (.iload_n 2, 1) := by decide +kernel
theorem dX5_takesOff_47 : decode cX5_takesOff 47 = .ok (.dup2, 1) := by decide +kernel
theorem dX5_takesOff_48 : decode cX5_takesOff 48 = .ok (.iaload, 1) := by decide +kernel
theorem dX5_takesOff_49 : decode cX5_takesOff 49 = .ok (.iconst 1, 1) := by decide +kernel
theorem dX5_takesOff_50 : decode cX5_takesOff 50 = .ok (.isub, 1) := by decide +kernel
theorem dX5_takesOff_51 : decode cX5_takesOff 51 = .ok (.iastore, 1) := by decide +kernel
theorem dX5_takesOff_52 : decode cX5_takesOff 52 = .ok (.aload_n 0, 1) := by decide +kernel
theorem dX5_takesOff_53 : decode cX5_takesOff 53 = .ok (.getfield 7, 3) := by decide +kernel
theorem dX5_takesOff_56 : decode cX5_takesOff 56 = .ok (.iload_n 1, 1) := by decide +kernel
theorem dX5_takesOff_57 : decode cX5_takesOff 57 = .ok (.aload_n 0, 1) := by decide +kernel
theorem dX5_takesOff_58 : decode cX5_takesOff 58 = .ok (.getfield 7, 3) := by decide +kernel
theorem dX5_takesOff_61 : decode cX5_takesOff 61 = .ok (.iload_n 2, 1) := by decide +kernel
theorem dX5_takesOff_62 : decode cX5_takesOff 62 = .ok (.iaload, 1) := by decide +kernel
theorem dX5_takesOff_63 : decode cX5_takesOff 63 = .ok (.iadd, 1) := by decide +kernel
theorem dX5_takesOff_64 : decode cX5_takesOff 64 = .ok (.iconst 0, 1) := by decide +kernel
theorem dX5_takesOff_65 : decode cX5_takesOff 65 = .ok (.iastore, 1) := by decide +kernel
theorem dX5_takesOff_66 : decode cX5_takesOff 66 = .ok (.return_, 1) := by decide +kernel
set_option maxRecDepth 20000 in
theorem ggX5_isWrong_X5_isGreater : GoodIn wsX5_isWrong wsX5_isGreater := goodIn_r _ [6, 7, 8, 9, 5, 10, 1, 11, 12, 13, 14, 15, 16, 17, 18, 19, 20, 21, 22, 23, 24, 25, 26, 27, 28] (by decide +kernel) (by decide +kernel)
set_option maxRecDepth 20000 in
theorem gX5_isWrong_X5_isGreater : GoodIn wsX5_isWrong (wsV RX5 47 RX5 yX5_isGreater wsX5_isGreater) := goodIn_app (goodIn_of _ (by decide +kernel)) ggX5_isWrong_X5_isGreater
theorem dX5_isWrong_0 : decode cX5_isWrong 0 = .ok (.aload_n 0, 1) := by decide +kernel
theorem dX5_isWrong_1 : decode cX5_isWrong 1 = .ok (.aload_n 0, 1) := by decide +kernel
theorem dX5_isWrong_2 : decode cX5_isWrong 2 = .ok (.getfield 7, 3) := by decide +kernel
theorem dX5_isWrong_5 : decode cX5_isWrong 5 = .ok (.bipush 12, 2) := by decide +kernel
theorem dX5_isWrong_7 : decode cX5_isWrong 7 = .ok (.iload_n 1, 1) := by decide +kernel
theorem dX5_isWrong_8 : decode cX5_isWrong 8 = .ok (.iadd, 1) := by decide +kernel
theorem dX5_isWrong_9 : decode cX5_isWrong 9 = .ok (.iconst 1, 1) := by decide +kernel
theorem dX5_isWrong_10 : decode cX5_isWrong 10 = .ok (.iadd, 1) := by decide +kernel
theorem dX5_isWrong_11 : decode cX5_isWrong 11 = .ok (.iaload, 1) := by decide +kernel
theorem dX5_isWrong_12 : decode cX5_isWrong 12 = .ok (.aload_n 0, 1) := by decide +kernel
theorem dX5_isWrong_13 : decode cX5_isWrong 13 = .ok (.getfield 7, 3) := by decide +kernel
theorem dX5_isWrong_16 : decode cX5_isWrong 16 = .ok (.bipush 12, 2) := by decide +kernel
theorem dX5_isWrong_18 : decode cX5_isWrong 18 = .ok (.iload_n 1, 1) := by decide +kernel
theorem dX5_isWrong_19 : decode cX5_isWrong 19 = .ok (.iadd, 1) := by decide +kernel
theorem dX5_isWrong_20 : decode cX5_isWrong 20 = .ok (.iaload, 1) := by decide +kernel
theorem dX5_isWrong_21 : decode cX5_isWrong 21 = .ok (.invokevirtual 47, 3) := by decide +kernel
theorem dX5_isWrong_24 : decode cX5_isWrong 24 = .ok (.ireturn, 1) := by decide +kernel
theorem dX5_swaps_0 : decode cX5_swaps 0 = .ok (.aload_n 0, 1) := by decide +kernel
theorem dX5_swaps_1 : decode cX5_swaps 1 = .ok (.getfield 7, 3) := by decide +kernel
theorem dX5_swaps_4 : decode cX5_swaps 4 = .ok (.bipush 12, 2) := by decide +kernel
theorem dX5_swaps_6 : decode cX5_swaps 6 = .ok (.iload_n 1, 1) := by decide +kernel
theorem dX5_swaps_7 : decode cX5_swaps 7 = .ok (.iadd, 1) := by decide +kernel
theorem dX5_swaps_8 : decode cX5_swaps 8 = .ok (.iaload, 1) := by decide +kernel
theorem dX5_swaps_9 : decode cX5_swaps 9 = .ok (.istore_n 2, 1) := by decide +kernel
theorem dX5_swaps_10 : decode cX5_swaps 10 = .ok (.aload_n 0, 1) := by decide +kernel
theorem dX5_swaps_11 : decode cX5_swaps 11 = .ok (.getfield 7, 3) := by decide +kernel
theorem dX5_swaps_14 : decode cX5_swaps 14 = .ok (.bipush 12, 2) := by decide +kernel
theorem dX5_swaps_16 : decode cX5_swaps 16 = .ok (.iload_n 1, 1) := by decide +kernel
theorem dX5_swaps_17 : decode cX5_swaps 17 = .ok (.iadd, 1) := by decide +kernel
theorem dX5_swaps_18 : decode cX5_swaps 18 = .ok (.aload_n 0, 1) := by decide +kernel
theorem dX5_swaps_19 : decode cX5_swaps 19 = .ok (.getfield 7, 3) := by decide +kernel
theorem dX5_swaps_22 : decode cX5_swaps 22 = .ok (.bipush 12, 2) := by decide +kernel
theorem dX5_swaps_24 : decode cX5_swaps 24 = .ok (.iload_n 1, 1) := by decide +kernel
theorem dX5_swaps_25 : decode cX5_swaps 25 = .ok (.iadd, 1) := by decide +kernel
theorem dX5_swaps_26 : decode cX5_swaps 26 = .ok (.iconst 1, 1) := by decide +kernel
theorem dX5_swaps_27 : decode cX5_swaps 27 = .ok (.iadd, 1) := by decide +kernel
theorem dX5_swaps_28 : decode cX5_swaps 28 = .ok (.iaload, 1) := by decide +kernel
theorem dX5_swaps_29 : decode cX5_swaps 29 = .ok (.iastore, 1) := by decide +kernel
theorem dX5_swaps_30 : decode cX5_swaps 30 = .ok (.aload_n 0, 1) := by decide +kernel
theorem dX5_swaps_31 : decode cX5_swaps 31 = .ok (.getfield 7, 3) := by decide +kernel
theorem dX5_swaps_34 : decode cX5_swaps 34 = .ok (.bipush 12, 2) := by decide +kernel
theorem dX5_swaps_36 : decode cX5_swaps 36 = .ok (.iload_n 1, 1) := by decide +kernel
theorem dX5_swaps_37 : decode cX5_swaps 37 = .ok (.iadd, 1) := by decide +kernel
theorem dX5_swaps_38 : decode cX5_swaps 38 = .ok (.iconst 1, 1) := by decide +kernel
theorem dX5_swaps_39 : decode cX5_swaps 39 = .ok (.iadd, 1) := by decide +kernel
theorem dX5_swaps_40 : decode cX5_swaps 40 = .ok (.iload_n 2, 1) := by decide +kernel
theorem dX5_swaps_41 : decode cX5_swaps 41 = .ok (.iastore, 1) := by decide +kernel
theorem dX5_swaps_42 : decode cX5_swaps 42 = .ok (.return_, 1) := by decide +kernel
set_option maxRecDepth 20000 in
theorem ggX5_isSlightedAt_X5_isGreater : GoodIn wsX5_isSlightedAt wsX5_isGreater := goodIn_r _ [6, 7, 8, 9, 5, 10, 1, 11, 12, 13, 14, 15, 16, 17, 18, 19, 20, 21, 22, 23, 24, 25, 26, 27, 28] (by decide +kernel) (by decide +kernel)
set_option maxRecDepth 20000 in
theorem gX5_isSlightedAt_X5_isGreater : GoodIn wsX5_isSlightedAt (wsV RX5 47 RX5 yX5_isGreater wsX5_isGreater) := goodIn_app (goodIn_of _ (by decide +kernel)) ggX5_isSlightedAt_X5_isGreater
theorem dX5_isSlightedAt_0 : decode cX5_isSlightedAt 0 = .ok (.iconst 0, 1) := by decide +kernel
theorem dX5_isSlightedAt_1 : decode cX5_isSlightedAt 1 = .ok (.istore_n 2, 1) := by decide +kernel
theorem dX5_isSlightedAt_2 : decode cX5_isSlightedAt 2 = .ok (.iconst 0, 1) := by decide +kernel
theorem dX5_isSlightedAt_3 : decode cX5_isSlightedAt 3 = .ok (.istore_n 3, 1) := by decide +kernel
theorem dX5_isSlightedAt_4 : decode cX5_isSlightedAt 4 = .ok (.iload_n 3, 1) := by decide +kernel
theorem dX5_isSlightedAt_5 : decode cX5_isSlightedAt 5 = .ok (.iload_n 1, 1) := by decide +kernel
theorem dX5_isSlightedAt_6 : decode cX5_isSlightedAt 6 = .ok (.if_icmp .ge 44, 3) := by decide +kernel
theorem dX5_isSlightedAt_9 : decode cX5_isSlightedAt 9 = .ok (.iload_n 2, 1) := by decide +kernel
theorem dX5_isSlightedAt_10 : decode cX5_isSlightedAt 10 = .ok (.ifCond .ne 28, 3) := by decide +kernel
theorem dX5_isSlightedAt_13 : decode cX5_isSlightedAt 13 = .ok (.aload_n 0, 1) := by decide +kernel
theorem dX5_isSlightedAt_14 : decode cX5_isSlightedAt 14 = .ok (.aload_n 0, 1) := by decide +kernel
theorem dX5_isSlightedAt_15 : decode cX5_isSlightedAt 15 = .ok (.getfield 7, 3) := by decide +kernel
theorem dX5_isSlightedAt_18 : decode cX5_isSlightedAt 18 = .ok (.bipush 12, 2) := by decide +kernel
theorem dX5_isSlightedAt_20 : decode cX5_isSlightedAt 20 = .ok (.iload_n 1, 1) := by decide +kernel
theorem dX5_isSlightedAt_21 : decode cX5_isSlightedAt 21 = .ok (.iadd, 1) := by decide +kernel
theorem dX5_isSlightedAt_22 : decode cX5_isSlightedAt 22 = .ok (.iaload, 1) := by decide +kernel
theorem dX5_isSlightedAt_23 : decode cX5_isSlightedAt 23 = .ok (.aload_n 0, 1) := by decide +kernel
theorem dX5_isSlightedAt_24 : decode cX5_isSlightedAt 24 = .ok (.getfield 7, 3) := by decide +kernel
theorem dX5_isSlightedAt_27 : decode cX5_isSlightedAt 27 = .ok (.bipush 12, 2) := by decide +kernel
theorem dX5_isSlightedAt_29 : decode cX5_isSlightedAt 29 = .ok (.iload_n 3, 1) := by decide +kernel
theorem dX5_isSlightedAt_30 : decode cX5_isSlightedAt 30 = .ok (.iadd, 1) := by decide +kernel
theorem dX5_isSlightedAt_31 : decode cX5_isSlightedAt 31 = .ok (.iaload, 1) := by decide +kernel
theorem dX5_isSlightedAt_32 : decode cX5_isSlightedAt 32 = .ok (.invokevirtual 47, 3) := by decide +kernel
theorem dX5_isSlightedAt_35 : decode cX5_isSlightedAt 35 = .ok (.ifCond .eq 7, 3) := by decide +kernel
theorem dX5_isSlightedAt_38 : decode cX5_isSlightedAt 38 = .ok (.iconst 1, 1) := by decide +kernel
theorem dX5_isSlightedAt_39 : decode cX5_isSlightedAt 39 = .ok (.goto 4, 3) := by decide +kernel
theorem dX5_isSlightedAt_42 : decode cX5_isSlightedAt 42 = .ok (.iconst 0, 1) := by decide +kernel
theorem dX5_isSlightedAt_43 : decode cX5_isSlightedAt 43 = .ok (.istore_n 2, 1) := by decide +kernel
theorem dX5_isSlightedAt_44 : decode cX5_isSlightedAt 44 = .ok (.iinc 3 1, 3) := by decide +kernel
theorem dX5_isSlightedAt_47 : decode cX5_isSlightedAt 47 = .ok (.goto (-43), 3) := by decide +kernel
theorem dX5_isSlightedAt_50 : decode cX5_isSlightedAt 50 = .ok (.iload_n 2, 1) := by decide +kernel
theorem dX5_isSlightedAt_51 : decode cX5_isSlightedAt 51 = .ok (.ireturn, 1) := by decide +kernel
set_option maxRecDepth 20000 in
theorem ggX5_firstWrong_X5_isWrong : GoodIn wsX5_firstWrong wsX5_isWrong := goodIn_r _ [6, 1, 7, 8, 9, 5, 10, 11, 12, 13, 14, 15, 16, 17, 18, 19, 20, 21, 22, 23, 24, 25, 26, 27, 28, 29, 30, 31, 32] (by decide +kernel) (by decide +kernel)
set_option maxRecDepth 20000 in
theorem gX5_firstWrong_X5_isWrong : GoodIn wsX5_firstWrong (wsV RX5 51 RX5 yX5_isWrong wsX5_isWrong) := goodIn_app (goodIn_of _ (by decide +kernel)) ggX5_firstWrong_X5_isWrong
theorem dX5_firstWrong_0 : decode cX5_firstWrong 0 = .ok (.iconst 0, 1) := by decide +kernel
theorem dX5_firstWrong_1 : decode cX5_firstWrong 1 = .ok (.istore_n 1, 1) := by decide +kernel
theorem dX5_firstWrong_2 : decode cX5_firstWrong 2 = .ok (.iload_n 1, 1) := by decide +kernel
theorem dX5_firstWrong_3 : decode cX5_firstWrong 3 = .ok (.iconst 1, 1) := by decide +kernel
theorem dX5_firstWrong_4 : decode cX5_firstWrong 4 = .ok (.iadd, 1) := by decide +kernel
theorem dX5_firstWrong_5 : decode cX5_firstWrong 5 = .ok (.aload_n 0, 1) := by decide +kernel
theorem dX5_firstWrong_6 : decode cX5_firstWrong 6 = .ok (.getfield 7, 3) := by decide +kernel
theorem dX5_firstWrong_9 : decode cX5_firstWrong 9 = .ok (.bipush 11, 2) := by decide +kernel
theorem dX5_firstWrong_11 : decode cX5_firstWrong 11 = .ok (.iaload, 1) := by decide +kernel
theorem dX5_firstWrong_12 : decode cX5_firstWrong 12 = .ok (.if_icmp .ge 19, 3) := by decide +kernel
theorem dX5_firstWrong_15 : decode cX5_firstWrong 15 = .ok (.aload_n 0, 1) := by decide +kernel
theorem dX5_firstWrong_16 : decode cX5_firstWrong 16 = .ok (.iload_n 1, 1) := by decide +kernel
theorem dX5_firstWrong_17 : decode cX5_firstWrong 17 = .ok (.invokevirtual 51, 3) := by decide +kernel
theorem dX5_firstWrong_20 : decode cX5_firstWrong 20 = .ok (.ifCond .eq 5, 3) := by decide +kernel
theorem dX5_firstWrong_23 : decode cX5_firstWrong 23 = .ok (.iload_n 1, 1) := by decide +kernel
theorem dX5_firstWrong_24 : decode cX5_firstWrong 24 = .ok (.ireturn, 1) := by decide +kernel
theorem dX5_firstWrong_25 : decode cX5_firstWrong 25 = .ok (.iinc 1 1, 3) := by decide +kernel
theorem dX5_firstWrong_28 : decode cX5_firstWrong 28 = .ok (.goto (-26), 3) := by decide +kernel
theorem dX5_firstWrong_31 : decode cX5_firstWrong 31 = .ok (.bipush (-5), 2) := by decide +kernel
theorem dX5_firstWrong_33 : decode cX5_firstWrong 33 = .ok (.ireturn, 1) := by decide +kernel
set_option maxRecDepth 20000 in
theorem ggX5_envoysGo_X5_firstWrong : GoodIn wsX5_envoysGo wsX5_firstWrong := goodIn_r _ [6, 1, 7, 8, 9, 5, 10, 11, 12, 13, 14, 15, 16, 17, 18, 23, 24, 25, 26, 27, 28, 29, 30, 31, 32, 33, 34, 35, 36, 37, 38, 39, 40] (by decide +kernel) (by decide +kernel)
set_option maxRecDepth 20000 in
theorem gX5_envoysGo_X5_firstWrong : GoodIn wsX5_envoysGo (wsV RX5 55 RX5 yX5_firstWrong wsX5_firstWrong) := goodIn_app (goodIn_of _ (by decide +kernel)) ggX5_envoysGo_X5_firstWrong
set_option maxRecDepth 20000 in
theorem ggX5_envoysGo_X5_swaps : GoodIn wsX5_envoysGo wsX5_swaps := goodIn_r _ [22, 1, 23, 24, 25, 26, 27, 28, 29, 30, 31, 32, 33, 34, 35, 36, 37, 38, 39, 40] (by decide +kernel) (by decide +kernel)
set_option maxRecDepth 20000 in
theorem gX5_envoysGo_X5_swaps : GoodIn wsX5_envoysGo (wsV RX5 59 RX5 yX5_swaps wsX5_swaps) := goodIn_app (goodIn_of _ (by decide +kernel)) ggX5_envoysGo_X5_swaps
theorem dX5_envoysGo_0 : decode cX5_envoysGo 0 = .ok (.aload_n 0, 1) := by decide +kernel
theorem dX5_envoysGo_1 : decode cX5_envoysGo 1 = .ok (.invokevirtual 55, 3) := by decide +kernel
theorem dX5_envoysGo_4 : decode cX5_envoysGo 4 = .ok (.istore_n 1, 1) := by decide +kernel
theorem dX5_envoysGo_5 : decode cX5_envoysGo 5 = .ok (.iconst 0, 1) := by decide +kernel
theorem dX5_envoysGo_6 : decode cX5_envoysGo 6 = .ok (.istore_n 2, 1) := by decide +kernel
theorem dX5_envoysGo_7 : decode cX5_envoysGo 7 = .ok (.iload_n 2, 1) := by decide +kernel
theorem dX5_envoysGo_8 : decode cX5_envoysGo 8 = .ok (.aload_n 0, 1) := by decide +kernel
theorem dX5_envoysGo_9 : decode cX5_envoysGo 9 = .ok (.getfield 7, 3) := by decide +kernel
theorem dX5_envoysGo_12 : decode cX5_envoysGo 12 = .ok (.iconst 2, 1) := by decide +kernel
theorem dX5_envoysGo_13 : decode cX5_envoysGo 13 = .ok (.iaload, 1) := by decide +kernel
theorem dX5_envoysGo_14 : decode cX5_envoysGo 14 = .ok (.if_icmp .ge 36, 3) := by decide +kernel
theorem dX5_envoysGo_17 : decode cX5_envoysGo 17 = .ok (.iload_n 1, 1) := by decide +kernel
theorem dX5_envoysGo_18 : decode cX5_envoysGo 18 = .ok (.bipush (-5), 2) := by decide +kernel
theorem dX5_envoysGo_20 : decode cX5_envoysGo 20 = .ok (.if_icmp .eq 30, 3) := by decide +kernel
theorem dX5_envoysGo_23 : decode cX5_envoysGo 23 = .ok (.aload_n 0, 1) := by decide +kernel
theorem dX5_envoysGo_24 : decode cX5_envoysGo 24 = .ok (.iload_n 1, 1) := by decide +kernel
theorem dX5_envoysGo_25 : decode cX5_envoysGo 25 = .ok (.invokevirtual 59, 3) := by decide +kernel
theorem dX5_envoysGo_28 : decode cX5_envoysGo 28 = .ok (.aload_n 0, 1) := by decide +kernel
theorem dX5_envoysGo_29 : decode cX5_envoysGo 29 = .ok (.getfield 7, 3) := by decide +kernel
theorem dX5_envoysGo_32 : decode cX5_envoysGo 32 = .ok (.bipush 10, 2) := by decide +kernel
theorem dX5_envoysGo_34 : decode cX5_envoysGo 34 = .ok (.dup2, 1) := by decide +kernel
theorem dX5_envoysGo_35 : decode cX5_envoysGo 35 = .ok (.iaload, 1) := by decide +kernel
theorem dX5_envoysGo_36 : decode cX5_envoysGo 36 = .ok (.iconst 1, 1) := by decide +kernel
theorem dX5_envoysGo_37 : decode cX5_envoysGo 37 = .ok (.iadd, 1) := by decide +kernel
theorem dX5_envoysGo_38 : decode cX5_envoysGo 38 = .ok (.iastore, 1) := by decide +kernel
theorem dX5_envoysGo_39 : decode cX5_envoysGo 39 = .ok (.aload_n 0, 1) := by decide +kernel
theorem dX5_envoysGo_40 : decode cX5_envoysGo 40 = .ok (.invokevirtual 55, 3) := by decide +kernel
theorem dX5_envoysGo_43 : decode cX5_envoysGo 43 = .ok (.istore_n 1, 1) := by decide +kernel
theorem dX5_envoysGo_44 : decode cX5_envoysGo 44 = .ok (.iinc 2 1, 3) := by decide +kernel
theorem dX5_envoysGo_47 : decode cX5_envoysGo 47 = .ok (.goto (-40), 3) := by decide +kernel
theorem dX5_envoysGo_50 : decode cX5_envoysGo 50 = .ok (.return_, 1) := by decide +kernel
set_option maxRecDepth 20000 in
theorem ggX5_leaveInAnger_X5_get : GoodIn wsX5_leaveInAnger wsX5_get := goodIn_r _ [7, 1, 24, 25, 26, 27, 28, 29, 30, 31, 32, 33, 34, 35, 36, 37, 38, 39, 40, 41] (by decide +kernel) (by decide +kernel)
set_option maxRecDepth 20000 in
theorem gX5_leaveInAnger_X5_get : GoodIn wsX5_leaveInAnger (wsV RX5 39 RX5 yX5_get wsX5_get) := goodIn_app (goodIn_of _ (by decide +kernel)) ggX5_leaveInAnger_X5_get
set_option maxRecDepth 20000 in
theorem ggX5_leaveInAnger_X5_isSlightedAt : GoodIn wsX5_leaveInAnger wsX5_isSlightedAt := goodIn_r _ [11, 1, 12, 13, 14, 6, 15, 3, 4, 5, 7, 24, 25, 26, 27, 28, 29, 30, 31, 32, 33, 34, 35, 36, 37, 38, 39, 40, 41] (by decide +kernel) (by decide +kernel)
set_option maxRecDepth 20000 in
theorem gX5_leaveInAnger_X5_isSlightedAt : GoodIn wsX5_leaveInAnger (wsV RX5 63 RX5 yX5_isSlightedAt wsX5_isSlightedAt) := goodIn_app (goodIn_of _ (by decide +kernel)) ggX5_leaveInAnger_X5_isSlightedAt
set_option maxRecDepth 20000 in
theorem ggX5_leaveInAnger_X5_lays : GoodIn wsX5_leaveInAnger wsX5_lays := goodIn_r _ [19, 1, 24, 25, 26, 27, 28, 29, 30, 31, 32, 33, 34, 35, 36, 37, 38, 39, 40, 41] (by decide +kernel) (by decide +kernel)
set_option maxRecDepth 20000 in
theorem gX5_leaveInAnger_X5_lays : GoodIn wsX5_leaveInAnger (wsV RX5 66 RX5 yX5_lays wsX5_lays) := goodIn_app (goodIn_of _ (by decide +kernel)) ggX5_leaveInAnger_X5_lays
set_option maxRecDepth 20000 in
theorem ggX5_leaveInAnger_X5_takesOff : GoodIn wsX5_leaveInAnger wsX5_takesOff := goodIn_r _ [23, 1, 24, 25, 26, 27, 28, 29, 30, 31, 32, 33, 34, 35, 36, 37, 38, 39, 40, 41] (by decide +kernel) (by decide +kernel)
set_option maxRecDepth 20000 in
theorem gX5_leaveInAnger_X5_takesOff : GoodIn wsX5_leaveInAnger (wsV RX5 70 RX5 yX5_takesOff wsX5_takesOff) := goodIn_app (goodIn_of _ (by decide +kernel)) ggX5_leaveInAnger_X5_takesOff
theorem dX5_leaveInAnger_0 : decode cX5_leaveInAnger 0 = .ok (.iconst 0, 1) := by decide +kernel
theorem dX5_leaveInAnger_1 : decode cX5_leaveInAnger 1 = .ok (.istore_n 1, 1) := by decide +kernel
theorem dX5_leaveInAnger_2 : decode cX5_leaveInAnger 2 = .ok (.iconst 0, 1) := by decide +kernel
theorem dX5_leaveInAnger_3 : decode cX5_leaveInAnger 3 = .ok (.istore_n 2, 1) := by decide +kernel
theorem dX5_leaveInAnger_4 : decode cX5_leaveInAnger 4 = .ok (.iload_n 2, 1) := by decide +kernel
theorem dX5_leaveInAnger_5 : decode cX5_leaveInAnger 5 = .ok (.aload_n 0, 1) := by decide +kernel
theorem dX5_leaveInAnger_6 : decode cX5_leaveInAnger 6 = .ok (.getfield 7, 3) := by decide +kernel
theorem dX5_leaveInAnger_9 : decode cX5_leaveInAnger 9 = .ok (.bipush 11, 2) := by decide +kernel
theorem dX5_leaveInAnger_11 : decode cX5_leaveInAnger 11 = .ok (.iaload, 1) := by decide +kernel
theorem dX5_leaveInAnger_12 : decode cX5_leaveInAnger 12 = .ok (.if_icmp .ge 51, 3) := by decide +kernel
theorem dX5_leaveInAnger_15 : decode cX5_leaveInAnger 15 = .ok (.aload_n 0, 1) := by decide +kernel
theorem dX5_leaveInAnger_16 : decode cX5_leaveInAnger 16 = .ok (.getfield 25, 3) := by decide +kernel
theorem dX5_leaveInAnger_19 : decode cX5_leaveInAnger 19 = .ok (.iload_n 2, 1) := by decide +kernel
theorem dX5_leaveInAnger_20 : decode cX5_leaveInAnger 20 = .ok (.aload_n 0, 1) := by decide +kernel
theorem dX5_leaveInAnger_21 : decode cX5_leaveInAnger 21 = .ok (.aload_n 0, 1) := by decide +kernel
theorem dX5_leaveInAnger_22 : decode cX5_leaveInAnger 22 = .ok (.getfield 7, 3) := by decide +kernel
theorem dX5_leaveInAnger_25 : decode cX5_leaveInAnger 25 = .ok (.bipush 12, 2) := by decide +kernel
theorem dX5_leaveInAnger_27 : decode cX5_leaveInAnger 27 = .ok (.iload_n 2, 1) := by decide +kernel
theorem dX5_leaveInAnger_28 : decode cX5_leaveInAnger 28 = .ok (.iadd, 1) := by decide +kernel
theorem dX5_leaveInAnger_29 : decode cX5_leaveInAnger 29 = .ok (.iaload, 1) := by decide +kernel
theorem dX5_leaveInAnger_30 : decode cX5_leaveInAnger 30 = .ok (.iconst 5, 1) := by decide +kernel
theorem dX5_leaveInAnger_31 : decode cX5_leaveInAnger 31 = .ok (.invokevirtual 39, 3) := by decide +kernel
theorem dX5_leaveInAnger_34 : decode cX5_leaveInAnger 34 = .ok (.aload_n 0, 1) := by decide +kernel
theorem dX5_leaveInAnger_35 : decode cX5_leaveInAnger 35 = .ok (.getfield 7, 3) := by decide +kernel
theorem dX5_leaveInAnger_38 : decode cX5_leaveInAnger 38 = .ok (.iconst 3, 1) := by decide +kernel
theorem dX5_leaveInAnger_39 : decode cX5_leaveInAnger 39 = .ok (.iaload, 1) := by decide +kernel
theorem dX5_leaveInAnger_40 : decode cX5_leaveInAnger 40 = .ok (.if_icmp .lt 15, 3) := by decide +kernel
theorem dX5_leaveInAnger_43 : decode cX5_leaveInAnger 43 = .ok (.aload_n 0, 1) := by decide +kernel
theorem dX5_leaveInAnger_44 : decode cX5_leaveInAnger 44 = .ok (.iload_n 2, 1) := by decide +kernel
theorem dX5_leaveInAnger_45 : decode cX5_leaveInAnger 45 = .ok (.invokevirtual 63, 3) := by decide +kernel
theorem dX5_leaveInAnger_48 : decode cX5_leaveInAnger 48 = .ok (.ifCond .eq 7, 3) := by decide +kernel
theorem dX5_leaveInAnger_51 : decode cX5_leaveInAnger 51 = .ok (.iconst 1, 1) := by decide +kernel
theorem dX5_leaveInAnger_52 : decode cX5_leaveInAnger 52 = .ok (.goto 4, 3) := by decide +kernel
theorem dX5_leaveInAnger_55 : decode cX5_leaveInAnger 55 = .ok (.iconst 0, 1) := by decide +kernel
theorem dX5_leaveInAnger_56 : decode cX5_leaveInAnger 56 = .ok (.iastore, 1) := by decide +kernel
theorem dX5_leaveInAnger_57 : decode cX5_leaveInAnger 57 = .ok (.iinc 2 1, 3) := by decide +kernel
theorem dX5_leaveInAnger_60 : decode cX5_leaveInAnger 60 = .ok (.goto (-56), 3) := by decide +kernel
theorem dX5_leaveInAnger_63 : decode cX5_leaveInAnger 63 = .ok (.aload_n 0, 1) := by decide +kernel
theorem dX5_leaveInAnger_64 : decode cX5_leaveInAnger 64 = .ok (.getfield 7, 3) := by decide +kernel
theorem dX5_leaveInAnger_67 : decode cX5_leaveInAnger 67 = .ok (.bipush 11, 2) := by decide +kernel
theorem dX5_leaveInAnger_69 : decode cX5_leaveInAnger 69 = .ok (.iaload, 1) := by decide +kernel
theorem dX5_leaveInAnger_70 : decode cX5_leaveInAnger 70 = .ok (.iconst 1, 1) := by decide +kernel
theorem dX5_leaveInAnger_71 : decode cX5_leaveInAnger 71 = .ok (.isub, 1) := by decide +kernel
theorem dX5_leaveInAnger_72 : decode cX5_leaveInAnger 72 = .ok (.istore_n 2, 1) := by decide +kernel
theorem dX5_leaveInAnger_73 : decode cX5_leaveInAnger 73 = .ok (.iload_n 2, 1) := by decide +kernel
theorem dX5_leaveInAnger_74 : decode cX5_leaveInAnger 74 = .ok (.ifCond .lt 56, 3) := by decide +kernel
theorem dX5_leaveInAnger_77 : decode cX5_leaveInAnger 77 = .ok (.aload_n 0, 1) := by decide +kernel
theorem dX5_leaveInAnger_78 : decode cX5_leaveInAnger 78 = .ok (.getfield 25, 3) := by decide +kernel
theorem dX5_leaveInAnger_81 : decode cX5_leaveInAnger 81 = .ok (.iload_n 2, 1) := by decide +kernel
theorem dX5_leaveInAnger_82 : decode cX5_leaveInAnger 82 = .ok (.iaload, 1) := by decide +kernel
theorem dX5_leaveInAnger_83 : decode cX5_leaveInAnger 83 = .ok (.iconst 1, 1) := by decide +kernel
theorem dX5_leaveInAnger_84 : decode cX5_leaveInAnger 84 = .ok (.if_icmp .ne 40, 3) := by decide +kernel
theorem dX5_leaveInAnger_87 : decode cX5_leaveInAnger 87 = .ok (.aload_n 0, 1) := by decide +kernel
theorem dX5_leaveInAnger_88 : decode cX5_leaveInAnger 88 = .ok (.getfield 7, 3) := by decide +kernel
theorem dX5_leaveInAnger_91 : decode cX5_leaveInAnger 91 = .ok (.bipush 12, 2) := by decide +kernel
theorem dX5_leaveInAnger_93 : decode cX5_leaveInAnger 93 = .ok (.iload_n 2, 1) := by decide +kernel
theorem dX5_leaveInAnger_94 : decode cX5_leaveInAnger 94 = .ok (.iadd, 1) := by decide +kernel
theorem dX5_leaveInAnger_95 : decode cX5_leaveInAnger 95 = .ok (.iaload, 1) := by decide +kernel
theorem dX5_leaveInAnger_96 : decode cX5_leaveInAnger 96 = .ok (.istore_n 3, 1) := by decide +kernel
theorem dX5_leaveInAnger_97 : decode cX5_leaveInAnger 97 = .ok (.aload_n 0, 1) := by decide +kernel
theorem dX5_leaveInAnger_98 : decode cX5_leaveInAnger 98 = .ok (.iload_n 3, 1) := by decide +kernel
theorem dX5_leaveInAnger_99 : decode cX5_leaveInAnger 99 = .ok (.iconst 3, 1) := by decide +kernel
theorem dX5_leaveInAnger_100 : decode cX5_leaveInAnger 100 = .ok (.iconst 3, 1) := by decide +kernel
theorem dX5_leaveInAnger_101 : decode cX5_leaveInAnger 101 = .ok (.invokevirtual 66, 3) := by decide +kernel
theorem dX5_leaveInAnger_104 : decode cX5_leaveInAnger 104 = .ok (.aload_n 0, 1) := by decide +kernel
theorem dX5_leaveInAnger_105 : decode cX5_leaveInAnger 105 = .ok (.iload_n 3, 1) := by decide +kernel
theorem dX5_leaveInAnger_106 : decode cX5_leaveInAnger 106 = .ok (.bipush 6, 2) := by decide +kernel
theorem dX5_leaveInAnger_108 : decode cX5_leaveInAnger 108 = .ok (.iconst 1, 1) := by decide +kernel
theorem dX5_leaveInAnger_109 : decode cX5_leaveInAnger 109 = .ok (.invokevirtual 66, 3) := by decide +kernel
theorem dX5_leaveInAnger_112 : decode cX5_leaveInAnger 112 = .ok (.aload_n 0, 1) := by decide +kernel
theorem dX5_leaveInAnger_113 : decode cX5_leaveInAnger 113 = .ok (.bipush 12, 2) := by decide +kernel
theorem dX5_leaveInAnger_115 : decode cX5_leaveInAnger 115 = .ok (.bipush 11, 2) := by decide +kernel
theorem dX5_leaveInAnger_117 : decode cX5_leaveInAnger 117 = .ok (.iload_n 2, 1) := by decide +kernel
theorem dX5_leaveInAnger_118 : decode cX5_leaveInAnger 118 = .ok (.invokevirtual 70, 3) := by decide +kernel
theorem dX5_leaveInAnger_121 : decode cX5_leaveInAnger 121 = .ok (.iinc 1 1, 3) := by decide +kernel
theorem dX5_leaveInAnger_124 : decode cX5_leaveInAnger 124 = .ok (.iinc 2 (-1), 3) := by decide +kernel
theorem dX5_leaveInAnger_127 : decode cX5_leaveInAnger 127 = .ok (.goto (-54), 3) := by decide +kernel
theorem dX5_leaveInAnger_130 : decode cX5_leaveInAnger 130 = .ok (.aload_n 0, 1) := by decide +kernel
theorem dX5_leaveInAnger_131 : decode cX5_leaveInAnger 131 = .ok (.getfield 7, 3) := by decide +kernel
theorem dX5_leaveInAnger_134 : decode cX5_leaveInAnger 134 = .ok (.bipush 6, 2) := by decide +kernel
theorem dX5_leaveInAnger_136 : decode cX5_leaveInAnger 136 = .ok (.dup2, 1) := by decide +kernel
theorem dX5_leaveInAnger_137 : decode cX5_leaveInAnger 137 = .ok (.iaload, 1) := by decide +kernel
theorem dX5_leaveInAnger_138 : decode cX5_leaveInAnger 138 = .ok (.iload_n 1, 1) := by decide +kernel
theorem dX5_leaveInAnger_139 : decode cX5_leaveInAnger 139 = .ok (.iadd, 1) := by decide +kernel
theorem dX5_leaveInAnger_140 : decode cX5_leaveInAnger 140 = .ok (.iastore, 1) := by decide +kernel
theorem dX5_leaveInAnger_141 : decode cX5_leaveInAnger 141 = .ok (.iload_n 1, 1) := by decide +kernel
theorem dX5_leaveInAnger_142 : decode cX5_leaveInAnger 142 = .ok (.ireturn, 1) := by decide +kernel
set_option maxRecDepth 20000 in
theorem ggX5_rounds_X5_more : GoodIn wsX5_rounds wsX5_more := goodIn_r _ [6, 1, 48, 49, 50, 51, 52, 53, 54, 55, 56, 57, 58, 59, 60, 61, 62, 63, 64, 65] (by decide +kernel) (by decide +kernel)
set_option maxRecDepth 20000 in
theorem gX5_rounds_X5_more : GoodIn wsX5_rounds (wsV RX5 73 RX5 yX5_more wsX5_more) := goodIn_app (goodIn_of _ (by decide +kernel)) ggX5_rounds_X5_more
set_option maxRecDepth 20000 in
theorem ggX5_rounds_X5_isSlightedAt : GoodIn wsX5_rounds wsX5_isSlightedAt := goodIn_r _ [10, 1, 11, 12, 13, 5, 14, 15, 16, 17, 18, 48, 49, 50, 51, 52, 53, 54, 55, 56, 57, 58, 59, 60, 61, 62, 63, 64, 65] (by decide +kernel) (by decide +kernel)
set_option maxRecDepth 20000 in
theorem gX5_rounds_X5_isSlightedAt : GoodIn wsX5_rounds (wsV RX5 63 RX5 yX5_isSlightedAt wsX5_isSlightedAt) := goodIn_app (goodIn_of _ (by decide +kernel)) ggX5_rounds_X5_isSlightedAt
set_option maxRecDepth 20000 in
theorem ggX5_rounds_X5_envoysGo : GoodIn wsX5_rounds wsX5_envoysGo := goodIn_r _ [22, 1, 23, 24, 25, 5, 26, 27, 28, 29, 30, 11, 12, 13, 14, 15, 16, 17, 18, 31, 32, 33, 34, 48, 49, 50, 51, 52, 53, 54, 55, 56, 57, 58, 59, 60, 61, 62, 63, 64, 65] (by decide +kernel) (by decide +kernel)
set_option maxRecDepth 20000 in
theorem gX5_rounds_X5_envoysGo : GoodIn wsX5_rounds (wsV RX5 77 RX5 yX5_envoysGo wsX5_envoysGo) := goodIn_app (goodIn_of _ (by decide +kernel)) ggX5_rounds_X5_envoysGo
set_option maxRecDepth 20000 in
theorem ggX5_rounds_X5_leaveInAnger : GoodIn wsX5_rounds wsX5_leaveInAnger := goodIn_r _ [38, 1, 39, 15, 16, 17, 5, 18, 7, 8, 9, 10, 11, 12, 13, 14, 40, 41, 42, 43, 44, 45, 46, 47, 48, 49, 50, 51, 52, 53, 54, 55, 56, 57, 58, 59, 60, 61, 62, 63, 64, 65] (by decide +kernel) (by decide +kernel)
set_option maxRecDepth 20000 in
theorem gX5_rounds_X5_leaveInAnger : GoodIn wsX5_rounds (wsV RX5 80 RX5 yX5_leaveInAnger wsX5_leaveInAnger) := goodIn_app (goodIn_of _ (by decide +kernel)) ggX5_rounds_X5_leaveInAnger
theorem dX5_rounds_0 : decode cX5_rounds 0 = .ok (.aload_n 0, 1) := by decide +kernel
theorem dX5_rounds_1 : decode cX5_rounds 1 = .ok (.getfield 7, 3) := by decide +kernel
theorem dX5_rounds_4 : decode cX5_rounds 4 = .ok (.bipush 7, 2) := by decide +kernel
theorem dX5_rounds_6 : decode cX5_rounds 6 = .ok (.dup2, 1) := by decide +kernel
theorem dX5_rounds_7 : decode cX5_rounds 7 = .ok (.iaload, 1) := by decide +kernel
theorem dX5_rounds_8 : decode cX5_rounds 8 = .ok (.iconst 1, 1) := by decide +kernel
theorem dX5_rounds_9 : decode cX5_rounds 9 = .ok (.iadd, 1) := by decide +kernel
theorem dX5_rounds_10 : decode cX5_rounds 10 = .ok (.iastore, 1) := by decide +kernel
theorem dX5_rounds_11 : decode cX5_rounds 11 = .ok (.iconst 0, 1) := by decide +kernel
theorem dX5_rounds_12 : decode cX5_rounds 12 = .ok (.istore_n 1, 1) := by decide +kernel
theorem dX5_rounds_13 : decode cX5_rounds 13 = .ok (.iload_n 1, 1) := by decide +kernel
theorem dX5_rounds_14 : decode cX5_rounds 14 = .ok (.aload_n 0, 1) := by decide +kernel
theorem dX5_rounds_15 : decode cX5_rounds 15 = .ok (.getfield 7, 3) := by decide +kernel
theorem dX5_rounds_18 : decode cX5_rounds 18 = .ok (.bipush 11, 2) := by decide +kernel
theorem dX5_rounds_20 : decode cX5_rounds 20 = .ok (.iaload, 1) := by decide +kernel
theorem dX5_rounds_21 : decode cX5_rounds 21 = .ok (.if_icmp .ge 67, 3) := by decide +kernel
theorem dX5_rounds_24 : decode cX5_rounds 24 = .ok (.aload_n 0, 1) := by decide +kernel
theorem dX5_rounds_25 : decode cX5_rounds 25 = .ok (.aload_n 0, 1) := by decide +kernel
theorem dX5_rounds_26 : decode cX5_rounds 26 = .ok (.getfield 7, 3) := by decide +kernel
theorem dX5_rounds_29 : decode cX5_rounds 29 = .ok (.bipush 12, 2) := by decide +kernel
theorem dX5_rounds_31 : decode cX5_rounds 31 = .ok (.iload_n 1, 1) := by decide +kernel
theorem dX5_rounds_32 : decode cX5_rounds 32 = .ok (.iadd, 1) := by decide +kernel
theorem dX5_rounds_33 : decode cX5_rounds 33 = .ok (.iaload, 1) := by decide +kernel
theorem dX5_rounds_34 : decode cX5_rounds 34 = .ok (.iconst 4, 1) := by decide +kernel
theorem dX5_rounds_35 : decode cX5_rounds 35 = .ok (.invokevirtual 73, 3) := by decide +kernel
theorem dX5_rounds_38 : decode cX5_rounds 38 = .ok (.aload_n 0, 1) := by decide +kernel
theorem dX5_rounds_39 : decode cX5_rounds 39 = .ok (.getfield 7, 3) := by decide +kernel
theorem dX5_rounds_42 : decode cX5_rounds 42 = .ok (.bipush 8, 2) := by decide +kernel
theorem dX5_rounds_44 : decode cX5_rounds 44 = .ok (.dup2, 1) := by decide +kernel
theorem dX5_rounds_45 : decode cX5_rounds 45 = .ok (.iaload, 1) := by decide +kernel
theorem dX5_rounds_46 : decode cX5_rounds 46 = .ok (.iconst 1, 1) := by decide +kernel
theorem dX5_rounds_47 : decode cX5_rounds 47 = .ok (.iadd, 1) := by decide +kernel
theorem dX5_rounds_48 : decode cX5_rounds 48 = .ok (.iastore, 1) := by decide +kernel
theorem dX5_rounds_49 : decode cX5_rounds 49 = .ok (.aload_n 0, 1) := by decide +kernel
theorem dX5_rounds_50 : decode cX5_rounds 50 = .ok (.iload_n 1, 1) := by decide +kernel
theorem dX5_rounds_51 : decode cX5_rounds 51 = .ok (.invokevirtual 63, 3) := by decide +kernel
theorem dX5_rounds_54 : decode cX5_rounds 54 = .ok (.ifCond .eq 28, 3) := by decide +kernel
theorem dX5_rounds_57 : decode cX5_rounds 57 = .ok (.aload_n 0, 1) := by decide +kernel
theorem dX5_rounds_58 : decode cX5_rounds 58 = .ok (.aload_n 0, 1) := by decide +kernel
theorem dX5_rounds_59 : decode cX5_rounds 59 = .ok (.getfield 7, 3) := by decide +kernel
theorem dX5_rounds_62 : decode cX5_rounds 62 = .ok (.bipush 12, 2) := by decide +kernel
theorem dX5_rounds_64 : decode cX5_rounds 64 = .ok (.iload_n 1, 1) := by decide +kernel
theorem dX5_rounds_65 : decode cX5_rounds 65 = .ok (.iadd, 1) := by decide +kernel
theorem dX5_rounds_66 : decode cX5_rounds 66 = .ok (.iaload, 1) := by decide +kernel
theorem dX5_rounds_67 : decode cX5_rounds 67 = .ok (.iconst 5, 1) := by decide +kernel
theorem dX5_rounds_68 : decode cX5_rounds 68 = .ok (.invokevirtual 73, 3) := by decide +kernel
theorem dX5_rounds_71 : decode cX5_rounds 71 = .ok (.aload_n 0, 1) := by decide +kernel
theorem dX5_rounds_72 : decode cX5_rounds 72 = .ok (.getfield 7, 3) := by decide +kernel
theorem dX5_rounds_75 : decode cX5_rounds 75 = .ok (.bipush 9, 2) := by decide +kernel
theorem dX5_rounds_77 : decode cX5_rounds 77 = .ok (.dup2, 1) := by decide +kernel
theorem dX5_rounds_78 : decode cX5_rounds 78 = .ok (.iaload, 1) := by decide +kernel
theorem dX5_rounds_79 : decode cX5_rounds 79 = .ok (.iconst 1, 1) := by decide +kernel
theorem dX5_rounds_80 : decode cX5_rounds 80 = .ok (.iadd, 1) := by decide +kernel
theorem dX5_rounds_81 : decode cX5_rounds 81 = .ok (.iastore, 1) := by decide +kernel
theorem dX5_rounds_82 : decode cX5_rounds 82 = .ok (.iinc 1 1, 3) := by decide +kernel
theorem dX5_rounds_85 : decode cX5_rounds 85 = .ok (.goto (-72), 3) := by decide +kernel
theorem dX5_rounds_88 : decode cX5_rounds 88 = .ok (.aload_n 0, 1) := by decide +kernel
theorem dX5_rounds_89 : decode cX5_rounds 89 = .ok (.invokevirtual 77, 3) := by decide +kernel
theorem dX5_rounds_92 : decode cX5_rounds 92 = .ok (.aload_n 0, 1) := by decide +kernel
theorem dX5_rounds_93 : decode cX5_rounds 93 = .ok (.invokevirtual 80, 3) := by decide +kernel
theorem dX5_rounds_96 : decode cX5_rounds 96 = .ok (.ireturn, 1) := by decide +kernel
set_option maxRecDepth 20000 in
theorem ggX5_nextIn_X5_get : GoodIn wsX5_nextIn wsX5_get := goodIn_r _ [6, 1, 11, 12, 13, 14, 15, 16, 17, 18, 19, 20, 21, 22, 23, 24, 25, 26, 27, 28] (by decide +kernel) (by decide +kernel)
set_option maxRecDepth 20000 in
theorem gX5_nextIn_X5_get : GoodIn wsX5_nextIn (wsV RX5 39 RX5 yX5_get wsX5_get) := goodIn_app (goodIn_of _ (by decide +kernel)) ggX5_nextIn_X5_get
set_option maxRecDepth 20000 in
theorem ggX5_nextIn_X5_isGreater : GoodIn wsX5_nextIn wsX5_isGreater := goodIn_r _ [10, 2, 3, 4, 5, 6, 1, 11, 12, 13, 14, 15, 16, 17, 18, 19, 20, 21, 22, 23, 24, 25, 26, 27, 28] (by decide +kernel) (by decide +kernel)
set_option maxRecDepth 20000 in
theorem gX5_nextIn_X5_isGreater : GoodIn wsX5_nextIn (wsV RX5 47 RX5 yX5_isGreater wsX5_isGreater) := goodIn_app (goodIn_of _ (by decide +kernel)) ggX5_nextIn_X5_isGreater
theorem dX5_nextIn_0 : decode cX5_nextIn 0 = .ok (.bipush (-5), 2) := by decide +kernel
theorem dX5_nextIn_2 : decode cX5_nextIn 2 = .ok (.istore_n 1, 1) := by decide +kernel
theorem dX5_nextIn_3 : decode cX5_nextIn 3 = .ok (.iconst 0, 1) := by decide +kernel
theorem dX5_nextIn_4 : decode cX5_nextIn 4 = .ok (.istore_n 2, 1) := by decide +kernel
theorem dX5_nextIn_5 : decode cX5_nextIn 5 = .ok (.iload_n 2, 1) := by decide +kernel
theorem dX5_nextIn_6 : decode cX5_nextIn 6 = .ok (.aload_n 0, 1) := by decide +kernel
theorem dX5_nextIn_7 : decode cX5_nextIn 7 = .ok (.getfield 7, 3) := by decide +kernel
theorem dX5_nextIn_10 : decode cX5_nextIn 10 = .ok (.iconst 5, 1) := by decide +kernel
theorem dX5_nextIn_11 : decode cX5_nextIn 11 = .ok (.iaload, 1) := by decide +kernel
theorem dX5_nextIn_12 : decode cX5_nextIn 12 = .ok (.if_icmp .ge 64, 3) := by decide +kernel
theorem dX5_nextIn_15 : decode cX5_nextIn 15 = .ok (.aload_n 0, 1) := by decide +kernel
theorem dX5_nextIn_16 : decode cX5_nextIn 16 = .ok (.iload_n 2, 1) := by decide +kernel
theorem dX5_nextIn_17 : decode cX5_nextIn 17 = .ok (.iconst 3, 1) := by decide +kernel
theorem dX5_nextIn_18 : decode cX5_nextIn 18 = .ok (.invokevirtual 39, 3) := by decide +kernel
theorem dX5_nextIn_21 : decode cX5_nextIn 21 = .ok (.ifCond .ne 22, 3) := by decide +kernel
theorem dX5_nextIn_24 : decode cX5_nextIn 24 = .ok (.aload_n 0, 1) := by decide +kernel
theorem dX5_nextIn_25 : decode cX5_nextIn 25 = .ok (.iload_n 2, 1) := by decide +kernel
theorem dX5_nextIn_26 : decode cX5_nextIn 26 = .ok (.iconst 2, 1) := by decide +kernel
theorem dX5_nextIn_27 : decode cX5_nextIn 27 = .ok (.invokevirtual 39, 3) := by decide +kernel
theorem dX5_nextIn_30 : decode cX5_nextIn 30 = .ok (.aload_n 0, 1) := by decide +kernel
theorem dX5_nextIn_31 : decode cX5_nextIn 31 = .ok (.getfield 7, 3) := by decide +kernel
theorem dX5_nextIn_34 : decode cX5_nextIn 34 = .ok (.iconst 4, 1) := by decide +kernel
theorem dX5_nextIn_35 : decode cX5_nextIn 35 = .ok (.iaload, 1) := by decide +kernel
theorem dX5_nextIn_36 : decode cX5_nextIn 36 = .ok (.if_icmp .ne 7, 3) := by decide +kernel
theorem dX5_nextIn_39 : decode cX5_nextIn 39 = .ok (.iconst 1, 1) := by decide +kernel
theorem dX5_nextIn_40 : decode cX5_nextIn 40 = .ok (.goto 4, 3) := by decide +kernel
theorem dX5_nextIn_43 : decode cX5_nextIn 43 = .ok (.iconst 0, 1) := by decide +kernel
theorem dX5_nextIn_44 : decode cX5_nextIn 44 = .ok (.istore_n 3, 1) := by decide +kernel
theorem dX5_nextIn_45 : decode cX5_nextIn 45 = .ok (.iload_n 3, 1) := by decide +kernel
theorem dX5_nextIn_46 : decode cX5_nextIn 46 = .ok (.ifCond .eq 22, 3) := by decide +kernel
theorem dX5_nextIn_49 : decode cX5_nextIn 49 = .ok (.iload_n 1, 1) := by decide +kernel
theorem dX5_nextIn_50 : decode cX5_nextIn 50 = .ok (.bipush (-5), 2) := by decide +kernel
theorem dX5_nextIn_52 : decode cX5_nextIn 52 = .ok (.if_icmp .eq 12, 3) := by decide +kernel
theorem dX5_nextIn_55 : decode cX5_nextIn 55 = .ok (.aload_n 0, 1) := by decide +kernel
theorem dX5_nextIn_56 : decode cX5_nextIn 56 = .ok (.iload_n 2, 1) := by decide +kernel
theorem dX5_nextIn_57 : decode cX5_nextIn 57 = .ok (.iload_n 1, 1) := by decide +kernel
theorem dX5_nextIn_58 : decode cX5_nextIn 58 = .ok (.invokevirtual 47, 3) := by decide +kernel
theorem dX5_nextIn_61 : decode cX5_nextIn 61 = .ok (.ifCond .eq 7, 3) := by decide +kernel
theorem dX5_nextIn_64 : decode cX5_nextIn 64 = .ok (.iload_n 2, 1) := by decide +kernel
theorem dX5_nextIn_65 : decode cX5_nextIn 65 = .ok (.goto 4, 3) := by decide +kernel
theorem dX5_nextIn_68 : decode cX5_nextIn 68 = .ok (.iload_n 1, 1) := by decide +kernel
theorem dX5_nextIn_69 : decode cX5_nextIn 69 = .ok (.istore_n 1, 1) := by decide +kernel
theorem dX5_nextIn_70 : decode cX5_nextIn 70 = .ok (.iinc 2 1, 3) := by decide +kernel
theorem dX5_nextIn_73 : decode cX5_nextIn 73 = .ok (.goto (-68), 3) := by decide +kernel
theorem dX5_nextIn_76 : decode cX5_nextIn 76 = .ok (.iload_n 1, 1) := by decide +kernel
theorem dX5_nextIn_77 : decode cX5_nextIn 77 = .ok (.ireturn, 1) := by decide +kernel
set_option maxRecDepth 20000 in
theorem ggX5_arrive_X5_nextIn : GoodIn wsX5_arrive wsX5_nextIn := goodIn_r _ [6, 1, 7, 8, 9, 5, 10, 11, 12, 13, 14, 19, 20, 21, 22, 23, 24, 25, 26, 27, 28, 29, 30, 31, 32, 33, 34, 35, 36] (by decide +kernel) (by decide +kernel)
set_option maxRecDepth 20000 in
theorem gX5_arrive_X5_nextIn : GoodIn wsX5_arrive (wsV RX5 83 RX5 yX5_nextIn wsX5_nextIn) := goodIn_app (goodIn_of _ (by decide +kernel)) ggX5_arrive_X5_nextIn
set_option maxRecDepth 20000 in
theorem ggX5_arrive_X5_lays : GoodIn wsX5_arrive wsX5_lays := goodIn_r _ [18, 1, 19, 20, 21, 22, 23, 24, 25, 26, 27, 28, 29, 30, 31, 32, 33, 34, 35, 36] (by decide +kernel) (by decide +kernel)
set_option maxRecDepth 20000 in
theorem gX5_arrive_X5_lays : GoodIn wsX5_arrive (wsV RX5 66 RX5 yX5_lays wsX5_lays) := goodIn_app (goodIn_of _ (by decide +kernel)) ggX5_arrive_X5_lays
theorem dX5_arrive_0 : decode cX5_arrive 0 = .ok (.aload_n 0, 1) := by decide +kernel
theorem dX5_arrive_1 : decode cX5_arrive 1 = .ok (.invokevirtual 83, 3) := by decide +kernel
theorem dX5_arrive_4 : decode cX5_arrive 4 = .ok (.istore_n 1, 1) := by decide +kernel
theorem dX5_arrive_5 : decode cX5_arrive 5 = .ok (.iload_n 1, 1) := by decide +kernel
theorem dX5_arrive_6 : decode cX5_arrive 6 = .ok (.bipush (-5), 2) := by decide +kernel
theorem dX5_arrive_8 : decode cX5_arrive 8 = .ok (.if_icmp .eq 45, 3) := by decide +kernel
theorem dX5_arrive_11 : decode cX5_arrive 11 = .ok (.aload_n 0, 1) := by decide +kernel
theorem dX5_arrive_12 : decode cX5_arrive 12 = .ok (.iload_n 1, 1) := by decide +kernel
theorem dX5_arrive_13 : decode cX5_arrive 13 = .ok (.iconst 3, 1) := by decide +kernel
theorem dX5_arrive_14 : decode cX5_arrive 14 = .ok (.iconst 1, 1) := by decide +kernel
theorem dX5_arrive_15 : decode cX5_arrive 15 = .ok (.invokevirtual 66, 3) := by decide +kernel
theorem dX5_arrive_18 : decode cX5_arrive 18 = .ok (.aload_n 0, 1) := by decide +kernel
theorem dX5_arrive_19 : decode cX5_arrive 19 = .ok (.getfield 7, 3) := by decide +kernel
theorem dX5_arrive_22 : decode cX5_arrive 22 = .ok (.bipush 25, 2) := by decide +kernel
theorem dX5_arrive_24 : decode cX5_arrive 24 = .ok (.aload_n 0, 1) := by decide +kernel
theorem dX5_arrive_25 : decode cX5_arrive 25 = .ok (.getfield 7, 3) := by decide +kernel
theorem dX5_arrive_28 : decode cX5_arrive 28 = .ok (.bipush 24, 2) := by decide +kernel
theorem dX5_arrive_30 : decode cX5_arrive 30 = .ok (.iaload, 1) := by decide +kernel
theorem dX5_arrive_31 : decode cX5_arrive 31 = .ok (.iadd, 1) := by decide +kernel
theorem dX5_arrive_32 : decode cX5_arrive 32 = .ok (.iload_n 1, 1) := by decide +kernel
theorem dX5_arrive_33 : decode cX5_arrive 33 = .ok (.iastore, 1) := by decide +kernel
theorem dX5_arrive_34 : decode cX5_arrive 34 = .ok (.aload_n 0, 1) := by decide +kernel
theorem dX5_arrive_35 : decode cX5_arrive 35 = .ok (.getfield 7, 3) := by decide +kernel
theorem dX5_arrive_38 : decode cX5_arrive 38 = .ok (.bipush 24, 2) := by decide +kernel
theorem dX5_arrive_40 : decode cX5_arrive 40 = .ok (.dup2, 1) := by decide +kernel
theorem dX5_arrive_41 : decode cX5_arrive 41 = .ok (.iaload, 1) := by decide +kernel
theorem dX5_arrive_42 : decode cX5_arrive 42 = .ok (.iconst 1, 1) := by decide +kernel
theorem dX5_arrive_43 : decode cX5_arrive 43 = .ok (.iadd, 1) := by decide +kernel
theorem dX5_arrive_44 : decode cX5_arrive 44 = .ok (.iastore, 1) := by decide +kernel
theorem dX5_arrive_45 : decode cX5_arrive 45 = .ok (.aload_n 0, 1) := by decide +kernel
theorem dX5_arrive_46 : decode cX5_arrive 46 = .ok (.invokevirtual 83, 3) := by decide +kernel
theorem dX5_arrive_49 : decode cX5_arrive 49 = .ok (.istore_n 1, 1) := by decide +kernel
theorem dX5_arrive_50 : decode cX5_arrive 50 = .ok (.goto (-45), 3) := by decide +kernel
theorem dX5_arrive_53 : decode cX5_arrive 53 = .ok (.return_, 1) := by decide +kernel
set_option maxRecDepth 20000 in
theorem ggX5_sitDown_X5_takesOff : GoodIn wsX5_sitDown wsX5_takesOff := goodIn_r _ [6, 1, 11, 12, 13, 14, 15, 16, 17, 18, 19, 20, 21, 22, 23, 24, 25, 26, 27, 28] (by decide +kernel) (by decide +kernel)
set_option maxRecDepth 20000 in
theorem gX5_sitDown_X5_takesOff : GoodIn wsX5_sitDown (wsV RX5 70 RX5 yX5_takesOff wsX5_takesOff) := goodIn_app (goodIn_of _ (by decide +kernel)) ggX5_sitDown_X5_takesOff
set_option maxRecDepth 20000 in
theorem ggX5_sitDown_X5_lays : GoodIn wsX5_sitDown wsX5_lays := goodIn_r _ [10, 1, 11, 12, 13, 14, 15, 16, 17, 18, 19, 20, 21, 22, 23, 24, 25, 26, 27, 28] (by decide +kernel) (by decide +kernel)
set_option maxRecDepth 20000 in
theorem gX5_sitDown_X5_lays : GoodIn wsX5_sitDown (wsV RX5 66 RX5 yX5_lays wsX5_lays) := goodIn_app (goodIn_of _ (by decide +kernel)) ggX5_sitDown_X5_lays
theorem dX5_sitDown_0 : decode cX5_sitDown 0 = .ok (.aload_n 0, 1) := by decide +kernel
theorem dX5_sitDown_1 : decode cX5_sitDown 1 = .ok (.getfield 7, 3) := by decide +kernel
theorem dX5_sitDown_4 : decode cX5_sitDown 4 = .ok (.bipush 24, 2) := by decide +kernel
theorem dX5_sitDown_6 : decode cX5_sitDown 6 = .ok (.iaload, 1) := by decide +kernel
theorem dX5_sitDown_7 : decode cX5_sitDown 7 = .ok (.ifCond .le 73, 3) := by decide +kernel
theorem dX5_sitDown_10 : decode cX5_sitDown 10 = .ok (.aload_n 0, 1) := by decide +kernel
theorem dX5_sitDown_11 : decode cX5_sitDown 11 = .ok (.getfield 7, 3) := by decide +kernel
theorem dX5_sitDown_14 : decode cX5_sitDown 14 = .ok (.bipush 11, 2) := by decide +kernel
theorem dX5_sitDown_16 : decode cX5_sitDown 16 = .ok (.iaload, 1) := by decide +kernel
theorem dX5_sitDown_17 : decode cX5_sitDown 17 = .ok (.aload_n 0, 1) := by decide +kernel
theorem dX5_sitDown_18 : decode cX5_sitDown 18 = .ok (.getfield 7, 3) := by decide +kernel
theorem dX5_sitDown_21 : decode cX5_sitDown 21 = .ok (.iconst 0, 1) := by decide +kernel
theorem dX5_sitDown_22 : decode cX5_sitDown 22 = .ok (.iaload, 1) := by decide +kernel
theorem dX5_sitDown_23 : decode cX5_sitDown 23 = .ok (.if_icmp .ge 57, 3) := by decide +kernel
theorem dX5_sitDown_26 : decode cX5_sitDown 26 = .ok (.aload_n 0, 1) := by decide +kernel
theorem dX5_sitDown_27 : decode cX5_sitDown 27 = .ok (.getfield 7, 3) := by decide +kernel
theorem dX5_sitDown_30 : decode cX5_sitDown 30 = .ok (.bipush 25, 2) := by decide +kernel
theorem dX5_sitDown_32 : decode cX5_sitDown 32 = .ok (.iaload, 1) := by decide +kernel
theorem dX5_sitDown_33 : decode cX5_sitDown 33 = .ok (.istore_n 1, 1) := by decide +kernel
theorem dX5_sitDown_34 : decode cX5_sitDown 34 = .ok (.aload_n 0, 1) := by decide +kernel
theorem dX5_sitDown_35 : decode cX5_sitDown 35 = .ok (.bipush 25, 2) := by decide +kernel
theorem dX5_sitDown_37 : decode cX5_sitDown 37 = .ok (.bipush 24, 2) := by decide +kernel
theorem dX5_sitDown_39 : decode cX5_sitDown 39 = .ok (.iconst 0, 1) := by decide +kernel
theorem dX5_sitDown_40 : decode cX5_sitDown 40 = .ok (.invokevirtual 70, 3) := by decide +kernel
theorem dX5_sitDown_43 : decode cX5_sitDown 43 = .ok (.aload_n 0, 1) := by decide +kernel
theorem dX5_sitDown_44 : decode cX5_sitDown 44 = .ok (.iload_n 1, 1) := by decide +kernel
theorem dX5_sitDown_45 : decode cX5_sitDown 45 = .ok (.iconst 3, 1) := by decide +kernel
theorem dX5_sitDown_46 : decode cX5_sitDown 46 = .ok (.iconst 2, 1) := by decide +kernel
theorem dX5_sitDown_47 : decode cX5_sitDown 47 = .ok (.invokevirtual 66, 3) := by decide +kernel
theorem dX5_sitDown_50 : decode cX5_sitDown 50 = .ok (.aload_n 0, 1) := by decide +kernel
theorem dX5_sitDown_51 : decode cX5_sitDown 51 = .ok (.getfield 7, 3) := by decide +kernel
theorem dX5_sitDown_54 : decode cX5_sitDown 54 = .ok (.bipush 12, 2) := by decide +kernel
theorem dX5_sitDown_56 : decode cX5_sitDown 56 = .ok (.aload_n 0, 1) := by decide +kernel
theorem dX5_sitDown_57 : decode cX5_sitDown 57 = .ok (.getfield 7, 3) := by decide +kernel
theorem dX5_sitDown_60 : decode cX5_sitDown 60 = .ok (.bipush 11, 2) := by decide +kernel
theorem dX5_sitDown_62 : decode cX5_sitDown 62 = .ok (.iaload, 1) := by decide +kernel
theorem dX5_sitDown_63 : decode cX5_sitDown 63 = .ok (.iadd, 1) := by decide +kernel
theorem dX5_sitDown_64 : decode cX5_sitDown 64 = .ok (.iload_n 1, 1) := by decide +kernel
theorem dX5_sitDown_65 : decode cX5_sitDown 65 = .ok (.iastore, 1) := by decide +kernel
theorem dX5_sitDown_66 : decode cX5_sitDown 66 = .ok (.aload_n 0, 1) := by decide +kernel
theorem dX5_sitDown_67 : decode cX5_sitDown 67 = .ok (.getfield 7, 3) := by decide +kernel
theorem dX5_sitDown_70 : decode cX5_sitDown 70 = .ok (.bipush 11, 2) := by decide +kernel
theorem dX5_sitDown_72 : decode cX5_sitDown 72 = .ok (.dup2, 1) := by decide +kernel
theorem dX5_sitDown_73 : decode cX5_sitDown 73 = .ok (.iaload, 1) := by decide +kernel
theorem dX5_sitDown_74 : decode cX5_sitDown 74 = .ok (.iconst 1, 1) := by decide +kernel
theorem dX5_sitDown_75 : decode cX5_sitDown 75 = .ok (.iadd, 1) := by decide +kernel
theorem dX5_sitDown_76 : decode cX5_sitDown 76 = .ok (.iastore, 1) := by decide +kernel
theorem dX5_sitDown_77 : decode cX5_sitDown 77 = .ok (.goto (-77), 3) := by decide +kernel
theorem dX5_sitDown_80 : decode cX5_sitDown 80 = .ok (.return_, 1) := by decide +kernel
set_option maxRecDepth 20000 in
theorem ggX5_minute_X5_arrive : GoodIn wsX5_minute wsX5_arrive := goodIn_r _ [6, 1, 7, 8, 9, 5, 10, 11, 12, 13, 14, 15, 16, 17, 18, 19, 20, 21, 22, 64, 65, 66, 67, 68, 69, 70, 71, 72, 73, 74, 75, 76, 77, 78, 79, 80, 81] (by decide +kernel) (by decide +kernel)
set_option maxRecDepth 20000 in
theorem gX5_minute_X5_arrive : GoodIn wsX5_minute (wsV RX5 86 RX5 yX5_arrive wsX5_arrive) := goodIn_app (goodIn_of _ (by decide +kernel)) ggX5_minute_X5_arrive
set_option maxRecDepth 20000 in
theorem ggX5_minute_X5_sitDown : GoodIn wsX5_minute wsX5_sitDown := goodIn_r _ [26, 1, 27, 28, 29, 5, 30, 19, 20, 21, 22, 64, 65, 66, 67, 68, 69, 70, 71, 72, 73, 74, 75, 76, 77, 78, 79, 80, 81] (by decide +kernel) (by decide +kernel)
set_option maxRecDepth 20000 in
theorem gX5_minute_X5_sitDown : GoodIn wsX5_minute (wsV RX5 89 RX5 yX5_sitDown wsX5_sitDown) := goodIn_app (goodIn_of _ (by decide +kernel)) ggX5_minute_X5_sitDown
set_option maxRecDepth 20000 in
theorem ggX5_minute_X5_rounds : GoodIn wsX5_minute wsX5_rounds := goodIn_r _ [34, 1, 35, 36, 37, 5, 38, 39, 40, 41, 42, 15, 16, 17, 18, 11, 12, 13, 14, 43, 44, 45, 46, 47, 48, 49, 50, 51, 52, 53, 54, 55, 56, 57, 58, 59, 60, 61, 62, 63, 19, 20, 21, 22, 27, 28, 29, 30, 64, 65, 66, 67, 68, 69, 70, 71, 72, 73, 74, 75, 76, 77, 78, 79, 80, 81] (by decide +kernel) (by decide +kernel)
set_option maxRecDepth 20000 in
theorem gX5_minute_X5_rounds : GoodIn wsX5_minute (wsV RX5 92 RX5 yX5_rounds wsX5_rounds) := goodIn_app (goodIn_of _ (by decide +kernel)) ggX5_minute_X5_rounds
theorem dX5_minute_0 : decode cX5_minute 0 = .ok (.aload_n 0, 1) := by decide +kernel
theorem dX5_minute_1 : decode cX5_minute 1 = .ok (.invokevirtual 86, 3) := by decide +kernel
theorem dX5_minute_4 : decode cX5_minute 4 = .ok (.aload_n 0, 1) := by decide +kernel
theorem dX5_minute_5 : decode cX5_minute 5 = .ok (.invokevirtual 89, 3) := by decide +kernel
theorem dX5_minute_8 : decode cX5_minute 8 = .ok (.aload_n 0, 1) := by decide +kernel
theorem dX5_minute_9 : decode cX5_minute 9 = .ok (.getfield 7, 3) := by decide +kernel
theorem dX5_minute_12 : decode cX5_minute 12 = .ok (.iconst 4, 1) := by decide +kernel
theorem dX5_minute_13 : decode cX5_minute 13 = .ok (.iaload, 1) := by decide +kernel
theorem dX5_minute_14 : decode cX5_minute 14 = .ok (.iconst 1, 1) := by decide +kernel
theorem dX5_minute_15 : decode cX5_minute 15 = .ok (.iadd, 1) := by decide +kernel
theorem dX5_minute_16 : decode cX5_minute 16 = .ok (.aload_n 0, 1) := by decide +kernel
theorem dX5_minute_17 : decode cX5_minute 17 = .ok (.getfield 7, 3) := by decide +kernel
theorem dX5_minute_20 : decode cX5_minute 20 = .ok (.iconst 1, 1) := by decide +kernel
theorem dX5_minute_21 : decode cX5_minute 21 = .ok (.iaload, 1) := by decide +kernel
theorem dX5_minute_22 : decode cX5_minute 22 = .ok (.irem, 1) := by decide +kernel
theorem dX5_minute_23 : decode cX5_minute 23 = .ok (.ifCond .ne 7, 3) := by decide +kernel
theorem dX5_minute_26 : decode cX5_minute 26 = .ok (.iconst 1, 1) := by decide +kernel
theorem dX5_minute_27 : decode cX5_minute 27 = .ok (.goto 4, 3) := by decide +kernel
theorem dX5_minute_30 : decode cX5_minute 30 = .ok (.iconst 0, 1) := by decide +kernel
theorem dX5_minute_31 : decode cX5_minute 31 = .ok (.istore_n 1, 1) := by decide +kernel
theorem dX5_minute_32 : decode cX5_minute 32 = .ok (.iload_n 1, 1) := by decide +kernel
theorem dX5_minute_33 : decode cX5_minute 33 = .ok (.iconst 1, 1) := by decide +kernel
theorem dX5_minute_34 : decode cX5_minute 34 = .ok (.if_icmp .ne 10, 3) := by decide +kernel
theorem dX5_minute_37 : decode cX5_minute 37 = .ok (.aload_n 0, 1) := by decide +kernel
theorem dX5_minute_38 : decode cX5_minute 38 = .ok (.invokevirtual 92, 3) := by decide +kernel
theorem dX5_minute_41 : decode cX5_minute 41 = .ok (.goto 4, 3) := by decide +kernel
theorem dX5_minute_44 : decode cX5_minute 44 = .ok (.iconst 0, 1) := by decide +kernel
theorem dX5_minute_45 : decode cX5_minute 45 = .ok (.istore_n 2, 1) := by decide +kernel
theorem dX5_minute_46 : decode cX5_minute 46 = .ok (.aload_n 0, 1) := by decide +kernel
theorem dX5_minute_47 : decode cX5_minute 47 = .ok (.getfield 7, 3) := by decide +kernel
theorem dX5_minute_50 : decode cX5_minute 50 = .ok (.iconst 4, 1) := by decide +kernel
theorem dX5_minute_51 : decode cX5_minute 51 = .ok (.dup2, 1) := by decide +kernel
theorem dX5_minute_52 : decode cX5_minute 52 = .ok (.iaload, 1) := by decide +kernel
theorem dX5_minute_53 : decode cX5_minute 53 = .ok (.iconst 1, 1) := by decide +kernel
theorem dX5_minute_54 : decode cX5_minute 54 = .ok (.iadd, 1) := by decide +kernel
theorem dX5_minute_55 : decode cX5_minute 55 = .ok (.iastore, 1) := by decide +kernel
theorem dX5_minute_56 : decode cX5_minute 56 = .ok (.iload_n 1, 1) := by decide +kernel
theorem dX5_minute_57 : decode cX5_minute 57 = .ok (.ireturn, 1) := by decide +kernel
set_option maxRecDepth 20000 in
theorem ggX5_doAnnounce_X5_in : GoodIn wsX5_doAnnounce wsX5_in := goodIn_r _ [8] (by decide +kernel) (by decide +kernel)
set_option maxRecDepth 20000 in
theorem gX5_doAnnounce_X5_in : GoodIn wsX5_doAnnounce (va_wsS RX5 35 yX5_in wsX5_in) := goodIn_app (goodIn_of _ (by decide +kernel)) ggX5_doAnnounce_X5_in
set_option maxRecDepth 20000 in
theorem ggX5_doAnnounce_X5_lays : GoodIn wsX5_doAnnounce wsX5_lays := goodIn_r _ [12, 4, 13, 14, 15, 16, 17, 18, 19, 20, 21, 22, 23, 24, 25, 26, 27, 28, 29, 30] (by decide +kernel) (by decide +kernel)
set_option maxRecDepth 20000 in
theorem gX5_doAnnounce_X5_lays : GoodIn wsX5_doAnnounce (wsV RX5 66 RX5 yX5_lays wsX5_lays) := goodIn_app (goodIn_of _ (by decide +kernel)) ggX5_doAnnounce_X5_lays
theorem dX5_doAnnounce_0 : decode cX5_doAnnounce 0 = .ok (.iload_n 1, 1) := by decide +kernel
theorem dX5_doAnnounce_1 : decode cX5_doAnnounce 1 = .ok (.i2l, 1) := by decide +kernel
theorem dX5_doAnnounce_2 : decode cX5_doAnnounce 2 = .ok (.lconst 1, 1) := by decide +kernel
theorem dX5_doAnnounce_3 : decode cX5_doAnnounce 3 = .ok (.ldc2_w 95, 3) := by decide +kernel
theorem dX5_doAnnounce_6 : decode cX5_doAnnounce 6 = .ok (.invokestatic 35, 3) := by decide +kernel
theorem dX5_doAnnounce_9 : decode cX5_doAnnounce 9 = .ok (.ifCond .eq 27, 3) := by decide +kernel
theorem dX5_doAnnounce_12 : decode cX5_doAnnounce 12 = .ok (.iload_n 2, 1) := by decide +kernel
theorem dX5_doAnnounce_13 : decode cX5_doAnnounce 13 = .ok (.i2l, 1) := by decide +kernel
theorem dX5_doAnnounce_14 : decode cX5_doAnnounce 14 = .ok (.lconst 0, 1) := by decide +kernel
theorem dX5_doAnnounce_15 : decode cX5_doAnnounce 15 = .ok (.ldc2_w 97, 3) := by decide +kernel
theorem dX5_doAnnounce_18 : decode cX5_doAnnounce 18 = .ok (.invokestatic 35, 3) := by decide +kernel
theorem dX5_doAnnounce_21 : decode cX5_doAnnounce 21 = .ok (.ifCond .eq 15, 3) := by decide +kernel
theorem dX5_doAnnounce_24 : decode cX5_doAnnounce 24 = .ok (.iload_n 3, 1) := by decide +kernel
theorem dX5_doAnnounce_25 : decode cX5_doAnnounce 25 = .ok (.i2l, 1) := by decide +kernel
theorem dX5_doAnnounce_26 : decode cX5_doAnnounce 26 = .ok (.lconst 0, 1) := by decide +kernel
theorem dX5_doAnnounce_27 : decode cX5_doAnnounce 27 = .ok (.ldc2_w 99, 3) := by decide +kernel
theorem dX5_doAnnounce_30 : decode cX5_doAnnounce 30 = .ok (.invokestatic 35, 3) := by decide +kernel
theorem dX5_doAnnounce_33 : decode cX5_doAnnounce 33 = .ok (.ifCond .ne 6, 3) := by decide +kernel
theorem dX5_doAnnounce_36 : decode cX5_doAnnounce 36 = .ok (.bipush (-2), 2) := by decide +kernel
theorem dX5_doAnnounce_38 : decode cX5_doAnnounce 38 = .ok (.ireturn, 1) := by decide +kernel
theorem dX5_doAnnounce_39 : decode cX5_doAnnounce 39 = .ok (.iload_n 3, 1) := by decide +kernel
theorem dX5_doAnnounce_40 : decode cX5_doAnnounce 40 = .ok (.aload_n 0, 1) := by decide +kernel
theorem dX5_doAnnounce_41 : decode cX5_doAnnounce 41 = .ok (.getfield 7, 3) := by decide +kernel
theorem dX5_doAnnounce_44 : decode cX5_doAnnounce 44 = .ok (.iconst 4, 1) := by decide +kernel
theorem dX5_doAnnounce_45 : decode cX5_doAnnounce 45 = .ok (.iaload, 1) := by decide +kernel
theorem dX5_doAnnounce_46 : decode cX5_doAnnounce 46 = .ok (.if_icmp .ge 6, 3) := by decide +kernel
theorem dX5_doAnnounce_49 : decode cX5_doAnnounce 49 = .ok (.bipush (-4), 2) := by decide +kernel
theorem dX5_doAnnounce_51 : decode cX5_doAnnounce 51 = .ok (.ireturn, 1) := by decide +kernel
theorem dX5_doAnnounce_52 : decode cX5_doAnnounce 52 = .ok (.aload_n 0, 1) := by decide +kernel
theorem dX5_doAnnounce_53 : decode cX5_doAnnounce 53 = .ok (.getfield 7, 3) := by decide +kernel
theorem dX5_doAnnounce_56 : decode cX5_doAnnounce 56 = .ok (.iconst 5, 1) := by decide +kernel
theorem dX5_doAnnounce_57 : decode cX5_doAnnounce 57 = .ok (.iaload, 1) := by decide +kernel
theorem dX5_doAnnounce_58 : decode cX5_doAnnounce 58 = .ok (.bipush 24, 2) := by decide +kernel
theorem dX5_doAnnounce_60 : decode cX5_doAnnounce 60 = .ok (.if_icmp .ne 6, 3) := by decide +kernel
theorem dX5_doAnnounce_63 : decode cX5_doAnnounce 63 = .ok (.bipush (-3), 2) := by decide +kernel
theorem dX5_doAnnounce_65 : decode cX5_doAnnounce 65 = .ok (.ireturn, 1) := by decide +kernel
theorem dX5_doAnnounce_66 : decode cX5_doAnnounce 66 = .ok (.aload_n 0, 1) := by decide +kernel
theorem dX5_doAnnounce_67 : decode cX5_doAnnounce 67 = .ok (.getfield 7, 3) := by decide +kernel
theorem dX5_doAnnounce_70 : decode cX5_doAnnounce 70 = .ok (.iconst 5, 1) := by decide +kernel
theorem dX5_doAnnounce_71 : decode cX5_doAnnounce 71 = .ok (.iaload, 1) := by decide +kernel
theorem dX5_doAnnounce_72 : decode cX5_doAnnounce 72 = .ok (.istore 4, 2) := by decide +kernel
theorem dX5_doAnnounce_74 : decode cX5_doAnnounce 74 = .ok (.aload_n 0, 1) := by decide +kernel
theorem dX5_doAnnounce_75 : decode cX5_doAnnounce 75 = .ok (.getfield 7, 3) := by decide +kernel
theorem dX5_doAnnounce_78 : decode cX5_doAnnounce 78 = .ok (.iconst 5, 1) := by decide +kernel
theorem dX5_doAnnounce_79 : decode cX5_doAnnounce 79 = .ok (.dup2, 1) := by decide +kernel
theorem dX5_doAnnounce_80 : decode cX5_doAnnounce 80 = .ok (.iaload, 1) := by decide +kernel
theorem dX5_doAnnounce_81 : decode cX5_doAnnounce 81 = .ok (.iconst 1, 1) := by decide +kernel
theorem dX5_doAnnounce_82 : decode cX5_doAnnounce 82 = .ok (.iadd, 1) := by decide +kernel
theorem dX5_doAnnounce_83 : decode cX5_doAnnounce 83 = .ok (.iastore, 1) := by decide +kernel
theorem dX5_doAnnounce_84 : decode cX5_doAnnounce 84 = .ok (.aload_n 0, 1) := by decide +kernel
theorem dX5_doAnnounce_85 : decode cX5_doAnnounce 85 = .ok (.iload 4, 2) := by decide +kernel
theorem dX5_doAnnounce_87 : decode cX5_doAnnounce 87 = .ok (.iconst 0, 1) := by decide +kernel
theorem dX5_doAnnounce_88 : decode cX5_doAnnounce 88 = .ok (.iload_n 1, 1) := by decide +kernel
theorem dX5_doAnnounce_89 : decode cX5_doAnnounce 89 = .ok (.invokevirtual 66, 3) := by decide +kernel
theorem dX5_doAnnounce_92 : decode cX5_doAnnounce 92 = .ok (.aload_n 0, 1) := by decide +kernel
theorem dX5_doAnnounce_93 : decode cX5_doAnnounce 93 = .ok (.iload 4, 2) := by decide +kernel
theorem dX5_doAnnounce_95 : decode cX5_doAnnounce 95 = .ok (.iconst 1, 1) := by decide +kernel
theorem dX5_doAnnounce_96 : decode cX5_doAnnounce 96 = .ok (.iload_n 2, 1) := by decide +kernel
theorem dX5_doAnnounce_97 : decode cX5_doAnnounce 97 = .ok (.invokevirtual 66, 3) := by decide +kernel
theorem dX5_doAnnounce_100 : decode cX5_doAnnounce 100 = .ok (.aload_n 0, 1) := by decide +kernel
theorem dX5_doAnnounce_101 : decode cX5_doAnnounce 101 = .ok (.iload 4, 2) := by decide +kernel
theorem dX5_doAnnounce_103 : decode cX5_doAnnounce 103 = .ok (.iconst 2, 1) := by decide +kernel
theorem dX5_doAnnounce_104 : decode cX5_doAnnounce 104 = .ok (.iload_n 3, 1) := by decide +kernel
theorem dX5_doAnnounce_105 : decode cX5_doAnnounce 105 = .ok (.invokevirtual 66, 3) := by decide +kernel
theorem dX5_doAnnounce_108 : decode cX5_doAnnounce 108 = .ok (.iload 4, 2) := by decide +kernel
theorem dX5_doAnnounce_110 : decode cX5_doAnnounce 110 = .ok (.ireturn, 1) := by decide +kernel
set_option maxRecDepth 20000 in
theorem ggX5_doLeave_X5_isKing : GoodIn wsX5_doLeave wsX5_isKing := goodIn_r _ [5, 6, 7, 8, 4, 9, 34, 35, 36, 37, 38, 39, 40, 41, 42, 43, 44, 45, 46, 47, 48, 49, 50, 51] (by decide +kernel) (by decide +kernel)
set_option maxRecDepth 20000 in
theorem gX5_doLeave_X5_isKing : GoodIn wsX5_doLeave (wsV RX5 101 RX5 yX5_isKing wsX5_isKing) := goodIn_app (goodIn_of _ (by decide +kernel)) ggX5_doLeave_X5_isKing
set_option maxRecDepth 20000 in
theorem ggX5_doLeave_X5_get : GoodIn wsX5_doLeave wsX5_get := goodIn_r _ [13, 6, 34, 35, 36, 37, 38, 39, 40, 41, 42, 43, 44, 45, 46, 47, 48, 49, 50, 51] (by decide +kernel) (by decide +kernel)
set_option maxRecDepth 20000 in
theorem gX5_doLeave_X5_get : GoodIn wsX5_doLeave (wsV RX5 39 RX5 yX5_get wsX5_get) := goodIn_app (goodIn_of _ (by decide +kernel)) ggX5_doLeave_X5_get
set_option maxRecDepth 20000 in
theorem ggX5_doLeave_X5_seatOf : GoodIn wsX5_doLeave wsX5_seatOf := goodIn_r _ [17, 6, 18, 19, 20, 4, 21, 34, 35, 36, 37, 38, 39, 40, 41, 42, 43, 44, 45, 46, 47, 48, 49, 50, 51] (by decide +kernel) (by decide +kernel)
set_option maxRecDepth 20000 in
theorem gX5_doLeave_X5_seatOf : GoodIn wsX5_doLeave (wsV RX5 104 RX5 yX5_seatOf wsX5_seatOf) := goodIn_app (goodIn_of _ (by decide +kernel)) ggX5_doLeave_X5_seatOf
set_option maxRecDepth 20000 in
theorem ggX5_doLeave_X5_takesOff : GoodIn wsX5_doLeave wsX5_takesOff := goodIn_r _ [25, 6, 34, 35, 36, 37, 38, 39, 40, 41, 42, 43, 44, 45, 46, 47, 48, 49, 50, 51] (by decide +kernel) (by decide +kernel)
set_option maxRecDepth 20000 in
theorem gX5_doLeave_X5_takesOff : GoodIn wsX5_doLeave (wsV RX5 70 RX5 yX5_takesOff wsX5_takesOff) := goodIn_app (goodIn_of _ (by decide +kernel)) ggX5_doLeave_X5_takesOff
set_option maxRecDepth 20000 in
theorem ggX5_doLeave_X5_waitOf : GoodIn wsX5_doLeave wsX5_waitOf := goodIn_r _ [29, 6, 18, 19, 20, 4, 21, 34, 35, 36, 37, 38, 39, 40, 41, 42, 43, 44, 45, 46, 47, 48, 49, 50, 51] (by decide +kernel) (by decide +kernel)
set_option maxRecDepth 20000 in
theorem gX5_doLeave_X5_waitOf : GoodIn wsX5_doLeave (wsV RX5 108 RX5 yX5_waitOf wsX5_waitOf) := goodIn_app (goodIn_of _ (by decide +kernel)) ggX5_doLeave_X5_waitOf
set_option maxRecDepth 20000 in
theorem ggX5_doLeave_X5_lays : GoodIn wsX5_doLeave wsX5_lays := goodIn_r _ [33, 6, 34, 35, 36, 37, 38, 39, 40, 41, 42, 43, 44, 45, 46, 47, 48, 49, 50, 51] (by decide +kernel) (by decide +kernel)
set_option maxRecDepth 20000 in
theorem gX5_doLeave_X5_lays : GoodIn wsX5_doLeave (wsV RX5 66 RX5 yX5_lays wsX5_lays) := goodIn_app (goodIn_of _ (by decide +kernel)) ggX5_doLeave_X5_lays
theorem dX5_doLeave_0 : decode cX5_doLeave 0 = .ok (.aload_n 0, 1) := by decide +kernel
theorem dX5_doLeave_1 : decode cX5_doLeave 1 = .ok (.iload_n 1, 1) := by decide +kernel
theorem dX5_doLeave_2 : decode cX5_doLeave 2 = .ok (.invokevirtual 101, 3) := by decide +kernel
theorem dX5_doLeave_5 : decode cX5_doLeave 5 = .ok (.ifCond .ne 5, 3) := by decide +kernel
theorem dX5_doLeave_8 : decode cX5_doLeave 8 = .ok (.iconst (-1), 1) := by decide +kernel
theorem dX5_doLeave_9 : decode cX5_doLeave 9 = .ok (.ireturn, 1) := by decide +kernel
theorem dX5_doLeave_10 : decode cX5_doLeave 10 = .ok (.aload_n 0, 1) := by decide +kernel
theorem dX5_doLeave_11 : decode cX5_doLeave 11 = .ok (.iload_n 1, 1) := by decide +kernel
theorem dX5_doLeave_12 : decode cX5_doLeave 12 = .ok (.iconst 3, 1) := by decide +kernel
theorem dX5_doLeave_13 : decode cX5_doLeave 13 = .ok (.invokevirtual 39, 3) := by decide +kernel
theorem dX5_doLeave_16 : decode cX5_doLeave 16 = .ok (.istore_n 2, 1) := by decide +kernel
theorem dX5_doLeave_17 : decode cX5_doLeave 17 = .ok (.iload_n 2, 1) := by decide +kernel
theorem dX5_doLeave_18 : decode cX5_doLeave 18 = .ok (.iconst 3, 1) := by decide +kernel
theorem dX5_doLeave_19 : decode cX5_doLeave 19 = .ok (.if_icmp .ne 6, 3) := by decide +kernel
theorem dX5_doLeave_22 : decode cX5_doLeave 22 = .ok (.bipush (-4), 2) := by decide +kernel
theorem dX5_doLeave_24 : decode cX5_doLeave 24 = .ok (.ireturn, 1) := by decide +kernel
theorem dX5_doLeave_25 : decode cX5_doLeave 25 = .ok (.iload_n 2, 1) := by decide +kernel
theorem dX5_doLeave_26 : decode cX5_doLeave 26 = .ok (.iconst 2, 1) := by decide +kernel
theorem dX5_doLeave_27 : decode cX5_doLeave 27 = .ok (.if_icmp .ne 16, 3) := by decide +kernel
theorem dX5_doLeave_30 : decode cX5_doLeave 30 = .ok (.aload_n 0, 1) := by decide +kernel
theorem dX5_doLeave_31 : decode cX5_doLeave 31 = .ok (.bipush 12, 2) := by decide +kernel
theorem dX5_doLeave_33 : decode cX5_doLeave 33 = .ok (.bipush 11, 2) := by decide +kernel
theorem dX5_doLeave_35 : decode cX5_doLeave 35 = .ok (.aload_n 0, 1) := by decide +kernel
theorem dX5_doLeave_36 : decode cX5_doLeave 36 = .ok (.iload_n 1, 1) := by decide +kernel
theorem dX5_doLeave_37 : decode cX5_doLeave 37 = .ok (.invokevirtual 104, 3) := by decide +kernel
theorem dX5_doLeave_40 : decode cX5_doLeave 40 = .ok (.invokevirtual 70, 3) := by decide +kernel
theorem dX5_doLeave_43 : decode cX5_doLeave 43 = .ok (.iload_n 2, 1) := by decide +kernel
theorem dX5_doLeave_44 : decode cX5_doLeave 44 = .ok (.iconst 1, 1) := by decide +kernel
theorem dX5_doLeave_45 : decode cX5_doLeave 45 = .ok (.if_icmp .ne 16, 3) := by decide +kernel
theorem dX5_doLeave_48 : decode cX5_doLeave 48 = .ok (.aload_n 0, 1) := by decide +kernel
theorem dX5_doLeave_49 : decode cX5_doLeave 49 = .ok (.bipush 25, 2) := by decide +kernel
theorem dX5_doLeave_51 : decode cX5_doLeave 51 = .ok (.bipush 24, 2) := by decide +kernel
theorem dX5_doLeave_53 : decode cX5_doLeave 53 = .ok (.aload_n 0, 1) := by decide +kernel
theorem dX5_doLeave_54 : decode cX5_doLeave 54 = .ok (.iload_n 1, 1) := by decide +kernel
theorem dX5_doLeave_55 : decode cX5_doLeave 55 = .ok (.invokevirtual 108, 3) := by decide +kernel
theorem dX5_doLeave_58 : decode cX5_doLeave 58 = .ok (.invokevirtual 70, 3) := by decide +kernel
theorem dX5_doLeave_61 : decode cX5_doLeave 61 = .ok (.aload_n 0, 1) := by decide +kernel
theorem dX5_doLeave_62 : decode cX5_doLeave 62 = .ok (.iload_n 1, 1) := by decide +kernel
theorem dX5_doLeave_63 : decode cX5_doLeave 63 = .ok (.iconst 3, 1) := by decide +kernel
theorem dX5_doLeave_64 : decode cX5_doLeave 64 = .ok (.iconst 3, 1) := by decide +kernel
theorem dX5_doLeave_65 : decode cX5_doLeave 65 = .ok (.invokevirtual 66, 3) := by decide +kernel
theorem dX5_doLeave_68 : decode cX5_doLeave 68 = .ok (.iload_n 2, 1) := by decide +kernel
theorem dX5_doLeave_69 : decode cX5_doLeave 69 = .ok (.ireturn, 1) := by decide +kernel
set_option maxRecDepth 20000 in
theorem ggX5_doPass_X5_in : GoodIn wsX5_doPass wsX5_in := goodIn_r _ [7] (by decide +kernel) (by decide +kernel)
set_option maxRecDepth 20000 in
theorem gX5_doPass_X5_in : GoodIn wsX5_doPass (va_wsS RX5 35 yX5_in wsX5_in) := goodIn_app (goodIn_of _ (by decide +kernel)) ggX5_doPass_X5_in
set_option maxRecDepth 20000 in
theorem ggX5_doPass_X5_minute : GoodIn wsX5_doPass wsX5_minute := goodIn_r _ [11, 2, 12, 13, 14, 6, 15, 16, 17, 18, 19, 20, 21, 22, 23, 24, 25, 26, 27, 28, 29, 30, 31, 32, 33, 34, 35, 36, 37, 38, 39, 40, 41, 42, 43, 44, 45, 46, 47, 48, 49, 50, 51, 52, 53, 54, 55, 56, 57, 58, 59, 60, 61, 62, 63, 64, 65, 66, 67, 68, 69, 70, 71, 72, 73, 74, 75, 76, 77, 78, 79, 80, 81, 82, 83, 84, 85, 86, 87, 88, 89, 90] (by decide +kernel) (by decide +kernel)
set_option maxRecDepth 20000 in
theorem gX5_doPass_X5_minute : GoodIn wsX5_doPass (wsV RX5 114 RX5 yX5_minute wsX5_minute) := goodIn_app (goodIn_of _ (by decide +kernel)) ggX5_doPass_X5_minute
theorem dX5_doPass_0 : decode cX5_doPass 0 = .ok (.iload_n 1, 1) := by decide +kernel
theorem dX5_doPass_1 : decode cX5_doPass 1 = .ok (.i2l, 1) := by decide +kernel
theorem dX5_doPass_2 : decode cX5_doPass 2 = .ok (.lconst 1, 1) := by decide +kernel
theorem dX5_doPass_3 : decode cX5_doPass 3 = .ok (.ldc2_w 111, 3) := by decide +kernel
theorem dX5_doPass_6 : decode cX5_doPass 6 = .ok (.invokestatic 35, 3) := by decide +kernel
theorem dX5_doPass_9 : decode cX5_doPass 9 = .ok (.ifCond .ne 6, 3) := by decide +kernel
theorem dX5_doPass_12 : decode cX5_doPass 12 = .ok (.bipush (-2), 2) := by decide +kernel
theorem dX5_doPass_14 : decode cX5_doPass 14 = .ok (.ireturn, 1) := by decide +kernel
theorem dX5_doPass_15 : decode cX5_doPass 15 = .ok (.aload_n 0, 1) := by decide +kernel
theorem dX5_doPass_16 : decode cX5_doPass 16 = .ok (.getfield 7, 3) := by decide +kernel
theorem dX5_doPass_19 : decode cX5_doPass 19 = .ok (.iconst 4, 1) := by decide +kernel
theorem dX5_doPass_20 : decode cX5_doPass 20 = .ok (.iaload, 1) := by decide +kernel
theorem dX5_doPass_21 : decode cX5_doPass 21 = .ok (.iload_n 1, 1) := by decide +kernel
theorem dX5_doPass_22 : decode cX5_doPass 22 = .ok (.iadd, 1) := by decide +kernel
theorem dX5_doPass_23 : decode cX5_doPass 23 = .ok (.ldc 113, 2) := by decide +kernel
theorem dX5_doPass_25 : decode cX5_doPass 25 = .ok (.if_icmp .le 6, 3) := by decide +kernel
theorem dX5_doPass_28 : decode cX5_doPass 28 = .ok (.bipush (-3), 2) := by decide +kernel
theorem dX5_doPass_30 : decode cX5_doPass 30 = .ok (.ireturn, 1) := by decide +kernel
theorem dX5_doPass_31 : decode cX5_doPass 31 = .ok (.iconst 0, 1) := by decide +kernel
theorem dX5_doPass_32 : decode cX5_doPass 32 = .ok (.istore_n 2, 1) := by decide +kernel
theorem dX5_doPass_33 : decode cX5_doPass 33 = .ok (.iconst 0, 1) := by decide +kernel
theorem dX5_doPass_34 : decode cX5_doPass 34 = .ok (.istore_n 3, 1) := by decide +kernel
theorem dX5_doPass_35 : decode cX5_doPass 35 = .ok (.iload_n 3, 1) := by decide +kernel
theorem dX5_doPass_36 : decode cX5_doPass 36 = .ok (.iload_n 1, 1) := by decide +kernel
theorem dX5_doPass_37 : decode cX5_doPass 37 = .ok (.if_icmp .ge 16, 3) := by decide +kernel
theorem dX5_doPass_40 : decode cX5_doPass 40 = .ok (.iload_n 2, 1) := by decide +kernel
theorem dX5_doPass_41 : decode cX5_doPass 41 = .ok (.aload_n 0, 1) := by decide +kernel
theorem dX5_doPass_42 : decode cX5_doPass 42 = .ok (.invokevirtual 114, 3) := by decide +kernel
theorem dX5_doPass_45 : decode cX5_doPass 45 = .ok (.iadd, 1) := by decide +kernel
theorem dX5_doPass_46 : decode cX5_doPass 46 = .ok (.istore_n 2, 1) := by decide +kernel
theorem dX5_doPass_47 : decode cX5_doPass 47 = .ok (.iinc 3 1, 3) := by decide +kernel
theorem dX5_doPass_50 : decode cX5_doPass 50 = .ok (.goto (-15), 3) := by decide +kernel
theorem dX5_doPass_53 : decode cX5_doPass 53 = .ok (.iload_n 2, 1) := by decide +kernel
theorem dX5_doPass_54 : decode cX5_doPass 54 = .ok (.ireturn, 1) := by decide +kernel
set_option maxRecDepth 20000 in
theorem ggX5_announce_X5_keeps : GoodIn wsX5_announce wsX5_keeps := goodIn_r _ [5, 6, 7, 28, 29, 30, 31, 32, 33, 34, 35, 36, 37, 38, 39, 40, 41, 42, 43, 44, 45] (by decide +kernel) (by decide +kernel)
set_option maxRecDepth 20000 in
theorem gX5_announce_X5_keeps : GoodIn wsX5_announce (wsV RX5 117 RX5 yX5_keeps wsX5_keeps) := goodIn_app (goodIn_of _ (by decide +kernel)) ggX5_announce_X5_keeps
set_option maxRecDepth 20000 in
theorem ggX5_announce_X5_doAnnounce : GoodIn wsX5_announce wsX5_doAnnounce := goodIn_r _ [11, 12, 13, 14, 7, 15, 16, 4, 17, 18, 19, 20, 21, 28, 29, 30, 31, 32, 33, 34, 35, 36, 37, 38, 39, 40, 41, 42, 43, 44, 45] (by decide +kernel) (by decide +kernel)
set_option maxRecDepth 20000 in
theorem gX5_announce_X5_doAnnounce : GoodIn wsX5_announce (wsV RX5 120 RX5 yX5_doAnnounce wsX5_doAnnounce) := goodIn_app (goodIn_of _ (by decide +kernel)) ggX5_announce_X5_doAnnounce
set_option maxRecDepth 20000 in
theorem ggX5_announce_X5_ends : GoodIn wsX5_announce wsX5_ends := goodIn_r _ [25, 7, 6, 26, 27, 28, 29, 30, 31, 32, 33, 34, 35, 36, 37, 38, 39, 40, 41, 42, 43, 44, 45] (by decide +kernel) (by decide +kernel)
set_option maxRecDepth 20000 in
theorem gX5_announce_X5_ends : GoodIn wsX5_announce (wsV RX5 123 RX5 yX5_ends wsX5_ends) := goodIn_app (goodIn_of _ (by decide +kernel)) ggX5_announce_X5_ends
theorem dX5_announce_0 : decode cX5_announce 0 = .ok (.aload_n 0, 1) := by decide +kernel
theorem dX5_announce_1 : decode cX5_announce 1 = .ok (.invokevirtual 117, 3) := by decide +kernel
theorem dX5_announce_4 : decode cX5_announce 4 = .ok (.aload_n 0, 1) := by decide +kernel
theorem dX5_announce_5 : decode cX5_announce 5 = .ok (.aload_n 0, 1) := by decide +kernel
theorem dX5_announce_6 : decode cX5_announce 6 = .ok (.iload_n 1, 1) := by decide +kernel
theorem dX5_announce_7 : decode cX5_announce 7 = .ok (.iload_n 2, 1) := by decide +kernel
theorem dX5_announce_8 : decode cX5_announce 8 = .ok (.iload_n 3, 1) := by decide +kernel
theorem dX5_announce_9 : decode cX5_announce 9 = .ok (.invokevirtual 120, 3) := by decide +kernel
theorem dX5_announce_12 : decode cX5_announce 12 = .ok (.invokevirtual 123, 3) := by decide +kernel
theorem dX5_announce_15 : decode cX5_announce 15 = .ok (.ireturn, 1) := by decide +kernel
