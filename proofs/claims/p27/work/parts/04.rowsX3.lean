theorem dX3_init_0 : decode cX3_init 0 = .ok (.aload_n 0, 1) := by decide +kernel
theorem dX3_init_1 : decode cX3_init 1 = .ok (.invokespecial 3, 3) := by decide +kernel
theorem dX3_init_4 : decode cX3_init 4 = .ok (.aload_n 0, 1) := by decide +kernel
theorem dX3_init_5 : decode cX3_init 5 = .ok (.sipush 216, 3) := by decide +kernel
theorem dX3_init_8 : decode cX3_init 8 = .ok (.newarray .int, 2) := by decide +kernel
theorem dX3_init_10 : decode cX3_init 10 = .ok (.putfield 9, 3) := by decide +kernel
theorem dX3_init_13 : decode cX3_init 13 = .ok (.aload_n 0, 1) := by decide +kernel
theorem dX3_init_14 : decode cX3_init 14 = .ok (.bipush 24, 2) := by decide +kernel
theorem dX3_init_16 : decode cX3_init 16 = .ok (.newarray .int, 2) := by decide +kernel
theorem dX3_init_18 : decode cX3_init 18 = .ok (.putfield 15, 3) := by decide +kernel
theorem dX3_init_21 : decode cX3_init 21 = .ok (.aload_n 0, 1) := by decide +kernel
theorem dX3_init_22 : decode cX3_init 22 = .ok (.iconst 4, 1) := by decide +kernel
theorem dX3_init_23 : decode cX3_init 23 = .ok (.newarray .int, 2) := by decide +kernel
theorem dX3_init_25 : decode cX3_init 25 = .ok (.dup, 1) := by decide +kernel
theorem dX3_init_26 : decode cX3_init 26 = .ok (.iconst 0, 1) := by decide +kernel
theorem dX3_init_27 : decode cX3_init 27 = .ok (.bipush 8, 2) := by decide +kernel
theorem dX3_init_29 : decode cX3_init 29 = .ok (.iastore, 1) := by decide +kernel
theorem dX3_init_30 : decode cX3_init 30 = .ok (.dup, 1) := by decide +kernel
theorem dX3_init_31 : decode cX3_init 31 = .ok (.iconst 1, 1) := by decide +kernel
theorem dX3_init_32 : decode cX3_init 32 = .ok (.bipush 10, 2) := by decide +kernel
theorem dX3_init_34 : decode cX3_init 34 = .ok (.iastore, 1) := by decide +kernel
theorem dX3_init_35 : decode cX3_init 35 = .ok (.dup, 1) := by decide +kernel
theorem dX3_init_36 : decode cX3_init 36 = .ok (.iconst 2, 1) := by decide +kernel
theorem dX3_init_37 : decode cX3_init 37 = .ok (.iconst 3, 1) := by decide +kernel
theorem dX3_init_38 : decode cX3_init 38 = .ok (.iastore, 1) := by decide +kernel
theorem dX3_init_39 : decode cX3_init 39 = .ok (.dup, 1) := by decide +kernel
theorem dX3_init_40 : decode cX3_init 40 = .ok (.iconst 3, 1) := by decide +kernel
theorem dX3_init_41 : decode cX3_init 41 = .ok (.iconst 4, 1) := by decide +kernel
theorem dX3_init_42 : decode cX3_init 42 = .ok (.iastore, 1) := by decide +kernel
theorem dX3_init_43 : decode cX3_init 43 = .ok (.putfield 18, 3) := by decide +kernel
theorem dX3_init_46 : decode cX3_init 46 = .ok (.aload_n 0, 1) := by decide +kernel
theorem dX3_init_47 : decode cX3_init 47 = .ok (.new 21, 3) := by decide +kernel
theorem dX3_init_50 : decode cX3_init 50 = .ok (.dup, 1) := by decide +kernel
theorem dX3_init_51 : decode cX3_init 51 = .ok (.bipush 12, 2) := by decide +kernel
theorem dX3_init_53 : decode cX3_init 53 = .ok (.invokespecial 23, 3) := by decide +kernel
theorem dX3_init_56 : decode cX3_init 56 = .ok (.putfield 26, 3) := by decide +kernel
theorem dX3_init_59 : decode cX3_init 59 = .ok (.aload_n 0, 1) := by decide +kernel
theorem dX3_init_60 : decode cX3_init 60 = .ok (.new 21, 3) := by decide +kernel
theorem dX3_init_63 : decode cX3_init 63 = .ok (.dup, 1) := by decide +kernel
theorem dX3_init_64 : decode cX3_init 64 = .ok (.bipush 24, 2) := by decide +kernel
theorem dX3_init_66 : decode cX3_init 66 = .ok (.invokespecial 23, 3) := by decide +kernel
theorem dX3_init_69 : decode cX3_init 69 = .ok (.putfield 30, 3) := by decide +kernel
theorem dX3_init_72 : decode cX3_init 72 = .ok (.aload_n 0, 1) := by decide +kernel
theorem dX3_init_73 : decode cX3_init 73 = .ok (.iconst 0, 1) := by decide +kernel
theorem dX3_init_74 : decode cX3_init 74 = .ok (.putfield 33, 3) := by decide +kernel
theorem dX3_init_77 : decode cX3_init 77 = .ok (.aload_n 0, 1) := by decide +kernel
theorem dX3_init_78 : decode cX3_init 78 = .ok (.iconst 0, 1) := by decide +kernel
theorem dX3_init_79 : decode cX3_init 79 = .ok (.putfield 37, 3) := by decide +kernel
theorem dX3_init_82 : decode cX3_init 82 = .ok (.aload_n 0, 1) := by decide +kernel
theorem dX3_init_83 : decode cX3_init 83 = .ok (.iconst 0, 1) := by decide +kernel
theorem dX3_init_84 : decode cX3_init 84 = .ok (.putfield 40, 3) := by decide +kernel
theorem dX3_init_87 : decode cX3_init 87 = .ok (.aload_n 0, 1) := by decide +kernel
theorem dX3_init_88 : decode cX3_init 88 = .ok (.iconst 0, 1) := by decide +kernel
theorem dX3_init_89 : decode cX3_init 89 = .ok (.putfield 43, 3) := by decide +kernel
theorem dX3_init_92 : decode cX3_init 92 = .ok (.return_, 1) := by decide +kernel
set_option maxRecDepth 20000 in
theorem ggX3_copyFrom_X4_copyNumbers : GoodIn wsX3_copyFrom wsX4_copyNumbers := goodIn_r _ [12, 13, 14, 15, 16, 17, 18, 19, 20] (by decide +kernel) (by decide +kernel)
set_option maxRecDepth 20000 in
theorem gX3_copyFrom_X4_copyNumbers_n46 : GoodIn wsX3_copyFrom (wsX4_copyNumbers) := ggX3_copyFrom_X4_copyNumbers
set_option maxRecDepth 20000 in
theorem ggX3_copyFrom_X2_copyFrom : GoodIn wsX3_copyFrom wsX2_copyFrom := goodIn_r _ [25, 26, 27, 28, 14, 15, 16, 10, 11, 12, 13, 17, 18, 19, 20, 38, 39] (by decide +kernel) (by decide +kernel)
set_option maxRecDepth 20000 in
theorem gX3_copyFrom_X2_copyFrom : GoodIn wsX3_copyFrom (wsV RX3 50 RX2 yX2_copyFrom wsX2_copyFrom) := goodIn_app (goodIn_of _ (by decide +kernel)) ggX3_copyFrom_X2_copyFrom
theorem dX3_copyFrom_0 : decode cX3_copyFrom 0 = .ok (.aload_n 1, 1) := by decide +kernel
theorem dX3_copyFrom_1 : decode cX3_copyFrom 1 = .ok (.getfield 9, 3) := by decide +kernel
theorem dX3_copyFrom_4 : decode cX3_copyFrom 4 = .ok (.aload_n 0, 1) := by decide +kernel
theorem dX3_copyFrom_5 : decode cX3_copyFrom 5 = .ok (.getfield 9, 3) := by decide +kernel
theorem dX3_copyFrom_8 : decode cX3_copyFrom 8 = .ok (.invokestatic 46, 3) := by decide +kernel
theorem dX3_copyFrom_11 : decode cX3_copyFrom 11 = .ok (.aload_n 1, 1) := by decide +kernel
theorem dX3_copyFrom_12 : decode cX3_copyFrom 12 = .ok (.getfield 15, 3) := by decide +kernel
theorem dX3_copyFrom_15 : decode cX3_copyFrom 15 = .ok (.aload_n 0, 1) := by decide +kernel
theorem dX3_copyFrom_16 : decode cX3_copyFrom 16 = .ok (.getfield 15, 3) := by decide +kernel
theorem dX3_copyFrom_19 : decode cX3_copyFrom 19 = .ok (.invokestatic 46, 3) := by decide +kernel
theorem dX3_copyFrom_22 : decode cX3_copyFrom 22 = .ok (.aload_n 1, 1) := by decide +kernel
theorem dX3_copyFrom_23 : decode cX3_copyFrom 23 = .ok (.getfield 18, 3) := by decide +kernel
theorem dX3_copyFrom_26 : decode cX3_copyFrom 26 = .ok (.aload_n 0, 1) := by decide +kernel
theorem dX3_copyFrom_27 : decode cX3_copyFrom 27 = .ok (.getfield 18, 3) := by decide +kernel
theorem dX3_copyFrom_30 : decode cX3_copyFrom 30 = .ok (.invokestatic 46, 3) := by decide +kernel
theorem dX3_copyFrom_33 : decode cX3_copyFrom 33 = .ok (.aload_n 0, 1) := by decide +kernel
theorem dX3_copyFrom_34 : decode cX3_copyFrom 34 = .ok (.getfield 26, 3) := by decide +kernel
theorem dX3_copyFrom_37 : decode cX3_copyFrom 37 = .ok (.aload_n 1, 1) := by decide +kernel
theorem dX3_copyFrom_38 : decode cX3_copyFrom 38 = .ok (.getfield 26, 3) := by decide +kernel
theorem dX3_copyFrom_41 : decode cX3_copyFrom 41 = .ok (.invokevirtual 50, 3) := by decide +kernel
theorem dX3_copyFrom_44 : decode cX3_copyFrom 44 = .ok (.aload_n 0, 1) := by decide +kernel
theorem dX3_copyFrom_45 : decode cX3_copyFrom 45 = .ok (.getfield 30, 3) := by decide +kernel
theorem dX3_copyFrom_48 : decode cX3_copyFrom 48 = .ok (.aload_n 1, 1) := by decide +kernel
theorem dX3_copyFrom_49 : decode cX3_copyFrom 49 = .ok (.getfield 30, 3) := by decide +kernel
theorem dX3_copyFrom_52 : decode cX3_copyFrom 52 = .ok (.invokevirtual 50, 3) := by decide +kernel
theorem dX3_copyFrom_55 : decode cX3_copyFrom 55 = .ok (.aload_n 0, 1) := by decide +kernel
theorem dX3_copyFrom_56 : decode cX3_copyFrom 56 = .ok (.aload_n 1, 1) := by decide +kernel
theorem dX3_copyFrom_57 : decode cX3_copyFrom 57 = .ok (.getfield 33, 3) := by decide +kernel
theorem dX3_copyFrom_60 : decode cX3_copyFrom 60 = .ok (.putfield 33, 3) := by decide +kernel
theorem dX3_copyFrom_63 : decode cX3_copyFrom 63 = .ok (.aload_n 0, 1) := by decide +kernel
theorem dX3_copyFrom_64 : decode cX3_copyFrom 64 = .ok (.aload_n 1, 1) := by decide +kernel
theorem dX3_copyFrom_65 : decode cX3_copyFrom 65 = .ok (.getfield 37, 3) := by decide +kernel
theorem dX3_copyFrom_68 : decode cX3_copyFrom 68 = .ok (.putfield 37, 3) := by decide +kernel
theorem dX3_copyFrom_71 : decode cX3_copyFrom 71 = .ok (.aload_n 0, 1) := by decide +kernel
theorem dX3_copyFrom_72 : decode cX3_copyFrom 72 = .ok (.aload_n 1, 1) := by decide +kernel
theorem dX3_copyFrom_73 : decode cX3_copyFrom 73 = .ok (.getfield 40, 3) := by decide +kernel
theorem dX3_copyFrom_76 : decode cX3_copyFrom 76 = .ok (.putfield 40, 3) := by decide +kernel
theorem dX3_copyFrom_79 : decode cX3_copyFrom 79 = .ok (.aload_n 0, 1) := by decide +kernel
theorem dX3_copyFrom_80 : decode cX3_copyFrom 80 = .ok (.aload_n 1, 1) := by decide +kernel
theorem dX3_copyFrom_81 : decode cX3_copyFrom 81 = .ok (.getfield 43, 3) := by decide +kernel
theorem dX3_copyFrom_84 : decode cX3_copyFrom 84 = .ok (.putfield 43, 3) := by decide +kernel
theorem dX3_copyFrom_87 : decode cX3_copyFrom 87 = .ok (.return_, 1) := by decide +kernel
theorem dX3_isKing_0 : decode cX3_isKing 0 = .ok (.iload_n 1, 1) := by decide +kernel
theorem dX3_isKing_1 : decode cX3_isKing 1 = .ok (.ifCond .lt 15, 3) := by decide +kernel
theorem dX3_isKing_4 : decode cX3_isKing 4 = .ok (.iload_n 1, 1) := by decide +kernel
theorem dX3_isKing_5 : decode cX3_isKing 5 = .ok (.aload_n 0, 1) := by decide +kernel
theorem dX3_isKing_6 : decode cX3_isKing 6 = .ok (.getfield 33, 3) := by decide +kernel
theorem dX3_isKing_9 : decode cX3_isKing 9 = .ok (.if_icmp .ge 7, 3) := by decide +kernel
theorem dX3_isKing_12 : decode cX3_isKing 12 = .ok (.iconst 1, 1) := by decide +kernel
theorem dX3_isKing_13 : decode cX3_isKing 13 = .ok (.goto 4, 3) := by decide +kernel
theorem dX3_isKing_16 : decode cX3_isKing 16 = .ok (.iconst 0, 1) := by decide +kernel
theorem dX3_isKing_17 : decode cX3_isKing 17 = .ok (.ireturn, 1) := by decide +kernel
set_option maxRecDepth 20000 in
theorem ggX3_invite_X4_isCrown : GoodIn wsX3_invite wsX4_isCrown := goodIn_r _ [6] (by decide +kernel) (by decide +kernel)
set_option maxRecDepth 20000 in
theorem gX3_invite_X4_isCrown_n54 : GoodIn wsX3_invite (wsX4_isCrown) := ggX3_invite_X4_isCrown
set_option maxRecDepth 20000 in
theorem ggX3_invite_X4_isAge : GoodIn wsX3_invite wsX4_isAge := goodIn_r _ [8] (by decide +kernel) (by decide +kernel)
set_option maxRecDepth 20000 in
theorem gX3_invite_X4_isAge_n58 : GoodIn wsX3_invite (wsX4_isAge) := ggX3_invite_X4_isAge
set_option maxRecDepth 20000 in
theorem ggX3_invite_X4_worthOf : GoodIn wsX3_invite wsX4_worthOf := goodIn_r _ [10] (by decide +kernel) (by decide +kernel)
set_option maxRecDepth 20000 in
theorem gX3_invite_X4_worthOf_n61 : GoodIn wsX3_invite (wsX4_worthOf) := ggX3_invite_X4_worthOf
set_option maxRecDepth 20000 in
theorem ggX3_invite_X3_setFact : GoodIn wsX3_invite wsX3_setFact := goodIn_r _ [15, 16, 17, 18, 19, 14, 20, 2, 21, 22, 23, 24, 25, 26, 27, 28, 29] (by decide +kernel) (by decide +kernel)
set_option maxRecDepth 20000 in
theorem gX3_invite_X3_setFact : GoodIn wsX3_invite (wsV RX3 65 RX3 yX3_setFact wsX3_setFact) := goodIn_app (goodIn_of _ (by decide +kernel)) ggX3_invite_X3_setFact
theorem dX3_invite_0 : decode cX3_invite 0 = .ok (.iload_n 1, 1) := by decide +kernel
theorem dX3_invite_1 : decode cX3_invite 1 = .ok (.invokestatic 54, 3) := by decide +kernel
theorem dX3_invite_4 : decode cX3_invite 4 = .ok (.ifCond .eq 21, 3) := by decide +kernel
theorem dX3_invite_7 : decode cX3_invite 7 = .ok (.iload_n 2, 1) := by decide +kernel
theorem dX3_invite_8 : decode cX3_invite 8 = .ok (.invokestatic 58, 3) := by decide +kernel
theorem dX3_invite_11 : decode cX3_invite 11 = .ok (.ifCond .eq 14, 3) := by decide +kernel
theorem dX3_invite_14 : decode cX3_invite 14 = .ok (.iload_n 3, 1) := by decide +kernel
theorem dX3_invite_15 : decode cX3_invite 15 = .ok (.ifCond .lt 10, 3) := by decide +kernel
theorem dX3_invite_18 : decode cX3_invite 18 = .ok (.iload_n 3, 1) := by decide +kernel
theorem dX3_invite_19 : decode cX3_invite 19 = .ok (.sipush 9999, 3) := by decide +kernel
theorem dX3_invite_22 : decode cX3_invite 22 = .ok (.if_icmp .le 6, 3) := by decide +kernel
theorem dX3_invite_25 : decode cX3_invite 25 = .ok (.bipush (-2), 2) := by decide +kernel
theorem dX3_invite_27 : decode cX3_invite 27 = .ok (.ireturn, 1) := by decide +kernel
theorem dX3_invite_28 : decode cX3_invite 28 = .ok (.iload_n 3, 1) := by decide +kernel
theorem dX3_invite_29 : decode cX3_invite 29 = .ok (.aload_n 0, 1) := by decide +kernel
theorem dX3_invite_30 : decode cX3_invite 30 = .ok (.getfield 37, 3) := by decide +kernel
theorem dX3_invite_33 : decode cX3_invite 33 = .ok (.if_icmp .ge 6, 3) := by decide +kernel
theorem dX3_invite_36 : decode cX3_invite 36 = .ok (.bipush (-4), 2) := by decide +kernel
theorem dX3_invite_38 : decode cX3_invite 38 = .ok (.ireturn, 1) := by decide +kernel
theorem dX3_invite_39 : decode cX3_invite 39 = .ok (.aload_n 0, 1) := by decide +kernel
theorem dX3_invite_40 : decode cX3_invite 40 = .ok (.getfield 33, 3) := by decide +kernel
theorem dX3_invite_43 : decode cX3_invite 43 = .ok (.istore 4, 2) := by decide +kernel
theorem dX3_invite_45 : decode cX3_invite 45 = .ok (.iload 4, 2) := by decide +kernel
theorem dX3_invite_47 : decode cX3_invite 47 = .ok (.ifCond .lt 13, 3) := by decide +kernel
theorem dX3_invite_50 : decode cX3_invite 50 = .ok (.iload 4, 2) := by decide +kernel
theorem dX3_invite_52 : decode cX3_invite 52 = .ok (.aload_n 0, 1) := by decide +kernel
theorem dX3_invite_53 : decode cX3_invite 53 = .ok (.getfield 15, 3) := by decide +kernel
theorem dX3_invite_56 : decode cX3_invite 56 = .ok (.arraylength, 1) := by decide +kernel
theorem dX3_invite_57 : decode cX3_invite 57 = .ok (.if_icmp .lt 6, 3) := by decide +kernel
theorem dX3_invite_60 : decode cX3_invite 60 = .ok (.bipush (-3), 2) := by decide +kernel
theorem dX3_invite_62 : decode cX3_invite 62 = .ok (.ireturn, 1) := by decide +kernel
theorem dX3_invite_63 : decode cX3_invite 63 = .ok (.aload_n 0, 1) := by decide +kernel
theorem dX3_invite_64 : decode cX3_invite 64 = .ok (.dup, 1) := by decide +kernel
theorem dX3_invite_65 : decode cX3_invite 65 = .ok (.getfield 33, 3) := by decide +kernel
theorem dX3_invite_68 : decode cX3_invite 68 = .ok (.iconst 1, 1) := by decide +kernel
theorem dX3_invite_69 : decode cX3_invite 69 = .ok (.iadd, 1) := by decide +kernel
theorem dX3_invite_70 : decode cX3_invite 70 = .ok (.putfield 33, 3) := by decide +kernel
theorem dX3_invite_73 : decode cX3_invite 73 = .ok (.aload_n 0, 1) := by decide +kernel
theorem dX3_invite_74 : decode cX3_invite 74 = .ok (.getfield 15, 3) := by decide +kernel
theorem dX3_invite_77 : decode cX3_invite 77 = .ok (.iload 4, 2) := by decide +kernel
theorem dX3_invite_79 : decode cX3_invite 79 = .ok (.iload_n 1, 1) := by decide +kernel
theorem dX3_invite_80 : decode cX3_invite 80 = .ok (.iload_n 2, 1) := by decide +kernel
theorem dX3_invite_81 : decode cX3_invite 81 = .ok (.iload 4, 2) := by decide +kernel
theorem dX3_invite_83 : decode cX3_invite 83 = .ok (.invokestatic 61, 3) := by decide +kernel
theorem dX3_invite_86 : decode cX3_invite 86 = .ok (.iastore, 1) := by decide +kernel
theorem dX3_invite_87 : decode cX3_invite 87 = .ok (.aload_n 0, 1) := by decide +kernel
theorem dX3_invite_88 : decode cX3_invite 88 = .ok (.iload 4, 2) := by decide +kernel
theorem dX3_invite_90 : decode cX3_invite 90 = .ok (.iconst 0, 1) := by decide +kernel
theorem dX3_invite_91 : decode cX3_invite 91 = .ok (.iload_n 1, 1) := by decide +kernel
theorem dX3_invite_92 : decode cX3_invite 92 = .ok (.invokevirtual 65, 3) := by decide +kernel
theorem dX3_invite_95 : decode cX3_invite 95 = .ok (.aload_n 0, 1) := by decide +kernel
theorem dX3_invite_96 : decode cX3_invite 96 = .ok (.iload 4, 2) := by decide +kernel
theorem dX3_invite_98 : decode cX3_invite 98 = .ok (.iconst 1, 1) := by decide +kernel
theorem dX3_invite_99 : decode cX3_invite 99 = .ok (.iload_n 2, 1) := by decide +kernel
theorem dX3_invite_100 : decode cX3_invite 100 = .ok (.invokevirtual 65, 3) := by decide +kernel
theorem dX3_invite_103 : decode cX3_invite 103 = .ok (.aload_n 0, 1) := by decide +kernel
theorem dX3_invite_104 : decode cX3_invite 104 = .ok (.iload 4, 2) := by decide +kernel
theorem dX3_invite_106 : decode cX3_invite 106 = .ok (.iconst 2, 1) := by decide +kernel
theorem dX3_invite_107 : decode cX3_invite 107 = .ok (.iload_n 3, 1) := by decide +kernel
theorem dX3_invite_108 : decode cX3_invite 108 = .ok (.invokevirtual 65, 3) := by decide +kernel
theorem dX3_invite_111 : decode cX3_invite 111 = .ok (.iload 4, 2) := by decide +kernel
theorem dX3_invite_113 : decode cX3_invite 113 = .ok (.ireturn, 1) := by decide +kernel
set_option maxRecDepth 20000 in
theorem ggX3_dismiss_X3_isKing : GoodIn wsX3_dismiss wsX3_isKing := goodIn_r _ [7, 8, 29, 30, 31, 32, 33, 34, 35, 36, 37] (by decide +kernel) (by decide +kernel)
set_option maxRecDepth 20000 in
theorem gX3_dismiss_X3_isKing : GoodIn wsX3_dismiss (wsV RX3 69 RX3 yX3_isKing wsX3_isKing) := goodIn_app (goodIn_of _ (by decide +kernel)) ggX3_dismiss_X3_isKing
set_option maxRecDepth 20000 in
theorem ggX3_dismiss_X3_fact : GoodIn wsX3_dismiss wsX3_fact := goodIn_r _ [12, 13, 3, 4, 5, 6, 7, 8, 29, 30, 31, 32, 33, 34, 35, 36, 37] (by decide +kernel) (by decide +kernel)
set_option maxRecDepth 20000 in
theorem gX3_dismiss_X3_fact : GoodIn wsX3_dismiss (wsV RX3 72 RX3 yX3_fact wsX3_fact) := goodIn_app (goodIn_of _ (by decide +kernel)) ggX3_dismiss_X3_fact
set_option maxRecDepth 20000 in
theorem ggX3_dismiss_X2_remove : GoodIn wsX3_dismiss wsX2_remove := goodIn_r _ [18, 19, 20, 21, 22, 23, 17, 24, 38, 39] (by decide +kernel) (by decide +kernel)
set_option maxRecDepth 20000 in
theorem gX3_dismiss_X2_remove : GoodIn wsX3_dismiss (wsV RX3 76 RX2 yX2_remove wsX2_remove) := goodIn_app (goodIn_of _ (by decide +kernel)) ggX3_dismiss_X2_remove
set_option maxRecDepth 20000 in
theorem ggX3_dismiss_X3_setFact : GoodIn wsX3_dismiss wsX3_setFact := goodIn_r _ [28, 13, 3, 4, 5, 6, 7, 8, 29, 30, 31, 32, 33, 34, 35, 36, 37] (by decide +kernel) (by decide +kernel)
set_option maxRecDepth 20000 in
theorem gX3_dismiss_X3_setFact : GoodIn wsX3_dismiss (wsV RX3 65 RX3 yX3_setFact wsX3_setFact) := goodIn_app (goodIn_of _ (by decide +kernel)) ggX3_dismiss_X3_setFact
theorem dX3_dismiss_0 : decode cX3_dismiss 0 = .ok (.aload_n 0, 1) := by decide +kernel
theorem dX3_dismiss_1 : decode cX3_dismiss 1 = .ok (.iload_n 1, 1) := by decide +kernel
theorem dX3_dismiss_2 : decode cX3_dismiss 2 = .ok (.invokevirtual 69, 3) := by decide +kernel
theorem dX3_dismiss_5 : decode cX3_dismiss 5 = .ok (.ifCond .ne 5, 3) := by decide +kernel
theorem dX3_dismiss_8 : decode cX3_dismiss 8 = .ok (.iconst (-1), 1) := by decide +kernel
theorem dX3_dismiss_9 : decode cX3_dismiss 9 = .ok (.ireturn, 1) := by decide +kernel
theorem dX3_dismiss_10 : decode cX3_dismiss 10 = .ok (.aload_n 0, 1) := by decide +kernel
theorem dX3_dismiss_11 : decode cX3_dismiss 11 = .ok (.iload_n 1, 1) := by decide +kernel
theorem dX3_dismiss_12 : decode cX3_dismiss 12 = .ok (.iconst 3, 1) := by decide +kernel
theorem dX3_dismiss_13 : decode cX3_dismiss 13 = .ok (.invokevirtual 72, 3) := by decide +kernel
theorem dX3_dismiss_16 : decode cX3_dismiss 16 = .ok (.istore_n 2, 1) := by decide +kernel
theorem dX3_dismiss_17 : decode cX3_dismiss 17 = .ok (.iload_n 2, 1) := by decide +kernel
theorem dX3_dismiss_18 : decode cX3_dismiss 18 = .ok (.iconst 3, 1) := by decide +kernel
theorem dX3_dismiss_19 : decode cX3_dismiss 19 = .ok (.if_icmp .ne 6, 3) := by decide +kernel
theorem dX3_dismiss_22 : decode cX3_dismiss 22 = .ok (.bipush (-4), 2) := by decide +kernel
theorem dX3_dismiss_24 : decode cX3_dismiss 24 = .ok (.ireturn, 1) := by decide +kernel
theorem dX3_dismiss_25 : decode cX3_dismiss 25 = .ok (.aload_n 0, 1) := by decide +kernel
theorem dX3_dismiss_26 : decode cX3_dismiss 26 = .ok (.getfield 26, 3) := by decide +kernel
theorem dX3_dismiss_29 : decode cX3_dismiss 29 = .ok (.iload_n 1, 1) := by decide +kernel
theorem dX3_dismiss_30 : decode cX3_dismiss 30 = .ok (.invokevirtual 76, 3) := by decide +kernel
theorem dX3_dismiss_33 : decode cX3_dismiss 33 = .ok (.aload_n 0, 1) := by decide +kernel
theorem dX3_dismiss_34 : decode cX3_dismiss 34 = .ok (.getfield 30, 3) := by decide +kernel
theorem dX3_dismiss_37 : decode cX3_dismiss 37 = .ok (.iload_n 1, 1) := by decide +kernel
theorem dX3_dismiss_38 : decode cX3_dismiss 38 = .ok (.invokevirtual 76, 3) := by decide +kernel
theorem dX3_dismiss_41 : decode cX3_dismiss 41 = .ok (.aload_n 0, 1) := by decide +kernel
theorem dX3_dismiss_42 : decode cX3_dismiss 42 = .ok (.iload_n 1, 1) := by decide +kernel
theorem dX3_dismiss_43 : decode cX3_dismiss 43 = .ok (.iconst 3, 1) := by decide +kernel
theorem dX3_dismiss_44 : decode cX3_dismiss 44 = .ok (.iconst 3, 1) := by decide +kernel
theorem dX3_dismiss_45 : decode cX3_dismiss 45 = .ok (.invokevirtual 65, 3) := by decide +kernel
theorem dX3_dismiss_48 : decode cX3_dismiss 48 = .ok (.iload_n 2, 1) := by decide +kernel
theorem dX3_dismiss_49 : decode cX3_dismiss 49 = .ok (.ireturn, 1) := by decide +kernel
set_option maxRecDepth 20000 in
theorem ggX3_sendEnvoyTo_X2_size : GoodIn wsX3_sendEnvoyTo wsX2_size := goodIn_r _ [6, 7, 37, 38] (by decide +kernel) (by decide +kernel)
set_option maxRecDepth 20000 in
theorem gX3_sendEnvoyTo_X2_size : GoodIn wsX3_sendEnvoyTo (wsV RX3 79 RX2 yX2_size wsX2_size) := goodIn_app (goodIn_of _ (by decide +kernel)) ggX3_sendEnvoyTo_X2_size
set_option maxRecDepth 20000 in
theorem ggX3_sendEnvoyTo_X2_at : GoodIn wsX3_sendEnvoyTo wsX2_at := goodIn_r _ [11, 7, 12, 37, 38] (by decide +kernel) (by decide +kernel)
set_option maxRecDepth 20000 in
theorem gX3_sendEnvoyTo_X2_at : GoodIn wsX3_sendEnvoyTo (wsV RX3 83 RX2 yX2_at wsX2_at) := goodIn_app (goodIn_of _ (by decide +kernel)) ggX3_sendEnvoyTo_X2_at
set_option maxRecDepth 20000 in
theorem ggX3_sendEnvoyTo_X3_isGreater : GoodIn wsX3_sendEnvoyTo wsX3_isGreater := goodIn_r _ [17, 18, 28, 29, 30, 31, 32, 33, 34, 35, 36] (by decide +kernel) (by decide +kernel)
set_option maxRecDepth 20000 in
theorem gX3_sendEnvoyTo_X3_isGreater : GoodIn wsX3_sendEnvoyTo (wsV RX3 87 RX3 yX3_isGreater wsX3_isGreater) := goodIn_app (goodIn_of _ (by decide +kernel)) ggX3_sendEnvoyTo_X3_isGreater
set_option maxRecDepth 20000 in
theorem ggX3_sendEnvoyTo_X3_changeSeats : GoodIn wsX3_sendEnvoyTo wsX3_changeSeats := goodIn_r _ [22, 1, 23, 24, 25, 26, 5, 27, 7, 12, 28, 29, 30, 31, 32, 33, 34, 35, 36, 37, 38] (by decide +kernel) (by decide +kernel)
set_option maxRecDepth 20000 in
theorem gX3_sendEnvoyTo_X3_changeSeats : GoodIn wsX3_sendEnvoyTo (wsV RX3 91 RX3 yX3_changeSeats wsX3_changeSeats) := goodIn_app (goodIn_of _ (by decide +kernel)) ggX3_sendEnvoyTo_X3_changeSeats
theorem dX3_sendEnvoyTo_0 : decode cX3_sendEnvoyTo 0 = .ok (.iload_n 1, 1) := by decide +kernel
theorem dX3_sendEnvoyTo_1 : decode cX3_sendEnvoyTo 1 = .ok (.ifCond .lt 16, 3) := by decide +kernel
theorem dX3_sendEnvoyTo_4 : decode cX3_sendEnvoyTo 4 = .ok (.iload_n 1, 1) := by decide +kernel
theorem dX3_sendEnvoyTo_5 : decode cX3_sendEnvoyTo 5 = .ok (.aload_n 0, 1) := by decide +kernel
theorem dX3_sendEnvoyTo_6 : decode cX3_sendEnvoyTo 6 = .ok (.getfield 26, 3) := by decide +kernel
theorem dX3_sendEnvoyTo_9 : decode cX3_sendEnvoyTo 9 = .ok (.invokevirtual 79, 3) := by decide +kernel
theorem dX3_sendEnvoyTo_12 : decode cX3_sendEnvoyTo 12 = .ok (.iconst 1, 1) := by decide +kernel
theorem dX3_sendEnvoyTo_13 : decode cX3_sendEnvoyTo 13 = .ok (.isub, 1) := by decide +kernel
theorem dX3_sendEnvoyTo_14 : decode cX3_sendEnvoyTo 14 = .ok (.if_icmp .lt 5, 3) := by decide +kernel
theorem dX3_sendEnvoyTo_17 : decode cX3_sendEnvoyTo 17 = .ok (.iconst (-1), 1) := by decide +kernel
theorem dX3_sendEnvoyTo_18 : decode cX3_sendEnvoyTo 18 = .ok (.ireturn, 1) := by decide +kernel
theorem dX3_sendEnvoyTo_19 : decode cX3_sendEnvoyTo 19 = .ok (.aload_n 0, 1) := by decide +kernel
theorem dX3_sendEnvoyTo_20 : decode cX3_sendEnvoyTo 20 = .ok (.aload_n 0, 1) := by decide +kernel
theorem dX3_sendEnvoyTo_21 : decode cX3_sendEnvoyTo 21 = .ok (.getfield 26, 3) := by decide +kernel
theorem dX3_sendEnvoyTo_24 : decode cX3_sendEnvoyTo 24 = .ok (.iload_n 1, 1) := by decide +kernel
theorem dX3_sendEnvoyTo_25 : decode cX3_sendEnvoyTo 25 = .ok (.iconst 1, 1) := by decide +kernel
theorem dX3_sendEnvoyTo_26 : decode cX3_sendEnvoyTo 26 = .ok (.iadd, 1) := by decide +kernel
theorem dX3_sendEnvoyTo_27 : decode cX3_sendEnvoyTo 27 = .ok (.invokevirtual 83, 3) := by decide +kernel
theorem dX3_sendEnvoyTo_30 : decode cX3_sendEnvoyTo 30 = .ok (.aload_n 0, 1) := by decide +kernel
theorem dX3_sendEnvoyTo_31 : decode cX3_sendEnvoyTo 31 = .ok (.getfield 26, 3) := by decide +kernel
theorem dX3_sendEnvoyTo_34 : decode cX3_sendEnvoyTo 34 = .ok (.iload_n 1, 1) := by decide +kernel
theorem dX3_sendEnvoyTo_35 : decode cX3_sendEnvoyTo 35 = .ok (.invokevirtual 83, 3) := by decide +kernel
theorem dX3_sendEnvoyTo_38 : decode cX3_sendEnvoyTo 38 = .ok (.invokevirtual 87, 3) := by decide +kernel
theorem dX3_sendEnvoyTo_41 : decode cX3_sendEnvoyTo 41 = .ok (.ifCond .ne 6, 3) := by decide +kernel
theorem dX3_sendEnvoyTo_44 : decode cX3_sendEnvoyTo 44 = .ok (.bipush (-4), 2) := by decide +kernel
theorem dX3_sendEnvoyTo_46 : decode cX3_sendEnvoyTo 46 = .ok (.ireturn, 1) := by decide +kernel
theorem dX3_sendEnvoyTo_47 : decode cX3_sendEnvoyTo 47 = .ok (.aload_n 0, 1) := by decide +kernel
theorem dX3_sendEnvoyTo_48 : decode cX3_sendEnvoyTo 48 = .ok (.iload_n 1, 1) := by decide +kernel
theorem dX3_sendEnvoyTo_49 : decode cX3_sendEnvoyTo 49 = .ok (.invokevirtual 91, 3) := by decide +kernel
theorem dX3_sendEnvoyTo_52 : decode cX3_sendEnvoyTo 52 = .ok (.aload_n 0, 1) := by decide +kernel
theorem dX3_sendEnvoyTo_53 : decode cX3_sendEnvoyTo 53 = .ok (.getfield 26, 3) := by decide +kernel
theorem dX3_sendEnvoyTo_56 : decode cX3_sendEnvoyTo 56 = .ok (.iload_n 1, 1) := by decide +kernel
theorem dX3_sendEnvoyTo_57 : decode cX3_sendEnvoyTo 57 = .ok (.invokevirtual 83, 3) := by decide +kernel
theorem dX3_sendEnvoyTo_60 : decode cX3_sendEnvoyTo 60 = .ok (.ireturn, 1) := by decide +kernel
set_option maxRecDepth 20000 in
theorem ggX3_changeSetting_X3_isSetting : GoodIn wsX3_changeSetting wsX3_isSetting := goodIn_r _ [6] (by decide +kernel) (by decide +kernel)
set_option maxRecDepth 20000 in
theorem gX3_changeSetting_X3_isSetting : GoodIn wsX3_changeSetting (va_wsS RX3 94 yX3_isSetting wsX3_isSetting) := goodIn_app (goodIn_of _ (by decide +kernel)) ggX3_changeSetting_X3_isSetting
set_option maxRecDepth 20000 in
theorem ggX3_changeSetting_X2_size : GoodIn wsX3_changeSetting wsX2_size := goodIn_r _ [11, 12, 22, 23] (by decide +kernel) (by decide +kernel)
set_option maxRecDepth 20000 in
theorem gX3_changeSetting_X2_size : GoodIn wsX3_changeSetting (wsV RX3 79 RX2 yX2_size wsX2_size) := goodIn_app (goodIn_of _ (by decide +kernel)) ggX3_changeSetting_X2_size
theorem dX3_changeSetting_0 : decode cX3_changeSetting 0 = .ok (.iload_n 1, 1) := by decide +kernel
theorem dX3_changeSetting_1 : decode cX3_changeSetting 1 = .ok (.ifCond .lt 12, 3) := by decide +kernel
theorem dX3_changeSetting_4 : decode cX3_changeSetting 4 = .ok (.iload_n 1, 1) := by decide +kernel
theorem dX3_changeSetting_5 : decode cX3_changeSetting 5 = .ok (.aload_n 0, 1) := by decide +kernel
theorem dX3_changeSetting_6 : decode cX3_changeSetting 6 = .ok (.getfield 18, 3) := by decide +kernel
theorem dX3_changeSetting_9 : decode cX3_changeSetting 9 = .ok (.arraylength, 1) := by decide +kernel
theorem dX3_changeSetting_10 : decode cX3_changeSetting 10 = .ok (.if_icmp .lt 5, 3) := by decide +kernel
theorem dX3_changeSetting_13 : decode cX3_changeSetting 13 = .ok (.iconst (-1), 1) := by decide +kernel
theorem dX3_changeSetting_14 : decode cX3_changeSetting 14 = .ok (.ireturn, 1) := by decide +kernel
theorem dX3_changeSetting_15 : decode cX3_changeSetting 15 = .ok (.iload_n 1, 1) := by decide +kernel
theorem dX3_changeSetting_16 : decode cX3_changeSetting 16 = .ok (.iload_n 2, 1) := by decide +kernel
theorem dX3_changeSetting_17 : decode cX3_changeSetting 17 = .ok (.invokestatic 94, 3) := by decide +kernel
theorem dX3_changeSetting_20 : decode cX3_changeSetting 20 = .ok (.ifCond .ne 6, 3) := by decide +kernel
theorem dX3_changeSetting_23 : decode cX3_changeSetting 23 = .ok (.bipush (-2), 2) := by decide +kernel
theorem dX3_changeSetting_25 : decode cX3_changeSetting 25 = .ok (.ireturn, 1) := by decide +kernel
theorem dX3_changeSetting_26 : decode cX3_changeSetting 26 = .ok (.iload_n 1, 1) := by decide +kernel
theorem dX3_changeSetting_27 : decode cX3_changeSetting 27 = .ok (.ifCond .ne 17, 3) := by decide +kernel
theorem dX3_changeSetting_30 : decode cX3_changeSetting 30 = .ok (.iload_n 2, 1) := by decide +kernel
theorem dX3_changeSetting_31 : decode cX3_changeSetting 31 = .ok (.aload_n 0, 1) := by decide +kernel
theorem dX3_changeSetting_32 : decode cX3_changeSetting 32 = .ok (.getfield 26, 3) := by decide +kernel
theorem dX3_changeSetting_35 : decode cX3_changeSetting 35 = .ok (.invokevirtual 79, 3) := by decide +kernel
theorem dX3_changeSetting_38 : decode cX3_changeSetting 38 = .ok (.if_icmp .ge 6, 3) := by decide +kernel
theorem dX3_changeSetting_41 : decode cX3_changeSetting 41 = .ok (.bipush (-4), 2) := by decide +kernel
theorem dX3_changeSetting_43 : decode cX3_changeSetting 43 = .ok (.ireturn, 1) := by decide +kernel
theorem dX3_changeSetting_44 : decode cX3_changeSetting 44 = .ok (.aload_n 0, 1) := by decide +kernel
theorem dX3_changeSetting_45 : decode cX3_changeSetting 45 = .ok (.getfield 18, 3) := by decide +kernel
theorem dX3_changeSetting_48 : decode cX3_changeSetting 48 = .ok (.iload_n 1, 1) := by decide +kernel
theorem dX3_changeSetting_49 : decode cX3_changeSetting 49 = .ok (.iaload, 1) := by decide +kernel
theorem dX3_changeSetting_50 : decode cX3_changeSetting 50 = .ok (.istore_n 3, 1) := by decide +kernel
theorem dX3_changeSetting_51 : decode cX3_changeSetting 51 = .ok (.iload_n 3, 1) := by decide +kernel
theorem dX3_changeSetting_52 : decode cX3_changeSetting 52 = .ok (.iload_n 2, 1) := by decide +kernel
theorem dX3_changeSetting_53 : decode cX3_changeSetting 53 = .ok (.if_icmp .ne 6, 3) := by decide +kernel
theorem dX3_changeSetting_56 : decode cX3_changeSetting 56 = .ok (.bipush (-5), 2) := by decide +kernel
theorem dX3_changeSetting_58 : decode cX3_changeSetting 58 = .ok (.ireturn, 1) := by decide +kernel
theorem dX3_changeSetting_59 : decode cX3_changeSetting 59 = .ok (.aload_n 0, 1) := by decide +kernel
theorem dX3_changeSetting_60 : decode cX3_changeSetting 60 = .ok (.getfield 18, 3) := by decide +kernel
theorem dX3_changeSetting_63 : decode cX3_changeSetting 63 = .ok (.iload_n 1, 1) := by decide +kernel
theorem dX3_changeSetting_64 : decode cX3_changeSetting 64 = .ok (.iload_n 2, 1) := by decide +kernel
theorem dX3_changeSetting_65 : decode cX3_changeSetting 65 = .ok (.iastore, 1) := by decide +kernel
theorem dX3_changeSetting_66 : decode cX3_changeSetting 66 = .ok (.iload_n 3, 1) := by decide +kernel
theorem dX3_changeSetting_67 : decode cX3_changeSetting 67 = .ok (.ireturn, 1) := by decide +kernel
theorem dX3_isSetting_0 : decode cX3_isSetting 0 = .ok (.iload_n 0, 1) := by decide +kernel
theorem dX3_isSetting_1 : decode cX3_isSetting 1 = .ok (.tableswitch 77 0 2 #[27, 44, 61], 27) := by decide +kernel
theorem dX3_isSetting_28 : decode cX3_isSetting 28 = .ok (.iload_n 1, 1) := by decide +kernel
theorem dX3_isSetting_29 : decode cX3_isSetting 29 = .ok (.iconst 1, 1) := by decide +kernel
theorem dX3_isSetting_30 : decode cX3_isSetting 30 = .ok (.if_icmp .lt 13, 3) := by decide +kernel
theorem dX3_isSetting_33 : decode cX3_isSetting 33 = .ok (.iload_n 1, 1) := by decide +kernel
theorem dX3_isSetting_34 : decode cX3_isSetting 34 = .ok (.bipush 12, 2) := by decide +kernel
theorem dX3_isSetting_36 : decode cX3_isSetting 36 = .ok (.if_icmp .gt 7, 3) := by decide +kernel
theorem dX3_isSetting_39 : decode cX3_isSetting 39 = .ok (.iconst 1, 1) := by decide +kernel
theorem dX3_isSetting_40 : decode cX3_isSetting 40 = .ok (.goto 4, 3) := by decide +kernel
theorem dX3_isSetting_43 : decode cX3_isSetting 43 = .ok (.iconst 0, 1) := by decide +kernel
theorem dX3_isSetting_44 : decode cX3_isSetting 44 = .ok (.ireturn, 1) := by decide +kernel
theorem dX3_isSetting_45 : decode cX3_isSetting 45 = .ok (.iload_n 1, 1) := by decide +kernel
theorem dX3_isSetting_46 : decode cX3_isSetting 46 = .ok (.iconst 1, 1) := by decide +kernel
theorem dX3_isSetting_47 : decode cX3_isSetting 47 = .ok (.if_icmp .lt 13, 3) := by decide +kernel
theorem dX3_isSetting_50 : decode cX3_isSetting 50 = .ok (.iload_n 1, 1) := by decide +kernel
theorem dX3_isSetting_51 : decode cX3_isSetting 51 = .ok (.bipush 60, 2) := by decide +kernel
theorem dX3_isSetting_53 : decode cX3_isSetting 53 = .ok (.if_icmp .gt 7, 3) := by decide +kernel
theorem dX3_isSetting_56 : decode cX3_isSetting 56 = .ok (.iconst 1, 1) := by decide +kernel
theorem dX3_isSetting_57 : decode cX3_isSetting 57 = .ok (.goto 4, 3) := by decide +kernel
theorem dX3_isSetting_60 : decode cX3_isSetting 60 = .ok (.iconst 0, 1) := by decide +kernel
theorem dX3_isSetting_61 : decode cX3_isSetting 61 = .ok (.ireturn, 1) := by decide +kernel
theorem dX3_isSetting_62 : decode cX3_isSetting 62 = .ok (.iload_n 1, 1) := by decide +kernel
theorem dX3_isSetting_63 : decode cX3_isSetting 63 = .ok (.ifCond .lt 13, 3) := by decide +kernel
theorem dX3_isSetting_66 : decode cX3_isSetting 66 = .ok (.iload_n 1, 1) := by decide +kernel
theorem dX3_isSetting_67 : decode cX3_isSetting 67 = .ok (.bipush 9, 2) := by decide +kernel
theorem dX3_isSetting_69 : decode cX3_isSetting 69 = .ok (.if_icmp .gt 7, 3) := by decide +kernel
theorem dX3_isSetting_72 : decode cX3_isSetting 72 = .ok (.iconst 1, 1) := by decide +kernel
theorem dX3_isSetting_73 : decode cX3_isSetting 73 = .ok (.goto 4, 3) := by decide +kernel
theorem dX3_isSetting_76 : decode cX3_isSetting 76 = .ok (.iconst 0, 1) := by decide +kernel
theorem dX3_isSetting_77 : decode cX3_isSetting 77 = .ok (.ireturn, 1) := by decide +kernel
theorem dX3_isSetting_78 : decode cX3_isSetting 78 = .ok (.iload_n 1, 1) := by decide +kernel
theorem dX3_isSetting_79 : decode cX3_isSetting 79 = .ok (.iconst 1, 1) := by decide +kernel
theorem dX3_isSetting_80 : decode cX3_isSetting 80 = .ok (.if_icmp .lt 13, 3) := by decide +kernel
theorem dX3_isSetting_83 : decode cX3_isSetting 83 = .ok (.iload_n 1, 1) := by decide +kernel
theorem dX3_isSetting_84 : decode cX3_isSetting 84 = .ok (.bipush 9, 2) := by decide +kernel
theorem dX3_isSetting_86 : decode cX3_isSetting 86 = .ok (.if_icmp .gt 7, 3) := by decide +kernel
theorem dX3_isSetting_89 : decode cX3_isSetting 89 = .ok (.iconst 1, 1) := by decide +kernel
theorem dX3_isSetting_90 : decode cX3_isSetting 90 = .ok (.goto 4, 3) := by decide +kernel
theorem dX3_isSetting_93 : decode cX3_isSetting 93 = .ok (.iconst 0, 1) := by decide +kernel
theorem dX3_isSetting_94 : decode cX3_isSetting 94 = .ok (.ireturn, 1) := by decide +kernel
set_option maxRecDepth 20000 in
theorem ggX3_letPass_X3_receiveArrivals : GoodIn wsX3_letPass wsX3_receiveArrivals := goodIn_r _ [8, 9, 10, 11, 12, 13, 7, 14, 1, 15, 16, 17, 18, 19, 20, 21, 22, 23, 24, 25, 26, 27, 28, 29, 30, 31, 32, 33, 34, 35, 36, 37, 38, 39, 104, 105, 106, 107, 108, 109, 110, 111, 112, 113, 114] (by decide +kernel) (by decide +kernel)
set_option maxRecDepth 20000 in
theorem gX3_letPass_X3_receiveArrivals : GoodIn wsX3_letPass (wsV RX3 98 RX3 yX3_receiveArrivals wsX3_receiveArrivals) := goodIn_app (goodIn_of _ (by decide +kernel)) ggX3_letPass_X3_receiveArrivals
set_option maxRecDepth 20000 in
theorem ggX3_letPass_X3_letWaitersSit : GoodIn wsX3_letPass wsX3_letWaitersSit := goodIn_r _ [43, 44, 10, 45, 46, 47, 7, 48, 49, 50, 51, 52, 32, 53, 34, 54, 55, 56, 57, 35, 58, 59, 60, 61, 62, 63, 64, 65, 29, 30, 31, 33, 36, 37, 38, 39, 19, 20, 21, 22, 23, 9, 104, 105, 106, 107, 108, 109, 110, 111, 112, 113, 114] (by decide +kernel) (by decide +kernel)
set_option maxRecDepth 20000 in
theorem gX3_letPass_X3_letWaitersSit : GoodIn wsX3_letPass (wsV RX3 101 RX3 yX3_letWaitersSit wsX3_letWaitersSit) := goodIn_app (goodIn_of _ (by decide +kernel)) ggX3_letPass_X3_letWaitersSit
set_option maxRecDepth 20000 in
theorem ggX3_letPass_X3_isRoundDue : GoodIn wsX3_letPass wsX3_isRoundDue := goodIn_r _ [69, 1, 45, 46, 47, 7, 48, 49, 104, 105, 106, 107, 108, 109, 110, 111, 112] (by decide +kernel) (by decide +kernel)
set_option maxRecDepth 20000 in
theorem gX3_letPass_X3_isRoundDue : GoodIn wsX3_letPass (wsV RX3 104 RX3 yX3_isRoundDue wsX3_isRoundDue) := goodIn_app (goodIn_of _ (by decide +kernel)) ggX3_letPass_X3_isRoundDue
set_option maxRecDepth 20000 in
theorem ggX3_letPass_X3_holdRound : GoodIn wsX3_letPass wsX3_holdRound := goodIn_r _ [73, 3, 44, 50, 51, 52, 32, 53, 34, 54, 55, 56, 57, 35, 15, 16, 17, 7, 18, 19, 20, 21, 22, 23, 9, 36, 37, 38, 39, 74, 75, 76, 77, 24, 25, 26, 27, 28, 78, 79, 80, 81, 82, 83, 84, 85, 86, 63, 64, 65, 45, 46, 47, 48, 49, 87, 88, 89, 90, 91, 92, 93, 94, 95, 96, 97, 98, 99, 100, 101, 102, 103, 58, 59, 60, 61, 62, 104, 105, 106, 107, 108, 109, 110, 111, 112, 113, 114] (by decide +kernel) (by decide +kernel)
set_option maxRecDepth 20000 in
theorem gX3_letPass_X3_holdRound : GoodIn wsX3_letPass (wsV RX3 108 RX3 yX3_holdRound wsX3_holdRound) := goodIn_app (goodIn_of _ (by decide +kernel)) ggX3_letPass_X3_holdRound
theorem dX3_letPass_0 : decode cX3_letPass 0 = .ok (.iload_n 1, 1) := by decide +kernel
theorem dX3_letPass_1 : decode cX3_letPass 1 = .ok (.iconst 1, 1) := by decide +kernel
theorem dX3_letPass_2 : decode cX3_letPass 2 = .ok (.if_icmp .lt 9, 3) := by decide +kernel
theorem dX3_letPass_5 : decode cX3_letPass 5 = .ok (.iload_n 1, 1) := by decide +kernel
theorem dX3_letPass_6 : decode cX3_letPass 6 = .ok (.bipush 99, 2) := by decide +kernel
theorem dX3_letPass_8 : decode cX3_letPass 8 = .ok (.if_icmp .le 6, 3) := by decide +kernel
theorem dX3_letPass_11 : decode cX3_letPass 11 = .ok (.bipush (-2), 2) := by decide +kernel
theorem dX3_letPass_13 : decode cX3_letPass 13 = .ok (.ireturn, 1) := by decide +kernel
theorem dX3_letPass_14 : decode cX3_letPass 14 = .ok (.aload_n 0, 1) := by decide +kernel
theorem dX3_letPass_15 : decode cX3_letPass 15 = .ok (.getfield 37, 3) := by decide +kernel
theorem dX3_letPass_18 : decode cX3_letPass 18 = .ok (.iload_n 1, 1) := by decide +kernel
theorem dX3_letPass_19 : decode cX3_letPass 19 = .ok (.iadd, 1) := by decide +kernel
theorem dX3_letPass_20 : decode cX3_letPass 20 = .ok (.ldc 97, 2) := by decide +kernel
theorem dX3_letPass_22 : decode cX3_letPass 22 = .ok (.if_icmp .le 6, 3) := by decide +kernel
theorem dX3_letPass_25 : decode cX3_letPass 25 = .ok (.bipush (-3), 2) := by decide +kernel
theorem dX3_letPass_27 : decode cX3_letPass 27 = .ok (.ireturn, 1) := by decide +kernel
theorem dX3_letPass_28 : decode cX3_letPass 28 = .ok (.aload_n 0, 1) := by decide +kernel
theorem dX3_letPass_29 : decode cX3_letPass 29 = .ok (.getfield 40, 3) := by decide +kernel
theorem dX3_letPass_32 : decode cX3_letPass 32 = .ok (.istore_n 2, 1) := by decide +kernel
theorem dX3_letPass_33 : decode cX3_letPass 33 = .ok (.iconst 0, 1) := by decide +kernel
theorem dX3_letPass_34 : decode cX3_letPass 34 = .ok (.istore_n 3, 1) := by decide +kernel
theorem dX3_letPass_35 : decode cX3_letPass 35 = .ok (.iload_n 3, 1) := by decide +kernel
theorem dX3_letPass_36 : decode cX3_letPass 36 = .ok (.iload_n 1, 1) := by decide +kernel
theorem dX3_letPass_37 : decode cX3_letPass 37 = .ok (.if_icmp .ge 38, 3) := by decide +kernel
theorem dX3_letPass_40 : decode cX3_letPass 40 = .ok (.aload_n 0, 1) := by decide +kernel
theorem dX3_letPass_41 : decode cX3_letPass 41 = .ok (.invokevirtual 98, 3) := by decide +kernel
theorem dX3_letPass_44 : decode cX3_letPass 44 = .ok (.aload_n 0, 1) := by decide +kernel
theorem dX3_letPass_45 : decode cX3_letPass 45 = .ok (.invokevirtual 101, 3) := by decide +kernel
theorem dX3_letPass_48 : decode cX3_letPass 48 = .ok (.aload_n 0, 1) := by decide +kernel
theorem dX3_letPass_49 : decode cX3_letPass 49 = .ok (.invokevirtual 104, 3) := by decide +kernel
theorem dX3_letPass_52 : decode cX3_letPass 52 = .ok (.ifCond .eq 7, 3) := by decide +kernel
theorem dX3_letPass_55 : decode cX3_letPass 55 = .ok (.aload_n 0, 1) := by decide +kernel
theorem dX3_letPass_56 : decode cX3_letPass 56 = .ok (.invokevirtual 108, 3) := by decide +kernel
theorem dX3_letPass_59 : decode cX3_letPass 59 = .ok (.aload_n 0, 1) := by decide +kernel
theorem dX3_letPass_60 : decode cX3_letPass 60 = .ok (.dup, 1) := by decide +kernel
theorem dX3_letPass_61 : decode cX3_letPass 61 = .ok (.getfield 37, 3) := by decide +kernel
theorem dX3_letPass_64 : decode cX3_letPass 64 = .ok (.iconst 1, 1) := by decide +kernel
theorem dX3_letPass_65 : decode cX3_letPass 65 = .ok (.iadd, 1) := by decide +kernel
theorem dX3_letPass_66 : decode cX3_letPass 66 = .ok (.putfield 37, 3) := by decide +kernel
theorem dX3_letPass_69 : decode cX3_letPass 69 = .ok (.iinc 3 1, 3) := by decide +kernel
theorem dX3_letPass_72 : decode cX3_letPass 72 = .ok (.goto (-37), 3) := by decide +kernel
theorem dX3_letPass_75 : decode cX3_letPass 75 = .ok (.aload_n 0, 1) := by decide +kernel
theorem dX3_letPass_76 : decode cX3_letPass 76 = .ok (.getfield 40, 3) := by decide +kernel
theorem dX3_letPass_79 : decode cX3_letPass 79 = .ok (.iload_n 2, 1) := by decide +kernel
theorem dX3_letPass_80 : decode cX3_letPass 80 = .ok (.isub, 1) := by decide +kernel
theorem dX3_letPass_81 : decode cX3_letPass 81 = .ok (.ireturn, 1) := by decide +kernel
set_option maxRecDepth 20000 in
theorem ggX3_receiveArrivals_X3_greatestArrival : GoodIn wsX3_receiveArrivals wsX3_greatestArrival := goodIn_r _ [7, 1, 8, 9, 10, 11, 6, 12, 13, 14, 15, 16, 17, 18, 19, 20, 21, 22, 34, 35, 36, 37, 38, 39, 40, 41, 42] (by decide +kernel) (by decide +kernel)
set_option maxRecDepth 20000 in
theorem gX3_receiveArrivals_X3_greatestArrival : GoodIn wsX3_receiveArrivals (wsV RX3 111 RX3 yX3_greatestArrival wsX3_greatestArrival) := goodIn_app (goodIn_of _ (by decide +kernel)) ggX3_receiveArrivals_X3_greatestArrival
set_option maxRecDepth 20000 in
theorem ggX3_receiveArrivals_X2_add : GoodIn wsX3_receiveArrivals wsX2_add := goodIn_r _ [27, 28, 29, 43, 44] (by decide +kernel) (by decide +kernel)
set_option maxRecDepth 20000 in
theorem gX3_receiveArrivals_X2_add : GoodIn wsX3_receiveArrivals (wsV RX3 114 RX2 yX2_add wsX2_add) := goodIn_app (goodIn_of _ (by decide +kernel)) ggX3_receiveArrivals_X2_add
set_option maxRecDepth 20000 in
theorem ggX3_receiveArrivals_X3_setFact : GoodIn wsX3_receiveArrivals wsX3_setFact := goodIn_r _ [33, 13, 14, 15, 16, 6, 17, 1, 34, 35, 36, 37, 38, 39, 40, 41, 42] (by decide +kernel) (by decide +kernel)
set_option maxRecDepth 20000 in
theorem gX3_receiveArrivals_X3_setFact : GoodIn wsX3_receiveArrivals (wsV RX3 65 RX3 yX3_setFact wsX3_setFact) := goodIn_app (goodIn_of _ (by decide +kernel)) ggX3_receiveArrivals_X3_setFact
theorem dX3_receiveArrivals_0 : decode cX3_receiveArrivals 0 = .ok (.iconst 0, 1) := by decide +kernel
theorem dX3_receiveArrivals_1 : decode cX3_receiveArrivals 1 = .ok (.istore_n 1, 1) := by decide +kernel
theorem dX3_receiveArrivals_2 : decode cX3_receiveArrivals 2 = .ok (.iload_n 1, 1) := by decide +kernel
theorem dX3_receiveArrivals_3 : decode cX3_receiveArrivals 3 = .ok (.aload_n 0, 1) := by decide +kernel
theorem dX3_receiveArrivals_4 : decode cX3_receiveArrivals 4 = .ok (.getfield 33, 3) := by decide +kernel
theorem dX3_receiveArrivals_7 : decode cX3_receiveArrivals 7 = .ok (.if_icmp .ge 36, 3) := by decide +kernel
theorem dX3_receiveArrivals_10 : decode cX3_receiveArrivals 10 = .ok (.aload_n 0, 1) := by decide +kernel
theorem dX3_receiveArrivals_11 : decode cX3_receiveArrivals 11 = .ok (.invokevirtual 111, 3) := by decide +kernel
theorem dX3_receiveArrivals_14 : decode cX3_receiveArrivals 14 = .ok (.istore_n 2, 1) := by decide +kernel
theorem dX3_receiveArrivals_15 : decode cX3_receiveArrivals 15 = .ok (.iload_n 2, 1) := by decide +kernel
theorem dX3_receiveArrivals_16 : decode cX3_receiveArrivals 16 = .ok (.bipush (-5), 2) := by decide +kernel
theorem dX3_receiveArrivals_18 : decode cX3_receiveArrivals 18 = .ok (.if_icmp .ne 4, 3) := by decide +kernel
theorem dX3_receiveArrivals_21 : decode cX3_receiveArrivals 21 = .ok (.return_, 1) := by decide +kernel
theorem dX3_receiveArrivals_22 : decode cX3_receiveArrivals 22 = .ok (.aload_n 0, 1) := by decide +kernel
theorem dX3_receiveArrivals_23 : decode cX3_receiveArrivals 23 = .ok (.getfield 30, 3) := by decide +kernel
theorem dX3_receiveArrivals_26 : decode cX3_receiveArrivals 26 = .ok (.iload_n 2, 1) := by decide +kernel
theorem dX3_receiveArrivals_27 : decode cX3_receiveArrivals 27 = .ok (.invokevirtual 114, 3) := by decide +kernel
theorem dX3_receiveArrivals_30 : decode cX3_receiveArrivals 30 = .ok (.aload_n 0, 1) := by decide +kernel
theorem dX3_receiveArrivals_31 : decode cX3_receiveArrivals 31 = .ok (.iload_n 2, 1) := by decide +kernel
theorem dX3_receiveArrivals_32 : decode cX3_receiveArrivals 32 = .ok (.iconst 3, 1) := by decide +kernel
theorem dX3_receiveArrivals_33 : decode cX3_receiveArrivals 33 = .ok (.iconst 1, 1) := by decide +kernel
theorem dX3_receiveArrivals_34 : decode cX3_receiveArrivals 34 = .ok (.invokevirtual 65, 3) := by decide +kernel
theorem dX3_receiveArrivals_37 : decode cX3_receiveArrivals 37 = .ok (.iinc 1 1, 3) := by decide +kernel
theorem dX3_receiveArrivals_40 : decode cX3_receiveArrivals 40 = .ok (.goto (-38), 3) := by decide +kernel
theorem dX3_receiveArrivals_43 : decode cX3_receiveArrivals 43 = .ok (.return_, 1) := by decide +kernel
set_option maxRecDepth 20000 in
theorem ggX3_greatestArrival_X3_fact : GoodIn wsX3_greatestArrival wsX3_fact := goodIn_r _ [7, 8, 9, 10, 11, 6, 12, 1, 18, 19, 20, 21, 22, 23, 24, 25, 26] (by decide +kernel) (by decide +kernel)
set_option maxRecDepth 20000 in
theorem gX3_greatestArrival_X3_fact : GoodIn wsX3_greatestArrival (wsV RX3 72 RX3 yX3_fact wsX3_fact) := goodIn_app (goodIn_of _ (by decide +kernel)) ggX3_greatestArrival_X3_fact
set_option maxRecDepth 20000 in
theorem ggX3_greatestArrival_X3_isGreater : GoodIn wsX3_greatestArrival wsX3_isGreater := goodIn_r _ [16, 17, 18, 19, 20, 21, 22, 23, 24, 25, 26] (by decide +kernel) (by decide +kernel)
set_option maxRecDepth 20000 in
theorem gX3_greatestArrival_X3_isGreater : GoodIn wsX3_greatestArrival (wsV RX3 87 RX3 yX3_isGreater wsX3_isGreater) := goodIn_app (goodIn_of _ (by decide +kernel)) ggX3_greatestArrival_X3_isGreater
theorem dX3_greatestArrival_0 : decode cX3_greatestArrival 0 = .ok (.bipush (-5), 2) := by decide +kernel
theorem dX3_greatestArrival_2 : decode cX3_greatestArrival 2 = .ok (.istore_n 1, 1) := by decide +kernel
theorem dX3_greatestArrival_3 : decode cX3_greatestArrival 3 = .ok (.iconst 0, 1) := by decide +kernel
theorem dX3_greatestArrival_4 : decode cX3_greatestArrival 4 = .ok (.istore_n 2, 1) := by decide +kernel
theorem dX3_greatestArrival_5 : decode cX3_greatestArrival 5 = .ok (.iload_n 2, 1) := by decide +kernel
theorem dX3_greatestArrival_6 : decode cX3_greatestArrival 6 = .ok (.aload_n 0, 1) := by decide +kernel
theorem dX3_greatestArrival_7 : decode cX3_greatestArrival 7 = .ok (.getfield 33, 3) := by decide +kernel
theorem dX3_greatestArrival_10 : decode cX3_greatestArrival 10 = .ok (.if_icmp .ge 58, 3) := by decide +kernel
theorem dX3_greatestArrival_13 : decode cX3_greatestArrival 13 = .ok (.aload_n 0, 1) := by decide +kernel
theorem dX3_greatestArrival_14 : decode cX3_greatestArrival 14 = .ok (.iload_n 2, 1) := by decide +kernel
theorem dX3_greatestArrival_15 : decode cX3_greatestArrival 15 = .ok (.iconst 3, 1) := by decide +kernel
theorem dX3_greatestArrival_16 : decode cX3_greatestArrival 16 = .ok (.invokevirtual 72, 3) := by decide +kernel
theorem dX3_greatestArrival_19 : decode cX3_greatestArrival 19 = .ok (.ifCond .ne 20, 3) := by decide +kernel
theorem dX3_greatestArrival_22 : decode cX3_greatestArrival 22 = .ok (.aload_n 0, 1) := by decide +kernel
theorem dX3_greatestArrival_23 : decode cX3_greatestArrival 23 = .ok (.iload_n 2, 1) := by decide +kernel
theorem dX3_greatestArrival_24 : decode cX3_greatestArrival 24 = .ok (.iconst 2, 1) := by decide +kernel
theorem dX3_greatestArrival_25 : decode cX3_greatestArrival 25 = .ok (.invokevirtual 72, 3) := by decide +kernel
theorem dX3_greatestArrival_28 : decode cX3_greatestArrival 28 = .ok (.aload_n 0, 1) := by decide +kernel
theorem dX3_greatestArrival_29 : decode cX3_greatestArrival 29 = .ok (.getfield 37, 3) := by decide +kernel
theorem dX3_greatestArrival_32 : decode cX3_greatestArrival 32 = .ok (.if_icmp .ne 7, 3) := by decide +kernel
theorem dX3_greatestArrival_35 : decode cX3_greatestArrival 35 = .ok (.iconst 1, 1) := by decide +kernel
theorem dX3_greatestArrival_36 : decode cX3_greatestArrival 36 = .ok (.goto 4, 3) := by decide +kernel
theorem dX3_greatestArrival_39 : decode cX3_greatestArrival 39 = .ok (.iconst 0, 1) := by decide +kernel
theorem dX3_greatestArrival_40 : decode cX3_greatestArrival 40 = .ok (.istore_n 3, 1) := by decide +kernel
theorem dX3_greatestArrival_41 : decode cX3_greatestArrival 41 = .ok (.iload_n 3, 1) := by decide +kernel
theorem dX3_greatestArrival_42 : decode cX3_greatestArrival 42 = .ok (.ifCond .eq 20, 3) := by decide +kernel
theorem dX3_greatestArrival_45 : decode cX3_greatestArrival 45 = .ok (.iload_n 1, 1) := by decide +kernel
theorem dX3_greatestArrival_46 : decode cX3_greatestArrival 46 = .ok (.bipush (-5), 2) := by decide +kernel
theorem dX3_greatestArrival_48 : decode cX3_greatestArrival 48 = .ok (.if_icmp .eq 12, 3) := by decide +kernel
theorem dX3_greatestArrival_51 : decode cX3_greatestArrival 51 = .ok (.aload_n 0, 1) := by decide +kernel
theorem dX3_greatestArrival_52 : decode cX3_greatestArrival 52 = .ok (.iload_n 2, 1) := by decide +kernel
theorem dX3_greatestArrival_53 : decode cX3_greatestArrival 53 = .ok (.iload_n 1, 1) := by decide +kernel
theorem dX3_greatestArrival_54 : decode cX3_greatestArrival 54 = .ok (.invokevirtual 87, 3) := by decide +kernel
theorem dX3_greatestArrival_57 : decode cX3_greatestArrival 57 = .ok (.ifCond .eq 5, 3) := by decide +kernel
theorem dX3_greatestArrival_60 : decode cX3_greatestArrival 60 = .ok (.iload_n 2, 1) := by decide +kernel
theorem dX3_greatestArrival_61 : decode cX3_greatestArrival 61 = .ok (.istore_n 1, 1) := by decide +kernel
theorem dX3_greatestArrival_62 : decode cX3_greatestArrival 62 = .ok (.iinc 2 1, 3) := by decide +kernel
theorem dX3_greatestArrival_65 : decode cX3_greatestArrival 65 = .ok (.goto (-60), 3) := by decide +kernel
theorem dX3_greatestArrival_68 : decode cX3_greatestArrival 68 = .ok (.iload_n 1, 1) := by decide +kernel
theorem dX3_greatestArrival_69 : decode cX3_greatestArrival 69 = .ok (.ireturn, 1) := by decide +kernel
set_option maxRecDepth 20000 in
theorem ggX3_letWaitersSit_X3_setting : GoodIn wsX3_letWaitersSit wsX3_setting := goodIn_r _ [7, 8, 42, 43, 44, 45, 46, 47, 48, 49, 50] (by decide +kernel) (by decide +kernel)
set_option maxRecDepth 20000 in
theorem gX3_letWaitersSit_X3_setting : GoodIn wsX3_letWaitersSit (wsV RX3 117 RX3 yX3_setting wsX3_setting) := goodIn_app (goodIn_of _ (by decide +kernel)) ggX3_letWaitersSit_X3_setting
set_option maxRecDepth 20000 in
theorem ggX3_letWaitersSit_X2_size : GoodIn wsX3_letWaitersSit wsX2_size := goodIn_r _ [13, 14, 51, 52] (by decide +kernel) (by decide +kernel)
set_option maxRecDepth 20000 in
theorem gX3_letWaitersSit_X2_size : GoodIn wsX3_letWaitersSit (wsV RX3 79 RX2 yX2_size wsX2_size) := goodIn_app (goodIn_of _ (by decide +kernel)) ggX3_letWaitersSit_X2_size
set_option maxRecDepth 20000 in
theorem ggX3_letWaitersSit_X2_at : GoodIn wsX3_letWaitersSit wsX2_at := goodIn_r _ [18, 14, 19, 51, 52] (by decide +kernel) (by decide +kernel)
set_option maxRecDepth 20000 in
theorem gX3_letWaitersSit_X2_at : GoodIn wsX3_letWaitersSit (wsV RX3 83 RX2 yX2_at wsX2_at) := goodIn_app (goodIn_of _ (by decide +kernel)) ggX3_letWaitersSit_X2_at
set_option maxRecDepth 20000 in
theorem ggX3_letWaitersSit_X2_remove : GoodIn wsX3_letWaitersSit wsX2_remove := goodIn_r _ [23, 14, 19, 24, 25, 26, 12, 27, 51, 52] (by decide +kernel) (by decide +kernel)
set_option maxRecDepth 20000 in
theorem gX3_letWaitersSit_X2_remove : GoodIn wsX3_letWaitersSit (wsV RX3 76 RX2 yX2_remove wsX2_remove) := goodIn_app (goodIn_of _ (by decide +kernel)) ggX3_letWaitersSit_X2_remove
set_option maxRecDepth 20000 in
theorem ggX3_letWaitersSit_X2_add : GoodIn wsX3_letWaitersSit wsX2_add := goodIn_r _ [31, 14, 19, 51, 52] (by decide +kernel) (by decide +kernel)
set_option maxRecDepth 20000 in
theorem gX3_letWaitersSit_X2_add : GoodIn wsX3_letWaitersSit (wsV RX3 114 RX2 yX2_add wsX2_add) := goodIn_app (goodIn_of _ (by decide +kernel)) ggX3_letWaitersSit_X2_add
set_option maxRecDepth 20000 in
theorem ggX3_letWaitersSit_X3_setFact : GoodIn wsX3_letWaitersSit wsX3_setFact := goodIn_r _ [35, 36, 37, 38, 39, 6, 40, 41, 42, 43, 44, 45, 46, 47, 48, 49, 50] (by decide +kernel) (by decide +kernel)
set_option maxRecDepth 20000 in
theorem gX3_letWaitersSit_X3_setFact : GoodIn wsX3_letWaitersSit (wsV RX3 65 RX3 yX3_setFact wsX3_setFact) := goodIn_app (goodIn_of _ (by decide +kernel)) ggX3_letWaitersSit_X3_setFact
theorem dX3_letWaitersSit_0 : decode cX3_letWaitersSit 0 = .ok (.aload_n 0, 1) := by decide +kernel
theorem dX3_letWaitersSit_1 : decode cX3_letWaitersSit 1 = .ok (.iconst 0, 1) := by decide +kernel
theorem dX3_letWaitersSit_2 : decode cX3_letWaitersSit 2 = .ok (.invokevirtual 117, 3) := by decide +kernel
theorem dX3_letWaitersSit_5 : decode cX3_letWaitersSit 5 = .ok (.aload_n 0, 1) := by decide +kernel
theorem dX3_letWaitersSit_6 : decode cX3_letWaitersSit 6 = .ok (.getfield 26, 3) := by decide +kernel
theorem dX3_letWaitersSit_9 : decode cX3_letWaitersSit 9 = .ok (.invokevirtual 79, 3) := by decide +kernel
theorem dX3_letWaitersSit_12 : decode cX3_letWaitersSit 12 = .ok (.isub, 1) := by decide +kernel
theorem dX3_letWaitersSit_13 : decode cX3_letWaitersSit 13 = .ok (.istore_n 1, 1) := by decide +kernel
theorem dX3_letWaitersSit_14 : decode cX3_letWaitersSit 14 = .ok (.iload_n 1, 1) := by decide +kernel
theorem dX3_letWaitersSit_15 : decode cX3_letWaitersSit 15 = .ok (.ifCond .le 48, 3) := by decide +kernel
theorem dX3_letWaitersSit_18 : decode cX3_letWaitersSit 18 = .ok (.aload_n 0, 1) := by decide +kernel
theorem dX3_letWaitersSit_19 : decode cX3_letWaitersSit 19 = .ok (.getfield 30, 3) := by decide +kernel
theorem dX3_letWaitersSit_22 : decode cX3_letWaitersSit 22 = .ok (.iconst 0, 1) := by decide +kernel
theorem dX3_letWaitersSit_23 : decode cX3_letWaitersSit 23 = .ok (.invokevirtual 83, 3) := by decide +kernel
theorem dX3_letWaitersSit_26 : decode cX3_letWaitersSit 26 = .ok (.istore_n 2, 1) := by decide +kernel
theorem dX3_letWaitersSit_27 : decode cX3_letWaitersSit 27 = .ok (.iload_n 2, 1) := by decide +kernel
theorem dX3_letWaitersSit_28 : decode cX3_letWaitersSit 28 = .ok (.bipush (-5), 2) := by decide +kernel
theorem dX3_letWaitersSit_30 : decode cX3_letWaitersSit 30 = .ok (.if_icmp .ne 4, 3) := by decide +kernel
theorem dX3_letWaitersSit_33 : decode cX3_letWaitersSit 33 = .ok (.return_, 1) := by decide +kernel
theorem dX3_letWaitersSit_34 : decode cX3_letWaitersSit 34 = .ok (.aload_n 0, 1) := by decide +kernel
theorem dX3_letWaitersSit_35 : decode cX3_letWaitersSit 35 = .ok (.getfield 30, 3) := by decide +kernel
theorem dX3_letWaitersSit_38 : decode cX3_letWaitersSit 38 = .ok (.iload_n 2, 1) := by decide +kernel
theorem dX3_letWaitersSit_39 : decode cX3_letWaitersSit 39 = .ok (.invokevirtual 76, 3) := by decide +kernel
theorem dX3_letWaitersSit_42 : decode cX3_letWaitersSit 42 = .ok (.aload_n 0, 1) := by decide +kernel
theorem dX3_letWaitersSit_43 : decode cX3_letWaitersSit 43 = .ok (.getfield 26, 3) := by decide +kernel
theorem dX3_letWaitersSit_46 : decode cX3_letWaitersSit 46 = .ok (.iload_n 2, 1) := by decide +kernel
theorem dX3_letWaitersSit_47 : decode cX3_letWaitersSit 47 = .ok (.invokevirtual 114, 3) := by decide +kernel
theorem dX3_letWaitersSit_50 : decode cX3_letWaitersSit 50 = .ok (.aload_n 0, 1) := by decide +kernel
theorem dX3_letWaitersSit_51 : decode cX3_letWaitersSit 51 = .ok (.iload_n 2, 1) := by decide +kernel
theorem dX3_letWaitersSit_52 : decode cX3_letWaitersSit 52 = .ok (.iconst 3, 1) := by decide +kernel
theorem dX3_letWaitersSit_53 : decode cX3_letWaitersSit 53 = .ok (.iconst 2, 1) := by decide +kernel
theorem dX3_letWaitersSit_54 : decode cX3_letWaitersSit 54 = .ok (.invokevirtual 65, 3) := by decide +kernel
theorem dX3_letWaitersSit_57 : decode cX3_letWaitersSit 57 = .ok (.iinc 1 (-1), 3) := by decide +kernel
theorem dX3_letWaitersSit_60 : decode cX3_letWaitersSit 60 = .ok (.goto (-46), 3) := by decide +kernel
theorem dX3_letWaitersSit_63 : decode cX3_letWaitersSit 63 = .ok (.return_, 1) := by decide +kernel
set_option maxRecDepth 20000 in
theorem ggX3_isRoundDue_X3_setting : GoodIn wsX3_isRoundDue wsX3_setting := goodIn_r _ [6, 7, 8, 9, 10, 11, 12, 13, 14, 15, 16] (by decide +kernel) (by decide +kernel)
set_option maxRecDepth 20000 in
theorem gX3_isRoundDue_X3_setting : GoodIn wsX3_isRoundDue (wsV RX3 117 RX3 yX3_setting wsX3_setting) := goodIn_app (goodIn_of _ (by decide +kernel)) ggX3_isRoundDue_X3_setting
theorem dX3_isRoundDue_0 : decode cX3_isRoundDue 0 = .ok (.aload_n 0, 1) := by decide +kernel
theorem dX3_isRoundDue_1 : decode cX3_isRoundDue 1 = .ok (.iconst 1, 1) := by decide +kernel
theorem dX3_isRoundDue_2 : decode cX3_isRoundDue 2 = .ok (.invokevirtual 117, 3) := by decide +kernel
theorem dX3_isRoundDue_5 : decode cX3_isRoundDue 5 = .ok (.istore_n 1, 1) := by decide +kernel
theorem dX3_isRoundDue_6 : decode cX3_isRoundDue 6 = .ok (.iload_n 1, 1) := by decide +kernel
theorem dX3_isRoundDue_7 : decode cX3_isRoundDue 7 = .ok (.ifCond .le 18, 3) := by decide +kernel
theorem dX3_isRoundDue_10 : decode cX3_isRoundDue 10 = .ok (.aload_n 0, 1) := by decide +kernel
theorem dX3_isRoundDue_11 : decode cX3_isRoundDue 11 = .ok (.getfield 37, 3) := by decide +kernel
theorem dX3_isRoundDue_14 : decode cX3_isRoundDue 14 = .ok (.iconst 1, 1) := by decide +kernel
theorem dX3_isRoundDue_15 : decode cX3_isRoundDue 15 = .ok (.iadd, 1) := by decide +kernel
theorem dX3_isRoundDue_16 : decode cX3_isRoundDue 16 = .ok (.iload_n 1, 1) := by decide +kernel
theorem dX3_isRoundDue_17 : decode cX3_isRoundDue 17 = .ok (.irem, 1) := by decide +kernel
theorem dX3_isRoundDue_18 : decode cX3_isRoundDue 18 = .ok (.ifCond .ne 7, 3) := by decide +kernel
theorem dX3_isRoundDue_21 : decode cX3_isRoundDue 21 = .ok (.iconst 1, 1) := by decide +kernel
theorem dX3_isRoundDue_22 : decode cX3_isRoundDue 22 = .ok (.goto 4, 3) := by decide +kernel
theorem dX3_isRoundDue_25 : decode cX3_isRoundDue 25 = .ok (.iconst 0, 1) := by decide +kernel
theorem dX3_isRoundDue_26 : decode cX3_isRoundDue 26 = .ok (.ireturn, 1) := by decide +kernel
set_option maxRecDepth 20000 in
theorem ggX3_holdRound_X2_size : GoodIn wsX3_holdRound wsX2_size := goodIn_r _ [7, 8, 86, 87] (by decide +kernel) (by decide +kernel)
set_option maxRecDepth 20000 in
theorem gX3_holdRound_X2_size : GoodIn wsX3_holdRound (wsV RX3 79 RX2 yX2_size wsX2_size) := goodIn_app (goodIn_of _ (by decide +kernel)) ggX3_holdRound_X2_size
set_option maxRecDepth 20000 in
theorem ggX3_holdRound_X2_at : GoodIn wsX3_holdRound wsX2_at := goodIn_r _ [12, 8, 13, 86, 87] (by decide +kernel) (by decide +kernel)
set_option maxRecDepth 20000 in
theorem gX3_holdRound_X2_at : GoodIn wsX3_holdRound (wsV RX3 83 RX2 yX2_at wsX2_at) := goodIn_app (goodIn_of _ (by decide +kernel)) ggX3_holdRound_X2_at
set_option maxRecDepth 20000 in
theorem ggX3_holdRound_X3_fact : GoodIn wsX3_holdRound wsX3_fact := goodIn_r _ [18, 19, 20, 21, 22, 17, 23, 24, 77, 78, 79, 80, 81, 82, 83, 84, 85] (by decide +kernel) (by decide +kernel)
set_option maxRecDepth 20000 in
theorem gX3_holdRound_X3_fact : GoodIn wsX3_holdRound (wsV RX3 72 RX3 yX3_fact wsX3_fact) := goodIn_app (goodIn_of _ (by decide +kernel)) ggX3_holdRound_X3_fact
set_option maxRecDepth 20000 in
theorem ggX3_holdRound_X3_setFact : GoodIn wsX3_holdRound wsX3_setFact := goodIn_r _ [28, 19, 20, 21, 22, 17, 23, 24, 77, 78, 79, 80, 81, 82, 83, 84, 85] (by decide +kernel) (by decide +kernel)
set_option maxRecDepth 20000 in
theorem gX3_holdRound_X3_setFact : GoodIn wsX3_holdRound (wsV RX3 65 RX3 yX3_setFact wsX3_setFact) := goodIn_app (goodIn_of _ (by decide +kernel)) ggX3_holdRound_X3_setFact
set_option maxRecDepth 20000 in
theorem ggX3_holdRound_X3_firstWrongSeat : GoodIn wsX3_holdRound wsX3_firstWrongSeat := goodIn_r _ [32, 2, 3, 4, 5, 6, 7, 8, 9, 10, 11, 12, 13, 33, 34, 35, 17, 36, 37, 77, 78, 79, 80, 81, 82, 83, 84, 85, 86, 87] (by decide +kernel) (by decide +kernel)
set_option maxRecDepth 20000 in
theorem gX3_holdRound_X3_firstWrongSeat : GoodIn wsX3_holdRound (wsV RX3 120 RX3 yX3_firstWrongSeat wsX3_firstWrongSeat) := goodIn_app (goodIn_of _ (by decide +kernel)) ggX3_holdRound_X3_firstWrongSeat
set_option maxRecDepth 20000 in
theorem ggX3_holdRound_X3_slight : GoodIn wsX3_holdRound wsX3_slight := goodIn_r _ [41, 2, 3, 4, 5, 6, 7, 8, 9, 10, 11, 12, 13, 42, 43, 44, 17, 45, 46, 47, 48, 49, 33, 34, 35, 36, 37, 14, 15, 16, 18, 19, 20, 21, 22, 23, 24, 25, 26, 27, 28, 77, 78, 79, 80, 81, 82, 83, 84, 85, 86, 87] (by decide +kernel) (by decide +kernel)
set_option maxRecDepth 20000 in
theorem gX3_holdRound_X3_slight : GoodIn wsX3_holdRound (wsV RX3 123 RX3 yX3_slight wsX3_slight) := goodIn_app (goodIn_of _ (by decide +kernel)) ggX3_holdRound_X3_slight
set_option maxRecDepth 20000 in
theorem ggX3_holdRound_X3_setting : GoodIn wsX3_holdRound wsX3_setting := goodIn_r _ [53, 54, 77, 78, 79, 80, 81, 82, 83, 84, 85] (by decide +kernel) (by decide +kernel)
set_option maxRecDepth 20000 in
theorem gX3_holdRound_X3_setting : GoodIn wsX3_holdRound (wsV RX3 117 RX3 yX3_setting wsX3_setting) := goodIn_app (goodIn_of _ (by decide +kernel)) ggX3_holdRound_X3_setting
set_option maxRecDepth 20000 in
theorem ggX3_holdRound_X3_sendEnvoys : GoodIn wsX3_holdRound wsX3_sendEnvoys := goodIn_r _ [58, 29, 30, 31, 17, 32, 2, 3, 4, 5, 6, 7, 8, 9, 10, 11, 12, 13, 33, 34, 35, 36, 37, 59, 60, 61, 62, 63, 64, 65, 66, 67, 77, 78, 79, 80, 81, 82, 83, 84, 85, 86, 87] (by decide +kernel) (by decide +kernel)
set_option maxRecDepth 20000 in
theorem gX3_holdRound_X3_sendEnvoys : GoodIn wsX3_holdRound (wsV RX3 126 RX3 yX3_sendEnvoys wsX3_sendEnvoys) := goodIn_app (goodIn_of _ (by decide +kernel)) ggX3_holdRound_X3_sendEnvoys
set_option maxRecDepth 20000 in
theorem ggX3_holdRound_X3_letAngryLeave : GoodIn wsX3_holdRound wsX3_letAngryLeave := goodIn_r _ [71, 2, 3, 4, 5, 6, 7, 8, 9, 10, 11, 12, 13, 14, 15, 16, 17, 18, 19, 20, 21, 22, 23, 24, 50, 51, 52, 53, 54, 42, 43, 44, 45, 46, 47, 48, 49, 33, 34, 35, 36, 37, 25, 26, 27, 28, 72, 73, 74, 75, 76, 77, 78, 79, 80, 81, 82, 83, 84, 85, 86, 87] (by decide +kernel) (by decide +kernel)
set_option maxRecDepth 20000 in
theorem gX3_holdRound_X3_letAngryLeave : GoodIn wsX3_holdRound (wsV RX3 129 RX3 yX3_letAngryLeave wsX3_letAngryLeave) := goodIn_app (goodIn_of _ (by decide +kernel)) ggX3_holdRound_X3_letAngryLeave
theorem dX3_holdRound_0 : decode cX3_holdRound 0 = .ok (.aload_n 0, 1) := by decide +kernel
theorem dX3_holdRound_1 : decode cX3_holdRound 1 = .ok (.dup, 1) := by decide +kernel
theorem dX3_holdRound_2 : decode cX3_holdRound 2 = .ok (.getfield 40, 3) := by decide +kernel
theorem dX3_holdRound_5 : decode cX3_holdRound 5 = .ok (.iconst 1, 1) := by decide +kernel
theorem dX3_holdRound_6 : decode cX3_holdRound 6 = .ok (.iadd, 1) := by decide +kernel
theorem dX3_holdRound_7 : decode cX3_holdRound 7 = .ok (.putfield 40, 3) := by decide +kernel
theorem dX3_holdRound_10 : decode cX3_holdRound 10 = .ok (.iconst 0, 1) := by decide +kernel
theorem dX3_holdRound_11 : decode cX3_holdRound 11 = .ok (.istore_n 1, 1) := by decide +kernel
theorem dX3_holdRound_12 : decode cX3_holdRound 12 = .ok (.iload_n 1, 1) := by decide +kernel
theorem dX3_holdRound_13 : decode cX3_holdRound 13 = .ok (.aload_n 0, 1) := by decide +kernel
theorem dX3_holdRound_14 : decode cX3_holdRound 14 = .ok (.getfield 26, 3) := by decide +kernel
theorem dX3_holdRound_17 : decode cX3_holdRound 17 = .ok (.invokevirtual 79, 3) := by decide +kernel
theorem dX3_holdRound_20 : decode cX3_holdRound 20 = .ok (.if_icmp .ge 34, 3) := by decide +kernel
theorem dX3_holdRound_23 : decode cX3_holdRound 23 = .ok (.aload_n 0, 1) := by decide +kernel
theorem dX3_holdRound_24 : decode cX3_holdRound 24 = .ok (.getfield 26, 3) := by decide +kernel
theorem dX3_holdRound_27 : decode cX3_holdRound 27 = .ok (.iload_n 1, 1) := by decide +kernel
theorem dX3_holdRound_28 : decode cX3_holdRound 28 = .ok (.invokevirtual 83, 3) := by decide +kernel
theorem dX3_holdRound_31 : decode cX3_holdRound 31 = .ok (.istore_n 2, 1) := by decide +kernel
theorem dX3_holdRound_32 : decode cX3_holdRound 32 = .ok (.aload_n 0, 1) := by decide +kernel
theorem dX3_holdRound_33 : decode cX3_holdRound 33 = .ok (.iload_n 2, 1) := by decide +kernel
theorem dX3_holdRound_34 : decode cX3_holdRound 34 = .ok (.bipush 6, 2) := by decide +kernel
theorem dX3_holdRound_36 : decode cX3_holdRound 36 = .ok (.aload_n 0, 1) := by decide +kernel
theorem dX3_holdRound_37 : decode cX3_holdRound 37 = .ok (.iload_n 2, 1) := by decide +kernel
theorem dX3_holdRound_38 : decode cX3_holdRound 38 = .ok (.bipush 6, 2) := by decide +kernel
theorem dX3_holdRound_40 : decode cX3_holdRound 40 = .ok (.invokevirtual 72, 3) := by decide +kernel
theorem dX3_holdRound_43 : decode cX3_holdRound 43 = .ok (.iconst 1, 1) := by decide +kernel
theorem dX3_holdRound_44 : decode cX3_holdRound 44 = .ok (.iadd, 1) := by decide +kernel
theorem dX3_holdRound_45 : decode cX3_holdRound 45 = .ok (.invokevirtual 65, 3) := by decide +kernel
theorem dX3_holdRound_48 : decode cX3_holdRound 48 = .ok (.iinc 1 1, 3) := by decide +kernel
theorem dX3_holdRound_51 : decode cX3_holdRound 51 = .ok (.goto (-39), 3) := by decide +kernel
theorem dX3_holdRound_54 : decode cX3_holdRound 54 = .ok (.aload_n 0, 1) := by decide +kernel
theorem dX3_holdRound_55 : decode cX3_holdRound 55 = .ok (.invokevirtual 120, 3) := by decide +kernel
theorem dX3_holdRound_58 : decode cX3_holdRound 58 = .ok (.bipush (-5), 2) := by decide +kernel
theorem dX3_holdRound_60 : decode cX3_holdRound 60 = .ok (.if_icmp .eq 21, 3) := by decide +kernel
theorem dX3_holdRound_63 : decode cX3_holdRound 63 = .ok (.aload_n 0, 1) := by decide +kernel
theorem dX3_holdRound_64 : decode cX3_holdRound 64 = .ok (.invokevirtual 123, 3) := by decide +kernel
theorem dX3_holdRound_67 : decode cX3_holdRound 67 = .ok (.aload_n 0, 1) := by decide +kernel
theorem dX3_holdRound_68 : decode cX3_holdRound 68 = .ok (.aload_n 0, 1) := by decide +kernel
theorem dX3_holdRound_69 : decode cX3_holdRound 69 = .ok (.iconst 2, 1) := by decide +kernel
theorem dX3_holdRound_70 : decode cX3_holdRound 70 = .ok (.invokevirtual 117, 3) := by decide +kernel
theorem dX3_holdRound_73 : decode cX3_holdRound 73 = .ok (.invokevirtual 126, 3) := by decide +kernel
theorem dX3_holdRound_76 : decode cX3_holdRound 76 = .ok (.pop, 1) := by decide +kernel
theorem dX3_holdRound_77 : decode cX3_holdRound 77 = .ok (.aload_n 0, 1) := by decide +kernel
theorem dX3_holdRound_78 : decode cX3_holdRound 78 = .ok (.invokevirtual 129, 3) := by decide +kernel
theorem dX3_holdRound_81 : decode cX3_holdRound 81 = .ok (.return_, 1) := by decide +kernel
set_option maxRecDepth 20000 in
theorem ggX3_slight_X2_size : GoodIn wsX3_slight wsX2_size := goodIn_r _ [6, 7, 50, 51] (by decide +kernel) (by decide +kernel)
set_option maxRecDepth 20000 in
theorem gX3_slight_X2_size : GoodIn wsX3_slight (wsV RX3 79 RX2 yX2_size wsX2_size) := goodIn_app (goodIn_of _ (by decide +kernel)) ggX3_slight_X2_size
set_option maxRecDepth 20000 in
theorem ggX3_slight_X2_at : GoodIn wsX3_slight wsX2_at := goodIn_r _ [11, 7, 12, 50, 51] (by decide +kernel) (by decide +kernel)
set_option maxRecDepth 20000 in
theorem gX3_slight_X2_at : GoodIn wsX3_slight (wsV RX3 83 RX2 yX2_at wsX2_at) := goodIn_app (goodIn_of _ (by decide +kernel)) ggX3_slight_X2_at
set_option maxRecDepth 20000 in
theorem ggX3_slight_X3_isLesserAbove : GoodIn wsX3_slight wsX3_isLesserAbove := goodIn_r _ [17, 1, 18, 19, 20, 5, 21, 7, 12, 8, 9, 10, 11, 22, 23, 24, 16, 25, 26, 41, 42, 43, 44, 45, 46, 47, 48, 49, 50, 51] (by decide +kernel) (by decide +kernel)
set_option maxRecDepth 20000 in
theorem gX3_slight_X3_isLesserAbove : GoodIn wsX3_slight (wsV RX3 132 RX3 yX3_isLesserAbove wsX3_isLesserAbove) := goodIn_app (goodIn_of _ (by decide +kernel)) ggX3_slight_X3_isLesserAbove
set_option maxRecDepth 20000 in
theorem ggX3_slight_X3_fact : GoodIn wsX3_slight wsX3_fact := goodIn_r _ [30, 31, 32, 33, 34, 16, 35, 36, 41, 42, 43, 44, 45, 46, 47, 48, 49] (by decide +kernel) (by decide +kernel)
set_option maxRecDepth 20000 in
theorem gX3_slight_X3_fact : GoodIn wsX3_slight (wsV RX3 72 RX3 yX3_fact wsX3_fact) := goodIn_app (goodIn_of _ (by decide +kernel)) ggX3_slight_X3_fact
set_option maxRecDepth 20000 in
theorem ggX3_slight_X3_setFact : GoodIn wsX3_slight wsX3_setFact := goodIn_r _ [40, 31, 32, 33, 34, 16, 35, 36, 41, 42, 43, 44, 45, 46, 47, 48, 49] (by decide +kernel) (by decide +kernel)
set_option maxRecDepth 20000 in
theorem gX3_slight_X3_setFact : GoodIn wsX3_slight (wsV RX3 65 RX3 yX3_setFact wsX3_setFact) := goodIn_app (goodIn_of _ (by decide +kernel)) ggX3_slight_X3_setFact
theorem dX3_slight_0 : decode cX3_slight 0 = .ok (.iconst 0, 1) := by decide +kernel
theorem dX3_slight_1 : decode cX3_slight 1 = .ok (.istore_n 1, 1) := by decide +kernel
theorem dX3_slight_2 : decode cX3_slight 2 = .ok (.iload_n 1, 1) := by decide +kernel
theorem dX3_slight_3 : decode cX3_slight 3 = .ok (.aload_n 0, 1) := by decide +kernel
theorem dX3_slight_4 : decode cX3_slight 4 = .ok (.getfield 26, 3) := by decide +kernel
theorem dX3_slight_7 : decode cX3_slight 7 = .ok (.invokevirtual 79, 3) := by decide +kernel
theorem dX3_slight_10 : decode cX3_slight 10 = .ok (.if_icmp .ge 42, 3) := by decide +kernel
theorem dX3_slight_13 : decode cX3_slight 13 = .ok (.aload_n 0, 1) := by decide +kernel
theorem dX3_slight_14 : decode cX3_slight 14 = .ok (.getfield 26, 3) := by decide +kernel
theorem dX3_slight_17 : decode cX3_slight 17 = .ok (.iload_n 1, 1) := by decide +kernel
theorem dX3_slight_18 : decode cX3_slight 18 = .ok (.invokevirtual 83, 3) := by decide +kernel
theorem dX3_slight_21 : decode cX3_slight 21 = .ok (.istore_n 2, 1) := by decide +kernel
theorem dX3_slight_22 : decode cX3_slight 22 = .ok (.aload_n 0, 1) := by decide +kernel
theorem dX3_slight_23 : decode cX3_slight 23 = .ok (.iload_n 2, 1) := by decide +kernel
theorem dX3_slight_24 : decode cX3_slight 24 = .ok (.invokevirtual 132, 3) := by decide +kernel
theorem dX3_slight_27 : decode cX3_slight 27 = .ok (.ifCond .eq 19, 3) := by decide +kernel
theorem dX3_slight_30 : decode cX3_slight 30 = .ok (.aload_n 0, 1) := by decide +kernel
theorem dX3_slight_31 : decode cX3_slight 31 = .ok (.iload_n 2, 1) := by decide +kernel
theorem dX3_slight_32 : decode cX3_slight 32 = .ok (.bipush 7, 2) := by decide +kernel
theorem dX3_slight_34 : decode cX3_slight 34 = .ok (.aload_n 0, 1) := by decide +kernel
theorem dX3_slight_35 : decode cX3_slight 35 = .ok (.iload_n 2, 1) := by decide +kernel
theorem dX3_slight_36 : decode cX3_slight 36 = .ok (.bipush 7, 2) := by decide +kernel
theorem dX3_slight_38 : decode cX3_slight 38 = .ok (.invokevirtual 72, 3) := by decide +kernel
theorem dX3_slight_41 : decode cX3_slight 41 = .ok (.iconst 1, 1) := by decide +kernel
theorem dX3_slight_42 : decode cX3_slight 42 = .ok (.iadd, 1) := by decide +kernel
theorem dX3_slight_43 : decode cX3_slight 43 = .ok (.invokevirtual 65, 3) := by decide +kernel
theorem dX3_slight_46 : decode cX3_slight 46 = .ok (.iinc 1 1, 3) := by decide +kernel
theorem dX3_slight_49 : decode cX3_slight 49 = .ok (.goto (-47), 3) := by decide +kernel
theorem dX3_slight_52 : decode cX3_slight 52 = .ok (.return_, 1) := by decide +kernel
set_option maxRecDepth 20000 in
theorem ggX3_sendEnvoys_X3_firstWrongSeat : GoodIn wsX3_sendEnvoys wsX3_firstWrongSeat := goodIn_r _ [5, 6, 7, 8, 9, 10, 11, 12, 13, 14, 15, 16, 17, 18, 19, 20, 4, 21, 22, 32, 33, 34, 35, 36, 37, 38, 39, 40, 41, 42] (by decide +kernel) (by decide +kernel)
set_option maxRecDepth 20000 in
theorem gX3_sendEnvoys_X3_firstWrongSeat : GoodIn wsX3_sendEnvoys (wsV RX3 120 RX3 yX3_firstWrongSeat wsX3_firstWrongSeat) := goodIn_app (goodIn_of _ (by decide +kernel)) ggX3_sendEnvoys_X3_firstWrongSeat
set_option maxRecDepth 20000 in
theorem ggX3_sendEnvoys_X3_changeSeats : GoodIn wsX3_sendEnvoys wsX3_changeSeats := goodIn_r _ [26, 6, 27, 28, 29, 30, 10, 31, 12, 17, 32, 33, 34, 35, 36, 37, 38, 39, 40, 41, 42] (by decide +kernel) (by decide +kernel)
set_option maxRecDepth 20000 in
theorem gX3_sendEnvoys_X3_changeSeats : GoodIn wsX3_sendEnvoys (wsV RX3 91 RX3 yX3_changeSeats wsX3_changeSeats) := goodIn_app (goodIn_of _ (by decide +kernel)) ggX3_sendEnvoys_X3_changeSeats
theorem dX3_sendEnvoys_0 : decode cX3_sendEnvoys 0 = .ok (.iconst 0, 1) := by decide +kernel
theorem dX3_sendEnvoys_1 : decode cX3_sendEnvoys 1 = .ok (.istore_n 2, 1) := by decide +kernel
theorem dX3_sendEnvoys_2 : decode cX3_sendEnvoys 2 = .ok (.iload_n 2, 1) := by decide +kernel
theorem dX3_sendEnvoys_3 : decode cX3_sendEnvoys 3 = .ok (.iload_n 1, 1) := by decide +kernel
theorem dX3_sendEnvoys_4 : decode cX3_sendEnvoys 4 = .ok (.if_icmp .ge 27, 3) := by decide +kernel
theorem dX3_sendEnvoys_7 : decode cX3_sendEnvoys 7 = .ok (.aload_n 0, 1) := by decide +kernel
theorem dX3_sendEnvoys_8 : decode cX3_sendEnvoys 8 = .ok (.invokevirtual 120, 3) := by decide +kernel
theorem dX3_sendEnvoys_11 : decode cX3_sendEnvoys 11 = .ok (.istore_n 3, 1) := by decide +kernel
theorem dX3_sendEnvoys_12 : decode cX3_sendEnvoys 12 = .ok (.iload_n 3, 1) := by decide +kernel
theorem dX3_sendEnvoys_13 : decode cX3_sendEnvoys 13 = .ok (.bipush (-5), 2) := by decide +kernel
theorem dX3_sendEnvoys_15 : decode cX3_sendEnvoys 15 = .ok (.if_icmp .ne 5, 3) := by decide +kernel
theorem dX3_sendEnvoys_18 : decode cX3_sendEnvoys 18 = .ok (.iload_n 2, 1) := by decide +kernel
theorem dX3_sendEnvoys_19 : decode cX3_sendEnvoys 19 = .ok (.ireturn, 1) := by decide +kernel
theorem dX3_sendEnvoys_20 : decode cX3_sendEnvoys 20 = .ok (.aload_n 0, 1) := by decide +kernel
theorem dX3_sendEnvoys_21 : decode cX3_sendEnvoys 21 = .ok (.iload_n 3, 1) := by decide +kernel
theorem dX3_sendEnvoys_22 : decode cX3_sendEnvoys 22 = .ok (.invokevirtual 91, 3) := by decide +kernel
theorem dX3_sendEnvoys_25 : decode cX3_sendEnvoys 25 = .ok (.iinc 2 1, 3) := by decide +kernel
theorem dX3_sendEnvoys_28 : decode cX3_sendEnvoys 28 = .ok (.goto (-26), 3) := by decide +kernel
theorem dX3_sendEnvoys_31 : decode cX3_sendEnvoys 31 = .ok (.iload_n 1, 1) := by decide +kernel
theorem dX3_sendEnvoys_32 : decode cX3_sendEnvoys 32 = .ok (.ireturn, 1) := by decide +kernel
set_option maxRecDepth 20000 in
theorem ggX3_changeSeats_X2_changeNeighbours : GoodIn wsX3_changeSeats wsX2_changeNeighbours := goodIn_r _ [7, 8, 9, 19, 20] (by decide +kernel) (by decide +kernel)
set_option maxRecDepth 20000 in
theorem gX3_changeSeats_X2_changeNeighbours : GoodIn wsX3_changeSeats (wsV RX3 135 RX2 yX2_changeNeighbours wsX2_changeNeighbours) := goodIn_app (goodIn_of _ (by decide +kernel)) ggX3_changeSeats_X2_changeNeighbours
theorem dX3_changeSeats_0 : decode cX3_changeSeats 0 = .ok (.aload_n 0, 1) := by decide +kernel
theorem dX3_changeSeats_1 : decode cX3_changeSeats 1 = .ok (.getfield 26, 3) := by decide +kernel
theorem dX3_changeSeats_4 : decode cX3_changeSeats 4 = .ok (.iload_n 1, 1) := by decide +kernel
theorem dX3_changeSeats_5 : decode cX3_changeSeats 5 = .ok (.invokevirtual 135, 3) := by decide +kernel
theorem dX3_changeSeats_8 : decode cX3_changeSeats 8 = .ok (.aload_n 0, 1) := by decide +kernel
theorem dX3_changeSeats_9 : decode cX3_changeSeats 9 = .ok (.dup, 1) := by decide +kernel
theorem dX3_changeSeats_10 : decode cX3_changeSeats 10 = .ok (.getfield 43, 3) := by decide +kernel
theorem dX3_changeSeats_13 : decode cX3_changeSeats 13 = .ok (.iconst 1, 1) := by decide +kernel
theorem dX3_changeSeats_14 : decode cX3_changeSeats 14 = .ok (.iadd, 1) := by decide +kernel
theorem dX3_changeSeats_15 : decode cX3_changeSeats 15 = .ok (.putfield 43, 3) := by decide +kernel
theorem dX3_changeSeats_18 : decode cX3_changeSeats 18 = .ok (.return_, 1) := by decide +kernel
set_option maxRecDepth 20000 in
theorem ggX3_firstWrongSeat_X2_size : GoodIn wsX3_firstWrongSeat wsX2_size := goodIn_r _ [6, 7, 28, 29] (by decide +kernel) (by decide +kernel)
set_option maxRecDepth 20000 in
theorem gX3_firstWrongSeat_X2_size : GoodIn wsX3_firstWrongSeat (wsV RX3 79 RX2 yX2_size wsX2_size) := goodIn_app (goodIn_of _ (by decide +kernel)) ggX3_firstWrongSeat_X2_size
set_option maxRecDepth 20000 in
theorem ggX3_firstWrongSeat_X2_at : GoodIn wsX3_firstWrongSeat wsX2_at := goodIn_r _ [11, 7, 12, 28, 29] (by decide +kernel) (by decide +kernel)
set_option maxRecDepth 20000 in
theorem gX3_firstWrongSeat_X2_at : GoodIn wsX3_firstWrongSeat (wsV RX3 83 RX2 yX2_at wsX2_at) := goodIn_app (goodIn_of _ (by decide +kernel)) ggX3_firstWrongSeat_X2_at
set_option maxRecDepth 20000 in
theorem ggX3_firstWrongSeat_X3_isGreater : GoodIn wsX3_firstWrongSeat wsX3_isGreater := goodIn_r _ [17, 18, 19, 20, 21, 22, 23, 24, 25, 26, 27] (by decide +kernel) (by decide +kernel)
set_option maxRecDepth 20000 in
theorem gX3_firstWrongSeat_X3_isGreater : GoodIn wsX3_firstWrongSeat (wsV RX3 87 RX3 yX3_isGreater wsX3_isGreater) := goodIn_app (goodIn_of _ (by decide +kernel)) ggX3_firstWrongSeat_X3_isGreater
theorem dX3_firstWrongSeat_0 : decode cX3_firstWrongSeat 0 = .ok (.iconst 0, 1) := by decide +kernel
theorem dX3_firstWrongSeat_1 : decode cX3_firstWrongSeat 1 = .ok (.istore_n 1, 1) := by decide +kernel
theorem dX3_firstWrongSeat_2 : decode cX3_firstWrongSeat 2 = .ok (.iload_n 1, 1) := by decide +kernel
theorem dX3_firstWrongSeat_3 : decode cX3_firstWrongSeat 3 = .ok (.aload_n 0, 1) := by decide +kernel
theorem dX3_firstWrongSeat_4 : decode cX3_firstWrongSeat 4 = .ok (.getfield 26, 3) := by decide +kernel
theorem dX3_firstWrongSeat_7 : decode cX3_firstWrongSeat 7 = .ok (.invokevirtual 79, 3) := by decide +kernel
theorem dX3_firstWrongSeat_10 : decode cX3_firstWrongSeat 10 = .ok (.iconst 1, 1) := by decide +kernel
theorem dX3_firstWrongSeat_11 : decode cX3_firstWrongSeat 11 = .ok (.isub, 1) := by decide +kernel
theorem dX3_firstWrongSeat_12 : decode cX3_firstWrongSeat 12 = .ok (.if_icmp .ge 36, 3) := by decide +kernel
theorem dX3_firstWrongSeat_15 : decode cX3_firstWrongSeat 15 = .ok (.aload_n 0, 1) := by decide +kernel
theorem dX3_firstWrongSeat_16 : decode cX3_firstWrongSeat 16 = .ok (.aload_n 0, 1) := by decide +kernel
theorem dX3_firstWrongSeat_17 : decode cX3_firstWrongSeat 17 = .ok (.getfield 26, 3) := by decide +kernel
theorem dX3_firstWrongSeat_20 : decode cX3_firstWrongSeat 20 = .ok (.iload_n 1, 1) := by decide +kernel
theorem dX3_firstWrongSeat_21 : decode cX3_firstWrongSeat 21 = .ok (.iconst 1, 1) := by decide +kernel
theorem dX3_firstWrongSeat_22 : decode cX3_firstWrongSeat 22 = .ok (.iadd, 1) := by decide +kernel
theorem dX3_firstWrongSeat_23 : decode cX3_firstWrongSeat 23 = .ok (.invokevirtual 83, 3) := by decide +kernel
theorem dX3_firstWrongSeat_26 : decode cX3_firstWrongSeat 26 = .ok (.aload_n 0, 1) := by decide +kernel
theorem dX3_firstWrongSeat_27 : decode cX3_firstWrongSeat 27 = .ok (.getfield 26, 3) := by decide +kernel
theorem dX3_firstWrongSeat_30 : decode cX3_firstWrongSeat 30 = .ok (.iload_n 1, 1) := by decide +kernel
theorem dX3_firstWrongSeat_31 : decode cX3_firstWrongSeat 31 = .ok (.invokevirtual 83, 3) := by decide +kernel
theorem dX3_firstWrongSeat_34 : decode cX3_firstWrongSeat 34 = .ok (.invokevirtual 87, 3) := by decide +kernel
theorem dX3_firstWrongSeat_37 : decode cX3_firstWrongSeat 37 = .ok (.ifCond .eq 5, 3) := by decide +kernel
theorem dX3_firstWrongSeat_40 : decode cX3_firstWrongSeat 40 = .ok (.iload_n 1, 1) := by decide +kernel
theorem dX3_firstWrongSeat_41 : decode cX3_firstWrongSeat 41 = .ok (.ireturn, 1) := by decide +kernel
theorem dX3_firstWrongSeat_42 : decode cX3_firstWrongSeat 42 = .ok (.iinc 1 1, 3) := by decide +kernel
theorem dX3_firstWrongSeat_45 : decode cX3_firstWrongSeat 45 = .ok (.goto (-43), 3) := by decide +kernel
theorem dX3_firstWrongSeat_48 : decode cX3_firstWrongSeat 48 = .ok (.bipush (-5), 2) := by decide +kernel
theorem dX3_firstWrongSeat_50 : decode cX3_firstWrongSeat 50 = .ok (.ireturn, 1) := by decide +kernel
set_option maxRecDepth 20000 in
theorem ggX3_letAngryLeave_X2_size : GoodIn wsX3_letAngryLeave wsX2_size := goodIn_r _ [6, 7, 60, 61] (by decide +kernel) (by decide +kernel)
set_option maxRecDepth 20000 in
theorem gX3_letAngryLeave_X2_size : GoodIn wsX3_letAngryLeave (wsV RX3 79 RX2 yX2_size wsX2_size) := goodIn_app (goodIn_of _ (by decide +kernel)) ggX3_letAngryLeave_X2_size
set_option maxRecDepth 20000 in
theorem ggX3_letAngryLeave_X2_at : GoodIn wsX3_letAngryLeave wsX2_at := goodIn_r _ [11, 7, 12, 60, 61] (by decide +kernel) (by decide +kernel)
set_option maxRecDepth 20000 in
theorem gX3_letAngryLeave_X2_at : GoodIn wsX3_letAngryLeave (wsV RX3 83 RX2 yX2_at wsX2_at) := goodIn_app (goodIn_of _ (by decide +kernel)) ggX3_letAngryLeave_X2_at
set_option maxRecDepth 20000 in
theorem ggX3_letAngryLeave_X3_fact : GoodIn wsX3_letAngryLeave wsX3_fact := goodIn_r _ [17, 18, 19, 20, 21, 16, 22, 23, 51, 52, 53, 54, 55, 56, 57, 58, 59] (by decide +kernel) (by decide +kernel)
set_option maxRecDepth 20000 in
theorem gX3_letAngryLeave_X3_fact : GoodIn wsX3_letAngryLeave (wsV RX3 72 RX3 yX3_fact wsX3_fact) := goodIn_app (goodIn_of _ (by decide +kernel)) ggX3_letAngryLeave_X3_fact
set_option maxRecDepth 20000 in
theorem ggX3_letAngryLeave_X3_setting : GoodIn wsX3_letAngryLeave wsX3_setting := goodIn_r _ [27, 28, 51, 52, 53, 54, 55, 56, 57, 58, 59] (by decide +kernel) (by decide +kernel)
set_option maxRecDepth 20000 in
theorem gX3_letAngryLeave_X3_setting : GoodIn wsX3_letAngryLeave (wsV RX3 117 RX3 yX3_setting wsX3_setting) := goodIn_app (goodIn_of _ (by decide +kernel)) ggX3_letAngryLeave_X3_setting
set_option maxRecDepth 20000 in
theorem ggX3_letAngryLeave_X3_isLesserAbove : GoodIn wsX3_letAngryLeave wsX3_isLesserAbove := goodIn_r _ [32, 1, 33, 34, 35, 5, 36, 7, 12, 8, 9, 10, 11, 37, 38, 39, 16, 40, 41, 51, 52, 53, 54, 55, 56, 57, 58, 59, 60, 61] (by decide +kernel) (by decide +kernel)
set_option maxRecDepth 20000 in
theorem gX3_letAngryLeave_X3_isLesserAbove : GoodIn wsX3_letAngryLeave (wsV RX3 132 RX3 yX3_isLesserAbove wsX3_isLesserAbove) := goodIn_app (goodIn_of _ (by decide +kernel)) ggX3_letAngryLeave_X3_isLesserAbove
set_option maxRecDepth 20000 in
theorem ggX3_letAngryLeave_X3_setFact : GoodIn wsX3_letAngryLeave wsX3_setFact := goodIn_r _ [45, 18, 19, 20, 21, 16, 22, 23, 51, 52, 53, 54, 55, 56, 57, 58, 59] (by decide +kernel) (by decide +kernel)
set_option maxRecDepth 20000 in
theorem gX3_letAngryLeave_X3_setFact : GoodIn wsX3_letAngryLeave (wsV RX3 65 RX3 yX3_setFact wsX3_setFact) := goodIn_app (goodIn_of _ (by decide +kernel)) ggX3_letAngryLeave_X3_setFact
set_option maxRecDepth 20000 in
theorem ggX3_letAngryLeave_X2_remove : GoodIn wsX3_letAngryLeave wsX2_remove := goodIn_r _ [49, 7, 12, 50, 34, 35, 5, 36, 60, 61] (by decide +kernel) (by decide +kernel)
set_option maxRecDepth 20000 in
theorem gX3_letAngryLeave_X2_remove : GoodIn wsX3_letAngryLeave (wsV RX3 76 RX2 yX2_remove wsX2_remove) := goodIn_app (goodIn_of _ (by decide +kernel)) ggX3_letAngryLeave_X2_remove
theorem dX3_letAngryLeave_0 : decode cX3_letAngryLeave 0 = .ok (.iconst 0, 1) := by decide +kernel
theorem dX3_letAngryLeave_1 : decode cX3_letAngryLeave 1 = .ok (.istore_n 1, 1) := by decide +kernel
theorem dX3_letAngryLeave_2 : decode cX3_letAngryLeave 2 = .ok (.iload_n 1, 1) := by decide +kernel
theorem dX3_letAngryLeave_3 : decode cX3_letAngryLeave 3 = .ok (.aload_n 0, 1) := by decide +kernel
theorem dX3_letAngryLeave_4 : decode cX3_letAngryLeave 4 = .ok (.getfield 26, 3) := by decide +kernel
theorem dX3_letAngryLeave_7 : decode cX3_letAngryLeave 7 = .ok (.invokevirtual 79, 3) := by decide +kernel
theorem dX3_letAngryLeave_10 : decode cX3_letAngryLeave 10 = .ok (.if_icmp .ge 49, 3) := by decide +kernel
theorem dX3_letAngryLeave_13 : decode cX3_letAngryLeave 13 = .ok (.aload_n 0, 1) := by decide +kernel
theorem dX3_letAngryLeave_14 : decode cX3_letAngryLeave 14 = .ok (.getfield 26, 3) := by decide +kernel
theorem dX3_letAngryLeave_17 : decode cX3_letAngryLeave 17 = .ok (.iload_n 1, 1) := by decide +kernel
theorem dX3_letAngryLeave_18 : decode cX3_letAngryLeave 18 = .ok (.invokevirtual 83, 3) := by decide +kernel
theorem dX3_letAngryLeave_21 : decode cX3_letAngryLeave 21 = .ok (.istore_n 2, 1) := by decide +kernel
theorem dX3_letAngryLeave_22 : decode cX3_letAngryLeave 22 = .ok (.aload_n 0, 1) := by decide +kernel
theorem dX3_letAngryLeave_23 : decode cX3_letAngryLeave 23 = .ok (.iload_n 2, 1) := by decide +kernel
theorem dX3_letAngryLeave_24 : decode cX3_letAngryLeave 24 = .ok (.bipush 7, 2) := by decide +kernel
theorem dX3_letAngryLeave_26 : decode cX3_letAngryLeave 26 = .ok (.invokevirtual 72, 3) := by decide +kernel
theorem dX3_letAngryLeave_29 : decode cX3_letAngryLeave 29 = .ok (.aload_n 0, 1) := by decide +kernel
theorem dX3_letAngryLeave_30 : decode cX3_letAngryLeave 30 = .ok (.iconst 3, 1) := by decide +kernel
theorem dX3_letAngryLeave_31 : decode cX3_letAngryLeave 31 = .ok (.invokevirtual 117, 3) := by decide +kernel
theorem dX3_letAngryLeave_34 : decode cX3_letAngryLeave 34 = .ok (.if_icmp .lt 19, 3) := by decide +kernel
theorem dX3_letAngryLeave_37 : decode cX3_letAngryLeave 37 = .ok (.aload_n 0, 1) := by decide +kernel
theorem dX3_letAngryLeave_38 : decode cX3_letAngryLeave 38 = .ok (.iload_n 2, 1) := by decide +kernel
theorem dX3_letAngryLeave_39 : decode cX3_letAngryLeave 39 = .ok (.invokevirtual 132, 3) := by decide +kernel
theorem dX3_letAngryLeave_42 : decode cX3_letAngryLeave 42 = .ok (.ifCond .eq 11, 3) := by decide +kernel
theorem dX3_letAngryLeave_45 : decode cX3_letAngryLeave 45 = .ok (.aload_n 0, 1) := by decide +kernel
theorem dX3_letAngryLeave_46 : decode cX3_letAngryLeave 46 = .ok (.iload_n 2, 1) := by decide +kernel
theorem dX3_letAngryLeave_47 : decode cX3_letAngryLeave 47 = .ok (.bipush 8, 2) := by decide +kernel
theorem dX3_letAngryLeave_49 : decode cX3_letAngryLeave 49 = .ok (.iconst 1, 1) := by decide +kernel
theorem dX3_letAngryLeave_50 : decode cX3_letAngryLeave 50 = .ok (.invokevirtual 65, 3) := by decide +kernel
theorem dX3_letAngryLeave_53 : decode cX3_letAngryLeave 53 = .ok (.iinc 1 1, 3) := by decide +kernel
theorem dX3_letAngryLeave_56 : decode cX3_letAngryLeave 56 = .ok (.goto (-54), 3) := by decide +kernel
theorem dX3_letAngryLeave_59 : decode cX3_letAngryLeave 59 = .ok (.aload_n 0, 1) := by decide +kernel
theorem dX3_letAngryLeave_60 : decode cX3_letAngryLeave 60 = .ok (.getfield 26, 3) := by decide +kernel
theorem dX3_letAngryLeave_63 : decode cX3_letAngryLeave 63 = .ok (.invokevirtual 79, 3) := by decide +kernel
theorem dX3_letAngryLeave_66 : decode cX3_letAngryLeave 66 = .ok (.iconst 1, 1) := by decide +kernel
theorem dX3_letAngryLeave_67 : decode cX3_letAngryLeave 67 = .ok (.isub, 1) := by decide +kernel
theorem dX3_letAngryLeave_68 : decode cX3_letAngryLeave 68 = .ok (.istore_n 1, 1) := by decide +kernel
theorem dX3_letAngryLeave_69 : decode cX3_letAngryLeave 69 = .ok (.iload_n 1, 1) := by decide +kernel
theorem dX3_letAngryLeave_70 : decode cX3_letAngryLeave 70 = .ok (.ifCond .lt 44, 3) := by decide +kernel
theorem dX3_letAngryLeave_73 : decode cX3_letAngryLeave 73 = .ok (.aload_n 0, 1) := by decide +kernel
theorem dX3_letAngryLeave_74 : decode cX3_letAngryLeave 74 = .ok (.getfield 26, 3) := by decide +kernel
theorem dX3_letAngryLeave_77 : decode cX3_letAngryLeave 77 = .ok (.iload_n 1, 1) := by decide +kernel
theorem dX3_letAngryLeave_78 : decode cX3_letAngryLeave 78 = .ok (.invokevirtual 83, 3) := by decide +kernel
theorem dX3_letAngryLeave_81 : decode cX3_letAngryLeave 81 = .ok (.istore_n 2, 1) := by decide +kernel
theorem dX3_letAngryLeave_82 : decode cX3_letAngryLeave 82 = .ok (.aload_n 0, 1) := by decide +kernel
theorem dX3_letAngryLeave_83 : decode cX3_letAngryLeave 83 = .ok (.iload_n 2, 1) := by decide +kernel
theorem dX3_letAngryLeave_84 : decode cX3_letAngryLeave 84 = .ok (.bipush 8, 2) := by decide +kernel
theorem dX3_letAngryLeave_86 : decode cX3_letAngryLeave 86 = .ok (.invokevirtual 72, 3) := by decide +kernel
theorem dX3_letAngryLeave_89 : decode cX3_letAngryLeave 89 = .ok (.iconst 1, 1) := by decide +kernel
theorem dX3_letAngryLeave_90 : decode cX3_letAngryLeave 90 = .ok (.if_icmp .ne 18, 3) := by decide +kernel
theorem dX3_letAngryLeave_93 : decode cX3_letAngryLeave 93 = .ok (.aload_n 0, 1) := by decide +kernel
theorem dX3_letAngryLeave_94 : decode cX3_letAngryLeave 94 = .ok (.getfield 26, 3) := by decide +kernel
theorem dX3_letAngryLeave_97 : decode cX3_letAngryLeave 97 = .ok (.iload_n 2, 1) := by decide +kernel
theorem dX3_letAngryLeave_98 : decode cX3_letAngryLeave 98 = .ok (.invokevirtual 76, 3) := by decide +kernel
theorem dX3_letAngryLeave_101 : decode cX3_letAngryLeave 101 = .ok (.aload_n 0, 1) := by decide +kernel
theorem dX3_letAngryLeave_102 : decode cX3_letAngryLeave 102 = .ok (.iload_n 2, 1) := by decide +kernel
theorem dX3_letAngryLeave_103 : decode cX3_letAngryLeave 103 = .ok (.iconst 3, 1) := by decide +kernel
theorem dX3_letAngryLeave_104 : decode cX3_letAngryLeave 104 = .ok (.iconst 3, 1) := by decide +kernel
theorem dX3_letAngryLeave_105 : decode cX3_letAngryLeave 105 = .ok (.invokevirtual 65, 3) := by decide +kernel
theorem dX3_letAngryLeave_108 : decode cX3_letAngryLeave 108 = .ok (.iinc 1 (-1), 3) := by decide +kernel
theorem dX3_letAngryLeave_111 : decode cX3_letAngryLeave 111 = .ok (.goto (-42), 3) := by decide +kernel
theorem dX3_letAngryLeave_114 : decode cX3_letAngryLeave 114 = .ok (.return_, 1) := by decide +kernel
set_option maxRecDepth 20000 in
theorem ggX3_isLesserAbove_X2_placeOf : GoodIn wsX3_isLesserAbove wsX2_placeOf := goodIn_r _ [6, 7, 8, 28, 29] (by decide +kernel) (by decide +kernel)
set_option maxRecDepth 20000 in
theorem gX3_isLesserAbove_X2_placeOf : GoodIn wsX3_isLesserAbove (wsV RX3 138 RX2 yX2_placeOf wsX2_placeOf) := goodIn_app (goodIn_of _ (by decide +kernel)) ggX3_isLesserAbove_X2_placeOf
set_option maxRecDepth 20000 in
theorem ggX3_isLesserAbove_X2_at : GoodIn wsX3_isLesserAbove wsX2_at := goodIn_r _ [12, 7, 8, 28, 29] (by decide +kernel) (by decide +kernel)
set_option maxRecDepth 20000 in
theorem gX3_isLesserAbove_X2_at : GoodIn wsX3_isLesserAbove (wsV RX3 83 RX2 yX2_at wsX2_at) := goodIn_app (goodIn_of _ (by decide +kernel)) ggX3_isLesserAbove_X2_at
set_option maxRecDepth 20000 in
theorem ggX3_isLesserAbove_X3_isGreater : GoodIn wsX3_isLesserAbove wsX3_isGreater := goodIn_r _ [17, 18, 19, 20, 21, 22, 23, 24, 25, 26, 27] (by decide +kernel) (by decide +kernel)
set_option maxRecDepth 20000 in
theorem gX3_isLesserAbove_X3_isGreater : GoodIn wsX3_isLesserAbove (wsV RX3 87 RX3 yX3_isGreater wsX3_isGreater) := goodIn_app (goodIn_of _ (by decide +kernel)) ggX3_isLesserAbove_X3_isGreater
theorem dX3_isLesserAbove_0 : decode cX3_isLesserAbove 0 = .ok (.aload_n 0, 1) := by decide +kernel
theorem dX3_isLesserAbove_1 : decode cX3_isLesserAbove 1 = .ok (.getfield 26, 3) := by decide +kernel
theorem dX3_isLesserAbove_4 : decode cX3_isLesserAbove 4 = .ok (.iload_n 1, 1) := by decide +kernel
theorem dX3_isLesserAbove_5 : decode cX3_isLesserAbove 5 = .ok (.invokevirtual 138, 3) := by decide +kernel
theorem dX3_isLesserAbove_8 : decode cX3_isLesserAbove 8 = .ok (.istore_n 2, 1) := by decide +kernel
theorem dX3_isLesserAbove_9 : decode cX3_isLesserAbove 9 = .ok (.iconst 0, 1) := by decide +kernel
theorem dX3_isLesserAbove_10 : decode cX3_isLesserAbove 10 = .ok (.istore_n 3, 1) := by decide +kernel
theorem dX3_isLesserAbove_11 : decode cX3_isLesserAbove 11 = .ok (.iload_n 3, 1) := by decide +kernel
theorem dX3_isLesserAbove_12 : decode cX3_isLesserAbove 12 = .ok (.iload_n 2, 1) := by decide +kernel
theorem dX3_isLesserAbove_13 : decode cX3_isLesserAbove 13 = .ok (.if_icmp .ge 27, 3) := by decide +kernel
theorem dX3_isLesserAbove_16 : decode cX3_isLesserAbove 16 = .ok (.aload_n 0, 1) := by decide +kernel
theorem dX3_isLesserAbove_17 : decode cX3_isLesserAbove 17 = .ok (.iload_n 1, 1) := by decide +kernel
theorem dX3_isLesserAbove_18 : decode cX3_isLesserAbove 18 = .ok (.aload_n 0, 1) := by decide +kernel
theorem dX3_isLesserAbove_19 : decode cX3_isLesserAbove 19 = .ok (.getfield 26, 3) := by decide +kernel
theorem dX3_isLesserAbove_22 : decode cX3_isLesserAbove 22 = .ok (.iload_n 3, 1) := by decide +kernel
theorem dX3_isLesserAbove_23 : decode cX3_isLesserAbove 23 = .ok (.invokevirtual 83, 3) := by decide +kernel
theorem dX3_isLesserAbove_26 : decode cX3_isLesserAbove 26 = .ok (.invokevirtual 87, 3) := by decide +kernel
theorem dX3_isLesserAbove_29 : decode cX3_isLesserAbove 29 = .ok (.ifCond .eq 5, 3) := by decide +kernel
theorem dX3_isLesserAbove_32 : decode cX3_isLesserAbove 32 = .ok (.iconst 1, 1) := by decide +kernel
theorem dX3_isLesserAbove_33 : decode cX3_isLesserAbove 33 = .ok (.ireturn, 1) := by decide +kernel
theorem dX3_isLesserAbove_34 : decode cX3_isLesserAbove 34 = .ok (.iinc 3 1, 3) := by decide +kernel
theorem dX3_isLesserAbove_37 : decode cX3_isLesserAbove 37 = .ok (.goto (-26), 3) := by decide +kernel
theorem dX3_isLesserAbove_40 : decode cX3_isLesserAbove 40 = .ok (.iconst 0, 1) := by decide +kernel
theorem dX3_isLesserAbove_41 : decode cX3_isLesserAbove 41 = .ok (.ireturn, 1) := by decide +kernel
theorem dX3_isGreater_0 : decode cX3_isGreater 0 = .ok (.iload_n 1, 1) := by decide +kernel
theorem dX3_isGreater_1 : decode cX3_isGreater 1 = .ok (.ifCond .lt 44, 3) := by decide +kernel
theorem dX3_isGreater_4 : decode cX3_isGreater 4 = .ok (.iload_n 1, 1) := by decide +kernel
theorem dX3_isGreater_5 : decode cX3_isGreater 5 = .ok (.aload_n 0, 1) := by decide +kernel
theorem dX3_isGreater_6 : decode cX3_isGreater 6 = .ok (.getfield 15, 3) := by decide +kernel
theorem dX3_isGreater_9 : decode cX3_isGreater 9 = .ok (.arraylength, 1) := by decide +kernel
theorem dX3_isGreater_10 : decode cX3_isGreater 10 = .ok (.if_icmp .ge 35, 3) := by decide +kernel
theorem dX3_isGreater_13 : decode cX3_isGreater 13 = .ok (.iload_n 2, 1) := by decide +kernel
theorem dX3_isGreater_14 : decode cX3_isGreater 14 = .ok (.ifCond .lt 31, 3) := by decide +kernel
theorem dX3_isGreater_17 : decode cX3_isGreater 17 = .ok (.iload_n 2, 1) := by decide +kernel
theorem dX3_isGreater_18 : decode cX3_isGreater 18 = .ok (.aload_n 0, 1) := by decide +kernel
theorem dX3_isGreater_19 : decode cX3_isGreater 19 = .ok (.getfield 15, 3) := by decide +kernel
theorem dX3_isGreater_22 : decode cX3_isGreater 22 = .ok (.arraylength, 1) := by decide +kernel
theorem dX3_isGreater_23 : decode cX3_isGreater 23 = .ok (.if_icmp .ge 22, 3) := by decide +kernel
theorem dX3_isGreater_26 : decode cX3_isGreater 26 = .ok (.aload_n 0, 1) := by decide +kernel
theorem dX3_isGreater_27 : decode cX3_isGreater 27 = .ok (.getfield 15, 3) := by decide +kernel
theorem dX3_isGreater_30 : decode cX3_isGreater 30 = .ok (.iload_n 1, 1) := by decide +kernel
theorem dX3_isGreater_31 : decode cX3_isGreater 31 = .ok (.iaload, 1) := by decide +kernel
theorem dX3_isGreater_32 : decode cX3_isGreater 32 = .ok (.aload_n 0, 1) := by decide +kernel
theorem dX3_isGreater_33 : decode cX3_isGreater 33 = .ok (.getfield 15, 3) := by decide +kernel
theorem dX3_isGreater_36 : decode cX3_isGreater 36 = .ok (.iload_n 2, 1) := by decide +kernel
theorem dX3_isGreater_37 : decode cX3_isGreater 37 = .ok (.iaload, 1) := by decide +kernel
theorem dX3_isGreater_38 : decode cX3_isGreater 38 = .ok (.if_icmp .le 7, 3) := by decide +kernel
theorem dX3_isGreater_41 : decode cX3_isGreater 41 = .ok (.iconst 1, 1) := by decide +kernel
theorem dX3_isGreater_42 : decode cX3_isGreater 42 = .ok (.goto 4, 3) := by decide +kernel
theorem dX3_isGreater_45 : decode cX3_isGreater 45 = .ok (.iconst 0, 1) := by decide +kernel
theorem dX3_isGreater_46 : decode cX3_isGreater 46 = .ok (.ireturn, 1) := by decide +kernel
set_option maxRecDepth 20000 in
theorem ggX3_tell_X2_placeOf : GoodIn wsX3_tell wsX2_placeOf := goodIn_r _ [7, 8, 9, 30, 31] (by decide +kernel) (by decide +kernel)
set_option maxRecDepth 20000 in
theorem gX3_tell_X2_placeOf : GoodIn wsX3_tell (wsV RX3 138 RX2 yX2_placeOf wsX2_placeOf) := goodIn_app (goodIn_of _ (by decide +kernel)) ggX3_tell_X2_placeOf
set_option maxRecDepth 20000 in
theorem ggX3_tell_X3_fact : GoodIn wsX3_tell wsX3_fact := goodIn_r _ [14, 15, 16, 17, 18, 13, 19, 20, 21, 22, 23, 24, 25, 26, 27, 28, 29] (by decide +kernel) (by decide +kernel)
set_option maxRecDepth 20000 in
theorem gX3_tell_X3_fact : GoodIn wsX3_tell (wsV RX3 72 RX3 yX3_fact wsX3_fact) := goodIn_app (goodIn_of _ (by decide +kernel)) ggX3_tell_X3_fact
theorem dX3_tell_0 : decode cX3_tell 0 = .ok (.iload_n 2, 1) := by decide +kernel
theorem dX3_tell_1 : decode cX3_tell 1 = .ok (.lookupswitch 45 #[(4, 27), (5, 36)], 27) := by decide +kernel
theorem dX3_tell_28 : decode cX3_tell 28 = .ok (.aload_n 0, 1) := by decide +kernel
theorem dX3_tell_29 : decode cX3_tell 29 = .ok (.getfield 26, 3) := by decide +kernel
theorem dX3_tell_32 : decode cX3_tell 32 = .ok (.iload_n 1, 1) := by decide +kernel
theorem dX3_tell_33 : decode cX3_tell 33 = .ok (.invokevirtual 138, 3) := by decide +kernel
theorem dX3_tell_36 : decode cX3_tell 36 = .ok (.ireturn, 1) := by decide +kernel
theorem dX3_tell_37 : decode cX3_tell 37 = .ok (.aload_n 0, 1) := by decide +kernel
theorem dX3_tell_38 : decode cX3_tell 38 = .ok (.getfield 30, 3) := by decide +kernel
theorem dX3_tell_41 : decode cX3_tell 41 = .ok (.iload_n 1, 1) := by decide +kernel
theorem dX3_tell_42 : decode cX3_tell 42 = .ok (.invokevirtual 138, 3) := by decide +kernel
theorem dX3_tell_45 : decode cX3_tell 45 = .ok (.ireturn, 1) := by decide +kernel
theorem dX3_tell_46 : decode cX3_tell 46 = .ok (.aload_n 0, 1) := by decide +kernel
theorem dX3_tell_47 : decode cX3_tell 47 = .ok (.iload_n 1, 1) := by decide +kernel
theorem dX3_tell_48 : decode cX3_tell 48 = .ok (.iload_n 2, 1) := by decide +kernel
theorem dX3_tell_49 : decode cX3_tell 49 = .ok (.invokevirtual 72, 3) := by decide +kernel
theorem dX3_tell_52 : decode cX3_tell 52 = .ok (.ireturn, 1) := by decide +kernel
set_option maxRecDepth 20000 in
theorem ggX3_sitting_X2_size : GoodIn wsX3_sitting wsX2_size := goodIn_r _ [6, 7, 17, 18] (by decide +kernel) (by decide +kernel)
set_option maxRecDepth 20000 in
theorem gX3_sitting_X2_size : GoodIn wsX3_sitting (wsV RX3 79 RX2 yX2_size wsX2_size) := goodIn_app (goodIn_of _ (by decide +kernel)) ggX3_sitting_X2_size
theorem dX3_sitting_0 : decode cX3_sitting 0 = .ok (.aload_n 0, 1) := by decide +kernel
theorem dX3_sitting_1 : decode cX3_sitting 1 = .ok (.getfield 26, 3) := by decide +kernel
theorem dX3_sitting_4 : decode cX3_sitting 4 = .ok (.invokevirtual 79, 3) := by decide +kernel
theorem dX3_sitting_7 : decode cX3_sitting 7 = .ok (.ireturn, 1) := by decide +kernel
set_option maxRecDepth 20000 in
theorem ggX3_sitterAt_X2_at : GoodIn wsX3_sitterAt wsX2_at := goodIn_r _ [6, 7, 8, 18, 19] (by decide +kernel) (by decide +kernel)
set_option maxRecDepth 20000 in
theorem gX3_sitterAt_X2_at : GoodIn wsX3_sitterAt (wsV RX3 83 RX2 yX2_at wsX2_at) := goodIn_app (goodIn_of _ (by decide +kernel)) ggX3_sitterAt_X2_at
theorem dX3_sitterAt_0 : decode cX3_sitterAt 0 = .ok (.aload_n 0, 1) := by decide +kernel
theorem dX3_sitterAt_1 : decode cX3_sitterAt 1 = .ok (.getfield 26, 3) := by decide +kernel
theorem dX3_sitterAt_4 : decode cX3_sitterAt 4 = .ok (.iload_n 1, 1) := by decide +kernel
theorem dX3_sitterAt_5 : decode cX3_sitterAt 5 = .ok (.invokevirtual 83, 3) := by decide +kernel
theorem dX3_sitterAt_8 : decode cX3_sitterAt 8 = .ok (.ireturn, 1) := by decide +kernel
set_option maxRecDepth 20000 in
theorem ggX3_waiterAt_X2_at : GoodIn wsX3_waiterAt wsX2_at := goodIn_r _ [6, 7, 8, 18, 19] (by decide +kernel) (by decide +kernel)
set_option maxRecDepth 20000 in
theorem gX3_waiterAt_X2_at : GoodIn wsX3_waiterAt (wsV RX3 83 RX2 yX2_at wsX2_at) := goodIn_app (goodIn_of _ (by decide +kernel)) ggX3_waiterAt_X2_at
theorem dX3_waiterAt_0 : decode cX3_waiterAt 0 = .ok (.aload_n 0, 1) := by decide +kernel
theorem dX3_waiterAt_1 : decode cX3_waiterAt 1 = .ok (.getfield 30, 3) := by decide +kernel
theorem dX3_waiterAt_4 : decode cX3_waiterAt 4 = .ok (.iload_n 1, 1) := by decide +kernel
theorem dX3_waiterAt_5 : decode cX3_waiterAt 5 = .ok (.invokevirtual 83, 3) := by decide +kernel
theorem dX3_waiterAt_8 : decode cX3_waiterAt 8 = .ok (.ireturn, 1) := by decide +kernel
set_option maxRecDepth 20000 in
theorem ggX3_whyAbove_X2_placeOf : GoodIn wsX3_whyAbove wsX2_placeOf := goodIn_r _ [6, 7, 8, 34, 35] (by decide +kernel) (by decide +kernel)
set_option maxRecDepth 20000 in
theorem gX3_whyAbove_X2_placeOf : GoodIn wsX3_whyAbove (wsV RX3 138 RX2 yX2_placeOf wsX2_placeOf) := goodIn_app (goodIn_of _ (by decide +kernel)) ggX3_whyAbove_X2_placeOf
set_option maxRecDepth 20000 in
theorem ggX3_whyAbove_X3_isGreater : GoodIn wsX3_whyAbove wsX3_isGreater := goodIn_r _ [13, 14, 25, 26, 27, 28, 29, 30, 31, 32, 33] (by decide +kernel) (by decide +kernel)
set_option maxRecDepth 20000 in
theorem gX3_whyAbove_X3_isGreater : GoodIn wsX3_whyAbove (wsV RX3 87 RX3 yX3_isGreater wsX3_isGreater) := goodIn_app (goodIn_of _ (by decide +kernel)) ggX3_whyAbove_X3_isGreater
set_option maxRecDepth 20000 in
theorem ggX3_whyAbove_X3_fact : GoodIn wsX3_whyAbove wsX3_fact := goodIn_r _ [18, 19, 20, 21, 22, 12, 23, 24, 25, 26, 27, 28, 29, 30, 31, 32, 33] (by decide +kernel) (by decide +kernel)
set_option maxRecDepth 20000 in
theorem gX3_whyAbove_X3_fact : GoodIn wsX3_whyAbove (wsV RX3 72 RX3 yX3_fact wsX3_fact) := goodIn_app (goodIn_of _ (by decide +kernel)) ggX3_whyAbove_X3_fact
theorem dX3_whyAbove_0 : decode cX3_whyAbove 0 = .ok (.aload_n 0, 1) := by decide +kernel
theorem dX3_whyAbove_1 : decode cX3_whyAbove 1 = .ok (.getfield 26, 3) := by decide +kernel
theorem dX3_whyAbove_4 : decode cX3_whyAbove 4 = .ok (.iload_n 1, 1) := by decide +kernel
theorem dX3_whyAbove_5 : decode cX3_whyAbove 5 = .ok (.invokevirtual 138, 3) := by decide +kernel
theorem dX3_whyAbove_8 : decode cX3_whyAbove 8 = .ok (.istore_n 3, 1) := by decide +kernel
theorem dX3_whyAbove_9 : decode cX3_whyAbove 9 = .ok (.aload_n 0, 1) := by decide +kernel
theorem dX3_whyAbove_10 : decode cX3_whyAbove 10 = .ok (.getfield 26, 3) := by decide +kernel
theorem dX3_whyAbove_13 : decode cX3_whyAbove 13 = .ok (.iload_n 2, 1) := by decide +kernel
theorem dX3_whyAbove_14 : decode cX3_whyAbove 14 = .ok (.invokevirtual 138, 3) := by decide +kernel
theorem dX3_whyAbove_17 : decode cX3_whyAbove 17 = .ok (.istore 4, 2) := by decide +kernel
theorem dX3_whyAbove_19 : decode cX3_whyAbove 19 = .ok (.iload_n 3, 1) := by decide +kernel
theorem dX3_whyAbove_20 : decode cX3_whyAbove 20 = .ok (.bipush (-5), 2) := by decide +kernel
theorem dX3_whyAbove_22 : decode cX3_whyAbove 22 = .ok (.if_icmp .eq 16, 3) := by decide +kernel
theorem dX3_whyAbove_25 : decode cX3_whyAbove 25 = .ok (.iload 4, 2) := by decide +kernel
theorem dX3_whyAbove_27 : decode cX3_whyAbove 27 = .ok (.bipush (-5), 2) := by decide +kernel
theorem dX3_whyAbove_29 : decode cX3_whyAbove 29 = .ok (.if_icmp .eq 9, 3) := by decide +kernel
theorem dX3_whyAbove_32 : decode cX3_whyAbove 32 = .ok (.iload_n 3, 1) := by decide +kernel
theorem dX3_whyAbove_33 : decode cX3_whyAbove 33 = .ok (.iload 4, 2) := by decide +kernel
theorem dX3_whyAbove_35 : decode cX3_whyAbove 35 = .ok (.if_icmp .le 5, 3) := by decide +kernel
theorem dX3_whyAbove_38 : decode cX3_whyAbove 38 = .ok (.iconst 1, 1) := by decide +kernel
theorem dX3_whyAbove_39 : decode cX3_whyAbove 39 = .ok (.ireturn, 1) := by decide +kernel
theorem dX3_whyAbove_40 : decode cX3_whyAbove 40 = .ok (.aload_n 0, 1) := by decide +kernel
theorem dX3_whyAbove_41 : decode cX3_whyAbove 41 = .ok (.iload_n 2, 1) := by decide +kernel
theorem dX3_whyAbove_42 : decode cX3_whyAbove 42 = .ok (.iload_n 1, 1) := by decide +kernel
theorem dX3_whyAbove_43 : decode cX3_whyAbove 43 = .ok (.invokevirtual 87, 3) := by decide +kernel
theorem dX3_whyAbove_46 : decode cX3_whyAbove 46 = .ok (.ifCond .eq 5, 3) := by decide +kernel
theorem dX3_whyAbove_49 : decode cX3_whyAbove 49 = .ok (.iconst 2, 1) := by decide +kernel
theorem dX3_whyAbove_50 : decode cX3_whyAbove 50 = .ok (.ireturn, 1) := by decide +kernel
theorem dX3_whyAbove_51 : decode cX3_whyAbove 51 = .ok (.aload_n 0, 1) := by decide +kernel
theorem dX3_whyAbove_52 : decode cX3_whyAbove 52 = .ok (.iload_n 1, 1) := by decide +kernel
theorem dX3_whyAbove_53 : decode cX3_whyAbove 53 = .ok (.iconst 0, 1) := by decide +kernel
theorem dX3_whyAbove_54 : decode cX3_whyAbove 54 = .ok (.invokevirtual 72, 3) := by decide +kernel
theorem dX3_whyAbove_57 : decode cX3_whyAbove 57 = .ok (.aload_n 0, 1) := by decide +kernel
theorem dX3_whyAbove_58 : decode cX3_whyAbove 58 = .ok (.iload_n 2, 1) := by decide +kernel
theorem dX3_whyAbove_59 : decode cX3_whyAbove 59 = .ok (.iconst 0, 1) := by decide +kernel
theorem dX3_whyAbove_60 : decode cX3_whyAbove 60 = .ok (.invokevirtual 72, 3) := by decide +kernel
theorem dX3_whyAbove_63 : decode cX3_whyAbove 63 = .ok (.if_icmp .le 5, 3) := by decide +kernel
theorem dX3_whyAbove_66 : decode cX3_whyAbove 66 = .ok (.iconst 0, 1) := by decide +kernel
theorem dX3_whyAbove_67 : decode cX3_whyAbove 67 = .ok (.ireturn, 1) := by decide +kernel
theorem dX3_whyAbove_68 : decode cX3_whyAbove 68 = .ok (.aload_n 0, 1) := by decide +kernel
theorem dX3_whyAbove_69 : decode cX3_whyAbove 69 = .ok (.iload_n 1, 1) := by decide +kernel
theorem dX3_whyAbove_70 : decode cX3_whyAbove 70 = .ok (.iconst 1, 1) := by decide +kernel
theorem dX3_whyAbove_71 : decode cX3_whyAbove 71 = .ok (.invokevirtual 72, 3) := by decide +kernel
theorem dX3_whyAbove_74 : decode cX3_whyAbove 74 = .ok (.aload_n 0, 1) := by decide +kernel
theorem dX3_whyAbove_75 : decode cX3_whyAbove 75 = .ok (.iload_n 2, 1) := by decide +kernel
theorem dX3_whyAbove_76 : decode cX3_whyAbove 76 = .ok (.iconst 1, 1) := by decide +kernel
theorem dX3_whyAbove_77 : decode cX3_whyAbove 77 = .ok (.invokevirtual 72, 3) := by decide +kernel
theorem dX3_whyAbove_80 : decode cX3_whyAbove 80 = .ok (.if_icmp .le 7, 3) := by decide +kernel
theorem dX3_whyAbove_83 : decode cX3_whyAbove 83 = .ok (.iconst 3, 1) := by decide +kernel
theorem dX3_whyAbove_84 : decode cX3_whyAbove 84 = .ok (.goto 4, 3) := by decide +kernel
theorem dX3_whyAbove_87 : decode cX3_whyAbove 87 = .ok (.iconst 4, 1) := by decide +kernel
theorem dX3_whyAbove_88 : decode cX3_whyAbove 88 = .ok (.ireturn, 1) := by decide +kernel
set_option maxRecDepth 20000 in
theorem ggX3_sittingAbove_X3_fact : GoodIn wsX3_sittingAbove wsX3_fact := goodIn_r _ [7, 8, 9, 10, 11, 6, 12, 1, 13, 14, 15, 16, 17, 18, 19, 20, 21] (by decide +kernel) (by decide +kernel)
set_option maxRecDepth 20000 in
theorem gX3_sittingAbove_X3_fact : GoodIn wsX3_sittingAbove (wsV RX3 72 RX3 yX3_fact wsX3_fact) := goodIn_app (goodIn_of _ (by decide +kernel)) ggX3_sittingAbove_X3_fact
theorem dX3_sittingAbove_0 : decode cX3_sittingAbove 0 = .ok (.iconst 0, 1) := by decide +kernel
theorem dX3_sittingAbove_1 : decode cX3_sittingAbove 1 = .ok (.istore_n 2, 1) := by decide +kernel
theorem dX3_sittingAbove_2 : decode cX3_sittingAbove 2 = .ok (.iconst 0, 1) := by decide +kernel
theorem dX3_sittingAbove_3 : decode cX3_sittingAbove 3 = .ok (.istore_n 3, 1) := by decide +kernel
theorem dX3_sittingAbove_4 : decode cX3_sittingAbove 4 = .ok (.iload_n 3, 1) := by decide +kernel
theorem dX3_sittingAbove_5 : decode cX3_sittingAbove 5 = .ok (.aload_n 0, 1) := by decide +kernel
theorem dX3_sittingAbove_6 : decode cX3_sittingAbove 6 = .ok (.getfield 33, 3) := by decide +kernel
theorem dX3_sittingAbove_9 : decode cX3_sittingAbove 9 = .ok (.if_icmp .ge 41, 3) := by decide +kernel
theorem dX3_sittingAbove_12 : decode cX3_sittingAbove 12 = .ok (.iload_n 3, 1) := by decide +kernel
theorem dX3_sittingAbove_13 : decode cX3_sittingAbove 13 = .ok (.aload_n 0, 1) := by decide +kernel
theorem dX3_sittingAbove_14 : decode cX3_sittingAbove 14 = .ok (.getfield 15, 3) := by decide +kernel
theorem dX3_sittingAbove_17 : decode cX3_sittingAbove 17 = .ok (.arraylength, 1) := by decide +kernel
theorem dX3_sittingAbove_18 : decode cX3_sittingAbove 18 = .ok (.if_icmp .ge 32, 3) := by decide +kernel
theorem dX3_sittingAbove_21 : decode cX3_sittingAbove 21 = .ok (.aload_n 0, 1) := by decide +kernel
theorem dX3_sittingAbove_22 : decode cX3_sittingAbove 22 = .ok (.getfield 15, 3) := by decide +kernel
theorem dX3_sittingAbove_25 : decode cX3_sittingAbove 25 = .ok (.iload_n 3, 1) := by decide +kernel
theorem dX3_sittingAbove_26 : decode cX3_sittingAbove 26 = .ok (.iaload, 1) := by decide +kernel
theorem dX3_sittingAbove_27 : decode cX3_sittingAbove 27 = .ok (.iload_n 1, 1) := by decide +kernel
theorem dX3_sittingAbove_28 : decode cX3_sittingAbove 28 = .ok (.if_icmp .le 16, 3) := by decide +kernel
theorem dX3_sittingAbove_31 : decode cX3_sittingAbove 31 = .ok (.aload_n 0, 1) := by decide +kernel
theorem dX3_sittingAbove_32 : decode cX3_sittingAbove 32 = .ok (.iload_n 3, 1) := by decide +kernel
theorem dX3_sittingAbove_33 : decode cX3_sittingAbove 33 = .ok (.iconst 3, 1) := by decide +kernel
theorem dX3_sittingAbove_34 : decode cX3_sittingAbove 34 = .ok (.invokevirtual 72, 3) := by decide +kernel
theorem dX3_sittingAbove_37 : decode cX3_sittingAbove 37 = .ok (.iconst 2, 1) := by decide +kernel
theorem dX3_sittingAbove_38 : decode cX3_sittingAbove 38 = .ok (.if_icmp .ne 6, 3) := by decide +kernel
theorem dX3_sittingAbove_41 : decode cX3_sittingAbove 41 = .ok (.iinc 2 1, 3) := by decide +kernel
theorem dX3_sittingAbove_44 : decode cX3_sittingAbove 44 = .ok (.iinc 3 1, 3) := by decide +kernel
theorem dX3_sittingAbove_47 : decode cX3_sittingAbove 47 = .ok (.goto (-43), 3) := by decide +kernel
theorem dX3_sittingAbove_50 : decode cX3_sittingAbove 50 = .ok (.iload_n 2, 1) := by decide +kernel
theorem dX3_sittingAbove_51 : decode cX3_sittingAbove 51 = .ok (.ireturn, 1) := by decide +kernel
set_option maxRecDepth 20000 in
theorem ggX3_wrongPairsOfTable_X2_size : GoodIn wsX3_wrongPairsOfTable wsX2_size := goodIn_r _ [6, 7, 28, 29] (by decide +kernel) (by decide +kernel)
set_option maxRecDepth 20000 in
theorem gX3_wrongPairsOfTable_X2_size : GoodIn wsX3_wrongPairsOfTable (wsV RX3 79 RX2 yX2_size wsX2_size) := goodIn_app (goodIn_of _ (by decide +kernel)) ggX3_wrongPairsOfTable_X2_size
set_option maxRecDepth 20000 in
theorem ggX3_wrongPairsOfTable_X2_at : GoodIn wsX3_wrongPairsOfTable wsX2_at := goodIn_r _ [11, 7, 12, 28, 29] (by decide +kernel) (by decide +kernel)
set_option maxRecDepth 20000 in
theorem gX3_wrongPairsOfTable_X2_at : GoodIn wsX3_wrongPairsOfTable (wsV RX3 83 RX2 yX2_at wsX2_at) := goodIn_app (goodIn_of _ (by decide +kernel)) ggX3_wrongPairsOfTable_X2_at
set_option maxRecDepth 20000 in
theorem ggX3_wrongPairsOfTable_X3_isGreater : GoodIn wsX3_wrongPairsOfTable wsX3_isGreater := goodIn_r _ [17, 18, 19, 20, 21, 22, 23, 24, 25, 26, 27] (by decide +kernel) (by decide +kernel)
set_option maxRecDepth 20000 in
theorem gX3_wrongPairsOfTable_X3_isGreater : GoodIn wsX3_wrongPairsOfTable (wsV RX3 87 RX3 yX3_isGreater wsX3_isGreater) := goodIn_app (goodIn_of _ (by decide +kernel)) ggX3_wrongPairsOfTable_X3_isGreater
theorem dX3_wrongPairsOfTable_0 : decode cX3_wrongPairsOfTable 0 = .ok (.iconst 0, 1) := by decide +kernel
theorem dX3_wrongPairsOfTable_1 : decode cX3_wrongPairsOfTable 1 = .ok (.istore_n 1, 1) := by decide +kernel
theorem dX3_wrongPairsOfTable_2 : decode cX3_wrongPairsOfTable 2 = .ok (.iconst 1, 1) := by decide +kernel
theorem dX3_wrongPairsOfTable_3 : decode cX3_wrongPairsOfTable 3 = .ok (.istore_n 2, 1) := by decide +kernel
theorem dX3_wrongPairsOfTable_4 : decode cX3_wrongPairsOfTable 4 = .ok (.iload_n 2, 1) := by decide +kernel
theorem dX3_wrongPairsOfTable_5 : decode cX3_wrongPairsOfTable 5 = .ok (.aload_n 0, 1) := by decide +kernel
theorem dX3_wrongPairsOfTable_6 : decode cX3_wrongPairsOfTable 6 = .ok (.getfield 26, 3) := by decide +kernel
theorem dX3_wrongPairsOfTable_9 : decode cX3_wrongPairsOfTable 9 = .ok (.invokevirtual 79, 3) := by decide +kernel
theorem dX3_wrongPairsOfTable_12 : decode cX3_wrongPairsOfTable 12 = .ok (.if_icmp .ge 48, 3) := by decide +kernel
theorem dX3_wrongPairsOfTable_15 : decode cX3_wrongPairsOfTable 15 = .ok (.iconst 0, 1) := by decide +kernel
theorem dX3_wrongPairsOfTable_16 : decode cX3_wrongPairsOfTable 16 = .ok (.istore_n 3, 1) := by decide +kernel
theorem dX3_wrongPairsOfTable_17 : decode cX3_wrongPairsOfTable 17 = .ok (.iload_n 3, 1) := by decide +kernel
theorem dX3_wrongPairsOfTable_18 : decode cX3_wrongPairsOfTable 18 = .ok (.iload_n 2, 1) := by decide +kernel
theorem dX3_wrongPairsOfTable_19 : decode cX3_wrongPairsOfTable 19 = .ok (.if_icmp .ge 35, 3) := by decide +kernel
theorem dX3_wrongPairsOfTable_22 : decode cX3_wrongPairsOfTable 22 = .ok (.aload_n 0, 1) := by decide +kernel
theorem dX3_wrongPairsOfTable_23 : decode cX3_wrongPairsOfTable 23 = .ok (.aload_n 0, 1) := by decide +kernel
theorem dX3_wrongPairsOfTable_24 : decode cX3_wrongPairsOfTable 24 = .ok (.getfield 26, 3) := by decide +kernel
theorem dX3_wrongPairsOfTable_27 : decode cX3_wrongPairsOfTable 27 = .ok (.iload_n 2, 1) := by decide +kernel
theorem dX3_wrongPairsOfTable_28 : decode cX3_wrongPairsOfTable 28 = .ok (.invokevirtual 83, 3) := by decide +kernel
theorem dX3_wrongPairsOfTable_31 : decode cX3_wrongPairsOfTable 31 = .ok (.aload_n 0, 1) := by decide +kernel
theorem dX3_wrongPairsOfTable_32 : decode cX3_wrongPairsOfTable 32 = .ok (.getfield 26, 3) := by decide +kernel
theorem dX3_wrongPairsOfTable_35 : decode cX3_wrongPairsOfTable 35 = .ok (.iload_n 3, 1) := by decide +kernel
theorem dX3_wrongPairsOfTable_36 : decode cX3_wrongPairsOfTable 36 = .ok (.invokevirtual 83, 3) := by decide +kernel
theorem dX3_wrongPairsOfTable_39 : decode cX3_wrongPairsOfTable 39 = .ok (.invokevirtual 87, 3) := by decide +kernel
theorem dX3_wrongPairsOfTable_42 : decode cX3_wrongPairsOfTable 42 = .ok (.ifCond .eq 6, 3) := by decide +kernel
theorem dX3_wrongPairsOfTable_45 : decode cX3_wrongPairsOfTable 45 = .ok (.iinc 1 1, 3) := by decide +kernel
theorem dX3_wrongPairsOfTable_48 : decode cX3_wrongPairsOfTable 48 = .ok (.iinc 3 1, 3) := by decide +kernel
theorem dX3_wrongPairsOfTable_51 : decode cX3_wrongPairsOfTable 51 = .ok (.goto (-34), 3) := by decide +kernel
theorem dX3_wrongPairsOfTable_54 : decode cX3_wrongPairsOfTable 54 = .ok (.iinc 2 1, 3) := by decide +kernel
theorem dX3_wrongPairsOfTable_57 : decode cX3_wrongPairsOfTable 57 = .ok (.goto (-53), 3) := by decide +kernel
theorem dX3_wrongPairsOfTable_60 : decode cX3_wrongPairsOfTable 60 = .ok (.iload_n 1, 1) := by decide +kernel
theorem dX3_wrongPairsOfTable_61 : decode cX3_wrongPairsOfTable 61 = .ok (.ireturn, 1) := by decide +kernel
set_option maxRecDepth 20000 in
theorem ggX3_mostSlightedSitter_X2_size : GoodIn wsX3_mostSlightedSitter wsX2_size := goodIn_r _ [6, 7, 33, 34] (by decide +kernel) (by decide +kernel)
set_option maxRecDepth 20000 in
theorem gX3_mostSlightedSitter_X2_size : GoodIn wsX3_mostSlightedSitter (wsV RX3 79 RX2 yX2_size wsX2_size) := goodIn_app (goodIn_of _ (by decide +kernel)) ggX3_mostSlightedSitter_X2_size
set_option maxRecDepth 20000 in
theorem ggX3_mostSlightedSitter_X2_at : GoodIn wsX3_mostSlightedSitter wsX2_at := goodIn_r _ [11, 7, 12, 33, 34] (by decide +kernel) (by decide +kernel)
set_option maxRecDepth 20000 in
theorem gX3_mostSlightedSitter_X2_at : GoodIn wsX3_mostSlightedSitter (wsV RX3 83 RX2 yX2_at wsX2_at) := goodIn_app (goodIn_of _ (by decide +kernel)) ggX3_mostSlightedSitter_X2_at
set_option maxRecDepth 20000 in
theorem ggX3_mostSlightedSitter_X3_fact : GoodIn wsX3_mostSlightedSitter wsX3_fact := goodIn_r _ [17, 18, 19, 20, 21, 16, 22, 23, 24, 25, 26, 27, 28, 29, 30, 31, 32] (by decide +kernel) (by decide +kernel)
set_option maxRecDepth 20000 in
theorem gX3_mostSlightedSitter_X3_fact : GoodIn wsX3_mostSlightedSitter (wsV RX3 72 RX3 yX3_fact wsX3_fact) := goodIn_app (goodIn_of _ (by decide +kernel)) ggX3_mostSlightedSitter_X3_fact
theorem dX3_mostSlightedSitter_0 : decode cX3_mostSlightedSitter 0 = .ok (.iconst 0, 1) := by decide +kernel
theorem dX3_mostSlightedSitter_1 : decode cX3_mostSlightedSitter 1 = .ok (.istore_n 1, 1) := by decide +kernel
theorem dX3_mostSlightedSitter_2 : decode cX3_mostSlightedSitter 2 = .ok (.bipush (-5), 2) := by decide +kernel
theorem dX3_mostSlightedSitter_4 : decode cX3_mostSlightedSitter 4 = .ok (.istore_n 2, 1) := by decide +kernel
theorem dX3_mostSlightedSitter_5 : decode cX3_mostSlightedSitter 5 = .ok (.iconst 0, 1) := by decide +kernel
theorem dX3_mostSlightedSitter_6 : decode cX3_mostSlightedSitter 6 = .ok (.istore_n 3, 1) := by decide +kernel
theorem dX3_mostSlightedSitter_7 : decode cX3_mostSlightedSitter 7 = .ok (.iload_n 3, 1) := by decide +kernel
theorem dX3_mostSlightedSitter_8 : decode cX3_mostSlightedSitter 8 = .ok (.aload_n 0, 1) := by decide +kernel
theorem dX3_mostSlightedSitter_9 : decode cX3_mostSlightedSitter 9 = .ok (.getfield 26, 3) := by decide +kernel
theorem dX3_mostSlightedSitter_12 : decode cX3_mostSlightedSitter 12 = .ok (.invokevirtual 79, 3) := by decide +kernel
theorem dX3_mostSlightedSitter_15 : decode cX3_mostSlightedSitter 15 = .ok (.if_icmp .ge 43, 3) := by decide +kernel
theorem dX3_mostSlightedSitter_18 : decode cX3_mostSlightedSitter 18 = .ok (.aload_n 0, 1) := by decide +kernel
theorem dX3_mostSlightedSitter_19 : decode cX3_mostSlightedSitter 19 = .ok (.getfield 26, 3) := by decide +kernel
theorem dX3_mostSlightedSitter_22 : decode cX3_mostSlightedSitter 22 = .ok (.iload_n 3, 1) := by decide +kernel
theorem dX3_mostSlightedSitter_23 : decode cX3_mostSlightedSitter 23 = .ok (.invokevirtual 83, 3) := by decide +kernel
theorem dX3_mostSlightedSitter_26 : decode cX3_mostSlightedSitter 26 = .ok (.istore 4, 2) := by decide +kernel
theorem dX3_mostSlightedSitter_28 : decode cX3_mostSlightedSitter 28 = .ok (.aload_n 0, 1) := by decide +kernel
theorem dX3_mostSlightedSitter_29 : decode cX3_mostSlightedSitter 29 = .ok (.iload 4, 2) := by decide +kernel
theorem dX3_mostSlightedSitter_31 : decode cX3_mostSlightedSitter 31 = .ok (.bipush 7, 2) := by decide +kernel
theorem dX3_mostSlightedSitter_33 : decode cX3_mostSlightedSitter 33 = .ok (.invokevirtual 72, 3) := by decide +kernel
theorem dX3_mostSlightedSitter_36 : decode cX3_mostSlightedSitter 36 = .ok (.iload_n 1, 1) := by decide +kernel
theorem dX3_mostSlightedSitter_37 : decode cX3_mostSlightedSitter 37 = .ok (.if_icmp .le 15, 3) := by decide +kernel
theorem dX3_mostSlightedSitter_40 : decode cX3_mostSlightedSitter 40 = .ok (.aload_n 0, 1) := by decide +kernel
theorem dX3_mostSlightedSitter_41 : decode cX3_mostSlightedSitter 41 = .ok (.iload 4, 2) := by decide +kernel
theorem dX3_mostSlightedSitter_43 : decode cX3_mostSlightedSitter 43 = .ok (.bipush 7, 2) := by decide +kernel
theorem dX3_mostSlightedSitter_45 : decode cX3_mostSlightedSitter 45 = .ok (.invokevirtual 72, 3) := by decide +kernel
theorem dX3_mostSlightedSitter_48 : decode cX3_mostSlightedSitter 48 = .ok (.istore_n 1, 1) := by decide +kernel
theorem dX3_mostSlightedSitter_49 : decode cX3_mostSlightedSitter 49 = .ok (.iload 4, 2) := by decide +kernel
theorem dX3_mostSlightedSitter_51 : decode cX3_mostSlightedSitter 51 = .ok (.istore_n 2, 1) := by decide +kernel
theorem dX3_mostSlightedSitter_52 : decode cX3_mostSlightedSitter 52 = .ok (.iinc 3 1, 3) := by decide +kernel
theorem dX3_mostSlightedSitter_55 : decode cX3_mostSlightedSitter 55 = .ok (.goto (-48), 3) := by decide +kernel
theorem dX3_mostSlightedSitter_58 : decode cX3_mostSlightedSitter 58 = .ok (.iload_n 2, 1) := by decide +kernel
theorem dX3_mostSlightedSitter_59 : decode cX3_mostSlightedSitter 59 = .ok (.ireturn, 1) := by decide +kernel
set_option maxRecDepth 20000 in
theorem ggX3_firstArrival_X3_fact : GoodIn wsX3_firstArrival wsX3_fact := goodIn_r _ [6, 7, 8, 9, 10, 5, 11, 1, 12, 13, 14, 15, 16, 17, 18, 19, 20] (by decide +kernel) (by decide +kernel)
set_option maxRecDepth 20000 in
theorem gX3_firstArrival_X3_fact : GoodIn wsX3_firstArrival (wsV RX3 72 RX3 yX3_fact wsX3_fact) := goodIn_app (goodIn_of _ (by decide +kernel)) ggX3_firstArrival_X3_fact
theorem dX3_firstArrival_0 : decode cX3_firstArrival 0 = .ok (.bipush (-5), 2) := by decide +kernel
theorem dX3_firstArrival_2 : decode cX3_firstArrival 2 = .ok (.istore_n 1, 1) := by decide +kernel
theorem dX3_firstArrival_3 : decode cX3_firstArrival 3 = .ok (.iconst 0, 1) := by decide +kernel
theorem dX3_firstArrival_4 : decode cX3_firstArrival 4 = .ok (.istore_n 2, 1) := by decide +kernel
theorem dX3_firstArrival_5 : decode cX3_firstArrival 5 = .ok (.iload_n 2, 1) := by decide +kernel
theorem dX3_firstArrival_6 : decode cX3_firstArrival 6 = .ok (.aload_n 0, 1) := by decide +kernel
theorem dX3_firstArrival_7 : decode cX3_firstArrival 7 = .ok (.getfield 33, 3) := by decide +kernel
theorem dX3_firstArrival_10 : decode cX3_firstArrival 10 = .ok (.if_icmp .ge 38, 3) := by decide +kernel
theorem dX3_firstArrival_13 : decode cX3_firstArrival 13 = .ok (.aload_n 0, 1) := by decide +kernel
theorem dX3_firstArrival_14 : decode cX3_firstArrival 14 = .ok (.iload_n 2, 1) := by decide +kernel
theorem dX3_firstArrival_15 : decode cX3_firstArrival 15 = .ok (.iconst 2, 1) := by decide +kernel
theorem dX3_firstArrival_16 : decode cX3_firstArrival 16 = .ok (.invokevirtual 72, 3) := by decide +kernel
theorem dX3_firstArrival_19 : decode cX3_firstArrival 19 = .ok (.istore_n 3, 1) := by decide +kernel
theorem dX3_firstArrival_20 : decode cX3_firstArrival 20 = .ok (.aload_n 0, 1) := by decide +kernel
theorem dX3_firstArrival_21 : decode cX3_firstArrival 21 = .ok (.iload_n 2, 1) := by decide +kernel
theorem dX3_firstArrival_22 : decode cX3_firstArrival 22 = .ok (.iconst 3, 1) := by decide +kernel
theorem dX3_firstArrival_23 : decode cX3_firstArrival 23 = .ok (.invokevirtual 72, 3) := by decide +kernel
theorem dX3_firstArrival_26 : decode cX3_firstArrival 26 = .ok (.ifCond .ne 16, 3) := by decide +kernel
theorem dX3_firstArrival_29 : decode cX3_firstArrival 29 = .ok (.iload_n 1, 1) := by decide +kernel
theorem dX3_firstArrival_30 : decode cX3_firstArrival 30 = .ok (.bipush (-5), 2) := by decide +kernel
theorem dX3_firstArrival_32 : decode cX3_firstArrival 32 = .ok (.if_icmp .eq 8, 3) := by decide +kernel
theorem dX3_firstArrival_35 : decode cX3_firstArrival 35 = .ok (.iload_n 3, 1) := by decide +kernel
theorem dX3_firstArrival_36 : decode cX3_firstArrival 36 = .ok (.iload_n 1, 1) := by decide +kernel
theorem dX3_firstArrival_37 : decode cX3_firstArrival 37 = .ok (.if_icmp .ge 5, 3) := by decide +kernel
theorem dX3_firstArrival_40 : decode cX3_firstArrival 40 = .ok (.iload_n 3, 1) := by decide +kernel
theorem dX3_firstArrival_41 : decode cX3_firstArrival 41 = .ok (.istore_n 1, 1) := by decide +kernel
theorem dX3_firstArrival_42 : decode cX3_firstArrival 42 = .ok (.iinc 2 1, 3) := by decide +kernel
theorem dX3_firstArrival_45 : decode cX3_firstArrival 45 = .ok (.goto (-40), 3) := by decide +kernel
theorem dX3_firstArrival_48 : decode cX3_firstArrival 48 = .ok (.iload_n 1, 1) := by decide +kernel
theorem dX3_firstArrival_49 : decode cX3_firstArrival 49 = .ok (.ireturn, 1) := by decide +kernel
set_option maxRecDepth 20000 in
theorem ggX3_account_X3_kingsDoing : GoodIn wsX3_account wsX3_kingsDoing := goodIn_r _ [9, 2, 10, 11, 12, 8, 13, 14, 15, 16, 17, 18, 28, 29, 30, 31, 32, 33, 34, 35, 36] (by decide +kernel) (by decide +kernel)
set_option maxRecDepth 20000 in
theorem gX3_account_X3_kingsDoing : GoodIn wsX3_account (wsV RX3 141 RX3 yX3_kingsDoing wsX3_kingsDoing) := goodIn_app (goodIn_of _ (by decide +kernel)) ggX3_account_X3_kingsDoing
set_option maxRecDepth 20000 in
theorem ggX3_account_X3_sum : GoodIn wsX3_account wsX3_sum := goodIn_r _ [22, 2, 10, 11, 12, 8, 13, 14, 15, 16, 17, 18, 28, 29, 30, 31, 32, 33, 34, 35, 36] (by decide +kernel) (by decide +kernel)
set_option maxRecDepth 20000 in
theorem gX3_account_X3_sum : GoodIn wsX3_account (wsV RX3 144 RX3 yX3_sum wsX3_sum) := goodIn_app (goodIn_of _ (by decide +kernel)) ggX3_account_X3_sum
set_option maxRecDepth 20000 in
theorem ggX3_account_X3_setting : GoodIn wsX3_account wsX3_setting := goodIn_r _ [26, 27, 28, 29, 30, 31, 32, 33, 34, 35, 36] (by decide +kernel) (by decide +kernel)
set_option maxRecDepth 20000 in
theorem gX3_account_X3_setting : GoodIn wsX3_account (wsV RX3 117 RX3 yX3_setting wsX3_setting) := goodIn_app (goodIn_of _ (by decide +kernel)) ggX3_account_X3_setting
theorem dX3_account_0 : decode cX3_account 0 = .ok (.iload_n 1, 1) := by decide +kernel
theorem dX3_account_1 : decode cX3_account 1 = .ok (.tableswitch 108 0 10 #[59, 64, 69, 69, 69, 69, 77, 84, 89, 96, 103], 59) := by decide +kernel
theorem dX3_account_60 : decode cX3_account 60 = .ok (.aload_n 0, 1) := by decide +kernel
theorem dX3_account_61 : decode cX3_account 61 = .ok (.getfield 37, 3) := by decide +kernel
theorem dX3_account_64 : decode cX3_account 64 = .ok (.ireturn, 1) := by decide +kernel
theorem dX3_account_65 : decode cX3_account 65 = .ok (.aload_n 0, 1) := by decide +kernel
theorem dX3_account_66 : decode cX3_account 66 = .ok (.getfield 33, 3) := by decide +kernel
theorem dX3_account_69 : decode cX3_account 69 = .ok (.ireturn, 1) := by decide +kernel
theorem dX3_account_70 : decode cX3_account 70 = .ok (.aload_n 0, 1) := by decide +kernel
theorem dX3_account_71 : decode cX3_account 71 = .ok (.iload_n 1, 1) := by decide +kernel
theorem dX3_account_72 : decode cX3_account 72 = .ok (.iconst 2, 1) := by decide +kernel
theorem dX3_account_73 : decode cX3_account 73 = .ok (.isub, 1) := by decide +kernel
theorem dX3_account_74 : decode cX3_account 74 = .ok (.invokevirtual 141, 3) := by decide +kernel
theorem dX3_account_77 : decode cX3_account 77 = .ok (.ireturn, 1) := by decide +kernel
theorem dX3_account_78 : decode cX3_account 78 = .ok (.aload_n 0, 1) := by decide +kernel
theorem dX3_account_79 : decode cX3_account 79 = .ok (.bipush 8, 2) := by decide +kernel
theorem dX3_account_81 : decode cX3_account 81 = .ok (.invokevirtual 144, 3) := by decide +kernel
theorem dX3_account_84 : decode cX3_account 84 = .ok (.ireturn, 1) := by decide +kernel
theorem dX3_account_85 : decode cX3_account 85 = .ok (.aload_n 0, 1) := by decide +kernel
theorem dX3_account_86 : decode cX3_account 86 = .ok (.getfield 40, 3) := by decide +kernel
theorem dX3_account_89 : decode cX3_account 89 = .ok (.ireturn, 1) := by decide +kernel
theorem dX3_account_90 : decode cX3_account 90 = .ok (.aload_n 0, 1) := by decide +kernel
theorem dX3_account_91 : decode cX3_account 91 = .ok (.bipush 6, 2) := by decide +kernel
theorem dX3_account_93 : decode cX3_account 93 = .ok (.invokevirtual 144, 3) := by decide +kernel
theorem dX3_account_96 : decode cX3_account 96 = .ok (.ireturn, 1) := by decide +kernel
theorem dX3_account_97 : decode cX3_account 97 = .ok (.aload_n 0, 1) := by decide +kernel
theorem dX3_account_98 : decode cX3_account 98 = .ok (.bipush 7, 2) := by decide +kernel
theorem dX3_account_100 : decode cX3_account 100 = .ok (.invokevirtual 144, 3) := by decide +kernel
theorem dX3_account_103 : decode cX3_account 103 = .ok (.ireturn, 1) := by decide +kernel
theorem dX3_account_104 : decode cX3_account 104 = .ok (.aload_n 0, 1) := by decide +kernel
theorem dX3_account_105 : decode cX3_account 105 = .ok (.getfield 43, 3) := by decide +kernel
theorem dX3_account_108 : decode cX3_account 108 = .ok (.ireturn, 1) := by decide +kernel
theorem dX3_account_109 : decode cX3_account 109 = .ok (.aload_n 0, 1) := by decide +kernel
theorem dX3_account_110 : decode cX3_account 110 = .ok (.iload_n 1, 1) := by decide +kernel
theorem dX3_account_111 : decode cX3_account 111 = .ok (.bipush 11, 2) := by decide +kernel
theorem dX3_account_113 : decode cX3_account 113 = .ok (.isub, 1) := by decide +kernel
theorem dX3_account_114 : decode cX3_account 114 = .ok (.invokevirtual 117, 3) := by decide +kernel
theorem dX3_account_117 : decode cX3_account 117 = .ok (.ireturn, 1) := by decide +kernel
set_option maxRecDepth 20000 in
theorem ggX3_kingsDoing_X3_fact : GoodIn wsX3_kingsDoing wsX3_fact := goodIn_r _ [6, 7, 8, 9, 10, 5, 11, 1, 12, 13, 14, 15, 16, 17, 18, 19, 20] (by decide +kernel) (by decide +kernel)
set_option maxRecDepth 20000 in
theorem gX3_kingsDoing_X3_fact : GoodIn wsX3_kingsDoing (wsV RX3 72 RX3 yX3_fact wsX3_fact) := goodIn_app (goodIn_of _ (by decide +kernel)) ggX3_kingsDoing_X3_fact
theorem dX3_kingsDoing_0 : decode cX3_kingsDoing 0 = .ok (.iconst 0, 1) := by decide +kernel
theorem dX3_kingsDoing_1 : decode cX3_kingsDoing 1 = .ok (.istore_n 2, 1) := by decide +kernel
theorem dX3_kingsDoing_2 : decode cX3_kingsDoing 2 = .ok (.iconst 0, 1) := by decide +kernel
theorem dX3_kingsDoing_3 : decode cX3_kingsDoing 3 = .ok (.istore_n 3, 1) := by decide +kernel
theorem dX3_kingsDoing_4 : decode cX3_kingsDoing 4 = .ok (.iload_n 3, 1) := by decide +kernel
theorem dX3_kingsDoing_5 : decode cX3_kingsDoing 5 = .ok (.aload_n 0, 1) := by decide +kernel
theorem dX3_kingsDoing_6 : decode cX3_kingsDoing 6 = .ok (.getfield 33, 3) := by decide +kernel
theorem dX3_kingsDoing_9 : decode cX3_kingsDoing 9 = .ok (.if_icmp .ge 22, 3) := by decide +kernel
theorem dX3_kingsDoing_12 : decode cX3_kingsDoing 12 = .ok (.aload_n 0, 1) := by decide +kernel
theorem dX3_kingsDoing_13 : decode cX3_kingsDoing 13 = .ok (.iload_n 3, 1) := by decide +kernel
theorem dX3_kingsDoing_14 : decode cX3_kingsDoing 14 = .ok (.iconst 3, 1) := by decide +kernel
theorem dX3_kingsDoing_15 : decode cX3_kingsDoing 15 = .ok (.invokevirtual 72, 3) := by decide +kernel
theorem dX3_kingsDoing_18 : decode cX3_kingsDoing 18 = .ok (.iload_n 1, 1) := by decide +kernel
theorem dX3_kingsDoing_19 : decode cX3_kingsDoing 19 = .ok (.if_icmp .ne 6, 3) := by decide +kernel
theorem dX3_kingsDoing_22 : decode cX3_kingsDoing 22 = .ok (.iinc 2 1, 3) := by decide +kernel
theorem dX3_kingsDoing_25 : decode cX3_kingsDoing 25 = .ok (.iinc 3 1, 3) := by decide +kernel
theorem dX3_kingsDoing_28 : decode cX3_kingsDoing 28 = .ok (.goto (-24), 3) := by decide +kernel
theorem dX3_kingsDoing_31 : decode cX3_kingsDoing 31 = .ok (.iload_n 2, 1) := by decide +kernel
theorem dX3_kingsDoing_32 : decode cX3_kingsDoing 32 = .ok (.ireturn, 1) := by decide +kernel
set_option maxRecDepth 20000 in
theorem ggX3_sum_X3_fact : GoodIn wsX3_sum wsX3_fact := goodIn_r _ [6, 7, 8, 9, 10, 5, 11, 1, 12, 13, 14, 15, 16, 17, 18, 19, 20] (by decide +kernel) (by decide +kernel)
set_option maxRecDepth 20000 in
theorem gX3_sum_X3_fact : GoodIn wsX3_sum (wsV RX3 72 RX3 yX3_fact wsX3_fact) := goodIn_app (goodIn_of _ (by decide +kernel)) ggX3_sum_X3_fact
theorem dX3_sum_0 : decode cX3_sum 0 = .ok (.iconst 0, 1) := by decide +kernel
theorem dX3_sum_1 : decode cX3_sum 1 = .ok (.istore_n 2, 1) := by decide +kernel
theorem dX3_sum_2 : decode cX3_sum 2 = .ok (.iconst 0, 1) := by decide +kernel
theorem dX3_sum_3 : decode cX3_sum 3 = .ok (.istore_n 3, 1) := by decide +kernel
theorem dX3_sum_4 : decode cX3_sum 4 = .ok (.iload_n 3, 1) := by decide +kernel
theorem dX3_sum_5 : decode cX3_sum 5 = .ok (.aload_n 0, 1) := by decide +kernel
theorem dX3_sum_6 : decode cX3_sum 6 = .ok (.getfield 33, 3) := by decide +kernel
theorem dX3_sum_9 : decode cX3_sum 9 = .ok (.if_icmp .ge 18, 3) := by decide +kernel
theorem dX3_sum_12 : decode cX3_sum 12 = .ok (.iload_n 2, 1) := by decide +kernel
theorem dX3_sum_13 : decode cX3_sum 13 = .ok (.aload_n 0, 1) := by decide +kernel
theorem dX3_sum_14 : decode cX3_sum 14 = .ok (.iload_n 3, 1) := by decide +kernel
theorem dX3_sum_15 : decode cX3_sum 15 = .ok (.iload_n 1, 1) := by decide +kernel
theorem dX3_sum_16 : decode cX3_sum 16 = .ok (.invokevirtual 72, 3) := by decide +kernel
theorem dX3_sum_19 : decode cX3_sum 19 = .ok (.iadd, 1) := by decide +kernel
theorem dX3_sum_20 : decode cX3_sum 20 = .ok (.istore_n 2, 1) := by decide +kernel
theorem dX3_sum_21 : decode cX3_sum 21 = .ok (.iinc 3 1, 3) := by decide +kernel
theorem dX3_sum_24 : decode cX3_sum 24 = .ok (.goto (-20), 3) := by decide +kernel
theorem dX3_sum_27 : decode cX3_sum 27 = .ok (.iload_n 2, 1) := by decide +kernel
theorem dX3_sum_28 : decode cX3_sum 28 = .ok (.ireturn, 1) := by decide +kernel
theorem dX3_setting_0 : decode cX3_setting 0 = .ok (.iload_n 1, 1) := by decide +kernel
theorem dX3_setting_1 : decode cX3_setting 1 = .ok (.ifCond .lt 21, 3) := by decide +kernel
theorem dX3_setting_4 : decode cX3_setting 4 = .ok (.iload_n 1, 1) := by decide +kernel
theorem dX3_setting_5 : decode cX3_setting 5 = .ok (.aload_n 0, 1) := by decide +kernel
theorem dX3_setting_6 : decode cX3_setting 6 = .ok (.getfield 18, 3) := by decide +kernel
theorem dX3_setting_9 : decode cX3_setting 9 = .ok (.arraylength, 1) := by decide +kernel
theorem dX3_setting_10 : decode cX3_setting 10 = .ok (.if_icmp .ge 12, 3) := by decide +kernel
theorem dX3_setting_13 : decode cX3_setting 13 = .ok (.aload_n 0, 1) := by decide +kernel
theorem dX3_setting_14 : decode cX3_setting 14 = .ok (.getfield 18, 3) := by decide +kernel
theorem dX3_setting_17 : decode cX3_setting 17 = .ok (.iload_n 1, 1) := by decide +kernel
theorem dX3_setting_18 : decode cX3_setting 18 = .ok (.iaload, 1) := by decide +kernel
theorem dX3_setting_19 : decode cX3_setting 19 = .ok (.goto 4, 3) := by decide +kernel
theorem dX3_setting_22 : decode cX3_setting 22 = .ok (.iconst 0, 1) := by decide +kernel
theorem dX3_setting_23 : decode cX3_setting 23 = .ok (.ireturn, 1) := by decide +kernel
set_option maxRecDepth 20000 in
theorem ggX3_fact_X3_isKing : GoodIn wsX3_fact wsX3_isKing := goodIn_r _ [6, 7, 8, 9, 10, 11, 12, 13, 14, 15, 16] (by decide +kernel) (by decide +kernel)
set_option maxRecDepth 20000 in
theorem gX3_fact_X3_isKing : GoodIn wsX3_fact (wsV RX3 69 RX3 yX3_isKing wsX3_isKing) := goodIn_app (goodIn_of _ (by decide +kernel)) ggX3_fact_X3_isKing
theorem dX3_fact_0 : decode cX3_fact 0 = .ok (.iload_n 1, 1) := by decide +kernel
theorem dX3_fact_1 : decode cX3_fact 1 = .ok (.bipush 9, 2) := by decide +kernel
theorem dX3_fact_3 : decode cX3_fact 3 = .ok (.imul, 1) := by decide +kernel
theorem dX3_fact_4 : decode cX3_fact 4 = .ok (.iload_n 2, 1) := by decide +kernel
theorem dX3_fact_5 : decode cX3_fact 5 = .ok (.iadd, 1) := by decide +kernel
theorem dX3_fact_6 : decode cX3_fact 6 = .ok (.istore_n 3, 1) := by decide +kernel
theorem dX3_fact_7 : decode cX3_fact 7 = .ok (.aload_n 0, 1) := by decide +kernel
theorem dX3_fact_8 : decode cX3_fact 8 = .ok (.iload_n 1, 1) := by decide +kernel
theorem dX3_fact_9 : decode cX3_fact 9 = .ok (.invokevirtual 69, 3) := by decide +kernel
theorem dX3_fact_12 : decode cX3_fact 12 = .ok (.ifCond .eq 25, 3) := by decide +kernel
theorem dX3_fact_15 : decode cX3_fact 15 = .ok (.iload_n 3, 1) := by decide +kernel
theorem dX3_fact_16 : decode cX3_fact 16 = .ok (.ifCond .lt 21, 3) := by decide +kernel
theorem dX3_fact_19 : decode cX3_fact 19 = .ok (.iload_n 3, 1) := by decide +kernel
theorem dX3_fact_20 : decode cX3_fact 20 = .ok (.aload_n 0, 1) := by decide +kernel
theorem dX3_fact_21 : decode cX3_fact 21 = .ok (.getfield 9, 3) := by decide +kernel
theorem dX3_fact_24 : decode cX3_fact 24 = .ok (.arraylength, 1) := by decide +kernel
theorem dX3_fact_25 : decode cX3_fact 25 = .ok (.if_icmp .ge 12, 3) := by decide +kernel
theorem dX3_fact_28 : decode cX3_fact 28 = .ok (.aload_n 0, 1) := by decide +kernel
theorem dX3_fact_29 : decode cX3_fact 29 = .ok (.getfield 9, 3) := by decide +kernel
theorem dX3_fact_32 : decode cX3_fact 32 = .ok (.iload_n 3, 1) := by decide +kernel
theorem dX3_fact_33 : decode cX3_fact 33 = .ok (.iaload, 1) := by decide +kernel
theorem dX3_fact_34 : decode cX3_fact 34 = .ok (.goto 4, 3) := by decide +kernel
theorem dX3_fact_37 : decode cX3_fact 37 = .ok (.iconst 0, 1) := by decide +kernel
theorem dX3_fact_38 : decode cX3_fact 38 = .ok (.ireturn, 1) := by decide +kernel
set_option maxRecDepth 20000 in
theorem ggX3_setFact_X3_isKing : GoodIn wsX3_setFact wsX3_isKing := goodIn_r _ [6, 7, 8, 9, 10, 11, 12, 13, 14, 15, 16] (by decide +kernel) (by decide +kernel)
set_option maxRecDepth 20000 in
theorem gX3_setFact_X3_isKing : GoodIn wsX3_setFact (wsV RX3 69 RX3 yX3_isKing wsX3_isKing) := goodIn_app (goodIn_of _ (by decide +kernel)) ggX3_setFact_X3_isKing
theorem dX3_setFact_0 : decode cX3_setFact 0 = .ok (.iload_n 1, 1) := by decide +kernel
theorem dX3_setFact_1 : decode cX3_setFact 1 = .ok (.bipush 9, 2) := by decide +kernel
theorem dX3_setFact_3 : decode cX3_setFact 3 = .ok (.imul, 1) := by decide +kernel
theorem dX3_setFact_4 : decode cX3_setFact 4 = .ok (.iload_n 2, 1) := by decide +kernel
theorem dX3_setFact_5 : decode cX3_setFact 5 = .ok (.iadd, 1) := by decide +kernel
theorem dX3_setFact_6 : decode cX3_setFact 6 = .ok (.istore 4, 2) := by decide +kernel
theorem dX3_setFact_8 : decode cX3_setFact 8 = .ok (.aload_n 0, 1) := by decide +kernel
theorem dX3_setFact_9 : decode cX3_setFact 9 = .ok (.iload_n 1, 1) := by decide +kernel
theorem dX3_setFact_10 : decode cX3_setFact 10 = .ok (.invokevirtual 69, 3) := by decide +kernel
theorem dX3_setFact_13 : decode cX3_setFact 13 = .ok (.ifCond .eq 26, 3) := by decide +kernel
theorem dX3_setFact_16 : decode cX3_setFact 16 = .ok (.iload 4, 2) := by decide +kernel
theorem dX3_setFact_18 : decode cX3_setFact 18 = .ok (.ifCond .lt 21, 3) := by decide +kernel
theorem dX3_setFact_21 : decode cX3_setFact 21 = .ok (.iload 4, 2) := by decide +kernel
theorem dX3_setFact_23 : decode cX3_setFact 23 = .ok (.aload_n 0, 1) := by decide +kernel
theorem dX3_setFact_24 : decode cX3_setFact 24 = .ok (.getfield 9, 3) := by decide +kernel
theorem dX3_setFact_27 : decode cX3_setFact 27 = .ok (.arraylength, 1) := by decide +kernel
theorem dX3_setFact_28 : decode cX3_setFact 28 = .ok (.if_icmp .ge 11, 3) := by decide +kernel
theorem dX3_setFact_31 : decode cX3_setFact 31 = .ok (.aload_n 0, 1) := by decide +kernel
theorem dX3_setFact_32 : decode cX3_setFact 32 = .ok (.getfield 9, 3) := by decide +kernel
theorem dX3_setFact_35 : decode cX3_setFact 35 = .ok (.iload 4, 2) := by decide +kernel
theorem dX3_setFact_37 : decode cX3_setFact 37 = .ok (.iload_n 3, 1) := by decide +kernel
theorem dX3_setFact_38 : decode cX3_setFact 38 = .ok (.iastore, 1) := by decide +kernel
theorem dX3_setFact_39 : decode cX3_setFact 39 = .ok (.return_, 1) := by decide +kernel
set_option maxRecDepth 20000 in
theorem ggX4_init_X3_init : GoodIn wsX4_init wsX3_init := goodIn_r _ [23, 24, 2, 3, 25, 26, 27, 28, 29, 30, 31, 32, 33, 34, 35, 36, 37, 38, 39, 40, 41, 42, 43, 44, 45, 46, 47, 69, 70, 71, 72, 73, 74, 75, 76, 77, 96, 97] (by decide +kernel) (by decide +kernel)
set_option maxRecDepth 20000 in
theorem gX4_init_X3_init : GoodIn wsX4_init (wsX3_init) := ggX4_init_X3_init
set_option maxRecDepth 20000 in
theorem ggX4_init_X1_init : GoodIn wsX4_init wsX1_init := goodIn_r _ [50, 51, 2, 3, 52, 53, 5, 6, 54, 55, 56, 22, 23, 24, 25, 26, 27, 28, 29, 30, 31, 32, 33, 34, 35, 36, 37, 38, 39, 40, 41, 42, 43, 44, 45, 46, 47, 86, 87, 88, 69, 70, 71, 72, 73, 74, 75, 76, 77, 96, 97] (by decide +kernel) (by decide +kernel)
set_option maxRecDepth 20000 in
theorem gX4_init_X1_init : GoodIn wsX4_init (wsX1_init) := ggX4_init_X1_init
set_option maxRecDepth 20000 in
theorem ggX4_init_X0_init : GoodIn wsX4_init wsX0_init := goodIn_r _ [59, 60, 2, 3, 61, 62, 63, 64, 65, 66, 67, 68, 89, 90, 91, 92, 93, 94, 95] (by decide +kernel) (by decide +kernel)
set_option maxRecDepth 20000 in
theorem gX4_init_X0_init : GoodIn wsX4_init (wsX0_init) := ggX4_init_X0_init
