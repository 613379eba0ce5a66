theorem dX0_init_0 : decode cX0_init 0 = .ok (.aload_n 0, 1) := by decide +kernel
theorem dX0_init_1 : decode cX0_init 1 = .ok (.invokespecial 3, 3) := by decide +kernel
theorem dX0_init_4 : decode cX0_init 4 = .ok (.aload_n 0, 1) := by decide +kernel
theorem dX0_init_5 : decode cX0_init 5 = .ok (.bipush 60, 2) := by decide +kernel
theorem dX0_init_7 : decode cX0_init 7 = .ok (.newarray .char, 2) := by decide +kernel
theorem dX0_init_9 : decode cX0_init 9 = .ok (.putfield 9, 3) := by decide +kernel
theorem dX0_init_12 : decode cX0_init 12 = .ok (.aload_n 0, 1) := by decide +kernel
theorem dX0_init_13 : decode cX0_init 13 = .ok (.iconst 0, 1) := by decide +kernel
theorem dX0_init_14 : decode cX0_init 14 = .ok (.putfield 15, 3) := by decide +kernel
theorem dX0_init_17 : decode cX0_init 17 = .ok (.aload_n 0, 1) := by decide +kernel
theorem dX0_init_18 : decode cX0_init 18 = .ok (.iconst 0, 1) := by decide +kernel
theorem dX0_init_19 : decode cX0_init 19 = .ok (.putfield 19, 3) := by decide +kernel
theorem dX0_init_22 : decode cX0_init 22 = .ok (.aload_n 0, 1) := by decide +kernel
theorem dX0_init_23 : decode cX0_init 23 = .ok (.iconst (-1), 1) := by decide +kernel
theorem dX0_init_24 : decode cX0_init 24 = .ok (.putfield 22, 3) := by decide +kernel
theorem dX0_init_27 : decode cX0_init 27 = .ok (.aload_n 0, 1) := by decide +kernel
theorem dX0_init_28 : decode cX0_init 28 = .ok (.iconst 0, 1) := by decide +kernel
theorem dX0_init_29 : decode cX0_init 29 = .ok (.putfield 25, 3) := by decide +kernel
theorem dX0_init_32 : decode cX0_init 32 = .ok (.aload_n 0, 1) := by decide +kernel
theorem dX0_init_33 : decode cX0_init 33 = .ok (.iconst 0, 1) := by decide +kernel
theorem dX0_init_34 : decode cX0_init 34 = .ok (.putfield 28, 3) := by decide +kernel
theorem dX0_init_37 : decode cX0_init 37 = .ok (.aload_n 0, 1) := by decide +kernel
theorem dX0_init_38 : decode cX0_init 38 = .ok (.iconst 0, 1) := by decide +kernel
theorem dX0_init_39 : decode cX0_init 39 = .ok (.putfield 31, 3) := by decide +kernel
theorem dX0_init_42 : decode cX0_init 42 = .ok (.return_, 1) := by decide +kernel
theorem dX0_length_0 : decode cX0_length 0 = .ok (.aload_n 0, 1) := by decide +kernel
theorem dX0_length_1 : decode cX0_length 1 = .ok (.getfield 15, 3) := by decide +kernel
theorem dX0_length_4 : decode cX0_length 4 = .ok (.ireturn, 1) := by decide +kernel
theorem dX0_add_0 : decode cX0_add 0 = .ok (.aload_n 0, 1) := by decide +kernel
theorem dX0_add_1 : decode cX0_add 1 = .ok (.getfield 15, 3) := by decide +kernel
theorem dX0_add_4 : decode cX0_add 4 = .ok (.ifCond .lt 15, 3) := by decide +kernel
theorem dX0_add_7 : decode cX0_add 7 = .ok (.aload_n 0, 1) := by decide +kernel
theorem dX0_add_8 : decode cX0_add 8 = .ok (.getfield 15, 3) := by decide +kernel
theorem dX0_add_11 : decode cX0_add 11 = .ok (.aload_n 0, 1) := by decide +kernel
theorem dX0_add_12 : decode cX0_add 12 = .ok (.getfield 9, 3) := by decide +kernel
theorem dX0_add_15 : decode cX0_add 15 = .ok (.arraylength, 1) := by decide +kernel
theorem dX0_add_16 : decode cX0_add 16 = .ok (.if_icmp .lt 6, 3) := by decide +kernel
theorem dX0_add_19 : decode cX0_add 19 = .ok (.bipush (-3), 2) := by decide +kernel
theorem dX0_add_21 : decode cX0_add 21 = .ok (.ireturn, 1) := by decide +kernel
theorem dX0_add_22 : decode cX0_add 22 = .ok (.aload_n 0, 1) := by decide +kernel
theorem dX0_add_23 : decode cX0_add 23 = .ok (.getfield 9, 3) := by decide +kernel
theorem dX0_add_26 : decode cX0_add 26 = .ok (.aload_n 0, 1) := by decide +kernel
theorem dX0_add_27 : decode cX0_add 27 = .ok (.getfield 15, 3) := by decide +kernel
theorem dX0_add_30 : decode cX0_add 30 = .ok (.iload_n 1, 1) := by decide +kernel
theorem dX0_add_31 : decode cX0_add 31 = .ok (.castore, 1) := by decide +kernel
theorem dX0_add_32 : decode cX0_add 32 = .ok (.aload_n 0, 1) := by decide +kernel
theorem dX0_add_33 : decode cX0_add 33 = .ok (.dup, 1) := by decide +kernel
theorem dX0_add_34 : decode cX0_add 34 = .ok (.getfield 15, 3) := by decide +kernel
theorem dX0_add_37 : decode cX0_add 37 = .ok (.iconst 1, 1) := by decide +kernel
theorem dX0_add_38 : decode cX0_add 38 = .ok (.iadd, 1) := by decide +kernel
theorem dX0_add_39 : decode cX0_add 39 = .ok (.putfield 15, 3) := by decide +kernel
theorem dX0_add_42 : decode cX0_add 42 = .ok (.aload_n 0, 1) := by decide +kernel
theorem dX0_add_43 : decode cX0_add 43 = .ok (.getfield 15, 3) := by decide +kernel
theorem dX0_add_46 : decode cX0_add 46 = .ok (.ireturn, 1) := by decide +kernel
theorem dX0_empty_0 : decode cX0_empty 0 = .ok (.aload_n 0, 1) := by decide +kernel
theorem dX0_empty_1 : decode cX0_empty 1 = .ok (.getfield 15, 3) := by decide +kernel
theorem dX0_empty_4 : decode cX0_empty 4 = .ok (.istore_n 1, 1) := by decide +kernel
theorem dX0_empty_5 : decode cX0_empty 5 = .ok (.aload_n 0, 1) := by decide +kernel
theorem dX0_empty_6 : decode cX0_empty 6 = .ok (.iconst 0, 1) := by decide +kernel
theorem dX0_empty_7 : decode cX0_empty 7 = .ok (.putfield 15, 3) := by decide +kernel
theorem dX0_empty_10 : decode cX0_empty 10 = .ok (.iload_n 1, 1) := by decide +kernel
theorem dX0_empty_11 : decode cX0_empty 11 = .ok (.ireturn, 1) := by decide +kernel
theorem dX0_place_0 : decode cX0_place 0 = .ok (.aload_n 0, 1) := by decide +kernel
theorem dX0_place_1 : decode cX0_place 1 = .ok (.getfield 19, 3) := by decide +kernel
theorem dX0_place_4 : decode cX0_place 4 = .ok (.ireturn, 1) := by decide +kernel
theorem dX0_kind_0 : decode cX0_kind 0 = .ok (.aload_n 0, 1) := by decide +kernel
theorem dX0_kind_1 : decode cX0_kind 1 = .ok (.getfield 22, 3) := by decide +kernel
theorem dX0_kind_4 : decode cX0_kind 4 = .ok (.ireturn, 1) := by decide +kernel
theorem dX0_crown_0 : decode cX0_crown 0 = .ok (.aload_n 0, 1) := by decide +kernel
theorem dX0_crown_1 : decode cX0_crown 1 = .ok (.getfield 25, 3) := by decide +kernel
theorem dX0_crown_4 : decode cX0_crown 4 = .ok (.ireturn, 1) := by decide +kernel
theorem dX0_age_0 : decode cX0_age 0 = .ok (.aload_n 0, 1) := by decide +kernel
theorem dX0_age_1 : decode cX0_age 1 = .ok (.getfield 28, 3) := by decide +kernel
theorem dX0_age_4 : decode cX0_age 4 = .ok (.ireturn, 1) := by decide +kernel
theorem dX0_number_0 : decode cX0_number 0 = .ok (.aload_n 0, 1) := by decide +kernel
theorem dX0_number_1 : decode cX0_number 1 = .ok (.getfield 31, 3) := by decide +kernel
theorem dX0_number_4 : decode cX0_number 4 = .ok (.ireturn, 1) := by decide +kernel
theorem dX0_rewind_0 : decode cX0_rewind 0 = .ok (.aload_n 0, 1) := by decide +kernel
theorem dX0_rewind_1 : decode cX0_rewind 1 = .ok (.iconst 0, 1) := by decide +kernel
theorem dX0_rewind_2 : decode cX0_rewind 2 = .ok (.putfield 19, 3) := by decide +kernel
theorem dX0_rewind_5 : decode cX0_rewind 5 = .ok (.return_, 1) := by decide +kernel
set_option maxRecDepth 20000 in
theorem ggX0_checkThings_X0_rewind : GoodIn wsX0_checkThings wsX0_rewind := goodIn_r _ [7, 1, 37, 38, 39, 40, 41, 42, 43] (by decide +kernel) (by decide +kernel)
set_option maxRecDepth 20000 in
theorem gX0_checkThings_X0_rewind : GoodIn wsX0_checkThings (wsV RX0 34 RX0 yX0_rewind wsX0_rewind) := goodIn_app (goodIn_of _ (by decide +kernel)) ggX0_checkThings_X0_rewind
set_option maxRecDepth 20000 in
theorem ggX0_checkThings_X0_readThing : GoodIn wsX0_checkThings wsX0_readThing := goodIn_r _ [11, 1, 12, 13, 14, 15, 6, 16, 17, 18, 19, 20, 2, 21, 22, 23, 24, 25, 26, 27, 28, 29, 30, 31, 32, 33, 34, 35, 36, 37, 38, 39, 40, 41, 42, 43] (by decide +kernel) (by decide +kernel)
set_option maxRecDepth 20000 in
theorem gX0_checkThings_X0_readThing : GoodIn wsX0_checkThings (wsV RX0 37 RX0 yX0_readThing wsX0_readThing) := goodIn_app (goodIn_of _ (by decide +kernel)) ggX0_checkThings_X0_readThing
theorem dX0_checkThings_0 : decode cX0_checkThings 0 = .ok (.aload_n 0, 1) := by decide +kernel
theorem dX0_checkThings_1 : decode cX0_checkThings 1 = .ok (.invokevirtual 34, 3) := by decide +kernel
theorem dX0_checkThings_4 : decode cX0_checkThings 4 = .ok (.iconst 1, 1) := by decide +kernel
theorem dX0_checkThings_5 : decode cX0_checkThings 5 = .ok (.istore_n 1, 1) := by decide +kernel
theorem dX0_checkThings_6 : decode cX0_checkThings 6 = .ok (.iload_n 1, 1) := by decide +kernel
theorem dX0_checkThings_7 : decode cX0_checkThings 7 = .ok (.bipush 60, 2) := by decide +kernel
theorem dX0_checkThings_9 : decode cX0_checkThings 9 = .ok (.if_icmp .gt 29, 3) := by decide +kernel
theorem dX0_checkThings_12 : decode cX0_checkThings 12 = .ok (.aload_n 0, 1) := by decide +kernel
theorem dX0_checkThings_13 : decode cX0_checkThings 13 = .ok (.invokevirtual 37, 3) := by decide +kernel
theorem dX0_checkThings_16 : decode cX0_checkThings 16 = .ok (.ifCond .eq 22, 3) := by decide +kernel
theorem dX0_checkThings_19 : decode cX0_checkThings 19 = .ok (.aload_n 0, 1) := by decide +kernel
theorem dX0_checkThings_20 : decode cX0_checkThings 20 = .ok (.getfield 19, 3) := by decide +kernel
theorem dX0_checkThings_23 : decode cX0_checkThings 23 = .ok (.aload_n 0, 1) := by decide +kernel
theorem dX0_checkThings_24 : decode cX0_checkThings 24 = .ok (.getfield 15, 3) := by decide +kernel
theorem dX0_checkThings_27 : decode cX0_checkThings 27 = .ok (.if_icmp .lt 5, 3) := by decide +kernel
theorem dX0_checkThings_30 : decode cX0_checkThings 30 = .ok (.iload_n 1, 1) := by decide +kernel
theorem dX0_checkThings_31 : decode cX0_checkThings 31 = .ok (.ireturn, 1) := by decide +kernel
theorem dX0_checkThings_32 : decode cX0_checkThings 32 = .ok (.iinc 1 1, 3) := by decide +kernel
theorem dX0_checkThings_35 : decode cX0_checkThings 35 = .ok (.goto (-29), 3) := by decide +kernel
theorem dX0_checkThings_38 : decode cX0_checkThings 38 = .ok (.iconst (-1), 1) := by decide +kernel
theorem dX0_checkThings_39 : decode cX0_checkThings 39 = .ok (.ireturn, 1) := by decide +kernel
set_option maxRecDepth 20000 in
theorem ggX0_readThing_X0_skip : GoodIn wsX0_readThing wsX0_skip := goodIn_r _ [7, 1, 8, 9, 10, 6, 11, 12, 13, 29, 30, 31, 32, 33, 34, 35] (by decide +kernel) (by decide +kernel)
set_option maxRecDepth 20000 in
theorem gX0_readThing_X0_skip : GoodIn wsX0_readThing (wsV RX0 41 RX0 yX0_skip wsX0_skip) := goodIn_app (goodIn_of _ (by decide +kernel)) ggX0_readThing_X0_skip
set_option maxRecDepth 20000 in
theorem ggX0_readThing_X0_signAt : GoodIn wsX0_readThing wsX0_signAt := goodIn_r _ [11, 12, 13, 29, 30, 31, 32, 33, 34, 35] (by decide +kernel) (by decide +kernel)
set_option maxRecDepth 20000 in
theorem gX0_readThing_X0_signAt : GoodIn wsX0_readThing (wsV RX0 45 RX0 yX0_signAt wsX0_signAt) := goodIn_app (goodIn_of _ (by decide +kernel)) ggX0_readThing_X0_signAt
set_option maxRecDepth 20000 in
theorem ggX0_readThing_X0_readKing : GoodIn wsX0_readThing wsX0_readKing := goodIn_r _ [17, 18, 19, 20, 21, 22, 23, 6, 24, 1, 12, 25, 26, 27, 28, 8, 9, 10, 11, 13, 3, 4, 5, 7, 29, 30, 31, 32, 33, 34, 35] (by decide +kernel) (by decide +kernel)
set_option maxRecDepth 20000 in
theorem gX0_readThing_X0_readKing : GoodIn wsX0_readThing (wsV RX0 49 RX0 yX0_readKing wsX0_readKing) := goodIn_app (goodIn_of _ (by decide +kernel)) ggX0_readThing_X0_readKing
set_option maxRecDepth 20000 in
theorem ggX0_readThing_X0_readNumber : GoodIn wsX0_readThing wsX0_readNumber := goodIn_r _ [24, 1, 18, 12, 25, 26, 27, 6, 28, 8, 9, 10, 11, 13, 29, 30, 31, 32, 33, 34, 35] (by decide +kernel) (by decide +kernel)
set_option maxRecDepth 20000 in
theorem gX0_readThing_X0_readNumber : GoodIn wsX0_readThing (wsV RX0 52 RX0 yX0_readNumber wsX0_readNumber) := goodIn_app (goodIn_of _ (by decide +kernel)) ggX0_readThing_X0_readNumber
theorem dX0_readThing_0 : decode cX0_readThing 0 = .ok (.aload_n 0, 1) := by decide +kernel
theorem dX0_readThing_1 : decode cX0_readThing 1 = .ok (.getfield 19, 3) := by decide +kernel
theorem dX0_readThing_4 : decode cX0_readThing 4 = .ok (.ifCond .le 14, 3) := by decide +kernel
theorem dX0_readThing_7 : decode cX0_readThing 7 = .ok (.aload_n 0, 1) := by decide +kernel
theorem dX0_readThing_8 : decode cX0_readThing 8 = .ok (.bipush 59, 2) := by decide +kernel
theorem dX0_readThing_10 : decode cX0_readThing 10 = .ok (.invokevirtual 41, 3) := by decide +kernel
theorem dX0_readThing_13 : decode cX0_readThing 13 = .ok (.ifCond .ne 5, 3) := by decide +kernel
theorem dX0_readThing_16 : decode cX0_readThing 16 = .ok (.iconst 0, 1) := by decide +kernel
theorem dX0_readThing_17 : decode cX0_readThing 17 = .ok (.ireturn, 1) := by decide +kernel
theorem dX0_readThing_18 : decode cX0_readThing 18 = .ok (.aload_n 0, 1) := by decide +kernel
theorem dX0_readThing_19 : decode cX0_readThing 19 = .ok (.aload_n 0, 1) := by decide +kernel
theorem dX0_readThing_20 : decode cX0_readThing 20 = .ok (.aload_n 0, 1) := by decide +kernel
theorem dX0_readThing_21 : decode cX0_readThing 21 = .ok (.getfield 19, 3) := by decide +kernel
theorem dX0_readThing_24 : decode cX0_readThing 24 = .ok (.invokevirtual 45, 3) := by decide +kernel
theorem dX0_readThing_27 : decode cX0_readThing 27 = .ok (.putfield 22, 3) := by decide +kernel
theorem dX0_readThing_30 : decode cX0_readThing 30 = .ok (.aload_n 0, 1) := by decide +kernel
theorem dX0_readThing_31 : decode cX0_readThing 31 = .ok (.bipush 107, 2) := by decide +kernel
theorem dX0_readThing_33 : decode cX0_readThing 33 = .ok (.invokevirtual 41, 3) := by decide +kernel
theorem dX0_readThing_36 : decode cX0_readThing 36 = .ok (.ifCond .eq 8, 3) := by decide +kernel
theorem dX0_readThing_39 : decode cX0_readThing 39 = .ok (.aload_n 0, 1) := by decide +kernel
theorem dX0_readThing_40 : decode cX0_readThing 40 = .ok (.invokevirtual 49, 3) := by decide +kernel
theorem dX0_readThing_43 : decode cX0_readThing 43 = .ok (.ireturn, 1) := by decide +kernel
theorem dX0_readThing_44 : decode cX0_readThing 44 = .ok (.aload_n 0, 1) := by decide +kernel
theorem dX0_readThing_45 : decode cX0_readThing 45 = .ok (.bipush 108, 2) := by decide +kernel
theorem dX0_readThing_47 : decode cX0_readThing 47 = .ok (.invokevirtual 41, 3) := by decide +kernel
theorem dX0_readThing_50 : decode cX0_readThing 50 = .ok (.ifCond .eq 11, 3) := by decide +kernel
theorem dX0_readThing_53 : decode cX0_readThing 53 = .ok (.aload_n 0, 1) := by decide +kernel
theorem dX0_readThing_54 : decode cX0_readThing 54 = .ok (.iconst 0, 1) := by decide +kernel
theorem dX0_readThing_55 : decode cX0_readThing 55 = .ok (.bipush 23, 2) := by decide +kernel
theorem dX0_readThing_57 : decode cX0_readThing 57 = .ok (.invokevirtual 52, 3) := by decide +kernel
theorem dX0_readThing_60 : decode cX0_readThing 60 = .ok (.ireturn, 1) := by decide +kernel
theorem dX0_readThing_61 : decode cX0_readThing 61 = .ok (.aload_n 0, 1) := by decide +kernel
theorem dX0_readThing_62 : decode cX0_readThing 62 = .ok (.bipush 46, 2) := by decide +kernel
theorem dX0_readThing_64 : decode cX0_readThing 64 = .ok (.invokevirtual 41, 3) := by decide +kernel
theorem dX0_readThing_67 : decode cX0_readThing 67 = .ok (.ifCond .eq 17, 3) := by decide +kernel
theorem dX0_readThing_70 : decode cX0_readThing 70 = .ok (.aload_n 0, 1) := by decide +kernel
theorem dX0_readThing_71 : decode cX0_readThing 71 = .ok (.iconst 1, 1) := by decide +kernel
theorem dX0_readThing_72 : decode cX0_readThing 72 = .ok (.bipush 99, 2) := by decide +kernel
theorem dX0_readThing_74 : decode cX0_readThing 74 = .ok (.invokevirtual 52, 3) := by decide +kernel
theorem dX0_readThing_77 : decode cX0_readThing 77 = .ok (.ifCond .eq 7, 3) := by decide +kernel
theorem dX0_readThing_80 : decode cX0_readThing 80 = .ok (.iconst 1, 1) := by decide +kernel
theorem dX0_readThing_81 : decode cX0_readThing 81 = .ok (.goto 4, 3) := by decide +kernel
theorem dX0_readThing_84 : decode cX0_readThing 84 = .ok (.iconst 0, 1) := by decide +kernel
theorem dX0_readThing_85 : decode cX0_readThing 85 = .ok (.ireturn, 1) := by decide +kernel
set_option maxRecDepth 20000 in
theorem ggX0_readKing_X0_readNumber : GoodIn wsX0_readKing wsX0_readNumber := goodIn_r _ [8, 9, 1, 10, 11, 12, 13, 7, 14, 15, 16, 17, 18, 19, 24, 25, 26, 27, 28, 29, 30] (by decide +kernel) (by decide +kernel)
set_option maxRecDepth 20000 in
theorem gX0_readKing_X0_readNumber : GoodIn wsX0_readKing (wsV RX0 52 RX0 yX0_readNumber wsX0_readNumber) := goodIn_app (goodIn_of _ (by decide +kernel)) ggX0_readKing_X0_readNumber
set_option maxRecDepth 20000 in
theorem ggX0_readKing_X0_skip : GoodIn wsX0_readKing wsX0_skip := goodIn_r _ [23, 9, 15, 16, 17, 7, 18, 10, 19, 24, 25, 26, 27, 28, 29, 30] (by decide +kernel) (by decide +kernel)
set_option maxRecDepth 20000 in
theorem gX0_readKing_X0_skip : GoodIn wsX0_readKing (wsV RX0 41 RX0 yX0_skip wsX0_skip) := goodIn_app (goodIn_of _ (by decide +kernel)) ggX0_readKing_X0_skip
theorem dX0_readKing_0 : decode cX0_readKing 0 = .ok (.aload_n 0, 1) := by decide +kernel
theorem dX0_readKing_1 : decode cX0_readKing 1 = .ok (.iconst 1, 1) := by decide +kernel
theorem dX0_readKing_2 : decode cX0_readKing 2 = .ok (.bipush 9, 2) := by decide +kernel
theorem dX0_readKing_4 : decode cX0_readKing 4 = .ok (.invokevirtual 52, 3) := by decide +kernel
theorem dX0_readKing_7 : decode cX0_readKing 7 = .ok (.ifCond .ne 5, 3) := by decide +kernel
theorem dX0_readKing_10 : decode cX0_readKing 10 = .ok (.iconst 0, 1) := by decide +kernel
theorem dX0_readKing_11 : decode cX0_readKing 11 = .ok (.ireturn, 1) := by decide +kernel
theorem dX0_readKing_12 : decode cX0_readKing 12 = .ok (.aload_n 0, 1) := by decide +kernel
theorem dX0_readKing_13 : decode cX0_readKing 13 = .ok (.aload_n 0, 1) := by decide +kernel
theorem dX0_readKing_14 : decode cX0_readKing 14 = .ok (.getfield 31, 3) := by decide +kernel
theorem dX0_readKing_17 : decode cX0_readKing 17 = .ok (.putfield 25, 3) := by decide +kernel
theorem dX0_readKing_20 : decode cX0_readKing 20 = .ok (.aload_n 0, 1) := by decide +kernel
theorem dX0_readKing_21 : decode cX0_readKing 21 = .ok (.bipush 46, 2) := by decide +kernel
theorem dX0_readKing_23 : decode cX0_readKing 23 = .ok (.invokevirtual 41, 3) := by decide +kernel
theorem dX0_readKing_26 : decode cX0_readKing 26 = .ok (.ifCond .eq 13, 3) := by decide +kernel
theorem dX0_readKing_29 : decode cX0_readKing 29 = .ok (.aload_n 0, 1) := by decide +kernel
theorem dX0_readKing_30 : decode cX0_readKing 30 = .ok (.iconst 0, 1) := by decide +kernel
theorem dX0_readKing_31 : decode cX0_readKing 31 = .ok (.bipush 120, 2) := by decide +kernel
theorem dX0_readKing_33 : decode cX0_readKing 33 = .ok (.invokevirtual 52, 3) := by decide +kernel
theorem dX0_readKing_36 : decode cX0_readKing 36 = .ok (.ifCond .ne 5, 3) := by decide +kernel
theorem dX0_readKing_39 : decode cX0_readKing 39 = .ok (.iconst 0, 1) := by decide +kernel
theorem dX0_readKing_40 : decode cX0_readKing 40 = .ok (.ireturn, 1) := by decide +kernel
theorem dX0_readKing_41 : decode cX0_readKing 41 = .ok (.aload_n 0, 1) := by decide +kernel
theorem dX0_readKing_42 : decode cX0_readKing 42 = .ok (.aload_n 0, 1) := by decide +kernel
theorem dX0_readKing_43 : decode cX0_readKing 43 = .ok (.getfield 31, 3) := by decide +kernel
theorem dX0_readKing_46 : decode cX0_readKing 46 = .ok (.putfield 28, 3) := by decide +kernel
theorem dX0_readKing_49 : decode cX0_readKing 49 = .ok (.aload_n 0, 1) := by decide +kernel
theorem dX0_readKing_50 : decode cX0_readKing 50 = .ok (.bipush 64, 2) := by decide +kernel
theorem dX0_readKing_52 : decode cX0_readKing 52 = .ok (.invokevirtual 41, 3) := by decide +kernel
theorem dX0_readKing_55 : decode cX0_readKing 55 = .ok (.ifCond .eq 18, 3) := by decide +kernel
theorem dX0_readKing_58 : decode cX0_readKing 58 = .ok (.aload_n 0, 1) := by decide +kernel
theorem dX0_readKing_59 : decode cX0_readKing 59 = .ok (.iconst 0, 1) := by decide +kernel
theorem dX0_readKing_60 : decode cX0_readKing 60 = .ok (.sipush 9999, 3) := by decide +kernel
theorem dX0_readKing_63 : decode cX0_readKing 63 = .ok (.invokevirtual 52, 3) := by decide +kernel
theorem dX0_readKing_66 : decode cX0_readKing 66 = .ok (.ifCond .eq 7, 3) := by decide +kernel
theorem dX0_readKing_69 : decode cX0_readKing 69 = .ok (.iconst 1, 1) := by decide +kernel
theorem dX0_readKing_70 : decode cX0_readKing 70 = .ok (.goto 4, 3) := by decide +kernel
theorem dX0_readKing_73 : decode cX0_readKing 73 = .ok (.iconst 0, 1) := by decide +kernel
theorem dX0_readKing_74 : decode cX0_readKing 74 = .ok (.ireturn, 1) := by decide +kernel
set_option maxRecDepth 20000 in
theorem ggX0_readNumber_X0_digitAt : GoodIn wsX0_readNumber wsX0_digitAt := goodIn_r _ [8, 9, 10, 11, 7, 12, 3, 13, 14, 15, 16, 17, 18, 19, 20] (by decide +kernel) (by decide +kernel)
set_option maxRecDepth 20000 in
theorem gX0_readNumber_X0_digitAt : GoodIn wsX0_readNumber (wsV RX0 56 RX0 yX0_digitAt wsX0_digitAt) := goodIn_app (goodIn_of _ (by decide +kernel)) ggX0_readNumber_X0_digitAt
theorem dX0_readNumber_0 : decode cX0_readNumber 0 = .ok (.aload_n 0, 1) := by decide +kernel
theorem dX0_readNumber_1 : decode cX0_readNumber 1 = .ok (.aload_n 0, 1) := by decide +kernel
theorem dX0_readNumber_2 : decode cX0_readNumber 2 = .ok (.aload_n 0, 1) := by decide +kernel
theorem dX0_readNumber_3 : decode cX0_readNumber 3 = .ok (.getfield 19, 3) := by decide +kernel
theorem dX0_readNumber_6 : decode cX0_readNumber 6 = .ok (.invokevirtual 56, 3) := by decide +kernel
theorem dX0_readNumber_9 : decode cX0_readNumber 9 = .ok (.putfield 31, 3) := by decide +kernel
theorem dX0_readNumber_12 : decode cX0_readNumber 12 = .ok (.aload_n 0, 1) := by decide +kernel
theorem dX0_readNumber_13 : decode cX0_readNumber 13 = .ok (.getfield 31, 3) := by decide +kernel
theorem dX0_readNumber_16 : decode cX0_readNumber 16 = .ok (.iconst (-1), 1) := by decide +kernel
theorem dX0_readNumber_17 : decode cX0_readNumber 17 = .ok (.if_icmp .eq 11, 3) := by decide +kernel
theorem dX0_readNumber_20 : decode cX0_readNumber 20 = .ok (.aload_n 0, 1) := by decide +kernel
theorem dX0_readNumber_21 : decode cX0_readNumber 21 = .ok (.getfield 31, 3) := by decide +kernel
theorem dX0_readNumber_24 : decode cX0_readNumber 24 = .ok (.iload_n 1, 1) := by decide +kernel
theorem dX0_readNumber_25 : decode cX0_readNumber 25 = .ok (.if_icmp .ge 5, 3) := by decide +kernel
theorem dX0_readNumber_28 : decode cX0_readNumber 28 = .ok (.iconst 0, 1) := by decide +kernel
theorem dX0_readNumber_29 : decode cX0_readNumber 29 = .ok (.ireturn, 1) := by decide +kernel
theorem dX0_readNumber_30 : decode cX0_readNumber 30 = .ok (.aload_n 0, 1) := by decide +kernel
theorem dX0_readNumber_31 : decode cX0_readNumber 31 = .ok (.dup, 1) := by decide +kernel
theorem dX0_readNumber_32 : decode cX0_readNumber 32 = .ok (.getfield 19, 3) := by decide +kernel
theorem dX0_readNumber_35 : decode cX0_readNumber 35 = .ok (.iconst 1, 1) := by decide +kernel
theorem dX0_readNumber_36 : decode cX0_readNumber 36 = .ok (.iadd, 1) := by decide +kernel
theorem dX0_readNumber_37 : decode cX0_readNumber 37 = .ok (.putfield 19, 3) := by decide +kernel
theorem dX0_readNumber_40 : decode cX0_readNumber 40 = .ok (.aload_n 0, 1) := by decide +kernel
theorem dX0_readNumber_41 : decode cX0_readNumber 41 = .ok (.getfield 31, 3) := by decide +kernel
theorem dX0_readNumber_44 : decode cX0_readNumber 44 = .ok (.ifCond .le 79, 3) := by decide +kernel
theorem dX0_readNumber_47 : decode cX0_readNumber 47 = .ok (.aload_n 0, 1) := by decide +kernel
theorem dX0_readNumber_48 : decode cX0_readNumber 48 = .ok (.getfield 19, 3) := by decide +kernel
theorem dX0_readNumber_51 : decode cX0_readNumber 51 = .ok (.aload_n 0, 1) := by decide +kernel
theorem dX0_readNumber_52 : decode cX0_readNumber 52 = .ok (.getfield 15, 3) := by decide +kernel
theorem dX0_readNumber_55 : decode cX0_readNumber 55 = .ok (.if_icmp .ge 68, 3) := by decide +kernel
theorem dX0_readNumber_58 : decode cX0_readNumber 58 = .ok (.aload_n 0, 1) := by decide +kernel
theorem dX0_readNumber_59 : decode cX0_readNumber 59 = .ok (.aload_n 0, 1) := by decide +kernel
theorem dX0_readNumber_60 : decode cX0_readNumber 60 = .ok (.getfield 19, 3) := by decide +kernel
theorem dX0_readNumber_63 : decode cX0_readNumber 63 = .ok (.invokevirtual 56, 3) := by decide +kernel
theorem dX0_readNumber_66 : decode cX0_readNumber 66 = .ok (.iconst (-1), 1) := by decide +kernel
theorem dX0_readNumber_67 : decode cX0_readNumber 67 = .ok (.if_icmp .eq 56, 3) := by decide +kernel
theorem dX0_readNumber_70 : decode cX0_readNumber 70 = .ok (.aload_n 0, 1) := by decide +kernel
theorem dX0_readNumber_71 : decode cX0_readNumber 71 = .ok (.getfield 31, 3) := by decide +kernel
theorem dX0_readNumber_74 : decode cX0_readNumber 74 = .ok (.bipush 10, 2) := by decide +kernel
theorem dX0_readNumber_76 : decode cX0_readNumber 76 = .ok (.imul, 1) := by decide +kernel
theorem dX0_readNumber_77 : decode cX0_readNumber 77 = .ok (.aload_n 0, 1) := by decide +kernel
theorem dX0_readNumber_78 : decode cX0_readNumber 78 = .ok (.aload_n 0, 1) := by decide +kernel
theorem dX0_readNumber_79 : decode cX0_readNumber 79 = .ok (.getfield 19, 3) := by decide +kernel
theorem dX0_readNumber_82 : decode cX0_readNumber 82 = .ok (.invokevirtual 56, 3) := by decide +kernel
theorem dX0_readNumber_85 : decode cX0_readNumber 85 = .ok (.iadd, 1) := by decide +kernel
theorem dX0_readNumber_86 : decode cX0_readNumber 86 = .ok (.iload_n 2, 1) := by decide +kernel
theorem dX0_readNumber_87 : decode cX0_readNumber 87 = .ok (.if_icmp .gt 36, 3) := by decide +kernel
theorem dX0_readNumber_90 : decode cX0_readNumber 90 = .ok (.aload_n 0, 1) := by decide +kernel
theorem dX0_readNumber_91 : decode cX0_readNumber 91 = .ok (.aload_n 0, 1) := by decide +kernel
theorem dX0_readNumber_92 : decode cX0_readNumber 92 = .ok (.getfield 31, 3) := by decide +kernel
theorem dX0_readNumber_95 : decode cX0_readNumber 95 = .ok (.bipush 10, 2) := by decide +kernel
theorem dX0_readNumber_97 : decode cX0_readNumber 97 = .ok (.imul, 1) := by decide +kernel
theorem dX0_readNumber_98 : decode cX0_readNumber 98 = .ok (.aload_n 0, 1) := by decide +kernel
theorem dX0_readNumber_99 : decode cX0_readNumber 99 = .ok (.aload_n 0, 1) := by decide +kernel
theorem dX0_readNumber_100 : decode cX0_readNumber 100 = .ok (.getfield 19, 3) := by decide +kernel
theorem dX0_readNumber_103 : decode cX0_readNumber 103 = .ok (.invokevirtual 56, 3) := by decide +kernel
theorem dX0_readNumber_106 : decode cX0_readNumber 106 = .ok (.iadd, 1) := by decide +kernel
theorem dX0_readNumber_107 : decode cX0_readNumber 107 = .ok (.putfield 31, 3) := by decide +kernel
theorem dX0_readNumber_110 : decode cX0_readNumber 110 = .ok (.aload_n 0, 1) := by decide +kernel
theorem dX0_readNumber_111 : decode cX0_readNumber 111 = .ok (.dup, 1) := by decide +kernel
theorem dX0_readNumber_112 : decode cX0_readNumber 112 = .ok (.getfield 19, 3) := by decide +kernel
theorem dX0_readNumber_115 : decode cX0_readNumber 115 = .ok (.iconst 1, 1) := by decide +kernel
theorem dX0_readNumber_116 : decode cX0_readNumber 116 = .ok (.iadd, 1) := by decide +kernel
theorem dX0_readNumber_117 : decode cX0_readNumber 117 = .ok (.putfield 19, 3) := by decide +kernel
theorem dX0_readNumber_120 : decode cX0_readNumber 120 = .ok (.goto (-80), 3) := by decide +kernel
theorem dX0_readNumber_123 : decode cX0_readNumber 123 = .ok (.iconst 1, 1) := by decide +kernel
theorem dX0_readNumber_124 : decode cX0_readNumber 124 = .ok (.ireturn, 1) := by decide +kernel
set_option maxRecDepth 20000 in
theorem ggX0_skip_X0_signAt : GoodIn wsX0_skip wsX0_signAt := goodIn_r _ [6, 7, 8, 9, 10, 11, 12, 13, 14, 15] (by decide +kernel) (by decide +kernel)
set_option maxRecDepth 20000 in
theorem gX0_skip_X0_signAt : GoodIn wsX0_skip (wsV RX0 45 RX0 yX0_signAt wsX0_signAt) := goodIn_app (goodIn_of _ (by decide +kernel)) ggX0_skip_X0_signAt
theorem dX0_skip_0 : decode cX0_skip 0 = .ok (.aload_n 0, 1) := by decide +kernel
theorem dX0_skip_1 : decode cX0_skip 1 = .ok (.aload_n 0, 1) := by decide +kernel
theorem dX0_skip_2 : decode cX0_skip 2 = .ok (.getfield 19, 3) := by decide +kernel
theorem dX0_skip_5 : decode cX0_skip 5 = .ok (.invokevirtual 45, 3) := by decide +kernel
theorem dX0_skip_8 : decode cX0_skip 8 = .ok (.iload_n 1, 1) := by decide +kernel
theorem dX0_skip_9 : decode cX0_skip 9 = .ok (.if_icmp .eq 5, 3) := by decide +kernel
theorem dX0_skip_12 : decode cX0_skip 12 = .ok (.iconst 0, 1) := by decide +kernel
theorem dX0_skip_13 : decode cX0_skip 13 = .ok (.ireturn, 1) := by decide +kernel
theorem dX0_skip_14 : decode cX0_skip 14 = .ok (.aload_n 0, 1) := by decide +kernel
theorem dX0_skip_15 : decode cX0_skip 15 = .ok (.dup, 1) := by decide +kernel
theorem dX0_skip_16 : decode cX0_skip 16 = .ok (.getfield 19, 3) := by decide +kernel
theorem dX0_skip_19 : decode cX0_skip 19 = .ok (.iconst 1, 1) := by decide +kernel
theorem dX0_skip_20 : decode cX0_skip 20 = .ok (.iadd, 1) := by decide +kernel
theorem dX0_skip_21 : decode cX0_skip 21 = .ok (.putfield 19, 3) := by decide +kernel
theorem dX0_skip_24 : decode cX0_skip 24 = .ok (.iconst 1, 1) := by decide +kernel
theorem dX0_skip_25 : decode cX0_skip 25 = .ok (.ireturn, 1) := by decide +kernel
set_option maxRecDepth 20000 in
theorem ggX0_digitAt_X0_signAt : GoodIn wsX0_digitAt wsX0_signAt := goodIn_r _ [5, 6, 7, 8, 9, 10, 11, 12, 13, 14] (by decide +kernel) (by decide +kernel)
set_option maxRecDepth 20000 in
theorem gX0_digitAt_X0_signAt : GoodIn wsX0_digitAt (wsV RX0 45 RX0 yX0_signAt wsX0_signAt) := goodIn_app (goodIn_of _ (by decide +kernel)) ggX0_digitAt_X0_signAt
theorem dX0_digitAt_0 : decode cX0_digitAt 0 = .ok (.aload_n 0, 1) := by decide +kernel
theorem dX0_digitAt_1 : decode cX0_digitAt 1 = .ok (.iload_n 1, 1) := by decide +kernel
theorem dX0_digitAt_2 : decode cX0_digitAt 2 = .ok (.invokevirtual 45, 3) := by decide +kernel
theorem dX0_digitAt_5 : decode cX0_digitAt 5 = .ok (.istore_n 2, 1) := by decide +kernel
theorem dX0_digitAt_6 : decode cX0_digitAt 6 = .ok (.iload_n 2, 1) := by decide +kernel
theorem dX0_digitAt_7 : decode cX0_digitAt 7 = .ok (.bipush 48, 2) := by decide +kernel
theorem dX0_digitAt_9 : decode cX0_digitAt 9 = .ok (.if_icmp .lt 16, 3) := by decide +kernel
theorem dX0_digitAt_12 : decode cX0_digitAt 12 = .ok (.iload_n 2, 1) := by decide +kernel
theorem dX0_digitAt_13 : decode cX0_digitAt 13 = .ok (.bipush 57, 2) := by decide +kernel
theorem dX0_digitAt_15 : decode cX0_digitAt 15 = .ok (.if_icmp .gt 10, 3) := by decide +kernel
theorem dX0_digitAt_18 : decode cX0_digitAt 18 = .ok (.iload_n 2, 1) := by decide +kernel
theorem dX0_digitAt_19 : decode cX0_digitAt 19 = .ok (.bipush 48, 2) := by decide +kernel
theorem dX0_digitAt_21 : decode cX0_digitAt 21 = .ok (.isub, 1) := by decide +kernel
theorem dX0_digitAt_22 : decode cX0_digitAt 22 = .ok (.goto 4, 3) := by decide +kernel
theorem dX0_digitAt_25 : decode cX0_digitAt 25 = .ok (.iconst (-1), 1) := by decide +kernel
theorem dX0_digitAt_26 : decode cX0_digitAt 26 = .ok (.ireturn, 1) := by decide +kernel
theorem dX0_signAt_0 : decode cX0_signAt 0 = .ok (.iload_n 1, 1) := by decide +kernel
theorem dX0_signAt_1 : decode cX0_signAt 1 = .ok (.ifCond .lt 29, 3) := by decide +kernel
theorem dX0_signAt_4 : decode cX0_signAt 4 = .ok (.iload_n 1, 1) := by decide +kernel
theorem dX0_signAt_5 : decode cX0_signAt 5 = .ok (.aload_n 0, 1) := by decide +kernel
theorem dX0_signAt_6 : decode cX0_signAt 6 = .ok (.getfield 15, 3) := by decide +kernel
theorem dX0_signAt_9 : decode cX0_signAt 9 = .ok (.if_icmp .ge 21, 3) := by decide +kernel
theorem dX0_signAt_12 : decode cX0_signAt 12 = .ok (.iload_n 1, 1) := by decide +kernel
theorem dX0_signAt_13 : decode cX0_signAt 13 = .ok (.aload_n 0, 1) := by decide +kernel
theorem dX0_signAt_14 : decode cX0_signAt 14 = .ok (.getfield 9, 3) := by decide +kernel
theorem dX0_signAt_17 : decode cX0_signAt 17 = .ok (.arraylength, 1) := by decide +kernel
theorem dX0_signAt_18 : decode cX0_signAt 18 = .ok (.if_icmp .ge 12, 3) := by decide +kernel
theorem dX0_signAt_21 : decode cX0_signAt 21 = .ok (.aload_n 0, 1) := by decide +kernel
theorem dX0_signAt_22 : decode cX0_signAt 22 = .ok (.getfield 9, 3) := by decide +kernel
theorem dX0_signAt_25 : decode cX0_signAt 25 = .ok (.iload_n 1, 1) := by decide +kernel
theorem dX0_signAt_26 : decode cX0_signAt 26 = .ok (.caload, 1) := by decide +kernel
theorem dX0_signAt_27 : decode cX0_signAt 27 = .ok (.goto 4, 3) := by decide +kernel
theorem dX0_signAt_30 : decode cX0_signAt 30 = .ok (.iconst (-1), 1) := by decide +kernel
theorem dX0_signAt_31 : decode cX0_signAt 31 = .ok (.ireturn, 1) := by decide +kernel
set_option maxRecDepth 20000 in
theorem ggX1_init_X3_init : GoodIn wsX1_init wsX3_init := goodIn_r _ [12, 13, 2, 3, 14, 15, 16, 17, 18, 19, 20, 21, 22, 23, 24, 25, 26, 27, 28, 29, 30, 31, 32, 33, 34, 35, 36, 40, 41, 42, 43, 44, 45, 46, 47, 48, 49, 50] (by decide +kernel) (by decide +kernel)
set_option maxRecDepth 20000 in
theorem gX1_init_X3_init : GoodIn wsX1_init (wsX3_init) := ggX1_init_X3_init
theorem dX1_init_0 : decode cX1_init 0 = .ok (.aload_n 0, 1) := by decide +kernel
theorem dX1_init_1 : decode cX1_init 1 = .ok (.invokespecial 3, 3) := by decide +kernel
theorem dX1_init_4 : decode cX1_init 4 = .ok (.aload_n 0, 1) := by decide +kernel
theorem dX1_init_5 : decode cX1_init 5 = .ok (.iconst 4, 1) := by decide +kernel
theorem dX1_init_6 : decode cX1_init 6 = .ok (.anewarray 9, 3) := by decide +kernel
theorem dX1_init_9 : decode cX1_init 9 = .ok (.putfield 11, 3) := by decide +kernel
theorem dX1_init_12 : decode cX1_init 12 = .ok (.iconst 0, 1) := by decide +kernel
theorem dX1_init_13 : decode cX1_init 13 = .ok (.istore_n 1, 1) := by decide +kernel
theorem dX1_init_14 : decode cX1_init 14 = .ok (.iload_n 1, 1) := by decide +kernel
theorem dX1_init_15 : decode cX1_init 15 = .ok (.aload_n 0, 1) := by decide +kernel
theorem dX1_init_16 : decode cX1_init 16 = .ok (.getfield 11, 3) := by decide +kernel
theorem dX1_init_19 : decode cX1_init 19 = .ok (.arraylength, 1) := by decide +kernel
theorem dX1_init_20 : decode cX1_init 20 = .ok (.if_icmp .ge 22, 3) := by decide +kernel
theorem dX1_init_23 : decode cX1_init 23 = .ok (.aload_n 0, 1) := by decide +kernel
theorem dX1_init_24 : decode cX1_init 24 = .ok (.getfield 11, 3) := by decide +kernel
theorem dX1_init_27 : decode cX1_init 27 = .ok (.iload_n 1, 1) := by decide +kernel
theorem dX1_init_28 : decode cX1_init 28 = .ok (.new 9, 3) := by decide +kernel
theorem dX1_init_31 : decode cX1_init 31 = .ok (.dup, 1) := by decide +kernel
theorem dX1_init_32 : decode cX1_init 32 = .ok (.invokespecial 17, 3) := by decide +kernel
theorem dX1_init_35 : decode cX1_init 35 = .ok (.aastore, 1) := by decide +kernel
theorem dX1_init_36 : decode cX1_init 36 = .ok (.iinc 1 1, 3) := by decide +kernel
theorem dX1_init_39 : decode cX1_init 39 = .ok (.goto (-25), 3) := by decide +kernel
theorem dX1_init_42 : decode cX1_init 42 = .ok (.aload_n 0, 1) := by decide +kernel
theorem dX1_init_43 : decode cX1_init 43 = .ok (.iconst 0, 1) := by decide +kernel
theorem dX1_init_44 : decode cX1_init 44 = .ok (.putfield 18, 3) := by decide +kernel
theorem dX1_init_47 : decode cX1_init 47 = .ok (.aload_n 0, 1) := by decide +kernel
theorem dX1_init_48 : decode cX1_init 48 = .ok (.iconst 0, 1) := by decide +kernel
theorem dX1_init_49 : decode cX1_init 49 = .ok (.putfield 22, 3) := by decide +kernel
theorem dX1_init_52 : decode cX1_init 52 = .ok (.return_, 1) := by decide +kernel
theorem dX1_size_0 : decode cX1_size 0 = .ok (.aload_n 0, 1) := by decide +kernel
theorem dX1_size_1 : decode cX1_size 1 = .ok (.getfield 22, 3) := by decide +kernel
theorem dX1_size_4 : decode cX1_size 4 = .ok (.ireturn, 1) := by decide +kernel
set_option maxRecDepth 20000 in
theorem ggX1_record_X1_slotAt : GoodIn wsX1_record wsX1_slotAt := goodIn_r _ [11, 12, 43, 44, 45] (by decide +kernel) (by decide +kernel)
set_option maxRecDepth 20000 in
theorem gX1_record_X1_slotAt : GoodIn wsX1_record (wsV RX1 25 RX1 yX1_slotAt wsX1_slotAt) := goodIn_app (goodIn_of _ (by decide +kernel)) ggX1_record_X1_slotAt
set_option maxRecDepth 20000 in
theorem ggX1_record_X3_copyFrom : GoodIn wsX1_record wsX3_copyFrom := goodIn_r _ [17, 18, 19, 20, 21, 22, 23, 24, 25, 26, 27, 28, 29, 30, 4, 5, 6, 31, 32, 33, 34, 35, 36, 37, 38, 39, 40, 41, 42, 46, 47, 48, 49, 50, 51, 52, 53, 54, 55, 56] (by decide +kernel) (by decide +kernel)
set_option maxRecDepth 20000 in
theorem gX1_record_X3_copyFrom : GoodIn wsX1_record (wsV RX1 29 RX3 yX3_copyFrom wsX3_copyFrom) := goodIn_app (goodIn_of _ (by decide +kernel)) ggX1_record_X3_copyFrom
theorem dX1_record_0 : decode cX1_record 0 = .ok (.aload_n 0, 1) := by decide +kernel
theorem dX1_record_1 : decode cX1_record 1 = .ok (.aload_n 0, 1) := by decide +kernel
theorem dX1_record_2 : decode cX1_record 2 = .ok (.getfield 18, 3) := by decide +kernel
theorem dX1_record_5 : decode cX1_record 5 = .ok (.invokevirtual 25, 3) := by decide +kernel
theorem dX1_record_8 : decode cX1_record 8 = .ok (.astore_n 2, 1) := by decide +kernel
theorem dX1_record_9 : decode cX1_record 9 = .ok (.aload_n 2, 1) := by decide +kernel
theorem dX1_record_10 : decode cX1_record 10 = .ok (.ifnonnull 4, 3) := by decide +kernel
theorem dX1_record_13 : decode cX1_record 13 = .ok (.return_, 1) := by decide +kernel
theorem dX1_record_14 : decode cX1_record 14 = .ok (.aload_n 2, 1) := by decide +kernel
theorem dX1_record_15 : decode cX1_record 15 = .ok (.aload_n 1, 1) := by decide +kernel
theorem dX1_record_16 : decode cX1_record 16 = .ok (.invokevirtual 29, 3) := by decide +kernel
theorem dX1_record_19 : decode cX1_record 19 = .ok (.aload_n 0, 1) := by decide +kernel
theorem dX1_record_20 : decode cX1_record 20 = .ok (.aload_n 0, 1) := by decide +kernel
theorem dX1_record_21 : decode cX1_record 21 = .ok (.getfield 18, 3) := by decide +kernel
theorem dX1_record_24 : decode cX1_record 24 = .ok (.iconst 1, 1) := by decide +kernel
theorem dX1_record_25 : decode cX1_record 25 = .ok (.iadd, 1) := by decide +kernel
theorem dX1_record_26 : decode cX1_record 26 = .ok (.iconst 4, 1) := by decide +kernel
theorem dX1_record_27 : decode cX1_record 27 = .ok (.if_icmp .ge 12, 3) := by decide +kernel
theorem dX1_record_30 : decode cX1_record 30 = .ok (.aload_n 0, 1) := by decide +kernel
theorem dX1_record_31 : decode cX1_record 31 = .ok (.getfield 18, 3) := by decide +kernel
theorem dX1_record_34 : decode cX1_record 34 = .ok (.iconst 1, 1) := by decide +kernel
theorem dX1_record_35 : decode cX1_record 35 = .ok (.iadd, 1) := by decide +kernel
theorem dX1_record_36 : decode cX1_record 36 = .ok (.goto 4, 3) := by decide +kernel
theorem dX1_record_39 : decode cX1_record 39 = .ok (.iconst 0, 1) := by decide +kernel
theorem dX1_record_40 : decode cX1_record 40 = .ok (.putfield 18, 3) := by decide +kernel
theorem dX1_record_43 : decode cX1_record 43 = .ok (.aload_n 0, 1) := by decide +kernel
theorem dX1_record_44 : decode cX1_record 44 = .ok (.aload_n 0, 1) := by decide +kernel
theorem dX1_record_45 : decode cX1_record 45 = .ok (.getfield 22, 3) := by decide +kernel
theorem dX1_record_48 : decode cX1_record 48 = .ok (.iconst 1, 1) := by decide +kernel
theorem dX1_record_49 : decode cX1_record 49 = .ok (.iadd, 1) := by decide +kernel
theorem dX1_record_50 : decode cX1_record 50 = .ok (.iconst 4, 1) := by decide +kernel
theorem dX1_record_51 : decode cX1_record 51 = .ok (.invokestatic 33, 3) := by decide +kernel
theorem dX1_record_54 : decode cX1_record 54 = .ok (.putfield 22, 3) := by decide +kernel
theorem dX1_record_57 : decode cX1_record 57 = .ok (.return_, 1) := by decide +kernel
set_option maxRecDepth 20000 in
theorem ggX1_takeBack_X1_slotAt : GoodIn wsX1_takeBack wsX1_slotAt := goodIn_r _ [7, 8, 42, 43, 44] (by decide +kernel) (by decide +kernel)
set_option maxRecDepth 20000 in
theorem gX1_takeBack_X1_slotAt : GoodIn wsX1_takeBack (wsV RX1 25 RX1 yX1_slotAt wsX1_slotAt) := goodIn_app (goodIn_of _ (by decide +kernel)) ggX1_takeBack_X1_slotAt
set_option maxRecDepth 20000 in
theorem ggX1_takeBack_X3_copyFrom : GoodIn wsX1_takeBack wsX3_copyFrom := goodIn_r _ [13, 14, 15, 16, 17, 18, 19, 20, 21, 22, 23, 24, 25, 26, 27, 28, 29, 30, 31, 32, 33, 34, 35, 36, 37, 38, 39, 40, 41, 45, 46, 47, 48, 49, 50, 51, 52, 53, 54, 55] (by decide +kernel) (by decide +kernel)
set_option maxRecDepth 20000 in
theorem gX1_takeBack_X3_copyFrom : GoodIn wsX1_takeBack (wsV RX1 29 RX3 yX3_copyFrom wsX3_copyFrom) := goodIn_app (goodIn_of _ (by decide +kernel)) ggX1_takeBack_X3_copyFrom
theorem dX1_takeBack_0 : decode cX1_takeBack 0 = .ok (.aload_n 0, 1) := by decide +kernel
theorem dX1_takeBack_1 : decode cX1_takeBack 1 = .ok (.getfield 18, 3) := by decide +kernel
theorem dX1_takeBack_4 : decode cX1_takeBack 4 = .ok (.ifCond .le 12, 3) := by decide +kernel
theorem dX1_takeBack_7 : decode cX1_takeBack 7 = .ok (.aload_n 0, 1) := by decide +kernel
theorem dX1_takeBack_8 : decode cX1_takeBack 8 = .ok (.getfield 18, 3) := by decide +kernel
theorem dX1_takeBack_11 : decode cX1_takeBack 11 = .ok (.iconst 1, 1) := by decide +kernel
theorem dX1_takeBack_12 : decode cX1_takeBack 12 = .ok (.isub, 1) := by decide +kernel
theorem dX1_takeBack_13 : decode cX1_takeBack 13 = .ok (.goto 4, 3) := by decide +kernel
theorem dX1_takeBack_16 : decode cX1_takeBack 16 = .ok (.iconst 3, 1) := by decide +kernel
theorem dX1_takeBack_17 : decode cX1_takeBack 17 = .ok (.istore_n 2, 1) := by decide +kernel
theorem dX1_takeBack_18 : decode cX1_takeBack 18 = .ok (.aload_n 0, 1) := by decide +kernel
theorem dX1_takeBack_19 : decode cX1_takeBack 19 = .ok (.iload_n 2, 1) := by decide +kernel
theorem dX1_takeBack_20 : decode cX1_takeBack 20 = .ok (.invokevirtual 25, 3) := by decide +kernel
theorem dX1_takeBack_23 : decode cX1_takeBack 23 = .ok (.astore_n 3, 1) := by decide +kernel
theorem dX1_takeBack_24 : decode cX1_takeBack 24 = .ok (.aload_n 0, 1) := by decide +kernel
theorem dX1_takeBack_25 : decode cX1_takeBack 25 = .ok (.getfield 22, 3) := by decide +kernel
theorem dX1_takeBack_28 : decode cX1_takeBack 28 = .ok (.ifCond .eq 7, 3) := by decide +kernel
theorem dX1_takeBack_31 : decode cX1_takeBack 31 = .ok (.aload_n 3, 1) := by decide +kernel
theorem dX1_takeBack_32 : decode cX1_takeBack 32 = .ok (.ifnonnull 4, 3) := by decide +kernel
theorem dX1_takeBack_35 : decode cX1_takeBack 35 = .ok (.return_, 1) := by decide +kernel
theorem dX1_takeBack_36 : decode cX1_takeBack 36 = .ok (.aload_n 1, 1) := by decide +kernel
theorem dX1_takeBack_37 : decode cX1_takeBack 37 = .ok (.aload_n 3, 1) := by decide +kernel
theorem dX1_takeBack_38 : decode cX1_takeBack 38 = .ok (.invokevirtual 29, 3) := by decide +kernel
theorem dX1_takeBack_41 : decode cX1_takeBack 41 = .ok (.aload_n 0, 1) := by decide +kernel
theorem dX1_takeBack_42 : decode cX1_takeBack 42 = .ok (.iload_n 2, 1) := by decide +kernel
theorem dX1_takeBack_43 : decode cX1_takeBack 43 = .ok (.putfield 18, 3) := by decide +kernel
theorem dX1_takeBack_46 : decode cX1_takeBack 46 = .ok (.aload_n 0, 1) := by decide +kernel
theorem dX1_takeBack_47 : decode cX1_takeBack 47 = .ok (.dup, 1) := by decide +kernel
theorem dX1_takeBack_48 : decode cX1_takeBack 48 = .ok (.getfield 22, 3) := by decide +kernel
theorem dX1_takeBack_51 : decode cX1_takeBack 51 = .ok (.iconst 1, 1) := by decide +kernel
theorem dX1_takeBack_52 : decode cX1_takeBack 52 = .ok (.isub, 1) := by decide +kernel
theorem dX1_takeBack_53 : decode cX1_takeBack 53 = .ok (.putfield 22, 3) := by decide +kernel
theorem dX1_takeBack_56 : decode cX1_takeBack 56 = .ok (.return_, 1) := by decide +kernel
theorem dX1_slotAt_0 : decode cX1_slotAt 0 = .ok (.iload_n 1, 1) := by decide +kernel
theorem dX1_slotAt_1 : decode cX1_slotAt 1 = .ok (.ifCond .lt 21, 3) := by decide +kernel
theorem dX1_slotAt_4 : decode cX1_slotAt 4 = .ok (.iload_n 1, 1) := by decide +kernel
theorem dX1_slotAt_5 : decode cX1_slotAt 5 = .ok (.aload_n 0, 1) := by decide +kernel
theorem dX1_slotAt_6 : decode cX1_slotAt 6 = .ok (.getfield 11, 3) := by decide +kernel
theorem dX1_slotAt_9 : decode cX1_slotAt 9 = .ok (.arraylength, 1) := by decide +kernel
theorem dX1_slotAt_10 : decode cX1_slotAt 10 = .ok (.if_icmp .ge 12, 3) := by decide +kernel
theorem dX1_slotAt_13 : decode cX1_slotAt 13 = .ok (.aload_n 0, 1) := by decide +kernel
theorem dX1_slotAt_14 : decode cX1_slotAt 14 = .ok (.getfield 11, 3) := by decide +kernel
theorem dX1_slotAt_17 : decode cX1_slotAt 17 = .ok (.iload_n 1, 1) := by decide +kernel
theorem dX1_slotAt_18 : decode cX1_slotAt 18 = .ok (.aaload, 1) := by decide +kernel
theorem dX1_slotAt_19 : decode cX1_slotAt 19 = .ok (.goto 4, 3) := by decide +kernel
theorem dX1_slotAt_22 : decode cX1_slotAt 22 = .ok (.aconst_null, 1) := by decide +kernel
theorem dX1_slotAt_23 : decode cX1_slotAt 23 = .ok (.areturn, 1) := by decide +kernel
theorem dX2_init_0 : decode cX2_init 0 = .ok (.aload_n 0, 1) := by decide +kernel
theorem dX2_init_1 : decode cX2_init 1 = .ok (.invokespecial 3, 3) := by decide +kernel
theorem dX2_init_4 : decode cX2_init 4 = .ok (.aload_n 0, 1) := by decide +kernel
theorem dX2_init_5 : decode cX2_init 5 = .ok (.iload_n 1, 1) := by decide +kernel
theorem dX2_init_6 : decode cX2_init 6 = .ok (.iconst 0, 1) := by decide +kernel
theorem dX2_init_7 : decode cX2_init 7 = .ok (.invokestatic 9, 3) := by decide +kernel
theorem dX2_init_10 : decode cX2_init 10 = .ok (.newarray .int, 2) := by decide +kernel
theorem dX2_init_12 : decode cX2_init 12 = .ok (.putfield 15, 3) := by decide +kernel
theorem dX2_init_15 : decode cX2_init 15 = .ok (.aload_n 0, 1) := by decide +kernel
theorem dX2_init_16 : decode cX2_init 16 = .ok (.iconst 0, 1) := by decide +kernel
theorem dX2_init_17 : decode cX2_init 17 = .ok (.putfield 21, 3) := by decide +kernel
theorem dX2_init_20 : decode cX2_init 20 = .ok (.return_, 1) := by decide +kernel
set_option maxRecDepth 20000 in
theorem ggX2_copyFrom_X4_copyNumbers : GoodIn wsX2_copyFrom wsX4_copyNumbers := goodIn_r _ [9, 10, 4, 5, 6, 11, 12, 13, 14] (by decide +kernel) (by decide +kernel)
set_option maxRecDepth 20000 in
theorem gX2_copyFrom_X4_copyNumbers_n25 : GoodIn wsX2_copyFrom (wsX4_copyNumbers) := ggX2_copyFrom_X4_copyNumbers
theorem dX2_copyFrom_0 : decode cX2_copyFrom 0 = .ok (.aload_n 1, 1) := by decide +kernel
theorem dX2_copyFrom_1 : decode cX2_copyFrom 1 = .ok (.getfield 15, 3) := by decide +kernel
theorem dX2_copyFrom_4 : decode cX2_copyFrom 4 = .ok (.aload_n 0, 1) := by decide +kernel
theorem dX2_copyFrom_5 : decode cX2_copyFrom 5 = .ok (.getfield 15, 3) := by decide +kernel
theorem dX2_copyFrom_8 : decode cX2_copyFrom 8 = .ok (.invokestatic 25, 3) := by decide +kernel
theorem dX2_copyFrom_11 : decode cX2_copyFrom 11 = .ok (.aload_n 0, 1) := by decide +kernel
theorem dX2_copyFrom_12 : decode cX2_copyFrom 12 = .ok (.aload_n 1, 1) := by decide +kernel
theorem dX2_copyFrom_13 : decode cX2_copyFrom 13 = .ok (.getfield 21, 3) := by decide +kernel
theorem dX2_copyFrom_16 : decode cX2_copyFrom 16 = .ok (.aload_n 0, 1) := by decide +kernel
theorem dX2_copyFrom_17 : decode cX2_copyFrom 17 = .ok (.getfield 15, 3) := by decide +kernel
theorem dX2_copyFrom_20 : decode cX2_copyFrom 20 = .ok (.arraylength, 1) := by decide +kernel
theorem dX2_copyFrom_21 : decode cX2_copyFrom 21 = .ok (.invokestatic 29, 3) := by decide +kernel
theorem dX2_copyFrom_24 : decode cX2_copyFrom 24 = .ok (.putfield 21, 3) := by decide +kernel
theorem dX2_copyFrom_27 : decode cX2_copyFrom 27 = .ok (.return_, 1) := by decide +kernel
theorem dX2_size_0 : decode cX2_size 0 = .ok (.aload_n 0, 1) := by decide +kernel
theorem dX2_size_1 : decode cX2_size 1 = .ok (.getfield 21, 3) := by decide +kernel
theorem dX2_size_4 : decode cX2_size 4 = .ok (.ireturn, 1) := by decide +kernel
theorem dX2_at_0 : decode cX2_at 0 = .ok (.iload_n 1, 1) := by decide +kernel
theorem dX2_at_1 : decode cX2_at 1 = .ok (.ifCond .lt 29, 3) := by decide +kernel
theorem dX2_at_4 : decode cX2_at 4 = .ok (.iload_n 1, 1) := by decide +kernel
theorem dX2_at_5 : decode cX2_at 5 = .ok (.aload_n 0, 1) := by decide +kernel
theorem dX2_at_6 : decode cX2_at 6 = .ok (.getfield 21, 3) := by decide +kernel
theorem dX2_at_9 : decode cX2_at 9 = .ok (.if_icmp .ge 21, 3) := by decide +kernel
theorem dX2_at_12 : decode cX2_at 12 = .ok (.iload_n 1, 1) := by decide +kernel
theorem dX2_at_13 : decode cX2_at 13 = .ok (.aload_n 0, 1) := by decide +kernel
theorem dX2_at_14 : decode cX2_at 14 = .ok (.getfield 15, 3) := by decide +kernel
theorem dX2_at_17 : decode cX2_at 17 = .ok (.arraylength, 1) := by decide +kernel
theorem dX2_at_18 : decode cX2_at 18 = .ok (.if_icmp .ge 12, 3) := by decide +kernel
theorem dX2_at_21 : decode cX2_at 21 = .ok (.aload_n 0, 1) := by decide +kernel
theorem dX2_at_22 : decode cX2_at 22 = .ok (.getfield 15, 3) := by decide +kernel
theorem dX2_at_25 : decode cX2_at 25 = .ok (.iload_n 1, 1) := by decide +kernel
theorem dX2_at_26 : decode cX2_at 26 = .ok (.iaload, 1) := by decide +kernel
theorem dX2_at_27 : decode cX2_at 27 = .ok (.goto 5, 3) := by decide +kernel
theorem dX2_at_30 : decode cX2_at 30 = .ok (.bipush (-5), 2) := by decide +kernel
theorem dX2_at_32 : decode cX2_at 32 = .ok (.ireturn, 1) := by decide +kernel
theorem dX2_placeOf_0 : decode cX2_placeOf 0 = .ok (.iconst 0, 1) := by decide +kernel
theorem dX2_placeOf_1 : decode cX2_placeOf 1 = .ok (.istore_n 2, 1) := by decide +kernel
theorem dX2_placeOf_2 : decode cX2_placeOf 2 = .ok (.iload_n 2, 1) := by decide +kernel
theorem dX2_placeOf_3 : decode cX2_placeOf 3 = .ok (.aload_n 0, 1) := by decide +kernel
theorem dX2_placeOf_4 : decode cX2_placeOf 4 = .ok (.getfield 21, 3) := by decide +kernel
theorem dX2_placeOf_7 : decode cX2_placeOf 7 = .ok (.if_icmp .ge 30, 3) := by decide +kernel
theorem dX2_placeOf_10 : decode cX2_placeOf 10 = .ok (.iload_n 2, 1) := by decide +kernel
theorem dX2_placeOf_11 : decode cX2_placeOf 11 = .ok (.aload_n 0, 1) := by decide +kernel
theorem dX2_placeOf_12 : decode cX2_placeOf 12 = .ok (.getfield 15, 3) := by decide +kernel
theorem dX2_placeOf_15 : decode cX2_placeOf 15 = .ok (.arraylength, 1) := by decide +kernel
theorem dX2_placeOf_16 : decode cX2_placeOf 16 = .ok (.if_icmp .ge 21, 3) := by decide +kernel
theorem dX2_placeOf_19 : decode cX2_placeOf 19 = .ok (.aload_n 0, 1) := by decide +kernel
theorem dX2_placeOf_20 : decode cX2_placeOf 20 = .ok (.getfield 15, 3) := by decide +kernel
theorem dX2_placeOf_23 : decode cX2_placeOf 23 = .ok (.iload_n 2, 1) := by decide +kernel
theorem dX2_placeOf_24 : decode cX2_placeOf 24 = .ok (.iaload, 1) := by decide +kernel
theorem dX2_placeOf_25 : decode cX2_placeOf 25 = .ok (.iload_n 1, 1) := by decide +kernel
theorem dX2_placeOf_26 : decode cX2_placeOf 26 = .ok (.if_icmp .ne 5, 3) := by decide +kernel
theorem dX2_placeOf_29 : decode cX2_placeOf 29 = .ok (.iload_n 2, 1) := by decide +kernel
theorem dX2_placeOf_30 : decode cX2_placeOf 30 = .ok (.ireturn, 1) := by decide +kernel
theorem dX2_placeOf_31 : decode cX2_placeOf 31 = .ok (.iinc 2 1, 3) := by decide +kernel
theorem dX2_placeOf_34 : decode cX2_placeOf 34 = .ok (.goto (-32), 3) := by decide +kernel
theorem dX2_placeOf_37 : decode cX2_placeOf 37 = .ok (.bipush (-5), 2) := by decide +kernel
theorem dX2_placeOf_39 : decode cX2_placeOf 39 = .ok (.ireturn, 1) := by decide +kernel
theorem dX2_add_0 : decode cX2_add 0 = .ok (.aload_n 0, 1) := by decide +kernel
theorem dX2_add_1 : decode cX2_add 1 = .ok (.getfield 21, 3) := by decide +kernel
theorem dX2_add_4 : decode cX2_add 4 = .ok (.ifCond .lt 35, 3) := by decide +kernel
theorem dX2_add_7 : decode cX2_add 7 = .ok (.aload_n 0, 1) := by decide +kernel
theorem dX2_add_8 : decode cX2_add 8 = .ok (.getfield 21, 3) := by decide +kernel
theorem dX2_add_11 : decode cX2_add 11 = .ok (.aload_n 0, 1) := by decide +kernel
theorem dX2_add_12 : decode cX2_add 12 = .ok (.getfield 15, 3) := by decide +kernel
theorem dX2_add_15 : decode cX2_add 15 = .ok (.arraylength, 1) := by decide +kernel
theorem dX2_add_16 : decode cX2_add 16 = .ok (.if_icmp .ge 23, 3) := by decide +kernel
theorem dX2_add_19 : decode cX2_add 19 = .ok (.aload_n 0, 1) := by decide +kernel
theorem dX2_add_20 : decode cX2_add 20 = .ok (.getfield 15, 3) := by decide +kernel
theorem dX2_add_23 : decode cX2_add 23 = .ok (.aload_n 0, 1) := by decide +kernel
theorem dX2_add_24 : decode cX2_add 24 = .ok (.getfield 21, 3) := by decide +kernel
theorem dX2_add_27 : decode cX2_add 27 = .ok (.iload_n 1, 1) := by decide +kernel
theorem dX2_add_28 : decode cX2_add 28 = .ok (.iastore, 1) := by decide +kernel
theorem dX2_add_29 : decode cX2_add 29 = .ok (.aload_n 0, 1) := by decide +kernel
theorem dX2_add_30 : decode cX2_add 30 = .ok (.dup, 1) := by decide +kernel
theorem dX2_add_31 : decode cX2_add 31 = .ok (.getfield 21, 3) := by decide +kernel
theorem dX2_add_34 : decode cX2_add 34 = .ok (.iconst 1, 1) := by decide +kernel
theorem dX2_add_35 : decode cX2_add 35 = .ok (.iadd, 1) := by decide +kernel
theorem dX2_add_36 : decode cX2_add 36 = .ok (.putfield 21, 3) := by decide +kernel
theorem dX2_add_39 : decode cX2_add 39 = .ok (.return_, 1) := by decide +kernel
set_option maxRecDepth 20000 in
theorem ggX2_remove_X2_placeOf : GoodIn wsX2_remove wsX2_placeOf := goodIn_r _ [7, 1, 2, 8, 9] (by decide +kernel) (by decide +kernel)
set_option maxRecDepth 20000 in
theorem gX2_remove_X2_placeOf : GoodIn wsX2_remove (wsV RX2 32 RX2 yX2_placeOf wsX2_placeOf) := goodIn_app (goodIn_of _ (by decide +kernel)) ggX2_remove_X2_placeOf
theorem dX2_remove_0 : decode cX2_remove 0 = .ok (.aload_n 0, 1) := by decide +kernel
theorem dX2_remove_1 : decode cX2_remove 1 = .ok (.iload_n 1, 1) := by decide +kernel
theorem dX2_remove_2 : decode cX2_remove 2 = .ok (.invokevirtual 32, 3) := by decide +kernel
theorem dX2_remove_5 : decode cX2_remove 5 = .ok (.istore_n 2, 1) := by decide +kernel
theorem dX2_remove_6 : decode cX2_remove 6 = .ok (.iload_n 2, 1) := by decide +kernel
theorem dX2_remove_7 : decode cX2_remove 7 = .ok (.ifCond .ge 4, 3) := by decide +kernel
theorem dX2_remove_10 : decode cX2_remove 10 = .ok (.return_, 1) := by decide +kernel
theorem dX2_remove_11 : decode cX2_remove 11 = .ok (.iload_n 2, 1) := by decide +kernel
theorem dX2_remove_12 : decode cX2_remove 12 = .ok (.istore_n 3, 1) := by decide +kernel
theorem dX2_remove_13 : decode cX2_remove 13 = .ok (.iload_n 3, 1) := by decide +kernel
theorem dX2_remove_14 : decode cX2_remove 14 = .ok (.aload_n 0, 1) := by decide +kernel
theorem dX2_remove_15 : decode cX2_remove 15 = .ok (.getfield 21, 3) := by decide +kernel
theorem dX2_remove_18 : decode cX2_remove 18 = .ok (.iconst 1, 1) := by decide +kernel
theorem dX2_remove_19 : decode cX2_remove 19 = .ok (.isub, 1) := by decide +kernel
theorem dX2_remove_20 : decode cX2_remove 20 = .ok (.if_icmp .ge 34, 3) := by decide +kernel
theorem dX2_remove_23 : decode cX2_remove 23 = .ok (.iload_n 3, 1) := by decide +kernel
theorem dX2_remove_24 : decode cX2_remove 24 = .ok (.aload_n 0, 1) := by decide +kernel
theorem dX2_remove_25 : decode cX2_remove 25 = .ok (.getfield 15, 3) := by decide +kernel
theorem dX2_remove_28 : decode cX2_remove 28 = .ok (.arraylength, 1) := by decide +kernel
theorem dX2_remove_29 : decode cX2_remove 29 = .ok (.iconst 1, 1) := by decide +kernel
theorem dX2_remove_30 : decode cX2_remove 30 = .ok (.isub, 1) := by decide +kernel
theorem dX2_remove_31 : decode cX2_remove 31 = .ok (.if_icmp .ge 23, 3) := by decide +kernel
theorem dX2_remove_34 : decode cX2_remove 34 = .ok (.aload_n 0, 1) := by decide +kernel
theorem dX2_remove_35 : decode cX2_remove 35 = .ok (.getfield 15, 3) := by decide +kernel
theorem dX2_remove_38 : decode cX2_remove 38 = .ok (.iload_n 3, 1) := by decide +kernel
theorem dX2_remove_39 : decode cX2_remove 39 = .ok (.aload_n 0, 1) := by decide +kernel
theorem dX2_remove_40 : decode cX2_remove 40 = .ok (.getfield 15, 3) := by decide +kernel
theorem dX2_remove_43 : decode cX2_remove 43 = .ok (.iload_n 3, 1) := by decide +kernel
theorem dX2_remove_44 : decode cX2_remove 44 = .ok (.iconst 1, 1) := by decide +kernel
theorem dX2_remove_45 : decode cX2_remove 45 = .ok (.iadd, 1) := by decide +kernel
theorem dX2_remove_46 : decode cX2_remove 46 = .ok (.iaload, 1) := by decide +kernel
theorem dX2_remove_47 : decode cX2_remove 47 = .ok (.iastore, 1) := by decide +kernel
theorem dX2_remove_48 : decode cX2_remove 48 = .ok (.iinc 3 1, 3) := by decide +kernel
theorem dX2_remove_51 : decode cX2_remove 51 = .ok (.goto (-38), 3) := by decide +kernel
theorem dX2_remove_54 : decode cX2_remove 54 = .ok (.aload_n 0, 1) := by decide +kernel
theorem dX2_remove_55 : decode cX2_remove 55 = .ok (.dup, 1) := by decide +kernel
theorem dX2_remove_56 : decode cX2_remove 56 = .ok (.getfield 21, 3) := by decide +kernel
theorem dX2_remove_59 : decode cX2_remove 59 = .ok (.iconst 1, 1) := by decide +kernel
theorem dX2_remove_60 : decode cX2_remove 60 = .ok (.isub, 1) := by decide +kernel
theorem dX2_remove_61 : decode cX2_remove 61 = .ok (.putfield 21, 3) := by decide +kernel
theorem dX2_remove_64 : decode cX2_remove 64 = .ok (.return_, 1) := by decide +kernel
theorem dX2_changeNeighbours_0 : decode cX2_changeNeighbours 0 = .ok (.iload_n 1, 1) := by decide +kernel
theorem dX2_changeNeighbours_1 : decode cX2_changeNeighbours 1 = .ok (.ifCond .lt 24, 3) := by decide +kernel
theorem dX2_changeNeighbours_4 : decode cX2_changeNeighbours 4 = .ok (.iload_n 1, 1) := by decide +kernel
theorem dX2_changeNeighbours_5 : decode cX2_changeNeighbours 5 = .ok (.aload_n 0, 1) := by decide +kernel
theorem dX2_changeNeighbours_6 : decode cX2_changeNeighbours 6 = .ok (.getfield 21, 3) := by decide +kernel
theorem dX2_changeNeighbours_9 : decode cX2_changeNeighbours 9 = .ok (.iconst 1, 1) := by decide +kernel
theorem dX2_changeNeighbours_10 : decode cX2_changeNeighbours 10 = .ok (.isub, 1) := by decide +kernel
theorem dX2_changeNeighbours_11 : decode cX2_changeNeighbours 11 = .ok (.if_icmp .ge 14, 3) := by decide +kernel
theorem dX2_changeNeighbours_14 : decode cX2_changeNeighbours 14 = .ok (.iload_n 1, 1) := by decide +kernel
theorem dX2_changeNeighbours_15 : decode cX2_changeNeighbours 15 = .ok (.aload_n 0, 1) := by decide +kernel
theorem dX2_changeNeighbours_16 : decode cX2_changeNeighbours 16 = .ok (.getfield 15, 3) := by decide +kernel
theorem dX2_changeNeighbours_19 : decode cX2_changeNeighbours 19 = .ok (.arraylength, 1) := by decide +kernel
theorem dX2_changeNeighbours_20 : decode cX2_changeNeighbours 20 = .ok (.iconst 1, 1) := by decide +kernel
theorem dX2_changeNeighbours_21 : decode cX2_changeNeighbours 21 = .ok (.isub, 1) := by decide +kernel
theorem dX2_changeNeighbours_22 : decode cX2_changeNeighbours 22 = .ok (.if_icmp .lt 4, 3) := by decide +kernel
theorem dX2_changeNeighbours_25 : decode cX2_changeNeighbours 25 = .ok (.return_, 1) := by decide +kernel
theorem dX2_changeNeighbours_26 : decode cX2_changeNeighbours 26 = .ok (.aload_n 0, 1) := by decide +kernel
theorem dX2_changeNeighbours_27 : decode cX2_changeNeighbours 27 = .ok (.getfield 15, 3) := by decide +kernel
theorem dX2_changeNeighbours_30 : decode cX2_changeNeighbours 30 = .ok (.iload_n 1, 1) := by decide +kernel
theorem dX2_changeNeighbours_31 : decode cX2_changeNeighbours 31 = .ok (.iaload, 1) := by decide +kernel
theorem dX2_changeNeighbours_32 : decode cX2_changeNeighbours 32 = .ok (.istore_n 2, 1) := by decide +kernel
theorem dX2_changeNeighbours_33 : decode cX2_changeNeighbours 33 = .ok (.aload_n 0, 1) := by decide +kernel
theorem dX2_changeNeighbours_34 : decode cX2_changeNeighbours 34 = .ok (.getfield 15, 3) := by decide +kernel
theorem dX2_changeNeighbours_37 : decode cX2_changeNeighbours 37 = .ok (.iload_n 1, 1) := by decide +kernel
theorem dX2_changeNeighbours_38 : decode cX2_changeNeighbours 38 = .ok (.aload_n 0, 1) := by decide +kernel
theorem dX2_changeNeighbours_39 : decode cX2_changeNeighbours 39 = .ok (.getfield 15, 3) := by decide +kernel
theorem dX2_changeNeighbours_42 : decode cX2_changeNeighbours 42 = .ok (.iload_n 1, 1) := by decide +kernel
theorem dX2_changeNeighbours_43 : decode cX2_changeNeighbours 43 = .ok (.iconst 1, 1) := by decide +kernel
theorem dX2_changeNeighbours_44 : decode cX2_changeNeighbours 44 = .ok (.iadd, 1) := by decide +kernel
theorem dX2_changeNeighbours_45 : decode cX2_changeNeighbours 45 = .ok (.iaload, 1) := by decide +kernel
theorem dX2_changeNeighbours_46 : decode cX2_changeNeighbours 46 = .ok (.iastore, 1) := by decide +kernel
theorem dX2_changeNeighbours_47 : decode cX2_changeNeighbours 47 = .ok (.aload_n 0, 1) := by decide +kernel
theorem dX2_changeNeighbours_48 : decode cX2_changeNeighbours 48 = .ok (.getfield 15, 3) := by decide +kernel
theorem dX2_changeNeighbours_51 : decode cX2_changeNeighbours 51 = .ok (.iload_n 1, 1) := by decide +kernel
theorem dX2_changeNeighbours_52 : decode cX2_changeNeighbours 52 = .ok (.iconst 1, 1) := by decide +kernel
theorem dX2_changeNeighbours_53 : decode cX2_changeNeighbours 53 = .ok (.iadd, 1) := by decide +kernel
theorem dX2_changeNeighbours_54 : decode cX2_changeNeighbours 54 = .ok (.iload_n 2, 1) := by decide +kernel
theorem dX2_changeNeighbours_55 : decode cX2_changeNeighbours 55 = .ok (.iastore, 1) := by decide +kernel
theorem dX2_changeNeighbours_56 : decode cX2_changeNeighbours 56 = .ok (.return_, 1) := by decide +kernel
set_option maxRecDepth 20000 in
theorem ggX3_init_X2_init : GoodIn wsX3_init wsX2_init := goodIn_r _ [19, 20, 2, 3, 21, 22, 23, 24, 4, 25, 26, 36, 37] (by decide +kernel) (by decide +kernel)
set_option maxRecDepth 20000 in
theorem gX3_init_X2_init : GoodIn wsX3_init (wsX2_init) := ggX3_init_X2_init
