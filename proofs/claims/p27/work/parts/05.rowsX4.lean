theorem dX4_init_0 : decode cX4_init 0 = .ok (.aload_n 0, 1) := by decide +kernel
theorem dX4_init_1 : decode cX4_init 1 = .ok (.invokespecial 1, 3) := by decide +kernel
theorem dX4_init_4 : decode cX4_init 4 = .ok (.aload_n 0, 1) := by decide +kernel
theorem dX4_init_5 : decode cX4_init 5 = .ok (.new 7, 3) := by decide +kernel
theorem dX4_init_8 : decode cX4_init 8 = .ok (.dup, 1) := by decide +kernel
theorem dX4_init_9 : decode cX4_init 9 = .ok (.invokespecial 9, 3) := by decide +kernel
theorem dX4_init_12 : decode cX4_init 12 = .ok (.putfield 10, 3) := by decide +kernel
theorem dX4_init_15 : decode cX4_init 15 = .ok (.aload_n 0, 1) := by decide +kernel
theorem dX4_init_16 : decode cX4_init 16 = .ok (.new 7, 3) := by decide +kernel
theorem dX4_init_19 : decode cX4_init 19 = .ok (.dup, 1) := by decide +kernel
theorem dX4_init_20 : decode cX4_init 20 = .ok (.invokespecial 9, 3) := by decide +kernel
theorem dX4_init_23 : decode cX4_init 23 = .ok (.putfield 16, 3) := by decide +kernel
theorem dX4_init_26 : decode cX4_init 26 = .ok (.aload_n 0, 1) := by decide +kernel
theorem dX4_init_27 : decode cX4_init 27 = .ok (.new 7, 3) := by decide +kernel
theorem dX4_init_30 : decode cX4_init 30 = .ok (.dup, 1) := by decide +kernel
theorem dX4_init_31 : decode cX4_init 31 = .ok (.invokespecial 9, 3) := by decide +kernel
theorem dX4_init_34 : decode cX4_init 34 = .ok (.putfield 19, 3) := by decide +kernel
theorem dX4_init_37 : decode cX4_init 37 = .ok (.aload_n 0, 1) := by decide +kernel
theorem dX4_init_38 : decode cX4_init 38 = .ok (.new 22, 3) := by decide +kernel
theorem dX4_init_41 : decode cX4_init 41 = .ok (.dup, 1) := by decide +kernel
theorem dX4_init_42 : decode cX4_init 42 = .ok (.invokespecial 24, 3) := by decide +kernel
theorem dX4_init_45 : decode cX4_init 45 = .ok (.putfield 25, 3) := by decide +kernel
theorem dX4_init_48 : decode cX4_init 48 = .ok (.aload_n 0, 1) := by decide +kernel
theorem dX4_init_49 : decode cX4_init 49 = .ok (.new 29, 3) := by decide +kernel
theorem dX4_init_52 : decode cX4_init 52 = .ok (.dup, 1) := by decide +kernel
theorem dX4_init_53 : decode cX4_init 53 = .ok (.invokespecial 31, 3) := by decide +kernel
theorem dX4_init_56 : decode cX4_init 56 = .ok (.putfield 32, 3) := by decide +kernel
theorem dX4_init_59 : decode cX4_init 59 = .ok (.aload_n 0, 1) := by decide +kernel
theorem dX4_init_60 : decode cX4_init 60 = .ok (.iconst 0, 1) := by decide +kernel
theorem dX4_init_61 : decode cX4_init 61 = .ok (.putfield 36, 3) := by decide +kernel
theorem dX4_init_64 : decode cX4_init 64 = .ok (.aload_n 0, 1) := by decide +kernel
theorem dX4_init_65 : decode cX4_init 65 = .ok (.iconst (-1), 1) := by decide +kernel
theorem dX4_init_66 : decode cX4_init 66 = .ok (.putfield 40, 3) := by decide +kernel
theorem dX4_init_69 : decode cX4_init 69 = .ok (.aload_n 0, 1) := by decide +kernel
theorem dX4_init_70 : decode cX4_init 70 = .ok (.iconst 0, 1) := by decide +kernel
theorem dX4_init_71 : decode cX4_init 71 = .ok (.putfield 44, 3) := by decide +kernel
theorem dX4_init_74 : decode cX4_init 74 = .ok (.return_, 1) := by decide +kernel
set_option maxRecDepth 20000 in
theorem ggX4_announce_X3_copyFrom : GoodIn wsX4_announce wsX3_copyFrom := goodIn_r _ [7, 8, 9, 10, 11, 12, 13, 14, 15, 16, 17, 18, 19, 20, 21, 22, 23, 24, 25, 26, 27, 28, 29, 30, 31, 32, 33, 34, 35, 81, 82, 83, 84, 85, 86, 87, 88, 89, 90, 91] (by decide +kernel) (by decide +kernel)
set_option maxRecDepth 20000 in
theorem gX4_announce_X3_copyFrom : GoodIn wsX4_announce (wsV RX4 47 RX3 yX3_copyFrom wsX3_copyFrom) := goodIn_app (goodIn_of _ (by decide +kernel)) ggX4_announce_X3_copyFrom
set_option maxRecDepth 20000 in
theorem ggX4_announce_X3_invite : GoodIn wsX4_announce wsX3_invite := goodIn_r _ [39, 14, 13, 9, 40, 18, 41, 42, 43, 44, 45, 46, 47, 48, 6, 49, 8, 50, 51, 52, 53, 81, 82, 83, 84, 85, 86, 87, 88, 89] (by decide +kernel) (by decide +kernel)
set_option maxRecDepth 20000 in
theorem gX4_announce_X3_invite : GoodIn wsX4_announce (wsV RX4 51 RX3 yX3_invite wsX3_invite) := goodIn_app (goodIn_of _ (by decide +kernel)) ggX4_announce_X3_invite
set_option maxRecDepth 20000 in
theorem ggX4_announce_X4_settle : GoodIn wsX4_announce wsX4_settle := goodIn_r _ [57, 58, 2, 1, 59, 60, 61, 62, 63, 64, 65, 66, 21, 22, 23, 67, 68, 69, 70, 71, 72, 4, 5, 6, 7, 8, 9, 10, 11, 12, 13, 14, 15, 16, 17, 18, 19, 20, 24, 25, 26, 27, 28, 29, 30, 31, 32, 33, 34, 35, 3, 73, 74, 75, 76, 77, 78, 79, 80, 92, 93, 94, 81, 82, 83, 84, 85, 86, 87, 88, 89, 90, 91] (by decide +kernel) (by decide +kernel)
set_option maxRecDepth 20000 in
theorem gX4_announce_X4_settle : GoodIn wsX4_announce (wsV RX4 55 RX4 yX4_settle wsX4_settle) := goodIn_app (goodIn_of _ (by decide +kernel)) ggX4_announce_X4_settle
theorem dX4_announce_0 : decode cX4_announce 0 = .ok (.aload_n 0, 1) := by decide +kernel
theorem dX4_announce_1 : decode cX4_announce 1 = .ok (.getfield 16, 3) := by decide +kernel
theorem dX4_announce_4 : decode cX4_announce 4 = .ok (.aload_n 0, 1) := by decide +kernel
theorem dX4_announce_5 : decode cX4_announce 5 = .ok (.getfield 10, 3) := by decide +kernel
theorem dX4_announce_8 : decode cX4_announce 8 = .ok (.invokevirtual 47, 3) := by decide +kernel
theorem dX4_announce_11 : decode cX4_announce 11 = .ok (.aload_n 0, 1) := by decide +kernel
theorem dX4_announce_12 : decode cX4_announce 12 = .ok (.aload_n 0, 1) := by decide +kernel
theorem dX4_announce_13 : decode cX4_announce 13 = .ok (.getfield 16, 3) := by decide +kernel
theorem dX4_announce_16 : decode cX4_announce 16 = .ok (.iload_n 1, 1) := by decide +kernel
theorem dX4_announce_17 : decode cX4_announce 17 = .ok (.iload_n 2, 1) := by decide +kernel
theorem dX4_announce_18 : decode cX4_announce 18 = .ok (.iload_n 3, 1) := by decide +kernel
theorem dX4_announce_19 : decode cX4_announce 19 = .ok (.invokevirtual 51, 3) := by decide +kernel
theorem dX4_announce_22 : decode cX4_announce 22 = .ok (.invokevirtual 55, 3) := by decide +kernel
theorem dX4_announce_25 : decode cX4_announce 25 = .ok (.ireturn, 1) := by decide +kernel
set_option maxRecDepth 20000 in
theorem ggX4_leave_X3_copyFrom : GoodIn wsX4_leave wsX3_copyFrom := goodIn_r _ [7, 8, 9, 10, 11, 12, 13, 14, 15, 16, 17, 18, 19, 20, 21, 22, 23, 24, 25, 26, 27, 28, 29, 30, 31, 32, 33, 34, 35, 87, 88, 89, 90, 91, 92, 93, 94, 95, 96, 97] (by decide +kernel) (by decide +kernel)
set_option maxRecDepth 20000 in
theorem gX4_leave_X3_copyFrom : GoodIn wsX4_leave (wsV RX4 47 RX3 yX3_copyFrom wsX3_copyFrom) := goodIn_app (goodIn_of _ (by decide +kernel)) ggX4_leave_X3_copyFrom
set_option maxRecDepth 20000 in
theorem ggX4_leave_X3_dismiss : GoodIn wsX4_leave wsX3_dismiss := goodIn_r _ [39, 11, 12, 40, 41, 42, 6, 43, 13, 44, 45, 46, 47, 8, 48, 49, 50, 31, 51, 34, 33, 52, 53, 54, 55, 56, 57, 58, 59, 87, 88, 89, 90, 91, 92, 93, 94, 95, 96, 97] (by decide +kernel) (by decide +kernel)
set_option maxRecDepth 20000 in
theorem gX4_leave_X3_dismiss : GoodIn wsX4_leave (wsV RX4 59 RX3 yX3_dismiss wsX3_dismiss) := goodIn_app (goodIn_of _ (by decide +kernel)) ggX4_leave_X3_dismiss
set_option maxRecDepth 20000 in
theorem ggX4_leave_X4_settle : GoodIn wsX4_leave wsX4_settle := goodIn_r _ [63, 64, 2, 1, 65, 66, 67, 68, 69, 70, 71, 72, 21, 22, 23, 73, 74, 75, 76, 77, 78, 4, 5, 6, 7, 8, 9, 10, 11, 12, 13, 14, 15, 16, 17, 18, 19, 20, 24, 25, 26, 27, 28, 29, 30, 31, 32, 33, 34, 35, 3, 79, 80, 81, 82, 83, 84, 85, 86, 98, 99, 100, 87, 88, 89, 90, 91, 92, 93, 94, 95, 96, 97] (by decide +kernel) (by decide +kernel)
set_option maxRecDepth 20000 in
theorem gX4_leave_X4_settle : GoodIn wsX4_leave (wsV RX4 55 RX4 yX4_settle wsX4_settle) := goodIn_app (goodIn_of _ (by decide +kernel)) ggX4_leave_X4_settle
theorem dX4_leave_0 : decode cX4_leave 0 = .ok (.aload_n 0, 1) := by decide +kernel
theorem dX4_leave_1 : decode cX4_leave 1 = .ok (.getfield 16, 3) := by decide +kernel
theorem dX4_leave_4 : decode cX4_leave 4 = .ok (.aload_n 0, 1) := by decide +kernel
theorem dX4_leave_5 : decode cX4_leave 5 = .ok (.getfield 10, 3) := by decide +kernel
theorem dX4_leave_8 : decode cX4_leave 8 = .ok (.invokevirtual 47, 3) := by decide +kernel
theorem dX4_leave_11 : decode cX4_leave 11 = .ok (.aload_n 0, 1) := by decide +kernel
theorem dX4_leave_12 : decode cX4_leave 12 = .ok (.aload_n 0, 1) := by decide +kernel
theorem dX4_leave_13 : decode cX4_leave 13 = .ok (.getfield 16, 3) := by decide +kernel
theorem dX4_leave_16 : decode cX4_leave 16 = .ok (.iload_n 1, 1) := by decide +kernel
theorem dX4_leave_17 : decode cX4_leave 17 = .ok (.invokevirtual 59, 3) := by decide +kernel
theorem dX4_leave_20 : decode cX4_leave 20 = .ok (.invokevirtual 55, 3) := by decide +kernel
theorem dX4_leave_23 : decode cX4_leave 23 = .ok (.ireturn, 1) := by decide +kernel
set_option maxRecDepth 20000 in
theorem ggX4_send_X3_copyFrom : GoodIn wsX4_send wsX3_copyFrom := goodIn_r _ [7, 8, 9, 10, 11, 12, 13, 14, 15, 16, 17, 18, 19, 20, 21, 22, 23, 24, 25, 26, 27, 28, 29, 30, 31, 32, 33, 34, 35, 87, 88, 89, 90, 91, 92, 93, 94, 95, 96, 97] (by decide +kernel) (by decide +kernel)
set_option maxRecDepth 20000 in
theorem gX4_send_X3_copyFrom : GoodIn wsX4_send (wsV RX4 47 RX3 yX3_copyFrom wsX3_copyFrom) := goodIn_app (goodIn_of _ (by decide +kernel)) ggX4_send_X3_copyFrom
set_option maxRecDepth 20000 in
theorem ggX4_send_X3_sendEnvoyTo : GoodIn wsX4_send wsX3_sendEnvoyTo := goodIn_r _ [39, 11, 40, 41, 42, 31, 43, 34, 44, 45, 46, 47, 33, 48, 49, 50, 6, 51, 9, 52, 53, 54, 55, 16, 56, 57, 58, 59, 87, 88, 89, 90, 91, 92, 93, 94, 95, 96, 97] (by decide +kernel) (by decide +kernel)
set_option maxRecDepth 20000 in
theorem gX4_send_X3_sendEnvoyTo : GoodIn wsX4_send (wsV RX4 62 RX3 yX3_sendEnvoyTo wsX3_sendEnvoyTo) := goodIn_app (goodIn_of _ (by decide +kernel)) ggX4_send_X3_sendEnvoyTo
set_option maxRecDepth 20000 in
theorem ggX4_send_X4_settle : GoodIn wsX4_send wsX4_settle := goodIn_r _ [63, 64, 2, 1, 65, 66, 67, 68, 69, 70, 71, 72, 21, 22, 23, 73, 74, 75, 76, 77, 78, 4, 5, 6, 7, 8, 9, 10, 11, 12, 13, 14, 15, 16, 17, 18, 19, 20, 24, 25, 26, 27, 28, 29, 30, 31, 32, 33, 34, 35, 3, 79, 80, 81, 82, 83, 84, 85, 86, 98, 99, 100, 87, 88, 89, 90, 91, 92, 93, 94, 95, 96, 97] (by decide +kernel) (by decide +kernel)
set_option maxRecDepth 20000 in
theorem gX4_send_X4_settle : GoodIn wsX4_send (wsV RX4 55 RX4 yX4_settle wsX4_settle) := goodIn_app (goodIn_of _ (by decide +kernel)) ggX4_send_X4_settle
theorem dX4_send_0 : decode cX4_send 0 = .ok (.aload_n 0, 1) := by decide +kernel
theorem dX4_send_1 : decode cX4_send 1 = .ok (.getfield 16, 3) := by decide +kernel
theorem dX4_send_4 : decode cX4_send 4 = .ok (.aload_n 0, 1) := by decide +kernel
theorem dX4_send_5 : decode cX4_send 5 = .ok (.getfield 10, 3) := by decide +kernel
theorem dX4_send_8 : decode cX4_send 8 = .ok (.invokevirtual 47, 3) := by decide +kernel
theorem dX4_send_11 : decode cX4_send 11 = .ok (.aload_n 0, 1) := by decide +kernel
theorem dX4_send_12 : decode cX4_send 12 = .ok (.aload_n 0, 1) := by decide +kernel
theorem dX4_send_13 : decode cX4_send 13 = .ok (.getfield 16, 3) := by decide +kernel
theorem dX4_send_16 : decode cX4_send 16 = .ok (.iload_n 1, 1) := by decide +kernel
theorem dX4_send_17 : decode cX4_send 17 = .ok (.invokevirtual 62, 3) := by decide +kernel
theorem dX4_send_20 : decode cX4_send 20 = .ok (.invokevirtual 55, 3) := by decide +kernel
theorem dX4_send_23 : decode cX4_send 23 = .ok (.ireturn, 1) := by decide +kernel
set_option maxRecDepth 20000 in
theorem ggX4_set_X3_copyFrom : GoodIn wsX4_set wsX3_copyFrom := goodIn_r _ [7, 8, 9, 10, 11, 12, 13, 14, 15, 16, 17, 18, 19, 20, 21, 22, 23, 24, 25, 26, 27, 28, 29, 30, 31, 32, 33, 34, 35, 74, 75, 76, 77, 78, 79, 80, 81, 82, 83, 84] (by decide +kernel) (by decide +kernel)
set_option maxRecDepth 20000 in
theorem gX4_set_X3_copyFrom : GoodIn wsX4_set (wsV RX4 47 RX3 yX3_copyFrom wsX3_copyFrom) := goodIn_app (goodIn_of _ (by decide +kernel)) ggX4_set_X3_copyFrom
set_option maxRecDepth 20000 in
theorem ggX4_set_X3_changeSetting : GoodIn wsX4_set wsX3_changeSetting := goodIn_r _ [39, 10, 11, 40, 41, 6, 42, 43, 44, 45, 31, 46, 34, 74, 75, 76, 77, 78, 79, 80, 81, 82, 83, 84] (by decide +kernel) (by decide +kernel)
set_option maxRecDepth 20000 in
theorem gX4_set_X3_changeSetting : GoodIn wsX4_set (wsV RX4 65 RX3 yX3_changeSetting wsX3_changeSetting) := goodIn_app (goodIn_of _ (by decide +kernel)) ggX4_set_X3_changeSetting
set_option maxRecDepth 20000 in
theorem ggX4_set_X4_settle : GoodIn wsX4_set wsX4_settle := goodIn_r _ [50, 51, 2, 1, 52, 53, 54, 55, 56, 57, 58, 59, 21, 22, 23, 60, 61, 62, 63, 64, 65, 4, 5, 6, 7, 8, 9, 10, 11, 12, 13, 14, 15, 16, 17, 18, 19, 20, 24, 25, 26, 27, 28, 29, 30, 31, 32, 33, 34, 35, 3, 66, 67, 68, 69, 70, 71, 72, 73, 85, 86, 87, 74, 75, 76, 77, 78, 79, 80, 81, 82, 83, 84] (by decide +kernel) (by decide +kernel)
set_option maxRecDepth 20000 in
theorem gX4_set_X4_settle : GoodIn wsX4_set (wsV RX4 55 RX4 yX4_settle wsX4_settle) := goodIn_app (goodIn_of _ (by decide +kernel)) ggX4_set_X4_settle
theorem dX4_set_0 : decode cX4_set 0 = .ok (.aload_n 0, 1) := by decide +kernel
theorem dX4_set_1 : decode cX4_set 1 = .ok (.getfield 16, 3) := by decide +kernel
theorem dX4_set_4 : decode cX4_set 4 = .ok (.aload_n 0, 1) := by decide +kernel
theorem dX4_set_5 : decode cX4_set 5 = .ok (.getfield 10, 3) := by decide +kernel
theorem dX4_set_8 : decode cX4_set 8 = .ok (.invokevirtual 47, 3) := by decide +kernel
theorem dX4_set_11 : decode cX4_set 11 = .ok (.aload_n 0, 1) := by decide +kernel
theorem dX4_set_12 : decode cX4_set 12 = .ok (.aload_n 0, 1) := by decide +kernel
theorem dX4_set_13 : decode cX4_set 13 = .ok (.getfield 16, 3) := by decide +kernel
theorem dX4_set_16 : decode cX4_set 16 = .ok (.iload_n 1, 1) := by decide +kernel
theorem dX4_set_17 : decode cX4_set 17 = .ok (.iload_n 2, 1) := by decide +kernel
theorem dX4_set_18 : decode cX4_set 18 = .ok (.invokevirtual 65, 3) := by decide +kernel
theorem dX4_set_21 : decode cX4_set 21 = .ok (.invokevirtual 55, 3) := by decide +kernel
theorem dX4_set_24 : decode cX4_set 24 = .ok (.ireturn, 1) := by decide +kernel
set_option maxRecDepth 20000 in
theorem ggX4_pass_X3_copyFrom : GoodIn wsX4_pass wsX3_copyFrom := goodIn_r _ [7, 8, 9, 10, 11, 12, 13, 14, 15, 16, 17, 18, 19, 20, 21, 22, 23, 24, 25, 26, 27, 28, 29, 30, 31, 32, 33, 34, 35, 157, 158, 159, 160, 161, 162, 163, 164, 165, 166, 167] (by decide +kernel) (by decide +kernel)
set_option maxRecDepth 20000 in
theorem gX4_pass_X3_copyFrom : GoodIn wsX4_pass (wsV RX4 47 RX3 yX3_copyFrom wsX3_copyFrom) := goodIn_app (goodIn_of _ (by decide +kernel)) ggX4_pass_X3_copyFrom
set_option maxRecDepth 20000 in
theorem ggX4_pass_X3_letPass : GoodIn wsX4_pass wsX3_letPass := goodIn_r _ [39, 14, 40, 15, 41, 42, 43, 6, 44, 13, 12, 45, 46, 47, 48, 49, 50, 51, 52, 8, 53, 54, 55, 56, 57, 58, 59, 60, 9, 61, 62, 63, 31, 64, 34, 33, 65, 66, 67, 68, 69, 70, 71, 72, 11, 73, 74, 75, 76, 10, 77, 78, 79, 80, 81, 82, 83, 84, 85, 86, 87, 88, 89, 90, 91, 92, 93, 94, 95, 96, 97, 98, 99, 100, 101, 102, 103, 104, 105, 106, 107, 108, 109, 110, 111, 112, 113, 114, 115, 116, 117, 118, 119, 120, 121, 16, 122, 123, 124, 125, 126, 127, 128, 129, 157, 158, 159, 160, 161, 162, 163, 164, 165, 166, 167] (by decide +kernel) (by decide +kernel)
set_option maxRecDepth 20000 in
theorem gX4_pass_X3_letPass : GoodIn wsX4_pass (wsV RX4 69 RX3 yX3_letPass wsX3_letPass) := goodIn_app (goodIn_of _ (by decide +kernel)) ggX4_pass_X3_letPass
set_option maxRecDepth 20000 in
theorem ggX4_pass_X4_settle : GoodIn wsX4_pass wsX4_settle := goodIn_r _ [133, 134, 2, 1, 135, 136, 137, 138, 139, 140, 141, 142, 21, 22, 23, 143, 144, 145, 146, 147, 148, 4, 5, 6, 7, 8, 9, 10, 11, 12, 13, 14, 15, 16, 17, 18, 19, 20, 24, 25, 26, 27, 28, 29, 30, 31, 32, 33, 34, 35, 3, 149, 150, 151, 152, 153, 154, 155, 156, 168, 169, 170, 157, 158, 159, 160, 161, 162, 163, 164, 165, 166, 167] (by decide +kernel) (by decide +kernel)
set_option maxRecDepth 20000 in
theorem gX4_pass_X4_settle : GoodIn wsX4_pass (wsV RX4 55 RX4 yX4_settle wsX4_settle) := goodIn_app (goodIn_of _ (by decide +kernel)) ggX4_pass_X4_settle
theorem dX4_pass_0 : decode cX4_pass 0 = .ok (.aload_n 0, 1) := by decide +kernel
theorem dX4_pass_1 : decode cX4_pass 1 = .ok (.getfield 16, 3) := by decide +kernel
theorem dX4_pass_4 : decode cX4_pass 4 = .ok (.aload_n 0, 1) := by decide +kernel
theorem dX4_pass_5 : decode cX4_pass 5 = .ok (.getfield 10, 3) := by decide +kernel
theorem dX4_pass_8 : decode cX4_pass 8 = .ok (.invokevirtual 47, 3) := by decide +kernel
theorem dX4_pass_11 : decode cX4_pass 11 = .ok (.aload_n 0, 1) := by decide +kernel
theorem dX4_pass_12 : decode cX4_pass 12 = .ok (.aload_n 0, 1) := by decide +kernel
theorem dX4_pass_13 : decode cX4_pass 13 = .ok (.getfield 16, 3) := by decide +kernel
theorem dX4_pass_16 : decode cX4_pass 16 = .ok (.iload_n 1, 1) := by decide +kernel
theorem dX4_pass_17 : decode cX4_pass 17 = .ok (.invokevirtual 69, 3) := by decide +kernel
theorem dX4_pass_20 : decode cX4_pass 20 = .ok (.invokevirtual 55, 3) := by decide +kernel
theorem dX4_pass_23 : decode cX4_pass 23 = .ok (.ireturn, 1) := by decide +kernel
set_option maxRecDepth 20000 in
theorem ggX4_type_X0_add : GoodIn wsX4_type wsX0_add := goodIn_r _ [6, 7, 8, 17, 18, 19, 20, 21, 22, 23] (by decide +kernel) (by decide +kernel)
set_option maxRecDepth 20000 in
theorem gX4_type_X0_add : GoodIn wsX4_type (wsV RX4 72 RX0 yX0_add wsX0_add) := goodIn_app (goodIn_of _ (by decide +kernel)) ggX4_type_X0_add
theorem dX4_type_0 : decode cX4_type 0 = .ok (.aload_n 0, 1) := by decide +kernel
theorem dX4_type_1 : decode cX4_type 1 = .ok (.getfield 32, 3) := by decide +kernel
theorem dX4_type_4 : decode cX4_type 4 = .ok (.iload_n 1, 1) := by decide +kernel
theorem dX4_type_5 : decode cX4_type 5 = .ok (.invokevirtual 72, 3) := by decide +kernel
theorem dX4_type_8 : decode cX4_type 8 = .ok (.ireturn, 1) := by decide +kernel
set_option maxRecDepth 20000 in
theorem ggX4_clearText_X0_empty : GoodIn wsX4_clearText wsX0_empty := goodIn_r _ [6, 7, 16, 17, 18, 19, 20, 21, 22] (by decide +kernel) (by decide +kernel)
set_option maxRecDepth 20000 in
theorem gX4_clearText_X0_empty : GoodIn wsX4_clearText (wsV RX4 76 RX0 yX0_empty wsX0_empty) := goodIn_app (goodIn_of _ (by decide +kernel)) ggX4_clearText_X0_empty
theorem dX4_clearText_0 : decode cX4_clearText 0 = .ok (.aload_n 0, 1) := by decide +kernel
theorem dX4_clearText_1 : decode cX4_clearText 1 = .ok (.getfield 32, 3) := by decide +kernel
theorem dX4_clearText_4 : decode cX4_clearText 4 = .ok (.invokevirtual 76, 3) := by decide +kernel
theorem dX4_clearText_7 : decode cX4_clearText 7 = .ok (.ireturn, 1) := by decide +kernel
set_option maxRecDepth 20000 in
theorem ggX4_perform_X0_checkThings : GoodIn wsX4_perform wsX0_checkThings := goodIn_r _ [10, 11, 12, 13, 14, 15, 9, 16, 17, 18, 19, 20, 21, 22, 23, 24, 25, 26, 27, 28, 29, 30, 31, 32, 33, 34, 35, 36, 37, 38, 39, 40, 41, 42, 43, 44, 45, 240, 241, 242, 243, 244, 245, 246] (by decide +kernel) (by decide +kernel)
set_option maxRecDepth 20000 in
theorem gX4_perform_X0_checkThings : GoodIn wsX4_perform (wsV RX4 80 RX0 yX0_checkThings wsX0_checkThings) := goodIn_app (goodIn_of _ (by decide +kernel)) ggX4_perform_X0_checkThings
set_option maxRecDepth 20000 in
theorem ggX4_perform_X0_place : GoodIn wsX4_perform wsX0_place := goodIn_r _ [49, 11, 240, 241, 242, 243, 244, 245, 246] (by decide +kernel) (by decide +kernel)
set_option maxRecDepth 20000 in
theorem gX4_perform_X0_place : GoodIn wsX4_perform (wsV RX4 83 RX0 yX0_place wsX0_place) := goodIn_app (goodIn_of _ (by decide +kernel)) ggX4_perform_X0_place
set_option maxRecDepth 20000 in
theorem ggX4_perform_X3_copyFrom : GoodIn wsX4_perform wsX3_copyFrom := goodIn_r _ [54, 55, 56, 57, 58, 59, 60, 61, 62, 63, 64, 65, 66, 67, 68, 69, 70, 71, 72, 73, 74, 75, 76, 77, 78, 79, 80, 81, 82, 247, 248, 249, 250, 251, 252, 253, 254, 255, 256, 257] (by decide +kernel) (by decide +kernel)
set_option maxRecDepth 20000 in
theorem gX4_perform_X3_copyFrom : GoodIn wsX4_perform (wsV RX4 47 RX3 yX3_copyFrom wsX3_copyFrom) := goodIn_app (goodIn_of _ (by decide +kernel)) ggX4_perform_X3_copyFrom
set_option maxRecDepth 20000 in
theorem ggX4_perform_X0_rewind : GoodIn wsX4_perform wsX0_rewind := goodIn_r _ [16, 11, 240, 241, 242, 243, 244, 245, 246] (by decide +kernel) (by decide +kernel)
set_option maxRecDepth 20000 in
theorem gX4_perform_X0_rewind : GoodIn wsX4_perform (wsV RX4 86 RX0 yX0_rewind wsX0_rewind) := goodIn_app (goodIn_of _ (by decide +kernel)) ggX4_perform_X0_rewind
set_option maxRecDepth 20000 in
theorem ggX4_perform_X0_readThing : GoodIn wsX4_perform wsX0_readThing := goodIn_r _ [20, 11, 21, 22, 23, 24, 9, 25, 26, 27, 28, 29, 12, 30, 31, 32, 33, 34, 35, 36, 37, 38, 39, 40, 41, 42, 43, 44, 45, 240, 241, 242, 243, 244, 245, 246] (by decide +kernel) (by decide +kernel)
set_option maxRecDepth 20000 in
theorem gX4_perform_X0_readThing : GoodIn wsX4_perform (wsV RX4 89 RX0 yX0_readThing wsX0_readThing) := goodIn_app (goodIn_of _ (by decide +kernel)) ggX4_perform_X0_readThing
set_option maxRecDepth 20000 in
theorem ggX4_perform_X4_doThing : GoodIn wsX4_perform wsX4_doThing := goodIn_r _ [88, 1, 2, 89, 90, 91, 9, 92, 21, 93, 94, 95, 96, 36, 97, 98, 99, 100, 37, 101, 102, 103, 104, 35, 105, 106, 107, 53, 108, 61, 60, 56, 109, 65, 110, 111, 112, 113, 114, 115, 116, 117, 118, 55, 119, 120, 121, 122, 123, 124, 125, 126, 58, 59, 127, 128, 129, 130, 131, 132, 133, 78, 134, 81, 80, 135, 136, 137, 138, 139, 140, 141, 142, 143, 62, 144, 145, 146, 147, 148, 149, 150, 151, 152, 153, 154, 155, 156, 157, 158, 159, 160, 161, 162, 163, 164, 165, 166, 167, 57, 168, 169, 170, 171, 172, 173, 174, 175, 176, 177, 178, 179, 180, 181, 182, 183, 184, 185, 186, 187, 188, 189, 190, 191, 192, 193, 194, 195, 196, 197, 198, 199, 200, 201, 202, 203, 204, 63, 205, 206, 207, 208, 209, 210, 211, 212, 232, 233, 234, 235, 236, 237, 238, 239, 240, 241, 242, 243, 244, 245, 246, 247, 248, 249, 250, 251, 252, 253, 254, 255, 256, 257] (by decide +kernel) (by decide +kernel)
set_option maxRecDepth 20000 in
theorem gX4_perform_X4_doThing : GoodIn wsX4_perform (wsV RX4 93 RX4 yX4_doThing wsX4_doThing) := goodIn_app (goodIn_of _ (by decide +kernel)) ggX4_perform_X4_doThing
set_option maxRecDepth 20000 in
theorem ggX4_perform_X4_settle : GoodIn wsX4_perform wsX4_settle := goodIn_r _ [216, 217, 3, 2, 218, 219, 220, 221, 222, 223, 224, 225, 68, 69, 70, 226, 227, 228, 229, 230, 231, 51, 52, 53, 54, 55, 56, 57, 58, 59, 60, 61, 62, 63, 64, 65, 66, 67, 71, 72, 73, 74, 75, 76, 77, 78, 79, 80, 81, 82, 50, 232, 233, 234, 235, 236, 237, 238, 239, 258, 259, 260, 247, 248, 249, 250, 251, 252, 253, 254, 255, 256, 257] (by decide +kernel) (by decide +kernel)
set_option maxRecDepth 20000 in
theorem gX4_perform_X4_settle : GoodIn wsX4_perform (wsV RX4 55 RX4 yX4_settle wsX4_settle) := goodIn_app (goodIn_of _ (by decide +kernel)) ggX4_perform_X4_settle
theorem dX4_perform_0 : decode cX4_perform 0 = .ok (.aload_n 0, 1) := by decide +kernel
theorem dX4_perform_1 : decode cX4_perform 1 = .ok (.getfield 32, 3) := by decide +kernel
theorem dX4_perform_4 : decode cX4_perform 4 = .ok (.invokevirtual 80, 3) := by decide +kernel
theorem dX4_perform_7 : decode cX4_perform 7 = .ok (.istore_n 1, 1) := by decide +kernel
theorem dX4_perform_8 : decode cX4_perform 8 = .ok (.iload_n 1, 1) := by decide +kernel
theorem dX4_perform_9 : decode cX4_perform 9 = .ok (.ifCond .ge 14, 3) := by decide +kernel
theorem dX4_perform_12 : decode cX4_perform 12 = .ok (.bipush (-100), 2) := by decide +kernel
theorem dX4_perform_14 : decode cX4_perform 14 = .ok (.aload_n 0, 1) := by decide +kernel
theorem dX4_perform_15 : decode cX4_perform 15 = .ok (.getfield 32, 3) := by decide +kernel
theorem dX4_perform_18 : decode cX4_perform 18 = .ok (.invokevirtual 83, 3) := by decide +kernel
theorem dX4_perform_21 : decode cX4_perform 21 = .ok (.isub, 1) := by decide +kernel
theorem dX4_perform_22 : decode cX4_perform 22 = .ok (.ireturn, 1) := by decide +kernel
theorem dX4_perform_23 : decode cX4_perform 23 = .ok (.aload_n 0, 1) := by decide +kernel
theorem dX4_perform_24 : decode cX4_perform 24 = .ok (.getfield 16, 3) := by decide +kernel
theorem dX4_perform_27 : decode cX4_perform 27 = .ok (.aload_n 0, 1) := by decide +kernel
theorem dX4_perform_28 : decode cX4_perform 28 = .ok (.getfield 10, 3) := by decide +kernel
theorem dX4_perform_31 : decode cX4_perform 31 = .ok (.invokevirtual 47, 3) := by decide +kernel
theorem dX4_perform_34 : decode cX4_perform 34 = .ok (.aload_n 0, 1) := by decide +kernel
theorem dX4_perform_35 : decode cX4_perform 35 = .ok (.getfield 32, 3) := by decide +kernel
theorem dX4_perform_38 : decode cX4_perform 38 = .ok (.invokevirtual 86, 3) := by decide +kernel
theorem dX4_perform_41 : decode cX4_perform 41 = .ok (.iconst 0, 1) := by decide +kernel
theorem dX4_perform_42 : decode cX4_perform 42 = .ok (.istore_n 2, 1) := by decide +kernel
theorem dX4_perform_43 : decode cX4_perform 43 = .ok (.iload_n 2, 1) := by decide +kernel
theorem dX4_perform_44 : decode cX4_perform 44 = .ok (.iload_n 1, 1) := by decide +kernel
theorem dX4_perform_45 : decode cX4_perform 45 = .ok (.if_icmp .ge 41, 3) := by decide +kernel
theorem dX4_perform_48 : decode cX4_perform 48 = .ok (.aload_n 0, 1) := by decide +kernel
theorem dX4_perform_49 : decode cX4_perform 49 = .ok (.getfield 32, 3) := by decide +kernel
theorem dX4_perform_52 : decode cX4_perform 52 = .ok (.invokevirtual 89, 3) := by decide +kernel
theorem dX4_perform_55 : decode cX4_perform 55 = .ok (.ifCond .eq 31, 3) := by decide +kernel
theorem dX4_perform_58 : decode cX4_perform 58 = .ok (.aload_n 0, 1) := by decide +kernel
theorem dX4_perform_59 : decode cX4_perform 59 = .ok (.invokevirtual 93, 3) := by decide +kernel
theorem dX4_perform_62 : decode cX4_perform 62 = .ok (.istore_n 3, 1) := by decide +kernel
theorem dX4_perform_63 : decode cX4_perform 63 = .ok (.iload_n 3, 1) := by decide +kernel
theorem dX4_perform_64 : decode cX4_perform 64 = .ok (.ifCond .ge 16, 3) := by decide +kernel
theorem dX4_perform_67 : decode cX4_perform 67 = .ok (.aload_n 0, 1) := by decide +kernel
theorem dX4_perform_68 : decode cX4_perform 68 = .ok (.iload_n 2, 1) := by decide +kernel
theorem dX4_perform_69 : decode cX4_perform 69 = .ok (.putfield 40, 3) := by decide +kernel
theorem dX4_perform_72 : decode cX4_perform 72 = .ok (.aload_n 0, 1) := by decide +kernel
theorem dX4_perform_73 : decode cX4_perform 73 = .ok (.iload_n 3, 1) := by decide +kernel
theorem dX4_perform_74 : decode cX4_perform 74 = .ok (.putfield 44, 3) := by decide +kernel
theorem dX4_perform_77 : decode cX4_perform 77 = .ok (.bipush (-4), 2) := by decide +kernel
theorem dX4_perform_79 : decode cX4_perform 79 = .ok (.ireturn, 1) := by decide +kernel
theorem dX4_perform_80 : decode cX4_perform 80 = .ok (.iinc 2 1, 3) := by decide +kernel
theorem dX4_perform_83 : decode cX4_perform 83 = .ok (.goto (-40), 3) := by decide +kernel
theorem dX4_perform_86 : decode cX4_perform 86 = .ok (.aload_n 0, 1) := by decide +kernel
theorem dX4_perform_87 : decode cX4_perform 87 = .ok (.iload_n 1, 1) := by decide +kernel
theorem dX4_perform_88 : decode cX4_perform 88 = .ok (.invokevirtual 55, 3) := by decide +kernel
theorem dX4_perform_91 : decode cX4_perform 91 = .ok (.ireturn, 1) := by decide +kernel
set_option maxRecDepth 20000 in
theorem ggX4_undo_X1_size : GoodIn wsX4_undo wsX1_size := goodIn_r _ [7, 8, 60, 61, 62] (by decide +kernel) (by decide +kernel)
set_option maxRecDepth 20000 in
theorem gX4_undo_X1_size : GoodIn wsX4_undo (wsV RX4 96 RX1 yX1_size wsX1_size) := goodIn_app (goodIn_of _ (by decide +kernel)) ggX4_undo_X1_size
set_option maxRecDepth 20000 in
theorem ggX4_undo_X1_takeBack : GoodIn wsX4_undo wsX1_takeBack := goodIn_r _ [12, 13, 8, 14, 15, 16, 6, 17, 18, 19, 20, 21, 22, 23, 24, 25, 26, 27, 28, 29, 30, 31, 32, 33, 34, 35, 36, 37, 38, 39, 40, 41, 42, 43, 44, 45, 46, 47, 48, 49, 50, 51, 60, 61, 62, 63, 64, 65, 66, 67, 68, 69, 70, 71, 72, 73] (by decide +kernel) (by decide +kernel)
set_option maxRecDepth 20000 in
theorem gX4_undo_X1_takeBack : GoodIn wsX4_undo (wsV RX4 99 RX1 yX1_takeBack wsX1_takeBack) := goodIn_app (goodIn_of _ (by decide +kernel)) ggX4_undo_X1_takeBack
theorem dX4_undo_0 : decode cX4_undo 0 = .ok (.aload_n 0, 1) := by decide +kernel
theorem dX4_undo_1 : decode cX4_undo 1 = .ok (.getfield 25, 3) := by decide +kernel
theorem dX4_undo_4 : decode cX4_undo 4 = .ok (.invokevirtual 96, 3) := by decide +kernel
theorem dX4_undo_7 : decode cX4_undo 7 = .ok (.ifCond .ne 6, 3) := by decide +kernel
theorem dX4_undo_10 : decode cX4_undo 10 = .ok (.bipush (-5), 2) := by decide +kernel
theorem dX4_undo_12 : decode cX4_undo 12 = .ok (.ireturn, 1) := by decide +kernel
theorem dX4_undo_13 : decode cX4_undo 13 = .ok (.aload_n 0, 1) := by decide +kernel
theorem dX4_undo_14 : decode cX4_undo 14 = .ok (.getfield 25, 3) := by decide +kernel
theorem dX4_undo_17 : decode cX4_undo 17 = .ok (.aload_n 0, 1) := by decide +kernel
theorem dX4_undo_18 : decode cX4_undo 18 = .ok (.getfield 10, 3) := by decide +kernel
theorem dX4_undo_21 : decode cX4_undo 21 = .ok (.invokevirtual 99, 3) := by decide +kernel
theorem dX4_undo_24 : decode cX4_undo 24 = .ok (.aload_n 0, 1) := by decide +kernel
theorem dX4_undo_25 : decode cX4_undo 25 = .ok (.getfield 25, 3) := by decide +kernel
theorem dX4_undo_28 : decode cX4_undo 28 = .ok (.invokevirtual 96, 3) := by decide +kernel
theorem dX4_undo_31 : decode cX4_undo 31 = .ok (.ireturn, 1) := by decide +kernel
set_option maxRecDepth 20000 in
theorem ggX4_keep_X3_copyFrom : GoodIn wsX4_keep wsX3_copyFrom := goodIn_r _ [8, 9, 10, 11, 12, 13, 14, 15, 16, 17, 18, 19, 20, 21, 22, 23, 24, 25, 26, 27, 28, 29, 30, 31, 32, 33, 34, 35, 36, 53, 54, 55, 56, 57, 58, 59, 60, 61, 62, 63] (by decide +kernel) (by decide +kernel)
set_option maxRecDepth 20000 in
theorem gX4_keep_X3_copyFrom : GoodIn wsX4_keep (wsV RX4 47 RX3 yX3_copyFrom wsX3_copyFrom) := goodIn_app (goodIn_of _ (by decide +kernel)) ggX4_keep_X3_copyFrom
set_option maxRecDepth 20000 in
theorem ggX4_keep_X3_sitting : GoodIn wsX4_keep wsX3_sitting := goodIn_r _ [40, 12, 41, 42, 43, 32, 44, 35, 53, 54, 55, 56, 57, 58, 59, 60, 61, 62, 63] (by decide +kernel) (by decide +kernel)
set_option maxRecDepth 20000 in
theorem gX4_keep_X3_sitting : GoodIn wsX4_keep (wsV RX4 102 RX3 yX3_sitting wsX3_sitting) := goodIn_app (goodIn_of _ (by decide +kernel)) ggX4_keep_X3_sitting
theorem dX4_keep_0 : decode cX4_keep 0 = .ok (.aload_n 0, 1) := by decide +kernel
theorem dX4_keep_1 : decode cX4_keep 1 = .ok (.getfield 19, 3) := by decide +kernel
theorem dX4_keep_4 : decode cX4_keep 4 = .ok (.aload_n 0, 1) := by decide +kernel
theorem dX4_keep_5 : decode cX4_keep 5 = .ok (.getfield 10, 3) := by decide +kernel
theorem dX4_keep_8 : decode cX4_keep 8 = .ok (.invokevirtual 47, 3) := by decide +kernel
theorem dX4_keep_11 : decode cX4_keep 11 = .ok (.aload_n 0, 1) := by decide +kernel
theorem dX4_keep_12 : decode cX4_keep 12 = .ok (.iconst 1, 1) := by decide +kernel
theorem dX4_keep_13 : decode cX4_keep 13 = .ok (.putfield 36, 3) := by decide +kernel
theorem dX4_keep_16 : decode cX4_keep 16 = .ok (.aload_n 0, 1) := by decide +kernel
theorem dX4_keep_17 : decode cX4_keep 17 = .ok (.getfield 10, 3) := by decide +kernel
theorem dX4_keep_20 : decode cX4_keep 20 = .ok (.invokevirtual 102, 3) := by decide +kernel
theorem dX4_keep_23 : decode cX4_keep 23 = .ok (.ireturn, 1) := by decide +kernel
set_option maxRecDepth 20000 in
theorem ggX4_restore_X3_copyFrom : GoodIn wsX4_restore wsX3_copyFrom := goodIn_r _ [8, 9, 10, 11, 12, 13, 14, 15, 16, 17, 18, 19, 20, 21, 22, 23, 24, 25, 26, 27, 28, 29, 30, 31, 32, 33, 34, 35, 36, 73, 74, 75, 76, 77, 78, 79, 80, 81, 82, 83] (by decide +kernel) (by decide +kernel)
set_option maxRecDepth 20000 in
theorem gX4_restore_X3_copyFrom : GoodIn wsX4_restore (wsV RX4 47 RX3 yX3_copyFrom wsX3_copyFrom) := goodIn_app (goodIn_of _ (by decide +kernel)) ggX4_restore_X3_copyFrom
set_option maxRecDepth 20000 in
theorem ggX4_restore_X3_sitting : GoodIn wsX4_restore wsX3_sitting := goodIn_r _ [40, 12, 41, 42, 43, 32, 44, 35, 73, 74, 75, 76, 77, 78, 79, 80, 81, 82, 83] (by decide +kernel) (by decide +kernel)
set_option maxRecDepth 20000 in
theorem gX4_restore_X3_sitting : GoodIn wsX4_restore (wsV RX4 102 RX3 yX3_sitting wsX3_sitting) := goodIn_app (goodIn_of _ (by decide +kernel)) ggX4_restore_X3_sitting
set_option maxRecDepth 20000 in
theorem ggX4_restore_X4_settle : GoodIn wsX4_restore wsX4_settle := goodIn_r _ [48, 49, 50, 2, 51, 52, 53, 54, 55, 56, 57, 58, 22, 23, 24, 59, 60, 61, 62, 63, 64, 5, 6, 7, 8, 9, 10, 11, 12, 13, 14, 15, 16, 17, 18, 19, 20, 21, 25, 26, 27, 28, 29, 30, 31, 32, 33, 34, 35, 36, 4, 65, 66, 67, 68, 69, 70, 71, 72, 84, 85, 86, 73, 74, 75, 76, 77, 78, 79, 80, 81, 82, 83] (by decide +kernel) (by decide +kernel)
set_option maxRecDepth 20000 in
theorem gX4_restore_X4_settle : GoodIn wsX4_restore (wsV RX4 55 RX4 yX4_settle wsX4_settle) := goodIn_app (goodIn_of _ (by decide +kernel)) ggX4_restore_X4_settle
theorem dX4_restore_0 : decode cX4_restore 0 = .ok (.aload_n 0, 1) := by decide +kernel
theorem dX4_restore_1 : decode cX4_restore 1 = .ok (.getfield 36, 3) := by decide +kernel
theorem dX4_restore_4 : decode cX4_restore 4 = .ok (.ifCond .ne 6, 3) := by decide +kernel
theorem dX4_restore_7 : decode cX4_restore 7 = .ok (.bipush (-5), 2) := by decide +kernel
theorem dX4_restore_9 : decode cX4_restore 9 = .ok (.ireturn, 1) := by decide +kernel
theorem dX4_restore_10 : decode cX4_restore 10 = .ok (.aload_n 0, 1) := by decide +kernel
theorem dX4_restore_11 : decode cX4_restore 11 = .ok (.getfield 16, 3) := by decide +kernel
theorem dX4_restore_14 : decode cX4_restore 14 = .ok (.aload_n 0, 1) := by decide +kernel
theorem dX4_restore_15 : decode cX4_restore 15 = .ok (.getfield 19, 3) := by decide +kernel
theorem dX4_restore_18 : decode cX4_restore 18 = .ok (.invokevirtual 47, 3) := by decide +kernel
theorem dX4_restore_21 : decode cX4_restore 21 = .ok (.aload_n 0, 1) := by decide +kernel
theorem dX4_restore_22 : decode cX4_restore 22 = .ok (.aload_n 0, 1) := by decide +kernel
theorem dX4_restore_23 : decode cX4_restore 23 = .ok (.getfield 16, 3) := by decide +kernel
theorem dX4_restore_26 : decode cX4_restore 26 = .ok (.invokevirtual 102, 3) := by decide +kernel
theorem dX4_restore_29 : decode cX4_restore 29 = .ok (.invokevirtual 55, 3) := by decide +kernel
theorem dX4_restore_32 : decode cX4_restore 32 = .ok (.ireturn, 1) := by decide +kernel
set_option maxRecDepth 20000 in
theorem ggX4_king_X3_isKing : GoodIn wsX4_king wsX3_isKing := goodIn_r _ [6, 7, 35, 36, 37, 38, 39, 40, 41, 42, 43] (by decide +kernel) (by decide +kernel)
set_option maxRecDepth 20000 in
theorem gX4_king_X3_isKing : GoodIn wsX4_king (wsV RX4 105 RX3 yX3_isKing wsX3_isKing) := goodIn_app (goodIn_of _ (by decide +kernel)) ggX4_king_X3_isKing
set_option maxRecDepth 20000 in
theorem ggX4_king_X3_tell : GoodIn wsX4_king wsX3_tell := goodIn_r _ [11, 12, 13, 14, 15, 16, 17, 18, 19, 20, 21, 22, 23, 5, 24, 25, 26, 3, 4, 6, 7, 35, 36, 37, 38, 39, 40, 41, 42, 43, 44, 45] (by decide +kernel) (by decide +kernel)
set_option maxRecDepth 20000 in
theorem gX4_king_X3_tell : GoodIn wsX4_king (wsV RX4 109 RX3 yX3_tell wsX3_tell) := goodIn_app (goodIn_of _ (by decide +kernel)) ggX4_king_X3_tell
theorem dX4_king_0 : decode cX4_king 0 = .ok (.aload_n 0, 1) := by decide +kernel
theorem dX4_king_1 : decode cX4_king 1 = .ok (.getfield 10, 3) := by decide +kernel
theorem dX4_king_4 : decode cX4_king 4 = .ok (.iload_n 1, 1) := by decide +kernel
theorem dX4_king_5 : decode cX4_king 5 = .ok (.invokevirtual 105, 3) := by decide +kernel
theorem dX4_king_8 : decode cX4_king 8 = .ok (.ifCond .ne 5, 3) := by decide +kernel
theorem dX4_king_11 : decode cX4_king 11 = .ok (.iconst (-1), 1) := by decide +kernel
theorem dX4_king_12 : decode cX4_king 12 = .ok (.ireturn, 1) := by decide +kernel
theorem dX4_king_13 : decode cX4_king 13 = .ok (.iload_n 2, 1) := by decide +kernel
theorem dX4_king_14 : decode cX4_king 14 = .ok (.ifCond .lt 9, 3) := by decide +kernel
theorem dX4_king_17 : decode cX4_king 17 = .ok (.iload_n 2, 1) := by decide +kernel
theorem dX4_king_18 : decode cX4_king 18 = .ok (.bipush 9, 2) := by decide +kernel
theorem dX4_king_20 : decode cX4_king 20 = .ok (.if_icmp .lt 6, 3) := by decide +kernel
theorem dX4_king_23 : decode cX4_king 23 = .ok (.bipush (-2), 2) := by decide +kernel
theorem dX4_king_25 : decode cX4_king 25 = .ok (.ireturn, 1) := by decide +kernel
theorem dX4_king_26 : decode cX4_king 26 = .ok (.aload_n 0, 1) := by decide +kernel
theorem dX4_king_27 : decode cX4_king 27 = .ok (.getfield 10, 3) := by decide +kernel
theorem dX4_king_30 : decode cX4_king 30 = .ok (.iload_n 1, 1) := by decide +kernel
theorem dX4_king_31 : decode cX4_king 31 = .ok (.iload_n 2, 1) := by decide +kernel
theorem dX4_king_32 : decode cX4_king 32 = .ok (.invokevirtual 109, 3) := by decide +kernel
theorem dX4_king_35 : decode cX4_king 35 = .ok (.ireturn, 1) := by decide +kernel
set_option maxRecDepth 20000 in
theorem ggX4_seat_X3_sitterAt : GoodIn wsX4_seat wsX3_sitterAt := goodIn_r _ [6, 7, 8, 9, 10, 11, 12, 13, 14, 23, 24, 25, 26, 27, 28, 29, 30, 31, 32, 33] (by decide +kernel) (by decide +kernel)
set_option maxRecDepth 20000 in
theorem gX4_seat_X3_sitterAt : GoodIn wsX4_seat (wsV RX4 112 RX3 yX3_sitterAt wsX3_sitterAt) := goodIn_app (goodIn_of _ (by decide +kernel)) ggX4_seat_X3_sitterAt
theorem dX4_seat_0 : decode cX4_seat 0 = .ok (.iload_n 1, 1) := by decide +kernel
theorem dX4_seat_1 : decode cX4_seat 1 = .ok (.ifCond .lt 9, 3) := by decide +kernel
theorem dX4_seat_4 : decode cX4_seat 4 = .ok (.iload_n 1, 1) := by decide +kernel
theorem dX4_seat_5 : decode cX4_seat 5 = .ok (.bipush 12, 2) := by decide +kernel
theorem dX4_seat_7 : decode cX4_seat 7 = .ok (.if_icmp .lt 5, 3) := by decide +kernel
theorem dX4_seat_10 : decode cX4_seat 10 = .ok (.iconst (-1), 1) := by decide +kernel
theorem dX4_seat_11 : decode cX4_seat 11 = .ok (.ireturn, 1) := by decide +kernel
theorem dX4_seat_12 : decode cX4_seat 12 = .ok (.aload_n 0, 1) := by decide +kernel
theorem dX4_seat_13 : decode cX4_seat 13 = .ok (.getfield 10, 3) := by decide +kernel
theorem dX4_seat_16 : decode cX4_seat 16 = .ok (.iload_n 1, 1) := by decide +kernel
theorem dX4_seat_17 : decode cX4_seat 17 = .ok (.invokevirtual 112, 3) := by decide +kernel
theorem dX4_seat_20 : decode cX4_seat 20 = .ok (.ireturn, 1) := by decide +kernel
set_option maxRecDepth 20000 in
theorem ggX4_waits_X3_waiterAt : GoodIn wsX4_waits wsX3_waiterAt := goodIn_r _ [6, 7, 8, 9, 10, 11, 12, 13, 14, 23, 24, 25, 26, 27, 28, 29, 30, 31, 32, 33] (by decide +kernel) (by decide +kernel)
set_option maxRecDepth 20000 in
theorem gX4_waits_X3_waiterAt : GoodIn wsX4_waits (wsV RX4 115 RX3 yX3_waiterAt wsX3_waiterAt) := goodIn_app (goodIn_of _ (by decide +kernel)) ggX4_waits_X3_waiterAt
theorem dX4_waits_0 : decode cX4_waits 0 = .ok (.iload_n 1, 1) := by decide +kernel
theorem dX4_waits_1 : decode cX4_waits 1 = .ok (.ifCond .ge 6, 3) := by decide +kernel
theorem dX4_waits_4 : decode cX4_waits 4 = .ok (.bipush (-2), 2) := by decide +kernel
theorem dX4_waits_6 : decode cX4_waits 6 = .ok (.ireturn, 1) := by decide +kernel
theorem dX4_waits_7 : decode cX4_waits 7 = .ok (.aload_n 0, 1) := by decide +kernel
theorem dX4_waits_8 : decode cX4_waits 8 = .ok (.getfield 10, 3) := by decide +kernel
theorem dX4_waits_11 : decode cX4_waits 11 = .ok (.iload_n 1, 1) := by decide +kernel
theorem dX4_waits_12 : decode cX4_waits 12 = .ok (.invokevirtual 115, 3) := by decide +kernel
theorem dX4_waits_15 : decode cX4_waits 15 = .ok (.ireturn, 1) := by decide +kernel
set_option maxRecDepth 20000 in
theorem ggX4_reason_X3_isKing : GoodIn wsX4_reason wsX3_isKing := goodIn_r _ [6, 7, 39, 40, 41, 42, 43, 44, 45, 46, 47] (by decide +kernel) (by decide +kernel)
set_option maxRecDepth 20000 in
theorem gX4_reason_X3_isKing : GoodIn wsX4_reason (wsV RX4 105 RX3 yX3_isKing wsX3_isKing) := goodIn_app (goodIn_of _ (by decide +kernel)) ggX4_reason_X3_isKing
set_option maxRecDepth 20000 in
theorem ggX4_reason_X3_whyAbove : GoodIn wsX4_reason wsX3_whyAbove := goodIn_r _ [11, 12, 13, 14, 15, 16, 17, 18, 19, 20, 21, 22, 5, 23, 24, 25, 26, 27, 28, 29, 30, 3, 4, 6, 7, 39, 40, 41, 42, 43, 44, 45, 46, 47, 48, 49] (by decide +kernel) (by decide +kernel)
set_option maxRecDepth 20000 in
theorem gX4_reason_X3_whyAbove : GoodIn wsX4_reason (wsV RX4 118 RX3 yX3_whyAbove wsX3_whyAbove) := goodIn_app (goodIn_of _ (by decide +kernel)) ggX4_reason_X3_whyAbove
theorem dX4_reason_0 : decode cX4_reason 0 = .ok (.aload_n 0, 1) := by decide +kernel
theorem dX4_reason_1 : decode cX4_reason 1 = .ok (.getfield 10, 3) := by decide +kernel
theorem dX4_reason_4 : decode cX4_reason 4 = .ok (.iload_n 1, 1) := by decide +kernel
theorem dX4_reason_5 : decode cX4_reason 5 = .ok (.invokevirtual 105, 3) := by decide +kernel
theorem dX4_reason_8 : decode cX4_reason 8 = .ok (.ifCond .eq 14, 3) := by decide +kernel
theorem dX4_reason_11 : decode cX4_reason 11 = .ok (.aload_n 0, 1) := by decide +kernel
theorem dX4_reason_12 : decode cX4_reason 12 = .ok (.getfield 10, 3) := by decide +kernel
theorem dX4_reason_15 : decode cX4_reason 15 = .ok (.iload_n 2, 1) := by decide +kernel
theorem dX4_reason_16 : decode cX4_reason 16 = .ok (.invokevirtual 105, 3) := by decide +kernel
theorem dX4_reason_19 : decode cX4_reason 19 = .ok (.ifCond .ne 5, 3) := by decide +kernel
theorem dX4_reason_22 : decode cX4_reason 22 = .ok (.iconst (-1), 1) := by decide +kernel
theorem dX4_reason_23 : decode cX4_reason 23 = .ok (.ireturn, 1) := by decide +kernel
theorem dX4_reason_24 : decode cX4_reason 24 = .ok (.iload_n 1, 1) := by decide +kernel
theorem dX4_reason_25 : decode cX4_reason 25 = .ok (.iload_n 2, 1) := by decide +kernel
theorem dX4_reason_26 : decode cX4_reason 26 = .ok (.if_icmp .ne 6, 3) := by decide +kernel
theorem dX4_reason_29 : decode cX4_reason 29 = .ok (.bipush (-2), 2) := by decide +kernel
theorem dX4_reason_31 : decode cX4_reason 31 = .ok (.ireturn, 1) := by decide +kernel
theorem dX4_reason_32 : decode cX4_reason 32 = .ok (.aload_n 0, 1) := by decide +kernel
theorem dX4_reason_33 : decode cX4_reason 33 = .ok (.getfield 10, 3) := by decide +kernel
theorem dX4_reason_36 : decode cX4_reason 36 = .ok (.iload_n 1, 1) := by decide +kernel
theorem dX4_reason_37 : decode cX4_reason 37 = .ok (.iload_n 2, 1) := by decide +kernel
theorem dX4_reason_38 : decode cX4_reason 38 = .ok (.invokevirtual 118, 3) := by decide +kernel
theorem dX4_reason_41 : decode cX4_reason 41 = .ok (.ireturn, 1) := by decide +kernel
set_option maxRecDepth 20000 in
theorem ggX4_dueIn_X3_isKing : GoodIn wsX4_dueIn wsX3_isKing := goodIn_r _ [7, 8, 97, 98, 99, 100, 101, 102, 103, 104, 105] (by decide +kernel) (by decide +kernel)
set_option maxRecDepth 20000 in
theorem gX4_dueIn_X3_isKing : GoodIn wsX4_dueIn (wsV RX4 105 RX3 yX3_isKing wsX3_isKing) := goodIn_app (goodIn_of _ (by decide +kernel)) ggX4_dueIn_X3_isKing
set_option maxRecDepth 20000 in
theorem ggX4_dueIn_X3_tell : GoodIn wsX4_dueIn wsX3_tell := goodIn_r _ [12, 13, 14, 15, 16, 17, 18, 19, 20, 21, 22, 23, 24, 6, 25, 26, 27, 4, 5, 7, 8, 97, 98, 99, 100, 101, 102, 103, 104, 105, 106, 107] (by decide +kernel) (by decide +kernel)
set_option maxRecDepth 20000 in
theorem gX4_dueIn_X3_tell : GoodIn wsX4_dueIn (wsV RX4 109 RX3 yX3_tell wsX3_tell) := goodIn_app (goodIn_of _ (by decide +kernel)) ggX4_dueIn_X3_tell
set_option maxRecDepth 20000 in
theorem ggX4_dueIn_X3_copyFrom : GoodIn wsX4_dueIn wsX3_copyFrom := goodIn_r _ [31, 26, 32, 33, 13, 14, 8, 34, 35, 36, 37, 38, 39, 40, 41, 42, 43, 44, 45, 46, 47, 48, 49, 50, 18, 51, 21, 20, 52, 97, 98, 99, 100, 101, 102, 103, 104, 105, 106, 107] (by decide +kernel) (by decide +kernel)
set_option maxRecDepth 20000 in
theorem gX4_dueIn_X3_copyFrom : GoodIn wsX4_dueIn (wsV RX4 47 RX3 yX3_copyFrom wsX3_copyFrom) := goodIn_app (goodIn_of _ (by decide +kernel)) ggX4_dueIn_X3_copyFrom
set_option maxRecDepth 20000 in
theorem ggX4_dueIn_X3_isLesserAbove : GoodIn wsX4_dueIn wsX3_isLesserAbove := goodIn_r _ [56, 13, 15, 16, 17, 18, 19, 20, 21, 57, 58, 59, 60, 61, 62, 63, 6, 64, 32, 97, 98, 99, 100, 101, 102, 103, 104, 105, 106, 107] (by decide +kernel) (by decide +kernel)
set_option maxRecDepth 20000 in
theorem gX4_dueIn_X3_isLesserAbove : GoodIn wsX4_dueIn (wsV RX4 121 RX3 yX3_isLesserAbove wsX3_isLesserAbove) := goodIn_app (goodIn_of _ (by decide +kernel)) ggX4_dueIn_X3_isLesserAbove
set_option maxRecDepth 20000 in
theorem ggX4_dueIn_X3_setting : GoodIn wsX4_dueIn wsX3_setting := goodIn_r _ [68, 33, 97, 98, 99, 100, 101, 102, 103, 104, 105] (by decide +kernel) (by decide +kernel)
set_option maxRecDepth 20000 in
theorem gX4_dueIn_X3_setting : GoodIn wsX4_dueIn (wsV RX4 124 RX3 yX3_setting wsX3_setting) := goodIn_app (goodIn_of _ (by decide +kernel)) ggX4_dueIn_X3_setting
set_option maxRecDepth 20000 in
theorem ggX4_dueIn_X3_sendEnvoys : GoodIn wsX4_dueIn wsX3_sendEnvoys := goodIn_r _ [72, 73, 74, 75, 6, 76, 13, 77, 78, 79, 18, 80, 20, 57, 58, 59, 60, 21, 61, 62, 63, 64, 32, 81, 82, 83, 84, 36, 85, 86, 87, 88, 97, 98, 99, 100, 101, 102, 103, 104, 105, 106, 107] (by decide +kernel) (by decide +kernel)
set_option maxRecDepth 20000 in
theorem gX4_dueIn_X3_sendEnvoys : GoodIn wsX4_dueIn (wsV RX4 127 RX3 yX3_sendEnvoys wsX3_sendEnvoys) := goodIn_app (goodIn_of _ (by decide +kernel)) ggX4_dueIn_X3_sendEnvoys
theorem dX4_dueIn_0 : decode cX4_dueIn 0 = .ok (.aload_n 0, 1) := by decide +kernel
theorem dX4_dueIn_1 : decode cX4_dueIn 1 = .ok (.getfield 10, 3) := by decide +kernel
theorem dX4_dueIn_4 : decode cX4_dueIn 4 = .ok (.iload_n 1, 1) := by decide +kernel
theorem dX4_dueIn_5 : decode cX4_dueIn 5 = .ok (.invokevirtual 105, 3) := by decide +kernel
theorem dX4_dueIn_8 : decode cX4_dueIn 8 = .ok (.ifCond .ne 5, 3) := by decide +kernel
theorem dX4_dueIn_11 : decode cX4_dueIn 11 = .ok (.iconst (-1), 1) := by decide +kernel
theorem dX4_dueIn_12 : decode cX4_dueIn 12 = .ok (.ireturn, 1) := by decide +kernel
theorem dX4_dueIn_13 : decode cX4_dueIn 13 = .ok (.aload_n 0, 1) := by decide +kernel
theorem dX4_dueIn_14 : decode cX4_dueIn 14 = .ok (.getfield 10, 3) := by decide +kernel
theorem dX4_dueIn_17 : decode cX4_dueIn 17 = .ok (.iload_n 1, 1) := by decide +kernel
theorem dX4_dueIn_18 : decode cX4_dueIn 18 = .ok (.iconst 3, 1) := by decide +kernel
theorem dX4_dueIn_19 : decode cX4_dueIn 19 = .ok (.invokevirtual 109, 3) := by decide +kernel
theorem dX4_dueIn_22 : decode cX4_dueIn 22 = .ok (.iconst 2, 1) := by decide +kernel
theorem dX4_dueIn_23 : decode cX4_dueIn 23 = .ok (.if_icmp .eq 6, 3) := by decide +kernel
theorem dX4_dueIn_26 : decode cX4_dueIn 26 = .ok (.bipush (-4), 2) := by decide +kernel
theorem dX4_dueIn_28 : decode cX4_dueIn 28 = .ok (.ireturn, 1) := by decide +kernel
theorem dX4_dueIn_29 : decode cX4_dueIn 29 = .ok (.aload_n 0, 1) := by decide +kernel
theorem dX4_dueIn_30 : decode cX4_dueIn 30 = .ok (.getfield 16, 3) := by decide +kernel
theorem dX4_dueIn_33 : decode cX4_dueIn 33 = .ok (.aload_n 0, 1) := by decide +kernel
theorem dX4_dueIn_34 : decode cX4_dueIn 34 = .ok (.getfield 10, 3) := by decide +kernel
theorem dX4_dueIn_37 : decode cX4_dueIn 37 = .ok (.invokevirtual 47, 3) := by decide +kernel
theorem dX4_dueIn_40 : decode cX4_dueIn 40 = .ok (.iconst 0, 1) := by decide +kernel
theorem dX4_dueIn_41 : decode cX4_dueIn 41 = .ok (.istore_n 2, 1) := by decide +kernel
theorem dX4_dueIn_42 : decode cX4_dueIn 42 = .ok (.iload_n 2, 1) := by decide +kernel
theorem dX4_dueIn_43 : decode cX4_dueIn 43 = .ok (.bipush 100, 2) := by decide +kernel
theorem dX4_dueIn_45 : decode cX4_dueIn 45 = .ok (.if_icmp .gt 38, 3) := by decide +kernel
theorem dX4_dueIn_48 : decode cX4_dueIn 48 = .ok (.aload_n 0, 1) := by decide +kernel
theorem dX4_dueIn_49 : decode cX4_dueIn 49 = .ok (.getfield 16, 3) := by decide +kernel
theorem dX4_dueIn_52 : decode cX4_dueIn 52 = .ok (.iload_n 1, 1) := by decide +kernel
theorem dX4_dueIn_53 : decode cX4_dueIn 53 = .ok (.invokevirtual 121, 3) := by decide +kernel
theorem dX4_dueIn_56 : decode cX4_dueIn 56 = .ok (.ifCond .ne 5, 3) := by decide +kernel
theorem dX4_dueIn_59 : decode cX4_dueIn 59 = .ok (.iload_n 2, 1) := by decide +kernel
theorem dX4_dueIn_60 : decode cX4_dueIn 60 = .ok (.ireturn, 1) := by decide +kernel
theorem dX4_dueIn_61 : decode cX4_dueIn 61 = .ok (.aload_n 0, 1) := by decide +kernel
theorem dX4_dueIn_62 : decode cX4_dueIn 62 = .ok (.getfield 16, 3) := by decide +kernel
theorem dX4_dueIn_65 : decode cX4_dueIn 65 = .ok (.aload_n 0, 1) := by decide +kernel
theorem dX4_dueIn_66 : decode cX4_dueIn 66 = .ok (.getfield 16, 3) := by decide +kernel
theorem dX4_dueIn_69 : decode cX4_dueIn 69 = .ok (.iconst 2, 1) := by decide +kernel
theorem dX4_dueIn_70 : decode cX4_dueIn 70 = .ok (.invokevirtual 124, 3) := by decide +kernel
theorem dX4_dueIn_73 : decode cX4_dueIn 73 = .ok (.invokevirtual 127, 3) := by decide +kernel
theorem dX4_dueIn_76 : decode cX4_dueIn 76 = .ok (.pop, 1) := by decide +kernel
theorem dX4_dueIn_77 : decode cX4_dueIn 77 = .ok (.iinc 2 1, 3) := by decide +kernel
theorem dX4_dueIn_80 : decode cX4_dueIn 80 = .ok (.goto (-38), 3) := by decide +kernel
theorem dX4_dueIn_83 : decode cX4_dueIn 83 = .ok (.bipush (-5), 2) := by decide +kernel
theorem dX4_dueIn_85 : decode cX4_dueIn 85 = .ok (.ireturn, 1) := by decide +kernel
set_option maxRecDepth 20000 in
theorem ggX4_dueSeat_X4_isCrown : GoodIn wsX4_dueSeat wsX4_isCrown := goodIn_r _ [5] (by decide +kernel) (by decide +kernel)
set_option maxRecDepth 20000 in
theorem gX4_dueSeat_X4_isCrown : GoodIn wsX4_dueSeat (va_wsS RX4 130 yX4_isCrown wsX4_isCrown) := goodIn_app (goodIn_of _ (by decide +kernel)) ggX4_dueSeat_X4_isCrown
set_option maxRecDepth 20000 in
theorem ggX4_dueSeat_X4_isAge : GoodIn wsX4_dueSeat wsX4_isAge := goodIn_r _ [8] (by decide +kernel) (by decide +kernel)
set_option maxRecDepth 20000 in
theorem gX4_dueSeat_X4_isAge : GoodIn wsX4_dueSeat (va_wsS RX4 133 yX4_isAge wsX4_isAge) := goodIn_app (goodIn_of _ (by decide +kernel)) ggX4_dueSeat_X4_isAge
set_option maxRecDepth 20000 in
theorem ggX4_dueSeat_X4_worthOf : GoodIn wsX4_dueSeat wsX4_worthOf := goodIn_r _ [11] (by decide +kernel) (by decide +kernel)
set_option maxRecDepth 20000 in
theorem gX4_dueSeat_X4_worthOf : GoodIn wsX4_dueSeat (va_wsS RX4 136 yX4_worthOf wsX4_worthOf) := goodIn_app (goodIn_of _ (by decide +kernel)) ggX4_dueSeat_X4_worthOf
set_option maxRecDepth 20000 in
theorem ggX4_dueSeat_X3_sittingAbove : GoodIn wsX4_dueSeat wsX3_sittingAbove := goodIn_r _ [16, 17, 18, 19, 20, 21, 15, 22, 23, 24, 25, 26, 27, 36, 37, 38, 39, 40, 41, 42, 43, 44] (by decide +kernel) (by decide +kernel)
set_option maxRecDepth 20000 in
theorem gX4_dueSeat_X3_sittingAbove : GoodIn wsX4_dueSeat (wsV RX4 139 RX3 yX3_sittingAbove wsX3_sittingAbove) := goodIn_app (goodIn_of _ (by decide +kernel)) ggX4_dueSeat_X3_sittingAbove
theorem dX4_dueSeat_0 : decode cX4_dueSeat 0 = .ok (.iload_n 1, 1) := by decide +kernel
theorem dX4_dueSeat_1 : decode cX4_dueSeat 1 = .ok (.invokestatic 130, 3) := by decide +kernel
theorem dX4_dueSeat_4 : decode cX4_dueSeat 4 = .ok (.ifCond .eq 10, 3) := by decide +kernel
theorem dX4_dueSeat_7 : decode cX4_dueSeat 7 = .ok (.iload_n 2, 1) := by decide +kernel
theorem dX4_dueSeat_8 : decode cX4_dueSeat 8 = .ok (.invokestatic 133, 3) := by decide +kernel
theorem dX4_dueSeat_11 : decode cX4_dueSeat 11 = .ok (.ifCond .ne 6, 3) := by decide +kernel
theorem dX4_dueSeat_14 : decode cX4_dueSeat 14 = .ok (.bipush (-2), 2) := by decide +kernel
theorem dX4_dueSeat_16 : decode cX4_dueSeat 16 = .ok (.ireturn, 1) := by decide +kernel
theorem dX4_dueSeat_17 : decode cX4_dueSeat 17 = .ok (.aload_n 0, 1) := by decide +kernel
theorem dX4_dueSeat_18 : decode cX4_dueSeat 18 = .ok (.getfield 10, 3) := by decide +kernel
theorem dX4_dueSeat_21 : decode cX4_dueSeat 21 = .ok (.iload_n 1, 1) := by decide +kernel
theorem dX4_dueSeat_22 : decode cX4_dueSeat 22 = .ok (.iload_n 2, 1) := by decide +kernel
theorem dX4_dueSeat_23 : decode cX4_dueSeat 23 = .ok (.bipush 24, 2) := by decide +kernel
theorem dX4_dueSeat_25 : decode cX4_dueSeat 25 = .ok (.invokestatic 136, 3) := by decide +kernel
theorem dX4_dueSeat_28 : decode cX4_dueSeat 28 = .ok (.invokevirtual 139, 3) := by decide +kernel
theorem dX4_dueSeat_31 : decode cX4_dueSeat 31 = .ok (.ireturn, 1) := by decide +kernel
set_option maxRecDepth 20000 in
theorem ggX4_wrongPairs_X3_wrongPairsOfTable : GoodIn wsX4_wrongPairs wsX3_wrongPairsOfTable := goodIn_r _ [6, 7, 8, 9, 10, 11, 12, 13, 14, 15, 16, 17, 18, 19, 20, 21, 5, 22, 23, 32, 33, 34, 35, 36, 37, 38, 39, 40, 41, 42] (by decide +kernel) (by decide +kernel)
set_option maxRecDepth 20000 in
theorem gX4_wrongPairs_X3_wrongPairsOfTable : GoodIn wsX4_wrongPairs (wsV RX4 142 RX3 yX3_wrongPairsOfTable wsX3_wrongPairsOfTable) := goodIn_app (goodIn_of _ (by decide +kernel)) ggX4_wrongPairs_X3_wrongPairsOfTable
theorem dX4_wrongPairs_0 : decode cX4_wrongPairs 0 = .ok (.aload_n 0, 1) := by decide +kernel
theorem dX4_wrongPairs_1 : decode cX4_wrongPairs 1 = .ok (.getfield 10, 3) := by decide +kernel
theorem dX4_wrongPairs_4 : decode cX4_wrongPairs 4 = .ok (.invokevirtual 142, 3) := by decide +kernel
theorem dX4_wrongPairs_7 : decode cX4_wrongPairs 7 = .ok (.ireturn, 1) := by decide +kernel
set_option maxRecDepth 20000 in
theorem ggX4_changesNeeded_X3_copyFrom : GoodIn wsX4_changesNeeded wsX3_copyFrom := goodIn_r _ [7, 8, 9, 10, 11, 12, 13, 14, 15, 16, 17, 18, 19, 20, 21, 22, 23, 24, 25, 26, 27, 28, 29, 30, 31, 32, 33, 34, 35, 72, 73, 74, 75, 76, 77, 78, 79, 80, 81, 82] (by decide +kernel) (by decide +kernel)
set_option maxRecDepth 20000 in
theorem gX4_changesNeeded_X3_copyFrom : GoodIn wsX4_changesNeeded (wsV RX4 47 RX3 yX3_copyFrom wsX3_copyFrom) := goodIn_app (goodIn_of _ (by decide +kernel)) ggX4_changesNeeded_X3_copyFrom
set_option maxRecDepth 20000 in
theorem ggX4_changesNeeded_X3_sendEnvoys : GoodIn wsX4_changesNeeded wsX3_sendEnvoys := goodIn_r _ [39, 40, 41, 42, 6, 43, 11, 44, 45, 46, 31, 47, 34, 48, 49, 50, 51, 33, 52, 53, 54, 55, 9, 56, 57, 58, 59, 16, 60, 61, 62, 63, 72, 73, 74, 75, 76, 77, 78, 79, 80, 81, 82] (by decide +kernel) (by decide +kernel)
set_option maxRecDepth 20000 in
theorem gX4_changesNeeded_X3_sendEnvoys : GoodIn wsX4_changesNeeded (wsV RX4 127 RX3 yX3_sendEnvoys wsX3_sendEnvoys) := goodIn_app (goodIn_of _ (by decide +kernel)) ggX4_changesNeeded_X3_sendEnvoys
theorem dX4_changesNeeded_0 : decode cX4_changesNeeded 0 = .ok (.aload_n 0, 1) := by decide +kernel
theorem dX4_changesNeeded_1 : decode cX4_changesNeeded 1 = .ok (.getfield 16, 3) := by decide +kernel
theorem dX4_changesNeeded_4 : decode cX4_changesNeeded 4 = .ok (.aload_n 0, 1) := by decide +kernel
theorem dX4_changesNeeded_5 : decode cX4_changesNeeded 5 = .ok (.getfield 10, 3) := by decide +kernel
theorem dX4_changesNeeded_8 : decode cX4_changesNeeded 8 = .ok (.invokevirtual 47, 3) := by decide +kernel
theorem dX4_changesNeeded_11 : decode cX4_changesNeeded 11 = .ok (.aload_n 0, 1) := by decide +kernel
theorem dX4_changesNeeded_12 : decode cX4_changesNeeded 12 = .ok (.getfield 16, 3) := by decide +kernel
theorem dX4_changesNeeded_15 : decode cX4_changesNeeded 15 = .ok (.sipush 1000, 3) := by decide +kernel
theorem dX4_changesNeeded_18 : decode cX4_changesNeeded 18 = .ok (.invokevirtual 127, 3) := by decide +kernel
theorem dX4_changesNeeded_21 : decode cX4_changesNeeded 21 = .ok (.ireturn, 1) := by decide +kernel
set_option maxRecDepth 20000 in
theorem ggX4_mostSlighted_X3_mostSlightedSitter : GoodIn wsX4_mostSlighted wsX3_mostSlightedSitter := goodIn_r _ [6, 7, 8, 9, 10, 11, 12, 13, 14, 15, 16, 17, 18, 19, 20, 21, 5, 22, 23, 24, 25, 26, 27, 28, 37, 38, 39, 40, 41, 42, 43, 44, 45, 46, 47] (by decide +kernel) (by decide +kernel)
set_option maxRecDepth 20000 in
theorem gX4_mostSlighted_X3_mostSlightedSitter : GoodIn wsX4_mostSlighted (wsV RX4 145 RX3 yX3_mostSlightedSitter wsX3_mostSlightedSitter) := goodIn_app (goodIn_of _ (by decide +kernel)) ggX4_mostSlighted_X3_mostSlightedSitter
theorem dX4_mostSlighted_0 : decode cX4_mostSlighted 0 = .ok (.aload_n 0, 1) := by decide +kernel
theorem dX4_mostSlighted_1 : decode cX4_mostSlighted 1 = .ok (.getfield 10, 3) := by decide +kernel
theorem dX4_mostSlighted_4 : decode cX4_mostSlighted 4 = .ok (.invokevirtual 145, 3) := by decide +kernel
theorem dX4_mostSlighted_7 : decode cX4_mostSlighted 7 = .ok (.ireturn, 1) := by decide +kernel
set_option maxRecDepth 20000 in
theorem ggX4_ifRounds_X3_copyFrom : GoodIn wsX4_ifRounds wsX3_copyFrom := goodIn_r _ [7, 8, 9, 10, 11, 12, 13, 14, 15, 16, 17, 18, 19, 20, 21, 22, 23, 24, 25, 26, 27, 28, 29, 30, 31, 32, 33, 34, 35, 117, 118, 119, 120, 121, 122, 123, 124, 125, 126, 127] (by decide +kernel) (by decide +kernel)
set_option maxRecDepth 20000 in
theorem gX4_ifRounds_X3_copyFrom : GoodIn wsX4_ifRounds (wsV RX4 47 RX3 yX3_copyFrom wsX3_copyFrom) := goodIn_app (goodIn_of _ (by decide +kernel)) ggX4_ifRounds_X3_copyFrom
set_option maxRecDepth 20000 in
theorem ggX4_ifRounds_X3_holdRound : GoodIn wsX4_ifRounds wsX3_holdRound := goodIn_r _ [39, 15, 11, 40, 41, 42, 31, 43, 34, 44, 45, 46, 47, 33, 48, 49, 50, 6, 51, 8, 52, 53, 54, 55, 13, 56, 57, 58, 59, 60, 61, 62, 63, 64, 65, 66, 67, 9, 68, 69, 70, 71, 72, 73, 74, 75, 76, 77, 78, 79, 80, 81, 82, 83, 10, 84, 85, 86, 87, 88, 89, 90, 91, 16, 92, 93, 94, 95, 96, 97, 98, 99, 100, 101, 102, 103, 104, 117, 118, 119, 120, 121, 122, 123, 124, 125, 126, 127] (by decide +kernel) (by decide +kernel)
set_option maxRecDepth 20000 in
theorem gX4_ifRounds_X3_holdRound : GoodIn wsX4_ifRounds (wsV RX4 148 RX3 yX3_holdRound wsX3_holdRound) := goodIn_app (goodIn_of _ (by decide +kernel)) ggX4_ifRounds_X3_holdRound
set_option maxRecDepth 20000 in
theorem ggX4_ifRounds_X3_sum : GoodIn wsX4_ifRounds wsX3_sum := goodIn_r _ [108, 13, 48, 49, 50, 6, 51, 8, 52, 53, 54, 55, 117, 118, 119, 120, 121, 122, 123, 124, 125] (by decide +kernel) (by decide +kernel)
set_option maxRecDepth 20000 in
theorem gX4_ifRounds_X3_sum : GoodIn wsX4_ifRounds (wsV RX4 151 RX3 yX3_sum wsX3_sum) := goodIn_app (goodIn_of _ (by decide +kernel)) ggX4_ifRounds_X3_sum
theorem dX4_ifRounds_0 : decode cX4_ifRounds 0 = .ok (.iload_n 1, 1) := by decide +kernel
theorem dX4_ifRounds_1 : decode cX4_ifRounds 1 = .ok (.iconst 1, 1) := by decide +kernel
theorem dX4_ifRounds_2 : decode cX4_ifRounds 2 = .ok (.if_icmp .lt 9, 3) := by decide +kernel
theorem dX4_ifRounds_5 : decode cX4_ifRounds 5 = .ok (.iload_n 1, 1) := by decide +kernel
theorem dX4_ifRounds_6 : decode cX4_ifRounds 6 = .ok (.bipush 30, 2) := by decide +kernel
theorem dX4_ifRounds_8 : decode cX4_ifRounds 8 = .ok (.if_icmp .le 6, 3) := by decide +kernel
theorem dX4_ifRounds_11 : decode cX4_ifRounds 11 = .ok (.bipush (-2), 2) := by decide +kernel
theorem dX4_ifRounds_13 : decode cX4_ifRounds 13 = .ok (.ireturn, 1) := by decide +kernel
theorem dX4_ifRounds_14 : decode cX4_ifRounds 14 = .ok (.aload_n 0, 1) := by decide +kernel
theorem dX4_ifRounds_15 : decode cX4_ifRounds 15 = .ok (.getfield 16, 3) := by decide +kernel
theorem dX4_ifRounds_18 : decode cX4_ifRounds 18 = .ok (.aload_n 0, 1) := by decide +kernel
theorem dX4_ifRounds_19 : decode cX4_ifRounds 19 = .ok (.getfield 10, 3) := by decide +kernel
theorem dX4_ifRounds_22 : decode cX4_ifRounds 22 = .ok (.invokevirtual 47, 3) := by decide +kernel
theorem dX4_ifRounds_25 : decode cX4_ifRounds 25 = .ok (.iconst 0, 1) := by decide +kernel
theorem dX4_ifRounds_26 : decode cX4_ifRounds 26 = .ok (.istore_n 2, 1) := by decide +kernel
theorem dX4_ifRounds_27 : decode cX4_ifRounds 27 = .ok (.iload_n 2, 1) := by decide +kernel
theorem dX4_ifRounds_28 : decode cX4_ifRounds 28 = .ok (.iload_n 1, 1) := by decide +kernel
theorem dX4_ifRounds_29 : decode cX4_ifRounds 29 = .ok (.if_icmp .ge 16, 3) := by decide +kernel
theorem dX4_ifRounds_32 : decode cX4_ifRounds 32 = .ok (.aload_n 0, 1) := by decide +kernel
theorem dX4_ifRounds_33 : decode cX4_ifRounds 33 = .ok (.getfield 16, 3) := by decide +kernel
theorem dX4_ifRounds_36 : decode cX4_ifRounds 36 = .ok (.invokevirtual 148, 3) := by decide +kernel
theorem dX4_ifRounds_39 : decode cX4_ifRounds 39 = .ok (.iinc 2 1, 3) := by decide +kernel
theorem dX4_ifRounds_42 : decode cX4_ifRounds 42 = .ok (.goto (-15), 3) := by decide +kernel
theorem dX4_ifRounds_45 : decode cX4_ifRounds 45 = .ok (.aload_n 0, 1) := by decide +kernel
theorem dX4_ifRounds_46 : decode cX4_ifRounds 46 = .ok (.getfield 16, 3) := by decide +kernel
theorem dX4_ifRounds_49 : decode cX4_ifRounds 49 = .ok (.bipush 8, 2) := by decide +kernel
theorem dX4_ifRounds_51 : decode cX4_ifRounds 51 = .ok (.invokevirtual 151, 3) := by decide +kernel
theorem dX4_ifRounds_54 : decode cX4_ifRounds 54 = .ok (.aload_n 0, 1) := by decide +kernel
theorem dX4_ifRounds_55 : decode cX4_ifRounds 55 = .ok (.getfield 10, 3) := by decide +kernel
theorem dX4_ifRounds_58 : decode cX4_ifRounds 58 = .ok (.bipush 8, 2) := by decide +kernel
theorem dX4_ifRounds_60 : decode cX4_ifRounds 60 = .ok (.invokevirtual 151, 3) := by decide +kernel
theorem dX4_ifRounds_63 : decode cX4_ifRounds 63 = .ok (.isub, 1) := by decide +kernel
theorem dX4_ifRounds_64 : decode cX4_ifRounds 64 = .ok (.ireturn, 1) := by decide +kernel
set_option maxRecDepth 20000 in
theorem ggX4_nextArrival_X3_firstArrival : GoodIn wsX4_nextArrival wsX3_firstArrival := goodIn_r _ [6, 7, 8, 9, 10, 5, 11, 12, 13, 14, 15, 16, 25, 26, 27, 28, 29, 30, 31, 32, 33] (by decide +kernel) (by decide +kernel)
set_option maxRecDepth 20000 in
theorem gX4_nextArrival_X3_firstArrival : GoodIn wsX4_nextArrival (wsV RX4 154 RX3 yX3_firstArrival wsX3_firstArrival) := goodIn_app (goodIn_of _ (by decide +kernel)) ggX4_nextArrival_X3_firstArrival
theorem dX4_nextArrival_0 : decode cX4_nextArrival 0 = .ok (.aload_n 0, 1) := by decide +kernel
theorem dX4_nextArrival_1 : decode cX4_nextArrival 1 = .ok (.getfield 10, 3) := by decide +kernel
theorem dX4_nextArrival_4 : decode cX4_nextArrival 4 = .ok (.invokevirtual 154, 3) := by decide +kernel
theorem dX4_nextArrival_7 : decode cX4_nextArrival 7 = .ok (.ireturn, 1) := by decide +kernel
set_option maxRecDepth 20000 in
theorem ggX4_count_X1_size : GoodIn wsX4_count wsX1_size := goodIn_r _ [8, 9, 55, 56, 57] (by decide +kernel) (by decide +kernel)
set_option maxRecDepth 20000 in
theorem gX4_count_X1_size : GoodIn wsX4_count (wsV RX4 96 RX1 yX1_size wsX1_size) := goodIn_app (goodIn_of _ (by decide +kernel)) ggX4_count_X1_size
set_option maxRecDepth 20000 in
theorem ggX4_count_X0_length : GoodIn wsX4_count wsX0_length := goodIn_r _ [14, 15, 58, 59, 60, 61, 62, 63, 64] (by decide +kernel) (by decide +kernel)
set_option maxRecDepth 20000 in
theorem gX4_count_X0_length : GoodIn wsX4_count (wsV RX4 157 RX0 yX0_length wsX0_length) := goodIn_app (goodIn_of _ (by decide +kernel)) ggX4_count_X0_length
set_option maxRecDepth 20000 in
theorem ggX4_count_X3_account : GoodIn wsX4_count wsX3_account := goodIn_r _ [20, 21, 22, 23, 24, 25, 26, 27, 19, 28, 29, 30, 31, 32, 33, 34, 35, 36, 37, 38, 39, 40, 41, 42, 43, 44, 45, 46, 65, 66, 67, 68, 69, 70, 71, 72, 73] (by decide +kernel) (by decide +kernel)
set_option maxRecDepth 20000 in
theorem gX4_count_X3_account : GoodIn wsX4_count (wsV RX4 160 RX3 yX3_account wsX3_account) := goodIn_app (goodIn_of _ (by decide +kernel)) ggX4_count_X3_account
theorem dX4_count_0 : decode cX4_count 0 = .ok (.iload_n 1, 1) := by decide +kernel
theorem dX4_count_1 : decode cX4_count 1 = .ok (.ifCond .lt 9, 3) := by decide +kernel
theorem dX4_count_4 : decode cX4_count 4 = .ok (.iload_n 1, 1) := by decide +kernel
theorem dX4_count_5 : decode cX4_count 5 = .ok (.bipush 16, 2) := by decide +kernel
theorem dX4_count_7 : decode cX4_count 7 = .ok (.if_icmp .le 6, 3) := by decide +kernel
theorem dX4_count_10 : decode cX4_count 10 = .ok (.bipush (-2), 2) := by decide +kernel
theorem dX4_count_12 : decode cX4_count 12 = .ok (.ireturn, 1) := by decide +kernel
theorem dX4_count_13 : decode cX4_count 13 = .ok (.iload_n 1, 1) := by decide +kernel
theorem dX4_count_14 : decode cX4_count 14 = .ok (.bipush 15, 2) := by decide +kernel
theorem dX4_count_16 : decode cX4_count 16 = .ok (.if_icmp .ne 11, 3) := by decide +kernel
theorem dX4_count_19 : decode cX4_count 19 = .ok (.aload_n 0, 1) := by decide +kernel
theorem dX4_count_20 : decode cX4_count 20 = .ok (.getfield 25, 3) := by decide +kernel
theorem dX4_count_23 : decode cX4_count 23 = .ok (.invokevirtual 96, 3) := by decide +kernel
theorem dX4_count_26 : decode cX4_count 26 = .ok (.ireturn, 1) := by decide +kernel
theorem dX4_count_27 : decode cX4_count 27 = .ok (.iload_n 1, 1) := by decide +kernel
theorem dX4_count_28 : decode cX4_count 28 = .ok (.bipush 16, 2) := by decide +kernel
theorem dX4_count_30 : decode cX4_count 30 = .ok (.if_icmp .ne 11, 3) := by decide +kernel
theorem dX4_count_33 : decode cX4_count 33 = .ok (.aload_n 0, 1) := by decide +kernel
theorem dX4_count_34 : decode cX4_count 34 = .ok (.getfield 32, 3) := by decide +kernel
theorem dX4_count_37 : decode cX4_count 37 = .ok (.invokevirtual 157, 3) := by decide +kernel
theorem dX4_count_40 : decode cX4_count 40 = .ok (.ireturn, 1) := by decide +kernel
theorem dX4_count_41 : decode cX4_count 41 = .ok (.aload_n 0, 1) := by decide +kernel
theorem dX4_count_42 : decode cX4_count 42 = .ok (.getfield 10, 3) := by decide +kernel
theorem dX4_count_45 : decode cX4_count 45 = .ok (.iload_n 1, 1) := by decide +kernel
theorem dX4_count_46 : decode cX4_count 46 = .ok (.invokevirtual 160, 3) := by decide +kernel
theorem dX4_count_49 : decode cX4_count 49 = .ok (.ireturn, 1) := by decide +kernel
set_option maxRecDepth 20000 in
theorem ggX4_settle_X1_record : GoodIn wsX4_settle wsX1_record := goodIn_r _ [8, 9, 10, 11, 12, 13, 14, 15, 16, 17, 7, 18, 19, 20, 21, 22, 23, 24, 25, 26, 27, 28, 29, 30, 31, 32, 33, 34, 35, 36, 37, 38, 39, 40, 41, 42, 43, 44, 45, 46, 47, 48, 49, 59, 60, 61, 62, 63, 64, 65, 66, 67, 68, 69, 70, 71, 72] (by decide +kernel) (by decide +kernel)
set_option maxRecDepth 20000 in
theorem gX4_settle_X1_record : GoodIn wsX4_settle (wsV RX4 163 RX1 yX1_record wsX1_record) := goodIn_app (goodIn_of _ (by decide +kernel)) ggX4_settle_X1_record
set_option maxRecDepth 20000 in
theorem ggX4_settle_X3_copyFrom : GoodIn wsX4_settle wsX3_copyFrom := goodIn_r _ [24, 25, 26, 27, 28, 29, 30, 31, 32, 33, 34, 35, 36, 37, 12, 13, 14, 38, 39, 40, 41, 42, 43, 44, 45, 46, 47, 48, 49, 62, 63, 64, 65, 66, 67, 68, 69, 70, 71, 72] (by decide +kernel) (by decide +kernel)
set_option maxRecDepth 20000 in
theorem gX4_settle_X3_copyFrom : GoodIn wsX4_settle (wsV RX4 47 RX3 yX3_copyFrom wsX3_copyFrom) := goodIn_app (goodIn_of _ (by decide +kernel)) ggX4_settle_X3_copyFrom
theorem dX4_settle_0 : decode cX4_settle 0 = .ok (.iload_n 1, 1) := by decide +kernel
theorem dX4_settle_1 : decode cX4_settle 1 = .ok (.ifCond .lt 25, 3) := by decide +kernel
theorem dX4_settle_4 : decode cX4_settle 4 = .ok (.aload_n 0, 1) := by decide +kernel
theorem dX4_settle_5 : decode cX4_settle 5 = .ok (.getfield 25, 3) := by decide +kernel
theorem dX4_settle_8 : decode cX4_settle 8 = .ok (.aload_n 0, 1) := by decide +kernel
theorem dX4_settle_9 : decode cX4_settle 9 = .ok (.getfield 10, 3) := by decide +kernel
theorem dX4_settle_12 : decode cX4_settle 12 = .ok (.invokevirtual 163, 3) := by decide +kernel
theorem dX4_settle_15 : decode cX4_settle 15 = .ok (.aload_n 0, 1) := by decide +kernel
theorem dX4_settle_16 : decode cX4_settle 16 = .ok (.getfield 10, 3) := by decide +kernel
theorem dX4_settle_19 : decode cX4_settle 19 = .ok (.aload_n 0, 1) := by decide +kernel
theorem dX4_settle_20 : decode cX4_settle 20 = .ok (.getfield 16, 3) := by decide +kernel
theorem dX4_settle_23 : decode cX4_settle 23 = .ok (.invokevirtual 47, 3) := by decide +kernel
theorem dX4_settle_26 : decode cX4_settle 26 = .ok (.iload_n 1, 1) := by decide +kernel
theorem dX4_settle_27 : decode cX4_settle 27 = .ok (.ireturn, 1) := by decide +kernel
set_option maxRecDepth 20000 in
theorem ggX4_doThing_X0_kind : GoodIn wsX4_doThing wsX0_kind := goodIn_r _ [7, 8, 154, 155, 156, 157, 158, 159, 160] (by decide +kernel) (by decide +kernel)
set_option maxRecDepth 20000 in
theorem gX4_doThing_X0_kind : GoodIn wsX4_doThing (wsV RX4 166 RX0 yX0_kind wsX0_kind) := goodIn_app (goodIn_of _ (by decide +kernel)) ggX4_doThing_X0_kind
set_option maxRecDepth 20000 in
theorem ggX4_doThing_X0_crown : GoodIn wsX4_doThing wsX0_crown := goodIn_r _ [12, 13, 154, 155, 156, 157, 158, 159, 160] (by decide +kernel) (by decide +kernel)
set_option maxRecDepth 20000 in
theorem gX4_doThing_X0_crown : GoodIn wsX4_doThing (wsV RX4 169 RX0 yX0_crown wsX0_crown) := goodIn_app (goodIn_of _ (by decide +kernel)) ggX4_doThing_X0_crown
set_option maxRecDepth 20000 in
theorem ggX4_doThing_X0_age : GoodIn wsX4_doThing wsX0_age := goodIn_r _ [17, 18, 154, 155, 156, 157, 158, 159, 160] (by decide +kernel) (by decide +kernel)
set_option maxRecDepth 20000 in
theorem gX4_doThing_X0_age : GoodIn wsX4_doThing (wsV RX4 172 RX0 yX0_age wsX0_age) := goodIn_app (goodIn_of _ (by decide +kernel)) ggX4_doThing_X0_age
set_option maxRecDepth 20000 in
theorem ggX4_doThing_X0_number : GoodIn wsX4_doThing wsX0_number := goodIn_r _ [22, 23, 154, 155, 156, 157, 158, 159, 160] (by decide +kernel) (by decide +kernel)
set_option maxRecDepth 20000 in
theorem gX4_doThing_X0_number : GoodIn wsX4_doThing (wsV RX4 175 RX0 yX0_number wsX0_number) := goodIn_app (goodIn_of _ (by decide +kernel)) ggX4_doThing_X0_number
set_option maxRecDepth 20000 in
theorem ggX4_doThing_X3_invite : GoodIn wsX4_doThing wsX3_invite := goodIn_r _ [28, 29, 30, 31, 32, 33, 34, 35, 36, 37, 38, 39, 40, 41, 27, 42, 43, 44, 45, 46, 47, 161, 162, 163, 164, 165, 166, 167, 168, 169] (by decide +kernel) (by decide +kernel)
set_option maxRecDepth 20000 in
theorem gX4_doThing_X3_invite : GoodIn wsX4_doThing (wsV RX4 51 RX3 yX3_invite wsX3_invite) := goodIn_app (goodIn_of _ (by decide +kernel)) ggX4_doThing_X3_invite
set_option maxRecDepth 20000 in
theorem ggX4_doThing_X3_dismiss : GoodIn wsX4_doThing wsX3_dismiss := goodIn_r _ [51, 52, 53, 44, 45, 46, 27, 47, 30, 54, 55, 56, 57, 43, 58, 59, 60, 61, 62, 63, 64, 65, 66, 67, 68, 39, 40, 41, 42, 161, 162, 163, 164, 165, 166, 167, 168, 169, 170, 171] (by decide +kernel) (by decide +kernel)
set_option maxRecDepth 20000 in
theorem gX4_doThing_X3_dismiss : GoodIn wsX4_doThing (wsV RX4 59 RX3 yX3_dismiss wsX3_dismiss) := goodIn_app (goodIn_of _ (by decide +kernel)) ggX4_doThing_X3_dismiss
set_option maxRecDepth 20000 in
theorem ggX4_doThing_X3_letPass : GoodIn wsX4_doThing wsX3_letPass := goodIn_r _ [72, 29, 73, 74, 75, 76, 77, 27, 78, 30, 53, 79, 80, 81, 82, 54, 55, 56, 57, 43, 44, 45, 46, 47, 83, 84, 85, 86, 31, 87, 88, 89, 61, 90, 63, 64, 39, 40, 41, 42, 91, 92, 93, 94, 52, 95, 96, 97, 98, 99, 100, 101, 102, 103, 104, 105, 106, 107, 58, 59, 60, 62, 65, 66, 67, 68, 108, 109, 110, 111, 112, 113, 114, 115, 116, 117, 118, 119, 120, 121, 122, 123, 124, 125, 126, 127, 128, 129, 130, 131, 132, 133, 134, 135, 136, 137, 138, 139, 140, 141, 142, 143, 144, 145, 161, 162, 163, 164, 165, 166, 167, 168, 169, 170, 171] (by decide +kernel) (by decide +kernel)
set_option maxRecDepth 20000 in
theorem gX4_doThing_X3_letPass : GoodIn wsX4_doThing (wsV RX4 69 RX3 yX3_letPass wsX3_letPass) := goodIn_app (goodIn_of _ (by decide +kernel)) ggX4_doThing_X3_letPass
theorem dX4_doThing_0 : decode cX4_doThing 0 = .ok (.aload_n 0, 1) := by decide +kernel
theorem dX4_doThing_1 : decode cX4_doThing 1 = .ok (.getfield 32, 3) := by decide +kernel
theorem dX4_doThing_4 : decode cX4_doThing 4 = .ok (.invokevirtual 166, 3) := by decide +kernel
theorem dX4_doThing_7 : decode cX4_doThing 7 = .ok (.lookupswitch 69 #[(107, 25), (108, 54)], 25) := by decide +kernel
theorem dX4_doThing_32 : decode cX4_doThing 32 = .ok (.aload_n 0, 1) := by decide +kernel
theorem dX4_doThing_33 : decode cX4_doThing 33 = .ok (.getfield 16, 3) := by decide +kernel
theorem dX4_doThing_36 : decode cX4_doThing 36 = .ok (.aload_n 0, 1) := by decide +kernel
theorem dX4_doThing_37 : decode cX4_doThing 37 = .ok (.getfield 32, 3) := by decide +kernel
theorem dX4_doThing_40 : decode cX4_doThing 40 = .ok (.invokevirtual 169, 3) := by decide +kernel
theorem dX4_doThing_43 : decode cX4_doThing 43 = .ok (.aload_n 0, 1) := by decide +kernel
theorem dX4_doThing_44 : decode cX4_doThing 44 = .ok (.getfield 32, 3) := by decide +kernel
theorem dX4_doThing_47 : decode cX4_doThing 47 = .ok (.invokevirtual 172, 3) := by decide +kernel
theorem dX4_doThing_50 : decode cX4_doThing 50 = .ok (.aload_n 0, 1) := by decide +kernel
theorem dX4_doThing_51 : decode cX4_doThing 51 = .ok (.getfield 32, 3) := by decide +kernel
theorem dX4_doThing_54 : decode cX4_doThing 54 = .ok (.invokevirtual 175, 3) := by decide +kernel
theorem dX4_doThing_57 : decode cX4_doThing 57 = .ok (.invokevirtual 51, 3) := by decide +kernel
theorem dX4_doThing_60 : decode cX4_doThing 60 = .ok (.ireturn, 1) := by decide +kernel
theorem dX4_doThing_61 : decode cX4_doThing 61 = .ok (.aload_n 0, 1) := by decide +kernel
theorem dX4_doThing_62 : decode cX4_doThing 62 = .ok (.getfield 16, 3) := by decide +kernel
theorem dX4_doThing_65 : decode cX4_doThing 65 = .ok (.aload_n 0, 1) := by decide +kernel
theorem dX4_doThing_66 : decode cX4_doThing 66 = .ok (.getfield 32, 3) := by decide +kernel
theorem dX4_doThing_69 : decode cX4_doThing 69 = .ok (.invokevirtual 175, 3) := by decide +kernel
theorem dX4_doThing_72 : decode cX4_doThing 72 = .ok (.invokevirtual 59, 3) := by decide +kernel
theorem dX4_doThing_75 : decode cX4_doThing 75 = .ok (.ireturn, 1) := by decide +kernel
theorem dX4_doThing_76 : decode cX4_doThing 76 = .ok (.aload_n 0, 1) := by decide +kernel
theorem dX4_doThing_77 : decode cX4_doThing 77 = .ok (.getfield 16, 3) := by decide +kernel
theorem dX4_doThing_80 : decode cX4_doThing 80 = .ok (.aload_n 0, 1) := by decide +kernel
theorem dX4_doThing_81 : decode cX4_doThing 81 = .ok (.getfield 32, 3) := by decide +kernel
theorem dX4_doThing_84 : decode cX4_doThing 84 = .ok (.invokevirtual 175, 3) := by decide +kernel
theorem dX4_doThing_87 : decode cX4_doThing 87 = .ok (.invokevirtual 69, 3) := by decide +kernel
theorem dX4_doThing_90 : decode cX4_doThing 90 = .ok (.ireturn, 1) := by decide +kernel
theorem dX4_isCrown_0 : decode cX4_isCrown 0 = .ok (.iload_n 0, 1) := by decide +kernel
theorem dX4_isCrown_1 : decode cX4_isCrown 1 = .ok (.iconst 1, 1) := by decide +kernel
theorem dX4_isCrown_2 : decode cX4_isCrown 2 = .ok (.if_icmp .lt 13, 3) := by decide +kernel
theorem dX4_isCrown_5 : decode cX4_isCrown 5 = .ok (.iload_n 0, 1) := by decide +kernel
theorem dX4_isCrown_6 : decode cX4_isCrown 6 = .ok (.bipush 9, 2) := by decide +kernel
theorem dX4_isCrown_8 : decode cX4_isCrown 8 = .ok (.if_icmp .gt 7, 3) := by decide +kernel
theorem dX4_isCrown_11 : decode cX4_isCrown 11 = .ok (.iconst 1, 1) := by decide +kernel
theorem dX4_isCrown_12 : decode cX4_isCrown 12 = .ok (.goto 4, 3) := by decide +kernel
theorem dX4_isCrown_15 : decode cX4_isCrown 15 = .ok (.iconst 0, 1) := by decide +kernel
theorem dX4_isCrown_16 : decode cX4_isCrown 16 = .ok (.ireturn, 1) := by decide +kernel
theorem dX4_isAge_0 : decode cX4_isAge 0 = .ok (.iload_n 0, 1) := by decide +kernel
theorem dX4_isAge_1 : decode cX4_isAge 1 = .ok (.ifCond .lt 13, 3) := by decide +kernel
theorem dX4_isAge_4 : decode cX4_isAge 4 = .ok (.iload_n 0, 1) := by decide +kernel
theorem dX4_isAge_5 : decode cX4_isAge 5 = .ok (.bipush 120, 2) := by decide +kernel
theorem dX4_isAge_7 : decode cX4_isAge 7 = .ok (.if_icmp .gt 7, 3) := by decide +kernel
theorem dX4_isAge_10 : decode cX4_isAge 10 = .ok (.iconst 1, 1) := by decide +kernel
theorem dX4_isAge_11 : decode cX4_isAge 11 = .ok (.goto 4, 3) := by decide +kernel
theorem dX4_isAge_14 : decode cX4_isAge 14 = .ok (.iconst 0, 1) := by decide +kernel
theorem dX4_isAge_15 : decode cX4_isAge 15 = .ok (.ireturn, 1) := by decide +kernel
theorem dX4_worthOf_0 : decode cX4_worthOf 0 = .ok (.iload_n 0, 1) := by decide +kernel
theorem dX4_worthOf_1 : decode cX4_worthOf 1 = .ok (.bipush 121, 2) := by decide +kernel
theorem dX4_worthOf_3 : decode cX4_worthOf 3 = .ok (.imul, 1) := by decide +kernel
theorem dX4_worthOf_4 : decode cX4_worthOf 4 = .ok (.iload_n 1, 1) := by decide +kernel
theorem dX4_worthOf_5 : decode cX4_worthOf 5 = .ok (.iadd, 1) := by decide +kernel
theorem dX4_worthOf_6 : decode cX4_worthOf 6 = .ok (.bipush 25, 2) := by decide +kernel
theorem dX4_worthOf_8 : decode cX4_worthOf 8 = .ok (.imul, 1) := by decide +kernel
theorem dX4_worthOf_9 : decode cX4_worthOf 9 = .ok (.bipush 24, 2) := by decide +kernel
theorem dX4_worthOf_11 : decode cX4_worthOf 11 = .ok (.iadd, 1) := by decide +kernel
theorem dX4_worthOf_12 : decode cX4_worthOf 12 = .ok (.iload_n 2, 1) := by decide +kernel
theorem dX4_worthOf_13 : decode cX4_worthOf 13 = .ok (.isub, 1) := by decide +kernel
theorem dX4_worthOf_14 : decode cX4_worthOf 14 = .ok (.ireturn, 1) := by decide +kernel
theorem dX4_copyNumbers_0 : decode cX4_copyNumbers 0 = .ok (.aload_n 0, 1) := by decide +kernel
theorem dX4_copyNumbers_1 : decode cX4_copyNumbers 1 = .ok (.iconst 0, 1) := by decide +kernel
theorem dX4_copyNumbers_2 : decode cX4_copyNumbers 2 = .ok (.aload_n 1, 1) := by decide +kernel
theorem dX4_copyNumbers_3 : decode cX4_copyNumbers 3 = .ok (.iconst 0, 1) := by decide +kernel
theorem dX4_copyNumbers_4 : decode cX4_copyNumbers 4 = .ok (.aload_n 0, 1) := by decide +kernel
theorem dX4_copyNumbers_5 : decode cX4_copyNumbers 5 = .ok (.arraylength, 1) := by decide +kernel
theorem dX4_copyNumbers_6 : decode cX4_copyNumbers 6 = .ok (.aload_n 1, 1) := by decide +kernel
theorem dX4_copyNumbers_7 : decode cX4_copyNumbers 7 = .ok (.arraylength, 1) := by decide +kernel
theorem dX4_copyNumbers_8 : decode cX4_copyNumbers 8 = .ok (.invokestatic 178, 3) := by decide +kernel
theorem dX4_copyNumbers_11 : decode cX4_copyNumbers 11 = .ok (.invokestatic 183, 3) := by decide +kernel
theorem dX4_copyNumbers_14 : decode cX4_copyNumbers 14 = .ok (.return_, 1) := by decide +kernel
theorem dJ9_max_7cf53_0 : decode cJ9_max_7cf53 0 = .ok (.iload_n 0, 1) := by decide +kernel
theorem dJ9_max_7cf53_1 : decode cJ9_max_7cf53 1 = .ok (.iload_n 1, 1) := by decide +kernel
theorem dJ9_max_7cf53_2 : decode cJ9_max_7cf53 2 = .ok (.if_icmp .lt 7, 3) := by decide +kernel
theorem dJ9_max_7cf53_5 : decode cJ9_max_7cf53 5 = .ok (.iload_n 0, 1) := by decide +kernel
theorem dJ9_max_7cf53_6 : decode cJ9_max_7cf53 6 = .ok (.goto 4, 3) := by decide +kernel
theorem dJ9_max_7cf53_9 : decode cJ9_max_7cf53 9 = .ok (.iload_n 1, 1) := by decide +kernel
theorem dJ9_max_7cf53_10 : decode cJ9_max_7cf53 10 = .ok (.ireturn, 1) := by decide +kernel
theorem dJ9_min_7cf53_0 : decode cJ9_min_7cf53 0 = .ok (.iload_n 0, 1) := by decide +kernel
theorem dJ9_min_7cf53_1 : decode cJ9_min_7cf53 1 = .ok (.iload_n 1, 1) := by decide +kernel
theorem dJ9_min_7cf53_2 : decode cJ9_min_7cf53 2 = .ok (.if_icmp .gt 7, 3) := by decide +kernel
theorem dJ9_min_7cf53_5 : decode cJ9_min_7cf53 5 = .ok (.iload_n 0, 1) := by decide +kernel
theorem dJ9_min_7cf53_6 : decode cJ9_min_7cf53 6 = .ok (.goto 4, 3) := by decide +kernel
theorem dJ9_min_7cf53_9 : decode cJ9_min_7cf53 9 = .ok (.iload_n 1, 1) := by decide +kernel
theorem dJ9_min_7cf53_10 : decode cJ9_min_7cf53 10 = .ok (.ireturn, 1) := by decide +kernel
