set_option maxRecDepth 20000 in
theorem ggX5_leave_X5_keeps : GoodIn wsX5_leave wsX5_keeps := goodIn_r _ [5, 6, 7, 49, 50, 51, 52, 53, 54, 55, 56, 57, 58, 59, 60, 61, 62, 63, 64, 65, 66] (by decide +kernel) (by decide +kernel)
set_option maxRecDepth 20000 in
theorem gX5_leave_X5_keeps : GoodIn wsX5_leave (wsV RX5 117 RX5 yX5_keeps wsX5_keeps) := goodIn_app (goodIn_of _ (by decide +kernel)) ggX5_leave_X5_keeps
set_option maxRecDepth 20000 in
theorem ggX5_leave_X5_doLeave : GoodIn wsX5_leave wsX5_doLeave := goodIn_r _ [11, 12, 13, 14, 4, 15, 7, 16, 17, 18, 19, 20, 21, 22, 23, 24, 25, 26, 27, 28, 29, 30, 31, 32, 33, 34, 35, 36, 37, 38, 39, 40, 41, 42, 49, 50, 51, 52, 53, 54, 55, 56, 57, 58, 59, 60, 61, 62, 63, 64, 65, 66] (by decide +kernel) (by decide +kernel)
set_option maxRecDepth 20000 in
theorem gX5_leave_X5_doLeave : GoodIn wsX5_leave (wsV RX5 126 RX5 yX5_doLeave wsX5_doLeave) := goodIn_app (goodIn_of _ (by decide +kernel)) ggX5_leave_X5_doLeave
set_option maxRecDepth 20000 in
theorem ggX5_leave_X5_ends : GoodIn wsX5_leave wsX5_ends := goodIn_r _ [46, 7, 6, 47, 48, 49, 50, 51, 52, 53, 54, 55, 56, 57, 58, 59, 60, 61, 62, 63, 64, 65, 66] (by decide +kernel) (by decide +kernel)
set_option maxRecDepth 20000 in
theorem gX5_leave_X5_ends : GoodIn wsX5_leave (wsV RX5 123 RX5 yX5_ends wsX5_ends) := goodIn_app (goodIn_of _ (by decide +kernel)) ggX5_leave_X5_ends
theorem dX5_leave_0 : decode cX5_leave 0 = .ok (.aload_n 0, 1) := by decide +kernel
theorem dX5_leave_1 : decode cX5_leave 1 = .ok (.invokevirtual 117, 3) := by decide +kernel
theorem dX5_leave_4 : decode cX5_leave 4 = .ok (.aload_n 0, 1) := by decide +kernel
theorem dX5_leave_5 : decode cX5_leave 5 = .ok (.aload_n 0, 1) := by decide +kernel
theorem dX5_leave_6 : decode cX5_leave 6 = .ok (.iload_n 1, 1) := by decide +kernel
theorem dX5_leave_7 : decode cX5_leave 7 = .ok (.invokevirtual 126, 3) := by decide +kernel
theorem dX5_leave_10 : decode cX5_leave 10 = .ok (.invokevirtual 123, 3) := by decide +kernel
theorem dX5_leave_13 : decode cX5_leave 13 = .ok (.ireturn, 1) := by decide +kernel
set_option maxRecDepth 20000 in
theorem ggX5_send_X5_in : GoodIn wsX5_send wsX5_in := goodIn_r _ [6] (by decide +kernel) (by decide +kernel)
set_option maxRecDepth 20000 in
theorem gX5_send_X5_in : GoodIn wsX5_send (va_wsS RX5 35 yX5_in wsX5_in) := goodIn_app (goodIn_of _ (by decide +kernel)) ggX5_send_X5_in
set_option maxRecDepth 20000 in
theorem ggX5_send_X5_isWrong : GoodIn wsX5_send wsX5_isWrong := goodIn_r _ [10, 1, 11, 12, 13, 5, 14, 15, 16, 17, 18, 34, 35, 36, 37, 38, 39, 40, 41, 42, 43, 44, 45, 46, 47, 48, 49, 50, 51] (by decide +kernel) (by decide +kernel)
set_option maxRecDepth 20000 in
theorem gX5_send_X5_isWrong : GoodIn wsX5_send (wsV RX5 51 RX5 yX5_isWrong wsX5_isWrong) := goodIn_app (goodIn_of _ (by decide +kernel)) ggX5_send_X5_isWrong
set_option maxRecDepth 20000 in
theorem ggX5_send_X5_keeps : GoodIn wsX5_send wsX5_keeps := goodIn_r _ [22, 23, 1, 34, 35, 36, 37, 38, 39, 40, 41, 42, 43, 44, 45, 46, 47, 48, 49, 50, 51] (by decide +kernel) (by decide +kernel)
set_option maxRecDepth 20000 in
theorem gX5_send_X5_keeps : GoodIn wsX5_send (wsV RX5 117 RX5 yX5_keeps wsX5_keeps) := goodIn_app (goodIn_of _ (by decide +kernel)) ggX5_send_X5_keeps
set_option maxRecDepth 20000 in
theorem ggX5_send_X5_swaps : GoodIn wsX5_send wsX5_swaps := goodIn_r _ [27, 1, 34, 35, 36, 37, 38, 39, 40, 41, 42, 43, 44, 45, 46, 47, 48, 49, 50, 51] (by decide +kernel) (by decide +kernel)
set_option maxRecDepth 20000 in
theorem gX5_send_X5_swaps : GoodIn wsX5_send (wsV RX5 59 RX5 yX5_swaps wsX5_swaps) := goodIn_app (goodIn_of _ (by decide +kernel)) ggX5_send_X5_swaps
set_option maxRecDepth 20000 in
theorem ggX5_send_X5_ends : GoodIn wsX5_send wsX5_ends := goodIn_r _ [31, 1, 23, 32, 33, 34, 35, 36, 37, 38, 39, 40, 41, 42, 43, 44, 45, 46, 47, 48, 49, 50, 51] (by decide +kernel) (by decide +kernel)
set_option maxRecDepth 20000 in
theorem gX5_send_X5_ends : GoodIn wsX5_send (wsV RX5 123 RX5 yX5_ends wsX5_ends) := goodIn_app (goodIn_of _ (by decide +kernel)) ggX5_send_X5_ends
theorem dX5_send_0 : decode cX5_send 0 = .ok (.iload_n 1, 1) := by decide +kernel
theorem dX5_send_1 : decode cX5_send 1 = .ok (.i2l, 1) := by decide +kernel
theorem dX5_send_2 : decode cX5_send 2 = .ok (.lconst 0, 1) := by decide +kernel
theorem dX5_send_3 : decode cX5_send 3 = .ok (.aload_n 0, 1) := by decide +kernel
theorem dX5_send_4 : decode cX5_send 4 = .ok (.getfield 7, 3) := by decide +kernel
theorem dX5_send_7 : decode cX5_send 7 = .ok (.bipush 11, 2) := by decide +kernel
theorem dX5_send_9 : decode cX5_send 9 = .ok (.iaload, 1) := by decide +kernel
theorem dX5_send_10 : decode cX5_send 10 = .ok (.i2l, 1) := by decide +kernel
theorem dX5_send_11 : decode cX5_send 11 = .ok (.ldc2_w 129, 3) := by decide +kernel
theorem dX5_send_14 : decode cX5_send 14 = .ok (.lsub, 1) := by decide +kernel
theorem dX5_send_15 : decode cX5_send 15 = .ok (.invokestatic 35, 3) := by decide +kernel
theorem dX5_send_18 : decode cX5_send 18 = .ok (.ifCond .ne 5, 3) := by decide +kernel
theorem dX5_send_21 : decode cX5_send 21 = .ok (.iconst (-1), 1) := by decide +kernel
theorem dX5_send_22 : decode cX5_send 22 = .ok (.ireturn, 1) := by decide +kernel
theorem dX5_send_23 : decode cX5_send 23 = .ok (.aload_n 0, 1) := by decide +kernel
theorem dX5_send_24 : decode cX5_send 24 = .ok (.iload_n 1, 1) := by decide +kernel
theorem dX5_send_25 : decode cX5_send 25 = .ok (.invokevirtual 51, 3) := by decide +kernel
theorem dX5_send_28 : decode cX5_send 28 = .ok (.ifCond .ne 6, 3) := by decide +kernel
theorem dX5_send_31 : decode cX5_send 31 = .ok (.bipush (-4), 2) := by decide +kernel
theorem dX5_send_33 : decode cX5_send 33 = .ok (.ireturn, 1) := by decide +kernel
theorem dX5_send_34 : decode cX5_send 34 = .ok (.aload_n 0, 1) := by decide +kernel
theorem dX5_send_35 : decode cX5_send 35 = .ok (.invokevirtual 117, 3) := by decide +kernel
theorem dX5_send_38 : decode cX5_send 38 = .ok (.aload_n 0, 1) := by decide +kernel
theorem dX5_send_39 : decode cX5_send 39 = .ok (.iload_n 1, 1) := by decide +kernel
theorem dX5_send_40 : decode cX5_send 40 = .ok (.invokevirtual 59, 3) := by decide +kernel
theorem dX5_send_43 : decode cX5_send 43 = .ok (.aload_n 0, 1) := by decide +kernel
theorem dX5_send_44 : decode cX5_send 44 = .ok (.getfield 7, 3) := by decide +kernel
theorem dX5_send_47 : decode cX5_send 47 = .ok (.bipush 10, 2) := by decide +kernel
theorem dX5_send_49 : decode cX5_send 49 = .ok (.dup2, 1) := by decide +kernel
theorem dX5_send_50 : decode cX5_send 50 = .ok (.iaload, 1) := by decide +kernel
theorem dX5_send_51 : decode cX5_send 51 = .ok (.iconst 1, 1) := by decide +kernel
theorem dX5_send_52 : decode cX5_send 52 = .ok (.iadd, 1) := by decide +kernel
theorem dX5_send_53 : decode cX5_send 53 = .ok (.iastore, 1) := by decide +kernel
theorem dX5_send_54 : decode cX5_send 54 = .ok (.aload_n 0, 1) := by decide +kernel
theorem dX5_send_55 : decode cX5_send 55 = .ok (.aload_n 0, 1) := by decide +kernel
theorem dX5_send_56 : decode cX5_send 56 = .ok (.getfield 7, 3) := by decide +kernel
theorem dX5_send_59 : decode cX5_send 59 = .ok (.bipush 12, 2) := by decide +kernel
theorem dX5_send_61 : decode cX5_send 61 = .ok (.iload_n 1, 1) := by decide +kernel
theorem dX5_send_62 : decode cX5_send 62 = .ok (.iadd, 1) := by decide +kernel
theorem dX5_send_63 : decode cX5_send 63 = .ok (.iaload, 1) := by decide +kernel
theorem dX5_send_64 : decode cX5_send 64 = .ok (.invokevirtual 123, 3) := by decide +kernel
theorem dX5_send_67 : decode cX5_send 67 = .ok (.ireturn, 1) := by decide +kernel
set_option maxRecDepth 20000 in
theorem ggX5_isRight_X5_in : GoodIn wsX5_isRight wsX5_in := goodIn_r _ [7] (by decide +kernel) (by decide +kernel)
set_option maxRecDepth 20000 in
theorem gX5_isRight_X5_in : GoodIn wsX5_isRight (va_wsS RX5 35 yX5_in wsX5_in) := goodIn_app (goodIn_of _ (by decide +kernel)) ggX5_isRight_X5_in
theorem dX5_isRight_0 : decode cX5_isRight 0 = .ok (.iload_n 1, 1) := by decide +kernel
theorem dX5_isRight_1 : decode cX5_isRight 1 = .ok (.i2l, 1) := by decide +kernel
theorem dX5_isRight_2 : decode cX5_isRight 2 = .ok (.iload_n 0, 1) := by decide +kernel
theorem dX5_isRight_3 : decode cX5_isRight 3 = .ok (.iconst 2, 1) := by decide +kernel
theorem dX5_isRight_4 : decode cX5_isRight 4 = .ok (.if_icmp .ne 7, 3) := by decide +kernel
theorem dX5_isRight_7 : decode cX5_isRight 7 = .ok (.lconst 0, 1) := by decide +kernel
theorem dX5_isRight_8 : decode cX5_isRight 8 = .ok (.goto 4, 3) := by decide +kernel
theorem dX5_isRight_11 : decode cX5_isRight 11 = .ok (.lconst 1, 1) := by decide +kernel
theorem dX5_isRight_12 : decode cX5_isRight 12 = .ok (.iload_n 0, 1) := by decide +kernel
theorem dX5_isRight_13 : decode cX5_isRight 13 = .ok (.ifCond .ne 9, 3) := by decide +kernel
theorem dX5_isRight_16 : decode cX5_isRight 16 = .ok (.ldc2_w 131, 3) := by decide +kernel
theorem dX5_isRight_19 : decode cX5_isRight 19 = .ok (.goto 17, 3) := by decide +kernel
theorem dX5_isRight_22 : decode cX5_isRight 22 = .ok (.iload_n 0, 1) := by decide +kernel
theorem dX5_isRight_23 : decode cX5_isRight 23 = .ok (.iconst 1, 1) := by decide +kernel
theorem dX5_isRight_24 : decode cX5_isRight 24 = .ok (.if_icmp .ne 9, 3) := by decide +kernel
theorem dX5_isRight_27 : decode cX5_isRight 27 = .ok (.ldc2_w 133, 3) := by decide +kernel
theorem dX5_isRight_30 : decode cX5_isRight 30 = .ok (.goto 6, 3) := by decide +kernel
theorem dX5_isRight_33 : decode cX5_isRight 33 = .ok (.ldc2_w 95, 3) := by decide +kernel
theorem dX5_isRight_36 : decode cX5_isRight 36 = .ok (.invokestatic 35, 3) := by decide +kernel
theorem dX5_isRight_39 : decode cX5_isRight 39 = .ok (.ireturn, 1) := by decide +kernel
set_option maxRecDepth 20000 in
theorem ggX5_set_X5_in : GoodIn wsX5_set wsX5_in := goodIn_r _ [6] (by decide +kernel) (by decide +kernel)
set_option maxRecDepth 20000 in
theorem gX5_set_X5_in : GoodIn wsX5_set (va_wsS RX5 35 yX5_in wsX5_in) := goodIn_app (goodIn_of _ (by decide +kernel)) ggX5_set_X5_in
set_option maxRecDepth 20000 in
theorem ggX5_set_X5_isRight : GoodIn wsX5_set wsX5_isRight := goodIn_r _ [9, 10, 11, 12, 3, 4, 5, 6] (by decide +kernel) (by decide +kernel)
set_option maxRecDepth 20000 in
theorem gX5_set_X5_isRight : GoodIn wsX5_set (va_wsS RX5 137 yX5_isRight wsX5_isRight) := goodIn_app (goodIn_of _ (by decide +kernel)) ggX5_set_X5_isRight
set_option maxRecDepth 20000 in
theorem ggX5_set_X5_keeps : GoodIn wsX5_set wsX5_keeps := goodIn_r _ [16, 17, 2, 24, 25, 26, 27, 28, 29, 30, 31, 32, 33, 34, 35, 36, 37, 38, 39, 40, 41] (by decide +kernel) (by decide +kernel)
set_option maxRecDepth 20000 in
theorem gX5_set_X5_keeps : GoodIn wsX5_set (wsV RX5 117 RX5 yX5_keeps wsX5_keeps) := goodIn_app (goodIn_of _ (by decide +kernel)) ggX5_set_X5_keeps
set_option maxRecDepth 20000 in
theorem ggX5_set_X5_ends : GoodIn wsX5_set wsX5_ends := goodIn_r _ [21, 2, 17, 22, 23, 24, 25, 26, 27, 28, 29, 30, 31, 32, 33, 34, 35, 36, 37, 38, 39, 40, 41] (by decide +kernel) (by decide +kernel)
set_option maxRecDepth 20000 in
theorem gX5_set_X5_ends : GoodIn wsX5_set (wsV RX5 123 RX5 yX5_ends wsX5_ends) := goodIn_app (goodIn_of _ (by decide +kernel)) ggX5_set_X5_ends
theorem dX5_set_0 : decode cX5_set 0 = .ok (.iload_n 1, 1) := by decide +kernel
theorem dX5_set_1 : decode cX5_set 1 = .ok (.i2l, 1) := by decide +kernel
theorem dX5_set_2 : decode cX5_set 2 = .ok (.lconst 0, 1) := by decide +kernel
theorem dX5_set_3 : decode cX5_set 3 = .ok (.ldc2_w 135, 3) := by decide +kernel
theorem dX5_set_6 : decode cX5_set 6 = .ok (.invokestatic 35, 3) := by decide +kernel
theorem dX5_set_9 : decode cX5_set 9 = .ok (.ifCond .ne 5, 3) := by decide +kernel
theorem dX5_set_12 : decode cX5_set 12 = .ok (.iconst (-1), 1) := by decide +kernel
theorem dX5_set_13 : decode cX5_set 13 = .ok (.ireturn, 1) := by decide +kernel
theorem dX5_set_14 : decode cX5_set 14 = .ok (.iload_n 1, 1) := by decide +kernel
theorem dX5_set_15 : decode cX5_set 15 = .ok (.iload_n 2, 1) := by decide +kernel
theorem dX5_set_16 : decode cX5_set 16 = .ok (.invokestatic 137, 3) := by decide +kernel
theorem dX5_set_19 : decode cX5_set 19 = .ok (.ifCond .ne 6, 3) := by decide +kernel
theorem dX5_set_22 : decode cX5_set 22 = .ok (.bipush (-2), 2) := by decide +kernel
theorem dX5_set_24 : decode cX5_set 24 = .ok (.ireturn, 1) := by decide +kernel
theorem dX5_set_25 : decode cX5_set 25 = .ok (.iload_n 1, 1) := by decide +kernel
theorem dX5_set_26 : decode cX5_set 26 = .ok (.ifCond .ne 17, 3) := by decide +kernel
theorem dX5_set_29 : decode cX5_set 29 = .ok (.aload_n 0, 1) := by decide +kernel
theorem dX5_set_30 : decode cX5_set 30 = .ok (.getfield 7, 3) := by decide +kernel
theorem dX5_set_33 : decode cX5_set 33 = .ok (.bipush 11, 2) := by decide +kernel
theorem dX5_set_35 : decode cX5_set 35 = .ok (.iaload, 1) := by decide +kernel
theorem dX5_set_36 : decode cX5_set 36 = .ok (.iload_n 2, 1) := by decide +kernel
theorem dX5_set_37 : decode cX5_set 37 = .ok (.if_icmp .le 6, 3) := by decide +kernel
theorem dX5_set_40 : decode cX5_set 40 = .ok (.bipush (-4), 2) := by decide +kernel
theorem dX5_set_42 : decode cX5_set 42 = .ok (.ireturn, 1) := by decide +kernel
theorem dX5_set_43 : decode cX5_set 43 = .ok (.aload_n 0, 1) := by decide +kernel
theorem dX5_set_44 : decode cX5_set 44 = .ok (.getfield 7, 3) := by decide +kernel
theorem dX5_set_47 : decode cX5_set 47 = .ok (.iload_n 1, 1) := by decide +kernel
theorem dX5_set_48 : decode cX5_set 48 = .ok (.iaload, 1) := by decide +kernel
theorem dX5_set_49 : decode cX5_set 49 = .ok (.iload_n 2, 1) := by decide +kernel
theorem dX5_set_50 : decode cX5_set 50 = .ok (.if_icmp .ne 6, 3) := by decide +kernel
theorem dX5_set_53 : decode cX5_set 53 = .ok (.bipush (-5), 2) := by decide +kernel
theorem dX5_set_55 : decode cX5_set 55 = .ok (.ireturn, 1) := by decide +kernel
theorem dX5_set_56 : decode cX5_set 56 = .ok (.aload_n 0, 1) := by decide +kernel
theorem dX5_set_57 : decode cX5_set 57 = .ok (.invokevirtual 117, 3) := by decide +kernel
theorem dX5_set_60 : decode cX5_set 60 = .ok (.aload_n 0, 1) := by decide +kernel
theorem dX5_set_61 : decode cX5_set 61 = .ok (.getfield 7, 3) := by decide +kernel
theorem dX5_set_64 : decode cX5_set 64 = .ok (.iload_n 1, 1) := by decide +kernel
theorem dX5_set_65 : decode cX5_set 65 = .ok (.iaload, 1) := by decide +kernel
theorem dX5_set_66 : decode cX5_set 66 = .ok (.istore_n 3, 1) := by decide +kernel
theorem dX5_set_67 : decode cX5_set 67 = .ok (.aload_n 0, 1) := by decide +kernel
theorem dX5_set_68 : decode cX5_set 68 = .ok (.getfield 7, 3) := by decide +kernel
theorem dX5_set_71 : decode cX5_set 71 = .ok (.iload_n 1, 1) := by decide +kernel
theorem dX5_set_72 : decode cX5_set 72 = .ok (.iload_n 2, 1) := by decide +kernel
theorem dX5_set_73 : decode cX5_set 73 = .ok (.iastore, 1) := by decide +kernel
theorem dX5_set_74 : decode cX5_set 74 = .ok (.aload_n 0, 1) := by decide +kernel
theorem dX5_set_75 : decode cX5_set 75 = .ok (.iload_n 3, 1) := by decide +kernel
theorem dX5_set_76 : decode cX5_set 76 = .ok (.invokevirtual 123, 3) := by decide +kernel
theorem dX5_set_79 : decode cX5_set 79 = .ok (.ireturn, 1) := by decide +kernel
set_option maxRecDepth 20000 in
theorem ggX5_pass_X5_keeps : GoodIn wsX5_pass wsX5_keeps := goodIn_r _ [5, 6, 7, 88, 89, 90, 91, 92, 93, 94, 95, 96, 97, 98, 99, 100, 101, 102, 103, 104, 105] (by decide +kernel) (by decide +kernel)
set_option maxRecDepth 20000 in
theorem gX5_pass_X5_keeps : GoodIn wsX5_pass (wsV RX5 117 RX5 yX5_keeps wsX5_keeps) := goodIn_app (goodIn_of _ (by decide +kernel)) ggX5_pass_X5_keeps
set_option maxRecDepth 20000 in
theorem ggX5_pass_X5_doPass : GoodIn wsX5_pass wsX5_doPass := goodIn_r _ [11, 12, 7, 13, 14, 15, 4, 16, 17, 18, 19, 20, 21, 22, 23, 24, 25, 26, 27, 28, 29, 30, 31, 32, 33, 34, 35, 36, 37, 38, 39, 40, 41, 42, 43, 44, 45, 46, 47, 48, 49, 50, 51, 52, 53, 54, 55, 56, 57, 58, 59, 60, 61, 62, 63, 64, 65, 66, 67, 68, 69, 70, 71, 72, 73, 74, 75, 76, 77, 78, 79, 80, 81, 88, 89, 90, 91, 92, 93, 94, 95, 96, 97, 98, 99, 100, 101, 102, 103, 104, 105] (by decide +kernel) (by decide +kernel)
set_option maxRecDepth 20000 in
theorem gX5_pass_X5_doPass : GoodIn wsX5_pass (wsV RX5 140 RX5 yX5_doPass wsX5_doPass) := goodIn_app (goodIn_of _ (by decide +kernel)) ggX5_pass_X5_doPass
set_option maxRecDepth 20000 in
theorem ggX5_pass_X5_ends : GoodIn wsX5_pass wsX5_ends := goodIn_r _ [85, 7, 6, 86, 87, 88, 89, 90, 91, 92, 93, 94, 95, 96, 97, 98, 99, 100, 101, 102, 103, 104, 105] (by decide +kernel) (by decide +kernel)
set_option maxRecDepth 20000 in
theorem gX5_pass_X5_ends : GoodIn wsX5_pass (wsV RX5 123 RX5 yX5_ends wsX5_ends) := goodIn_app (goodIn_of _ (by decide +kernel)) ggX5_pass_X5_ends
theorem dX5_pass_0 : decode cX5_pass 0 = .ok (.aload_n 0, 1) := by decide +kernel
theorem dX5_pass_1 : decode cX5_pass 1 = .ok (.invokevirtual 117, 3) := by decide +kernel
theorem dX5_pass_4 : decode cX5_pass 4 = .ok (.aload_n 0, 1) := by decide +kernel
theorem dX5_pass_5 : decode cX5_pass 5 = .ok (.aload_n 0, 1) := by decide +kernel
theorem dX5_pass_6 : decode cX5_pass 6 = .ok (.iload_n 1, 1) := by decide +kernel
theorem dX5_pass_7 : decode cX5_pass 7 = .ok (.invokevirtual 140, 3) := by decide +kernel
theorem dX5_pass_10 : decode cX5_pass 10 = .ok (.invokevirtual 123, 3) := by decide +kernel
theorem dX5_pass_13 : decode cX5_pass 13 = .ok (.ireturn, 1) := by decide +kernel
theorem dX5_type_0 : decode cX5_type 0 = .ok (.aload_n 0, 1) := by decide +kernel
theorem dX5_type_1 : decode cX5_type 1 = .ok (.getfield 143, 3) := by decide +kernel
theorem dX5_type_4 : decode cX5_type 4 = .ok (.bipush 60, 2) := by decide +kernel
theorem dX5_type_6 : decode cX5_type 6 = .ok (.if_icmp .ne 6, 3) := by decide +kernel
theorem dX5_type_9 : decode cX5_type 9 = .ok (.bipush (-3), 2) := by decide +kernel
theorem dX5_type_11 : decode cX5_type 11 = .ok (.ireturn, 1) := by decide +kernel
theorem dX5_type_12 : decode cX5_type 12 = .ok (.aload_n 0, 1) := by decide +kernel
theorem dX5_type_13 : decode cX5_type 13 = .ok (.getfield 28, 3) := by decide +kernel
theorem dX5_type_16 : decode cX5_type 16 = .ok (.aload_n 0, 1) := by decide +kernel
theorem dX5_type_17 : decode cX5_type 17 = .ok (.getfield 143, 3) := by decide +kernel
theorem dX5_type_20 : decode cX5_type 20 = .ok (.iload_n 1, 1) := by decide +kernel
theorem dX5_type_21 : decode cX5_type 21 = .ok (.iastore, 1) := by decide +kernel
theorem dX5_type_22 : decode cX5_type 22 = .ok (.aload_n 0, 1) := by decide +kernel
theorem dX5_type_23 : decode cX5_type 23 = .ok (.dup, 1) := by decide +kernel
theorem dX5_type_24 : decode cX5_type 24 = .ok (.getfield 143, 3) := by decide +kernel
theorem dX5_type_27 : decode cX5_type 27 = .ok (.iconst 1, 1) := by decide +kernel
theorem dX5_type_28 : decode cX5_type 28 = .ok (.iadd, 1) := by decide +kernel
theorem dX5_type_29 : decode cX5_type 29 = .ok (.putfield 143, 3) := by decide +kernel
theorem dX5_type_32 : decode cX5_type 32 = .ok (.aload_n 0, 1) := by decide +kernel
theorem dX5_type_33 : decode cX5_type 33 = .ok (.getfield 143, 3) := by decide +kernel
theorem dX5_type_36 : decode cX5_type 36 = .ok (.ireturn, 1) := by decide +kernel
theorem dX5_clearText_0 : decode cX5_clearText 0 = .ok (.aload_n 0, 1) := by decide +kernel
theorem dX5_clearText_1 : decode cX5_clearText 1 = .ok (.getfield 143, 3) := by decide +kernel
theorem dX5_clearText_4 : decode cX5_clearText 4 = .ok (.istore_n 1, 1) := by decide +kernel
theorem dX5_clearText_5 : decode cX5_clearText 5 = .ok (.aload_n 0, 1) := by decide +kernel
theorem dX5_clearText_6 : decode cX5_clearText 6 = .ok (.iconst 0, 1) := by decide +kernel
theorem dX5_clearText_7 : decode cX5_clearText 7 = .ok (.putfield 143, 3) := by decide +kernel
theorem dX5_clearText_10 : decode cX5_clearText 10 = .ok (.iload_n 1, 1) := by decide +kernel
theorem dX5_clearText_11 : decode cX5_clearText 11 = .ok (.ireturn, 1) := by decide +kernel
set_option maxRecDepth 20000 in
theorem ggX5_isHere_X5_in : GoodIn wsX5_isHere wsX5_in := goodIn_r _ [7] (by decide +kernel) (by decide +kernel)
set_option maxRecDepth 20000 in
theorem gX5_isHere_X5_in : GoodIn wsX5_isHere (va_wsS RX5 35 yX5_in wsX5_in) := goodIn_app (goodIn_of _ (by decide +kernel)) ggX5_isHere_X5_in
theorem dX5_isHere_0 : decode cX5_isHere 0 = .ok (.aload_n 0, 1) := by decide +kernel
theorem dX5_isHere_1 : decode cX5_isHere 1 = .ok (.getfield 146, 3) := by decide +kernel
theorem dX5_isHere_4 : decode cX5_isHere 4 = .ok (.aload_n 0, 1) := by decide +kernel
theorem dX5_isHere_5 : decode cX5_isHere 5 = .ok (.getfield 143, 3) := by decide +kernel
theorem dX5_isHere_8 : decode cX5_isHere 8 = .ok (.if_icmp .ge 27, 3) := by decide +kernel
theorem dX5_isHere_11 : decode cX5_isHere 11 = .ok (.aload_n 0, 1) := by decide +kernel
theorem dX5_isHere_12 : decode cX5_isHere 12 = .ok (.getfield 28, 3) := by decide +kernel
theorem dX5_isHere_15 : decode cX5_isHere 15 = .ok (.aload_n 0, 1) := by decide +kernel
theorem dX5_isHere_16 : decode cX5_isHere 16 = .ok (.getfield 146, 3) := by decide +kernel
theorem dX5_isHere_19 : decode cX5_isHere 19 = .ok (.iaload, 1) := by decide +kernel
theorem dX5_isHere_20 : decode cX5_isHere 20 = .ok (.i2l, 1) := by decide +kernel
theorem dX5_isHere_21 : decode cX5_isHere 21 = .ok (.iload_n 1, 1) := by decide +kernel
theorem dX5_isHere_22 : decode cX5_isHere 22 = .ok (.i2l, 1) := by decide +kernel
theorem dX5_isHere_23 : decode cX5_isHere 23 = .ok (.iload_n 2, 1) := by decide +kernel
theorem dX5_isHere_24 : decode cX5_isHere 24 = .ok (.i2l, 1) := by decide +kernel
theorem dX5_isHere_25 : decode cX5_isHere 25 = .ok (.invokestatic 35, 3) := by decide +kernel
theorem dX5_isHere_28 : decode cX5_isHere 28 = .ok (.ifCond .eq 7, 3) := by decide +kernel
theorem dX5_isHere_31 : decode cX5_isHere 31 = .ok (.iconst 1, 1) := by decide +kernel
theorem dX5_isHere_32 : decode cX5_isHere 32 = .ok (.goto 4, 3) := by decide +kernel
theorem dX5_isHere_35 : decode cX5_isHere 35 = .ok (.iconst 0, 1) := by decide +kernel
theorem dX5_isHere_36 : decode cX5_isHere 36 = .ok (.ireturn, 1) := by decide +kernel
set_option maxRecDepth 20000 in
theorem ggX5_takesOne_X5_isHere : GoodIn wsX5_takesOne wsX5_isHere := goodIn_r _ [6, 1, 7, 8, 9, 10, 5, 11, 12, 13, 14, 15, 16, 17, 18, 19, 20, 21, 22, 23, 24, 25, 26, 27, 28, 29] (by decide +kernel) (by decide +kernel)
set_option maxRecDepth 20000 in
theorem gX5_takesOne_X5_isHere : GoodIn wsX5_takesOne (wsV RX5 149 RX5 yX5_isHere wsX5_isHere) := goodIn_app (goodIn_of _ (by decide +kernel)) ggX5_takesOne_X5_isHere
theorem dX5_takesOne_0 : decode cX5_takesOne 0 = .ok (.aload_n 0, 1) := by decide +kernel
theorem dX5_takesOne_1 : decode cX5_takesOne 1 = .ok (.iload_n 1, 1) := by decide +kernel
theorem dX5_takesOne_2 : decode cX5_takesOne 2 = .ok (.iload_n 1, 1) := by decide +kernel
theorem dX5_takesOne_3 : decode cX5_takesOne 3 = .ok (.invokevirtual 149, 3) := by decide +kernel
theorem dX5_takesOne_6 : decode cX5_takesOne 6 = .ok (.istore_n 2, 1) := by decide +kernel
theorem dX5_takesOne_7 : decode cX5_takesOne 7 = .ok (.aload_n 0, 1) := by decide +kernel
theorem dX5_takesOne_8 : decode cX5_takesOne 8 = .ok (.dup, 1) := by decide +kernel
theorem dX5_takesOne_9 : decode cX5_takesOne 9 = .ok (.getfield 146, 3) := by decide +kernel
theorem dX5_takesOne_12 : decode cX5_takesOne 12 = .ok (.iload_n 2, 1) := by decide +kernel
theorem dX5_takesOne_13 : decode cX5_takesOne 13 = .ok (.ifCond .eq 7, 3) := by decide +kernel
theorem dX5_takesOne_16 : decode cX5_takesOne 16 = .ok (.iconst 1, 1) := by decide +kernel
theorem dX5_takesOne_17 : decode cX5_takesOne 17 = .ok (.goto 4, 3) := by decide +kernel
theorem dX5_takesOne_20 : decode cX5_takesOne 20 = .ok (.iconst 0, 1) := by decide +kernel
theorem dX5_takesOne_21 : decode cX5_takesOne 21 = .ok (.iadd, 1) := by decide +kernel
theorem dX5_takesOne_22 : decode cX5_takesOne 22 = .ok (.putfield 146, 3) := by decide +kernel
theorem dX5_takesOne_25 : decode cX5_takesOne 25 = .ok (.iload_n 2, 1) := by decide +kernel
theorem dX5_takesOne_26 : decode cX5_takesOne 26 = .ok (.ireturn, 1) := by decide +kernel
set_option maxRecDepth 20000 in
theorem ggX5_readsNumber_X5_isHere : GoodIn wsX5_readsNumber wsX5_isHere := goodIn_r _ [8, 2, 9, 1, 10, 11, 7, 12, 13, 14, 15, 16, 17, 18, 19, 20, 21, 22, 23, 24, 25, 26, 27, 28, 29, 30] (by decide +kernel) (by decide +kernel)
set_option maxRecDepth 20000 in
theorem gX5_readsNumber_X5_isHere : GoodIn wsX5_readsNumber (wsV RX5 149 RX5 yX5_isHere wsX5_isHere) := goodIn_app (goodIn_of _ (by decide +kernel)) ggX5_readsNumber_X5_isHere
theorem dX5_readsNumber_0 : decode cX5_readsNumber 0 = .ok (.aload_n 0, 1) := by decide +kernel
theorem dX5_readsNumber_1 : decode cX5_readsNumber 1 = .ok (.bipush 48, 2) := by decide +kernel
theorem dX5_readsNumber_3 : decode cX5_readsNumber 3 = .ok (.iload_n 1, 1) := by decide +kernel
theorem dX5_readsNumber_4 : decode cX5_readsNumber 4 = .ok (.iadd, 1) := by decide +kernel
theorem dX5_readsNumber_5 : decode cX5_readsNumber 5 = .ok (.bipush 57, 2) := by decide +kernel
theorem dX5_readsNumber_7 : decode cX5_readsNumber 7 = .ok (.invokevirtual 149, 3) := by decide +kernel
theorem dX5_readsNumber_10 : decode cX5_readsNumber 10 = .ok (.ifCond .ne 5, 3) := by decide +kernel
theorem dX5_readsNumber_13 : decode cX5_readsNumber 13 = .ok (.iconst 0, 1) := by decide +kernel
theorem dX5_readsNumber_14 : decode cX5_readsNumber 14 = .ok (.ireturn, 1) := by decide +kernel
theorem dX5_readsNumber_15 : decode cX5_readsNumber 15 = .ok (.aload_n 0, 1) := by decide +kernel
theorem dX5_readsNumber_16 : decode cX5_readsNumber 16 = .ok (.getfield 28, 3) := by decide +kernel
theorem dX5_readsNumber_19 : decode cX5_readsNumber 19 = .ok (.aload_n 0, 1) := by decide +kernel
theorem dX5_readsNumber_20 : decode cX5_readsNumber 20 = .ok (.getfield 146, 3) := by decide +kernel
theorem dX5_readsNumber_23 : decode cX5_readsNumber 23 = .ok (.iaload, 1) := by decide +kernel
theorem dX5_readsNumber_24 : decode cX5_readsNumber 24 = .ok (.bipush 48, 2) := by decide +kernel
theorem dX5_readsNumber_26 : decode cX5_readsNumber 26 = .ok (.isub, 1) := by decide +kernel
theorem dX5_readsNumber_27 : decode cX5_readsNumber 27 = .ok (.istore_n 3, 1) := by decide +kernel
theorem dX5_readsNumber_28 : decode cX5_readsNumber 28 = .ok (.aload_n 0, 1) := by decide +kernel
theorem dX5_readsNumber_29 : decode cX5_readsNumber 29 = .ok (.dup, 1) := by decide +kernel
theorem dX5_readsNumber_30 : decode cX5_readsNumber 30 = .ok (.getfield 146, 3) := by decide +kernel
theorem dX5_readsNumber_33 : decode cX5_readsNumber 33 = .ok (.iconst 1, 1) := by decide +kernel
theorem dX5_readsNumber_34 : decode cX5_readsNumber 34 = .ok (.iadd, 1) := by decide +kernel
theorem dX5_readsNumber_35 : decode cX5_readsNumber 35 = .ok (.putfield 146, 3) := by decide +kernel
theorem dX5_readsNumber_38 : decode cX5_readsNumber 38 = .ok (.iload_n 3, 1) := by decide +kernel
theorem dX5_readsNumber_39 : decode cX5_readsNumber 39 = .ok (.ifCond .le 66, 3) := by decide +kernel
theorem dX5_readsNumber_42 : decode cX5_readsNumber 42 = .ok (.aload_n 0, 1) := by decide +kernel
theorem dX5_readsNumber_43 : decode cX5_readsNumber 43 = .ok (.bipush 48, 2) := by decide +kernel
theorem dX5_readsNumber_45 : decode cX5_readsNumber 45 = .ok (.bipush 57, 2) := by decide +kernel
theorem dX5_readsNumber_47 : decode cX5_readsNumber 47 = .ok (.invokevirtual 149, 3) := by decide +kernel
theorem dX5_readsNumber_50 : decode cX5_readsNumber 50 = .ok (.ifCond .eq 55, 3) := by decide +kernel
theorem dX5_readsNumber_53 : decode cX5_readsNumber 53 = .ok (.bipush 10, 2) := by decide +kernel
theorem dX5_readsNumber_55 : decode cX5_readsNumber 55 = .ok (.iload_n 3, 1) := by decide +kernel
theorem dX5_readsNumber_56 : decode cX5_readsNumber 56 = .ok (.imul, 1) := by decide +kernel
theorem dX5_readsNumber_57 : decode cX5_readsNumber 57 = .ok (.aload_n 0, 1) := by decide +kernel
theorem dX5_readsNumber_58 : decode cX5_readsNumber 58 = .ok (.getfield 28, 3) := by decide +kernel
theorem dX5_readsNumber_61 : decode cX5_readsNumber 61 = .ok (.aload_n 0, 1) := by decide +kernel
theorem dX5_readsNumber_62 : decode cX5_readsNumber 62 = .ok (.getfield 146, 3) := by decide +kernel
theorem dX5_readsNumber_65 : decode cX5_readsNumber 65 = .ok (.iaload, 1) := by decide +kernel
theorem dX5_readsNumber_66 : decode cX5_readsNumber 66 = .ok (.iadd, 1) := by decide +kernel
theorem dX5_readsNumber_67 : decode cX5_readsNumber 67 = .ok (.bipush 48, 2) := by decide +kernel
theorem dX5_readsNumber_69 : decode cX5_readsNumber 69 = .ok (.isub, 1) := by decide +kernel
theorem dX5_readsNumber_70 : decode cX5_readsNumber 70 = .ok (.iload_n 2, 1) := by decide +kernel
theorem dX5_readsNumber_71 : decode cX5_readsNumber 71 = .ok (.if_icmp .gt 34, 3) := by decide +kernel
theorem dX5_readsNumber_74 : decode cX5_readsNumber 74 = .ok (.bipush 10, 2) := by decide +kernel
theorem dX5_readsNumber_76 : decode cX5_readsNumber 76 = .ok (.iload_n 3, 1) := by decide +kernel
theorem dX5_readsNumber_77 : decode cX5_readsNumber 77 = .ok (.imul, 1) := by decide +kernel
theorem dX5_readsNumber_78 : decode cX5_readsNumber 78 = .ok (.aload_n 0, 1) := by decide +kernel
theorem dX5_readsNumber_79 : decode cX5_readsNumber 79 = .ok (.getfield 28, 3) := by decide +kernel
theorem dX5_readsNumber_82 : decode cX5_readsNumber 82 = .ok (.aload_n 0, 1) := by decide +kernel
theorem dX5_readsNumber_83 : decode cX5_readsNumber 83 = .ok (.getfield 146, 3) := by decide +kernel
theorem dX5_readsNumber_86 : decode cX5_readsNumber 86 = .ok (.iaload, 1) := by decide +kernel
theorem dX5_readsNumber_87 : decode cX5_readsNumber 87 = .ok (.iadd, 1) := by decide +kernel
theorem dX5_readsNumber_88 : decode cX5_readsNumber 88 = .ok (.bipush 48, 2) := by decide +kernel
theorem dX5_readsNumber_90 : decode cX5_readsNumber 90 = .ok (.isub, 1) := by decide +kernel
theorem dX5_readsNumber_91 : decode cX5_readsNumber 91 = .ok (.istore_n 3, 1) := by decide +kernel
theorem dX5_readsNumber_92 : decode cX5_readsNumber 92 = .ok (.aload_n 0, 1) := by decide +kernel
theorem dX5_readsNumber_93 : decode cX5_readsNumber 93 = .ok (.dup, 1) := by decide +kernel
theorem dX5_readsNumber_94 : decode cX5_readsNumber 94 = .ok (.getfield 146, 3) := by decide +kernel
theorem dX5_readsNumber_97 : decode cX5_readsNumber 97 = .ok (.iconst 1, 1) := by decide +kernel
theorem dX5_readsNumber_98 : decode cX5_readsNumber 98 = .ok (.iadd, 1) := by decide +kernel
theorem dX5_readsNumber_99 : decode cX5_readsNumber 99 = .ok (.putfield 146, 3) := by decide +kernel
theorem dX5_readsNumber_102 : decode cX5_readsNumber 102 = .ok (.goto (-64), 3) := by decide +kernel
theorem dX5_readsNumber_105 : decode cX5_readsNumber 105 = .ok (.aload_n 0, 1) := by decide +kernel
theorem dX5_readsNumber_106 : decode cX5_readsNumber 106 = .ok (.iload_n 3, 1) := by decide +kernel
theorem dX5_readsNumber_107 : decode cX5_readsNumber 107 = .ok (.putfield 152, 3) := by decide +kernel
theorem dX5_readsNumber_110 : decode cX5_readsNumber 110 = .ok (.iconst 1, 1) := by decide +kernel
theorem dX5_readsNumber_111 : decode cX5_readsNumber 111 = .ok (.ireturn, 1) := by decide +kernel
set_option maxRecDepth 20000 in
theorem ggX5_readsKing_X5_readsNumber : GoodIn wsX5_readsKing wsX5_readsNumber := goodIn_r _ [8, 9, 10, 1, 11, 12, 13, 7, 14, 15, 16, 17, 18, 23, 24, 25, 26, 27, 28, 29, 30, 31, 32, 33, 34, 35, 36, 37, 38, 39, 40] (by decide +kernel) (by decide +kernel)
set_option maxRecDepth 20000 in
theorem gX5_readsKing_X5_readsNumber : GoodIn wsX5_readsKing (wsV RX5 155 RX5 yX5_readsNumber wsX5_readsNumber) := goodIn_app (goodIn_of _ (by decide +kernel)) ggX5_readsKing_X5_readsNumber
set_option maxRecDepth 20000 in
theorem ggX5_readsKing_X5_takesOne : GoodIn wsX5_readsKing wsX5_takesOne := goodIn_r _ [22, 10, 11, 12, 13, 7, 14, 15, 9, 16, 17, 18, 23, 24, 25, 26, 27, 28, 29, 30, 31, 32, 33, 34, 35, 36, 37, 38, 39, 40] (by decide +kernel) (by decide +kernel)
set_option maxRecDepth 20000 in
theorem gX5_readsKing_X5_takesOne : GoodIn wsX5_readsKing (wsV RX5 161 RX5 yX5_takesOne wsX5_takesOne) := goodIn_app (goodIn_of _ (by decide +kernel)) ggX5_readsKing_X5_takesOne
theorem dX5_readsKing_0 : decode cX5_readsKing 0 = .ok (.aload_n 0, 1) := by decide +kernel
theorem dX5_readsKing_1 : decode cX5_readsKing 1 = .ok (.iconst 1, 1) := by decide +kernel
theorem dX5_readsKing_2 : decode cX5_readsKing 2 = .ok (.bipush 9, 2) := by decide +kernel
theorem dX5_readsKing_4 : decode cX5_readsKing 4 = .ok (.invokevirtual 155, 3) := by decide +kernel
theorem dX5_readsKing_7 : decode cX5_readsKing 7 = .ok (.istore_n 1, 1) := by decide +kernel
theorem dX5_readsKing_8 : decode cX5_readsKing 8 = .ok (.aload_n 0, 1) := by decide +kernel
theorem dX5_readsKing_9 : decode cX5_readsKing 9 = .ok (.aload_n 0, 1) := by decide +kernel
theorem dX5_readsKing_10 : decode cX5_readsKing 10 = .ok (.getfield 152, 3) := by decide +kernel
theorem dX5_readsKing_13 : decode cX5_readsKing 13 = .ok (.putfield 158, 3) := by decide +kernel
theorem dX5_readsKing_16 : decode cX5_readsKing 16 = .ok (.iload_n 1, 1) := by decide +kernel
theorem dX5_readsKing_17 : decode cX5_readsKing 17 = .ok (.ifCond .eq 26, 3) := by decide +kernel
theorem dX5_readsKing_20 : decode cX5_readsKing 20 = .ok (.aload_n 0, 1) := by decide +kernel
theorem dX5_readsKing_21 : decode cX5_readsKing 21 = .ok (.bipush 46, 2) := by decide +kernel
theorem dX5_readsKing_23 : decode cX5_readsKing 23 = .ok (.invokevirtual 161, 3) := by decide +kernel
theorem dX5_readsKing_26 : decode cX5_readsKing 26 = .ok (.ifCond .eq 17, 3) := by decide +kernel
theorem dX5_readsKing_29 : decode cX5_readsKing 29 = .ok (.aload_n 0, 1) := by decide +kernel
theorem dX5_readsKing_30 : decode cX5_readsKing 30 = .ok (.iconst 0, 1) := by decide +kernel
theorem dX5_readsKing_31 : decode cX5_readsKing 31 = .ok (.bipush 120, 2) := by decide +kernel
theorem dX5_readsKing_33 : decode cX5_readsKing 33 = .ok (.invokevirtual 155, 3) := by decide +kernel
theorem dX5_readsKing_36 : decode cX5_readsKing 36 = .ok (.ifCond .eq 7, 3) := by decide +kernel
theorem dX5_readsKing_39 : decode cX5_readsKing 39 = .ok (.iconst 1, 1) := by decide +kernel
theorem dX5_readsKing_40 : decode cX5_readsKing 40 = .ok (.goto 4, 3) := by decide +kernel
theorem dX5_readsKing_43 : decode cX5_readsKing 43 = .ok (.iconst 0, 1) := by decide +kernel
theorem dX5_readsKing_44 : decode cX5_readsKing 44 = .ok (.istore_n 1, 1) := by decide +kernel
theorem dX5_readsKing_45 : decode cX5_readsKing 45 = .ok (.aload_n 0, 1) := by decide +kernel
theorem dX5_readsKing_46 : decode cX5_readsKing 46 = .ok (.aload_n 0, 1) := by decide +kernel
theorem dX5_readsKing_47 : decode cX5_readsKing 47 = .ok (.getfield 152, 3) := by decide +kernel
theorem dX5_readsKing_50 : decode cX5_readsKing 50 = .ok (.putfield 164, 3) := by decide +kernel
theorem dX5_readsKing_53 : decode cX5_readsKing 53 = .ok (.iload_n 1, 1) := by decide +kernel
theorem dX5_readsKing_54 : decode cX5_readsKing 54 = .ok (.ifCond .eq 27, 3) := by decide +kernel
theorem dX5_readsKing_57 : decode cX5_readsKing 57 = .ok (.aload_n 0, 1) := by decide +kernel
theorem dX5_readsKing_58 : decode cX5_readsKing 58 = .ok (.bipush 64, 2) := by decide +kernel
theorem dX5_readsKing_60 : decode cX5_readsKing 60 = .ok (.invokevirtual 161, 3) := by decide +kernel
theorem dX5_readsKing_63 : decode cX5_readsKing 63 = .ok (.ifCond .eq 18, 3) := by decide +kernel
theorem dX5_readsKing_66 : decode cX5_readsKing 66 = .ok (.aload_n 0, 1) := by decide +kernel
theorem dX5_readsKing_67 : decode cX5_readsKing 67 = .ok (.iconst 0, 1) := by decide +kernel
theorem dX5_readsKing_68 : decode cX5_readsKing 68 = .ok (.sipush 9999, 3) := by decide +kernel
theorem dX5_readsKing_71 : decode cX5_readsKing 71 = .ok (.invokevirtual 155, 3) := by decide +kernel
theorem dX5_readsKing_74 : decode cX5_readsKing 74 = .ok (.ifCond .eq 7, 3) := by decide +kernel
theorem dX5_readsKing_77 : decode cX5_readsKing 77 = .ok (.iconst 1, 1) := by decide +kernel
theorem dX5_readsKing_78 : decode cX5_readsKing 78 = .ok (.goto 4, 3) := by decide +kernel
theorem dX5_readsKing_81 : decode cX5_readsKing 81 = .ok (.iconst 0, 1) := by decide +kernel
theorem dX5_readsKing_82 : decode cX5_readsKing 82 = .ok (.ireturn, 1) := by decide +kernel
set_option maxRecDepth 20000 in
theorem ggX5_readsThing_X5_takesOne : GoodIn wsX5_readsThing wsX5_takesOne := goodIn_r _ [9, 1, 10, 11, 12, 8, 13, 2, 3, 14, 15, 16, 28, 29, 30, 31, 32, 33, 34, 35, 36, 37, 38, 39, 40, 41, 42, 43, 44, 45] (by decide +kernel) (by decide +kernel)
set_option maxRecDepth 20000 in
theorem gX5_readsThing_X5_takesOne : GoodIn wsX5_readsThing (wsV RX5 161 RX5 yX5_takesOne wsX5_takesOne) := goodIn_app (goodIn_of _ (by decide +kernel)) ggX5_readsThing_X5_takesOne
set_option maxRecDepth 20000 in
theorem ggX5_readsThing_X5_readsKing : GoodIn wsX5_readsThing wsX5_readsKing := goodIn_r _ [20, 21, 22, 23, 24, 25, 26, 8, 27, 3, 1, 10, 11, 12, 13, 2, 14, 15, 16, 5, 6, 7, 9, 28, 29, 30, 31, 32, 33, 34, 35, 36, 37, 38, 39, 40, 41, 42, 43, 44, 45] (by decide +kernel) (by decide +kernel)
set_option maxRecDepth 20000 in
theorem gX5_readsThing_X5_readsKing : GoodIn wsX5_readsThing (wsV RX5 170 RX5 yX5_readsKing wsX5_readsKing) := goodIn_app (goodIn_of _ (by decide +kernel)) ggX5_readsThing_X5_readsKing
set_option maxRecDepth 20000 in
theorem ggX5_readsThing_X5_readsNumber : GoodIn wsX5_readsThing wsX5_readsNumber := goodIn_r _ [27, 3, 1, 21, 10, 11, 12, 8, 13, 2, 14, 15, 16, 28, 29, 30, 31, 32, 33, 34, 35, 36, 37, 38, 39, 40, 41, 42, 43, 44, 45] (by decide +kernel) (by decide +kernel)
set_option maxRecDepth 20000 in
theorem gX5_readsThing_X5_readsNumber : GoodIn wsX5_readsThing (wsV RX5 155 RX5 yX5_readsNumber wsX5_readsNumber) := goodIn_app (goodIn_of _ (by decide +kernel)) ggX5_readsThing_X5_readsNumber
theorem dX5_readsThing_0 : decode cX5_readsThing 0 = .ok (.aload_n 0, 1) := by decide +kernel
theorem dX5_readsThing_1 : decode cX5_readsThing 1 = .ok (.aload_n 0, 1) := by decide +kernel
theorem dX5_readsThing_2 : decode cX5_readsThing 2 = .ok (.getfield 146, 3) := by decide +kernel
theorem dX5_readsThing_5 : decode cX5_readsThing 5 = .ok (.aload_n 0, 1) := by decide +kernel
theorem dX5_readsThing_6 : decode cX5_readsThing 6 = .ok (.getfield 143, 3) := by decide +kernel
theorem dX5_readsThing_9 : decode cX5_readsThing 9 = .ok (.if_icmp .ge 15, 3) := by decide +kernel
theorem dX5_readsThing_12 : decode cX5_readsThing 12 = .ok (.aload_n 0, 1) := by decide +kernel
theorem dX5_readsThing_13 : decode cX5_readsThing 13 = .ok (.getfield 28, 3) := by decide +kernel
theorem dX5_readsThing_16 : decode cX5_readsThing 16 = .ok (.aload_n 0, 1) := by decide +kernel
theorem dX5_readsThing_17 : decode cX5_readsThing 17 = .ok (.getfield 146, 3) := by decide +kernel
theorem dX5_readsThing_20 : decode cX5_readsThing 20 = .ok (.iaload, 1) := by decide +kernel
theorem dX5_readsThing_21 : decode cX5_readsThing 21 = .ok (.goto 4, 3) := by decide +kernel
theorem dX5_readsThing_24 : decode cX5_readsThing 24 = .ok (.iconst 0, 1) := by decide +kernel
theorem dX5_readsThing_25 : decode cX5_readsThing 25 = .ok (.putfield 167, 3) := by decide +kernel
theorem dX5_readsThing_28 : decode cX5_readsThing 28 = .ok (.aload_n 0, 1) := by decide +kernel
theorem dX5_readsThing_29 : decode cX5_readsThing 29 = .ok (.bipush 107, 2) := by decide +kernel
theorem dX5_readsThing_31 : decode cX5_readsThing 31 = .ok (.invokevirtual 161, 3) := by decide +kernel
theorem dX5_readsThing_34 : decode cX5_readsThing 34 = .ok (.ifCond .eq 8, 3) := by decide +kernel
theorem dX5_readsThing_37 : decode cX5_readsThing 37 = .ok (.aload_n 0, 1) := by decide +kernel
theorem dX5_readsThing_38 : decode cX5_readsThing 38 = .ok (.invokevirtual 170, 3) := by decide +kernel
theorem dX5_readsThing_41 : decode cX5_readsThing 41 = .ok (.ireturn, 1) := by decide +kernel
theorem dX5_readsThing_42 : decode cX5_readsThing 42 = .ok (.aload_n 0, 1) := by decide +kernel
theorem dX5_readsThing_43 : decode cX5_readsThing 43 = .ok (.bipush 108, 2) := by decide +kernel
theorem dX5_readsThing_45 : decode cX5_readsThing 45 = .ok (.invokevirtual 161, 3) := by decide +kernel
theorem dX5_readsThing_48 : decode cX5_readsThing 48 = .ok (.ifCond .eq 13, 3) := by decide +kernel
theorem dX5_readsThing_51 : decode cX5_readsThing 51 = .ok (.aload_n 0, 1) := by decide +kernel
theorem dX5_readsThing_52 : decode cX5_readsThing 52 = .ok (.iconst 0, 1) := by decide +kernel
theorem dX5_readsThing_53 : decode cX5_readsThing 53 = .ok (.bipush 23, 2) := by decide +kernel
theorem dX5_readsThing_55 : decode cX5_readsThing 55 = .ok (.invokevirtual 155, 3) := by decide +kernel
theorem dX5_readsThing_58 : decode cX5_readsThing 58 = .ok (.goto 27, 3) := by decide +kernel
theorem dX5_readsThing_61 : decode cX5_readsThing 61 = .ok (.aload_n 0, 1) := by decide +kernel
theorem dX5_readsThing_62 : decode cX5_readsThing 62 = .ok (.bipush 46, 2) := by decide +kernel
theorem dX5_readsThing_64 : decode cX5_readsThing 64 = .ok (.invokevirtual 161, 3) := by decide +kernel
theorem dX5_readsThing_67 : decode cX5_readsThing 67 = .ok (.ifCond .eq 17, 3) := by decide +kernel
theorem dX5_readsThing_70 : decode cX5_readsThing 70 = .ok (.aload_n 0, 1) := by decide +kernel
theorem dX5_readsThing_71 : decode cX5_readsThing 71 = .ok (.iconst 1, 1) := by decide +kernel
theorem dX5_readsThing_72 : decode cX5_readsThing 72 = .ok (.bipush 99, 2) := by decide +kernel
theorem dX5_readsThing_74 : decode cX5_readsThing 74 = .ok (.invokevirtual 155, 3) := by decide +kernel
theorem dX5_readsThing_77 : decode cX5_readsThing 77 = .ok (.ifCond .eq 7, 3) := by decide +kernel
theorem dX5_readsThing_80 : decode cX5_readsThing 80 = .ok (.iconst 1, 1) := by decide +kernel
theorem dX5_readsThing_81 : decode cX5_readsThing 81 = .ok (.goto 4, 3) := by decide +kernel
theorem dX5_readsThing_84 : decode cX5_readsThing 84 = .ok (.iconst 0, 1) := by decide +kernel
theorem dX5_readsThing_85 : decode cX5_readsThing 85 = .ok (.ireturn, 1) := by decide +kernel
set_option maxRecDepth 20000 in
theorem ggX5_fault_X5_readsThing : GoodIn wsX5_fault wsX5_readsThing := goodIn_r _ [7, 1, 2, 8, 9, 10, 11, 12, 6, 13, 14, 15, 16, 17, 18, 19, 20, 21, 22, 23, 24, 25, 26, 27, 28, 29, 30, 31, 32, 33, 34, 35, 36, 37, 38, 39, 40, 41, 42, 43, 44, 45, 46, 47, 48, 49] (by decide +kernel) (by decide +kernel)
set_option maxRecDepth 20000 in
theorem gX5_fault_X5_readsThing : GoodIn wsX5_fault (wsV RX5 174 RX5 yX5_readsThing wsX5_readsThing) := goodIn_app (goodIn_of _ (by decide +kernel)) ggX5_fault_X5_readsThing
set_option maxRecDepth 20000 in
theorem ggX5_fault_X5_takesOne : GoodIn wsX5_fault wsX5_takesOne := goodIn_r _ [13, 1, 14, 15, 16, 6, 17, 2, 8, 18, 19, 20, 32, 33, 34, 35, 36, 37, 38, 39, 40, 41, 42, 43, 44, 45, 46, 47, 48, 49] (by decide +kernel) (by decide +kernel)
set_option maxRecDepth 20000 in
theorem gX5_fault_X5_takesOne : GoodIn wsX5_fault (wsV RX5 161 RX5 yX5_takesOne wsX5_takesOne) := goodIn_app (goodIn_of _ (by decide +kernel)) ggX5_fault_X5_takesOne
theorem dX5_fault_0 : decode cX5_fault 0 = .ok (.aload_n 0, 1) := by decide +kernel
theorem dX5_fault_1 : decode cX5_fault 1 = .ok (.iconst 0, 1) := by decide +kernel
theorem dX5_fault_2 : decode cX5_fault 2 = .ok (.putfield 146, 3) := by decide +kernel
theorem dX5_fault_5 : decode cX5_fault 5 = .ok (.iconst 1, 1) := by decide +kernel
theorem dX5_fault_6 : decode cX5_fault 6 = .ok (.istore_n 1, 1) := by decide +kernel
theorem dX5_fault_7 : decode cX5_fault 7 = .ok (.iload_n 1, 1) := by decide +kernel
theorem dX5_fault_8 : decode cX5_fault 8 = .ok (.ifCond .eq 25, 3) := by decide +kernel
theorem dX5_fault_11 : decode cX5_fault 11 = .ok (.aload_n 0, 1) := by decide +kernel
theorem dX5_fault_12 : decode cX5_fault 12 = .ok (.invokevirtual 174, 3) := by decide +kernel
theorem dX5_fault_15 : decode cX5_fault 15 = .ok (.ifCond .ne 8, 3) := by decide +kernel
theorem dX5_fault_18 : decode cX5_fault 18 = .ok (.aload_n 0, 1) := by decide +kernel
theorem dX5_fault_19 : decode cX5_fault 19 = .ok (.getfield 146, 3) := by decide +kernel
theorem dX5_fault_22 : decode cX5_fault 22 = .ok (.ireturn, 1) := by decide +kernel
theorem dX5_fault_23 : decode cX5_fault 23 = .ok (.aload_n 0, 1) := by decide +kernel
theorem dX5_fault_24 : decode cX5_fault 24 = .ok (.bipush 59, 2) := by decide +kernel
theorem dX5_fault_26 : decode cX5_fault 26 = .ok (.invokevirtual 161, 3) := by decide +kernel
theorem dX5_fault_29 : decode cX5_fault 29 = .ok (.istore_n 1, 1) := by decide +kernel
theorem dX5_fault_30 : decode cX5_fault 30 = .ok (.goto (-23), 3) := by decide +kernel
theorem dX5_fault_33 : decode cX5_fault 33 = .ok (.aload_n 0, 1) := by decide +kernel
theorem dX5_fault_34 : decode cX5_fault 34 = .ok (.getfield 146, 3) := by decide +kernel
theorem dX5_fault_37 : decode cX5_fault 37 = .ok (.aload_n 0, 1) := by decide +kernel
theorem dX5_fault_38 : decode cX5_fault 38 = .ok (.getfield 143, 3) := by decide +kernel
theorem dX5_fault_41 : decode cX5_fault 41 = .ok (.if_icmp .ne 8, 3) := by decide +kernel
theorem dX5_fault_44 : decode cX5_fault 44 = .ok (.bipush (-5), 2) := by decide +kernel
theorem dX5_fault_46 : decode cX5_fault 46 = .ok (.goto 7, 3) := by decide +kernel
theorem dX5_fault_49 : decode cX5_fault 49 = .ok (.aload_n 0, 1) := by decide +kernel
theorem dX5_fault_50 : decode cX5_fault 50 = .ok (.getfield 146, 3) := by decide +kernel
theorem dX5_fault_53 : decode cX5_fault 53 = .ok (.ireturn, 1) := by decide +kernel
set_option maxRecDepth 20000 in
theorem ggX5_does_X5_doAnnounce : GoodIn wsX5_does wsX5_doAnnounce := goodIn_r _ [9, 10, 11, 12, 13, 14, 15, 8, 16, 17, 18, 19, 20, 108, 109, 110, 111, 112, 113, 114, 115, 116, 117, 118, 119, 120, 121, 122, 123, 124, 125] (by decide +kernel) (by decide +kernel)
set_option maxRecDepth 20000 in
theorem gX5_does_X5_doAnnounce : GoodIn wsX5_does (wsV RX5 120 RX5 yX5_doAnnounce wsX5_doAnnounce) := goodIn_app (goodIn_of _ (by decide +kernel)) ggX5_does_X5_doAnnounce
set_option maxRecDepth 20000 in
theorem ggX5_does_X5_doLeave : GoodIn wsX5_does wsX5_doLeave := goodIn_r _ [24, 25, 26, 27, 8, 28, 13, 14, 15, 16, 29, 30, 31, 32, 33, 34, 35, 36, 37, 38, 39, 40, 41, 42, 43, 44, 45, 46, 47, 48, 17, 18, 19, 20, 108, 109, 110, 111, 112, 113, 114, 115, 116, 117, 118, 119, 120, 121, 122, 123, 124, 125] (by decide +kernel) (by decide +kernel)
set_option maxRecDepth 20000 in
theorem gX5_does_X5_doLeave : GoodIn wsX5_does (wsV RX5 126 RX5 yX5_doLeave wsX5_doLeave) := goodIn_app (goodIn_of _ (by decide +kernel)) ggX5_does_X5_doLeave
set_option maxRecDepth 20000 in
theorem ggX5_does_X5_doPass : GoodIn wsX5_does wsX5_doPass := goodIn_r _ [52, 53, 13, 54, 14, 15, 8, 16, 55, 56, 57, 58, 59, 60, 61, 62, 63, 64, 65, 66, 29, 30, 31, 32, 67, 68, 69, 70, 17, 18, 19, 20, 71, 72, 73, 74, 41, 42, 43, 44, 75, 76, 77, 78, 79, 80, 81, 82, 83, 84, 85, 86, 87, 88, 89, 90, 91, 92, 93, 94, 95, 96, 97, 98, 99, 100, 101, 102, 103, 104, 105, 106, 107, 108, 109, 110, 111, 112, 113, 114, 115, 116, 117, 118, 119, 120, 121, 122, 123, 124, 125] (by decide +kernel) (by decide +kernel)
set_option maxRecDepth 20000 in
theorem gX5_does_X5_doPass : GoodIn wsX5_does (wsV RX5 140 RX5 yX5_doPass wsX5_doPass) := goodIn_app (goodIn_of _ (by decide +kernel)) ggX5_does_X5_doPass
theorem dX5_does_0 : decode cX5_does 0 = .ok (.aload_n 0, 1) := by decide +kernel
theorem dX5_does_1 : decode cX5_does 1 = .ok (.getfield 167, 3) := by decide +kernel
theorem dX5_does_4 : decode cX5_does 4 = .ok (.bipush 107, 2) := by decide +kernel
theorem dX5_does_6 : decode cX5_does 6 = .ok (.if_icmp .ne 22, 3) := by decide +kernel
theorem dX5_does_9 : decode cX5_does 9 = .ok (.aload_n 0, 1) := by decide +kernel
theorem dX5_does_10 : decode cX5_does 10 = .ok (.aload_n 0, 1) := by decide +kernel
theorem dX5_does_11 : decode cX5_does 11 = .ok (.getfield 158, 3) := by decide +kernel
theorem dX5_does_14 : decode cX5_does 14 = .ok (.aload_n 0, 1) := by decide +kernel
theorem dX5_does_15 : decode cX5_does 15 = .ok (.getfield 164, 3) := by decide +kernel
theorem dX5_does_18 : decode cX5_does 18 = .ok (.aload_n 0, 1) := by decide +kernel
theorem dX5_does_19 : decode cX5_does 19 = .ok (.getfield 152, 3) := by decide +kernel
theorem dX5_does_22 : decode cX5_does 22 = .ok (.invokevirtual 120, 3) := by decide +kernel
theorem dX5_does_25 : decode cX5_does 25 = .ok (.goto 31, 3) := by decide +kernel
theorem dX5_does_28 : decode cX5_does 28 = .ok (.aload_n 0, 1) := by decide +kernel
theorem dX5_does_29 : decode cX5_does 29 = .ok (.getfield 167, 3) := by decide +kernel
theorem dX5_does_32 : decode cX5_does 32 = .ok (.bipush 108, 2) := by decide +kernel
theorem dX5_does_34 : decode cX5_does 34 = .ok (.if_icmp .ne 14, 3) := by decide +kernel
theorem dX5_does_37 : decode cX5_does 37 = .ok (.aload_n 0, 1) := by decide +kernel
theorem dX5_does_38 : decode cX5_does 38 = .ok (.aload_n 0, 1) := by decide +kernel
theorem dX5_does_39 : decode cX5_does 39 = .ok (.getfield 152, 3) := by decide +kernel
theorem dX5_does_42 : decode cX5_does 42 = .ok (.invokevirtual 126, 3) := by decide +kernel
theorem dX5_does_45 : decode cX5_does 45 = .ok (.goto 11, 3) := by decide +kernel
theorem dX5_does_48 : decode cX5_does 48 = .ok (.aload_n 0, 1) := by decide +kernel
theorem dX5_does_49 : decode cX5_does 49 = .ok (.aload_n 0, 1) := by decide +kernel
theorem dX5_does_50 : decode cX5_does 50 = .ok (.getfield 152, 3) := by decide +kernel
theorem dX5_does_53 : decode cX5_does 53 = .ok (.invokevirtual 140, 3) := by decide +kernel
theorem dX5_does_56 : decode cX5_does 56 = .ok (.ireturn, 1) := by decide +kernel
set_option maxRecDepth 20000 in
theorem ggX5_perform_X5_fault : GoodIn wsX5_perform wsX5_fault := goodIn_r _ [9, 1, 10, 11, 12, 13, 8, 14, 15, 16, 17, 18, 19, 20, 21, 22, 23, 24, 25, 26, 27, 28, 29, 30, 31, 32, 33, 34, 35, 36, 37, 38, 153, 154, 155, 156, 157, 158, 159, 160, 161, 162, 163, 164, 165, 166, 167, 168, 169, 170] (by decide +kernel) (by decide +kernel)
set_option maxRecDepth 20000 in
theorem gX5_perform_X5_fault : GoodIn wsX5_perform (wsV RX5 177 RX5 yX5_fault wsX5_fault) := goodIn_app (goodIn_of _ (by decide +kernel)) ggX5_perform_X5_fault
set_option maxRecDepth 20000 in
theorem ggX5_perform_X5_keeps : GoodIn wsX5_perform wsX5_keeps := goodIn_r _ [42, 43, 44, 153, 154, 155, 156, 157, 158, 159, 160, 161, 162, 163, 164, 165, 166, 167, 168, 169, 170] (by decide +kernel) (by decide +kernel)
set_option maxRecDepth 20000 in
theorem gX5_perform_X5_keeps : GoodIn wsX5_perform (wsV RX5 117 RX5 yX5_keeps wsX5_keeps) := goodIn_app (goodIn_of _ (by decide +kernel)) ggX5_perform_X5_keeps
set_option maxRecDepth 20000 in
theorem ggX5_perform_X5_readsThing : GoodIn wsX5_perform wsX5_readsThing := goodIn_r _ [14, 1, 10, 15, 16, 17, 18, 19, 8, 20, 21, 22, 23, 24, 25, 26, 27, 28, 29, 30, 31, 32, 33, 34, 35, 36, 37, 38, 153, 154, 155, 156, 157, 158, 159, 160, 161, 162, 163, 164, 165, 166, 167, 168, 169, 170] (by decide +kernel) (by decide +kernel)
set_option maxRecDepth 20000 in
theorem gX5_perform_X5_readsThing : GoodIn wsX5_perform (wsV RX5 174 RX5 yX5_readsThing wsX5_readsThing) := goodIn_app (goodIn_of _ (by decide +kernel)) ggX5_perform_X5_readsThing
set_option maxRecDepth 20000 in
theorem ggX5_perform_X5_does : GoodIn wsX5_perform wsX5_does := goodIn_r _ [48, 16, 33, 34, 32, 49, 50, 51, 8, 52, 53, 54, 55, 44, 25, 26, 27, 56, 57, 58, 59, 60, 61, 62, 63, 64, 65, 66, 67, 68, 69, 70, 71, 72, 73, 74, 75, 76, 77, 78, 79, 80, 81, 82, 83, 84, 85, 86, 87, 88, 89, 90, 91, 92, 93, 94, 95, 96, 97, 98, 99, 100, 101, 102, 103, 104, 105, 106, 107, 108, 109, 110, 111, 112, 113, 114, 115, 116, 117, 118, 119, 120, 121, 122, 123, 124, 125, 126, 127, 128, 129, 130, 131, 132, 133, 134, 135, 136, 137, 138, 139, 140, 141, 142, 143, 144, 145, 146, 153, 154, 155, 156, 157, 158, 159, 160, 161, 162, 163, 164, 165, 166, 167, 168, 169, 170] (by decide +kernel) (by decide +kernel)
set_option maxRecDepth 20000 in
theorem gX5_perform_X5_does : GoodIn wsX5_perform (wsV RX5 180 RX5 yX5_does wsX5_does) := goodIn_app (goodIn_of _ (by decide +kernel)) ggX5_perform_X5_does
set_option maxRecDepth 20000 in
theorem ggX5_perform_X5_ends : GoodIn wsX5_perform wsX5_ends := goodIn_r _ [150, 44, 43, 151, 152, 153, 154, 155, 156, 157, 158, 159, 160, 161, 162, 163, 164, 165, 166, 167, 168, 169, 170] (by decide +kernel) (by decide +kernel)
set_option maxRecDepth 20000 in
theorem gX5_perform_X5_ends : GoodIn wsX5_perform (wsV RX5 123 RX5 yX5_ends wsX5_ends) := goodIn_app (goodIn_of _ (by decide +kernel)) ggX5_perform_X5_ends
set_option maxRecDepth 20000 in
theorem ggX5_perform_X5_takesOne : GoodIn wsX5_perform wsX5_takesOne := goodIn_r _ [20, 1, 21, 22, 23, 8, 24, 10, 15, 25, 26, 27, 153, 154, 155, 156, 157, 158, 159, 160, 161, 162, 163, 164, 165, 166, 167, 168, 169, 170] (by decide +kernel) (by decide +kernel)
set_option maxRecDepth 20000 in
theorem gX5_perform_X5_takesOne : GoodIn wsX5_perform (wsV RX5 161 RX5 yX5_takesOne wsX5_takesOne) := goodIn_app (goodIn_of _ (by decide +kernel)) ggX5_perform_X5_takesOne
theorem dX5_perform_0 : decode cX5_perform 0 = .ok (.aload_n 0, 1) := by decide +kernel
theorem dX5_perform_1 : decode cX5_perform 1 = .ok (.invokevirtual 177, 3) := by decide +kernel
theorem dX5_perform_4 : decode cX5_perform 4 = .ok (.istore_n 1, 1) := by decide +kernel
theorem dX5_perform_5 : decode cX5_perform 5 = .ok (.iload_n 1, 1) := by decide +kernel
theorem dX5_perform_6 : decode cX5_perform 6 = .ok (.bipush (-5), 2) := by decide +kernel
theorem dX5_perform_8 : decode cX5_perform 8 = .ok (.if_icmp .eq 8, 3) := by decide +kernel
theorem dX5_perform_11 : decode cX5_perform 11 = .ok (.bipush (-100), 2) := by decide +kernel
theorem dX5_perform_13 : decode cX5_perform 13 = .ok (.iload_n 1, 1) := by decide +kernel
theorem dX5_perform_14 : decode cX5_perform 14 = .ok (.isub, 1) := by decide +kernel
theorem dX5_perform_15 : decode cX5_perform 15 = .ok (.ireturn, 1) := by decide +kernel
theorem dX5_perform_16 : decode cX5_perform 16 = .ok (.aload_n 0, 1) := by decide +kernel
theorem dX5_perform_17 : decode cX5_perform 17 = .ok (.invokevirtual 117, 3) := by decide +kernel
theorem dX5_perform_20 : decode cX5_perform 20 = .ok (.aload_n 0, 1) := by decide +kernel
theorem dX5_perform_21 : decode cX5_perform 21 = .ok (.iconst 0, 1) := by decide +kernel
theorem dX5_perform_22 : decode cX5_perform 22 = .ok (.putfield 146, 3) := by decide +kernel
theorem dX5_perform_25 : decode cX5_perform 25 = .ok (.iconst 0, 1) := by decide +kernel
theorem dX5_perform_26 : decode cX5_perform 26 = .ok (.istore_n 2, 1) := by decide +kernel
theorem dX5_perform_27 : decode cX5_perform 27 = .ok (.iconst 1, 1) := by decide +kernel
theorem dX5_perform_28 : decode cX5_perform 28 = .ok (.istore_n 3, 1) := by decide +kernel
theorem dX5_perform_29 : decode cX5_perform 29 = .ok (.iload_n 3, 1) := by decide +kernel
theorem dX5_perform_30 : decode cX5_perform 30 = .ok (.ifCond .eq 56, 3) := by decide +kernel
theorem dX5_perform_33 : decode cX5_perform 33 = .ok (.aload_n 0, 1) := by decide +kernel
theorem dX5_perform_34 : decode cX5_perform 34 = .ok (.invokevirtual 174, 3) := by decide +kernel
theorem dX5_perform_37 : decode cX5_perform 37 = .ok (.istore 4, 2) := by decide +kernel
theorem dX5_perform_39 : decode cX5_perform 39 = .ok (.aload_n 0, 1) := by decide +kernel
theorem dX5_perform_40 : decode cX5_perform 40 = .ok (.invokevirtual 180, 3) := by decide +kernel
theorem dX5_perform_43 : decode cX5_perform 43 = .ok (.istore 5, 2) := by decide +kernel
theorem dX5_perform_45 : decode cX5_perform 45 = .ok (.iload 5, 2) := by decide +kernel
theorem dX5_perform_47 : decode cX5_perform 47 = .ok (.ifCond .ge 26, 3) := by decide +kernel
theorem dX5_perform_50 : decode cX5_perform 50 = .ok (.aload_n 0, 1) := by decide +kernel
theorem dX5_perform_51 : decode cX5_perform 51 = .ok (.iconst 1, 1) := by decide +kernel
theorem dX5_perform_52 : decode cX5_perform 52 = .ok (.putfield 183, 3) := by decide +kernel
theorem dX5_perform_55 : decode cX5_perform 55 = .ok (.aload_n 0, 1) := by decide +kernel
theorem dX5_perform_56 : decode cX5_perform 56 = .ok (.iload_n 2, 1) := by decide +kernel
theorem dX5_perform_57 : decode cX5_perform 57 = .ok (.putfield 186, 3) := by decide +kernel
theorem dX5_perform_60 : decode cX5_perform 60 = .ok (.aload_n 0, 1) := by decide +kernel
theorem dX5_perform_61 : decode cX5_perform 61 = .ok (.iload 5, 2) := by decide +kernel
theorem dX5_perform_63 : decode cX5_perform 63 = .ok (.putfield 189, 3) := by decide +kernel
theorem dX5_perform_66 : decode cX5_perform 66 = .ok (.aload_n 0, 1) := by decide +kernel
theorem dX5_perform_67 : decode cX5_perform 67 = .ok (.bipush (-4), 2) := by decide +kernel
theorem dX5_perform_69 : decode cX5_perform 69 = .ok (.invokevirtual 123, 3) := by decide +kernel
theorem dX5_perform_72 : decode cX5_perform 72 = .ok (.ireturn, 1) := by decide +kernel
theorem dX5_perform_73 : decode cX5_perform 73 = .ok (.iinc 2 1, 3) := by decide +kernel
theorem dX5_perform_76 : decode cX5_perform 76 = .ok (.aload_n 0, 1) := by decide +kernel
theorem dX5_perform_77 : decode cX5_perform 77 = .ok (.bipush 59, 2) := by decide +kernel
theorem dX5_perform_79 : decode cX5_perform 79 = .ok (.invokevirtual 161, 3) := by decide +kernel
theorem dX5_perform_82 : decode cX5_perform 82 = .ok (.istore_n 3, 1) := by decide +kernel
theorem dX5_perform_83 : decode cX5_perform 83 = .ok (.goto (-54), 3) := by decide +kernel
theorem dX5_perform_86 : decode cX5_perform 86 = .ok (.aload_n 0, 1) := by decide +kernel
theorem dX5_perform_87 : decode cX5_perform 87 = .ok (.iload_n 2, 1) := by decide +kernel
theorem dX5_perform_88 : decode cX5_perform 88 = .ok (.invokevirtual 123, 3) := by decide +kernel
theorem dX5_perform_91 : decode cX5_perform 91 = .ok (.ireturn, 1) := by decide +kernel
set_option maxRecDepth 20000 in
theorem ggX5_stopped_X5_in : GoodIn wsX5_stopped wsX5_in := goodIn_r _ [7] (by decide +kernel) (by decide +kernel)
set_option maxRecDepth 20000 in
theorem gX5_stopped_X5_in : GoodIn wsX5_stopped (va_wsS RX5 35 yX5_in wsX5_in) := goodIn_app (goodIn_of _ (by decide +kernel)) ggX5_stopped_X5_in
theorem dX5_stopped_0 : decode cX5_stopped 0 = .ok (.iload_n 1, 1) := by decide +kernel
theorem dX5_stopped_1 : decode cX5_stopped 1 = .ok (.i2l, 1) := by decide +kernel
theorem dX5_stopped_2 : decode cX5_stopped 2 = .ok (.lconst 0, 1) := by decide +kernel
theorem dX5_stopped_3 : decode cX5_stopped 3 = .ok (.lconst 1, 1) := by decide +kernel
theorem dX5_stopped_4 : decode cX5_stopped 4 = .ok (.invokestatic 35, 3) := by decide +kernel
theorem dX5_stopped_7 : decode cX5_stopped 7 = .ok (.ifCond .ne 8, 3) := by decide +kernel
theorem dX5_stopped_10 : decode cX5_stopped 10 = .ok (.bipush (-2), 2) := by decide +kernel
theorem dX5_stopped_12 : decode cX5_stopped 12 = .ok (.goto 30, 3) := by decide +kernel
theorem dX5_stopped_15 : decode cX5_stopped 15 = .ok (.aload_n 0, 1) := by decide +kernel
theorem dX5_stopped_16 : decode cX5_stopped 16 = .ok (.getfield 183, 3) := by decide +kernel
theorem dX5_stopped_19 : decode cX5_stopped 19 = .ok (.ifCond .ne 8, 3) := by decide +kernel
theorem dX5_stopped_22 : decode cX5_stopped 22 = .ok (.bipush (-5), 2) := by decide +kernel
theorem dX5_stopped_24 : decode cX5_stopped 24 = .ok (.goto 18, 3) := by decide +kernel
theorem dX5_stopped_27 : decode cX5_stopped 27 = .ok (.iload_n 1, 1) := by decide +kernel
theorem dX5_stopped_28 : decode cX5_stopped 28 = .ok (.ifCond .ne 10, 3) := by decide +kernel
theorem dX5_stopped_31 : decode cX5_stopped 31 = .ok (.aload_n 0, 1) := by decide +kernel
theorem dX5_stopped_32 : decode cX5_stopped 32 = .ok (.getfield 186, 3) := by decide +kernel
theorem dX5_stopped_35 : decode cX5_stopped 35 = .ok (.goto 7, 3) := by decide +kernel
theorem dX5_stopped_38 : decode cX5_stopped 38 = .ok (.aload_n 0, 1) := by decide +kernel
theorem dX5_stopped_39 : decode cX5_stopped 39 = .ok (.getfield 189, 3) := by decide +kernel
theorem dX5_stopped_42 : decode cX5_stopped 42 = .ok (.ireturn, 1) := by decide +kernel
theorem dX5_undo_0 : decode cX5_undo 0 = .ok (.aload_n 0, 1) := by decide +kernel
theorem dX5_undo_1 : decode cX5_undo 1 = .ok (.getfield 31, 3) := by decide +kernel
theorem dX5_undo_4 : decode cX5_undo 4 = .ok (.ifCond .ne 6, 3) := by decide +kernel
theorem dX5_undo_7 : decode cX5_undo 7 = .ok (.bipush (-5), 2) := by decide +kernel
theorem dX5_undo_9 : decode cX5_undo 9 = .ok (.ireturn, 1) := by decide +kernel
theorem dX5_undo_10 : decode cX5_undo 10 = .ok (.aload_n 0, 1) := by decide +kernel
theorem dX5_undo_11 : decode cX5_undo 11 = .ok (.dup, 1) := by decide +kernel
theorem dX5_undo_12 : decode cX5_undo 12 = .ok (.getfield 31, 3) := by decide +kernel
theorem dX5_undo_15 : decode cX5_undo 15 = .ok (.iconst 1, 1) := by decide +kernel
theorem dX5_undo_16 : decode cX5_undo 16 = .ok (.isub, 1) := by decide +kernel
theorem dX5_undo_17 : decode cX5_undo 17 = .ok (.putfield 31, 3) := by decide +kernel
theorem dX5_undo_20 : decode cX5_undo 20 = .ok (.iconst 0, 1) := by decide +kernel
theorem dX5_undo_21 : decode cX5_undo 21 = .ok (.istore_n 1, 1) := by decide +kernel
theorem dX5_undo_22 : decode cX5_undo 22 = .ok (.iload_n 1, 1) := by decide +kernel
theorem dX5_undo_23 : decode cX5_undo 23 = .ok (.sipush 217, 3) := by decide +kernel
theorem dX5_undo_26 : decode cX5_undo 26 = .ok (.if_icmp .ge 30, 3) := by decide +kernel
theorem dX5_undo_29 : decode cX5_undo 29 = .ok (.aload_n 0, 1) := by decide +kernel
theorem dX5_undo_30 : decode cX5_undo 30 = .ok (.getfield 7, 3) := by decide +kernel
theorem dX5_undo_33 : decode cX5_undo 33 = .ok (.iload_n 1, 1) := by decide +kernel
theorem dX5_undo_34 : decode cX5_undo 34 = .ok (.aload_n 0, 1) := by decide +kernel
theorem dX5_undo_35 : decode cX5_undo 35 = .ok (.getfield 19, 3) := by decide +kernel
theorem dX5_undo_38 : decode cX5_undo 38 = .ok (.sipush 217, 3) := by decide +kernel
theorem dX5_undo_41 : decode cX5_undo 41 = .ok (.aload_n 0, 1) := by decide +kernel
theorem dX5_undo_42 : decode cX5_undo 42 = .ok (.getfield 31, 3) := by decide +kernel
theorem dX5_undo_45 : decode cX5_undo 45 = .ok (.imul, 1) := by decide +kernel
theorem dX5_undo_46 : decode cX5_undo 46 = .ok (.iload_n 1, 1) := by decide +kernel
theorem dX5_undo_47 : decode cX5_undo 47 = .ok (.iadd, 1) := by decide +kernel
theorem dX5_undo_48 : decode cX5_undo 48 = .ok (.iaload, 1) := by decide +kernel
theorem dX5_undo_49 : decode cX5_undo 49 = .ok (.iastore, 1) := by decide +kernel
theorem dX5_undo_50 : decode cX5_undo 50 = .ok (.iinc 1 1, 3) := by decide +kernel
theorem dX5_undo_53 : decode cX5_undo 53 = .ok (.goto (-31), 3) := by decide +kernel
theorem dX5_undo_56 : decode cX5_undo 56 = .ok (.aload_n 0, 1) := by decide +kernel
theorem dX5_undo_57 : decode cX5_undo 57 = .ok (.getfield 31, 3) := by decide +kernel
theorem dX5_undo_60 : decode cX5_undo 60 = .ok (.ireturn, 1) := by decide +kernel
theorem dX5_keep_0 : decode cX5_keep 0 = .ok (.iconst 0, 1) := by decide +kernel
theorem dX5_keep_1 : decode cX5_keep 1 = .ok (.istore_n 1, 1) := by decide +kernel
theorem dX5_keep_2 : decode cX5_keep 2 = .ok (.iload_n 1, 1) := by decide +kernel
theorem dX5_keep_3 : decode cX5_keep 3 = .ok (.sipush 217, 3) := by decide +kernel
theorem dX5_keep_6 : decode cX5_keep 6 = .ok (.if_icmp .ge 21, 3) := by decide +kernel
theorem dX5_keep_9 : decode cX5_keep 9 = .ok (.aload_n 0, 1) := by decide +kernel
theorem dX5_keep_10 : decode cX5_keep 10 = .ok (.getfield 22, 3) := by decide +kernel
theorem dX5_keep_13 : decode cX5_keep 13 = .ok (.iload_n 1, 1) := by decide +kernel
theorem dX5_keep_14 : decode cX5_keep 14 = .ok (.aload_n 0, 1) := by decide +kernel
theorem dX5_keep_15 : decode cX5_keep 15 = .ok (.getfield 7, 3) := by decide +kernel
theorem dX5_keep_18 : decode cX5_keep 18 = .ok (.iload_n 1, 1) := by decide +kernel
theorem dX5_keep_19 : decode cX5_keep 19 = .ok (.iaload, 1) := by decide +kernel
theorem dX5_keep_20 : decode cX5_keep 20 = .ok (.iastore, 1) := by decide +kernel
theorem dX5_keep_21 : decode cX5_keep 21 = .ok (.iinc 1 1, 3) := by decide +kernel
theorem dX5_keep_24 : decode cX5_keep 24 = .ok (.goto (-22), 3) := by decide +kernel
theorem dX5_keep_27 : decode cX5_keep 27 = .ok (.aload_n 0, 1) := by decide +kernel
theorem dX5_keep_28 : decode cX5_keep 28 = .ok (.iconst 1, 1) := by decide +kernel
theorem dX5_keep_29 : decode cX5_keep 29 = .ok (.putfield 192, 3) := by decide +kernel
theorem dX5_keep_32 : decode cX5_keep 32 = .ok (.aload_n 0, 1) := by decide +kernel
theorem dX5_keep_33 : decode cX5_keep 33 = .ok (.getfield 7, 3) := by decide +kernel
theorem dX5_keep_36 : decode cX5_keep 36 = .ok (.bipush 11, 2) := by decide +kernel
theorem dX5_keep_38 : decode cX5_keep 38 = .ok (.iaload, 1) := by decide +kernel
theorem dX5_keep_39 : decode cX5_keep 39 = .ok (.ireturn, 1) := by decide +kernel
set_option maxRecDepth 20000 in
theorem ggX5_restore_X5_keeps : GoodIn wsX5_restore wsX5_keeps := goodIn_r _ [8, 9, 2, 16, 17, 18, 19, 20, 21, 22, 23, 24, 25, 26, 27, 28, 29, 30, 31, 32, 33] (by decide +kernel) (by decide +kernel)
set_option maxRecDepth 20000 in
theorem gX5_restore_X5_keeps : GoodIn wsX5_restore (wsV RX5 117 RX5 yX5_keeps wsX5_keeps) := goodIn_app (goodIn_of _ (by decide +kernel)) ggX5_restore_X5_keeps
set_option maxRecDepth 20000 in
theorem ggX5_restore_X5_ends : GoodIn wsX5_restore wsX5_ends := goodIn_r _ [13, 2, 9, 14, 15, 16, 17, 18, 19, 20, 21, 22, 23, 24, 25, 26, 27, 28, 29, 30, 31, 32, 33] (by decide +kernel) (by decide +kernel)
set_option maxRecDepth 20000 in
theorem gX5_restore_X5_ends : GoodIn wsX5_restore (wsV RX5 123 RX5 yX5_ends wsX5_ends) := goodIn_app (goodIn_of _ (by decide +kernel)) ggX5_restore_X5_ends
theorem dX5_restore_0 : decode cX5_restore 0 = .ok (.aload_n 0, 1) := by decide +kernel
theorem dX5_restore_1 : decode cX5_restore 1 = .ok (.getfield 192, 3) := by decide +kernel
theorem dX5_restore_4 : decode cX5_restore 4 = .ok (.ifCond .ne 6, 3) := by decide +kernel
theorem dX5_restore_7 : decode cX5_restore 7 = .ok (.bipush (-5), 2) := by decide +kernel
theorem dX5_restore_9 : decode cX5_restore 9 = .ok (.ireturn, 1) := by decide +kernel
theorem dX5_restore_10 : decode cX5_restore 10 = .ok (.aload_n 0, 1) := by decide +kernel
theorem dX5_restore_11 : decode cX5_restore 11 = .ok (.invokevirtual 117, 3) := by decide +kernel
theorem dX5_restore_14 : decode cX5_restore 14 = .ok (.iconst 0, 1) := by decide +kernel
theorem dX5_restore_15 : decode cX5_restore 15 = .ok (.istore_n 1, 1) := by decide +kernel
theorem dX5_restore_16 : decode cX5_restore 16 = .ok (.iload_n 1, 1) := by decide +kernel
theorem dX5_restore_17 : decode cX5_restore 17 = .ok (.sipush 217, 3) := by decide +kernel
theorem dX5_restore_20 : decode cX5_restore 20 = .ok (.if_icmp .ge 21, 3) := by decide +kernel
theorem dX5_restore_23 : decode cX5_restore 23 = .ok (.aload_n 0, 1) := by decide +kernel
theorem dX5_restore_24 : decode cX5_restore 24 = .ok (.getfield 7, 3) := by decide +kernel
theorem dX5_restore_27 : decode cX5_restore 27 = .ok (.iload_n 1, 1) := by decide +kernel
theorem dX5_restore_28 : decode cX5_restore 28 = .ok (.aload_n 0, 1) := by decide +kernel
theorem dX5_restore_29 : decode cX5_restore 29 = .ok (.getfield 22, 3) := by decide +kernel
theorem dX5_restore_32 : decode cX5_restore 32 = .ok (.iload_n 1, 1) := by decide +kernel
theorem dX5_restore_33 : decode cX5_restore 33 = .ok (.iaload, 1) := by decide +kernel
theorem dX5_restore_34 : decode cX5_restore 34 = .ok (.iastore, 1) := by decide +kernel
theorem dX5_restore_35 : decode cX5_restore 35 = .ok (.iinc 1 1, 3) := by decide +kernel
theorem dX5_restore_38 : decode cX5_restore 38 = .ok (.goto (-22), 3) := by decide +kernel
theorem dX5_restore_41 : decode cX5_restore 41 = .ok (.aload_n 0, 1) := by decide +kernel
theorem dX5_restore_42 : decode cX5_restore 42 = .ok (.aload_n 0, 1) := by decide +kernel
theorem dX5_restore_43 : decode cX5_restore 43 = .ok (.getfield 7, 3) := by decide +kernel
theorem dX5_restore_46 : decode cX5_restore 46 = .ok (.bipush 11, 2) := by decide +kernel
theorem dX5_restore_48 : decode cX5_restore 48 = .ok (.iaload, 1) := by decide +kernel
theorem dX5_restore_49 : decode cX5_restore 49 = .ok (.invokevirtual 123, 3) := by decide +kernel
theorem dX5_restore_52 : decode cX5_restore 52 = .ok (.ireturn, 1) := by decide +kernel
set_option maxRecDepth 20000 in
theorem ggX5_king_X5_isKing : GoodIn wsX5_king wsX5_isKing := goodIn_r _ [5, 6, 7, 8, 4, 9, 26, 27, 28, 29, 30, 31, 32, 33, 34, 35, 36, 37, 38, 39, 40, 41, 42, 43] (by decide +kernel) (by decide +kernel)
set_option maxRecDepth 20000 in
theorem gX5_king_X5_isKing : GoodIn wsX5_king (wsV RX5 101 RX5 yX5_isKing wsX5_isKing) := goodIn_app (goodIn_of _ (by decide +kernel)) ggX5_king_X5_isKing
set_option maxRecDepth 20000 in
theorem ggX5_king_X5_get : GoodIn wsX5_king wsX5_get := goodIn_r _ [13, 6, 26, 27, 28, 29, 30, 31, 32, 33, 34, 35, 36, 37, 38, 39, 40, 41, 42, 43] (by decide +kernel) (by decide +kernel)
set_option maxRecDepth 20000 in
theorem gX5_king_X5_get : GoodIn wsX5_king (wsV RX5 39 RX5 yX5_get wsX5_get) := goodIn_app (goodIn_of _ (by decide +kernel)) ggX5_king_X5_get
set_option maxRecDepth 20000 in
theorem ggX5_king_X5_seatOf : GoodIn wsX5_king wsX5_seatOf := goodIn_r _ [17, 6, 18, 19, 20, 4, 21, 26, 27, 28, 29, 30, 31, 32, 33, 34, 35, 36, 37, 38, 39, 40, 41, 42, 43] (by decide +kernel) (by decide +kernel)
set_option maxRecDepth 20000 in
theorem gX5_king_X5_seatOf : GoodIn wsX5_king (wsV RX5 104 RX5 yX5_seatOf wsX5_seatOf) := goodIn_app (goodIn_of _ (by decide +kernel)) ggX5_king_X5_seatOf
set_option maxRecDepth 20000 in
theorem ggX5_king_X5_waitOf : GoodIn wsX5_king wsX5_waitOf := goodIn_r _ [25, 6, 18, 19, 20, 4, 21, 26, 27, 28, 29, 30, 31, 32, 33, 34, 35, 36, 37, 38, 39, 40, 41, 42, 43] (by decide +kernel) (by decide +kernel)
set_option maxRecDepth 20000 in
theorem gX5_king_X5_waitOf : GoodIn wsX5_king (wsV RX5 108 RX5 yX5_waitOf wsX5_waitOf) := goodIn_app (goodIn_of _ (by decide +kernel)) ggX5_king_X5_waitOf
theorem dX5_king_0 : decode cX5_king 0 = .ok (.aload_n 0, 1) := by decide +kernel
theorem dX5_king_1 : decode cX5_king 1 = .ok (.iload_n 1, 1) := by decide +kernel
theorem dX5_king_2 : decode cX5_king 2 = .ok (.invokevirtual 101, 3) := by decide +kernel
theorem dX5_king_5 : decode cX5_king 5 = .ok (.ifCond .ne 5, 3) := by decide +kernel
theorem dX5_king_8 : decode cX5_king 8 = .ok (.iconst (-1), 1) := by decide +kernel
theorem dX5_king_9 : decode cX5_king 9 = .ok (.ireturn, 1) := by decide +kernel
theorem dX5_king_10 : decode cX5_king 10 = .ok (.iload_n 2, 1) := by decide +kernel
theorem dX5_king_11 : decode cX5_king 11 = .ok (.tableswitch 80 0 8 #[49, 49, 49, 49, 56, 62, 68, 68, 68], 49) := by decide +kernel
theorem dX5_king_60 : decode cX5_king 60 = .ok (.aload_n 0, 1) := by decide +kernel
theorem dX5_king_61 : decode cX5_king 61 = .ok (.iload_n 1, 1) := by decide +kernel
theorem dX5_king_62 : decode cX5_king 62 = .ok (.iload_n 2, 1) := by decide +kernel
theorem dX5_king_63 : decode cX5_king 63 = .ok (.invokevirtual 39, 3) := by decide +kernel
theorem dX5_king_66 : decode cX5_king 66 = .ok (.ireturn, 1) := by decide +kernel
theorem dX5_king_67 : decode cX5_king 67 = .ok (.aload_n 0, 1) := by decide +kernel
theorem dX5_king_68 : decode cX5_king 68 = .ok (.iload_n 1, 1) := by decide +kernel
theorem dX5_king_69 : decode cX5_king 69 = .ok (.invokevirtual 104, 3) := by decide +kernel
theorem dX5_king_72 : decode cX5_king 72 = .ok (.ireturn, 1) := by decide +kernel
theorem dX5_king_73 : decode cX5_king 73 = .ok (.aload_n 0, 1) := by decide +kernel
theorem dX5_king_74 : decode cX5_king 74 = .ok (.iload_n 1, 1) := by decide +kernel
theorem dX5_king_75 : decode cX5_king 75 = .ok (.invokevirtual 108, 3) := by decide +kernel
theorem dX5_king_78 : decode cX5_king 78 = .ok (.ireturn, 1) := by decide +kernel
theorem dX5_king_79 : decode cX5_king 79 = .ok (.aload_n 0, 1) := by decide +kernel
theorem dX5_king_80 : decode cX5_king 80 = .ok (.iload_n 1, 1) := by decide +kernel
theorem dX5_king_81 : decode cX5_king 81 = .ok (.iconst 4, 1) := by decide +kernel
theorem dX5_king_82 : decode cX5_king 82 = .ok (.iload_n 2, 1) := by decide +kernel
theorem dX5_king_83 : decode cX5_king 83 = .ok (.iadd, 1) := by decide +kernel
theorem dX5_king_84 : decode cX5_king 84 = .ok (.bipush 6, 2) := by decide +kernel
theorem dX5_king_86 : decode cX5_king 86 = .ok (.isub, 1) := by decide +kernel
theorem dX5_king_87 : decode cX5_king 87 = .ok (.invokevirtual 39, 3) := by decide +kernel
theorem dX5_king_90 : decode cX5_king 90 = .ok (.ireturn, 1) := by decide +kernel
theorem dX5_king_91 : decode cX5_king 91 = .ok (.bipush (-2), 2) := by decide +kernel
theorem dX5_king_93 : decode cX5_king 93 = .ok (.ireturn, 1) := by decide +kernel
set_option maxRecDepth 20000 in
theorem ggX5_seat_X5_in : GoodIn wsX5_seat wsX5_in := goodIn_r _ [6] (by decide +kernel) (by decide +kernel)
set_option maxRecDepth 20000 in
theorem gX5_seat_X5_in : GoodIn wsX5_seat (va_wsS RX5 35 yX5_in wsX5_in) := goodIn_app (goodIn_of _ (by decide +kernel)) ggX5_seat_X5_in
theorem dX5_seat_0 : decode cX5_seat 0 = .ok (.iload_n 1, 1) := by decide +kernel
theorem dX5_seat_1 : decode cX5_seat 1 = .ok (.i2l, 1) := by decide +kernel
theorem dX5_seat_2 : decode cX5_seat 2 = .ok (.lconst 0, 1) := by decide +kernel
theorem dX5_seat_3 : decode cX5_seat 3 = .ok (.ldc2_w 195, 3) := by decide +kernel
theorem dX5_seat_6 : decode cX5_seat 6 = .ok (.invokestatic 35, 3) := by decide +kernel
theorem dX5_seat_9 : decode cX5_seat 9 = .ok (.ifCond .ne 7, 3) := by decide +kernel
theorem dX5_seat_12 : decode cX5_seat 12 = .ok (.iconst (-1), 1) := by decide +kernel
theorem dX5_seat_13 : decode cX5_seat 13 = .ok (.goto 28, 3) := by decide +kernel
theorem dX5_seat_16 : decode cX5_seat 16 = .ok (.iload_n 1, 1) := by decide +kernel
theorem dX5_seat_17 : decode cX5_seat 17 = .ok (.aload_n 0, 1) := by decide +kernel
theorem dX5_seat_18 : decode cX5_seat 18 = .ok (.getfield 7, 3) := by decide +kernel
theorem dX5_seat_21 : decode cX5_seat 21 = .ok (.bipush 11, 2) := by decide +kernel
theorem dX5_seat_23 : decode cX5_seat 23 = .ok (.iaload, 1) := by decide +kernel
theorem dX5_seat_24 : decode cX5_seat 24 = .ok (.if_icmp .ge 15, 3) := by decide +kernel
theorem dX5_seat_27 : decode cX5_seat 27 = .ok (.aload_n 0, 1) := by decide +kernel
theorem dX5_seat_28 : decode cX5_seat 28 = .ok (.getfield 7, 3) := by decide +kernel
theorem dX5_seat_31 : decode cX5_seat 31 = .ok (.bipush 12, 2) := by decide +kernel
theorem dX5_seat_33 : decode cX5_seat 33 = .ok (.iload_n 1, 1) := by decide +kernel
theorem dX5_seat_34 : decode cX5_seat 34 = .ok (.iadd, 1) := by decide +kernel
theorem dX5_seat_35 : decode cX5_seat 35 = .ok (.iaload, 1) := by decide +kernel
theorem dX5_seat_36 : decode cX5_seat 36 = .ok (.goto 5, 3) := by decide +kernel
theorem dX5_seat_39 : decode cX5_seat 39 = .ok (.bipush (-5), 2) := by decide +kernel
theorem dX5_seat_41 : decode cX5_seat 41 = .ok (.ireturn, 1) := by decide +kernel
theorem dX5_waits_0 : decode cX5_waits 0 = .ok (.iload_n 1, 1) := by decide +kernel
theorem dX5_waits_1 : decode cX5_waits 1 = .ok (.ifCond .ge 8, 3) := by decide +kernel
theorem dX5_waits_4 : decode cX5_waits 4 = .ok (.bipush (-2), 2) := by decide +kernel
theorem dX5_waits_6 : decode cX5_waits 6 = .ok (.goto 28, 3) := by decide +kernel
theorem dX5_waits_9 : decode cX5_waits 9 = .ok (.iload_n 1, 1) := by decide +kernel
theorem dX5_waits_10 : decode cX5_waits 10 = .ok (.aload_n 0, 1) := by decide +kernel
theorem dX5_waits_11 : decode cX5_waits 11 = .ok (.getfield 7, 3) := by decide +kernel
theorem dX5_waits_14 : decode cX5_waits 14 = .ok (.bipush 24, 2) := by decide +kernel
theorem dX5_waits_16 : decode cX5_waits 16 = .ok (.iaload, 1) := by decide +kernel
theorem dX5_waits_17 : decode cX5_waits 17 = .ok (.if_icmp .ge 15, 3) := by decide +kernel
theorem dX5_waits_20 : decode cX5_waits 20 = .ok (.aload_n 0, 1) := by decide +kernel
theorem dX5_waits_21 : decode cX5_waits 21 = .ok (.getfield 7, 3) := by decide +kernel
theorem dX5_waits_24 : decode cX5_waits 24 = .ok (.bipush 25, 2) := by decide +kernel
theorem dX5_waits_26 : decode cX5_waits 26 = .ok (.iload_n 1, 1) := by decide +kernel
theorem dX5_waits_27 : decode cX5_waits 27 = .ok (.iadd, 1) := by decide +kernel
theorem dX5_waits_28 : decode cX5_waits 28 = .ok (.iaload, 1) := by decide +kernel
theorem dX5_waits_29 : decode cX5_waits 29 = .ok (.goto 5, 3) := by decide +kernel
theorem dX5_waits_32 : decode cX5_waits 32 = .ok (.bipush (-5), 2) := by decide +kernel
theorem dX5_waits_34 : decode cX5_waits 34 = .ok (.ireturn, 1) := by decide +kernel
set_option maxRecDepth 20000 in
theorem ggX5_reason_X5_isKing : GoodIn wsX5_reason wsX5_isKing := goodIn_r _ [5, 6, 7, 8, 4, 9, 26, 27, 28, 29, 30, 31, 32, 33, 34, 35, 36, 37, 38, 39, 40, 41, 42, 43] (by decide +kernel) (by decide +kernel)
set_option maxRecDepth 20000 in
theorem gX5_reason_X5_isKing : GoodIn wsX5_reason (wsV RX5 101 RX5 yX5_isKing wsX5_isKing) := goodIn_app (goodIn_of _ (by decide +kernel)) ggX5_reason_X5_isKing
set_option maxRecDepth 20000 in
theorem ggX5_reason_X5_seatOf : GoodIn wsX5_reason wsX5_seatOf := goodIn_r _ [13, 6, 14, 15, 16, 4, 17, 26, 27, 28, 29, 30, 31, 32, 33, 34, 35, 36, 37, 38, 39, 40, 41, 42, 43] (by decide +kernel) (by decide +kernel)
set_option maxRecDepth 20000 in
theorem gX5_reason_X5_seatOf : GoodIn wsX5_reason (wsV RX5 104 RX5 yX5_seatOf wsX5_seatOf) := goodIn_app (goodIn_of _ (by decide +kernel)) ggX5_reason_X5_seatOf
set_option maxRecDepth 20000 in
theorem ggX5_reason_X5_isGreater : GoodIn wsX5_reason wsX5_isGreater := goodIn_r _ [21, 22, 23, 24, 4, 25, 6, 26, 27, 28, 29, 30, 31, 32, 33, 34, 35, 36, 37, 38, 39, 40, 41, 42, 43] (by decide +kernel) (by decide +kernel)
set_option maxRecDepth 20000 in
theorem gX5_reason_X5_isGreater : GoodIn wsX5_reason (wsV RX5 47 RX5 yX5_isGreater wsX5_isGreater) := goodIn_app (goodIn_of _ (by decide +kernel)) ggX5_reason_X5_isGreater
set_option maxRecDepth 20000 in
theorem ggX5_reason_X5_get : GoodIn wsX5_reason wsX5_get := goodIn_r _ [25, 6, 26, 27, 28, 29, 30, 31, 32, 33, 34, 35, 36, 37, 38, 39, 40, 41, 42, 43] (by decide +kernel) (by decide +kernel)
set_option maxRecDepth 20000 in
theorem gX5_reason_X5_get : GoodIn wsX5_reason (wsV RX5 39 RX5 yX5_get wsX5_get) := goodIn_app (goodIn_of _ (by decide +kernel)) ggX5_reason_X5_get
theorem dX5_reason_0 : decode cX5_reason 0 = .ok (.aload_n 0, 1) := by decide +kernel
theorem dX5_reason_1 : decode cX5_reason 1 = .ok (.iload_n 1, 1) := by decide +kernel
theorem dX5_reason_2 : decode cX5_reason 2 = .ok (.invokevirtual 101, 3) := by decide +kernel
theorem dX5_reason_5 : decode cX5_reason 5 = .ok (.ifCond .eq 11, 3) := by decide +kernel
theorem dX5_reason_8 : decode cX5_reason 8 = .ok (.aload_n 0, 1) := by decide +kernel
theorem dX5_reason_9 : decode cX5_reason 9 = .ok (.iload_n 2, 1) := by decide +kernel
theorem dX5_reason_10 : decode cX5_reason 10 = .ok (.invokevirtual 101, 3) := by decide +kernel
theorem dX5_reason_13 : decode cX5_reason 13 = .ok (.ifCond .ne 5, 3) := by decide +kernel
theorem dX5_reason_16 : decode cX5_reason 16 = .ok (.iconst (-1), 1) := by decide +kernel
theorem dX5_reason_17 : decode cX5_reason 17 = .ok (.ireturn, 1) := by decide +kernel
theorem dX5_reason_18 : decode cX5_reason 18 = .ok (.iload_n 1, 1) := by decide +kernel
theorem dX5_reason_19 : decode cX5_reason 19 = .ok (.iload_n 2, 1) := by decide +kernel
theorem dX5_reason_20 : decode cX5_reason 20 = .ok (.if_icmp .ne 6, 3) := by decide +kernel
theorem dX5_reason_23 : decode cX5_reason 23 = .ok (.bipush (-2), 2) := by decide +kernel
theorem dX5_reason_25 : decode cX5_reason 25 = .ok (.ireturn, 1) := by decide +kernel
theorem dX5_reason_26 : decode cX5_reason 26 = .ok (.aload_n 0, 1) := by decide +kernel
theorem dX5_reason_27 : decode cX5_reason 27 = .ok (.iload_n 1, 1) := by decide +kernel
theorem dX5_reason_28 : decode cX5_reason 28 = .ok (.invokevirtual 104, 3) := by decide +kernel
theorem dX5_reason_31 : decode cX5_reason 31 = .ok (.istore_n 3, 1) := by decide +kernel
theorem dX5_reason_32 : decode cX5_reason 32 = .ok (.aload_n 0, 1) := by decide +kernel
theorem dX5_reason_33 : decode cX5_reason 33 = .ok (.iload_n 2, 1) := by decide +kernel
theorem dX5_reason_34 : decode cX5_reason 34 = .ok (.invokevirtual 104, 3) := by decide +kernel
theorem dX5_reason_37 : decode cX5_reason 37 = .ok (.istore 4, 2) := by decide +kernel
theorem dX5_reason_39 : decode cX5_reason 39 = .ok (.iload_n 3, 1) := by decide +kernel
theorem dX5_reason_40 : decode cX5_reason 40 = .ok (.bipush (-5), 2) := by decide +kernel
theorem dX5_reason_42 : decode cX5_reason 42 = .ok (.if_icmp .eq 16, 3) := by decide +kernel
theorem dX5_reason_45 : decode cX5_reason 45 = .ok (.iload 4, 2) := by decide +kernel
theorem dX5_reason_47 : decode cX5_reason 47 = .ok (.bipush (-5), 2) := by decide +kernel
theorem dX5_reason_49 : decode cX5_reason 49 = .ok (.if_icmp .eq 9, 3) := by decide +kernel
theorem dX5_reason_52 : decode cX5_reason 52 = .ok (.iload_n 3, 1) := by decide +kernel
theorem dX5_reason_53 : decode cX5_reason 53 = .ok (.iload 4, 2) := by decide +kernel
theorem dX5_reason_55 : decode cX5_reason 55 = .ok (.if_icmp .le 5, 3) := by decide +kernel
theorem dX5_reason_58 : decode cX5_reason 58 = .ok (.iconst 1, 1) := by decide +kernel
theorem dX5_reason_59 : decode cX5_reason 59 = .ok (.ireturn, 1) := by decide +kernel
theorem dX5_reason_60 : decode cX5_reason 60 = .ok (.aload_n 0, 1) := by decide +kernel
theorem dX5_reason_61 : decode cX5_reason 61 = .ok (.iload_n 2, 1) := by decide +kernel
theorem dX5_reason_62 : decode cX5_reason 62 = .ok (.iload_n 1, 1) := by decide +kernel
theorem dX5_reason_63 : decode cX5_reason 63 = .ok (.invokevirtual 47, 3) := by decide +kernel
theorem dX5_reason_66 : decode cX5_reason 66 = .ok (.ifCond .eq 5, 3) := by decide +kernel
theorem dX5_reason_69 : decode cX5_reason 69 = .ok (.iconst 2, 1) := by decide +kernel
theorem dX5_reason_70 : decode cX5_reason 70 = .ok (.ireturn, 1) := by decide +kernel
theorem dX5_reason_71 : decode cX5_reason 71 = .ok (.aload_n 0, 1) := by decide +kernel
theorem dX5_reason_72 : decode cX5_reason 72 = .ok (.iload_n 1, 1) := by decide +kernel
theorem dX5_reason_73 : decode cX5_reason 73 = .ok (.iconst 0, 1) := by decide +kernel
theorem dX5_reason_74 : decode cX5_reason 74 = .ok (.invokevirtual 39, 3) := by decide +kernel
theorem dX5_reason_77 : decode cX5_reason 77 = .ok (.aload_n 0, 1) := by decide +kernel
theorem dX5_reason_78 : decode cX5_reason 78 = .ok (.iload_n 2, 1) := by decide +kernel
theorem dX5_reason_79 : decode cX5_reason 79 = .ok (.iconst 0, 1) := by decide +kernel
theorem dX5_reason_80 : decode cX5_reason 80 = .ok (.invokevirtual 39, 3) := by decide +kernel
theorem dX5_reason_83 : decode cX5_reason 83 = .ok (.if_icmp .le 7, 3) := by decide +kernel
theorem dX5_reason_86 : decode cX5_reason 86 = .ok (.iconst 0, 1) := by decide +kernel
theorem dX5_reason_87 : decode cX5_reason 87 = .ok (.goto 23, 3) := by decide +kernel
theorem dX5_reason_90 : decode cX5_reason 90 = .ok (.aload_n 0, 1) := by decide +kernel
theorem dX5_reason_91 : decode cX5_reason 91 = .ok (.iload_n 1, 1) := by decide +kernel
theorem dX5_reason_92 : decode cX5_reason 92 = .ok (.iconst 1, 1) := by decide +kernel
theorem dX5_reason_93 : decode cX5_reason 93 = .ok (.invokevirtual 39, 3) := by decide +kernel
theorem dX5_reason_96 : decode cX5_reason 96 = .ok (.aload_n 0, 1) := by decide +kernel
theorem dX5_reason_97 : decode cX5_reason 97 = .ok (.iload_n 2, 1) := by decide +kernel
theorem dX5_reason_98 : decode cX5_reason 98 = .ok (.iconst 1, 1) := by decide +kernel
theorem dX5_reason_99 : decode cX5_reason 99 = .ok (.invokevirtual 39, 3) := by decide +kernel
theorem dX5_reason_102 : decode cX5_reason 102 = .ok (.if_icmp .le 7, 3) := by decide +kernel
theorem dX5_reason_105 : decode cX5_reason 105 = .ok (.iconst 3, 1) := by decide +kernel
theorem dX5_reason_106 : decode cX5_reason 106 = .ok (.goto 4, 3) := by decide +kernel
theorem dX5_reason_109 : decode cX5_reason 109 = .ok (.iconst 4, 1) := by decide +kernel
theorem dX5_reason_110 : decode cX5_reason 110 = .ok (.ireturn, 1) := by decide +kernel
set_option maxRecDepth 20000 in
theorem ggX5_dueIn_X5_isKing : GoodIn wsX5_dueIn wsX5_isKing := goodIn_r _ [5, 6, 7, 8, 4, 9, 55, 56, 57, 58, 59, 60, 61, 62, 63, 64, 65, 66, 67, 68, 69, 70, 71, 72] (by decide +kernel) (by decide +kernel)
set_option maxRecDepth 20000 in
theorem gX5_dueIn_X5_isKing : GoodIn wsX5_dueIn (wsV RX5 101 RX5 yX5_isKing wsX5_isKing) := goodIn_app (goodIn_of _ (by decide +kernel)) ggX5_dueIn_X5_isKing
set_option maxRecDepth 20000 in
theorem ggX5_dueIn_X5_seatOf : GoodIn wsX5_dueIn wsX5_seatOf := goodIn_r _ [13, 6, 14, 15, 16, 4, 17, 55, 56, 57, 58, 59, 60, 61, 62, 63, 64, 65, 66, 67, 68, 69, 70, 71, 72] (by decide +kernel) (by decide +kernel)
set_option maxRecDepth 20000 in
theorem gX5_dueIn_X5_seatOf : GoodIn wsX5_dueIn (wsV RX5 104 RX5 yX5_seatOf wsX5_seatOf) := goodIn_app (goodIn_of _ (by decide +kernel)) ggX5_dueIn_X5_seatOf
set_option maxRecDepth 20000 in
theorem ggX5_dueIn_X5_tries : GoodIn wsX5_dueIn wsX5_tries := goodIn_r _ [21, 22, 6, 55, 56, 57, 58, 59, 60, 61, 62, 63, 64, 65, 66, 67, 68, 69, 70, 71, 72] (by decide +kernel) (by decide +kernel)
set_option maxRecDepth 20000 in
theorem gX5_dueIn_X5_tries : GoodIn wsX5_dueIn (wsV RX5 197 RX5 yX5_tries wsX5_tries) := goodIn_app (goodIn_of _ (by decide +kernel)) ggX5_dueIn_X5_tries
set_option maxRecDepth 20000 in
theorem ggX5_dueIn_X5_isSlightedAt : GoodIn wsX5_dueIn wsX5_isSlightedAt := goodIn_r _ [26, 6, 27, 28, 29, 4, 30, 31, 32, 33, 34, 55, 56, 57, 58, 59, 60, 61, 62, 63, 64, 65, 66, 67, 68, 69, 70, 71, 72] (by decide +kernel) (by decide +kernel)
set_option maxRecDepth 20000 in
theorem gX5_dueIn_X5_isSlightedAt : GoodIn wsX5_dueIn (wsV RX5 63 RX5 yX5_isSlightedAt wsX5_isSlightedAt) := goodIn_app (goodIn_of _ (by decide +kernel)) ggX5_dueIn_X5_isSlightedAt
set_option maxRecDepth 20000 in
theorem ggX5_dueIn_X5_envoysGo : GoodIn wsX5_dueIn wsX5_envoysGo := goodIn_r _ [38, 6, 39, 40, 41, 4, 42, 43, 44, 45, 46, 27, 28, 29, 30, 31, 32, 33, 34, 47, 48, 49, 50, 55, 56, 57, 58, 59, 60, 61, 62, 63, 64, 65, 66, 67, 68, 69, 70, 71, 72] (by decide +kernel) (by decide +kernel)
set_option maxRecDepth 20000 in
theorem gX5_dueIn_X5_envoysGo : GoodIn wsX5_dueIn (wsV RX5 77 RX5 yX5_envoysGo wsX5_envoysGo) := goodIn_app (goodIn_of _ (by decide +kernel)) ggX5_dueIn_X5_envoysGo
set_option maxRecDepth 20000 in
theorem ggX5_dueIn_X5_comesBack : GoodIn wsX5_dueIn wsX5_comesBack := goodIn_r _ [54, 6, 22, 55, 56, 57, 58, 59, 60, 61, 62, 63, 64, 65, 66, 67, 68, 69, 70, 71, 72] (by decide +kernel) (by decide +kernel)
set_option maxRecDepth 20000 in
theorem gX5_dueIn_X5_comesBack : GoodIn wsX5_dueIn (wsV RX5 200 RX5 yX5_comesBack wsX5_comesBack) := goodIn_app (goodIn_of _ (by decide +kernel)) ggX5_dueIn_X5_comesBack
theorem dX5_dueIn_0 : decode cX5_dueIn 0 = .ok (.aload_n 0, 1) := by decide +kernel
theorem dX5_dueIn_1 : decode cX5_dueIn 1 = .ok (.iload_n 1, 1) := by decide +kernel
theorem dX5_dueIn_2 : decode cX5_dueIn 2 = .ok (.invokevirtual 101, 3) := by decide +kernel
theorem dX5_dueIn_5 : decode cX5_dueIn 5 = .ok (.ifCond .ne 5, 3) := by decide +kernel
theorem dX5_dueIn_8 : decode cX5_dueIn 8 = .ok (.iconst (-1), 1) := by decide +kernel
theorem dX5_dueIn_9 : decode cX5_dueIn 9 = .ok (.ireturn, 1) := by decide +kernel
theorem dX5_dueIn_10 : decode cX5_dueIn 10 = .ok (.aload_n 0, 1) := by decide +kernel
theorem dX5_dueIn_11 : decode cX5_dueIn 11 = .ok (.iload_n 1, 1) := by decide +kernel
theorem dX5_dueIn_12 : decode cX5_dueIn 12 = .ok (.invokevirtual 104, 3) := by decide +kernel
theorem dX5_dueIn_15 : decode cX5_dueIn 15 = .ok (.bipush (-5), 2) := by decide +kernel
theorem dX5_dueIn_17 : decode cX5_dueIn 17 = .ok (.if_icmp .ne 6, 3) := by decide +kernel
theorem dX5_dueIn_20 : decode cX5_dueIn 20 = .ok (.bipush (-4), 2) := by decide +kernel
theorem dX5_dueIn_22 : decode cX5_dueIn 22 = .ok (.ireturn, 1) := by decide +kernel
theorem dX5_dueIn_23 : decode cX5_dueIn 23 = .ok (.aload_n 0, 1) := by decide +kernel
theorem dX5_dueIn_24 : decode cX5_dueIn 24 = .ok (.invokevirtual 197, 3) := by decide +kernel
theorem dX5_dueIn_27 : decode cX5_dueIn 27 = .ok (.iconst 0, 1) := by decide +kernel
theorem dX5_dueIn_28 : decode cX5_dueIn 28 = .ok (.istore_n 2, 1) := by decide +kernel
theorem dX5_dueIn_29 : decode cX5_dueIn 29 = .ok (.iload_n 2, 1) := by decide +kernel
theorem dX5_dueIn_30 : decode cX5_dueIn 30 = .ok (.bipush 100, 2) := by decide +kernel
theorem dX5_dueIn_32 : decode cX5_dueIn 32 = .ok (.if_icmp .gt 25, 3) := by decide +kernel
theorem dX5_dueIn_35 : decode cX5_dueIn 35 = .ok (.aload_n 0, 1) := by decide +kernel
theorem dX5_dueIn_36 : decode cX5_dueIn 36 = .ok (.aload_n 0, 1) := by decide +kernel
theorem dX5_dueIn_37 : decode cX5_dueIn 37 = .ok (.iload_n 1, 1) := by decide +kernel
theorem dX5_dueIn_38 : decode cX5_dueIn 38 = .ok (.invokevirtual 104, 3) := by decide +kernel
theorem dX5_dueIn_41 : decode cX5_dueIn 41 = .ok (.invokevirtual 63, 3) := by decide +kernel
theorem dX5_dueIn_44 : decode cX5_dueIn 44 = .ok (.ifCond .eq 13, 3) := by decide +kernel
theorem dX5_dueIn_47 : decode cX5_dueIn 47 = .ok (.aload_n 0, 1) := by decide +kernel
theorem dX5_dueIn_48 : decode cX5_dueIn 48 = .ok (.invokevirtual 77, 3) := by decide +kernel
theorem dX5_dueIn_51 : decode cX5_dueIn 51 = .ok (.iinc 2 1, 3) := by decide +kernel
theorem dX5_dueIn_54 : decode cX5_dueIn 54 = .ok (.goto (-25), 3) := by decide +kernel
theorem dX5_dueIn_57 : decode cX5_dueIn 57 = .ok (.aload_n 0, 1) := by decide +kernel
theorem dX5_dueIn_58 : decode cX5_dueIn 58 = .ok (.invokevirtual 200, 3) := by decide +kernel
theorem dX5_dueIn_61 : decode cX5_dueIn 61 = .ok (.iload_n 2, 1) := by decide +kernel
theorem dX5_dueIn_62 : decode cX5_dueIn 62 = .ok (.bipush 100, 2) := by decide +kernel
theorem dX5_dueIn_64 : decode cX5_dueIn 64 = .ok (.if_icmp .le 8, 3) := by decide +kernel
theorem dX5_dueIn_67 : decode cX5_dueIn 67 = .ok (.bipush (-5), 2) := by decide +kernel
theorem dX5_dueIn_69 : decode cX5_dueIn 69 = .ok (.goto 4, 3) := by decide +kernel
theorem dX5_dueIn_72 : decode cX5_dueIn 72 = .ok (.iload_n 2, 1) := by decide +kernel
theorem dX5_dueIn_73 : decode cX5_dueIn 73 = .ok (.ireturn, 1) := by decide +kernel
set_option maxRecDepth 20000 in
theorem ggX5_dueSeat_X5_in : GoodIn wsX5_dueSeat wsX5_in := goodIn_r _ [7] (by decide +kernel) (by decide +kernel)
set_option maxRecDepth 20000 in
theorem gX5_dueSeat_X5_in : GoodIn wsX5_dueSeat (va_wsS RX5 35 yX5_in wsX5_in) := goodIn_app (goodIn_of _ (by decide +kernel)) ggX5_dueSeat_X5_in
set_option maxRecDepth 20000 in
theorem ggX5_dueSeat_X5_get : GoodIn wsX5_dueSeat wsX5_get := goodIn_r _ [11, 3, 12, 13, 14, 15, 16, 17, 18, 19, 20, 21, 22, 23, 24, 25, 26, 27, 28, 29] (by decide +kernel) (by decide +kernel)
set_option maxRecDepth 20000 in
theorem gX5_dueSeat_X5_get : GoodIn wsX5_dueSeat (wsV RX5 39 RX5 yX5_get wsX5_get) := goodIn_app (goodIn_of _ (by decide +kernel)) ggX5_dueSeat_X5_get
theorem dX5_dueSeat_0 : decode cX5_dueSeat 0 = .ok (.iload_n 1, 1) := by decide +kernel
theorem dX5_dueSeat_1 : decode cX5_dueSeat 1 = .ok (.i2l, 1) := by decide +kernel
theorem dX5_dueSeat_2 : decode cX5_dueSeat 2 = .ok (.lconst 1, 1) := by decide +kernel
theorem dX5_dueSeat_3 : decode cX5_dueSeat 3 = .ok (.ldc2_w 95, 3) := by decide +kernel
theorem dX5_dueSeat_6 : decode cX5_dueSeat 6 = .ok (.invokestatic 35, 3) := by decide +kernel
theorem dX5_dueSeat_9 : decode cX5_dueSeat 9 = .ok (.ifCond .eq 15, 3) := by decide +kernel
theorem dX5_dueSeat_12 : decode cX5_dueSeat 12 = .ok (.iload_n 2, 1) := by decide +kernel
theorem dX5_dueSeat_13 : decode cX5_dueSeat 13 = .ok (.i2l, 1) := by decide +kernel
theorem dX5_dueSeat_14 : decode cX5_dueSeat 14 = .ok (.lconst 0, 1) := by decide +kernel
theorem dX5_dueSeat_15 : decode cX5_dueSeat 15 = .ok (.ldc2_w 97, 3) := by decide +kernel
theorem dX5_dueSeat_18 : decode cX5_dueSeat 18 = .ok (.invokestatic 35, 3) := by decide +kernel
theorem dX5_dueSeat_21 : decode cX5_dueSeat 21 = .ok (.ifCond .ne 6, 3) := by decide +kernel
theorem dX5_dueSeat_24 : decode cX5_dueSeat 24 = .ok (.bipush (-2), 2) := by decide +kernel
theorem dX5_dueSeat_26 : decode cX5_dueSeat 26 = .ok (.ireturn, 1) := by decide +kernel
theorem dX5_dueSeat_27 : decode cX5_dueSeat 27 = .ok (.iconst 0, 1) := by decide +kernel
theorem dX5_dueSeat_28 : decode cX5_dueSeat 28 = .ok (.istore_n 3, 1) := by decide +kernel
theorem dX5_dueSeat_29 : decode cX5_dueSeat 29 = .ok (.iconst 0, 1) := by decide +kernel
theorem dX5_dueSeat_30 : decode cX5_dueSeat 30 = .ok (.istore 4, 2) := by decide +kernel
theorem dX5_dueSeat_32 : decode cX5_dueSeat 32 = .ok (.iload 4, 2) := by decide +kernel
theorem dX5_dueSeat_34 : decode cX5_dueSeat 34 = .ok (.aload_n 0, 1) := by decide +kernel
theorem dX5_dueSeat_35 : decode cX5_dueSeat 35 = .ok (.getfield 7, 3) := by decide +kernel
theorem dX5_dueSeat_38 : decode cX5_dueSeat 38 = .ok (.bipush 11, 2) := by decide +kernel
theorem dX5_dueSeat_40 : decode cX5_dueSeat 40 = .ok (.iaload, 1) := by decide +kernel
theorem dX5_dueSeat_41 : decode cX5_dueSeat 41 = .ok (.if_icmp .ge 62, 3) := by decide +kernel
theorem dX5_dueSeat_44 : decode cX5_dueSeat 44 = .ok (.aload_n 0, 1) := by decide +kernel
theorem dX5_dueSeat_45 : decode cX5_dueSeat 45 = .ok (.getfield 7, 3) := by decide +kernel
theorem dX5_dueSeat_48 : decode cX5_dueSeat 48 = .ok (.bipush 12, 2) := by decide +kernel
theorem dX5_dueSeat_50 : decode cX5_dueSeat 50 = .ok (.iload 4, 2) := by decide +kernel
theorem dX5_dueSeat_52 : decode cX5_dueSeat 52 = .ok (.iadd, 1) := by decide +kernel
theorem dX5_dueSeat_53 : decode cX5_dueSeat 53 = .ok (.iaload, 1) := by decide +kernel
theorem dX5_dueSeat_54 : decode cX5_dueSeat 54 = .ok (.istore 5, 2) := by decide +kernel
theorem dX5_dueSeat_56 : decode cX5_dueSeat 56 = .ok (.iload_n 3, 1) := by decide +kernel
theorem dX5_dueSeat_57 : decode cX5_dueSeat 57 = .ok (.aload_n 0, 1) := by decide +kernel
theorem dX5_dueSeat_58 : decode cX5_dueSeat 58 = .ok (.iload 5, 2) := by decide +kernel
theorem dX5_dueSeat_60 : decode cX5_dueSeat 60 = .ok (.iconst 0, 1) := by decide +kernel
theorem dX5_dueSeat_61 : decode cX5_dueSeat 61 = .ok (.invokevirtual 39, 3) := by decide +kernel
theorem dX5_dueSeat_64 : decode cX5_dueSeat 64 = .ok (.iload_n 1, 1) := by decide +kernel
theorem dX5_dueSeat_65 : decode cX5_dueSeat 65 = .ok (.if_icmp .gt 25, 3) := by decide +kernel
theorem dX5_dueSeat_68 : decode cX5_dueSeat 68 = .ok (.aload_n 0, 1) := by decide +kernel
theorem dX5_dueSeat_69 : decode cX5_dueSeat 69 = .ok (.iload 5, 2) := by decide +kernel
theorem dX5_dueSeat_71 : decode cX5_dueSeat 71 = .ok (.iconst 0, 1) := by decide +kernel
theorem dX5_dueSeat_72 : decode cX5_dueSeat 72 = .ok (.invokevirtual 39, 3) := by decide +kernel
theorem dX5_dueSeat_75 : decode cX5_dueSeat 75 = .ok (.iload_n 1, 1) := by decide +kernel
theorem dX5_dueSeat_76 : decode cX5_dueSeat 76 = .ok (.if_icmp .ne 18, 3) := by decide +kernel
theorem dX5_dueSeat_79 : decode cX5_dueSeat 79 = .ok (.aload_n 0, 1) := by decide +kernel
theorem dX5_dueSeat_80 : decode cX5_dueSeat 80 = .ok (.iload 5, 2) := by decide +kernel
theorem dX5_dueSeat_82 : decode cX5_dueSeat 82 = .ok (.iconst 1, 1) := by decide +kernel
theorem dX5_dueSeat_83 : decode cX5_dueSeat 83 = .ok (.invokevirtual 39, 3) := by decide +kernel
theorem dX5_dueSeat_86 : decode cX5_dueSeat 86 = .ok (.iload_n 2, 1) := by decide +kernel
theorem dX5_dueSeat_87 : decode cX5_dueSeat 87 = .ok (.if_icmp .lt 7, 3) := by decide +kernel
theorem dX5_dueSeat_90 : decode cX5_dueSeat 90 = .ok (.iconst 1, 1) := by decide +kernel
theorem dX5_dueSeat_91 : decode cX5_dueSeat 91 = .ok (.goto 4, 3) := by decide +kernel
theorem dX5_dueSeat_94 : decode cX5_dueSeat 94 = .ok (.iconst 0, 1) := by decide +kernel
theorem dX5_dueSeat_95 : decode cX5_dueSeat 95 = .ok (.iadd, 1) := by decide +kernel
theorem dX5_dueSeat_96 : decode cX5_dueSeat 96 = .ok (.istore_n 3, 1) := by decide +kernel
theorem dX5_dueSeat_97 : decode cX5_dueSeat 97 = .ok (.iinc 4 1, 3) := by decide +kernel
theorem dX5_dueSeat_100 : decode cX5_dueSeat 100 = .ok (.goto (-68), 3) := by decide +kernel
theorem dX5_dueSeat_103 : decode cX5_dueSeat 103 = .ok (.iload_n 3, 1) := by decide +kernel
theorem dX5_dueSeat_104 : decode cX5_dueSeat 104 = .ok (.ireturn, 1) := by decide +kernel
set_option maxRecDepth 20000 in
theorem ggX5_wrongPairs_X5_isGreater : GoodIn wsX5_wrongPairs wsX5_isGreater := goodIn_r _ [6, 7, 8, 9, 5, 10, 1, 11, 12, 13, 14, 15, 16, 17, 18, 19, 20, 21, 22, 23, 24, 25, 26, 27, 28] (by decide +kernel) (by decide +kernel)
set_option maxRecDepth 20000 in
theorem gX5_wrongPairs_X5_isGreater : GoodIn wsX5_wrongPairs (wsV RX5 47 RX5 yX5_isGreater wsX5_isGreater) := goodIn_app (goodIn_of _ (by decide +kernel)) ggX5_wrongPairs_X5_isGreater
theorem dX5_wrongPairs_0 : decode cX5_wrongPairs 0 = .ok (.iconst 0, 1) := by decide +kernel
theorem dX5_wrongPairs_1 : decode cX5_wrongPairs 1 = .ok (.istore_n 1, 1) := by decide +kernel
theorem dX5_wrongPairs_2 : decode cX5_wrongPairs 2 = .ok (.iconst 0, 1) := by decide +kernel
theorem dX5_wrongPairs_3 : decode cX5_wrongPairs 3 = .ok (.istore_n 2, 1) := by decide +kernel
theorem dX5_wrongPairs_4 : decode cX5_wrongPairs 4 = .ok (.iload_n 2, 1) := by decide +kernel
theorem dX5_wrongPairs_5 : decode cX5_wrongPairs 5 = .ok (.aload_n 0, 1) := by decide +kernel
theorem dX5_wrongPairs_6 : decode cX5_wrongPairs 6 = .ok (.getfield 7, 3) := by decide +kernel
theorem dX5_wrongPairs_9 : decode cX5_wrongPairs 9 = .ok (.bipush 11, 2) := by decide +kernel
theorem dX5_wrongPairs_11 : decode cX5_wrongPairs 11 = .ok (.iaload, 1) := by decide +kernel
theorem dX5_wrongPairs_12 : decode cX5_wrongPairs 12 = .ok (.if_icmp .ge 63, 3) := by decide +kernel
theorem dX5_wrongPairs_15 : decode cX5_wrongPairs 15 = .ok (.iload_n 2, 1) := by decide +kernel
theorem dX5_wrongPairs_16 : decode cX5_wrongPairs 16 = .ok (.iconst 1, 1) := by decide +kernel
theorem dX5_wrongPairs_17 : decode cX5_wrongPairs 17 = .ok (.iadd, 1) := by decide +kernel
theorem dX5_wrongPairs_18 : decode cX5_wrongPairs 18 = .ok (.istore_n 3, 1) := by decide +kernel
theorem dX5_wrongPairs_19 : decode cX5_wrongPairs 19 = .ok (.iload_n 3, 1) := by decide +kernel
theorem dX5_wrongPairs_20 : decode cX5_wrongPairs 20 = .ok (.aload_n 0, 1) := by decide +kernel
theorem dX5_wrongPairs_21 : decode cX5_wrongPairs 21 = .ok (.getfield 7, 3) := by decide +kernel
theorem dX5_wrongPairs_24 : decode cX5_wrongPairs 24 = .ok (.bipush 11, 2) := by decide +kernel
theorem dX5_wrongPairs_26 : decode cX5_wrongPairs 26 = .ok (.iaload, 1) := by decide +kernel
theorem dX5_wrongPairs_27 : decode cX5_wrongPairs 27 = .ok (.if_icmp .ge 42, 3) := by decide +kernel
theorem dX5_wrongPairs_30 : decode cX5_wrongPairs 30 = .ok (.iload_n 1, 1) := by decide +kernel
theorem dX5_wrongPairs_31 : decode cX5_wrongPairs 31 = .ok (.aload_n 0, 1) := by decide +kernel
theorem dX5_wrongPairs_32 : decode cX5_wrongPairs 32 = .ok (.aload_n 0, 1) := by decide +kernel
theorem dX5_wrongPairs_33 : decode cX5_wrongPairs 33 = .ok (.getfield 7, 3) := by decide +kernel
theorem dX5_wrongPairs_36 : decode cX5_wrongPairs 36 = .ok (.bipush 12, 2) := by decide +kernel
theorem dX5_wrongPairs_38 : decode cX5_wrongPairs 38 = .ok (.iload_n 3, 1) := by decide +kernel
theorem dX5_wrongPairs_39 : decode cX5_wrongPairs 39 = .ok (.iadd, 1) := by decide +kernel
theorem dX5_wrongPairs_40 : decode cX5_wrongPairs 40 = .ok (.iaload, 1) := by decide +kernel
theorem dX5_wrongPairs_41 : decode cX5_wrongPairs 41 = .ok (.aload_n 0, 1) := by decide +kernel
theorem dX5_wrongPairs_42 : decode cX5_wrongPairs 42 = .ok (.getfield 7, 3) := by decide +kernel
theorem dX5_wrongPairs_45 : decode cX5_wrongPairs 45 = .ok (.bipush 12, 2) := by decide +kernel
theorem dX5_wrongPairs_47 : decode cX5_wrongPairs 47 = .ok (.iload_n 2, 1) := by decide +kernel
theorem dX5_wrongPairs_48 : decode cX5_wrongPairs 48 = .ok (.iadd, 1) := by decide +kernel
theorem dX5_wrongPairs_49 : decode cX5_wrongPairs 49 = .ok (.iaload, 1) := by decide +kernel
theorem dX5_wrongPairs_50 : decode cX5_wrongPairs 50 = .ok (.invokevirtual 47, 3) := by decide +kernel
theorem dX5_wrongPairs_53 : decode cX5_wrongPairs 53 = .ok (.ifCond .eq 7, 3) := by decide +kernel
theorem dX5_wrongPairs_56 : decode cX5_wrongPairs 56 = .ok (.iconst 1, 1) := by decide +kernel
theorem dX5_wrongPairs_57 : decode cX5_wrongPairs 57 = .ok (.goto 4, 3) := by decide +kernel
theorem dX5_wrongPairs_60 : decode cX5_wrongPairs 60 = .ok (.iconst 0, 1) := by decide +kernel
theorem dX5_wrongPairs_61 : decode cX5_wrongPairs 61 = .ok (.iadd, 1) := by decide +kernel
theorem dX5_wrongPairs_62 : decode cX5_wrongPairs 62 = .ok (.istore_n 1, 1) := by decide +kernel
theorem dX5_wrongPairs_63 : decode cX5_wrongPairs 63 = .ok (.iinc 3 1, 3) := by decide +kernel
theorem dX5_wrongPairs_66 : decode cX5_wrongPairs 66 = .ok (.goto (-47), 3) := by decide +kernel
theorem dX5_wrongPairs_69 : decode cX5_wrongPairs 69 = .ok (.iinc 2 1, 3) := by decide +kernel
theorem dX5_wrongPairs_72 : decode cX5_wrongPairs 72 = .ok (.goto (-68), 3) := by decide +kernel
theorem dX5_wrongPairs_75 : decode cX5_wrongPairs 75 = .ok (.iload_n 1, 1) := by decide +kernel
theorem dX5_wrongPairs_76 : decode cX5_wrongPairs 76 = .ok (.ireturn, 1) := by decide +kernel
set_option maxRecDepth 20000 in
theorem ggX5_changesNeeded_X5_tries : GoodIn wsX5_changesNeeded wsX5_tries := goodIn_r _ [5, 6, 7, 32, 33, 34, 35, 36, 37, 38, 39, 40, 41, 42, 43, 44, 45, 46, 47, 48, 49] (by decide +kernel) (by decide +kernel)
set_option maxRecDepth 20000 in
theorem gX5_changesNeeded_X5_tries : GoodIn wsX5_changesNeeded (wsV RX5 197 RX5 yX5_tries wsX5_tries) := goodIn_app (goodIn_of _ (by decide +kernel)) ggX5_changesNeeded_X5_tries
set_option maxRecDepth 20000 in
theorem ggX5_changesNeeded_X5_firstWrong : GoodIn wsX5_changesNeeded wsX5_firstWrong := goodIn_r _ [11, 7, 12, 13, 14, 4, 15, 16, 17, 18, 19, 20, 21, 22, 23, 32, 33, 34, 35, 36, 37, 38, 39, 40, 41, 42, 43, 44, 45, 46, 47, 48, 49] (by decide +kernel) (by decide +kernel)
set_option maxRecDepth 20000 in
theorem gX5_changesNeeded_X5_firstWrong : GoodIn wsX5_changesNeeded (wsV RX5 55 RX5 yX5_firstWrong wsX5_firstWrong) := goodIn_app (goodIn_of _ (by decide +kernel)) ggX5_changesNeeded_X5_firstWrong
set_option maxRecDepth 20000 in
theorem ggX5_changesNeeded_X5_swaps : GoodIn wsX5_changesNeeded wsX5_swaps := goodIn_r _ [27, 7, 32, 33, 34, 35, 36, 37, 38, 39, 40, 41, 42, 43, 44, 45, 46, 47, 48, 49] (by decide +kernel) (by decide +kernel)
set_option maxRecDepth 20000 in
theorem gX5_changesNeeded_X5_swaps : GoodIn wsX5_changesNeeded (wsV RX5 59 RX5 yX5_swaps wsX5_swaps) := goodIn_app (goodIn_of _ (by decide +kernel)) ggX5_changesNeeded_X5_swaps
set_option maxRecDepth 20000 in
theorem ggX5_changesNeeded_X5_comesBack : GoodIn wsX5_changesNeeded wsX5_comesBack := goodIn_r _ [31, 7, 6, 32, 33, 34, 35, 36, 37, 38, 39, 40, 41, 42, 43, 44, 45, 46, 47, 48, 49] (by decide +kernel) (by decide +kernel)
set_option maxRecDepth 20000 in
theorem gX5_changesNeeded_X5_comesBack : GoodIn wsX5_changesNeeded (wsV RX5 200 RX5 yX5_comesBack wsX5_comesBack) := goodIn_app (goodIn_of _ (by decide +kernel)) ggX5_changesNeeded_X5_comesBack
theorem dX5_changesNeeded_0 : decode cX5_changesNeeded 0 = .ok (.aload_n 0, 1) := by decide +kernel
theorem dX5_changesNeeded_1 : decode cX5_changesNeeded 1 = .ok (.invokevirtual 197, 3) := by decide +kernel
theorem dX5_changesNeeded_4 : decode cX5_changesNeeded 4 = .ok (.iconst 0, 1) := by decide +kernel
theorem dX5_changesNeeded_5 : decode cX5_changesNeeded 5 = .ok (.istore_n 1, 1) := by decide +kernel
theorem dX5_changesNeeded_6 : decode cX5_changesNeeded 6 = .ok (.aload_n 0, 1) := by decide +kernel
theorem dX5_changesNeeded_7 : decode cX5_changesNeeded 7 = .ok (.invokevirtual 55, 3) := by decide +kernel
theorem dX5_changesNeeded_10 : decode cX5_changesNeeded 10 = .ok (.istore_n 2, 1) := by decide +kernel
theorem dX5_changesNeeded_11 : decode cX5_changesNeeded 11 = .ok (.iload_n 2, 1) := by decide +kernel
theorem dX5_changesNeeded_12 : decode cX5_changesNeeded 12 = .ok (.bipush (-5), 2) := by decide +kernel
theorem dX5_changesNeeded_14 : decode cX5_changesNeeded 14 = .ok (.if_icmp .eq 19, 3) := by decide +kernel
theorem dX5_changesNeeded_17 : decode cX5_changesNeeded 17 = .ok (.aload_n 0, 1) := by decide +kernel
theorem dX5_changesNeeded_18 : decode cX5_changesNeeded 18 = .ok (.iload_n 2, 1) := by decide +kernel
theorem dX5_changesNeeded_19 : decode cX5_changesNeeded 19 = .ok (.invokevirtual 59, 3) := by decide +kernel
theorem dX5_changesNeeded_22 : decode cX5_changesNeeded 22 = .ok (.iinc 1 1, 3) := by decide +kernel
theorem dX5_changesNeeded_25 : decode cX5_changesNeeded 25 = .ok (.aload_n 0, 1) := by decide +kernel
theorem dX5_changesNeeded_26 : decode cX5_changesNeeded 26 = .ok (.invokevirtual 55, 3) := by decide +kernel
theorem dX5_changesNeeded_29 : decode cX5_changesNeeded 29 = .ok (.istore_n 2, 1) := by decide +kernel
theorem dX5_changesNeeded_30 : decode cX5_changesNeeded 30 = .ok (.goto (-19), 3) := by decide +kernel
theorem dX5_changesNeeded_33 : decode cX5_changesNeeded 33 = .ok (.aload_n 0, 1) := by decide +kernel
theorem dX5_changesNeeded_34 : decode cX5_changesNeeded 34 = .ok (.invokevirtual 200, 3) := by decide +kernel
theorem dX5_changesNeeded_37 : decode cX5_changesNeeded 37 = .ok (.iload_n 1, 1) := by decide +kernel
theorem dX5_changesNeeded_38 : decode cX5_changesNeeded 38 = .ok (.ireturn, 1) := by decide +kernel
set_option maxRecDepth 20000 in
theorem ggX5_mostSlighted_X5_get : GoodIn wsX5_mostSlighted wsX5_get := goodIn_r _ [6, 1, 7, 8, 9, 10, 11, 12, 13, 14, 15, 16, 17, 18, 19, 20, 21, 22, 23, 24] (by decide +kernel) (by decide +kernel)
set_option maxRecDepth 20000 in
theorem gX5_mostSlighted_X5_get : GoodIn wsX5_mostSlighted (wsV RX5 39 RX5 yX5_get wsX5_get) := goodIn_app (goodIn_of _ (by decide +kernel)) ggX5_mostSlighted_X5_get
theorem dX5_mostSlighted_0 : decode cX5_mostSlighted 0 = .ok (.bipush (-5), 2) := by decide +kernel
theorem dX5_mostSlighted_2 : decode cX5_mostSlighted 2 = .ok (.istore_n 1, 1) := by decide +kernel
theorem dX5_mostSlighted_3 : decode cX5_mostSlighted 3 = .ok (.iconst 0, 1) := by decide +kernel
theorem dX5_mostSlighted_4 : decode cX5_mostSlighted 4 = .ok (.istore_n 2, 1) := by decide +kernel
theorem dX5_mostSlighted_5 : decode cX5_mostSlighted 5 = .ok (.iconst 0, 1) := by decide +kernel
theorem dX5_mostSlighted_6 : decode cX5_mostSlighted 6 = .ok (.istore_n 3, 1) := by decide +kernel
theorem dX5_mostSlighted_7 : decode cX5_mostSlighted 7 = .ok (.iload_n 3, 1) := by decide +kernel
theorem dX5_mostSlighted_8 : decode cX5_mostSlighted 8 = .ok (.aload_n 0, 1) := by decide +kernel
theorem dX5_mostSlighted_9 : decode cX5_mostSlighted 9 = .ok (.getfield 7, 3) := by decide +kernel
theorem dX5_mostSlighted_12 : decode cX5_mostSlighted 12 = .ok (.bipush 11, 2) := by decide +kernel
theorem dX5_mostSlighted_14 : decode cX5_mostSlighted 14 = .ok (.iaload, 1) := by decide +kernel
theorem dX5_mostSlighted_15 : decode cX5_mostSlighted 15 = .ok (.if_icmp .ge 58, 3) := by decide +kernel
theorem dX5_mostSlighted_18 : decode cX5_mostSlighted 18 = .ok (.aload_n 0, 1) := by decide +kernel
theorem dX5_mostSlighted_19 : decode cX5_mostSlighted 19 = .ok (.aload_n 0, 1) := by decide +kernel
theorem dX5_mostSlighted_20 : decode cX5_mostSlighted 20 = .ok (.getfield 7, 3) := by decide +kernel
theorem dX5_mostSlighted_23 : decode cX5_mostSlighted 23 = .ok (.bipush 12, 2) := by decide +kernel
theorem dX5_mostSlighted_25 : decode cX5_mostSlighted 25 = .ok (.iload_n 3, 1) := by decide +kernel
theorem dX5_mostSlighted_26 : decode cX5_mostSlighted 26 = .ok (.iadd, 1) := by decide +kernel
theorem dX5_mostSlighted_27 : decode cX5_mostSlighted 27 = .ok (.iaload, 1) := by decide +kernel
theorem dX5_mostSlighted_28 : decode cX5_mostSlighted 28 = .ok (.iconst 5, 1) := by decide +kernel
theorem dX5_mostSlighted_29 : decode cX5_mostSlighted 29 = .ok (.invokevirtual 39, 3) := by decide +kernel
theorem dX5_mostSlighted_32 : decode cX5_mostSlighted 32 = .ok (.istore 4, 2) := by decide +kernel
theorem dX5_mostSlighted_34 : decode cX5_mostSlighted 34 = .ok (.iload 4, 2) := by decide +kernel
theorem dX5_mostSlighted_36 : decode cX5_mostSlighted 36 = .ok (.iload_n 2, 1) := by decide +kernel
theorem dX5_mostSlighted_37 : decode cX5_mostSlighted 37 = .ok (.if_icmp .le 15, 3) := by decide +kernel
theorem dX5_mostSlighted_40 : decode cX5_mostSlighted 40 = .ok (.aload_n 0, 1) := by decide +kernel
theorem dX5_mostSlighted_41 : decode cX5_mostSlighted 41 = .ok (.getfield 7, 3) := by decide +kernel
theorem dX5_mostSlighted_44 : decode cX5_mostSlighted 44 = .ok (.bipush 12, 2) := by decide +kernel
theorem dX5_mostSlighted_46 : decode cX5_mostSlighted 46 = .ok (.iload_n 3, 1) := by decide +kernel
theorem dX5_mostSlighted_47 : decode cX5_mostSlighted 47 = .ok (.iadd, 1) := by decide +kernel
theorem dX5_mostSlighted_48 : decode cX5_mostSlighted 48 = .ok (.iaload, 1) := by decide +kernel
theorem dX5_mostSlighted_49 : decode cX5_mostSlighted 49 = .ok (.goto 4, 3) := by decide +kernel
theorem dX5_mostSlighted_52 : decode cX5_mostSlighted 52 = .ok (.iload_n 1, 1) := by decide +kernel
theorem dX5_mostSlighted_53 : decode cX5_mostSlighted 53 = .ok (.istore_n 1, 1) := by decide +kernel
theorem dX5_mostSlighted_54 : decode cX5_mostSlighted 54 = .ok (.iload 4, 2) := by decide +kernel
theorem dX5_mostSlighted_56 : decode cX5_mostSlighted 56 = .ok (.iload_n 2, 1) := by decide +kernel
theorem dX5_mostSlighted_57 : decode cX5_mostSlighted 57 = .ok (.if_icmp .le 8, 3) := by decide +kernel
theorem dX5_mostSlighted_60 : decode cX5_mostSlighted 60 = .ok (.iload 4, 2) := by decide +kernel
theorem dX5_mostSlighted_62 : decode cX5_mostSlighted 62 = .ok (.goto 4, 3) := by decide +kernel
theorem dX5_mostSlighted_65 : decode cX5_mostSlighted 65 = .ok (.iload_n 2, 1) := by decide +kernel
theorem dX5_mostSlighted_66 : decode cX5_mostSlighted 66 = .ok (.istore_n 2, 1) := by decide +kernel
theorem dX5_mostSlighted_67 : decode cX5_mostSlighted 67 = .ok (.iinc 3 1, 3) := by decide +kernel
theorem dX5_mostSlighted_70 : decode cX5_mostSlighted 70 = .ok (.goto (-63), 3) := by decide +kernel
theorem dX5_mostSlighted_73 : decode cX5_mostSlighted 73 = .ok (.iload_n 1, 1) := by decide +kernel
theorem dX5_mostSlighted_74 : decode cX5_mostSlighted 74 = .ok (.ireturn, 1) := by decide +kernel
set_option maxRecDepth 20000 in
theorem ggX5_ifRounds_X5_in : GoodIn wsX5_ifRounds wsX5_in := goodIn_r _ [5] (by decide +kernel) (by decide +kernel)
set_option maxRecDepth 20000 in
theorem gX5_ifRounds_X5_in : GoodIn wsX5_ifRounds (va_wsS RX5 35 yX5_in wsX5_in) := goodIn_app (goodIn_of _ (by decide +kernel)) ggX5_ifRounds_X5_in
set_option maxRecDepth 20000 in
theorem ggX5_ifRounds_X5_tries : GoodIn wsX5_ifRounds wsX5_tries := goodIn_r _ [9, 10, 11, 65, 66, 67, 68, 69, 70, 71, 72, 73, 74, 75, 76, 77, 78, 79, 80, 81, 82] (by decide +kernel) (by decide +kernel)
set_option maxRecDepth 20000 in
theorem gX5_ifRounds_X5_tries : GoodIn wsX5_ifRounds (wsV RX5 197 RX5 yX5_tries wsX5_tries) := goodIn_app (goodIn_of _ (by decide +kernel)) ggX5_ifRounds_X5_tries
set_option maxRecDepth 20000 in
theorem ggX5_ifRounds_X5_rounds : GoodIn wsX5_ifRounds wsX5_rounds := goodIn_r _ [15, 11, 16, 17, 18, 4, 19, 20, 21, 22, 23, 24, 25, 26, 27, 28, 29, 30, 31, 32, 33, 34, 35, 36, 37, 38, 39, 40, 41, 42, 43, 44, 45, 46, 47, 48, 49, 50, 51, 52, 53, 54, 55, 56, 57, 58, 59, 60, 65, 66, 67, 68, 69, 70, 71, 72, 73, 74, 75, 76, 77, 78, 79, 80, 81, 82] (by decide +kernel) (by decide +kernel)
set_option maxRecDepth 20000 in
theorem gX5_ifRounds_X5_rounds : GoodIn wsX5_ifRounds (wsV RX5 92 RX5 yX5_rounds wsX5_rounds) := goodIn_app (goodIn_of _ (by decide +kernel)) ggX5_ifRounds_X5_rounds
set_option maxRecDepth 20000 in
theorem ggX5_ifRounds_X5_comesBack : GoodIn wsX5_ifRounds wsX5_comesBack := goodIn_r _ [64, 11, 10, 65, 66, 67, 68, 69, 70, 71, 72, 73, 74, 75, 76, 77, 78, 79, 80, 81, 82] (by decide +kernel) (by decide +kernel)
set_option maxRecDepth 20000 in
theorem gX5_ifRounds_X5_comesBack : GoodIn wsX5_ifRounds (wsV RX5 200 RX5 yX5_comesBack wsX5_comesBack) := goodIn_app (goodIn_of _ (by decide +kernel)) ggX5_ifRounds_X5_comesBack
theorem dX5_ifRounds_0 : decode cX5_ifRounds 0 = .ok (.iload_n 1, 1) := by decide +kernel
theorem dX5_ifRounds_1 : decode cX5_ifRounds 1 = .ok (.i2l, 1) := by decide +kernel
theorem dX5_ifRounds_2 : decode cX5_ifRounds 2 = .ok (.lconst 1, 1) := by decide +kernel
theorem dX5_ifRounds_3 : decode cX5_ifRounds 3 = .ok (.ldc2_w 203, 3) := by decide +kernel
theorem dX5_ifRounds_6 : decode cX5_ifRounds 6 = .ok (.invokestatic 35, 3) := by decide +kernel
theorem dX5_ifRounds_9 : decode cX5_ifRounds 9 = .ok (.ifCond .ne 6, 3) := by decide +kernel
theorem dX5_ifRounds_12 : decode cX5_ifRounds 12 = .ok (.bipush (-2), 2) := by decide +kernel
theorem dX5_ifRounds_14 : decode cX5_ifRounds 14 = .ok (.ireturn, 1) := by decide +kernel
theorem dX5_ifRounds_15 : decode cX5_ifRounds 15 = .ok (.aload_n 0, 1) := by decide +kernel
theorem dX5_ifRounds_16 : decode cX5_ifRounds 16 = .ok (.invokevirtual 197, 3) := by decide +kernel
theorem dX5_ifRounds_19 : decode cX5_ifRounds 19 = .ok (.iconst 0, 1) := by decide +kernel
theorem dX5_ifRounds_20 : decode cX5_ifRounds 20 = .ok (.istore_n 2, 1) := by decide +kernel
theorem dX5_ifRounds_21 : decode cX5_ifRounds 21 = .ok (.iconst 0, 1) := by decide +kernel
theorem dX5_ifRounds_22 : decode cX5_ifRounds 22 = .ok (.istore_n 3, 1) := by decide +kernel
theorem dX5_ifRounds_23 : decode cX5_ifRounds 23 = .ok (.iload_n 3, 1) := by decide +kernel
theorem dX5_ifRounds_24 : decode cX5_ifRounds 24 = .ok (.iload_n 1, 1) := by decide +kernel
theorem dX5_ifRounds_25 : decode cX5_ifRounds 25 = .ok (.if_icmp .ge 16, 3) := by decide +kernel
theorem dX5_ifRounds_28 : decode cX5_ifRounds 28 = .ok (.iload_n 2, 1) := by decide +kernel
theorem dX5_ifRounds_29 : decode cX5_ifRounds 29 = .ok (.aload_n 0, 1) := by decide +kernel
theorem dX5_ifRounds_30 : decode cX5_ifRounds 30 = .ok (.invokevirtual 92, 3) := by decide +kernel
theorem dX5_ifRounds_33 : decode cX5_ifRounds 33 = .ok (.iadd, 1) := by decide +kernel
theorem dX5_ifRounds_34 : decode cX5_ifRounds 34 = .ok (.istore_n 2, 1) := by decide +kernel
theorem dX5_ifRounds_35 : decode cX5_ifRounds 35 = .ok (.iinc 3 1, 3) := by decide +kernel
theorem dX5_ifRounds_38 : decode cX5_ifRounds 38 = .ok (.goto (-15), 3) := by decide +kernel
theorem dX5_ifRounds_41 : decode cX5_ifRounds 41 = .ok (.aload_n 0, 1) := by decide +kernel
theorem dX5_ifRounds_42 : decode cX5_ifRounds 42 = .ok (.invokevirtual 200, 3) := by decide +kernel
theorem dX5_ifRounds_45 : decode cX5_ifRounds 45 = .ok (.iload_n 2, 1) := by decide +kernel
theorem dX5_ifRounds_46 : decode cX5_ifRounds 46 = .ok (.ireturn, 1) := by decide +kernel
set_option maxRecDepth 20000 in
theorem ggX5_nextArrival_X5_get : GoodIn wsX5_nextArrival wsX5_get := goodIn_r _ [6, 1, 7, 8, 9, 10, 11, 12, 13, 14, 15, 16, 17, 18, 19, 20, 21, 22, 23, 24] (by decide +kernel) (by decide +kernel)
set_option maxRecDepth 20000 in
theorem gX5_nextArrival_X5_get : GoodIn wsX5_nextArrival (wsV RX5 39 RX5 yX5_get wsX5_get) := goodIn_app (goodIn_of _ (by decide +kernel)) ggX5_nextArrival_X5_get
theorem dX5_nextArrival_0 : decode cX5_nextArrival 0 = .ok (.bipush (-5), 2) := by decide +kernel
theorem dX5_nextArrival_2 : decode cX5_nextArrival 2 = .ok (.istore_n 1, 1) := by decide +kernel
theorem dX5_nextArrival_3 : decode cX5_nextArrival 3 = .ok (.iconst 0, 1) := by decide +kernel
theorem dX5_nextArrival_4 : decode cX5_nextArrival 4 = .ok (.istore_n 2, 1) := by decide +kernel
theorem dX5_nextArrival_5 : decode cX5_nextArrival 5 = .ok (.iload_n 2, 1) := by decide +kernel
theorem dX5_nextArrival_6 : decode cX5_nextArrival 6 = .ok (.aload_n 0, 1) := by decide +kernel
theorem dX5_nextArrival_7 : decode cX5_nextArrival 7 = .ok (.getfield 7, 3) := by decide +kernel
theorem dX5_nextArrival_10 : decode cX5_nextArrival 10 = .ok (.iconst 5, 1) := by decide +kernel
theorem dX5_nextArrival_11 : decode cX5_nextArrival 11 = .ok (.iaload, 1) := by decide +kernel
theorem dX5_nextArrival_12 : decode cX5_nextArrival 12 = .ok (.if_icmp .ge 42, 3) := by decide +kernel
theorem dX5_nextArrival_15 : decode cX5_nextArrival 15 = .ok (.aload_n 0, 1) := by decide +kernel
theorem dX5_nextArrival_16 : decode cX5_nextArrival 16 = .ok (.iload_n 2, 1) := by decide +kernel
theorem dX5_nextArrival_17 : decode cX5_nextArrival 17 = .ok (.iconst 2, 1) := by decide +kernel
theorem dX5_nextArrival_18 : decode cX5_nextArrival 18 = .ok (.invokevirtual 39, 3) := by decide +kernel
theorem dX5_nextArrival_21 : decode cX5_nextArrival 21 = .ok (.istore_n 3, 1) := by decide +kernel
theorem dX5_nextArrival_22 : decode cX5_nextArrival 22 = .ok (.aload_n 0, 1) := by decide +kernel
theorem dX5_nextArrival_23 : decode cX5_nextArrival 23 = .ok (.iload_n 2, 1) := by decide +kernel
theorem dX5_nextArrival_24 : decode cX5_nextArrival 24 = .ok (.iconst 3, 1) := by decide +kernel
theorem dX5_nextArrival_25 : decode cX5_nextArrival 25 = .ok (.invokevirtual 39, 3) := by decide +kernel
theorem dX5_nextArrival_28 : decode cX5_nextArrival 28 = .ok (.ifCond .ne 18, 3) := by decide +kernel
theorem dX5_nextArrival_31 : decode cX5_nextArrival 31 = .ok (.iload_n 1, 1) := by decide +kernel
theorem dX5_nextArrival_32 : decode cX5_nextArrival 32 = .ok (.bipush (-5), 2) := by decide +kernel
theorem dX5_nextArrival_34 : decode cX5_nextArrival 34 = .ok (.if_icmp .eq 8, 3) := by decide +kernel
theorem dX5_nextArrival_37 : decode cX5_nextArrival 37 = .ok (.iload_n 3, 1) := by decide +kernel
theorem dX5_nextArrival_38 : decode cX5_nextArrival 38 = .ok (.iload_n 1, 1) := by decide +kernel
theorem dX5_nextArrival_39 : decode cX5_nextArrival 39 = .ok (.if_icmp .ge 7, 3) := by decide +kernel
theorem dX5_nextArrival_42 : decode cX5_nextArrival 42 = .ok (.iload_n 3, 1) := by decide +kernel
theorem dX5_nextArrival_43 : decode cX5_nextArrival 43 = .ok (.goto 4, 3) := by decide +kernel
theorem dX5_nextArrival_46 : decode cX5_nextArrival 46 = .ok (.iload_n 1, 1) := by decide +kernel
theorem dX5_nextArrival_47 : decode cX5_nextArrival 47 = .ok (.istore_n 1, 1) := by decide +kernel
theorem dX5_nextArrival_48 : decode cX5_nextArrival 48 = .ok (.iinc 2 1, 3) := by decide +kernel
theorem dX5_nextArrival_51 : decode cX5_nextArrival 51 = .ok (.goto (-46), 3) := by decide +kernel
theorem dX5_nextArrival_54 : decode cX5_nextArrival 54 = .ok (.iload_n 1, 1) := by decide +kernel
theorem dX5_nextArrival_55 : decode cX5_nextArrival 55 = .ok (.ireturn, 1) := by decide +kernel
set_option maxRecDepth 20000 in
theorem ggX5_thatDo_X5_get : GoodIn wsX5_thatDo wsX5_get := goodIn_r _ [6, 1, 7, 8, 9, 10, 11, 12, 13, 14, 15, 16, 17, 18, 19, 20, 21, 22, 23, 24] (by decide +kernel) (by decide +kernel)
set_option maxRecDepth 20000 in
theorem gX5_thatDo_X5_get : GoodIn wsX5_thatDo (wsV RX5 39 RX5 yX5_get wsX5_get) := goodIn_app (goodIn_of _ (by decide +kernel)) ggX5_thatDo_X5_get
theorem dX5_thatDo_0 : decode cX5_thatDo 0 = .ok (.iconst 0, 1) := by decide +kernel
theorem dX5_thatDo_1 : decode cX5_thatDo 1 = .ok (.istore_n 2, 1) := by decide +kernel
theorem dX5_thatDo_2 : decode cX5_thatDo 2 = .ok (.iconst 0, 1) := by decide +kernel
theorem dX5_thatDo_3 : decode cX5_thatDo 3 = .ok (.istore_n 3, 1) := by decide +kernel
theorem dX5_thatDo_4 : decode cX5_thatDo 4 = .ok (.iload_n 3, 1) := by decide +kernel
theorem dX5_thatDo_5 : decode cX5_thatDo 5 = .ok (.aload_n 0, 1) := by decide +kernel
theorem dX5_thatDo_6 : decode cX5_thatDo 6 = .ok (.getfield 7, 3) := by decide +kernel
theorem dX5_thatDo_9 : decode cX5_thatDo 9 = .ok (.iconst 5, 1) := by decide +kernel
theorem dX5_thatDo_10 : decode cX5_thatDo 10 = .ok (.iaload, 1) := by decide +kernel
theorem dX5_thatDo_11 : decode cX5_thatDo 11 = .ok (.if_icmp .ge 27, 3) := by decide +kernel
theorem dX5_thatDo_14 : decode cX5_thatDo 14 = .ok (.iload_n 2, 1) := by decide +kernel
theorem dX5_thatDo_15 : decode cX5_thatDo 15 = .ok (.aload_n 0, 1) := by decide +kernel
theorem dX5_thatDo_16 : decode cX5_thatDo 16 = .ok (.iload_n 3, 1) := by decide +kernel
theorem dX5_thatDo_17 : decode cX5_thatDo 17 = .ok (.iconst 3, 1) := by decide +kernel
theorem dX5_thatDo_18 : decode cX5_thatDo 18 = .ok (.invokevirtual 39, 3) := by decide +kernel
theorem dX5_thatDo_21 : decode cX5_thatDo 21 = .ok (.iload_n 1, 1) := by decide +kernel
theorem dX5_thatDo_22 : decode cX5_thatDo 22 = .ok (.if_icmp .ne 7, 3) := by decide +kernel
theorem dX5_thatDo_25 : decode cX5_thatDo 25 = .ok (.iconst 1, 1) := by decide +kernel
theorem dX5_thatDo_26 : decode cX5_thatDo 26 = .ok (.goto 4, 3) := by decide +kernel
theorem dX5_thatDo_29 : decode cX5_thatDo 29 = .ok (.iconst 0, 1) := by decide +kernel
theorem dX5_thatDo_30 : decode cX5_thatDo 30 = .ok (.iadd, 1) := by decide +kernel
theorem dX5_thatDo_31 : decode cX5_thatDo 31 = .ok (.istore_n 2, 1) := by decide +kernel
theorem dX5_thatDo_32 : decode cX5_thatDo 32 = .ok (.iinc 3 1, 3) := by decide +kernel
theorem dX5_thatDo_35 : decode cX5_thatDo 35 = .ok (.goto (-31), 3) := by decide +kernel
theorem dX5_thatDo_38 : decode cX5_thatDo 38 = .ok (.iload_n 2, 1) := by decide +kernel
theorem dX5_thatDo_39 : decode cX5_thatDo 39 = .ok (.ireturn, 1) := by decide +kernel
set_option maxRecDepth 20000 in
theorem ggX5_count_X5_thatDo : GoodIn wsX5_count wsX5_thatDo := goodIn_r _ [8, 1, 9, 10, 11, 7, 12, 13, 14, 15, 16, 17, 18, 19, 20, 21, 22, 23, 24, 25, 26, 27, 28, 29, 30] (by decide +kernel) (by decide +kernel)
set_option maxRecDepth 20000 in
theorem gX5_count_X5_thatDo : GoodIn wsX5_count (wsV RX5 205 RX5 yX5_thatDo wsX5_thatDo) := goodIn_app (goodIn_of _ (by decide +kernel)) ggX5_count_X5_thatDo
theorem dX5_count_0 : decode cX5_count 0 = .ok (.iload_n 1, 1) := by decide +kernel
theorem dX5_count_1 : decode cX5_count 1 = .ok (.tableswitch 133 0 16 #[83, 83, 92, 92, 92, 92, 100, 100, 100, 100, 100, 113, 113, 113, 113, 123, 128], 83) := by decide +kernel
theorem dX5_count_84 : decode cX5_count 84 = .ok (.aload_n 0, 1) := by decide +kernel
theorem dX5_count_85 : decode cX5_count 85 = .ok (.getfield 7, 3) := by decide +kernel
theorem dX5_count_88 : decode cX5_count 88 = .ok (.iconst 4, 1) := by decide +kernel
theorem dX5_count_89 : decode cX5_count 89 = .ok (.iload_n 1, 1) := by decide +kernel
theorem dX5_count_90 : decode cX5_count 90 = .ok (.iadd, 1) := by decide +kernel
theorem dX5_count_91 : decode cX5_count 91 = .ok (.iaload, 1) := by decide +kernel
theorem dX5_count_92 : decode cX5_count 92 = .ok (.ireturn, 1) := by decide +kernel
theorem dX5_count_93 : decode cX5_count 93 = .ok (.aload_n 0, 1) := by decide +kernel
theorem dX5_count_94 : decode cX5_count 94 = .ok (.iload_n 1, 1) := by decide +kernel
theorem dX5_count_95 : decode cX5_count 95 = .ok (.iconst 2, 1) := by decide +kernel
theorem dX5_count_96 : decode cX5_count 96 = .ok (.isub, 1) := by decide +kernel
theorem dX5_count_97 : decode cX5_count 97 = .ok (.invokevirtual 205, 3) := by decide +kernel
theorem dX5_count_100 : decode cX5_count 100 = .ok (.ireturn, 1) := by decide +kernel
theorem dX5_count_101 : decode cX5_count 101 = .ok (.aload_n 0, 1) := by decide +kernel
theorem dX5_count_102 : decode cX5_count 102 = .ok (.getfield 7, 3) := by decide +kernel
theorem dX5_count_105 : decode cX5_count 105 = .ok (.bipush 6, 2) := by decide +kernel
theorem dX5_count_107 : decode cX5_count 107 = .ok (.iload_n 1, 1) := by decide +kernel
theorem dX5_count_108 : decode cX5_count 108 = .ok (.iadd, 1) := by decide +kernel
theorem dX5_count_109 : decode cX5_count 109 = .ok (.bipush 6, 2) := by decide +kernel
theorem dX5_count_111 : decode cX5_count 111 = .ok (.isub, 1) := by decide +kernel
theorem dX5_count_112 : decode cX5_count 112 = .ok (.iaload, 1) := by decide +kernel
theorem dX5_count_113 : decode cX5_count 113 = .ok (.ireturn, 1) := by decide +kernel
theorem dX5_count_114 : decode cX5_count 114 = .ok (.aload_n 0, 1) := by decide +kernel
theorem dX5_count_115 : decode cX5_count 115 = .ok (.getfield 7, 3) := by decide +kernel
theorem dX5_count_118 : decode cX5_count 118 = .ok (.iload_n 1, 1) := by decide +kernel
theorem dX5_count_119 : decode cX5_count 119 = .ok (.bipush 11, 2) := by decide +kernel
theorem dX5_count_121 : decode cX5_count 121 = .ok (.isub, 1) := by decide +kernel
theorem dX5_count_122 : decode cX5_count 122 = .ok (.iaload, 1) := by decide +kernel
theorem dX5_count_123 : decode cX5_count 123 = .ok (.ireturn, 1) := by decide +kernel
theorem dX5_count_124 : decode cX5_count 124 = .ok (.aload_n 0, 1) := by decide +kernel
theorem dX5_count_125 : decode cX5_count 125 = .ok (.getfield 31, 3) := by decide +kernel
theorem dX5_count_128 : decode cX5_count 128 = .ok (.ireturn, 1) := by decide +kernel
theorem dX5_count_129 : decode cX5_count 129 = .ok (.aload_n 0, 1) := by decide +kernel
theorem dX5_count_130 : decode cX5_count 130 = .ok (.getfield 143, 3) := by decide +kernel
theorem dX5_count_133 : decode cX5_count 133 = .ok (.ireturn, 1) := by decide +kernel
theorem dX5_count_134 : decode cX5_count 134 = .ok (.bipush (-2), 2) := by decide +kernel
theorem dX5_count_136 : decode cX5_count 136 = .ok (.ireturn, 1) := by decide +kernel
theorem dJ9_max_7cf53_0 : decode cJ9_max_7cf53 0 = .ok (.iload_n 0, 1) := by decide +kernel
theorem dJ9_max_7cf53_1 : decode cJ9_max_7cf53 1 = .ok (.iload_n 1, 1) := by decide +kernel
theorem dJ9_max_7cf53_2 : decode cJ9_max_7cf53 2 = .ok (.if_icmp .lt 7, 3) := by decide +kernel
theorem dJ9_max_7cf53_5 : decode cJ9_max_7cf53 5 = .ok (.iload_n 0, 1) := by decide +kernel
theorem dJ9_max_7cf53_6 : decode cJ9_max_7cf53 6 = .ok (.goto 4, 3) := by decide +kernel
theorem dJ9_max_7cf53_9 : decode cJ9_max_7cf53 9 = .ok (.iload_n 1, 1) := by decide +kernel
theorem dJ9_max_7cf53_10 : decode cJ9_max_7cf53 10 = .ok (.ireturn, 1) := by decide +kernel
theorem dJ9_min_7cf53_0 : decode cJ9_min_7cf53 0 = .ok (.iload_n 0, 1) := by decide +kernel
theorem dJ9_min_7cf53_1 : decode cJ9_min_7cf53 1 = .ok (.iload_n 1, 1) := by decide +kernel
theorem dJ9_min_7cf53_2 : decode cJ9_min_7cf53 2 = .ok (.if_icmp .gt 7, 3) := by decide +kernel
theorem dJ9_min_7cf53_5 : decode cJ9_min_7cf53 5 = .ok (.iload_n 0, 1) := by decide +kernel
theorem dJ9_min_7cf53_6 : decode cJ9_min_7cf53 6 = .ok (.goto 4, 3) := by decide +kernel
theorem dJ9_min_7cf53_9 : decode cJ9_min_7cf53 9 = .ok (.iload_n 1, 1) := by decide +kernel
theorem dJ9_min_7cf53_10 : decode cJ9_min_7cf53 10 = .ok (.ireturn, 1) := by decide +kernel
