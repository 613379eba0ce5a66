theorem dL_isStep_869 : decode cL_isStep 869 = .ok (.aload_n 1, 1) := by decide +kernel
theorem dL_isStep_870 : decode cL_isStep 870 = .ok (.bipush 107, 2) := by decide +kernel
theorem dL_isStep_872 : decode cL_isStep 872 = .ok (.invokevirtual 9, 3) := by decide +kernel
theorem dL_isStep_875 : decode cL_isStep 875 = .ok (.ifCond .le 84, 3) := by decide +kernel
theorem dL_isStep_878 : decode cL_isStep 878 = .ok (.aload_n 1, 1) := by decide +kernel
theorem dL_isStep_879 : decode cL_isStep 879 = .ok (.iload 6, 2) := by decide +kernel
theorem dL_isStep_881 : decode cL_isStep 881 = .ok (.invokestatic 66, 3) := by decide +kernel
theorem dL_isStep_884 : decode cL_isStep 884 = .ok (.ifCond .eq 75, 3) := by decide +kernel
theorem dL_isStep_887 : decode cL_isStep 887 = .ok (.aload_n 1, 1) := by decide +kernel
theorem dL_isStep_888 : decode cL_isStep 888 = .ok (.bipush 46, 2) := by decide +kernel
theorem dL_isStep_890 : decode cL_isStep 890 = .ok (.invokevirtual 9, 3) := by decide +kernel
theorem dL_isStep_893 : decode cL_isStep 893 = .ok (.ifCond .le 66, 3) := by decide +kernel
theorem dL_isStep_896 : decode cL_isStep 896 = .ok (.aload_n 1, 1) := by decide +kernel
theorem dL_isStep_897 : decode cL_isStep 897 = .ok (.iconst 2, 1) := by decide +kernel
theorem dL_isStep_898 : decode cL_isStep 898 = .ok (.iload 7, 2) := by decide +kernel
theorem dL_isStep_900 : decode cL_isStep 900 = .ok (.imul, 1) := by decide +kernel
theorem dL_isStep_901 : decode cL_isStep 901 = .ok (.invokestatic 66, 3) := by decide +kernel
theorem dL_isStep_904 : decode cL_isStep 904 = .ok (.ifCond .eq 55, 3) := by decide +kernel
theorem dL_isStep_907 : decode cL_isStep 907 = .ok (.aload_n 1, 1) := by decide +kernel
theorem dL_isStep_908 : decode cL_isStep 908 = .ok (.bipush 64, 2) := by decide +kernel
theorem dL_isStep_910 : decode cL_isStep 910 = .ok (.invokevirtual 9, 3) := by decide +kernel
theorem dL_isStep_913 : decode cL_isStep 913 = .ok (.ifCond .le 46, 3) := by decide +kernel
theorem dL_isStep_916 : decode cL_isStep 916 = .ok (.aload_n 1, 1) := by decide +kernel
theorem dL_isStep_917 : decode cL_isStep 917 = .ok (.iload 8, 2) := by decide +kernel
theorem dL_isStep_919 : decode cL_isStep 919 = .ok (.invokestatic 66, 3) := by decide +kernel
theorem dL_isStep_922 : decode cL_isStep 922 = .ok (.ifCond .eq 37, 3) := by decide +kernel
theorem dL_isStep_925 : decode cL_isStep 925 = .ok (.aload_n 1, 1) := by decide +kernel
theorem dL_isStep_926 : decode cL_isStep 926 = .ok (.invokevirtual 70, 3) := by decide +kernel
theorem dL_isStep_929 : decode cL_isStep 929 = .ok (.iconst 1, 1) := by decide +kernel
theorem dL_isStep_930 : decode cL_isStep 930 = .ok (.if_icmp .ne 29, 3) := by decide +kernel
theorem dL_isStep_933 : decode cL_isStep 933 = .ok (.aload_n 0, 1) := by decide +kernel
theorem dL_isStep_934 : decode cL_isStep 934 = .ok (.iload 5, 2) := by decide +kernel
theorem dL_isStep_936 : decode cL_isStep 936 = .ok (.iconst 3, 1) := by decide +kernel
theorem dL_isStep_937 : decode cL_isStep 937 = .ok (.invokevirtual 28, 3) := by decide +kernel
theorem dL_isStep_940 : decode cL_isStep 940 = .ok (.ifCond .ne 19, 3) := by decide +kernel
theorem dL_isStep_943 : decode cL_isStep 943 = .ok (.aload_n 0, 1) := by decide +kernel
theorem dL_isStep_944 : decode cL_isStep 944 = .ok (.iload 5, 2) := by decide +kernel
theorem dL_isStep_946 : decode cL_isStep 946 = .ok (.iconst 2, 1) := by decide +kernel
theorem dL_isStep_947 : decode cL_isStep 947 = .ok (.invokevirtual 28, 3) := by decide +kernel
theorem dL_isStep_950 : decode cL_isStep 950 = .ok (.iload 8, 2) := by decide +kernel
theorem dL_isStep_952 : decode cL_isStep 952 = .ok (.if_icmp .ne 7, 3) := by decide +kernel
theorem dL_isStep_955 : decode cL_isStep 955 = .ok (.iconst 1, 1) := by decide +kernel
theorem dL_isStep_956 : decode cL_isStep 956 = .ok (.goto 4, 3) := by decide +kernel
theorem dL_isStep_959 : decode cL_isStep 959 = .ok (.iconst 0, 1) := by decide +kernel
theorem dL_isStep_960 : decode cL_isStep 960 = .ok (.ireturn, 1) := by decide +kernel
set_option maxRecDepth 20000 in
theorem ggL_areAlike_X4_wrongPairs : GoodIn wsL_areAlike wsX4_wrongPairs := goodIn_r _ [5, 6, 7, 8, 9, 10, 11, 12, 13, 14, 15, 16, 17, 18, 19, 20, 21, 22, 23, 24, 25, 26, 27, 28, 230, 231, 232, 233, 234, 235, 236, 237, 238, 239, 240, 241, 242, 243, 244, 245, 246, 247, 248] (by decide +kernel) (by decide +kernel)
set_option maxRecDepth 20000 in
theorem gL_areAlike_X4_wrongPairs : GoodIn wsL_areAlike (wsV RL 37 RX4 yX4_wrongPairs wsX4_wrongPairs) := goodIn_app (goodIn_of _ (by decide +kernel)) ggL_areAlike_X4_wrongPairs
set_option maxRecDepth 20000 in
theorem ggL_areAlike_X4_changesNeeded : GoodIn wsL_areAlike wsX4_changesNeeded := goodIn_r _ [32, 33, 6, 34, 35, 36, 10, 37, 38, 28, 39, 12, 40, 41, 42, 43, 44, 45, 4, 46, 47, 48, 49, 50, 51, 52, 53, 54, 55, 56, 57, 16, 58, 23, 18, 59, 60, 61, 62, 63, 64, 65, 66, 67, 13, 14, 15, 17, 19, 20, 21, 22, 24, 25, 26, 27, 68, 69, 70, 71, 72, 73, 74, 75, 230, 231, 232, 233, 234, 235, 236, 237, 238, 239, 240, 241, 242, 243, 244, 245, 246, 247, 248] (by decide +kernel) (by decide +kernel)
set_option maxRecDepth 20000 in
theorem gL_areAlike_X4_changesNeeded : GoodIn wsL_areAlike (wsV RL 73 RX4 yX4_changesNeeded wsX4_changesNeeded) := goodIn_app (goodIn_of _ (by decide +kernel)) ggL_areAlike_X4_changesNeeded
set_option maxRecDepth 20000 in
theorem ggL_areAlike_X4_mostSlighted : GoodIn wsL_areAlike wsX4_mostSlighted := goodIn_r _ [79, 6, 80, 81, 82, 10, 83, 12, 13, 14, 15, 16, 17, 18, 19, 20, 21, 22, 23, 84, 85, 86, 87, 38, 88, 89, 90, 91, 41, 230, 231, 232, 233, 234, 235, 236, 237, 238, 239, 240, 241, 242, 243, 244, 245, 246, 247, 248] (by decide +kernel) (by decide +kernel)
set_option maxRecDepth 20000 in
theorem gL_areAlike_X4_mostSlighted : GoodIn wsL_areAlike (wsV RL 76 RX4 yX4_mostSlighted wsX4_mostSlighted) := goodIn_app (goodIn_of _ (by decide +kernel)) ggL_areAlike_X4_mostSlighted
set_option maxRecDepth 20000 in
theorem ggL_areAlike_X4_nextArrival : GoodIn wsL_areAlike wsX4_nextArrival := goodIn_r _ [95, 6, 96, 97, 98, 10, 99, 41, 84, 85, 86, 87, 38, 88, 89, 90, 91, 230, 231, 232, 233, 234, 235, 236, 237, 238, 239, 240, 241, 242, 243, 244, 245, 246] (by decide +kernel) (by decide +kernel)
set_option maxRecDepth 20000 in
theorem gL_areAlike_X4_nextArrival : GoodIn wsL_areAlike (wsV RL 79 RX4 yX4_nextArrival wsX4_nextArrival) := goodIn_app (goodIn_of _ (by decide +kernel)) ggL_areAlike_X4_nextArrival
set_option maxRecDepth 20000 in
theorem ggL_areAlike_L_up : GoodIn wsL_areAlike wsL_up := goodIn_r _ [103, 104] (by decide +kernel) (by decide +kernel)
set_option maxRecDepth 20000 in
theorem gL_areAlike_L_up : GoodIn wsL_areAlike (va_wsS RL 19 yL_up wsL_up) := goodIn_app (goodIn_of _ (by decide +kernel)) ggL_areAlike_L_up
set_option maxRecDepth 20000 in
theorem ggL_areAlike_X4_ifRounds : GoodIn wsL_areAlike wsX4_ifRounds := goodIn_r _ [108, 33, 6, 34, 35, 36, 10, 37, 38, 28, 39, 12, 40, 41, 42, 43, 44, 45, 4, 46, 47, 48, 49, 50, 51, 52, 53, 54, 55, 56, 57, 16, 58, 23, 18, 59, 109, 110, 111, 112, 13, 14, 15, 17, 19, 20, 21, 22, 84, 85, 86, 87, 88, 89, 90, 91, 113, 114, 115, 116, 64, 65, 66, 67, 24, 25, 26, 27, 117, 118, 119, 120, 121, 122, 123, 124, 125, 126, 127, 128, 129, 130, 131, 132, 133, 61, 62, 63, 68, 69, 70, 71, 72, 73, 74, 75, 134, 135, 136, 137, 138, 139, 140, 141, 142, 143, 144, 145, 146, 230, 231, 232, 233, 234, 235, 236, 237, 238, 239, 240, 241, 242, 243, 244, 245, 246, 247, 248] (by decide +kernel) (by decide +kernel)
set_option maxRecDepth 20000 in
theorem gL_areAlike_X4_ifRounds : GoodIn wsL_areAlike (wsV RL 82 RX4 yX4_ifRounds wsX4_ifRounds) := goodIn_app (goodIn_of _ (by decide +kernel)) ggL_areAlike_X4_ifRounds
set_option maxRecDepth 20000 in
theorem ggL_areAlike_X4_count : GoodIn wsL_areAlike wsX4_count := goodIn_r _ [150, 151, 152, 6, 153, 154, 155, 156, 157, 158, 159, 160, 161, 162, 163, 164, 165, 166, 167, 10, 168, 42, 41, 43, 44, 169, 170, 171, 172, 84, 85, 86, 87, 38, 88, 89, 90, 91, 173, 144, 145, 146, 129, 130, 131, 132, 39, 230, 231, 232, 233, 234, 235, 236, 237, 249, 250, 251, 252, 253, 254, 255, 256, 257, 258, 238, 239, 240, 241, 242, 243, 244, 245, 246] (by decide +kernel) (by decide +kernel)
set_option maxRecDepth 20000 in
theorem gL_areAlike_X4_count : GoodIn wsL_areAlike (wsV RL 15 RX4 yX4_count wsX4_count) := goodIn_app (goodIn_of _ (by decide +kernel)) ggL_areAlike_X4_count
set_option maxRecDepth 20000 in
theorem ggL_areAlike_X4_king : GoodIn wsL_areAlike wsX4_king := goodIn_r _ [177, 6, 178, 89, 90, 10, 91, 41, 179, 180, 181, 182, 12, 40, 125, 126, 127, 16, 128, 18, 23, 84, 85, 86, 87, 38, 88, 230, 231, 232, 233, 234, 235, 236, 237, 238, 239, 240, 241, 242, 243, 244, 245, 246, 247, 248] (by decide +kernel) (by decide +kernel)
set_option maxRecDepth 20000 in
theorem gL_areAlike_X4_king : GoodIn wsL_areAlike (wsV RL 28 RX4 yX4_king wsX4_king) := goodIn_app (goodIn_of _ (by decide +kernel)) ggL_areAlike_X4_king
set_option maxRecDepth 20000 in
theorem ggL_areAlike_X4_dueIn : GoodIn wsL_areAlike wsX4_dueIn := goodIn_r _ [186, 6, 33, 178, 89, 90, 10, 91, 41, 179, 180, 181, 182, 12, 40, 125, 126, 127, 16, 128, 18, 23, 84, 85, 86, 87, 38, 88, 34, 35, 36, 37, 28, 39, 42, 43, 44, 45, 4, 46, 47, 48, 49, 50, 51, 52, 53, 54, 55, 56, 57, 58, 59, 187, 122, 123, 124, 19, 20, 21, 22, 24, 25, 26, 27, 188, 130, 131, 132, 60, 61, 62, 63, 64, 65, 66, 67, 13, 14, 15, 17, 68, 69, 70, 71, 72, 73, 74, 75, 230, 231, 232, 233, 234, 235, 236, 237, 238, 239, 240, 241, 242, 243, 244, 245, 246, 247, 248] (by decide +kernel) (by decide +kernel)
set_option maxRecDepth 20000 in
theorem gL_areAlike_X4_dueIn : GoodIn wsL_areAlike (wsV RL 85 RX4 yX4_dueIn wsX4_dueIn) := goodIn_app (goodIn_of _ (by decide +kernel)) ggL_areAlike_X4_dueIn
set_option maxRecDepth 20000 in
theorem ggL_areAlike_X4_reason : GoodIn wsL_areAlike wsX4_reason := goodIn_r _ [192, 6, 178, 89, 90, 10, 91, 41, 193, 194, 195, 196, 12, 125, 126, 127, 16, 128, 18, 23, 24, 25, 26, 27, 28, 84, 85, 86, 87, 38, 88, 230, 231, 232, 233, 234, 235, 236, 237, 238, 239, 240, 241, 242, 243, 244, 245, 246, 247, 248] (by decide +kernel) (by decide +kernel)
set_option maxRecDepth 20000 in
theorem gL_areAlike_X4_reason : GoodIn wsL_areAlike (wsV RL 44 RX4 yX4_reason wsX4_reason) := goodIn_app (goodIn_of _ (by decide +kernel)) ggL_areAlike_X4_reason
set_option maxRecDepth 20000 in
theorem ggL_areAlike_X4_seat : GoodIn wsL_areAlike wsX4_seat := goodIn_r _ [200, 6, 201, 202, 203, 10, 204, 12, 19, 20, 21, 16, 22, 18, 23, 230, 231, 232, 233, 234, 235, 236, 237, 238, 239, 240, 241, 242, 243, 244, 245, 246, 247, 248] (by decide +kernel) (by decide +kernel)
set_option maxRecDepth 20000 in
theorem gL_areAlike_X4_seat : GoodIn wsL_areAlike (wsV RL 31 RX4 yX4_seat wsX4_seat) := goodIn_app (goodIn_of _ (by decide +kernel)) ggL_areAlike_X4_seat
set_option maxRecDepth 20000 in
theorem ggL_areAlike_X4_waits : GoodIn wsL_areAlike wsX4_waits := goodIn_r _ [208, 6, 209, 210, 211, 10, 212, 40, 19, 20, 21, 16, 22, 18, 23, 230, 231, 232, 233, 234, 235, 236, 237, 238, 239, 240, 241, 242, 243, 244, 245, 246, 247, 248] (by decide +kernel) (by decide +kernel)
set_option maxRecDepth 20000 in
theorem gL_areAlike_X4_waits : GoodIn wsL_areAlike (wsV RL 88 RX4 yX4_waits wsX4_waits) := goodIn_app (goodIn_of _ (by decide +kernel)) ggL_areAlike_X4_waits
set_option maxRecDepth 20000 in
theorem ggL_areAlike_X4_dueSeat : GoodIn wsL_areAlike wsX4_dueSeat := goodIn_r _ [216, 6, 217, 218, 4, 219, 220, 221, 222, 223, 224, 225, 226, 227, 228, 10, 229, 41, 28, 84, 85, 86, 87, 38, 88, 89, 90, 91, 230, 231, 232, 233, 234, 235, 236, 237, 238, 239, 240, 241, 242, 243, 244, 245, 246] (by decide +kernel) (by decide +kernel)
set_option maxRecDepth 20000 in
theorem gL_areAlike_X4_dueSeat : GoodIn wsL_areAlike (wsV RL 91 RX4 yX4_dueSeat wsX4_dueSeat) := goodIn_app (goodIn_of _ (by decide +kernel)) ggL_areAlike_X4_dueSeat
theorem dL_areAlike_0 : decode cL_areAlike 0 = .ok (.aload_n 0, 1) := by decide +kernel
theorem dL_areAlike_1 : decode cL_areAlike 1 = .ok (.invokevirtual 37, 3) := by decide +kernel
theorem dL_areAlike_4 : decode cL_areAlike 4 = .ok (.aload_n 1, 1) := by decide +kernel
theorem dL_areAlike_5 : decode cL_areAlike 5 = .ok (.invokevirtual 37, 3) := by decide +kernel
theorem dL_areAlike_8 : decode cL_areAlike 8 = .ok (.if_icmp .ne 67, 3) := by decide +kernel
theorem dL_areAlike_11 : decode cL_areAlike 11 = .ok (.aload_n 0, 1) := by decide +kernel
theorem dL_areAlike_12 : decode cL_areAlike 12 = .ok (.invokevirtual 73, 3) := by decide +kernel
theorem dL_areAlike_15 : decode cL_areAlike 15 = .ok (.aload_n 1, 1) := by decide +kernel
theorem dL_areAlike_16 : decode cL_areAlike 16 = .ok (.invokevirtual 73, 3) := by decide +kernel
theorem dL_areAlike_19 : decode cL_areAlike 19 = .ok (.if_icmp .ne 56, 3) := by decide +kernel
theorem dL_areAlike_22 : decode cL_areAlike 22 = .ok (.aload_n 0, 1) := by decide +kernel
theorem dL_areAlike_23 : decode cL_areAlike 23 = .ok (.invokevirtual 76, 3) := by decide +kernel
theorem dL_areAlike_26 : decode cL_areAlike 26 = .ok (.aload_n 1, 1) := by decide +kernel
theorem dL_areAlike_27 : decode cL_areAlike 27 = .ok (.invokevirtual 76, 3) := by decide +kernel
theorem dL_areAlike_30 : decode cL_areAlike 30 = .ok (.if_icmp .ne 45, 3) := by decide +kernel
theorem dL_areAlike_33 : decode cL_areAlike 33 = .ok (.aload_n 0, 1) := by decide +kernel
theorem dL_areAlike_34 : decode cL_areAlike 34 = .ok (.invokevirtual 79, 3) := by decide +kernel
theorem dL_areAlike_37 : decode cL_areAlike 37 = .ok (.aload_n 1, 1) := by decide +kernel
theorem dL_areAlike_38 : decode cL_areAlike 38 = .ok (.invokevirtual 79, 3) := by decide +kernel
theorem dL_areAlike_41 : decode cL_areAlike 41 = .ok (.if_icmp .ne 34, 3) := by decide +kernel
theorem dL_areAlike_44 : decode cL_areAlike 44 = .ok (.aload_n 0, 1) := by decide +kernel
theorem dL_areAlike_45 : decode cL_areAlike 45 = .ok (.iconst 1, 1) := by decide +kernel
theorem dL_areAlike_46 : decode cL_areAlike 46 = .ok (.iload_n 2, 1) := by decide +kernel
theorem dL_areAlike_47 : decode cL_areAlike 47 = .ok (.bipush 30, 2) := by decide +kernel
theorem dL_areAlike_49 : decode cL_areAlike 49 = .ok (.invokestatic 19, 3) := by decide +kernel
theorem dL_areAlike_52 : decode cL_areAlike 52 = .ok (.iadd, 1) := by decide +kernel
theorem dL_areAlike_53 : decode cL_areAlike 53 = .ok (.invokevirtual 82, 3) := by decide +kernel
theorem dL_areAlike_56 : decode cL_areAlike 56 = .ok (.aload_n 1, 1) := by decide +kernel
theorem dL_areAlike_57 : decode cL_areAlike 57 = .ok (.iconst 1, 1) := by decide +kernel
theorem dL_areAlike_58 : decode cL_areAlike 58 = .ok (.iload_n 2, 1) := by decide +kernel
theorem dL_areAlike_59 : decode cL_areAlike 59 = .ok (.bipush 30, 2) := by decide +kernel
theorem dL_areAlike_61 : decode cL_areAlike 61 = .ok (.invokestatic 19, 3) := by decide +kernel
theorem dL_areAlike_64 : decode cL_areAlike 64 = .ok (.iadd, 1) := by decide +kernel
theorem dL_areAlike_65 : decode cL_areAlike 65 = .ok (.invokevirtual 82, 3) := by decide +kernel
theorem dL_areAlike_68 : decode cL_areAlike 68 = .ok (.if_icmp .ne 7, 3) := by decide +kernel
theorem dL_areAlike_71 : decode cL_areAlike 71 = .ok (.iconst 1, 1) := by decide +kernel
theorem dL_areAlike_72 : decode cL_areAlike 72 = .ok (.goto 4, 3) := by decide +kernel
theorem dL_areAlike_75 : decode cL_areAlike 75 = .ok (.iconst 0, 1) := by decide +kernel
theorem dL_areAlike_76 : decode cL_areAlike 76 = .ok (.istore_n 3, 1) := by decide +kernel
theorem dL_areAlike_77 : decode cL_areAlike 77 = .ok (.iconst 0, 1) := by decide +kernel
theorem dL_areAlike_78 : decode cL_areAlike 78 = .ok (.istore 4, 2) := by decide +kernel
theorem dL_areAlike_80 : decode cL_areAlike 80 = .ok (.iload 4, 2) := by decide +kernel
theorem dL_areAlike_82 : decode cL_areAlike 82 = .ok (.bipush 15, 2) := by decide +kernel
theorem dL_areAlike_84 : decode cL_areAlike 84 = .ok (.if_icmp .ge 34, 3) := by decide +kernel
theorem dL_areAlike_87 : decode cL_areAlike 87 = .ok (.iload_n 3, 1) := by decide +kernel
theorem dL_areAlike_88 : decode cL_areAlike 88 = .ok (.ifCond .eq 22, 3) := by decide +kernel
theorem dL_areAlike_91 : decode cL_areAlike 91 = .ok (.aload_n 0, 1) := by decide +kernel
theorem dL_areAlike_92 : decode cL_areAlike 92 = .ok (.iload 4, 2) := by decide +kernel
theorem dL_areAlike_94 : decode cL_areAlike 94 = .ok (.invokevirtual 15, 3) := by decide +kernel
theorem dL_areAlike_97 : decode cL_areAlike 97 = .ok (.aload_n 1, 1) := by decide +kernel
theorem dL_areAlike_98 : decode cL_areAlike 98 = .ok (.iload 4, 2) := by decide +kernel
theorem dL_areAlike_100 : decode cL_areAlike 100 = .ok (.invokevirtual 15, 3) := by decide +kernel
theorem dL_areAlike_103 : decode cL_areAlike 103 = .ok (.if_icmp .ne 7, 3) := by decide +kernel
theorem dL_areAlike_106 : decode cL_areAlike 106 = .ok (.iconst 1, 1) := by decide +kernel
theorem dL_areAlike_107 : decode cL_areAlike 107 = .ok (.goto 4, 3) := by decide +kernel
theorem dL_areAlike_110 : decode cL_areAlike 110 = .ok (.iconst 0, 1) := by decide +kernel
theorem dL_areAlike_111 : decode cL_areAlike 111 = .ok (.istore_n 3, 1) := by decide +kernel
theorem dL_areAlike_112 : decode cL_areAlike 112 = .ok (.iinc 4 1, 3) := by decide +kernel
theorem dL_areAlike_115 : decode cL_areAlike 115 = .ok (.goto (-35), 3) := by decide +kernel
theorem dL_areAlike_118 : decode cL_areAlike 118 = .ok (.iconst 0, 1) := by decide +kernel
theorem dL_areAlike_119 : decode cL_areAlike 119 = .ok (.istore 4, 2) := by decide +kernel
theorem dL_areAlike_121 : decode cL_areAlike 121 = .ok (.iload 4, 2) := by decide +kernel
theorem dL_areAlike_123 : decode cL_areAlike 123 = .ok (.aload_n 0, 1) := by decide +kernel
theorem dL_areAlike_124 : decode cL_areAlike 124 = .ok (.iconst 1, 1) := by decide +kernel
theorem dL_areAlike_125 : decode cL_areAlike 125 = .ok (.invokevirtual 15, 3) := by decide +kernel
theorem dL_areAlike_128 : decode cL_areAlike 128 = .ok (.if_icmp .ge 150, 3) := by decide +kernel
theorem dL_areAlike_131 : decode cL_areAlike 131 = .ok (.iconst 0, 1) := by decide +kernel
theorem dL_areAlike_132 : decode cL_areAlike 132 = .ok (.istore 5, 2) := by decide +kernel
theorem dL_areAlike_134 : decode cL_areAlike 134 = .ok (.iload 5, 2) := by decide +kernel
theorem dL_areAlike_136 : decode cL_areAlike 136 = .ok (.bipush 9, 2) := by decide +kernel
theorem dL_areAlike_138 : decode cL_areAlike 138 = .ok (.if_icmp .ge 66, 3) := by decide +kernel
theorem dL_areAlike_141 : decode cL_areAlike 141 = .ok (.iload_n 3, 1) := by decide +kernel
theorem dL_areAlike_142 : decode cL_areAlike 142 = .ok (.ifCond .eq 54, 3) := by decide +kernel
theorem dL_areAlike_145 : decode cL_areAlike 145 = .ok (.iload 5, 2) := by decide +kernel
theorem dL_areAlike_147 : decode cL_areAlike 147 = .ok (.iconst 1, 1) := by decide +kernel
theorem dL_areAlike_148 : decode cL_areAlike 148 = .ok (.if_icmp .ne 25, 3) := by decide +kernel
theorem dL_areAlike_151 : decode cL_areAlike 151 = .ok (.iconst 2, 1) := by decide +kernel
theorem dL_areAlike_152 : decode cL_areAlike 152 = .ok (.aload_n 0, 1) := by decide +kernel
theorem dL_areAlike_153 : decode cL_areAlike 153 = .ok (.iload 4, 2) := by decide +kernel
theorem dL_areAlike_155 : decode cL_areAlike 155 = .ok (.iconst 1, 1) := by decide +kernel
theorem dL_areAlike_156 : decode cL_areAlike 156 = .ok (.invokevirtual 28, 3) := by decide +kernel
theorem dL_areAlike_159 : decode cL_areAlike 159 = .ok (.imul, 1) := by decide +kernel
theorem dL_areAlike_160 : decode cL_areAlike 160 = .ok (.aload_n 1, 1) := by decide +kernel
theorem dL_areAlike_161 : decode cL_areAlike 161 = .ok (.iload 4, 2) := by decide +kernel
theorem dL_areAlike_163 : decode cL_areAlike 163 = .ok (.iconst 1, 1) := by decide +kernel
theorem dL_areAlike_164 : decode cL_areAlike 164 = .ok (.invokevirtual 28, 3) := by decide +kernel
theorem dL_areAlike_167 : decode cL_areAlike 167 = .ok (.if_icmp .ne 29, 3) := by decide +kernel
theorem dL_areAlike_170 : decode cL_areAlike 170 = .ok (.goto 22, 3) := by decide +kernel
theorem dL_areAlike_173 : decode cL_areAlike 173 = .ok (.aload_n 0, 1) := by decide +kernel
theorem dL_areAlike_174 : decode cL_areAlike 174 = .ok (.iload 4, 2) := by decide +kernel
theorem dL_areAlike_176 : decode cL_areAlike 176 = .ok (.iload 5, 2) := by decide +kernel
theorem dL_areAlike_178 : decode cL_areAlike 178 = .ok (.invokevirtual 28, 3) := by decide +kernel
theorem dL_areAlike_181 : decode cL_areAlike 181 = .ok (.aload_n 1, 1) := by decide +kernel
theorem dL_areAlike_182 : decode cL_areAlike 182 = .ok (.iload 4, 2) := by decide +kernel
theorem dL_areAlike_184 : decode cL_areAlike 184 = .ok (.iload 5, 2) := by decide +kernel
theorem dL_areAlike_186 : decode cL_areAlike 186 = .ok (.invokevirtual 28, 3) := by decide +kernel
theorem dL_areAlike_189 : decode cL_areAlike 189 = .ok (.if_icmp .ne 7, 3) := by decide +kernel
theorem dL_areAlike_192 : decode cL_areAlike 192 = .ok (.iconst 1, 1) := by decide +kernel
theorem dL_areAlike_193 : decode cL_areAlike 193 = .ok (.goto 4, 3) := by decide +kernel
theorem dL_areAlike_196 : decode cL_areAlike 196 = .ok (.iconst 0, 1) := by decide +kernel
theorem dL_areAlike_197 : decode cL_areAlike 197 = .ok (.istore_n 3, 1) := by decide +kernel
theorem dL_areAlike_198 : decode cL_areAlike 198 = .ok (.iinc 5 1, 3) := by decide +kernel
theorem dL_areAlike_201 : decode cL_areAlike 201 = .ok (.goto (-67), 3) := by decide +kernel
theorem dL_areAlike_204 : decode cL_areAlike 204 = .ok (.iload_n 3, 1) := by decide +kernel
theorem dL_areAlike_205 : decode cL_areAlike 205 = .ok (.ifCond .eq 22, 3) := by decide +kernel
theorem dL_areAlike_208 : decode cL_areAlike 208 = .ok (.aload_n 0, 1) := by decide +kernel
theorem dL_areAlike_209 : decode cL_areAlike 209 = .ok (.iload 4, 2) := by decide +kernel
theorem dL_areAlike_211 : decode cL_areAlike 211 = .ok (.invokevirtual 85, 3) := by decide +kernel
theorem dL_areAlike_214 : decode cL_areAlike 214 = .ok (.aload_n 1, 1) := by decide +kernel
theorem dL_areAlike_215 : decode cL_areAlike 215 = .ok (.iload 4, 2) := by decide +kernel
theorem dL_areAlike_217 : decode cL_areAlike 217 = .ok (.invokevirtual 85, 3) := by decide +kernel
theorem dL_areAlike_220 : decode cL_areAlike 220 = .ok (.if_icmp .ne 7, 3) := by decide +kernel
theorem dL_areAlike_223 : decode cL_areAlike 223 = .ok (.iconst 1, 1) := by decide +kernel
theorem dL_areAlike_224 : decode cL_areAlike 224 = .ok (.goto 4, 3) := by decide +kernel
theorem dL_areAlike_227 : decode cL_areAlike 227 = .ok (.iconst 0, 1) := by decide +kernel
