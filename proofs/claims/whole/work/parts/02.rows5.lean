set_option maxRecDepth 20000 in
theorem gX9_fewest_X9_leastFrom : GoodIn wsX9_fewest (wsV RX9 156 RX9 yX9_leastFrom wsX9_leastFrom) := goodIn_app (goodIn_of _ (by decide +kernel)) ggX9_fewest_X9_leastFrom
theorem dX9_fewest_0 : decode cX9_fewest 0 = .ok (.aload_n 0, 1) := by decide +kernel
theorem dX9_fewest_1 : decode cX9_fewest 1 = .ok (.invokevirtual 149, 3) := by decide +kernel
theorem dX9_fewest_4 : decode cX9_fewest 4 = .ok (.aload_n 0, 1) := by decide +kernel
theorem dX9_fewest_5 : decode cX9_fewest 5 = .ok (.iconst 0, 1) := by decide +kernel
theorem dX9_fewest_6 : decode cX9_fewest 6 = .ok (.putfield 153, 3) := by decide +kernel
theorem dX9_fewest_9 : decode cX9_fewest 9 = .ok (.iconst 0, 1) := by decide +kernel
theorem dX9_fewest_10 : decode cX9_fewest 10 = .ok (.istore_n 1, 1) := by decide +kernel
theorem dX9_fewest_11 : decode cX9_fewest 11 = .ok (.iload_n 1, 1) := by decide +kernel
theorem dX9_fewest_12 : decode cX9_fewest 12 = .ok (.bipush 100, 2) := by decide +kernel
theorem dX9_fewest_14 : decode cX9_fewest 14 = .ok (.if_icmp .ge 24, 3) := by decide +kernel
theorem dX9_fewest_17 : decode cX9_fewest 17 = .ok (.aload_n 0, 1) := by decide +kernel
theorem dX9_fewest_18 : decode cX9_fewest 18 = .ok (.getfield 57, 3) := by decide +kernel
theorem dX9_fewest_21 : decode cX9_fewest 21 = .ok (.bipush 100, 2) := by decide +kernel
theorem dX9_fewest_23 : decode cX9_fewest 23 = .ok (.aload_n 0, 1) := by decide +kernel
theorem dX9_fewest_24 : decode cX9_fewest 24 = .ok (.getfield 66, 3) := by decide +kernel
theorem dX9_fewest_27 : decode cX9_fewest 27 = .ok (.imul, 1) := by decide +kernel
theorem dX9_fewest_28 : decode cX9_fewest 28 = .ok (.iload_n 1, 1) := by decide +kernel
theorem dX9_fewest_29 : decode cX9_fewest 29 = .ok (.iadd, 1) := by decide +kernel
theorem dX9_fewest_30 : decode cX9_fewest 30 = .ok (.iconst 0, 1) := by decide +kernel
theorem dX9_fewest_31 : decode cX9_fewest 31 = .ok (.iastore, 1) := by decide +kernel
theorem dX9_fewest_32 : decode cX9_fewest 32 = .ok (.iinc 1 1, 3) := by decide +kernel
theorem dX9_fewest_35 : decode cX9_fewest 35 = .ok (.goto (-24), 3) := by decide +kernel
theorem dX9_fewest_38 : decode cX9_fewest 38 = .ok (.aload_n 0, 1) := by decide +kernel
theorem dX9_fewest_39 : decode cX9_fewest 39 = .ok (.getfield 66, 3) := by decide +kernel
theorem dX9_fewest_42 : decode cX9_fewest 42 = .ok (.iconst 1, 1) := by decide +kernel
theorem dX9_fewest_43 : decode cX9_fewest 43 = .ok (.isub, 1) := by decide +kernel
theorem dX9_fewest_44 : decode cX9_fewest 44 = .ok (.istore_n 1, 1) := by decide +kernel
theorem dX9_fewest_45 : decode cX9_fewest 45 = .ok (.iload_n 1, 1) := by decide +kernel
theorem dX9_fewest_46 : decode cX9_fewest 46 = .ok (.aload_n 0, 1) := by decide +kernel
theorem dX9_fewest_47 : decode cX9_fewest 47 = .ok (.getfield 7, 3) := by decide +kernel
theorem dX9_fewest_50 : decode cX9_fewest 50 = .ok (.iconst 0, 1) := by decide +kernel
theorem dX9_fewest_51 : decode cX9_fewest 51 = .ok (.iaload, 1) := by decide +kernel
theorem dX9_fewest_52 : decode cX9_fewest 52 = .ok (.if_icmp .le 40, 3) := by decide +kernel
theorem dX9_fewest_55 : decode cX9_fewest 55 = .ok (.iconst 0, 1) := by decide +kernel
theorem dX9_fewest_56 : decode cX9_fewest 56 = .ok (.istore_n 2, 1) := by decide +kernel
theorem dX9_fewest_57 : decode cX9_fewest 57 = .ok (.iload_n 2, 1) := by decide +kernel
theorem dX9_fewest_58 : decode cX9_fewest 58 = .ok (.bipush 100, 2) := by decide +kernel
theorem dX9_fewest_60 : decode cX9_fewest 60 = .ok (.if_icmp .ge 26, 3) := by decide +kernel
theorem dX9_fewest_63 : decode cX9_fewest 63 = .ok (.aload_n 0, 1) := by decide +kernel
theorem dX9_fewest_64 : decode cX9_fewest 64 = .ok (.getfield 57, 3) := by decide +kernel
theorem dX9_fewest_67 : decode cX9_fewest 67 = .ok (.bipush 100, 2) := by decide +kernel
theorem dX9_fewest_69 : decode cX9_fewest 69 = .ok (.iload_n 1, 1) := by decide +kernel
theorem dX9_fewest_70 : decode cX9_fewest 70 = .ok (.imul, 1) := by decide +kernel
theorem dX9_fewest_71 : decode cX9_fewest 71 = .ok (.iload_n 2, 1) := by decide +kernel
theorem dX9_fewest_72 : decode cX9_fewest 72 = .ok (.iadd, 1) := by decide +kernel
theorem dX9_fewest_73 : decode cX9_fewest 73 = .ok (.aload_n 0, 1) := by decide +kernel
theorem dX9_fewest_74 : decode cX9_fewest 74 = .ok (.iload_n 1, 1) := by decide +kernel
theorem dX9_fewest_75 : decode cX9_fewest 75 = .ok (.iload_n 2, 1) := by decide +kernel
theorem dX9_fewest_76 : decode cX9_fewest 76 = .ok (.invokevirtual 156, 3) := by decide +kernel
theorem dX9_fewest_79 : decode cX9_fewest 79 = .ok (.iastore, 1) := by decide +kernel
theorem dX9_fewest_80 : decode cX9_fewest 80 = .ok (.iinc 2 1, 3) := by decide +kernel
theorem dX9_fewest_83 : decode cX9_fewest 83 = .ok (.goto (-26), 3) := by decide +kernel
theorem dX9_fewest_86 : decode cX9_fewest 86 = .ok (.iinc 1 (-1), 3) := by decide +kernel
theorem dX9_fewest_89 : decode cX9_fewest 89 = .ok (.goto (-44), 3) := by decide +kernel
theorem dX9_fewest_92 : decode cX9_fewest 92 = .ok (.aload_n 0, 1) := by decide +kernel
theorem dX9_fewest_93 : decode cX9_fewest 93 = .ok (.getfield 7, 3) := by decide +kernel
theorem dX9_fewest_96 : decode cX9_fewest 96 = .ok (.iconst 0, 1) := by decide +kernel
theorem dX9_fewest_97 : decode cX9_fewest 97 = .ok (.iaload, 1) := by decide +kernel
theorem dX9_fewest_98 : decode cX9_fewest 98 = .ok (.aload_n 0, 1) := by decide +kernel
theorem dX9_fewest_99 : decode cX9_fewest 99 = .ok (.getfield 66, 3) := by decide +kernel
theorem dX9_fewest_102 : decode cX9_fewest 102 = .ok (.if_icmp .ne 7, 3) := by decide +kernel
theorem dX9_fewest_105 : decode cX9_fewest 105 = .ok (.iconst 0, 1) := by decide +kernel
theorem dX9_fewest_106 : decode cX9_fewest 106 = .ok (.goto 19, 3) := by decide +kernel
theorem dX9_fewest_109 : decode cX9_fewest 109 = .ok (.aload_n 0, 1) := by decide +kernel
theorem dX9_fewest_110 : decode cX9_fewest 110 = .ok (.aload_n 0, 1) := by decide +kernel
theorem dX9_fewest_111 : decode cX9_fewest 111 = .ok (.getfield 7, 3) := by decide +kernel
theorem dX9_fewest_114 : decode cX9_fewest 114 = .ok (.iconst 0, 1) := by decide +kernel
theorem dX9_fewest_115 : decode cX9_fewest 115 = .ok (.iaload, 1) := by decide +kernel
theorem dX9_fewest_116 : decode cX9_fewest 116 = .ok (.aload_n 0, 1) := by decide +kernel
theorem dX9_fewest_117 : decode cX9_fewest 117 = .ok (.getfield 7, 3) := by decide +kernel
theorem dX9_fewest_120 : decode cX9_fewest 120 = .ok (.iconst 1, 1) := by decide +kernel
theorem dX9_fewest_121 : decode cX9_fewest 121 = .ok (.iaload, 1) := by decide +kernel
theorem dX9_fewest_122 : decode cX9_fewest 122 = .ok (.invokevirtual 156, 3) := by decide +kernel
theorem dX9_fewest_125 : decode cX9_fewest 125 = .ok (.ireturn, 1) := by decide +kernel
set_option maxRecDepth 20000 in
theorem ggX9_leastOf_X9_fewest : GoodIn wsX9_leastOf wsX9_fewest := goodIn_r _ [8, 3, 9, 2, 1, 10, 11, 12, 7, 13, 14, 15, 16, 17, 18, 19, 20, 21, 22, 23, 24, 25, 26, 27, 28, 29, 30, 31, 32, 33, 34, 35, 36, 37, 38, 39, 40, 41, 42, 43, 44, 45, 46, 47, 48, 49, 50, 51, 52, 53, 54, 55, 56, 57, 58, 59, 60, 61, 62, 63, 64, 65, 66, 67, 68, 69, 70, 71, 72, 73] (by decide +kernel) (by decide +kernel)
set_option maxRecDepth 20000 in
theorem gX9_leastOf_X9_fewest : GoodIn wsX9_leastOf (wsV RX9 160 RX9 yX9_fewest wsX9_fewest) := goodIn_app (goodIn_of _ (by decide +kernel)) ggX9_leastOf_X9_fewest
theorem dX9_leastOf_0 : decode cX9_leastOf 0 = .ok (.aload_n 0, 1) := by decide +kernel
theorem dX9_leastOf_1 : decode cX9_leastOf 1 = .ok (.invokevirtual 160, 3) := by decide +kernel
theorem dX9_leastOf_4 : decode cX9_leastOf 4 = .ok (.istore_n 2, 1) := by decide +kernel
theorem dX9_leastOf_5 : decode cX9_leastOf 5 = .ok (.iload_n 1, 1) := by decide +kernel
theorem dX9_leastOf_6 : decode cX9_leastOf 6 = .ok (.bipush 6, 2) := by decide +kernel
theorem dX9_leastOf_8 : decode cX9_leastOf 8 = .ok (.if_icmp .ne 7, 3) := by decide +kernel
theorem dX9_leastOf_11 : decode cX9_leastOf 11 = .ok (.iload_n 2, 1) := by decide +kernel
theorem dX9_leastOf_12 : decode cX9_leastOf 12 = .ok (.goto 24, 3) := by decide +kernel
theorem dX9_leastOf_15 : decode cX9_leastOf 15 = .ok (.aload_n 0, 1) := by decide +kernel
theorem dX9_leastOf_16 : decode cX9_leastOf 16 = .ok (.getfield 7, 3) := by decide +kernel
theorem dX9_leastOf_19 : decode cX9_leastOf 19 = .ok (.iconst 0, 1) := by decide +kernel
theorem dX9_leastOf_20 : decode cX9_leastOf 20 = .ok (.iaload, 1) := by decide +kernel
theorem dX9_leastOf_21 : decode cX9_leastOf 21 = .ok (.aload_n 0, 1) := by decide +kernel
theorem dX9_leastOf_22 : decode cX9_leastOf 22 = .ok (.getfield 66, 3) := by decide +kernel
theorem dX9_leastOf_25 : decode cX9_leastOf 25 = .ok (.if_icmp .ne 7, 3) := by decide +kernel
theorem dX9_leastOf_28 : decode cX9_leastOf 28 = .ok (.iconst 0, 1) := by decide +kernel
theorem dX9_leastOf_29 : decode cX9_leastOf 29 = .ok (.goto 7, 3) := by decide +kernel
theorem dX9_leastOf_32 : decode cX9_leastOf 32 = .ok (.aload_n 0, 1) := by decide +kernel
theorem dX9_leastOf_33 : decode cX9_leastOf 33 = .ok (.getfield 153, 3) := by decide +kernel
theorem dX9_leastOf_36 : decode cX9_leastOf 36 = .ok (.ireturn, 1) := by decide +kernel
set_option maxRecDepth 20000 in
theorem ggX9_tellRun_X9_layTried : GoodIn wsX9_tellRun wsX9_layTried := goodIn_r _ [7, 8, 9, 10, 6, 11, 1, 12, 13, 14, 15, 16, 17, 18, 19, 2, 39, 40, 41, 42, 43, 44, 45, 46, 47, 48, 49, 50, 51, 52, 53, 54, 55, 56, 57, 58, 59, 60, 61, 62, 63, 64, 65, 66, 67, 68, 69, 70] (by decide +kernel) (by decide +kernel)
set_option maxRecDepth 20000 in
theorem gX9_tellRun_X9_layTried : GoodIn wsX9_tellRun (wsV RX9 163 RX9 yX9_layTried wsX9_layTried) := goodIn_app (goodIn_of _ (by decide +kernel)) ggX9_tellRun_X9_layTried
set_option maxRecDepth 20000 in
theorem ggX9_tellRun_X9_runs : GoodIn wsX9_tellRun wsX9_runs := goodIn_r _ [23, 1, 24, 25, 26, 6, 27, 17, 28, 19, 29, 30, 31, 32, 33, 34, 35, 36, 37, 38, 2, 39, 40, 41, 42, 43, 44, 45, 46, 47, 48, 49, 50, 51, 52, 53, 54, 55, 56, 57, 58, 59, 60, 61, 62, 63, 64, 65, 66, 67, 68, 69, 70] (by decide +kernel) (by decide +kernel)
set_option maxRecDepth 20000 in
theorem gX9_tellRun_X9_runs : GoodIn wsX9_tellRun (wsV RX9 166 RX9 yX9_runs wsX9_runs) := goodIn_app (goodIn_of _ (by decide +kernel)) ggX9_tellRun_X9_runs
theorem dX9_tellRun_0 : decode cX9_tellRun 0 = .ok (.aload_n 0, 1) := by decide +kernel
theorem dX9_tellRun_1 : decode cX9_tellRun 1 = .ok (.invokevirtual 163, 3) := by decide +kernel
theorem dX9_tellRun_4 : decode cX9_tellRun 4 = .ok (.aload_n 0, 1) := by decide +kernel
theorem dX9_tellRun_5 : decode cX9_tellRun 5 = .ok (.invokevirtual 166, 3) := by decide +kernel
theorem dX9_tellRun_8 : decode cX9_tellRun 8 = .ok (.istore_n 2, 1) := by decide +kernel
theorem dX9_tellRun_9 : decode cX9_tellRun 9 = .ok (.iload_n 1, 1) := by decide +kernel
theorem dX9_tellRun_10 : decode cX9_tellRun 10 = .ok (.iconst 3, 1) := by decide +kernel
theorem dX9_tellRun_11 : decode cX9_tellRun 11 = .ok (.if_icmp .ne 14, 3) := by decide +kernel
theorem dX9_tellRun_14 : decode cX9_tellRun 14 = .ok (.aload_n 0, 1) := by decide +kernel
theorem dX9_tellRun_15 : decode cX9_tellRun 15 = .ok (.getfield 7, 3) := by decide +kernel
theorem dX9_tellRun_18 : decode cX9_tellRun 18 = .ok (.sipush 156, 3) := by decide +kernel
theorem dX9_tellRun_21 : decode cX9_tellRun 21 = .ok (.iaload, 1) := by decide +kernel
theorem dX9_tellRun_22 : decode cX9_tellRun 22 = .ok (.goto 16, 3) := by decide +kernel
theorem dX9_tellRun_25 : decode cX9_tellRun 25 = .ok (.iload_n 1, 1) := by decide +kernel
theorem dX9_tellRun_26 : decode cX9_tellRun 26 = .ok (.iconst 4, 1) := by decide +kernel
theorem dX9_tellRun_27 : decode cX9_tellRun 27 = .ok (.if_icmp .ne 7, 3) := by decide +kernel
theorem dX9_tellRun_30 : decode cX9_tellRun 30 = .ok (.iload_n 2, 1) := by decide +kernel
theorem dX9_tellRun_31 : decode cX9_tellRun 31 = .ok (.goto 7, 3) := by decide +kernel
theorem dX9_tellRun_34 : decode cX9_tellRun 34 = .ok (.aload_n 0, 1) := by decide +kernel
theorem dX9_tellRun_35 : decode cX9_tellRun 35 = .ok (.getfield 131, 3) := by decide +kernel
theorem dX9_tellRun_38 : decode cX9_tellRun 38 = .ok (.ireturn, 1) := by decide +kernel
set_option maxRecDepth 20000 in
theorem ggX9_now_X9_tellRun : GoodIn wsX9_now wsX9_tellRun := goodIn_r _ [7, 1, 8, 9, 10, 11, 6, 12, 13, 14, 15, 16, 17, 18, 19, 20, 21, 22, 23, 24, 25, 26, 27, 28, 29, 30, 31, 32, 33, 34, 35, 36, 37, 38, 39, 40, 41, 42, 43, 59, 60, 61, 62, 63, 64, 65, 66, 67, 68, 69, 70, 71, 72, 73, 74, 75, 76, 77, 78, 79, 80, 81, 82, 83, 84, 85, 86, 87, 88, 89, 90] (by decide +kernel) (by decide +kernel)
set_option maxRecDepth 20000 in
theorem gX9_now_X9_tellRun : GoodIn wsX9_now (wsV RX9 169 RX9 yX9_tellRun wsX9_tellRun) := goodIn_app (goodIn_of _ (by decide +kernel)) ggX9_now_X9_tellRun
set_option maxRecDepth 20000 in
theorem ggX9_now_X9_leastOf : GoodIn wsX9_now wsX9_leastOf := goodIn_r _ [47, 1, 41, 48, 49, 50, 51, 6, 52, 53, 17, 18, 19, 20, 21, 22, 23, 24, 8, 54, 55, 56, 57, 58, 34, 35, 36, 13, 14, 15, 16, 29, 30, 31, 32, 33, 37, 38, 39, 40, 42, 43, 59, 60, 61, 62, 63, 64, 65, 66, 67, 68, 69, 70, 71, 72, 73, 74, 75, 76, 77, 78, 79, 80, 81, 82, 83, 84, 85, 86, 87, 88, 89, 90] (by decide +kernel) (by decide +kernel)
set_option maxRecDepth 20000 in
theorem gX9_now_X9_leastOf : GoodIn wsX9_now (wsV RX9 172 RX9 yX9_leastOf wsX9_leastOf) := goodIn_app (goodIn_of _ (by decide +kernel)) ggX9_now_X9_leastOf
theorem dX9_now_0 : decode cX9_now 0 = .ok (.iload_n 1, 1) := by decide +kernel
theorem dX9_now_1 : decode cX9_now 1 = .ok (.tableswitch 75 0 8 #[51, 51, 51, 58, 58, 58, 64, 64, 70], 51) := by decide +kernel
theorem dX9_now_52 : decode cX9_now 52 = .ok (.aload_n 0, 1) := by decide +kernel
theorem dX9_now_53 : decode cX9_now 53 = .ok (.getfield 7, 3) := by decide +kernel
theorem dX9_now_56 : decode cX9_now 56 = .ok (.iload_n 1, 1) := by decide +kernel
theorem dX9_now_57 : decode cX9_now 57 = .ok (.iaload, 1) := by decide +kernel
theorem dX9_now_58 : decode cX9_now 58 = .ok (.ireturn, 1) := by decide +kernel
theorem dX9_now_59 : decode cX9_now 59 = .ok (.aload_n 0, 1) := by decide +kernel
theorem dX9_now_60 : decode cX9_now 60 = .ok (.iload_n 1, 1) := by decide +kernel
theorem dX9_now_61 : decode cX9_now 61 = .ok (.invokevirtual 169, 3) := by decide +kernel
theorem dX9_now_64 : decode cX9_now 64 = .ok (.ireturn, 1) := by decide +kernel
theorem dX9_now_65 : decode cX9_now 65 = .ok (.aload_n 0, 1) := by decide +kernel
theorem dX9_now_66 : decode cX9_now 66 = .ok (.iload_n 1, 1) := by decide +kernel
theorem dX9_now_67 : decode cX9_now 67 = .ok (.invokevirtual 172, 3) := by decide +kernel
theorem dX9_now_70 : decode cX9_now 70 = .ok (.ireturn, 1) := by decide +kernel
theorem dX9_now_71 : decode cX9_now 71 = .ok (.aload_n 0, 1) := by decide +kernel
theorem dX9_now_72 : decode cX9_now 72 = .ok (.getfield 116, 3) := by decide +kernel
theorem dX9_now_75 : decode cX9_now 75 = .ok (.ireturn, 1) := by decide +kernel
theorem dX9_now_76 : decode cX9_now 76 = .ok (.iconst (-1), 1) := by decide +kernel
theorem dX9_now_77 : decode cX9_now 77 = .ok (.ireturn, 1) := by decide +kernel
set_option maxRecDepth 20000 in
theorem ggX9_keepPast_X9_copyRow : GoodIn wsX9_keepPast wsX9_copyRow := goodIn_r _ [7, 2, 8, 9, 10, 11, 12, 13, 14, 15, 16, 17, 18, 19, 20, 21, 22, 23, 24, 25, 26, 27, 28, 29, 30, 31, 32, 33, 34, 35, 36, 37, 38, 39] (by decide +kernel) (by decide +kernel)
set_option maxRecDepth 20000 in
theorem gX9_keepPast_X9_copyRow : GoodIn wsX9_keepPast (wsV RX9 145 RX9 yX9_copyRow wsX9_copyRow) := goodIn_app (goodIn_of _ (by decide +kernel)) ggX9_keepPast_X9_copyRow
theorem dX9_keepPast_0 : decode cX9_keepPast 0 = .ok (.aload_n 0, 1) := by decide +kernel
theorem dX9_keepPast_1 : decode cX9_keepPast 1 = .ok (.getfield 116, 3) := by decide +kernel
theorem dX9_keepPast_4 : decode cX9_keepPast 4 = .ok (.bipush 10, 2) := by decide +kernel
theorem dX9_keepPast_6 : decode cX9_keepPast 6 = .ok (.if_icmp .ne 45, 3) := by decide +kernel
theorem dX9_keepPast_9 : decode cX9_keepPast 9 = .ok (.iconst 0, 1) := by decide +kernel
theorem dX9_keepPast_10 : decode cX9_keepPast 10 = .ok (.istore_n 1, 1) := by decide +kernel
theorem dX9_keepPast_11 : decode cX9_keepPast 11 = .ok (.iload_n 1, 1) := by decide +kernel
theorem dX9_keepPast_12 : decode cX9_keepPast 12 = .ok (.bipush 108, 2) := by decide +kernel
theorem dX9_keepPast_14 : decode cX9_keepPast 14 = .ok (.if_icmp .ge 27, 3) := by decide +kernel
theorem dX9_keepPast_17 : decode cX9_keepPast 17 = .ok (.aload_n 0, 1) := by decide +kernel
theorem dX9_keepPast_18 : decode cX9_keepPast 18 = .ok (.getfield 7, 3) := by decide +kernel
theorem dX9_keepPast_21 : decode cX9_keepPast 21 = .ok (.bipush 12, 2) := by decide +kernel
theorem dX9_keepPast_23 : decode cX9_keepPast 23 = .ok (.iload_n 1, 1) := by decide +kernel
theorem dX9_keepPast_24 : decode cX9_keepPast 24 = .ok (.iadd, 1) := by decide +kernel
theorem dX9_keepPast_25 : decode cX9_keepPast 25 = .ok (.aload_n 0, 1) := by decide +kernel
theorem dX9_keepPast_26 : decode cX9_keepPast 26 = .ok (.getfield 7, 3) := by decide +kernel
theorem dX9_keepPast_29 : decode cX9_keepPast 29 = .ok (.bipush 24, 2) := by decide +kernel
theorem dX9_keepPast_31 : decode cX9_keepPast 31 = .ok (.iload_n 1, 1) := by decide +kernel
theorem dX9_keepPast_32 : decode cX9_keepPast 32 = .ok (.iadd, 1) := by decide +kernel
theorem dX9_keepPast_33 : decode cX9_keepPast 33 = .ok (.iaload, 1) := by decide +kernel
theorem dX9_keepPast_34 : decode cX9_keepPast 34 = .ok (.iastore, 1) := by decide +kernel
theorem dX9_keepPast_35 : decode cX9_keepPast 35 = .ok (.iinc 1 1, 3) := by decide +kernel
theorem dX9_keepPast_38 : decode cX9_keepPast 38 = .ok (.goto (-27), 3) := by decide +kernel
theorem dX9_keepPast_41 : decode cX9_keepPast 41 = .ok (.aload_n 0, 1) := by decide +kernel
theorem dX9_keepPast_42 : decode cX9_keepPast 42 = .ok (.dup, 1) := by decide +kernel
theorem dX9_keepPast_43 : decode cX9_keepPast 43 = .ok (.getfield 116, 3) := by decide +kernel
theorem dX9_keepPast_46 : decode cX9_keepPast 46 = .ok (.iconst 1, 1) := by decide +kernel
theorem dX9_keepPast_47 : decode cX9_keepPast 47 = .ok (.isub, 1) := by decide +kernel
theorem dX9_keepPast_48 : decode cX9_keepPast 48 = .ok (.putfield 116, 3) := by decide +kernel
theorem dX9_keepPast_51 : decode cX9_keepPast 51 = .ok (.aload_n 0, 1) := by decide +kernel
theorem dX9_keepPast_52 : decode cX9_keepPast 52 = .ok (.iconst 0, 1) := by decide +kernel
theorem dX9_keepPast_53 : decode cX9_keepPast 53 = .ok (.bipush 12, 2) := by decide +kernel
theorem dX9_keepPast_55 : decode cX9_keepPast 55 = .ok (.bipush 12, 2) := by decide +kernel
theorem dX9_keepPast_57 : decode cX9_keepPast 57 = .ok (.aload_n 0, 1) := by decide +kernel
theorem dX9_keepPast_58 : decode cX9_keepPast 58 = .ok (.getfield 116, 3) := by decide +kernel
theorem dX9_keepPast_61 : decode cX9_keepPast 61 = .ok (.imul, 1) := by decide +kernel
theorem dX9_keepPast_62 : decode cX9_keepPast 62 = .ok (.iadd, 1) := by decide +kernel
theorem dX9_keepPast_63 : decode cX9_keepPast 63 = .ok (.invokevirtual 145, 3) := by decide +kernel
theorem dX9_keepPast_66 : decode cX9_keepPast 66 = .ok (.aload_n 0, 1) := by decide +kernel
theorem dX9_keepPast_67 : decode cX9_keepPast 67 = .ok (.dup, 1) := by decide +kernel
theorem dX9_keepPast_68 : decode cX9_keepPast 68 = .ok (.getfield 116, 3) := by decide +kernel
theorem dX9_keepPast_71 : decode cX9_keepPast 71 = .ok (.iconst 1, 1) := by decide +kernel
theorem dX9_keepPast_72 : decode cX9_keepPast 72 = .ok (.iadd, 1) := by decide +kernel
theorem dX9_keepPast_73 : decode cX9_keepPast 73 = .ok (.putfield 116, 3) := by decide +kernel
theorem dX9_keepPast_76 : decode cX9_keepPast 76 = .ok (.return_, 1) := by decide +kernel
set_option maxRecDepth 20000 in
theorem ggX9_flips_X9_keepPast : GoodIn wsX9_flips wsX9_keepPast := goodIn_r _ [7, 8, 1, 9, 10, 11, 6, 12, 36, 37, 38, 39, 40, 41, 42, 43, 44, 45, 46, 47, 48, 49, 50, 51, 52, 53, 54, 55, 56, 57, 58, 59, 60, 61, 62, 63, 64, 65, 66, 67] (by decide +kernel) (by decide +kernel)
set_option maxRecDepth 20000 in
theorem gX9_flips_X9_keepPast : GoodIn wsX9_flips (wsV RX9 175 RX9 yX9_keepPast wsX9_keepPast) := goodIn_app (goodIn_of _ (by decide +kernel)) ggX9_flips_X9_keepPast
set_option maxRecDepth 20000 in
theorem ggX9_flips_X9_asItIs : GoodIn wsX9_flips wsX9_asItIs := goodIn_r _ [16, 17, 18, 19, 20, 21, 36, 37, 38, 39, 40, 41, 42, 43, 44, 45, 46, 47, 48, 49, 50, 51, 52, 53, 54, 55, 56, 57, 58, 59, 60, 61, 62, 63, 64, 65, 66, 67] (by decide +kernel) (by decide +kernel)
set_option maxRecDepth 20000 in
theorem gX9_flips_X9_asItIs : GoodIn wsX9_flips (wsV RX9 149 RX9 yX9_asItIs wsX9_asItIs) := goodIn_app (goodIn_of _ (by decide +kernel)) ggX9_flips_X9_asItIs
set_option maxRecDepth 20000 in
theorem ggX9_flips_X9_flip : GoodIn wsX9_flips wsX9_flip := goodIn_r _ [25, 1, 18, 26, 20, 27, 28, 6, 29, 30, 31, 32, 33, 2, 34, 35, 21, 36, 37, 38, 39, 40, 41, 42, 43, 44, 45, 46, 47, 48, 49, 50, 51, 52, 53, 54, 55, 56, 57, 58, 59, 60, 61, 62, 63, 64, 65, 66, 67] (by decide +kernel) (by decide +kernel)
set_option maxRecDepth 20000 in
theorem gX9_flips_X9_flip : GoodIn wsX9_flips (wsV RX9 142 RX9 yX9_flip wsX9_flip) := goodIn_app (goodIn_of _ (by decide +kernel)) ggX9_flips_X9_flip
theorem dX9_flips_0 : decode cX9_flips 0 = .ok (.aload_n 0, 1) := by decide +kernel
theorem dX9_flips_1 : decode cX9_flips 1 = .ok (.getfield 7, 3) := by decide +kernel
theorem dX9_flips_4 : decode cX9_flips 4 = .ok (.iconst 0, 1) := by decide +kernel
theorem dX9_flips_5 : decode cX9_flips 5 = .ok (.iaload, 1) := by decide +kernel
theorem dX9_flips_6 : decode cX9_flips 6 = .ok (.aload_n 0, 1) := by decide +kernel
theorem dX9_flips_7 : decode cX9_flips 7 = .ok (.getfield 66, 3) := by decide +kernel
theorem dX9_flips_10 : decode cX9_flips 10 = .ok (.if_icmp .eq 24, 3) := by decide +kernel
theorem dX9_flips_13 : decode cX9_flips 13 = .ok (.aload_n 0, 1) := by decide +kernel
theorem dX9_flips_14 : decode cX9_flips 14 = .ok (.getfield 7, 3) := by decide +kernel
theorem dX9_flips_17 : decode cX9_flips 17 = .ok (.iconst 1, 1) := by decide +kernel
theorem dX9_flips_18 : decode cX9_flips 18 = .ok (.iaload, 1) := by decide +kernel
theorem dX9_flips_19 : decode cX9_flips 19 = .ok (.ifCond .eq 15, 3) := by decide +kernel
theorem dX9_flips_22 : decode cX9_flips 22 = .ok (.aload_n 0, 1) := by decide +kernel
theorem dX9_flips_23 : decode cX9_flips 23 = .ok (.getfield 7, 3) := by decide +kernel
theorem dX9_flips_26 : decode cX9_flips 26 = .ok (.iconst 2, 1) := by decide +kernel
theorem dX9_flips_27 : decode cX9_flips 27 = .ok (.iaload, 1) := by decide +kernel
theorem dX9_flips_28 : decode cX9_flips 28 = .ok (.sipush 999, 3) := by decide +kernel
theorem dX9_flips_31 : decode cX9_flips 31 = .ok (.if_icmp .ne 6, 3) := by decide +kernel
theorem dX9_flips_34 : decode cX9_flips 34 = .ok (.bipush (-2), 2) := by decide +kernel
theorem dX9_flips_36 : decode cX9_flips 36 = .ok (.ireturn, 1) := by decide +kernel
theorem dX9_flips_37 : decode cX9_flips 37 = .ok (.aload_n 0, 1) := by decide +kernel
theorem dX9_flips_38 : decode cX9_flips 38 = .ok (.invokevirtual 175, 3) := by decide +kernel
theorem dX9_flips_41 : decode cX9_flips 41 = .ok (.aload_n 0, 1) := by decide +kernel
theorem dX9_flips_42 : decode cX9_flips 42 = .ok (.invokevirtual 149, 3) := by decide +kernel
theorem dX9_flips_45 : decode cX9_flips 45 = .ok (.aload_n 0, 1) := by decide +kernel
theorem dX9_flips_46 : decode cX9_flips 46 = .ok (.iconst 0, 1) := by decide +kernel
theorem dX9_flips_47 : decode cX9_flips 47 = .ok (.invokevirtual 142, 3) := by decide +kernel
theorem dX9_flips_50 : decode cX9_flips 50 = .ok (.aload_n 0, 1) := by decide +kernel
theorem dX9_flips_51 : decode cX9_flips 51 = .ok (.getfield 7, 3) := by decide +kernel
theorem dX9_flips_54 : decode cX9_flips 54 = .ok (.iconst 0, 1) := by decide +kernel
theorem dX9_flips_55 : decode cX9_flips 55 = .ok (.iaload, 1) := by decide +kernel
theorem dX9_flips_56 : decode cX9_flips 56 = .ok (.ireturn, 1) := by decide +kernel
set_option maxRecDepth 20000 in
theorem ggX9_pushes_X9_in : GoodIn wsX9_pushes wsX9_in := goodIn_r _ [6] (by decide +kernel) (by decide +kernel)
set_option maxRecDepth 20000 in
theorem gX9_pushes_X9_in : GoodIn wsX9_pushes (va_wsS RX9 69 yX9_in wsX9_in) := goodIn_app (goodIn_of _ (by decide +kernel)) ggX9_pushes_X9_in
set_option maxRecDepth 20000 in
theorem ggX9_pushes_X9_keepPast : GoodIn wsX9_pushes wsX9_keepPast := goodIn_r _ [10, 11, 1, 12, 13, 14, 5, 15, 19, 20, 21, 22, 23, 24, 25, 26, 27, 28, 29, 30, 31, 32, 33, 34, 35, 36, 37, 38, 39, 40, 41, 42, 43, 44, 45, 46, 47, 48, 49, 50] (by decide +kernel) (by decide +kernel)
set_option maxRecDepth 20000 in
theorem gX9_pushes_X9_keepPast : GoodIn wsX9_pushes (wsV RX9 175 RX9 yX9_keepPast wsX9_keepPast) := goodIn_app (goodIn_of _ (by decide +kernel)) ggX9_pushes_X9_keepPast
set_option maxRecDepth 20000 in
theorem ggX9_pushes_X9_bound : GoodIn wsX9_pushes wsX9_bound := goodIn_r _ [18] (by decide +kernel) (by decide +kernel)
set_option maxRecDepth 20000 in
theorem gX9_pushes_X9_bound : GoodIn wsX9_pushes (va_wsS RX9 134 yX9_bound wsX9_bound) := goodIn_app (goodIn_of _ (by decide +kernel)) ggX9_pushes_X9_bound
theorem dX9_pushes_0 : decode cX9_pushes 0 = .ok (.iload_n 1, 1) := by decide +kernel
theorem dX9_pushes_1 : decode cX9_pushes 1 = .ok (.iconst 1, 1) := by decide +kernel
theorem dX9_pushes_2 : decode cX9_pushes 2 = .ok (.bipush 20, 2) := by decide +kernel
theorem dX9_pushes_4 : decode cX9_pushes 4 = .ok (.invokestatic 69, 3) := by decide +kernel
theorem dX9_pushes_7 : decode cX9_pushes 7 = .ok (.ifCond .ne 5, 3) := by decide +kernel
theorem dX9_pushes_10 : decode cX9_pushes 10 = .ok (.iconst (-1), 1) := by decide +kernel
theorem dX9_pushes_11 : decode cX9_pushes 11 = .ok (.ireturn, 1) := by decide +kernel
theorem dX9_pushes_12 : decode cX9_pushes 12 = .ok (.aload_n 0, 1) := by decide +kernel
theorem dX9_pushes_13 : decode cX9_pushes 13 = .ok (.getfield 7, 3) := by decide +kernel
theorem dX9_pushes_16 : decode cX9_pushes 16 = .ok (.iconst 0, 1) := by decide +kernel
theorem dX9_pushes_17 : decode cX9_pushes 17 = .ok (.iaload, 1) := by decide +kernel
theorem dX9_pushes_18 : decode cX9_pushes 18 = .ok (.aload_n 0, 1) := by decide +kernel
theorem dX9_pushes_19 : decode cX9_pushes 19 = .ok (.getfield 66, 3) := by decide +kernel
theorem dX9_pushes_22 : decode cX9_pushes 22 = .ok (.if_icmp .ne 6, 3) := by decide +kernel
theorem dX9_pushes_25 : decode cX9_pushes 25 = .ok (.bipush (-2), 2) := by decide +kernel
theorem dX9_pushes_27 : decode cX9_pushes 27 = .ok (.ireturn, 1) := by decide +kernel
theorem dX9_pushes_28 : decode cX9_pushes 28 = .ok (.aload_n 0, 1) := by decide +kernel
theorem dX9_pushes_29 : decode cX9_pushes 29 = .ok (.invokevirtual 175, 3) := by decide +kernel
theorem dX9_pushes_32 : decode cX9_pushes 32 = .ok (.aload_n 0, 1) := by decide +kernel
theorem dX9_pushes_33 : decode cX9_pushes 33 = .ok (.getfield 7, 3) := by decide +kernel
theorem dX9_pushes_36 : decode cX9_pushes 36 = .ok (.iconst 1, 1) := by decide +kernel
theorem dX9_pushes_37 : decode cX9_pushes 37 = .ok (.aload_n 0, 1) := by decide +kernel
theorem dX9_pushes_38 : decode cX9_pushes 38 = .ok (.getfield 7, 3) := by decide +kernel
theorem dX9_pushes_41 : decode cX9_pushes 41 = .ok (.iconst 1, 1) := by decide +kernel
theorem dX9_pushes_42 : decode cX9_pushes 42 = .ok (.iaload, 1) := by decide +kernel
theorem dX9_pushes_43 : decode cX9_pushes 43 = .ok (.iload_n 1, 1) := by decide +kernel
theorem dX9_pushes_44 : decode cX9_pushes 44 = .ok (.iadd, 1) := by decide +kernel
theorem dX9_pushes_45 : decode cX9_pushes 45 = .ok (.invokestatic 134, 3) := by decide +kernel
theorem dX9_pushes_48 : decode cX9_pushes 48 = .ok (.iastore, 1) := by decide +kernel
theorem dX9_pushes_49 : decode cX9_pushes 49 = .ok (.aload_n 0, 1) := by decide +kernel
theorem dX9_pushes_50 : decode cX9_pushes 50 = .ok (.getfield 7, 3) := by decide +kernel
theorem dX9_pushes_53 : decode cX9_pushes 53 = .ok (.iconst 1, 1) := by decide +kernel
theorem dX9_pushes_54 : decode cX9_pushes 54 = .ok (.iaload, 1) := by decide +kernel
theorem dX9_pushes_55 : decode cX9_pushes 55 = .ok (.ireturn, 1) := by decide +kernel
set_option maxRecDepth 20000 in
theorem ggX9_lifts_X9_isStep : GoodIn wsX9_lifts wsX9_isStep := goodIn_r _ [6, 7, 8, 9, 5, 10, 20, 21, 22, 23, 24, 25, 26, 27, 28, 29, 30, 31, 32, 33, 34, 35, 36, 37, 38, 39, 40, 41, 42, 43, 44, 45, 46, 47, 48, 49, 50, 51] (by decide +kernel) (by decide +kernel)
set_option maxRecDepth 20000 in
theorem gX9_lifts_X9_isStep : GoodIn wsX9_lifts (wsV RX9 122 RX9 yX9_isStep wsX9_isStep) := goodIn_app (goodIn_of _ (by decide +kernel)) ggX9_lifts_X9_isStep
set_option maxRecDepth 20000 in
theorem ggX9_lifts_X9_keepPast : GoodIn wsX9_lifts wsX9_keepPast := goodIn_r _ [14, 15, 1, 16, 17, 18, 5, 19, 20, 21, 22, 23, 24, 25, 26, 27, 28, 29, 30, 31, 32, 33, 34, 35, 36, 37, 38, 39, 40, 41, 42, 43, 44, 45, 46, 47, 48, 49, 50, 51] (by decide +kernel) (by decide +kernel)
set_option maxRecDepth 20000 in
theorem gX9_lifts_X9_keepPast : GoodIn wsX9_lifts (wsV RX9 175 RX9 yX9_keepPast wsX9_keepPast) := goodIn_app (goodIn_of _ (by decide +kernel)) ggX9_lifts_X9_keepPast
theorem dX9_lifts_0 : decode cX9_lifts 0 = .ok (.aload_n 0, 1) := by decide +kernel
theorem dX9_lifts_1 : decode cX9_lifts 1 = .ok (.iload_n 1, 1) := by decide +kernel
theorem dX9_lifts_2 : decode cX9_lifts 2 = .ok (.invokevirtual 122, 3) := by decide +kernel
theorem dX9_lifts_5 : decode cX9_lifts 5 = .ok (.ifCond .ne 5, 3) := by decide +kernel
theorem dX9_lifts_8 : decode cX9_lifts 8 = .ok (.iconst (-1), 1) := by decide +kernel
theorem dX9_lifts_9 : decode cX9_lifts 9 = .ok (.ireturn, 1) := by decide +kernel
theorem dX9_lifts_10 : decode cX9_lifts 10 = .ok (.aload_n 0, 1) := by decide +kernel
theorem dX9_lifts_11 : decode cX9_lifts 11 = .ok (.getfield 7, 3) := by decide +kernel
theorem dX9_lifts_14 : decode cX9_lifts 14 = .ok (.iconst 0, 1) := by decide +kernel
theorem dX9_lifts_15 : decode cX9_lifts 15 = .ok (.iaload, 1) := by decide +kernel
theorem dX9_lifts_16 : decode cX9_lifts 16 = .ok (.istore_n 2, 1) := by decide +kernel
theorem dX9_lifts_17 : decode cX9_lifts 17 = .ok (.iload_n 2, 1) := by decide +kernel
theorem dX9_lifts_18 : decode cX9_lifts 18 = .ok (.iload_n 1, 1) := by decide +kernel
theorem dX9_lifts_19 : decode cX9_lifts 19 = .ok (.if_icmp .ne 6, 3) := by decide +kernel
theorem dX9_lifts_22 : decode cX9_lifts 22 = .ok (.bipush (-2), 2) := by decide +kernel
theorem dX9_lifts_24 : decode cX9_lifts 24 = .ok (.ireturn, 1) := by decide +kernel
theorem dX9_lifts_25 : decode cX9_lifts 25 = .ok (.aload_n 0, 1) := by decide +kernel
theorem dX9_lifts_26 : decode cX9_lifts 26 = .ok (.invokevirtual 175, 3) := by decide +kernel
theorem dX9_lifts_29 : decode cX9_lifts 29 = .ok (.aload_n 0, 1) := by decide +kernel
theorem dX9_lifts_30 : decode cX9_lifts 30 = .ok (.getfield 7, 3) := by decide +kernel
theorem dX9_lifts_33 : decode cX9_lifts 33 = .ok (.iconst 0, 1) := by decide +kernel
theorem dX9_lifts_34 : decode cX9_lifts 34 = .ok (.iload_n 1, 1) := by decide +kernel
theorem dX9_lifts_35 : decode cX9_lifts 35 = .ok (.iastore, 1) := by decide +kernel
theorem dX9_lifts_36 : decode cX9_lifts 36 = .ok (.aload_n 0, 1) := by decide +kernel
theorem dX9_lifts_37 : decode cX9_lifts 37 = .ok (.getfield 7, 3) := by decide +kernel
theorem dX9_lifts_40 : decode cX9_lifts 40 = .ok (.iconst 1, 1) := by decide +kernel
theorem dX9_lifts_41 : decode cX9_lifts 41 = .ok (.iconst 0, 1) := by decide +kernel
theorem dX9_lifts_42 : decode cX9_lifts 42 = .ok (.iastore, 1) := by decide +kernel
theorem dX9_lifts_43 : decode cX9_lifts 43 = .ok (.iload_n 2, 1) := by decide +kernel
theorem dX9_lifts_44 : decode cX9_lifts 44 = .ok (.ireturn, 1) := by decide +kernel
set_option maxRecDepth 20000 in
theorem ggX9_lays_X9_isStep : GoodIn wsX9_lays wsX9_isStep := goodIn_r _ [6, 7, 8, 9, 5, 10, 20, 21, 22, 23, 24, 25, 26, 27, 28, 29, 30, 31, 32, 33, 34, 35, 36, 37, 38, 39, 40, 41, 42, 43, 44, 45, 46, 47, 48, 49, 50, 51] (by decide +kernel) (by decide +kernel)
set_option maxRecDepth 20000 in
theorem gX9_lays_X9_isStep : GoodIn wsX9_lays (wsV RX9 122 RX9 yX9_isStep wsX9_isStep) := goodIn_app (goodIn_of _ (by decide +kernel)) ggX9_lays_X9_isStep
set_option maxRecDepth 20000 in
theorem ggX9_lays_X9_in : GoodIn wsX9_lays wsX9_in := goodIn_r _ [10] (by decide +kernel) (by decide +kernel)
set_option maxRecDepth 20000 in
theorem gX9_lays_X9_in : GoodIn wsX9_lays (va_wsS RX9 69 yX9_in wsX9_in) := goodIn_app (goodIn_of _ (by decide +kernel)) ggX9_lays_X9_in
set_option maxRecDepth 20000 in
theorem ggX9_lays_X9_keepPast : GoodIn wsX9_lays wsX9_keepPast := goodIn_r _ [14, 15, 1, 16, 17, 18, 5, 19, 20, 21, 22, 23, 24, 25, 26, 27, 28, 29, 30, 31, 32, 33, 34, 35, 36, 37, 38, 39, 40, 41, 42, 43, 44, 45, 46, 47, 48, 49, 50, 51] (by decide +kernel) (by decide +kernel)
set_option maxRecDepth 20000 in
theorem gX9_lays_X9_keepPast : GoodIn wsX9_lays (wsV RX9 175 RX9 yX9_keepPast wsX9_keepPast) := goodIn_app (goodIn_of _ (by decide +kernel)) ggX9_lays_X9_keepPast
theorem dX9_lays_0 : decode cX9_lays 0 = .ok (.aload_n 0, 1) := by decide +kernel
theorem dX9_lays_1 : decode cX9_lays 1 = .ok (.iload_n 1, 1) := by decide +kernel
theorem dX9_lays_2 : decode cX9_lays 2 = .ok (.invokevirtual 122, 3) := by decide +kernel
theorem dX9_lays_5 : decode cX9_lays 5 = .ok (.ifCond .eq 12, 3) := by decide +kernel
theorem dX9_lays_8 : decode cX9_lays 8 = .ok (.iload_n 2, 1) := by decide +kernel
theorem dX9_lays_9 : decode cX9_lays 9 = .ok (.iconst 0, 1) := by decide +kernel
theorem dX9_lays_10 : decode cX9_lays 10 = .ok (.iconst 5, 1) := by decide +kernel
theorem dX9_lays_11 : decode cX9_lays 11 = .ok (.invokestatic 69, 3) := by decide +kernel
theorem dX9_lays_14 : decode cX9_lays 14 = .ok (.ifCond .ne 5, 3) := by decide +kernel
theorem dX9_lays_17 : decode cX9_lays 17 = .ok (.iconst (-1), 1) := by decide +kernel
theorem dX9_lays_18 : decode cX9_lays 18 = .ok (.ireturn, 1) := by decide +kernel
theorem dX9_lays_19 : decode cX9_lays 19 = .ok (.aload_n 0, 1) := by decide +kernel
theorem dX9_lays_20 : decode cX9_lays 20 = .ok (.getfield 7, 3) := by decide +kernel
theorem dX9_lays_23 : decode cX9_lays 23 = .ok (.iconst 3, 1) := by decide +kernel
theorem dX9_lays_24 : decode cX9_lays 24 = .ok (.iload_n 1, 1) := by decide +kernel
theorem dX9_lays_25 : decode cX9_lays 25 = .ok (.iadd, 1) := by decide +kernel
theorem dX9_lays_26 : decode cX9_lays 26 = .ok (.iaload, 1) := by decide +kernel
theorem dX9_lays_27 : decode cX9_lays 27 = .ok (.istore_n 3, 1) := by decide +kernel
theorem dX9_lays_28 : decode cX9_lays 28 = .ok (.iload_n 3, 1) := by decide +kernel
theorem dX9_lays_29 : decode cX9_lays 29 = .ok (.iload_n 2, 1) := by decide +kernel
theorem dX9_lays_30 : decode cX9_lays 30 = .ok (.if_icmp .ne 6, 3) := by decide +kernel
theorem dX9_lays_33 : decode cX9_lays 33 = .ok (.bipush (-2), 2) := by decide +kernel
theorem dX9_lays_35 : decode cX9_lays 35 = .ok (.ireturn, 1) := by decide +kernel
theorem dX9_lays_36 : decode cX9_lays 36 = .ok (.aload_n 0, 1) := by decide +kernel
theorem dX9_lays_37 : decode cX9_lays 37 = .ok (.invokevirtual 175, 3) := by decide +kernel
theorem dX9_lays_40 : decode cX9_lays 40 = .ok (.aload_n 0, 1) := by decide +kernel
theorem dX9_lays_41 : decode cX9_lays 41 = .ok (.getfield 7, 3) := by decide +kernel
theorem dX9_lays_44 : decode cX9_lays 44 = .ok (.iconst 3, 1) := by decide +kernel
theorem dX9_lays_45 : decode cX9_lays 45 = .ok (.iload_n 1, 1) := by decide +kernel
theorem dX9_lays_46 : decode cX9_lays 46 = .ok (.iadd, 1) := by decide +kernel
theorem dX9_lays_47 : decode cX9_lays 47 = .ok (.iload_n 2, 1) := by decide +kernel
theorem dX9_lays_48 : decode cX9_lays 48 = .ok (.iastore, 1) := by decide +kernel
theorem dX9_lays_49 : decode cX9_lays 49 = .ok (.iload_n 3, 1) := by decide +kernel
theorem dX9_lays_50 : decode cX9_lays 50 = .ok (.ireturn, 1) := by decide +kernel
set_option maxRecDepth 20000 in
theorem ggX9_undo_X9_copyRow : GoodIn wsX9_undo wsX9_copyRow := goodIn_r _ [6, 7, 8, 9, 10, 11, 12, 13, 14, 15, 16, 17, 18, 19, 20, 21, 22, 23, 24, 25, 26, 27, 28, 29, 30, 31, 32, 33, 34, 35, 36, 37, 38, 39] (by decide +kernel) (by decide +kernel)
set_option maxRecDepth 20000 in
theorem gX9_undo_X9_copyRow : GoodIn wsX9_undo (wsV RX9 145 RX9 yX9_copyRow wsX9_copyRow) := goodIn_app (goodIn_of _ (by decide +kernel)) ggX9_undo_X9_copyRow
theorem dX9_undo_0 : decode cX9_undo 0 = .ok (.aload_n 0, 1) := by decide +kernel
theorem dX9_undo_1 : decode cX9_undo 1 = .ok (.getfield 116, 3) := by decide +kernel
theorem dX9_undo_4 : decode cX9_undo 4 = .ok (.ifCond .ne 6, 3) := by decide +kernel
theorem dX9_undo_7 : decode cX9_undo 7 = .ok (.bipush (-2), 2) := by decide +kernel
theorem dX9_undo_9 : decode cX9_undo 9 = .ok (.ireturn, 1) := by decide +kernel
theorem dX9_undo_10 : decode cX9_undo 10 = .ok (.aload_n 0, 1) := by decide +kernel
theorem dX9_undo_11 : decode cX9_undo 11 = .ok (.dup, 1) := by decide +kernel
theorem dX9_undo_12 : decode cX9_undo 12 = .ok (.getfield 116, 3) := by decide +kernel
theorem dX9_undo_15 : decode cX9_undo 15 = .ok (.iconst 1, 1) := by decide +kernel
theorem dX9_undo_16 : decode cX9_undo 16 = .ok (.isub, 1) := by decide +kernel
theorem dX9_undo_17 : decode cX9_undo 17 = .ok (.putfield 116, 3) := by decide +kernel
theorem dX9_undo_20 : decode cX9_undo 20 = .ok (.aload_n 0, 1) := by decide +kernel
theorem dX9_undo_21 : decode cX9_undo 21 = .ok (.bipush 12, 2) := by decide +kernel
theorem dX9_undo_23 : decode cX9_undo 23 = .ok (.bipush 12, 2) := by decide +kernel
theorem dX9_undo_25 : decode cX9_undo 25 = .ok (.aload_n 0, 1) := by decide +kernel
theorem dX9_undo_26 : decode cX9_undo 26 = .ok (.getfield 116, 3) := by decide +kernel
theorem dX9_undo_29 : decode cX9_undo 29 = .ok (.imul, 1) := by decide +kernel
theorem dX9_undo_30 : decode cX9_undo 30 = .ok (.iadd, 1) := by decide +kernel
theorem dX9_undo_31 : decode cX9_undo 31 = .ok (.iconst 0, 1) := by decide +kernel
theorem dX9_undo_32 : decode cX9_undo 32 = .ok (.invokevirtual 145, 3) := by decide +kernel
theorem dX9_undo_35 : decode cX9_undo 35 = .ok (.aload_n 0, 1) := by decide +kernel
theorem dX9_undo_36 : decode cX9_undo 36 = .ok (.getfield 116, 3) := by decide +kernel
theorem dX9_undo_39 : decode cX9_undo 39 = .ok (.ireturn, 1) := by decide +kernel
set_option maxRecDepth 20000 in
theorem ggX9_push_X9_in : GoodIn wsX9_push wsX9_in := goodIn_r _ [6] (by decide +kernel) (by decide +kernel)
set_option maxRecDepth 20000 in
theorem gX9_push_X9_in : GoodIn wsX9_push (va_wsS RX9 69 yX9_in wsX9_in) := goodIn_app (goodIn_of _ (by decide +kernel)) ggX9_push_X9_in
set_option maxRecDepth 20000 in
theorem ggX9_push_X9_layTried : GoodIn wsX9_push wsX9_layTried := goodIn_r _ [10, 11, 12, 13, 5, 14, 2, 15, 16, 17, 18, 19, 20, 21, 22, 23, 42, 43, 44, 45, 46, 47, 48, 49, 50, 51, 52, 53, 54, 55, 56, 57, 58, 59, 60, 61, 62, 63, 64, 65, 66, 67, 68, 69, 70, 71, 72, 73] (by decide +kernel) (by decide +kernel)
set_option maxRecDepth 20000 in
theorem gX9_push_X9_layTried : GoodIn wsX9_push (wsV RX9 163 RX9 yX9_layTried wsX9_layTried) := goodIn_app (goodIn_of _ (by decide +kernel)) ggX9_push_X9_layTried
set_option maxRecDepth 20000 in
theorem ggX9_push_X9_bound : GoodIn wsX9_push wsX9_bound := goodIn_r _ [26] (by decide +kernel) (by decide +kernel)
set_option maxRecDepth 20000 in
theorem gX9_push_X9_bound : GoodIn wsX9_push (va_wsS RX9 134 yX9_bound wsX9_bound) := goodIn_app (goodIn_of _ (by decide +kernel)) ggX9_push_X9_bound
set_option maxRecDepth 20000 in
theorem ggX9_push_X9_runs : GoodIn wsX9_push wsX9_runs := goodIn_r _ [30, 2, 31, 32, 33, 5, 34, 20, 35, 22, 24, 25, 26, 36, 37, 38, 39, 1, 40, 41, 23, 42, 43, 44, 45, 46, 47, 48, 49, 50, 51, 52, 53, 54, 55, 56, 57, 58, 59, 60, 61, 62, 63, 64, 65, 66, 67, 68, 69, 70, 71, 72, 73] (by decide +kernel) (by decide +kernel)
set_option maxRecDepth 20000 in
theorem gX9_push_X9_runs : GoodIn wsX9_push (wsV RX9 166 RX9 yX9_runs wsX9_runs) := goodIn_app (goodIn_of _ (by decide +kernel)) ggX9_push_X9_runs
theorem dX9_push_0 : decode cX9_push 0 = .ok (.iload_n 1, 1) := by decide +kernel
theorem dX9_push_1 : decode cX9_push 1 = .ok (.iconst 0, 1) := by decide +kernel
theorem dX9_push_2 : decode cX9_push 2 = .ok (.aload_n 0, 1) := by decide +kernel
theorem dX9_push_3 : decode cX9_push 3 = .ok (.getfield 66, 3) := by decide +kernel
theorem dX9_push_6 : decode cX9_push 6 = .ok (.invokestatic 69, 3) := by decide +kernel
theorem dX9_push_9 : decode cX9_push 9 = .ok (.ifCond .ne 5, 3) := by decide +kernel
theorem dX9_push_12 : decode cX9_push 12 = .ok (.iconst (-1), 1) := by decide +kernel
theorem dX9_push_13 : decode cX9_push 13 = .ok (.ireturn, 1) := by decide +kernel
theorem dX9_push_14 : decode cX9_push 14 = .ok (.iconst 0, 1) := by decide +kernel
theorem dX9_push_15 : decode cX9_push 15 = .ok (.istore_n 2, 1) := by decide +kernel
theorem dX9_push_16 : decode cX9_push 16 = .ok (.iload_n 2, 1) := by decide +kernel
theorem dX9_push_17 : decode cX9_push 17 = .ok (.bipush 61, 2) := by decide +kernel
theorem dX9_push_19 : decode cX9_push 19 = .ok (.if_icmp .ge 68, 3) := by decide +kernel
theorem dX9_push_22 : decode cX9_push 22 = .ok (.aload_n 0, 1) := by decide +kernel
theorem dX9_push_23 : decode cX9_push 23 = .ok (.invokevirtual 163, 3) := by decide +kernel
theorem dX9_push_26 : decode cX9_push 26 = .ok (.aload_n 0, 1) := by decide +kernel
theorem dX9_push_27 : decode cX9_push 27 = .ok (.getfield 7, 3) := by decide +kernel
theorem dX9_push_30 : decode cX9_push 30 = .ok (.sipush 157, 3) := by decide +kernel
theorem dX9_push_33 : decode cX9_push 33 = .ok (.aload_n 0, 1) := by decide +kernel
theorem dX9_push_34 : decode cX9_push 34 = .ok (.getfield 7, 3) := by decide +kernel
theorem dX9_push_37 : decode cX9_push 37 = .ok (.iconst 0, 1) := by decide +kernel
theorem dX9_push_38 : decode cX9_push 38 = .ok (.iaload, 1) := by decide +kernel
theorem dX9_push_39 : decode cX9_push 39 = .ok (.aload_n 0, 1) := by decide +kernel
theorem dX9_push_40 : decode cX9_push 40 = .ok (.getfield 66, 3) := by decide +kernel
theorem dX9_push_43 : decode cX9_push 43 = .ok (.if_icmp .ne 7, 3) := by decide +kernel
theorem dX9_push_46 : decode cX9_push 46 = .ok (.iconst 0, 1) := by decide +kernel
theorem dX9_push_47 : decode cX9_push 47 = .ok (.goto 14, 3) := by decide +kernel
theorem dX9_push_50 : decode cX9_push 50 = .ok (.aload_n 0, 1) := by decide +kernel
theorem dX9_push_51 : decode cX9_push 51 = .ok (.getfield 7, 3) := by decide +kernel
theorem dX9_push_54 : decode cX9_push 54 = .ok (.iconst 1, 1) := by decide +kernel
theorem dX9_push_55 : decode cX9_push 55 = .ok (.iaload, 1) := by decide +kernel
theorem dX9_push_56 : decode cX9_push 56 = .ok (.iload_n 2, 1) := by decide +kernel
theorem dX9_push_57 : decode cX9_push 57 = .ok (.iadd, 1) := by decide +kernel
theorem dX9_push_58 : decode cX9_push 58 = .ok (.invokestatic 134, 3) := by decide +kernel
theorem dX9_push_61 : decode cX9_push 61 = .ok (.iastore, 1) := by decide +kernel
theorem dX9_push_62 : decode cX9_push 62 = .ok (.aload_n 0, 1) := by decide +kernel
theorem dX9_push_63 : decode cX9_push 63 = .ok (.invokevirtual 166, 3) := by decide +kernel
theorem dX9_push_66 : decode cX9_push 66 = .ok (.pop, 1) := by decide +kernel
theorem dX9_push_67 : decode cX9_push 67 = .ok (.aload_n 0, 1) := by decide +kernel
theorem dX9_push_68 : decode cX9_push 68 = .ok (.getfield 7, 3) := by decide +kernel
theorem dX9_push_71 : decode cX9_push 71 = .ok (.sipush 156, 3) := by decide +kernel
theorem dX9_push_74 : decode cX9_push 74 = .ok (.iaload, 1) := by decide +kernel
theorem dX9_push_75 : decode cX9_push 75 = .ok (.iload_n 1, 1) := by decide +kernel
theorem dX9_push_76 : decode cX9_push 76 = .ok (.if_icmp .ne 5, 3) := by decide +kernel
theorem dX9_push_79 : decode cX9_push 79 = .ok (.iload_n 2, 1) := by decide +kernel
theorem dX9_push_80 : decode cX9_push 80 = .ok (.ireturn, 1) := by decide +kernel
theorem dX9_push_81 : decode cX9_push 81 = .ok (.iinc 2 1, 3) := by decide +kernel
theorem dX9_push_84 : decode cX9_push 84 = .ok (.goto (-68), 3) := by decide +kernel
theorem dX9_push_87 : decode cX9_push 87 = .ok (.bipush (-9), 2) := by decide +kernel
theorem dX9_push_89 : decode cX9_push 89 = .ok (.ireturn, 1) := by decide +kernel
set_option maxRecDepth 20000 in
theorem ggX9_mat_X9_in : GoodIn wsX9_mat wsX9_in := goodIn_r _ [6] (by decide +kernel) (by decide +kernel)
set_option maxRecDepth 20000 in
theorem gX9_mat_X9_in : GoodIn wsX9_mat (va_wsS RX9 69 yX9_in wsX9_in) := goodIn_app (goodIn_of _ (by decide +kernel)) ggX9_mat_X9_in
set_option maxRecDepth 20000 in
theorem ggX9_mat_X9_layTried : GoodIn wsX9_mat wsX9_layTried := goodIn_r _ [10, 11, 12, 13, 5, 14, 2, 15, 16, 17, 18, 19, 20, 21, 22, 23, 42, 43, 44, 45, 46, 47, 48, 49, 50, 51, 52, 53, 54, 55, 56, 57, 58, 59, 60, 61, 62, 63, 64, 65, 66, 67, 68, 69, 70, 71, 72, 73] (by decide +kernel) (by decide +kernel)
set_option maxRecDepth 20000 in
theorem gX9_mat_X9_layTried : GoodIn wsX9_mat (wsV RX9 163 RX9 yX9_layTried wsX9_layTried) := goodIn_app (goodIn_of _ (by decide +kernel)) ggX9_mat_X9_layTried
set_option maxRecDepth 20000 in
theorem ggX9_mat_X9_runs : GoodIn wsX9_mat wsX9_runs := goodIn_r _ [27, 2, 28, 29, 30, 5, 31, 20, 32, 22, 33, 34, 35, 36, 37, 38, 39, 1, 40, 41, 23, 42, 43, 44, 45, 46, 47, 48, 49, 50, 51, 52, 53, 54, 55, 56, 57, 58, 59, 60, 61, 62, 63, 64, 65, 66, 67, 68, 69, 70, 71, 72, 73] (by decide +kernel) (by decide +kernel)
set_option maxRecDepth 20000 in
theorem gX9_mat_X9_runs : GoodIn wsX9_mat (wsV RX9 166 RX9 yX9_runs wsX9_runs) := goodIn_app (goodIn_of _ (by decide +kernel)) ggX9_mat_X9_runs
theorem dX9_mat_0 : decode cX9_mat 0 = .ok (.iload_n 1, 1) := by decide +kernel
theorem dX9_mat_1 : decode cX9_mat 1 = .ok (.iconst 0, 1) := by decide +kernel
theorem dX9_mat_2 : decode cX9_mat 2 = .ok (.aload_n 0, 1) := by decide +kernel
theorem dX9_mat_3 : decode cX9_mat 3 = .ok (.getfield 66, 3) := by decide +kernel
theorem dX9_mat_6 : decode cX9_mat 6 = .ok (.invokestatic 69, 3) := by decide +kernel
theorem dX9_mat_9 : decode cX9_mat 9 = .ok (.ifCond .eq 12, 3) := by decide +kernel
theorem dX9_mat_12 : decode cX9_mat 12 = .ok (.iload_n 2, 1) := by decide +kernel
theorem dX9_mat_13 : decode cX9_mat 13 = .ok (.iconst 0, 1) := by decide +kernel
theorem dX9_mat_14 : decode cX9_mat 14 = .ok (.iconst 5, 1) := by decide +kernel
theorem dX9_mat_15 : decode cX9_mat 15 = .ok (.invokestatic 69, 3) := by decide +kernel
theorem dX9_mat_18 : decode cX9_mat 18 = .ok (.ifCond .ne 5, 3) := by decide +kernel
theorem dX9_mat_21 : decode cX9_mat 21 = .ok (.iconst (-1), 1) := by decide +kernel
theorem dX9_mat_22 : decode cX9_mat 22 = .ok (.ireturn, 1) := by decide +kernel
theorem dX9_mat_23 : decode cX9_mat 23 = .ok (.iconst 0, 1) := by decide +kernel
theorem dX9_mat_24 : decode cX9_mat 24 = .ok (.istore_n 3, 1) := by decide +kernel
theorem dX9_mat_25 : decode cX9_mat 25 = .ok (.iload_n 3, 1) := by decide +kernel
theorem dX9_mat_26 : decode cX9_mat 26 = .ok (.aload_n 0, 1) := by decide +kernel
theorem dX9_mat_27 : decode cX9_mat 27 = .ok (.getfield 66, 3) := by decide +kernel
theorem dX9_mat_30 : decode cX9_mat 30 = .ok (.if_icmp .ge 43, 3) := by decide +kernel
theorem dX9_mat_33 : decode cX9_mat 33 = .ok (.aload_n 0, 1) := by decide +kernel
theorem dX9_mat_34 : decode cX9_mat 34 = .ok (.invokevirtual 163, 3) := by decide +kernel
theorem dX9_mat_37 : decode cX9_mat 37 = .ok (.aload_n 0, 1) := by decide +kernel
theorem dX9_mat_38 : decode cX9_mat 38 = .ok (.getfield 7, 3) := by decide +kernel
theorem dX9_mat_41 : decode cX9_mat 41 = .ok (.sipush 159, 3) := by decide +kernel
theorem dX9_mat_44 : decode cX9_mat 44 = .ok (.iload_n 3, 1) := by decide +kernel
theorem dX9_mat_45 : decode cX9_mat 45 = .ok (.iadd, 1) := by decide +kernel
theorem dX9_mat_46 : decode cX9_mat 46 = .ok (.iload_n 2, 1) := by decide +kernel
theorem dX9_mat_47 : decode cX9_mat 47 = .ok (.iastore, 1) := by decide +kernel
theorem dX9_mat_48 : decode cX9_mat 48 = .ok (.aload_n 0, 1) := by decide +kernel
theorem dX9_mat_49 : decode cX9_mat 49 = .ok (.invokevirtual 166, 3) := by decide +kernel
theorem dX9_mat_52 : decode cX9_mat 52 = .ok (.pop, 1) := by decide +kernel
theorem dX9_mat_53 : decode cX9_mat 53 = .ok (.aload_n 0, 1) := by decide +kernel
theorem dX9_mat_54 : decode cX9_mat 54 = .ok (.getfield 7, 3) := by decide +kernel
theorem dX9_mat_57 : decode cX9_mat 57 = .ok (.sipush 156, 3) := by decide +kernel
theorem dX9_mat_60 : decode cX9_mat 60 = .ok (.iaload, 1) := by decide +kernel
theorem dX9_mat_61 : decode cX9_mat 61 = .ok (.iload_n 1, 1) := by decide +kernel
theorem dX9_mat_62 : decode cX9_mat 62 = .ok (.if_icmp .ne 5, 3) := by decide +kernel
theorem dX9_mat_65 : decode cX9_mat 65 = .ok (.iload_n 3, 1) := by decide +kernel
theorem dX9_mat_66 : decode cX9_mat 66 = .ok (.ireturn, 1) := by decide +kernel
theorem dX9_mat_67 : decode cX9_mat 67 = .ok (.iinc 3 1, 3) := by decide +kernel
theorem dX9_mat_70 : decode cX9_mat 70 = .ok (.goto (-45), 3) := by decide +kernel
theorem dX9_mat_73 : decode cX9_mat 73 = .ok (.bipush (-9), 2) := by decide +kernel
theorem dX9_mat_75 : decode cX9_mat 75 = .ok (.ireturn, 1) := by decide +kernel
set_option maxRecDepth 20000 in
theorem ggX9_odds_X9_in : GoodIn wsX9_odds wsX9_in := goodIn_r _ [6] (by decide +kernel) (by decide +kernel)
set_option maxRecDepth 20000 in
theorem gX9_odds_X9_in : GoodIn wsX9_odds (va_wsS RX9 69 yX9_in wsX9_in) := goodIn_app (goodIn_of _ (by decide +kernel)) ggX9_odds_X9_in
set_option maxRecDepth 20000 in
theorem ggX9_odds_X9_layTried : GoodIn wsX9_odds wsX9_layTried := goodIn_r _ [10, 11, 12, 13, 5, 14, 2, 15, 16, 17, 18, 19, 20, 21, 22, 23, 42, 43, 44, 45, 46, 47, 48, 49, 50, 51, 52, 53, 54, 55, 56, 57, 58, 59, 60, 61, 62, 63, 64, 65, 66, 67, 68, 69, 70, 71, 72, 73] (by decide +kernel) (by decide +kernel)
set_option maxRecDepth 20000 in
theorem gX9_odds_X9_layTried : GoodIn wsX9_odds (wsV RX9 163 RX9 yX9_layTried wsX9_layTried) := goodIn_app (goodIn_of _ (by decide +kernel)) ggX9_odds_X9_layTried
set_option maxRecDepth 20000 in
theorem ggX9_odds_X9_runs : GoodIn wsX9_odds wsX9_runs := goodIn_r _ [27, 2, 28, 29, 30, 5, 31, 20, 32, 22, 33, 34, 35, 36, 37, 38, 39, 1, 40, 41, 23, 42, 43, 44, 45, 46, 47, 48, 49, 50, 51, 52, 53, 54, 55, 56, 57, 58, 59, 60, 61, 62, 63, 64, 65, 66, 67, 68, 69, 70, 71, 72, 73] (by decide +kernel) (by decide +kernel)
set_option maxRecDepth 20000 in
theorem gX9_odds_X9_runs : GoodIn wsX9_odds (wsV RX9 166 RX9 yX9_runs wsX9_runs) := goodIn_app (goodIn_of _ (by decide +kernel)) ggX9_odds_X9_runs
theorem dX9_odds_0 : decode cX9_odds 0 = .ok (.iload_n 1, 1) := by decide +kernel
theorem dX9_odds_1 : decode cX9_odds 1 = .ok (.iconst 0, 1) := by decide +kernel
theorem dX9_odds_2 : decode cX9_odds 2 = .ok (.bipush 10, 2) := by decide +kernel
theorem dX9_odds_4 : decode cX9_odds 4 = .ok (.invokestatic 69, 3) := by decide +kernel
theorem dX9_odds_7 : decode cX9_odds 7 = .ok (.ifCond .eq 12, 3) := by decide +kernel
theorem dX9_odds_10 : decode cX9_odds 10 = .ok (.iload_n 2, 1) := by decide +kernel
theorem dX9_odds_11 : decode cX9_odds 11 = .ok (.iconst 0, 1) := by decide +kernel
theorem dX9_odds_12 : decode cX9_odds 12 = .ok (.iconst 1, 1) := by decide +kernel
theorem dX9_odds_13 : decode cX9_odds 13 = .ok (.invokestatic 69, 3) := by decide +kernel
theorem dX9_odds_16 : decode cX9_odds 16 = .ok (.ifCond .ne 5, 3) := by decide +kernel
theorem dX9_odds_19 : decode cX9_odds 19 = .ok (.iconst (-1), 1) := by decide +kernel
theorem dX9_odds_20 : decode cX9_odds 20 = .ok (.ireturn, 1) := by decide +kernel
theorem dX9_odds_21 : decode cX9_odds 21 = .ok (.lconst 0, 1) := by decide +kernel
theorem dX9_odds_22 : decode cX9_odds 22 = .ok (.lstore_n 3, 1) := by decide +kernel
theorem dX9_odds_23 : decode cX9_odds 23 = .ok (.lconst 0, 1) := by decide +kernel
theorem dX9_odds_24 : decode cX9_odds 24 = .ok (.lstore 5, 2) := by decide +kernel
theorem dX9_odds_26 : decode cX9_odds 26 = .ok (.iconst 0, 1) := by decide +kernel
theorem dX9_odds_27 : decode cX9_odds 27 = .ok (.istore 7, 2) := by decide +kernel
theorem dX9_odds_29 : decode cX9_odds 29 = .ok (.iload 7, 2) := by decide +kernel
theorem dX9_odds_31 : decode cX9_odds 31 = .ok (.iconst 1, 1) := by decide +kernel
theorem dX9_odds_32 : decode cX9_odds 32 = .ok (.aload_n 0, 1) := by decide +kernel
theorem dX9_odds_33 : decode cX9_odds 33 = .ok (.getfield 66, 3) := by decide +kernel
theorem dX9_odds_36 : decode cX9_odds 36 = .ok (.ishl, 1) := by decide +kernel
theorem dX9_odds_37 : decode cX9_odds 37 = .ok (.if_icmp .ge 169, 3) := by decide +kernel
theorem dX9_odds_40 : decode cX9_odds 40 = .ok (.lconst 1, 1) := by decide +kernel
theorem dX9_odds_41 : decode cX9_odds 41 = .ok (.lstore 8, 2) := by decide +kernel
theorem dX9_odds_43 : decode cX9_odds 43 = .ok (.aload_n 0, 1) := by decide +kernel
theorem dX9_odds_44 : decode cX9_odds 44 = .ok (.invokevirtual 163, 3) := by decide +kernel
theorem dX9_odds_47 : decode cX9_odds 47 = .ok (.iconst 0, 1) := by decide +kernel
theorem dX9_odds_48 : decode cX9_odds 48 = .ok (.istore 10, 2) := by decide +kernel
theorem dX9_odds_50 : decode cX9_odds 50 = .ok (.iload 10, 2) := by decide +kernel
theorem dX9_odds_52 : decode cX9_odds 52 = .ok (.aload_n 0, 1) := by decide +kernel
theorem dX9_odds_53 : decode cX9_odds 53 = .ok (.getfield 66, 3) := by decide +kernel
theorem dX9_odds_56 : decode cX9_odds 56 = .ok (.if_icmp .ge 101, 3) := by decide +kernel
theorem dX9_odds_59 : decode cX9_odds 59 = .ok (.iload 7, 2) := by decide +kernel
theorem dX9_odds_61 : decode cX9_odds 61 = .ok (.iload 10, 2) := by decide +kernel
theorem dX9_odds_63 : decode cX9_odds 63 = .ok (.ishr, 1) := by decide +kernel
theorem dX9_odds_64 : decode cX9_odds 64 = .ok (.iconst 1, 1) := by decide +kernel
theorem dX9_odds_65 : decode cX9_odds 65 = .ok (.iand, 1) := by decide +kernel
theorem dX9_odds_66 : decode cX9_odds 66 = .ok (.iconst 1, 1) := by decide +kernel
theorem dX9_odds_67 : decode cX9_odds 67 = .ok (.if_icmp .ne 7, 3) := by decide +kernel
theorem dX9_odds_70 : decode cX9_odds 70 = .ok (.iconst 1, 1) := by decide +kernel
theorem dX9_odds_71 : decode cX9_odds 71 = .ok (.goto 4, 3) := by decide +kernel
theorem dX9_odds_74 : decode cX9_odds 74 = .ok (.iconst 0, 1) := by decide +kernel
theorem dX9_odds_75 : decode cX9_odds 75 = .ok (.istore 11, 2) := by decide +kernel
theorem dX9_odds_77 : decode cX9_odds 77 = .ok (.lload 8, 2) := by decide +kernel
theorem dX9_odds_79 : decode cX9_odds 79 = .ok (.aload_n 0, 1) := by decide +kernel
theorem dX9_odds_80 : decode cX9_odds 80 = .ok (.getfield 7, 3) := by decide +kernel
theorem dX9_odds_83 : decode cX9_odds 83 = .ok (.iconst 3, 1) := by decide +kernel
theorem dX9_odds_84 : decode cX9_odds 84 = .ok (.iload 10, 2) := by decide +kernel
theorem dX9_odds_86 : decode cX9_odds 86 = .ok (.iadd, 1) := by decide +kernel
theorem dX9_odds_87 : decode cX9_odds 87 = .ok (.iaload, 1) := by decide +kernel
theorem dX9_odds_88 : decode cX9_odds 88 = .ok (.ifCond .ne 16, 3) := by decide +kernel
theorem dX9_odds_91 : decode cX9_odds 91 = .ok (.iload 11, 2) := by decide +kernel
theorem dX9_odds_93 : decode cX9_odds 93 = .ok (.ifCond .eq 7, 3) := by decide +kernel
theorem dX9_odds_96 : decode cX9_odds 96 = .ok (.lconst 0, 1) := by decide +kernel
theorem dX9_odds_97 : decode cX9_odds 97 = .ok (.goto 22, 3) := by decide +kernel
theorem dX9_odds_100 : decode cX9_odds 100 = .ok (.lconst 1, 1) := by decide +kernel
theorem dX9_odds_101 : decode cX9_odds 101 = .ok (.goto 18, 3) := by decide +kernel
theorem dX9_odds_104 : decode cX9_odds 104 = .ok (.iload 11, 2) := by decide +kernel
theorem dX9_odds_106 : decode cX9_odds 106 = .ok (.ifCond .eq 8, 3) := by decide +kernel
theorem dX9_odds_109 : decode cX9_odds 109 = .ok (.iload_n 1, 1) := by decide +kernel
theorem dX9_odds_110 : decode cX9_odds 110 = .ok (.i2l, 1) := by decide +kernel
theorem dX9_odds_111 : decode cX9_odds 111 = .ok (.goto 8, 3) := by decide +kernel
theorem dX9_odds_114 : decode cX9_odds 114 = .ok (.bipush 10, 2) := by decide +kernel
theorem dX9_odds_116 : decode cX9_odds 116 = .ok (.iload_n 1, 1) := by decide +kernel
theorem dX9_odds_117 : decode cX9_odds 117 = .ok (.isub, 1) := by decide +kernel
theorem dX9_odds_118 : decode cX9_odds 118 = .ok (.i2l, 1) := by decide +kernel
theorem dX9_odds_119 : decode cX9_odds 119 = .ok (.lmul, 1) := by decide +kernel
theorem dX9_odds_120 : decode cX9_odds 120 = .ok (.lstore 8, 2) := by decide +kernel
theorem dX9_odds_122 : decode cX9_odds 122 = .ok (.aload_n 0, 1) := by decide +kernel
theorem dX9_odds_123 : decode cX9_odds 123 = .ok (.getfield 7, 3) := by decide +kernel
theorem dX9_odds_126 : decode cX9_odds 126 = .ok (.sipush 159, 3) := by decide +kernel
theorem dX9_odds_129 : decode cX9_odds 129 = .ok (.iload 10, 2) := by decide +kernel
theorem dX9_odds_131 : decode cX9_odds 131 = .ok (.iadd, 1) := by decide +kernel
theorem dX9_odds_132 : decode cX9_odds 132 = .ok (.iload 11, 2) := by decide +kernel
theorem dX9_odds_134 : decode cX9_odds 134 = .ok (.ifCond .eq 7, 3) := by decide +kernel
theorem dX9_odds_137 : decode cX9_odds 137 = .ok (.iconst 0, 1) := by decide +kernel
theorem dX9_odds_138 : decode cX9_odds 138 = .ok (.goto 12, 3) := by decide +kernel
theorem dX9_odds_141 : decode cX9_odds 141 = .ok (.aload_n 0, 1) := by decide +kernel
theorem dX9_odds_142 : decode cX9_odds 142 = .ok (.getfield 7, 3) := by decide +kernel
theorem dX9_odds_145 : decode cX9_odds 145 = .ok (.iconst 3, 1) := by decide +kernel
theorem dX9_odds_146 : decode cX9_odds 146 = .ok (.iload 10, 2) := by decide +kernel
theorem dX9_odds_148 : decode cX9_odds 148 = .ok (.iadd, 1) := by decide +kernel
theorem dX9_odds_149 : decode cX9_odds 149 = .ok (.iaload, 1) := by decide +kernel
theorem dX9_odds_150 : decode cX9_odds 150 = .ok (.iastore, 1) := by decide +kernel
theorem dX9_odds_151 : decode cX9_odds 151 = .ok (.iinc 10 1, 3) := by decide +kernel
theorem dX9_odds_154 : decode cX9_odds 154 = .ok (.goto (-104), 3) := by decide +kernel
theorem dX9_odds_157 : decode cX9_odds 157 = .ok (.lload 8, 2) := by decide +kernel
theorem dX9_odds_159 : decode cX9_odds 159 = .ok (.lconst 0, 1) := by decide +kernel
theorem dX9_odds_160 : decode cX9_odds 160 = .ok (.lcmp, 1) := by decide +kernel
theorem dX9_odds_161 : decode cX9_odds 161 = .ok (.ifCond .le 39, 3) := by decide +kernel
theorem dX9_odds_164 : decode cX9_odds 164 = .ok (.aload_n 0, 1) := by decide +kernel
theorem dX9_odds_165 : decode cX9_odds 165 = .ok (.invokevirtual 166, 3) := by decide +kernel
theorem dX9_odds_168 : decode cX9_odds 168 = .ok (.pop, 1) := by decide +kernel
theorem dX9_odds_169 : decode cX9_odds 169 = .ok (.lload_n 3, 1) := by decide +kernel
theorem dX9_odds_170 : decode cX9_odds 170 = .ok (.aload_n 0, 1) := by decide +kernel
theorem dX9_odds_171 : decode cX9_odds 171 = .ok (.getfield 7, 3) := by decide +kernel
theorem dX9_odds_174 : decode cX9_odds 174 = .ok (.sipush 156, 3) := by decide +kernel
theorem dX9_odds_177 : decode cX9_odds 177 = .ok (.iaload, 1) := by decide +kernel
theorem dX9_odds_178 : decode cX9_odds 178 = .ok (.aload_n 0, 1) := by decide +kernel
theorem dX9_odds_179 : decode cX9_odds 179 = .ok (.getfield 66, 3) := by decide +kernel
theorem dX9_odds_182 : decode cX9_odds 182 = .ok (.if_icmp .ne 8, 3) := by decide +kernel
theorem dX9_odds_185 : decode cX9_odds 185 = .ok (.lload 8, 2) := by decide +kernel
theorem dX9_odds_187 : decode cX9_odds 187 = .ok (.goto 4, 3) := by decide +kernel
theorem dX9_odds_190 : decode cX9_odds 190 = .ok (.lconst 0, 1) := by decide +kernel
theorem dX9_odds_191 : decode cX9_odds 191 = .ok (.ladd, 1) := by decide +kernel
theorem dX9_odds_192 : decode cX9_odds 192 = .ok (.lstore_n 3, 1) := by decide +kernel
theorem dX9_odds_193 : decode cX9_odds 193 = .ok (.lload 5, 2) := by decide +kernel
theorem dX9_odds_195 : decode cX9_odds 195 = .ok (.lload 8, 2) := by decide +kernel
theorem dX9_odds_197 : decode cX9_odds 197 = .ok (.ladd, 1) := by decide +kernel
theorem dX9_odds_198 : decode cX9_odds 198 = .ok (.lstore 5, 2) := by decide +kernel
theorem dX9_odds_200 : decode cX9_odds 200 = .ok (.iinc 7 1, 3) := by decide +kernel
theorem dX9_odds_203 : decode cX9_odds 203 = .ok (.goto (-174), 3) := by decide +kernel
theorem dX9_odds_206 : decode cX9_odds 206 = .ok (.lload_n 3, 1) := by decide +kernel
theorem dX9_odds_207 : decode cX9_odds 207 = .ok (.lstore 7, 2) := by decide +kernel
theorem dX9_odds_209 : decode cX9_odds 209 = .ok (.lload 5, 2) := by decide +kernel
theorem dX9_odds_211 : decode cX9_odds 211 = .ok (.lstore 9, 2) := by decide +kernel
theorem dX9_odds_213 : decode cX9_odds 213 = .ok (.lload 9, 2) := by decide +kernel
theorem dX9_odds_215 : decode cX9_odds 215 = .ok (.lconst 0, 1) := by decide +kernel
theorem dX9_odds_216 : decode cX9_odds 216 = .ok (.lcmp, 1) := by decide +kernel
theorem dX9_odds_217 : decode cX9_odds 217 = .ok (.ifCond .eq 21, 3) := by decide +kernel
theorem dX9_odds_220 : decode cX9_odds 220 = .ok (.lload 7, 2) := by decide +kernel
theorem dX9_odds_222 : decode cX9_odds 222 = .ok (.lload 9, 2) := by decide +kernel
theorem dX9_odds_224 : decode cX9_odds 224 = .ok (.lrem, 1) := by decide +kernel
theorem dX9_odds_225 : decode cX9_odds 225 = .ok (.lstore 11, 2) := by decide +kernel
theorem dX9_odds_227 : decode cX9_odds 227 = .ok (.lload 9, 2) := by decide +kernel
theorem dX9_odds_229 : decode cX9_odds 229 = .ok (.lstore 7, 2) := by decide +kernel
theorem dX9_odds_231 : decode cX9_odds 231 = .ok (.lload 11, 2) := by decide +kernel
theorem dX9_odds_233 : decode cX9_odds 233 = .ok (.lstore 9, 2) := by decide +kernel
theorem dX9_odds_235 : decode cX9_odds 235 = .ok (.goto (-22), 3) := by decide +kernel
theorem dX9_odds_238 : decode cX9_odds 238 = .ok (.iload_n 2, 1) := by decide +kernel
theorem dX9_odds_239 : decode cX9_odds 239 = .ok (.ifCond .ne 10, 3) := by decide +kernel
theorem dX9_odds_242 : decode cX9_odds 242 = .ok (.lload_n 3, 1) := by decide +kernel
theorem dX9_odds_243 : decode cX9_odds 243 = .ok (.lload 7, 2) := by decide +kernel
theorem dX9_odds_245 : decode cX9_odds 245 = .ok (.ldiv, 1) := by decide +kernel
theorem dX9_odds_246 : decode cX9_odds 246 = .ok (.goto 8, 3) := by decide +kernel
theorem dX9_odds_249 : decode cX9_odds 249 = .ok (.lload 5, 2) := by decide +kernel
theorem dX9_odds_251 : decode cX9_odds 251 = .ok (.lload 7, 2) := by decide +kernel
theorem dX9_odds_253 : decode cX9_odds 253 = .ok (.ldiv, 1) := by decide +kernel
theorem dX9_odds_254 : decode cX9_odds 254 = .ok (.l2i, 1) := by decide +kernel
theorem dX9_odds_255 : decode cX9_odds 255 = .ok (.ireturn, 1) := by decide +kernel
set_option maxRecDepth 20000 in
theorem ggX9_sees_X9_isStep : GoodIn wsX9_sees wsX9_isStep := goodIn_r _ [10, 1, 11, 12, 9, 13, 14, 15, 16, 17, 18, 19, 20, 21, 22, 23, 24, 25, 26, 27, 28, 29, 30, 31, 32, 33, 34, 35, 36, 37, 38, 39, 40, 41, 42, 43, 44, 45] (by decide +kernel) (by decide +kernel)
set_option maxRecDepth 20000 in
theorem gX9_sees_X9_isStep : GoodIn wsX9_sees (wsV RX9 122 RX9 yX9_isStep wsX9_isStep) := goodIn_app (goodIn_of _ (by decide +kernel)) ggX9_sees_X9_isStep
set_option maxRecDepth 20000 in
theorem ggX9_sees_X9_in : GoodIn wsX9_sees wsX9_in := goodIn_r _ [13] (by decide +kernel) (by decide +kernel)
set_option maxRecDepth 20000 in
theorem gX9_sees_X9_in : GoodIn wsX9_sees (va_wsS RX9 69 yX9_in wsX9_in) := goodIn_app (goodIn_of _ (by decide +kernel)) ggX9_sees_X9_in
theorem dX9_sees_0 : decode cX9_sees 0 = .ok (.aload_n 0, 1) := by decide +kernel
theorem dX9_sees_1 : decode cX9_sees 1 = .ok (.iload_n 1, 1) := by decide +kernel
theorem dX9_sees_2 : decode cX9_sees 2 = .ok (.invokevirtual 122, 3) := by decide +kernel
theorem dX9_sees_5 : decode cX9_sees 5 = .ok (.ifCond .eq 25, 3) := by decide +kernel
theorem dX9_sees_8 : decode cX9_sees 8 = .ok (.iload_n 2, 1) := by decide +kernel
theorem dX9_sees_9 : decode cX9_sees 9 = .ok (.iconst 1, 1) := by decide +kernel
theorem dX9_sees_10 : decode cX9_sees 10 = .ok (.bipush 60, 2) := by decide +kernel
theorem dX9_sees_12 : decode cX9_sees 12 = .ok (.invokestatic 69, 3) := by decide +kernel
theorem dX9_sees_15 : decode cX9_sees 15 = .ok (.ifCond .eq 15, 3) := by decide +kernel
theorem dX9_sees_18 : decode cX9_sees 18 = .ok (.iload_n 3, 1) := by decide +kernel
theorem dX9_sees_19 : decode cX9_sees 19 = .ok (.iconst 0, 1) := by decide +kernel
theorem dX9_sees_20 : decode cX9_sees 20 = .ok (.aload_n 0, 1) := by decide +kernel
theorem dX9_sees_21 : decode cX9_sees 21 = .ok (.getfield 66, 3) := by decide +kernel
theorem dX9_sees_24 : decode cX9_sees 24 = .ok (.invokestatic 69, 3) := by decide +kernel
theorem dX9_sees_27 : decode cX9_sees 27 = .ok (.ifCond .ne 5, 3) := by decide +kernel
theorem dX9_sees_30 : decode cX9_sees 30 = .ok (.iconst (-1), 1) := by decide +kernel
theorem dX9_sees_31 : decode cX9_sees 31 = .ok (.ireturn, 1) := by decide +kernel
theorem dX9_sees_32 : decode cX9_sees 32 = .ok (.aload_n 0, 1) := by decide +kernel
theorem dX9_sees_33 : decode cX9_sees 33 = .ok (.getfield 119, 3) := by decide +kernel
theorem dX9_sees_36 : decode cX9_sees 36 = .ok (.bipush 6, 2) := by decide +kernel
theorem dX9_sees_38 : decode cX9_sees 38 = .ok (.if_icmp .ne 6, 3) := by decide +kernel
theorem dX9_sees_41 : decode cX9_sees 41 = .ok (.bipush (-3), 2) := by decide +kernel
theorem dX9_sees_43 : decode cX9_sees 43 = .ok (.ireturn, 1) := by decide +kernel
theorem dX9_sees_44 : decode cX9_sees 44 = .ok (.aload_n 0, 1) := by decide +kernel
theorem dX9_sees_45 : decode cX9_sees 45 = .ok (.getfield 36, 3) := by decide +kernel
theorem dX9_sees_48 : decode cX9_sees 48 = .ok (.aload_n 0, 1) := by decide +kernel
theorem dX9_sees_49 : decode cX9_sees 49 = .ok (.getfield 119, 3) := by decide +kernel
theorem dX9_sees_52 : decode cX9_sees 52 = .ok (.iload_n 1, 1) := by decide +kernel
theorem dX9_sees_53 : decode cX9_sees 53 = .ok (.iastore, 1) := by decide +kernel
theorem dX9_sees_54 : decode cX9_sees 54 = .ok (.aload_n 0, 1) := by decide +kernel
theorem dX9_sees_55 : decode cX9_sees 55 = .ok (.getfield 39, 3) := by decide +kernel
theorem dX9_sees_58 : decode cX9_sees 58 = .ok (.aload_n 0, 1) := by decide +kernel
theorem dX9_sees_59 : decode cX9_sees 59 = .ok (.getfield 119, 3) := by decide +kernel
theorem dX9_sees_62 : decode cX9_sees 62 = .ok (.iload_n 2, 1) := by decide +kernel
theorem dX9_sees_63 : decode cX9_sees 63 = .ok (.iastore, 1) := by decide +kernel
theorem dX9_sees_64 : decode cX9_sees 64 = .ok (.aload_n 0, 1) := by decide +kernel
theorem dX9_sees_65 : decode cX9_sees 65 = .ok (.getfield 42, 3) := by decide +kernel
theorem dX9_sees_68 : decode cX9_sees 68 = .ok (.aload_n 0, 1) := by decide +kernel
theorem dX9_sees_69 : decode cX9_sees 69 = .ok (.getfield 119, 3) := by decide +kernel
theorem dX9_sees_72 : decode cX9_sees 72 = .ok (.iload_n 3, 1) := by decide +kernel
theorem dX9_sees_73 : decode cX9_sees 73 = .ok (.iastore, 1) := by decide +kernel
theorem dX9_sees_74 : decode cX9_sees 74 = .ok (.aload_n 0, 1) := by decide +kernel
theorem dX9_sees_75 : decode cX9_sees 75 = .ok (.dup, 1) := by decide +kernel
theorem dX9_sees_76 : decode cX9_sees 76 = .ok (.getfield 119, 3) := by decide +kernel
theorem dX9_sees_79 : decode cX9_sees 79 = .ok (.iconst 1, 1) := by decide +kernel
theorem dX9_sees_80 : decode cX9_sees 80 = .ok (.iadd, 1) := by decide +kernel
theorem dX9_sees_81 : decode cX9_sees 81 = .ok (.putfield 119, 3) := by decide +kernel
theorem dX9_sees_84 : decode cX9_sees 84 = .ok (.aload_n 0, 1) := by decide +kernel
theorem dX9_sees_85 : decode cX9_sees 85 = .ok (.getfield 119, 3) := by decide +kernel
theorem dX9_sees_88 : decode cX9_sees 88 = .ok (.ireturn, 1) := by decide +kernel
theorem dX9_forget_0 : decode cX9_forget 0 = .ok (.aload_n 0, 1) := by decide +kernel
theorem dX9_forget_1 : decode cX9_forget 1 = .ok (.getfield 119, 3) := by decide +kernel
theorem dX9_forget_4 : decode cX9_forget 4 = .ok (.istore_n 1, 1) := by decide +kernel
theorem dX9_forget_5 : decode cX9_forget 5 = .ok (.aload_n 0, 1) := by decide +kernel
theorem dX9_forget_6 : decode cX9_forget 6 = .ok (.iconst 0, 1) := by decide +kernel
theorem dX9_forget_7 : decode cX9_forget 7 = .ok (.putfield 119, 3) := by decide +kernel
theorem dX9_forget_10 : decode cX9_forget 10 = .ok (.iload_n 1, 1) := by decide +kernel
theorem dX9_forget_11 : decode cX9_forget 11 = .ok (.ireturn, 1) := by decide +kernel
set_option maxRecDepth 20000 in
theorem ggX9_restsAt_X9_copyRow : GoodIn wsX9_restsAt wsX9_copyRow := goodIn_r _ [8, 3, 29, 30, 31, 32, 33, 34, 35, 36, 37, 38, 39, 40, 41, 42, 43, 44, 45, 46, 47, 48, 49, 50, 51, 52, 53, 54, 55, 56, 57, 58, 59, 60] (by decide +kernel) (by decide +kernel)
set_option maxRecDepth 20000 in
theorem gX9_restsAt_X9_copyRow : GoodIn wsX9_restsAt (wsV RX9 145 RX9 yX9_copyRow wsX9_copyRow) := goodIn_app (goodIn_of _ (by decide +kernel)) ggX9_restsAt_X9_copyRow
set_option maxRecDepth 20000 in
theorem ggX9_restsAt_X9_runs : GoodIn wsX9_restsAt wsX9_runs := goodIn_r _ [12, 3, 13, 14, 15, 7, 16, 1, 17, 2, 18, 19, 20, 21, 22, 23, 24, 25, 26, 27, 28, 29, 30, 31, 32, 33, 34, 35, 36, 37, 38, 39, 40, 41, 42, 43, 44, 45, 46, 47, 48, 49, 50, 51, 52, 53, 54, 55, 56, 57, 58, 59, 60] (by decide +kernel) (by decide +kernel)
set_option maxRecDepth 20000 in
theorem gX9_restsAt_X9_runs : GoodIn wsX9_restsAt (wsV RX9 166 RX9 yX9_runs wsX9_runs) := goodIn_app (goodIn_of _ (by decide +kernel)) ggX9_restsAt_X9_runs
theorem dX9_restsAt_0 : decode cX9_restsAt 0 = .ok (.aload_n 0, 1) := by decide +kernel
theorem dX9_restsAt_1 : decode cX9_restsAt 1 = .ok (.iconst 0, 1) := by decide +kernel
theorem dX9_restsAt_2 : decode cX9_restsAt 2 = .ok (.sipush 156, 3) := by decide +kernel
theorem dX9_restsAt_5 : decode cX9_restsAt 5 = .ok (.invokevirtual 145, 3) := by decide +kernel
theorem dX9_restsAt_8 : decode cX9_restsAt 8 = .ok (.aload_n 0, 1) := by decide +kernel
theorem dX9_restsAt_9 : decode cX9_restsAt 9 = .ok (.iload_n 1, 1) := by decide +kernel
theorem dX9_restsAt_10 : decode cX9_restsAt 10 = .ok (.putfield 125, 3) := by decide +kernel
theorem dX9_restsAt_13 : decode cX9_restsAt 13 = .ok (.aload_n 0, 1) := by decide +kernel
theorem dX9_restsAt_14 : decode cX9_restsAt 14 = .ok (.iload_n 2, 1) := by decide +kernel
theorem dX9_restsAt_15 : decode cX9_restsAt 15 = .ok (.putfield 128, 3) := by decide +kernel
theorem dX9_restsAt_18 : decode cX9_restsAt 18 = .ok (.aload_n 0, 1) := by decide +kernel
theorem dX9_restsAt_19 : decode cX9_restsAt 19 = .ok (.getfield 7, 3) := by decide +kernel
theorem dX9_restsAt_22 : decode cX9_restsAt 22 = .ok (.sipush 156, 3) := by decide +kernel
theorem dX9_restsAt_25 : decode cX9_restsAt 25 = .ok (.iload_n 3, 1) := by decide +kernel
theorem dX9_restsAt_26 : decode cX9_restsAt 26 = .ok (.iastore, 1) := by decide +kernel
theorem dX9_restsAt_27 : decode cX9_restsAt 27 = .ok (.aload_n 0, 1) := by decide +kernel
theorem dX9_restsAt_28 : decode cX9_restsAt 28 = .ok (.getfield 7, 3) := by decide +kernel
theorem dX9_restsAt_31 : decode cX9_restsAt 31 = .ok (.sipush 157, 3) := by decide +kernel
theorem dX9_restsAt_34 : decode cX9_restsAt 34 = .ok (.iload 4, 2) := by decide +kernel
theorem dX9_restsAt_36 : decode cX9_restsAt 36 = .ok (.iastore, 1) := by decide +kernel
theorem dX9_restsAt_37 : decode cX9_restsAt 37 = .ok (.aload_n 0, 1) := by decide +kernel
theorem dX9_restsAt_38 : decode cX9_restsAt 38 = .ok (.invokevirtual 166, 3) := by decide +kernel
theorem dX9_restsAt_41 : decode cX9_restsAt 41 = .ok (.pop, 1) := by decide +kernel
theorem dX9_restsAt_42 : decode cX9_restsAt 42 = .ok (.aload_n 0, 1) := by decide +kernel
theorem dX9_restsAt_43 : decode cX9_restsAt 43 = .ok (.getfield 7, 3) := by decide +kernel
theorem dX9_restsAt_46 : decode cX9_restsAt 46 = .ok (.sipush 156, 3) := by decide +kernel
theorem dX9_restsAt_49 : decode cX9_restsAt 49 = .ok (.iaload, 1) := by decide +kernel
theorem dX9_restsAt_50 : decode cX9_restsAt 50 = .ok (.ireturn, 1) := by decide +kernel
set_option maxRecDepth 20000 in
theorem ggX9_isWay_X9_restsAt : GoodIn wsX9_isWay wsX9_restsAt := goodIn_r _ [9, 10, 11, 12, 13, 14, 15, 8, 16, 17, 18, 19, 20, 21, 22, 23, 24, 25, 26, 27, 28, 29, 30, 31, 32, 33, 34, 35, 36, 37, 38, 39, 40, 41, 42, 43, 44, 45, 46, 47, 48, 49, 50, 51, 52, 53, 54, 55, 56, 57, 58, 59, 60, 61, 62, 63, 64, 65, 66, 67, 68] (by decide +kernel) (by decide +kernel)
set_option maxRecDepth 20000 in
theorem gX9_isWay_X9_restsAt : GoodIn wsX9_isWay (wsV RX9 178 RX9 yX9_restsAt wsX9_restsAt) := goodIn_app (goodIn_of _ (by decide +kernel)) ggX9_isWay_X9_restsAt
theorem dX9_isWay_0 : decode cX9_isWay 0 = .ok (.iconst 1, 1) := by decide +kernel
theorem dX9_isWay_1 : decode cX9_isWay 1 = .ok (.istore_n 3, 1) := by decide +kernel
theorem dX9_isWay_2 : decode cX9_isWay 2 = .ok (.iconst 0, 1) := by decide +kernel
theorem dX9_isWay_3 : decode cX9_isWay 3 = .ok (.istore 4, 2) := by decide +kernel
theorem dX9_isWay_5 : decode cX9_isWay 5 = .ok (.iload 4, 2) := by decide +kernel
theorem dX9_isWay_7 : decode cX9_isWay 7 = .ok (.aload_n 0, 1) := by decide +kernel
theorem dX9_isWay_8 : decode cX9_isWay 8 = .ok (.getfield 119, 3) := by decide +kernel
theorem dX9_isWay_11 : decode cX9_isWay 11 = .ok (.if_icmp .ge 49, 3) := by decide +kernel
theorem dX9_isWay_14 : decode cX9_isWay 14 = .ok (.iload_n 3, 1) := by decide +kernel
theorem dX9_isWay_15 : decode cX9_isWay 15 = .ok (.ifCond .eq 37, 3) := by decide +kernel
theorem dX9_isWay_18 : decode cX9_isWay 18 = .ok (.aload_n 0, 1) := by decide +kernel
theorem dX9_isWay_19 : decode cX9_isWay 19 = .ok (.iload_n 1, 1) := by decide +kernel
theorem dX9_isWay_20 : decode cX9_isWay 20 = .ok (.iload_n 2, 1) := by decide +kernel
theorem dX9_isWay_21 : decode cX9_isWay 21 = .ok (.aload_n 0, 1) := by decide +kernel
theorem dX9_isWay_22 : decode cX9_isWay 22 = .ok (.getfield 36, 3) := by decide +kernel
theorem dX9_isWay_25 : decode cX9_isWay 25 = .ok (.iload 4, 2) := by decide +kernel
theorem dX9_isWay_27 : decode cX9_isWay 27 = .ok (.iaload, 1) := by decide +kernel
theorem dX9_isWay_28 : decode cX9_isWay 28 = .ok (.aload_n 0, 1) := by decide +kernel
theorem dX9_isWay_29 : decode cX9_isWay 29 = .ok (.getfield 39, 3) := by decide +kernel
theorem dX9_isWay_32 : decode cX9_isWay 32 = .ok (.iload 4, 2) := by decide +kernel
theorem dX9_isWay_34 : decode cX9_isWay 34 = .ok (.iaload, 1) := by decide +kernel
theorem dX9_isWay_35 : decode cX9_isWay 35 = .ok (.invokevirtual 178, 3) := by decide +kernel
theorem dX9_isWay_38 : decode cX9_isWay 38 = .ok (.aload_n 0, 1) := by decide +kernel
theorem dX9_isWay_39 : decode cX9_isWay 39 = .ok (.getfield 42, 3) := by decide +kernel
theorem dX9_isWay_42 : decode cX9_isWay 42 = .ok (.iload 4, 2) := by decide +kernel
theorem dX9_isWay_44 : decode cX9_isWay 44 = .ok (.iaload, 1) := by decide +kernel
theorem dX9_isWay_45 : decode cX9_isWay 45 = .ok (.if_icmp .ne 7, 3) := by decide +kernel
theorem dX9_isWay_48 : decode cX9_isWay 48 = .ok (.iconst 1, 1) := by decide +kernel
theorem dX9_isWay_49 : decode cX9_isWay 49 = .ok (.goto 4, 3) := by decide +kernel
theorem dX9_isWay_52 : decode cX9_isWay 52 = .ok (.iconst 0, 1) := by decide +kernel
theorem dX9_isWay_53 : decode cX9_isWay 53 = .ok (.istore_n 3, 1) := by decide +kernel
theorem dX9_isWay_54 : decode cX9_isWay 54 = .ok (.iinc 4 1, 3) := by decide +kernel
theorem dX9_isWay_57 : decode cX9_isWay 57 = .ok (.goto (-52), 3) := by decide +kernel
theorem dX9_isWay_60 : decode cX9_isWay 60 = .ok (.iload_n 3, 1) := by decide +kernel
theorem dX9_isWay_61 : decode cX9_isWay 61 = .ok (.ireturn, 1) := by decide +kernel
set_option maxRecDepth 20000 in
theorem ggX9_layWays_X9_isWay : GoodIn wsX9_layWays wsX9_isWay := goodIn_r _ [7, 8, 9, 10, 11, 12, 13, 14, 6, 15, 16, 17, 18, 19, 20, 21, 22, 23, 24, 25, 26, 27, 28, 29, 30, 31, 32, 33, 34, 35, 36, 37, 38, 39, 40, 41, 42, 43, 44, 45, 46, 47, 48, 49, 50, 51, 52, 53, 54, 55, 56, 57, 58, 59, 60, 61, 62, 63, 64, 65, 66, 67, 68, 69, 70, 71, 72, 73, 74] (by decide +kernel) (by decide +kernel)
set_option maxRecDepth 20000 in
theorem gX9_layWays_X9_isWay : GoodIn wsX9_layWays (wsV RX9 185 RX9 yX9_isWay wsX9_isWay) := goodIn_app (goodIn_of _ (by decide +kernel)) ggX9_layWays_X9_isWay
theorem dX9_layWays_0 : decode cX9_layWays 0 = .ok (.aload_n 0, 1) := by decide +kernel
theorem dX9_layWays_1 : decode cX9_layWays 1 = .ok (.iconst 0, 1) := by decide +kernel
theorem dX9_layWays_2 : decode cX9_layWays 2 = .ok (.putfield 182, 3) := by decide +kernel
theorem dX9_layWays_5 : decode cX9_layWays 5 = .ok (.iconst 0, 1) := by decide +kernel
theorem dX9_layWays_6 : decode cX9_layWays 6 = .ok (.istore_n 1, 1) := by decide +kernel
theorem dX9_layWays_7 : decode cX9_layWays 7 = .ok (.iload_n 1, 1) := by decide +kernel
theorem dX9_layWays_8 : decode cX9_layWays 8 = .ok (.bipush 36, 2) := by decide +kernel
theorem dX9_layWays_10 : decode cX9_layWays 10 = .ok (.if_icmp .ge 55, 3) := by decide +kernel
theorem dX9_layWays_13 : decode cX9_layWays 13 = .ok (.aload_n 0, 1) := by decide +kernel
theorem dX9_layWays_14 : decode cX9_layWays 14 = .ok (.iconst 1, 1) := by decide +kernel
theorem dX9_layWays_15 : decode cX9_layWays 15 = .ok (.iload_n 1, 1) := by decide +kernel
theorem dX9_layWays_16 : decode cX9_layWays 16 = .ok (.iconst 4, 1) := by decide +kernel
theorem dX9_layWays_17 : decode cX9_layWays 17 = .ok (.idiv, 1) := by decide +kernel
theorem dX9_layWays_18 : decode cX9_layWays 18 = .ok (.iadd, 1) := by decide +kernel
theorem dX9_layWays_19 : decode cX9_layWays 19 = .ok (.iload_n 1, 1) := by decide +kernel
theorem dX9_layWays_20 : decode cX9_layWays 20 = .ok (.iconst 4, 1) := by decide +kernel
theorem dX9_layWays_21 : decode cX9_layWays 21 = .ok (.irem, 1) := by decide +kernel
theorem dX9_layWays_22 : decode cX9_layWays 22 = .ok (.invokevirtual 185, 3) := by decide +kernel
theorem dX9_layWays_25 : decode cX9_layWays 25 = .ok (.ifCond .eq 34, 3) := by decide +kernel
theorem dX9_layWays_28 : decode cX9_layWays 28 = .ok (.aload_n 0, 1) := by decide +kernel
theorem dX9_layWays_29 : decode cX9_layWays 29 = .ok (.getfield 60, 3) := by decide +kernel
theorem dX9_layWays_32 : decode cX9_layWays 32 = .ok (.aload_n 0, 1) := by decide +kernel
theorem dX9_layWays_33 : decode cX9_layWays 33 = .ok (.getfield 182, 3) := by decide +kernel
theorem dX9_layWays_36 : decode cX9_layWays 36 = .ok (.bipush 10, 2) := by decide +kernel
theorem dX9_layWays_38 : decode cX9_layWays 38 = .ok (.iconst 1, 1) := by decide +kernel
theorem dX9_layWays_39 : decode cX9_layWays 39 = .ok (.iload_n 1, 1) := by decide +kernel
theorem dX9_layWays_40 : decode cX9_layWays 40 = .ok (.iconst 4, 1) := by decide +kernel
theorem dX9_layWays_41 : decode cX9_layWays 41 = .ok (.idiv, 1) := by decide +kernel
theorem dX9_layWays_42 : decode cX9_layWays 42 = .ok (.iadd, 1) := by decide +kernel
theorem dX9_layWays_43 : decode cX9_layWays 43 = .ok (.imul, 1) := by decide +kernel
theorem dX9_layWays_44 : decode cX9_layWays 44 = .ok (.iload_n 1, 1) := by decide +kernel
theorem dX9_layWays_45 : decode cX9_layWays 45 = .ok (.iconst 4, 1) := by decide +kernel
theorem dX9_layWays_46 : decode cX9_layWays 46 = .ok (.irem, 1) := by decide +kernel
theorem dX9_layWays_47 : decode cX9_layWays 47 = .ok (.iadd, 1) := by decide +kernel
theorem dX9_layWays_48 : decode cX9_layWays 48 = .ok (.iastore, 1) := by decide +kernel
theorem dX9_layWays_49 : decode cX9_layWays 49 = .ok (.aload_n 0, 1) := by decide +kernel
theorem dX9_layWays_50 : decode cX9_layWays 50 = .ok (.dup, 1) := by decide +kernel
theorem dX9_layWays_51 : decode cX9_layWays 51 = .ok (.getfield 182, 3) := by decide +kernel
theorem dX9_layWays_54 : decode cX9_layWays 54 = .ok (.iconst 1, 1) := by decide +kernel
theorem dX9_layWays_55 : decode cX9_layWays 55 = .ok (.iadd, 1) := by decide +kernel
theorem dX9_layWays_56 : decode cX9_layWays 56 = .ok (.putfield 182, 3) := by decide +kernel
theorem dX9_layWays_59 : decode cX9_layWays 59 = .ok (.iinc 1 1, 3) := by decide +kernel
theorem dX9_layWays_62 : decode cX9_layWays 62 = .ok (.goto (-55), 3) := by decide +kernel
theorem dX9_layWays_65 : decode cX9_layWays 65 = .ok (.return_, 1) := by decide +kernel
set_option maxRecDepth 20000 in
theorem ggX9_ways_X9_in : GoodIn wsX9_ways wsX9_in := goodIn_r _ [6] (by decide +kernel) (by decide +kernel)
set_option maxRecDepth 20000 in
theorem gX9_ways_X9_in : GoodIn wsX9_ways (va_wsS RX9 69 yX9_in wsX9_in) := goodIn_app (goodIn_of _ (by decide +kernel)) ggX9_ways_X9_in
set_option maxRecDepth 20000 in
theorem ggX9_ways_X9_layWays : GoodIn wsX9_ways wsX9_layWays := goodIn_r _ [10, 1, 2, 11, 12, 13, 5, 14, 15, 16, 17, 18, 19, 20, 21, 22, 23, 24, 25, 26, 27, 28, 29, 30, 31, 32, 33, 34, 35, 36, 37, 38, 39, 40, 41, 42, 43, 44, 45, 46, 47, 48, 49, 50, 51, 52, 53, 54, 55, 56, 57, 58, 59, 60, 61, 62, 63, 64, 65, 66, 67, 68, 69, 70, 71, 72, 73, 74, 75, 76, 77, 78, 79, 80, 81] (by decide +kernel) (by decide +kernel)
set_option maxRecDepth 20000 in
theorem gX9_ways_X9_layWays : GoodIn wsX9_ways (wsV RX9 188 RX9 yX9_layWays wsX9_layWays) := goodIn_app (goodIn_of _ (by decide +kernel)) ggX9_ways_X9_layWays
theorem dX9_ways_0 : decode cX9_ways 0 = .ok (.iload_n 1, 1) := by decide +kernel
theorem dX9_ways_1 : decode cX9_ways 1 = .ok (.iconst 0, 1) := by decide +kernel
theorem dX9_ways_2 : decode cX9_ways 2 = .ok (.iconst 1, 1) := by decide +kernel
theorem dX9_ways_3 : decode cX9_ways 3 = .ok (.invokestatic 69, 3) := by decide +kernel
theorem dX9_ways_6 : decode cX9_ways 6 = .ok (.ifCond .ne 5, 3) := by decide +kernel
theorem dX9_ways_9 : decode cX9_ways 9 = .ok (.iconst (-1), 1) := by decide +kernel
theorem dX9_ways_10 : decode cX9_ways 10 = .ok (.ireturn, 1) := by decide +kernel
theorem dX9_ways_11 : decode cX9_ways 11 = .ok (.aload_n 0, 1) := by decide +kernel
theorem dX9_ways_12 : decode cX9_ways 12 = .ok (.invokevirtual 188, 3) := by decide +kernel
theorem dX9_ways_15 : decode cX9_ways 15 = .ok (.iload_n 1, 1) := by decide +kernel
theorem dX9_ways_16 : decode cX9_ways 16 = .ok (.ifCond .ne 10, 3) := by decide +kernel
theorem dX9_ways_19 : decode cX9_ways 19 = .ok (.aload_n 0, 1) := by decide +kernel
theorem dX9_ways_20 : decode cX9_ways 20 = .ok (.getfield 182, 3) := by decide +kernel
theorem dX9_ways_23 : decode cX9_ways 23 = .ok (.goto 21, 3) := by decide +kernel
theorem dX9_ways_26 : decode cX9_ways 26 = .ok (.aload_n 0, 1) := by decide +kernel
theorem dX9_ways_27 : decode cX9_ways 27 = .ok (.getfield 182, 3) := by decide +kernel
theorem dX9_ways_30 : decode cX9_ways 30 = .ok (.ifCond .ne 8, 3) := by decide +kernel
theorem dX9_ways_33 : decode cX9_ways 33 = .ok (.bipush (-9), 2) := by decide +kernel
theorem dX9_ways_35 : decode cX9_ways 35 = .ok (.goto 9, 3) := by decide +kernel
theorem dX9_ways_38 : decode cX9_ways 38 = .ok (.aload_n 0, 1) := by decide +kernel
theorem dX9_ways_39 : decode cX9_ways 39 = .ok (.getfield 60, 3) := by decide +kernel
theorem dX9_ways_42 : decode cX9_ways 42 = .ok (.iconst 0, 1) := by decide +kernel
theorem dX9_ways_43 : decode cX9_ways 43 = .ok (.iaload, 1) := by decide +kernel
theorem dX9_ways_44 : decode cX9_ways 44 = .ok (.ireturn, 1) := by decide +kernel
set_option maxRecDepth 20000 in
theorem ggX9_next_X9_isStep : GoodIn wsX9_next wsX9_isStep := goodIn_r _ [10, 3, 11, 12, 9, 13, 56, 57, 58, 59, 60, 61, 62, 63, 64, 65, 66, 67, 68, 69, 70, 71, 72, 73, 74, 75, 76, 77, 78, 79, 80, 81, 82, 83, 84, 85, 86, 87] (by decide +kernel) (by decide +kernel)
set_option maxRecDepth 20000 in
theorem gX9_next_X9_isStep : GoodIn wsX9_next (wsV RX9 122 RX9 yX9_isStep wsX9_isStep) := goodIn_app (goodIn_of _ (by decide +kernel)) ggX9_next_X9_isStep
set_option maxRecDepth 20000 in
theorem ggX9_next_X9_layWays : GoodIn wsX9_next wsX9_layWays := goodIn_r _ [17, 2, 5, 18, 19, 20, 9, 21, 22, 23, 24, 25, 26, 27, 28, 29, 30, 31, 32, 33, 34, 35, 36, 37, 38, 39, 40, 41, 42, 43, 44, 45, 46, 47, 48, 49, 50, 51, 52, 3, 53, 54, 55, 56, 57, 58, 59, 60, 61, 62, 63, 64, 65, 66, 67, 68, 69, 70, 71, 72, 73, 74, 75, 76, 77, 78, 79, 80, 81, 82, 83, 84, 85, 86, 87] (by decide +kernel) (by decide +kernel)
set_option maxRecDepth 20000 in
theorem gX9_next_X9_layWays : GoodIn wsX9_next (wsV RX9 188 RX9 yX9_layWays wsX9_layWays) := goodIn_app (goodIn_of _ (by decide +kernel)) ggX9_next_X9_layWays
set_option maxRecDepth 20000 in
theorem ggX9_next_X9_restsAt : GoodIn wsX9_next wsX9_restsAt := goodIn_r _ [29, 30, 31, 32, 33, 34, 35, 9, 36, 37, 38, 39, 40, 41, 42, 43, 44, 45, 46, 47, 48, 49, 50, 51, 52, 3, 53, 54, 55, 56, 57, 58, 59, 60, 61, 62, 63, 64, 65, 66, 67, 68, 69, 70, 71, 72, 73, 74, 75, 76, 77, 78, 79, 80, 81, 82, 83, 84, 85, 86, 87] (by decide +kernel) (by decide +kernel)
set_option maxRecDepth 20000 in
theorem gX9_next_X9_restsAt : GoodIn wsX9_next (wsV RX9 178 RX9 yX9_restsAt wsX9_restsAt) := goodIn_app (goodIn_of _ (by decide +kernel)) ggX9_next_X9_restsAt
theorem dX9_next_0 : decode cX9_next 0 = .ok (.aload_n 0, 1) := by decide +kernel
theorem dX9_next_1 : decode cX9_next 1 = .ok (.iload_n 1, 1) := by decide +kernel
theorem dX9_next_2 : decode cX9_next 2 = .ok (.invokevirtual 122, 3) := by decide +kernel
theorem dX9_next_5 : decode cX9_next 5 = .ok (.ifCond .ne 5, 3) := by decide +kernel
