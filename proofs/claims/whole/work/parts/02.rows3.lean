theorem dX9_leastFrom_76 : decode cX9_leastFrom 76 = .ok (.sipush 156, 3) := by decide +kernel
theorem dX9_leastFrom_79 : decode cX9_leastFrom 79 = .ok (.iaload, 1) := by decide +kernel
theorem dX9_leastFrom_80 : decode cX9_leastFrom 80 = .ok (.imul, 1) := by decide +kernel
theorem dX9_leastFrom_81 : decode cX9_leastFrom 81 = .ok (.aload_n 0, 1) := by decide +kernel
theorem dX9_leastFrom_82 : decode cX9_leastFrom 82 = .ok (.getfield 7, 3) := by decide +kernel
theorem dX9_leastFrom_85 : decode cX9_leastFrom 85 = .ok (.sipush 157, 3) := by decide +kernel
theorem dX9_leastFrom_88 : decode cX9_leastFrom 88 = .ok (.iaload, 1) := by decide +kernel
theorem dX9_leastFrom_89 : decode cX9_leastFrom 89 = .ok (.iadd, 1) := by decide +kernel
theorem dX9_leastFrom_90 : decode cX9_leastFrom 90 = .ok (.iaload, 1) := by decide +kernel
theorem dX9_leastFrom_91 : decode cX9_leastFrom 91 = .ok (.iadd, 1) := by decide +kernel
theorem dX9_leastFrom_92 : decode cX9_leastFrom 92 = .ok (.istore 6, 2) := by decide +kernel
theorem dX9_leastFrom_94 : decode cX9_leastFrom 94 = .ok (.aload_n 0, 1) := by decide +kernel
theorem dX9_leastFrom_95 : decode cX9_leastFrom 95 = .ok (.iload 6, 2) := by decide +kernel
theorem dX9_leastFrom_97 : decode cX9_leastFrom 97 = .ok (.iload_n 3, 1) := by decide +kernel
theorem dX9_leastFrom_98 : decode cX9_leastFrom 98 = .ok (.if_icmp .gt 8, 3) := by decide +kernel
theorem dX9_leastFrom_101 : decode cX9_leastFrom 101 = .ok (.iload 4, 2) := by decide +kernel
theorem dX9_leastFrom_103 : decode cX9_leastFrom 103 = .ok (.goto 7, 3) := by decide +kernel
theorem dX9_leastFrom_106 : decode cX9_leastFrom 106 = .ok (.aload_n 0, 1) := by decide +kernel
theorem dX9_leastFrom_107 : decode cX9_leastFrom 107 = .ok (.getfield 153, 3) := by decide +kernel
theorem dX9_leastFrom_110 : decode cX9_leastFrom 110 = .ok (.putfield 153, 3) := by decide +kernel
theorem dX9_leastFrom_113 : decode cX9_leastFrom 113 = .ok (.iload 6, 2) := by decide +kernel
theorem dX9_leastFrom_115 : decode cX9_leastFrom 115 = .ok (.iload_n 3, 1) := by decide +kernel
theorem dX9_leastFrom_116 : decode cX9_leastFrom 116 = .ok (.if_icmp .gt 8, 3) := by decide +kernel
theorem dX9_leastFrom_119 : decode cX9_leastFrom 119 = .ok (.iload 6, 2) := by decide +kernel
theorem dX9_leastFrom_121 : decode cX9_leastFrom 121 = .ok (.goto 4, 3) := by decide +kernel
theorem dX9_leastFrom_124 : decode cX9_leastFrom 124 = .ok (.iload_n 3, 1) := by decide +kernel
theorem dX9_leastFrom_125 : decode cX9_leastFrom 125 = .ok (.istore_n 3, 1) := by decide +kernel
theorem dX9_leastFrom_126 : decode cX9_leastFrom 126 = .ok (.iinc 4 (-1), 3) := by decide +kernel
theorem dX9_leastFrom_129 : decode cX9_leastFrom 129 = .ok (.goto (-122), 3) := by decide +kernel
theorem dX9_leastFrom_132 : decode cX9_leastFrom 132 = .ok (.iload_n 3, 1) := by decide +kernel
theorem dX9_leastFrom_133 : decode cX9_leastFrom 133 = .ok (.ireturn, 1) := by decide +kernel
theorem dX9_fewest_0 : decode cX9_fewest 0 = .ok (.aload_n 0, 1) := by decide +kernel
theorem dX9_fewest_1 : decode cX9_fewest 1 = .ok (.invokevirtual 149, 3) := by decide +kernel
theorem dX9_fewest_4 : decode cX9_fewest 4 = .ok (.aload_n 0, 1) := by decide +kernel
theorem dX9_fewest_5 : decode cX9_fewest 5 = .ok (.iconst 0, 1) := by decide +kernel
theorem dX9_fewest_6 : decode cX9_fewest 6 = .ok (.putfield 153, 3) := by decide +kernel
theorem dX9_fewest_9 : decode cX9_fewest 9 = .ok (.iconst 0, 1) := by decide +kernel
theorem dX9_fewest_10 : decode cX9_fewest 10 = .ok (.istore_n 1, 1) := by decide +kernel
theorem dX9_fewest_11 : decode cX9_fewest 11 = .ok (.iload_n 1, 1) := by decide +kernel
theorem dX9_fewest_12 : decode cX9_fewest 12 = .ok (.bipush 100, 2) := by decide +kernel
theorem dX9_fewest_14 : decode cX9_fewest 14 = .ok (.if_icmp .ge 24, 3) := by decide +kernel
theorem dX9_fewest_17 : decode cX9_fewest 17 = .ok (.aload_n 0, 1) := by decide +kernel
theorem dX9_fewest_18 : decode cX9_fewest 18 = .ok (.getfield 57, 3) := by decide +kernel
theorem dX9_fewest_21 : decode cX9_fewest 21 = .ok (.bipush 100, 2) := by decide +kernel
theorem dX9_fewest_23 : decode cX9_fewest 23 = .ok (.aload_n 0, 1) := by decide +kernel
theorem dX9_fewest_24 : decode cX9_fewest 24 = .ok (.getfield 66, 3) := by decide +kernel
theorem dX9_fewest_27 : decode cX9_fewest 27 = .ok (.imul, 1) := by decide +kernel
theorem dX9_fewest_28 : decode cX9_fewest 28 = .ok (.iload_n 1, 1) := by decide +kernel
theorem dX9_fewest_29 : decode cX9_fewest 29 = .ok (.iadd, 1) := by decide +kernel
theorem dX9_fewest_30 : decode cX9_fewest 30 = .ok (.iconst 0, 1) := by decide +kernel
theorem dX9_fewest_31 : decode cX9_fewest 31 = .ok (.iastore, 1) := by decide +kernel
theorem dX9_fewest_32 : decode cX9_fewest 32 = .ok (.iinc 1 1, 3) := by decide +kernel
theorem dX9_fewest_35 : decode cX9_fewest 35 = .ok (.goto (-24), 3) := by decide +kernel
theorem dX9_fewest_38 : decode cX9_fewest 38 = .ok (.aload_n 0, 1) := by decide +kernel
theorem dX9_fewest_39 : decode cX9_fewest 39 = .ok (.getfield 66, 3) := by decide +kernel
theorem dX9_fewest_42 : decode cX9_fewest 42 = .ok (.iconst 1, 1) := by decide +kernel
theorem dX9_fewest_43 : decode cX9_fewest 43 = .ok (.isub, 1) := by decide +kernel
theorem dX9_fewest_44 : decode cX9_fewest 44 = .ok (.istore_n 1, 1) := by decide +kernel
theorem dX9_fewest_45 : decode cX9_fewest 45 = .ok (.iload_n 1, 1) := by decide +kernel
theorem dX9_fewest_46 : decode cX9_fewest 46 = .ok (.aload_n 0, 1) := by decide +kernel
theorem dX9_fewest_47 : decode cX9_fewest 47 = .ok (.getfield 7, 3) := by decide +kernel
theorem dX9_fewest_50 : decode cX9_fewest 50 = .ok (.iconst 0, 1) := by decide +kernel
theorem dX9_fewest_51 : decode cX9_fewest 51 = .ok (.iaload, 1) := by decide +kernel
theorem dX9_fewest_52 : decode cX9_fewest 52 = .ok (.if_icmp .le 40, 3) := by decide +kernel
theorem dX9_fewest_55 : decode cX9_fewest 55 = .ok (.iconst 0, 1) := by decide +kernel
theorem dX9_fewest_56 : decode cX9_fewest 56 = .ok (.istore_n 2, 1) := by decide +kernel
theorem dX9_fewest_57 : decode cX9_fewest 57 = .ok (.iload_n 2, 1) := by decide +kernel
theorem dX9_fewest_58 : decode cX9_fewest 58 = .ok (.bipush 100, 2) := by decide +kernel
theorem dX9_fewest_60 : decode cX9_fewest 60 = .ok (.if_icmp .ge 26, 3) := by decide +kernel
theorem dX9_fewest_63 : decode cX9_fewest 63 = .ok (.aload_n 0, 1) := by decide +kernel
theorem dX9_fewest_64 : decode cX9_fewest 64 = .ok (.getfield 57, 3) := by decide +kernel
theorem dX9_fewest_67 : decode cX9_fewest 67 = .ok (.bipush 100, 2) := by decide +kernel
theorem dX9_fewest_69 : decode cX9_fewest 69 = .ok (.iload_n 1, 1) := by decide +kernel
theorem dX9_fewest_70 : decode cX9_fewest 70 = .ok (.imul, 1) := by decide +kernel
theorem dX9_fewest_71 : decode cX9_fewest 71 = .ok (.iload_n 2, 1) := by decide +kernel
theorem dX9_fewest_72 : decode cX9_fewest 72 = .ok (.iadd, 1) := by decide +kernel
theorem dX9_fewest_73 : decode cX9_fewest 73 = .ok (.aload_n 0, 1) := by decide +kernel
theorem dX9_fewest_74 : decode cX9_fewest 74 = .ok (.iload_n 1, 1) := by decide +kernel
theorem dX9_fewest_75 : decode cX9_fewest 75 = .ok (.iload_n 2, 1) := by decide +kernel
theorem dX9_fewest_76 : decode cX9_fewest 76 = .ok (.invokevirtual 156, 3) := by decide +kernel
theorem dX9_fewest_79 : decode cX9_fewest 79 = .ok (.iastore, 1) := by decide +kernel
theorem dX9_fewest_80 : decode cX9_fewest 80 = .ok (.iinc 2 1, 3) := by decide +kernel
theorem dX9_fewest_83 : decode cX9_fewest 83 = .ok (.goto (-26), 3) := by decide +kernel
theorem dX9_fewest_86 : decode cX9_fewest 86 = .ok (.iinc 1 (-1), 3) := by decide +kernel
theorem dX9_fewest_89 : decode cX9_fewest 89 = .ok (.goto (-44), 3) := by decide +kernel
theorem dX9_fewest_92 : decode cX9_fewest 92 = .ok (.aload_n 0, 1) := by decide +kernel
theorem dX9_fewest_93 : decode cX9_fewest 93 = .ok (.getfield 7, 3) := by decide +kernel
theorem dX9_fewest_96 : decode cX9_fewest 96 = .ok (.iconst 0, 1) := by decide +kernel
theorem dX9_fewest_97 : decode cX9_fewest 97 = .ok (.iaload, 1) := by decide +kernel
theorem dX9_fewest_98 : decode cX9_fewest 98 = .ok (.aload_n 0, 1) := by decide +kernel
theorem dX9_fewest_99 : decode cX9_fewest 99 = .ok (.getfield 66, 3) := by decide +kernel
theorem dX9_fewest_102 : decode cX9_fewest 102 = .ok (.if_icmp .ne 7, 3) := by decide +kernel
theorem dX9_fewest_105 : decode cX9_fewest 105 = .ok (.iconst 0, 1) := by decide +kernel
theorem dX9_fewest_106 : decode cX9_fewest 106 = .ok (.goto 19, 3) := by decide +kernel
theorem dX9_fewest_109 : decode cX9_fewest 109 = .ok (.aload_n 0, 1) := by decide +kernel
theorem dX9_fewest_110 : decode cX9_fewest 110 = .ok (.aload_n 0, 1) := by decide +kernel
theorem dX9_fewest_111 : decode cX9_fewest 111 = .ok (.getfield 7, 3) := by decide +kernel
theorem dX9_fewest_114 : decode cX9_fewest 114 = .ok (.iconst 0, 1) := by decide +kernel
theorem dX9_fewest_115 : decode cX9_fewest 115 = .ok (.iaload, 1) := by decide +kernel
theorem dX9_fewest_116 : decode cX9_fewest 116 = .ok (.aload_n 0, 1) := by decide +kernel
theorem dX9_fewest_117 : decode cX9_fewest 117 = .ok (.getfield 7, 3) := by decide +kernel
theorem dX9_fewest_120 : decode cX9_fewest 120 = .ok (.iconst 1, 1) := by decide +kernel
theorem dX9_fewest_121 : decode cX9_fewest 121 = .ok (.iaload, 1) := by decide +kernel
theorem dX9_fewest_122 : decode cX9_fewest 122 = .ok (.invokevirtual 156, 3) := by decide +kernel
theorem dX9_fewest_125 : decode cX9_fewest 125 = .ok (.ireturn, 1) := by decide +kernel
theorem dX9_leastOf_0 : decode cX9_leastOf 0 = .ok (.aload_n 0, 1) := by decide +kernel
theorem dX9_leastOf_1 : decode cX9_leastOf 1 = .ok (.invokevirtual 160, 3) := by decide +kernel
theorem dX9_leastOf_4 : decode cX9_leastOf 4 = .ok (.istore_n 2, 1) := by decide +kernel
theorem dX9_leastOf_5 : decode cX9_leastOf 5 = .ok (.iload_n 1, 1) := by decide +kernel
theorem dX9_leastOf_6 : decode cX9_leastOf 6 = .ok (.bipush 6, 2) := by decide +kernel
theorem dX9_leastOf_8 : decode cX9_leastOf 8 = .ok (.if_icmp .ne 7, 3) := by decide +kernel
theorem dX9_leastOf_11 : decode cX9_leastOf 11 = .ok (.iload_n 2, 1) := by decide +kernel
theorem dX9_leastOf_12 : decode cX9_leastOf 12 = .ok (.goto 24, 3) := by decide +kernel
theorem dX9_leastOf_15 : decode cX9_leastOf 15 = .ok (.aload_n 0, 1) := by decide +kernel
theorem dX9_leastOf_16 : decode cX9_leastOf 16 = .ok (.getfield 7, 3) := by decide +kernel
theorem dX9_leastOf_19 : decode cX9_leastOf 19 = .ok (.iconst 0, 1) := by decide +kernel
theorem dX9_leastOf_20 : decode cX9_leastOf 20 = .ok (.iaload, 1) := by decide +kernel
theorem dX9_leastOf_21 : decode cX9_leastOf 21 = .ok (.aload_n 0, 1) := by decide +kernel
theorem dX9_leastOf_22 : decode cX9_leastOf 22 = .ok (.getfield 66, 3) := by decide +kernel
theorem dX9_leastOf_25 : decode cX9_leastOf 25 = .ok (.if_icmp .ne 7, 3) := by decide +kernel
theorem dX9_leastOf_28 : decode cX9_leastOf 28 = .ok (.iconst 0, 1) := by decide +kernel
theorem dX9_leastOf_29 : decode cX9_leastOf 29 = .ok (.goto 7, 3) := by decide +kernel
theorem dX9_leastOf_32 : decode cX9_leastOf 32 = .ok (.aload_n 0, 1) := by decide +kernel
theorem dX9_leastOf_33 : decode cX9_leastOf 33 = .ok (.getfield 153, 3) := by decide +kernel
theorem dX9_leastOf_36 : decode cX9_leastOf 36 = .ok (.ireturn, 1) := by decide +kernel
theorem dX9_tellRun_0 : decode cX9_tellRun 0 = .ok (.aload_n 0, 1) := by decide +kernel
theorem dX9_tellRun_1 : decode cX9_tellRun 1 = .ok (.invokevirtual 163, 3) := by decide +kernel
theorem dX9_tellRun_4 : decode cX9_tellRun 4 = .ok (.aload_n 0, 1) := by decide +kernel
theorem dX9_tellRun_5 : decode cX9_tellRun 5 = .ok (.invokevirtual 166, 3) := by decide +kernel
theorem dX9_tellRun_8 : decode cX9_tellRun 8 = .ok (.istore_n 2, 1) := by decide +kernel
theorem dX9_tellRun_9 : decode cX9_tellRun 9 = .ok (.iload_n 1, 1) := by decide +kernel
theorem dX9_tellRun_10 : decode cX9_tellRun 10 = .ok (.iconst 3, 1) := by decide +kernel
theorem dX9_tellRun_11 : decode cX9_tellRun 11 = .ok (.if_icmp .ne 14, 3) := by decide +kernel
theorem dX9_tellRun_14 : decode cX9_tellRun 14 = .ok (.aload_n 0, 1) := by decide +kernel
theorem dX9_tellRun_15 : decode cX9_tellRun 15 = .ok (.getfield 7, 3) := by decide +kernel
theorem dX9_tellRun_18 : decode cX9_tellRun 18 = .ok (.sipush 156, 3) := by decide +kernel
theorem dX9_tellRun_21 : decode cX9_tellRun 21 = .ok (.iaload, 1) := by decide +kernel
theorem dX9_tellRun_22 : decode cX9_tellRun 22 = .ok (.goto 16, 3) := by decide +kernel
theorem dX9_tellRun_25 : decode cX9_tellRun 25 = .ok (.iload_n 1, 1) := by decide +kernel
theorem dX9_tellRun_26 : decode cX9_tellRun 26 = .ok (.iconst 4, 1) := by decide +kernel
theorem dX9_tellRun_27 : decode cX9_tellRun 27 = .ok (.if_icmp .ne 7, 3) := by decide +kernel
theorem dX9_tellRun_30 : decode cX9_tellRun 30 = .ok (.iload_n 2, 1) := by decide +kernel
theorem dX9_tellRun_31 : decode cX9_tellRun 31 = .ok (.goto 7, 3) := by decide +kernel
theorem dX9_tellRun_34 : decode cX9_tellRun 34 = .ok (.aload_n 0, 1) := by decide +kernel
theorem dX9_tellRun_35 : decode cX9_tellRun 35 = .ok (.getfield 131, 3) := by decide +kernel
theorem dX9_tellRun_38 : decode cX9_tellRun 38 = .ok (.ireturn, 1) := by decide +kernel
theorem dX9_now_0 : decode cX9_now 0 = .ok (.iload_n 1, 1) := by decide +kernel
theorem dX9_now_1 : decode cX9_now 1 = .ok (.tableswitch 75 0 8 #[51, 51, 51, 58, 58, 58, 64, 64, 70], 51) := by decide +kernel
theorem dX9_now_52 : decode cX9_now 52 = .ok (.aload_n 0, 1) := by decide +kernel
theorem dX9_now_53 : decode cX9_now 53 = .ok (.getfield 7, 3) := by decide +kernel
theorem dX9_now_56 : decode cX9_now 56 = .ok (.iload_n 1, 1) := by decide +kernel
theorem dX9_now_57 : decode cX9_now 57 = .ok (.iaload, 1) := by decide +kernel
theorem dX9_now_58 : decode cX9_now 58 = .ok (.ireturn, 1) := by decide +kernel
theorem dX9_now_59 : decode cX9_now 59 = .ok (.aload_n 0, 1) := by decide +kernel
theorem dX9_now_60 : decode cX9_now 60 = .ok (.iload_n 1, 1) := by decide +kernel
theorem dX9_now_61 : decode cX9_now 61 = .ok (.invokevirtual 169, 3) := by decide +kernel
theorem dX9_now_64 : decode cX9_now 64 = .ok (.ireturn, 1) := by decide +kernel
theorem dX9_now_65 : decode cX9_now 65 = .ok (.aload_n 0, 1) := by decide +kernel
theorem dX9_now_66 : decode cX9_now 66 = .ok (.iload_n 1, 1) := by decide +kernel
theorem dX9_now_67 : decode cX9_now 67 = .ok (.invokevirtual 172, 3) := by decide +kernel
theorem dX9_now_70 : decode cX9_now 70 = .ok (.ireturn, 1) := by decide +kernel
theorem dX9_now_71 : decode cX9_now 71 = .ok (.aload_n 0, 1) := by decide +kernel
theorem dX9_now_72 : decode cX9_now 72 = .ok (.getfield 116, 3) := by decide +kernel
theorem dX9_now_75 : decode cX9_now 75 = .ok (.ireturn, 1) := by decide +kernel
theorem dX9_now_76 : decode cX9_now 76 = .ok (.iconst (-1), 1) := by decide +kernel
theorem dX9_now_77 : decode cX9_now 77 = .ok (.ireturn, 1) := by decide +kernel
theorem dX9_keepPast_0 : decode cX9_keepPast 0 = .ok (.aload_n 0, 1) := by decide +kernel
theorem dX9_keepPast_1 : decode cX9_keepPast 1 = .ok (.getfield 116, 3) := by decide +kernel
theorem dX9_keepPast_4 : decode cX9_keepPast 4 = .ok (.bipush 10, 2) := by decide +kernel
theorem dX9_keepPast_6 : decode cX9_keepPast 6 = .ok (.if_icmp .ne 45, 3) := by decide +kernel
theorem dX9_keepPast_9 : decode cX9_keepPast 9 = .ok (.iconst 0, 1) := by decide +kernel
theorem dX9_keepPast_10 : decode cX9_keepPast 10 = .ok (.istore_n 1, 1) := by decide +kernel
theorem dX9_keepPast_11 : decode cX9_keepPast 11 = .ok (.iload_n 1, 1) := by decide +kernel
theorem dX9_keepPast_12 : decode cX9_keepPast 12 = .ok (.bipush 108, 2) := by decide +kernel
theorem dX9_keepPast_14 : decode cX9_keepPast 14 = .ok (.if_icmp .ge 27, 3) := by decide +kernel
theorem dX9_keepPast_17 : decode cX9_keepPast 17 = .ok (.aload_n 0, 1) := by decide +kernel
theorem dX9_keepPast_18 : decode cX9_keepPast 18 = .ok (.getfield 7, 3) := by decide +kernel
theorem dX9_keepPast_21 : decode cX9_keepPast 21 = .ok (.bipush 12, 2) := by decide +kernel
theorem dX9_keepPast_23 : decode cX9_keepPast 23 = .ok (.iload_n 1, 1) := by decide +kernel
theorem dX9_keepPast_24 : decode cX9_keepPast 24 = .ok (.iadd, 1) := by decide +kernel
theorem dX9_keepPast_25 : decode cX9_keepPast 25 = .ok (.aload_n 0, 1) := by decide +kernel
theorem dX9_keepPast_26 : decode cX9_keepPast 26 = .ok (.getfield 7, 3) := by decide +kernel
theorem dX9_keepPast_29 : decode cX9_keepPast 29 = .ok (.bipush 24, 2) := by decide +kernel
theorem dX9_keepPast_31 : decode cX9_keepPast 31 = .ok (.iload_n 1, 1) := by decide +kernel
theorem dX9_keepPast_32 : decode cX9_keepPast 32 = .ok (.iadd, 1) := by decide +kernel
theorem dX9_keepPast_33 : decode cX9_keepPast 33 = .ok (.iaload, 1) := by decide +kernel
theorem dX9_keepPast_34 : decode cX9_keepPast 34 = .ok (.iastore, 1) := by decide +kernel
theorem dX9_keepPast_35 : decode cX9_keepPast 35 = .ok (.iinc 1 1, 3) := by decide +kernel
theorem dX9_keepPast_38 : decode cX9_keepPast 38 = .ok (.goto (-27), 3) := by decide +kernel
theorem dX9_keepPast_41 : decode cX9_keepPast 41 = .ok (.aload_n 0, 1) := by decide +kernel
theorem dX9_keepPast_42 : decode cX9_keepPast 42 = .ok (.dup, 1) := by decide +kernel
theorem dX9_keepPast_43 : decode cX9_keepPast 43 = .ok (.getfield 116, 3) := by decide +kernel
theorem dX9_keepPast_46 : decode cX9_keepPast 46 = .ok (.iconst 1, 1) := by decide +kernel
theorem dX9_keepPast_47 : decode cX9_keepPast 47 = .ok (.isub, 1) := by decide +kernel
theorem dX9_keepPast_48 : decode cX9_keepPast 48 = .ok (.putfield 116, 3) := by decide +kernel
theorem dX9_keepPast_51 : decode cX9_keepPast 51 = .ok (.aload_n 0, 1) := by decide +kernel
theorem dX9_keepPast_52 : decode cX9_keepPast 52 = .ok (.iconst 0, 1) := by decide +kernel
theorem dX9_keepPast_53 : decode cX9_keepPast 53 = .ok (.bipush 12, 2) := by decide +kernel
theorem dX9_keepPast_55 : decode cX9_keepPast 55 = .ok (.bipush 12, 2) := by decide +kernel
theorem dX9_keepPast_57 : decode cX9_keepPast 57 = .ok (.aload_n 0, 1) := by decide +kernel
theorem dX9_keepPast_58 : decode cX9_keepPast 58 = .ok (.getfield 116, 3) := by decide +kernel
theorem dX9_keepPast_61 : decode cX9_keepPast 61 = .ok (.imul, 1) := by decide +kernel
theorem dX9_keepPast_62 : decode cX9_keepPast 62 = .ok (.iadd, 1) := by decide +kernel
theorem dX9_keepPast_63 : decode cX9_keepPast 63 = .ok (.invokevirtual 145, 3) := by decide +kernel
theorem dX9_keepPast_66 : decode cX9_keepPast 66 = .ok (.aload_n 0, 1) := by decide +kernel
theorem dX9_keepPast_67 : decode cX9_keepPast 67 = .ok (.dup, 1) := by decide +kernel
theorem dX9_keepPast_68 : decode cX9_keepPast 68 = .ok (.getfield 116, 3) := by decide +kernel
theorem dX9_keepPast_71 : decode cX9_keepPast 71 = .ok (.iconst 1, 1) := by decide +kernel
theorem dX9_keepPast_72 : decode cX9_keepPast 72 = .ok (.iadd, 1) := by decide +kernel
theorem dX9_keepPast_73 : decode cX9_keepPast 73 = .ok (.putfield 116, 3) := by decide +kernel
theorem dX9_keepPast_76 : decode cX9_keepPast 76 = .ok (.return_, 1) := by decide +kernel
theorem dX9_flips_0 : decode cX9_flips 0 = .ok (.aload_n 0, 1) := by decide +kernel
theorem dX9_flips_1 : decode cX9_flips 1 = .ok (.getfield 7, 3) := by decide +kernel
theorem dX9_flips_4 : decode cX9_flips 4 = .ok (.iconst 0, 1) := by decide +kernel
theorem dX9_flips_5 : decode cX9_flips 5 = .ok (.iaload, 1) := by decide +kernel
theorem dX9_flips_6 : decode cX9_flips 6 = .ok (.aload_n 0, 1) := by decide +kernel
theorem dX9_flips_7 : decode cX9_flips 7 = .ok (.getfield 66, 3) := by decide +kernel
theorem dX9_flips_10 : decode cX9_flips 10 = .ok (.if_icmp .eq 24, 3) := by decide +kernel
theorem dX9_flips_13 : decode cX9_flips 13 = .ok (.aload_n 0, 1) := by decide +kernel
theorem dX9_flips_14 : decode cX9_flips 14 = .ok (.getfield 7, 3) := by decide +kernel
theorem dX9_flips_17 : decode cX9_flips 17 = .ok (.iconst 1, 1) := by decide +kernel
theorem dX9_flips_18 : decode cX9_flips 18 = .ok (.iaload, 1) := by decide +kernel
theorem dX9_flips_19 : decode cX9_flips 19 = .ok (.ifCond .eq 15, 3) := by decide +kernel
theorem dX9_flips_22 : decode cX9_flips 22 = .ok (.aload_n 0, 1) := by decide +kernel
theorem dX9_flips_23 : decode cX9_flips 23 = .ok (.getfield 7, 3) := by decide +kernel
theorem dX9_flips_26 : decode cX9_flips 26 = .ok (.iconst 2, 1) := by decide +kernel
theorem dX9_flips_27 : decode cX9_flips 27 = .ok (.iaload, 1) := by decide +kernel
theorem dX9_flips_28 : decode cX9_flips 28 = .ok (.sipush 999, 3) := by decide +kernel
theorem dX9_flips_31 : decode cX9_flips 31 = .ok (.if_icmp .ne 6, 3) := by decide +kernel
theorem dX9_flips_34 : decode cX9_flips 34 = .ok (.bipush (-2), 2) := by decide +kernel
theorem dX9_flips_36 : decode cX9_flips 36 = .ok (.ireturn, 1) := by decide +kernel
theorem dX9_flips_37 : decode cX9_flips 37 = .ok (.aload_n 0, 1) := by decide +kernel
theorem dX9_flips_38 : decode cX9_flips 38 = .ok (.invokevirtual 175, 3) := by decide +kernel
theorem dX9_flips_41 : decode cX9_flips 41 = .ok (.aload_n 0, 1) := by decide +kernel
theorem dX9_flips_42 : decode cX9_flips 42 = .ok (.invokevirtual 149, 3) := by decide +kernel
theorem dX9_flips_45 : decode cX9_flips 45 = .ok (.aload_n 0, 1) := by decide +kernel
theorem dX9_flips_46 : decode cX9_flips 46 = .ok (.iconst 0, 1) := by decide +kernel
theorem dX9_flips_47 : decode cX9_flips 47 = .ok (.invokevirtual 142, 3) := by decide +kernel
theorem dX9_flips_50 : decode cX9_flips 50 = .ok (.aload_n 0, 1) := by decide +kernel
theorem dX9_flips_51 : decode cX9_flips 51 = .ok (.getfield 7, 3) := by decide +kernel
theorem dX9_flips_54 : decode cX9_flips 54 = .ok (.iconst 0, 1) := by decide +kernel
theorem dX9_flips_55 : decode cX9_flips 55 = .ok (.iaload, 1) := by decide +kernel
theorem dX9_flips_56 : decode cX9_flips 56 = .ok (.ireturn, 1) := by decide +kernel
theorem dX9_pushes_0 : decode cX9_pushes 0 = .ok (.iload_n 1, 1) := by decide +kernel
theorem dX9_pushes_1 : decode cX9_pushes 1 = .ok (.iconst 1, 1) := by decide +kernel
theorem dX9_pushes_2 : decode cX9_pushes 2 = .ok (.bipush 20, 2) := by decide +kernel
theorem dX9_pushes_4 : decode cX9_pushes 4 = .ok (.invokestatic 69, 3) := by decide +kernel
theorem dX9_pushes_7 : decode cX9_pushes 7 = .ok (.ifCond .ne 5, 3) := by decide +kernel
theorem dX9_pushes_10 : decode cX9_pushes 10 = .ok (.iconst (-1), 1) := by decide +kernel
theorem dX9_pushes_11 : decode cX9_pushes 11 = .ok (.ireturn, 1) := by decide +kernel
theorem dX9_pushes_12 : decode cX9_pushes 12 = .ok (.aload_n 0, 1) := by decide +kernel
theorem dX9_pushes_13 : decode cX9_pushes 13 = .ok (.getfield 7, 3) := by decide +kernel
theorem dX9_pushes_16 : decode cX9_pushes 16 = .ok (.iconst 0, 1) := by decide +kernel
theorem dX9_pushes_17 : decode cX9_pushes 17 = .ok (.iaload, 1) := by decide +kernel
theorem dX9_pushes_18 : decode cX9_pushes 18 = .ok (.aload_n 0, 1) := by decide +kernel
theorem dX9_pushes_19 : decode cX9_pushes 19 = .ok (.getfield 66, 3) := by decide +kernel
theorem dX9_pushes_22 : decode cX9_pushes 22 = .ok (.if_icmp .ne 6, 3) := by decide +kernel
theorem dX9_pushes_25 : decode cX9_pushes 25 = .ok (.bipush (-2), 2) := by decide +kernel
theorem dX9_pushes_27 : decode cX9_pushes 27 = .ok (.ireturn, 1) := by decide +kernel
theorem dX9_pushes_28 : decode cX9_pushes 28 = .ok (.aload_n 0, 1) := by decide +kernel
theorem dX9_pushes_29 : decode cX9_pushes 29 = .ok (.invokevirtual 175, 3) := by decide +kernel
theorem dX9_pushes_32 : decode cX9_pushes 32 = .ok (.aload_n 0, 1) := by decide +kernel
theorem dX9_pushes_33 : decode cX9_pushes 33 = .ok (.getfield 7, 3) := by decide +kernel
theorem dX9_pushes_36 : decode cX9_pushes 36 = .ok (.iconst 1, 1) := by decide +kernel
theorem dX9_pushes_37 : decode cX9_pushes 37 = .ok (.aload_n 0, 1) := by decide +kernel
theorem dX9_pushes_38 : decode cX9_pushes 38 = .ok (.getfield 7, 3) := by decide +kernel
theorem dX9_pushes_41 : decode cX9_pushes 41 = .ok (.iconst 1, 1) := by decide +kernel
theorem dX9_pushes_42 : decode cX9_pushes 42 = .ok (.iaload, 1) := by decide +kernel
theorem dX9_pushes_43 : decode cX9_pushes 43 = .ok (.iload_n 1, 1) := by decide +kernel
theorem dX9_pushes_44 : decode cX9_pushes 44 = .ok (.iadd, 1) := by decide +kernel
theorem dX9_pushes_45 : decode cX9_pushes 45 = .ok (.invokestatic 134, 3) := by decide +kernel
theorem dX9_pushes_48 : decode cX9_pushes 48 = .ok (.iastore, 1) := by decide +kernel
theorem dX9_pushes_49 : decode cX9_pushes 49 = .ok (.aload_n 0, 1) := by decide +kernel
theorem dX9_pushes_50 : decode cX9_pushes 50 = .ok (.getfield 7, 3) := by decide +kernel
theorem dX9_pushes_53 : decode cX9_pushes 53 = .ok (.iconst 1, 1) := by decide +kernel
theorem dX9_pushes_54 : decode cX9_pushes 54 = .ok (.iaload, 1) := by decide +kernel
theorem dX9_pushes_55 : decode cX9_pushes 55 = .ok (.ireturn, 1) := by decide +kernel
theorem dX9_lifts_0 : decode cX9_lifts 0 = .ok (.aload_n 0, 1) := by decide +kernel
theorem dX9_lifts_1 : decode cX9_lifts 1 = .ok (.iload_n 1, 1) := by decide +kernel
theorem dX9_lifts_2 : decode cX9_lifts 2 = .ok (.invokevirtual 122, 3) := by decide +kernel
theorem dX9_lifts_5 : decode cX9_lifts 5 = .ok (.ifCond .ne 5, 3) := by decide +kernel
theorem dX9_lifts_8 : decode cX9_lifts 8 = .ok (.iconst (-1), 1) := by decide +kernel
theorem dX9_lifts_9 : decode cX9_lifts 9 = .ok (.ireturn, 1) := by decide +kernel
theorem dX9_lifts_10 : decode cX9_lifts 10 = .ok (.aload_n 0, 1) := by decide +kernel
theorem dX9_lifts_11 : decode cX9_lifts 11 = .ok (.getfield 7, 3) := by decide +kernel
theorem dX9_lifts_14 : decode cX9_lifts 14 = .ok (.iconst 0, 1) := by decide +kernel
theorem dX9_lifts_15 : decode cX9_lifts 15 = .ok (.iaload, 1) := by decide +kernel
theorem dX9_lifts_16 : decode cX9_lifts 16 = .ok (.istore_n 2, 1) := by decide +kernel
theorem dX9_lifts_17 : decode cX9_lifts 17 = .ok (.iload_n 2, 1) := by decide +kernel
theorem dX9_lifts_18 : decode cX9_lifts 18 = .ok (.iload_n 1, 1) := by decide +kernel
theorem dX9_lifts_19 : decode cX9_lifts 19 = .ok (.if_icmp .ne 6, 3) := by decide +kernel
theorem dX9_lifts_22 : decode cX9_lifts 22 = .ok (.bipush (-2), 2) := by decide +kernel
theorem dX9_lifts_24 : decode cX9_lifts 24 = .ok (.ireturn, 1) := by decide +kernel
theorem dX9_lifts_25 : decode cX9_lifts 25 = .ok (.aload_n 0, 1) := by decide +kernel
theorem dX9_lifts_26 : decode cX9_lifts 26 = .ok (.invokevirtual 175, 3) := by decide +kernel
theorem dX9_lifts_29 : decode cX9_lifts 29 = .ok (.aload_n 0, 1) := by decide +kernel
theorem dX9_lifts_30 : decode cX9_lifts 30 = .ok (.getfield 7, 3) := by decide +kernel
theorem dX9_lifts_33 : decode cX9_lifts 33 = .ok (.iconst 0, 1) := by decide +kernel
theorem dX9_lifts_34 : decode cX9_lifts 34 = .ok (.iload_n 1, 1) := by decide +kernel
theorem dX9_lifts_35 : decode cX9_lifts 35 = .ok (.iastore, 1) := by decide +kernel
theorem dX9_lifts_36 : decode cX9_lifts 36 = .ok (.aload_n 0, 1) := by decide +kernel
theorem dX9_lifts_37 : decode cX9_lifts 37 = .ok (.getfield 7, 3) := by decide +kernel
theorem dX9_lifts_40 : decode cX9_lifts 40 = .ok (.iconst 1, 1) := by decide +kernel
theorem dX9_lifts_41 : decode cX9_lifts 41 = .ok (.iconst 0, 1) := by decide +kernel
theorem dX9_lifts_42 : decode cX9_lifts 42 = .ok (.iastore, 1) := by decide +kernel
theorem dX9_lifts_43 : decode cX9_lifts 43 = .ok (.iload_n 2, 1) := by decide +kernel
theorem dX9_lifts_44 : decode cX9_lifts 44 = .ok (.ireturn, 1) := by decide +kernel
theorem dX9_lays_0 : decode cX9_lays 0 = .ok (.aload_n 0, 1) := by decide +kernel
theorem dX9_lays_1 : decode cX9_lays 1 = .ok (.iload_n 1, 1) := by decide +kernel
theorem dX9_lays_2 : decode cX9_lays 2 = .ok (.invokevirtual 122, 3) := by decide +kernel
theorem dX9_lays_5 : decode cX9_lays 5 = .ok (.ifCond .eq 12, 3) := by decide +kernel
theorem dX9_lays_8 : decode cX9_lays 8 = .ok (.iload_n 2, 1) := by decide +kernel
theorem dX9_lays_9 : decode cX9_lays 9 = .ok (.iconst 0, 1) := by decide +kernel
theorem dX9_lays_10 : decode cX9_lays 10 = .ok (.iconst 5, 1) := by decide +kernel
theorem dX9_lays_11 : decode cX9_lays 11 = .ok (.invokestatic 69, 3) := by decide +kernel
theorem dX9_lays_14 : decode cX9_lays 14 = .ok (.ifCond .ne 5, 3) := by decide +kernel
theorem dX9_lays_17 : decode cX9_lays 17 = .ok (.iconst (-1), 1) := by decide +kernel
theorem dX9_lays_18 : decode cX9_lays 18 = .ok (.ireturn, 1) := by decide +kernel
theorem dX9_lays_19 : decode cX9_lays 19 = .ok (.aload_n 0, 1) := by decide +kernel
theorem dX9_lays_20 : decode cX9_lays 20 = .ok (.getfield 7, 3) := by decide +kernel
theorem dX9_lays_23 : decode cX9_lays 23 = .ok (.iconst 3, 1) := by decide +kernel
theorem dX9_lays_24 : decode cX9_lays 24 = .ok (.iload_n 1, 1) := by decide +kernel
theorem dX9_lays_25 : decode cX9_lays 25 = .ok (.iadd, 1) := by decide +kernel
theorem dX9_lays_26 : decode cX9_lays 26 = .ok (.iaload, 1) := by decide +kernel
theorem dX9_lays_27 : decode cX9_lays 27 = .ok (.istore_n 3, 1) := by decide +kernel
theorem dX9_lays_28 : decode cX9_lays 28 = .ok (.iload_n 3, 1) := by decide +kernel
theorem dX9_lays_29 : decode cX9_lays 29 = .ok (.iload_n 2, 1) := by decide +kernel
theorem dX9_lays_30 : decode cX9_lays 30 = .ok (.if_icmp .ne 6, 3) := by decide +kernel
theorem dX9_lays_33 : decode cX9_lays 33 = .ok (.bipush (-2), 2) := by decide +kernel
theorem dX9_lays_35 : decode cX9_lays 35 = .ok (.ireturn, 1) := by decide +kernel
theorem dX9_lays_36 : decode cX9_lays 36 = .ok (.aload_n 0, 1) := by decide +kernel
theorem dX9_lays_37 : decode cX9_lays 37 = .ok (.invokevirtual 175, 3) := by decide +kernel
theorem dX9_lays_40 : decode cX9_lays 40 = .ok (.aload_n 0, 1) := by decide +kernel
theorem dX9_lays_41 : decode cX9_lays 41 = .ok (.getfield 7, 3) := by decide +kernel
theorem dX9_lays_44 : decode cX9_lays 44 = .ok (.iconst 3, 1) := by decide +kernel
theorem dX9_lays_45 : decode cX9_lays 45 = .ok (.iload_n 1, 1) := by decide +kernel
theorem dX9_lays_46 : decode cX9_lays 46 = .ok (.iadd, 1) := by decide +kernel
theorem dX9_lays_47 : decode cX9_lays 47 = .ok (.iload_n 2, 1) := by decide +kernel
theorem dX9_lays_48 : decode cX9_lays 48 = .ok (.iastore, 1) := by decide +kernel
theorem dX9_lays_49 : decode cX9_lays 49 = .ok (.iload_n 3, 1) := by decide +kernel
theorem dX9_lays_50 : decode cX9_lays 50 = .ok (.ireturn, 1) := by decide +kernel
theorem dX9_undo_0 : decode cX9_undo 0 = .ok (.aload_n 0, 1) := by decide +kernel
theorem dX9_undo_1 : decode cX9_undo 1 = .ok (.getfield 116, 3) := by decide +kernel
theorem dX9_undo_4 : decode cX9_undo 4 = .ok (.ifCond .ne 6, 3) := by decide +kernel
theorem dX9_undo_7 : decode cX9_undo 7 = .ok (.bipush (-2), 2) := by decide +kernel
theorem dX9_undo_9 : decode cX9_undo 9 = .ok (.ireturn, 1) := by decide +kernel
theorem dX9_undo_10 : decode cX9_undo 10 = .ok (.aload_n 0, 1) := by decide +kernel
theorem dX9_undo_11 : decode cX9_undo 11 = .ok (.dup, 1) := by decide +kernel
theorem dX9_undo_12 : decode cX9_undo 12 = .ok (.getfield 116, 3) := by decide +kernel
theorem dX9_undo_15 : decode cX9_undo 15 = .ok (.iconst 1, 1) := by decide +kernel
theorem dX9_undo_16 : decode cX9_undo 16 = .ok (.isub, 1) := by decide +kernel
theorem dX9_undo_17 : decode cX9_undo 17 = .ok (.putfield 116, 3) := by decide +kernel
theorem dX9_undo_20 : decode cX9_undo 20 = .ok (.aload_n 0, 1) := by decide +kernel
theorem dX9_undo_21 : decode cX9_undo 21 = .ok (.bipush 12, 2) := by decide +kernel
theorem dX9_undo_23 : decode cX9_undo 23 = .ok (.bipush 12, 2) := by decide +kernel
theorem dX9_undo_25 : decode cX9_undo 25 = .ok (.aload_n 0, 1) := by decide +kernel
theorem dX9_undo_26 : decode cX9_undo 26 = .ok (.getfield 116, 3) := by decide +kernel
theorem dX9_undo_29 : decode cX9_undo 29 = .ok (.imul, 1) := by decide +kernel
theorem dX9_undo_30 : decode cX9_undo 30 = .ok (.iadd, 1) := by decide +kernel
theorem dX9_undo_31 : decode cX9_undo 31 = .ok (.iconst 0, 1) := by decide +kernel
theorem dX9_undo_32 : decode cX9_undo 32 = .ok (.invokevirtual 145, 3) := by decide +kernel
theorem dX9_undo_35 : decode cX9_undo 35 = .ok (.aload_n 0, 1) := by decide +kernel
theorem dX9_undo_36 : decode cX9_undo 36 = .ok (.getfield 116, 3) := by decide +kernel
theorem dX9_undo_39 : decode cX9_undo 39 = .ok (.ireturn, 1) := by decide +kernel
theorem dX9_push_0 : decode cX9_push 0 = .ok (.iload_n 1, 1) := by decide +kernel
theorem dX9_push_1 : decode cX9_push 1 = .ok (.iconst 0, 1) := by decide +kernel
theorem dX9_push_2 : decode cX9_push 2 = .ok (.aload_n 0, 1) := by decide +kernel
theorem dX9_push_3 : decode cX9_push 3 = .ok (.getfield 66, 3) := by decide +kernel
theorem dX9_push_6 : decode cX9_push 6 = .ok (.invokestatic 69, 3) := by decide +kernel
theorem dX9_push_9 : decode cX9_push 9 = .ok (.ifCond .ne 5, 3) := by decide +kernel
theorem dX9_push_12 : decode cX9_push 12 = .ok (.iconst (-1), 1) := by decide +kernel
theorem dX9_push_13 : decode cX9_push 13 = .ok (.ireturn, 1) := by decide +kernel
theorem dX9_push_14 : decode cX9_push 14 = .ok (.iconst 0, 1) := by decide +kernel
theorem dX9_push_15 : decode cX9_push 15 = .ok (.istore_n 2, 1) := by decide +kernel
theorem dX9_push_16 : decode cX9_push 16 = .ok (.iload_n 2, 1) := by decide +kernel
theorem dX9_push_17 : decode cX9_push 17 = .ok (.bipush 61, 2) := by decide +kernel
theorem dX9_push_19 : decode cX9_push 19 = .ok (.if_icmp .ge 68, 3) := by decide +kernel
theorem dX9_push_22 : decode cX9_push 22 = .ok (.aload_n 0, 1) := by decide +kernel
theorem dX9_push_23 : decode cX9_push 23 = .ok (.invokevirtual 163, 3) := by decide +kernel
theorem dX9_push_26 : decode cX9_push 26 = .ok (.aload_n 0, 1) := by decide +kernel
theorem dX9_push_27 : decode cX9_push 27 = .ok (.getfield 7, 3) := by decide +kernel
theorem dX9_push_30 : decode cX9_push 30 = .ok (.sipush 157, 3) := by decide +kernel
theorem dX9_push_33 : decode cX9_push 33 = .ok (.aload_n 0, 1) := by decide +kernel
theorem dX9_push_34 : decode cX9_push 34 = .ok (.getfield 7, 3) := by decide +kernel
theorem dX9_push_37 : decode cX9_push 37 = .ok (.iconst 0, 1) := by decide +kernel
theorem dX9_push_38 : decode cX9_push 38 = .ok (.iaload, 1) := by decide +kernel
theorem dX9_push_39 : decode cX9_push 39 = .ok (.aload_n 0, 1) := by decide +kernel
theorem dX9_push_40 : decode cX9_push 40 = .ok (.getfield 66, 3) := by decide +kernel
theorem dX9_push_43 : decode cX9_push 43 = .ok (.if_icmp .ne 7, 3) := by decide +kernel
theorem dX9_push_46 : decode cX9_push 46 = .ok (.iconst 0, 1) := by decide +kernel
theorem dX9_push_47 : decode cX9_push 47 = .ok (.goto 14, 3) := by decide +kernel
theorem dX9_push_50 : decode cX9_push 50 = .ok (.aload_n 0, 1) := by decide +kernel
theorem dX9_push_51 : decode cX9_push 51 = .ok (.getfield 7, 3) := by decide +kernel
theorem dX9_push_54 : decode cX9_push 54 = .ok (.iconst 1, 1) := by decide +kernel
theorem dX9_push_55 : decode cX9_push 55 = .ok (.iaload, 1) := by decide +kernel
theorem dX9_push_56 : decode cX9_push 56 = .ok (.iload_n 2, 1) := by decide +kernel
theorem dX9_push_57 : decode cX9_push 57 = .ok (.iadd, 1) := by decide +kernel
theorem dX9_push_58 : decode cX9_push 58 = .ok (.invokestatic 134, 3) := by decide +kernel
theorem dX9_push_61 : decode cX9_push 61 = .ok (.iastore, 1) := by decide +kernel
theorem dX9_push_62 : decode cX9_push 62 = .ok (.aload_n 0, 1) := by decide +kernel
theorem dX9_push_63 : decode cX9_push 63 = .ok (.invokevirtual 166, 3) := by decide +kernel
theorem dX9_push_66 : decode cX9_push 66 = .ok (.pop, 1) := by decide +kernel
theorem dX9_push_67 : decode cX9_push 67 = .ok (.aload_n 0, 1) := by decide +kernel
theorem dX9_push_68 : decode cX9_push 68 = .ok (.getfield 7, 3) := by decide +kernel
theorem dX9_push_71 : decode cX9_push 71 = .ok (.sipush 156, 3) := by decide +kernel
theorem dX9_push_74 : decode cX9_push 74 = .ok (.iaload, 1) := by decide +kernel
theorem dX9_push_75 : decode cX9_push 75 = .ok (.iload_n 1, 1) := by decide +kernel
theorem dX9_push_76 : decode cX9_push 76 = .ok (.if_icmp .ne 5, 3) := by decide +kernel
theorem dX9_push_79 : decode cX9_push 79 = .ok (.iload_n 2, 1) := by decide +kernel
theorem dX9_push_80 : decode cX9_push 80 = .ok (.ireturn, 1) := by decide +kernel
theorem dX9_push_81 : decode cX9_push 81 = .ok (.iinc 2 1, 3) := by decide +kernel
theorem dX9_push_84 : decode cX9_push 84 = .ok (.goto (-68), 3) := by decide +kernel
theorem dX9_push_87 : decode cX9_push 87 = .ok (.bipush (-9), 2) := by decide +kernel
theorem dX9_push_89 : decode cX9_push 89 = .ok (.ireturn, 1) := by decide +kernel
theorem dX9_mat_0 : decode cX9_mat 0 = .ok (.iload_n 1, 1) := by decide +kernel
theorem dX9_mat_1 : decode cX9_mat 1 = .ok (.iconst 0, 1) := by decide +kernel
theorem dX9_mat_2 : decode cX9_mat 2 = .ok (.aload_n 0, 1) := by decide +kernel
theorem dX9_mat_3 : decode cX9_mat 3 = .ok (.getfield 66, 3) := by decide +kernel
theorem dX9_mat_6 : decode cX9_mat 6 = .ok (.invokestatic 69, 3) := by decide +kernel
theorem dX9_mat_9 : decode cX9_mat 9 = .ok (.ifCond .eq 12, 3) := by decide +kernel
theorem dX9_mat_12 : decode cX9_mat 12 = .ok (.iload_n 2, 1) := by decide +kernel
theorem dX9_mat_13 : decode cX9_mat 13 = .ok (.iconst 0, 1) := by decide +kernel
theorem dX9_mat_14 : decode cX9_mat 14 = .ok (.iconst 5, 1) := by decide +kernel
theorem dX9_mat_15 : decode cX9_mat 15 = .ok (.invokestatic 69, 3) := by decide +kernel
theorem dX9_mat_18 : decode cX9_mat 18 = .ok (.ifCond .ne 5, 3) := by decide +kernel
theorem dX9_mat_21 : decode cX9_mat 21 = .ok (.iconst (-1), 1) := by decide +kernel
theorem dX9_mat_22 : decode cX9_mat 22 = .ok (.ireturn, 1) := by decide +kernel
theorem dX9_mat_23 : decode cX9_mat 23 = .ok (.iconst 0, 1) := by decide +kernel
theorem dX9_mat_24 : decode cX9_mat 24 = .ok (.istore_n 3, 1) := by decide +kernel
theorem dX9_mat_25 : decode cX9_mat 25 = .ok (.iload_n 3, 1) := by decide +kernel
theorem dX9_mat_26 : decode cX9_mat 26 = .ok (.aload_n 0, 1) := by decide +kernel
theorem dX9_mat_27 : decode cX9_mat 27 = .ok (.getfield 66, 3) := by decide +kernel
theorem dX9_mat_30 : decode cX9_mat 30 = .ok (.if_icmp .ge 43, 3) := by decide +kernel
theorem dX9_mat_33 : decode cX9_mat 33 = .ok (.aload_n 0, 1) := by decide +kernel
theorem dX9_mat_34 : decode cX9_mat 34 = .ok (.invokevirtual 163, 3) := by decide +kernel
theorem dX9_mat_37 : decode cX9_mat 37 = .ok (.aload_n 0, 1) := by decide +kernel
theorem dX9_mat_38 : decode cX9_mat 38 = .ok (.getfield 7, 3) := by decide +kernel
theorem dX9_mat_41 : decode cX9_mat 41 = .ok (.sipush 159, 3) := by decide +kernel
theorem dX9_mat_44 : decode cX9_mat 44 = .ok (.iload_n 3, 1) := by decide +kernel
theorem dX9_mat_45 : decode cX9_mat 45 = .ok (.iadd, 1) := by decide +kernel
theorem dX9_mat_46 : decode cX9_mat 46 = .ok (.iload_n 2, 1) := by decide +kernel
theorem dX9_mat_47 : decode cX9_mat 47 = .ok (.iastore, 1) := by decide +kernel
theorem dX9_mat_48 : decode cX9_mat 48 = .ok (.aload_n 0, 1) := by decide +kernel
theorem dX9_mat_49 : decode cX9_mat 49 = .ok (.invokevirtual 166, 3) := by decide +kernel
theorem dX9_mat_52 : decode cX9_mat 52 = .ok (.pop, 1) := by decide +kernel
theorem dX9_mat_53 : decode cX9_mat 53 = .ok (.aload_n 0, 1) := by decide +kernel
theorem dX9_mat_54 : decode cX9_mat 54 = .ok (.getfield 7, 3) := by decide +kernel
theorem dX9_mat_57 : decode cX9_mat 57 = .ok (.sipush 156, 3) := by decide +kernel
theorem dX9_mat_60 : decode cX9_mat 60 = .ok (.iaload, 1) := by decide +kernel
theorem dX9_mat_61 : decode cX9_mat 61 = .ok (.iload_n 1, 1) := by decide +kernel
theorem dX9_mat_62 : decode cX9_mat 62 = .ok (.if_icmp .ne 5, 3) := by decide +kernel
theorem dX9_mat_65 : decode cX9_mat 65 = .ok (.iload_n 3, 1) := by decide +kernel
theorem dX9_mat_66 : decode cX9_mat 66 = .ok (.ireturn, 1) := by decide +kernel
theorem dX9_mat_67 : decode cX9_mat 67 = .ok (.iinc 3 1, 3) := by decide +kernel
theorem dX9_mat_70 : decode cX9_mat 70 = .ok (.goto (-45), 3) := by decide +kernel
theorem dX9_mat_73 : decode cX9_mat 73 = .ok (.bipush (-9), 2) := by decide +kernel
theorem dX9_mat_75 : decode cX9_mat 75 = .ok (.ireturn, 1) := by decide +kernel
theorem dX9_odds_0 : decode cX9_odds 0 = .ok (.iload_n 1, 1) := by decide +kernel
theorem dX9_odds_1 : decode cX9_odds 1 = .ok (.iconst 0, 1) := by decide +kernel
theorem dX9_odds_2 : decode cX9_odds 2 = .ok (.bipush 10, 2) := by decide +kernel
theorem dX9_odds_4 : decode cX9_odds 4 = .ok (.invokestatic 69, 3) := by decide +kernel
theorem dX9_odds_7 : decode cX9_odds 7 = .ok (.ifCond .eq 12, 3) := by decide +kernel
theorem dX9_odds_10 : decode cX9_odds 10 = .ok (.iload_n 2, 1) := by decide +kernel
theorem dX9_odds_11 : decode cX9_odds 11 = .ok (.iconst 0, 1) := by decide +kernel
theorem dX9_odds_12 : decode cX9_odds 12 = .ok (.iconst 1, 1) := by decide +kernel
theorem dX9_odds_13 : decode cX9_odds 13 = .ok (.invokestatic 69, 3) := by decide +kernel
theorem dX9_odds_16 : decode cX9_odds 16 = .ok (.ifCond .ne 5, 3) := by decide +kernel
theorem dX9_odds_19 : decode cX9_odds 19 = .ok (.iconst (-1), 1) := by decide +kernel
theorem dX9_odds_20 : decode cX9_odds 20 = .ok (.ireturn, 1) := by decide +kernel
theorem dX9_odds_21 : decode cX9_odds 21 = .ok (.lconst 0, 1) := by decide +kernel
theorem dX9_odds_22 : decode cX9_odds 22 = .ok (.lstore_n 3, 1) := by decide +kernel
theorem dX9_odds_23 : decode cX9_odds 23 = .ok (.lconst 0, 1) := by decide +kernel
theorem dX9_odds_24 : decode cX9_odds 24 = .ok (.lstore 5, 2) := by decide +kernel
theorem dX9_odds_26 : decode cX9_odds 26 = .ok (.iconst 0, 1) := by decide +kernel
theorem dX9_odds_27 : decode cX9_odds 27 = .ok (.istore 7, 2) := by decide +kernel
theorem dX9_odds_29 : decode cX9_odds 29 = .ok (.iload 7, 2) := by decide +kernel
theorem dX9_odds_31 : decode cX9_odds 31 = .ok (.iconst 1, 1) := by decide +kernel
theorem dX9_odds_32 : decode cX9_odds 32 = .ok (.aload_n 0, 1) := by decide +kernel
theorem dX9_odds_33 : decode cX9_odds 33 = .ok (.getfield 66, 3) := by decide +kernel
theorem dX9_odds_36 : decode cX9_odds 36 = .ok (.ishl, 1) := by decide +kernel
theorem dX9_odds_37 : decode cX9_odds 37 = .ok (.if_icmp .ge 169, 3) := by decide +kernel
theorem dX9_odds_40 : decode cX9_odds 40 = .ok (.lconst 1, 1) := by decide +kernel
theorem dX9_odds_41 : decode cX9_odds 41 = .ok (.lstore 8, 2) := by decide +kernel
theorem dX9_odds_43 : decode cX9_odds 43 = .ok (.aload_n 0, 1) := by decide +kernel
theorem dX9_odds_44 : decode cX9_odds 44 = .ok (.invokevirtual 163, 3) := by decide +kernel
theorem dX9_odds_47 : decode cX9_odds 47 = .ok (.iconst 0, 1) := by decide +kernel
theorem dX9_odds_48 : decode cX9_odds 48 = .ok (.istore 10, 2) := by decide +kernel
theorem dX9_odds_50 : decode cX9_odds 50 = .ok (.iload 10, 2) := by decide +kernel
theorem dX9_odds_52 : decode cX9_odds 52 = .ok (.aload_n 0, 1) := by decide +kernel
theorem dX9_odds_53 : decode cX9_odds 53 = .ok (.getfield 66, 3) := by decide +kernel
theorem dX9_odds_56 : decode cX9_odds 56 = .ok (.if_icmp .ge 101, 3) := by decide +kernel
theorem dX9_odds_59 : decode cX9_odds 59 = .ok (.iload 7, 2) := by decide +kernel
theorem dX9_odds_61 : decode cX9_odds 61 = .ok (.iload 10, 2) := by decide +kernel
theorem dX9_odds_63 : decode cX9_odds 63 = .ok (.ishr, 1) := by decide +kernel
theorem dX9_odds_64 : decode cX9_odds 64 = .ok (.iconst 1, 1) := by decide +kernel
theorem dX9_odds_65 : decode cX9_odds 65 = .ok (.iand, 1) := by decide +kernel
theorem dX9_odds_66 : decode cX9_odds 66 = .ok (.iconst 1, 1) := by decide +kernel
theorem dX9_odds_67 : decode cX9_odds 67 = .ok (.if_icmp .ne 7, 3) := by decide +kernel
theorem dX9_odds_70 : decode cX9_odds 70 = .ok (.iconst 1, 1) := by decide +kernel
theorem dX9_odds_71 : decode cX9_odds 71 = .ok (.goto 4, 3) := by decide +kernel
theorem dX9_odds_74 : decode cX9_odds 74 = .ok (.iconst 0, 1) := by decide +kernel
theorem dX9_odds_75 : decode cX9_odds 75 = .ok (.istore 11, 2) := by decide +kernel
theorem dX9_odds_77 : decode cX9_odds 77 = .ok (.lload 8, 2) := by decide +kernel
theorem dX9_odds_79 : decode cX9_odds 79 = .ok (.aload_n 0, 1) := by decide +kernel
theorem dX9_odds_80 : decode cX9_odds 80 = .ok (.getfield 7, 3) := by decide +kernel
theorem dX9_odds_83 : decode cX9_odds 83 = .ok (.iconst 3, 1) := by decide +kernel
theorem dX9_odds_84 : decode cX9_odds 84 = .ok (.iload 10, 2) := by decide +kernel
theorem dX9_odds_86 : decode cX9_odds 86 = .ok (.iadd, 1) := by decide +kernel
theorem dX9_odds_87 : decode cX9_odds 87 = .ok (.iaload, 1) := by decide +kernel
theorem dX9_odds_88 : decode cX9_odds 88 = .ok (.ifCond .ne 16, 3) := by decide +kernel
theorem dX9_odds_91 : decode cX9_odds 91 = .ok (.iload 11, 2) := by decide +kernel
theorem dX9_odds_93 : decode cX9_odds 93 = .ok (.ifCond .eq 7, 3) := by decide +kernel
theorem dX9_odds_96 : decode cX9_odds 96 = .ok (.lconst 0, 1) := by decide +kernel
theorem dX9_odds_97 : decode cX9_odds 97 = .ok (.goto 22, 3) := by decide +kernel
theorem dX9_odds_100 : decode cX9_odds 100 = .ok (.lconst 1, 1) := by decide +kernel
theorem dX9_odds_101 : decode cX9_odds 101 = .ok (.goto 18, 3) := by decide +kernel
theorem dX9_odds_104 : decode cX9_odds 104 = .ok (.iload 11, 2) := by decide +kernel
theorem dX9_odds_106 : decode cX9_odds 106 = .ok (.ifCond .eq 8, 3) := by decide +kernel
theorem dX9_odds_109 : decode cX9_odds 109 = .ok (.iload_n 1, 1) := by decide +kernel
theorem dX9_odds_110 : decode cX9_odds 110 = .ok (.i2l, 1) := by decide +kernel
theorem dX9_odds_111 : decode cX9_odds 111 = .ok (.goto 8, 3) := by decide +kernel
theorem dX9_odds_114 : decode cX9_odds 114 = .ok (.bipush 10, 2) := by decide +kernel
theorem dX9_odds_116 : decode cX9_odds 116 = .ok (.iload_n 1, 1) := by decide +kernel
theorem dX9_odds_117 : decode cX9_odds 117 = .ok (.isub, 1) := by decide +kernel
theorem dX9_odds_118 : decode cX9_odds 118 = .ok (.i2l, 1) := by decide +kernel
theorem dX9_odds_119 : decode cX9_odds 119 = .ok (.lmul, 1) := by decide +kernel
theorem dX9_odds_120 : decode cX9_odds 120 = .ok (.lstore 8, 2) := by decide +kernel
theorem dX9_odds_122 : decode cX9_odds 122 = .ok (.aload_n 0, 1) := by decide +kernel
theorem dX9_odds_123 : decode cX9_odds 123 = .ok (.getfield 7, 3) := by decide +kernel
theorem dX9_odds_126 : decode cX9_odds 126 = .ok (.sipush 159, 3) := by decide +kernel
theorem dX9_odds_129 : decode cX9_odds 129 = .ok (.iload 10, 2) := by decide +kernel
theorem dX9_odds_131 : decode cX9_odds 131 = .ok (.iadd, 1) := by decide +kernel
theorem dX9_odds_132 : decode cX9_odds 132 = .ok (.iload 11, 2) := by decide +kernel
theorem dX9_odds_134 : decode cX9_odds 134 = .ok (.ifCond .eq 7, 3) := by decide +kernel
theorem dX9_odds_137 : decode cX9_odds 137 = .ok (.iconst 0, 1) := by decide +kernel
theorem dX9_odds_138 : decode cX9_odds 138 = .ok (.goto 12, 3) := by decide +kernel
theorem dX9_odds_141 : decode cX9_odds 141 = .ok (.aload_n 0, 1) := by decide +kernel
theorem dX9_odds_142 : decode cX9_odds 142 = .ok (.getfield 7, 3) := by decide +kernel
theorem dX9_odds_145 : decode cX9_odds 145 = .ok (.iconst 3, 1) := by decide +kernel
theorem dX9_odds_146 : decode cX9_odds 146 = .ok (.iload 10, 2) := by decide +kernel
theorem dX9_odds_148 : decode cX9_odds 148 = .ok (.iadd, 1) := by decide +kernel
theorem dX9_odds_149 : decode cX9_odds 149 = .ok (.iaload, 1) := by decide +kernel
theorem dX9_odds_150 : decode cX9_odds 150 = .ok (.iastore, 1) := by decide +kernel
theorem dX9_odds_151 : decode cX9_odds 151 = .ok (.iinc 10 1, 3) := by decide +kernel
theorem dX9_odds_154 : decode cX9_odds 154 = .ok (.goto (-104), 3) := by decide +kernel
theorem dX9_odds_157 : decode cX9_odds 157 = .ok (.lload 8, 2) := by decide +kernel
theorem dX9_odds_159 : decode cX9_odds 159 = .ok (.lconst 0, 1) := by decide +kernel
theorem dX9_odds_160 : decode cX9_odds 160 = .ok (.lcmp, 1) := by decide +kernel
theorem dX9_odds_161 : decode cX9_odds 161 = .ok (.ifCond .le 39, 3) := by decide +kernel
theorem dX9_odds_164 : decode cX9_odds 164 = .ok (.aload_n 0, 1) := by decide +kernel
theorem dX9_odds_165 : decode cX9_odds 165 = .ok (.invokevirtual 166, 3) := by decide +kernel
theorem dX9_odds_168 : decode cX9_odds 168 = .ok (.pop, 1) := by decide +kernel
theorem dX9_odds_169 : decode cX9_odds 169 = .ok (.lload_n 3, 1) := by decide +kernel
theorem dX9_odds_170 : decode cX9_odds 170 = .ok (.aload_n 0, 1) := by decide +kernel
theorem dX9_odds_171 : decode cX9_odds 171 = .ok (.getfield 7, 3) := by decide +kernel
theorem dX9_odds_174 : decode cX9_odds 174 = .ok (.sipush 156, 3) := by decide +kernel
theorem dX9_odds_177 : decode cX9_odds 177 = .ok (.iaload, 1) := by decide +kernel
theorem dX9_odds_178 : decode cX9_odds 178 = .ok (.aload_n 0, 1) := by decide +kernel
theorem dX9_odds_179 : decode cX9_odds 179 = .ok (.getfield 66, 3) := by decide +kernel
theorem dX9_odds_182 : decode cX9_odds 182 = .ok (.if_icmp .ne 8, 3) := by decide +kernel
theorem dX9_odds_185 : decode cX9_odds 185 = .ok (.lload 8, 2) := by decide +kernel
theorem dX9_odds_187 : decode cX9_odds 187 = .ok (.goto 4, 3) := by decide +kernel
theorem dX9_odds_190 : decode cX9_odds 190 = .ok (.lconst 0, 1) := by decide +kernel
theorem dX9_odds_191 : decode cX9_odds 191 = .ok (.ladd, 1) := by decide +kernel
theorem dX9_odds_192 : decode cX9_odds 192 = .ok (.lstore_n 3, 1) := by decide +kernel
theorem dX9_odds_193 : decode cX9_odds 193 = .ok (.lload 5, 2) := by decide +kernel
theorem dX9_odds_195 : decode cX9_odds 195 = .ok (.lload 8, 2) := by decide +kernel
theorem dX9_odds_197 : decode cX9_odds 197 = .ok (.ladd, 1) := by decide +kernel
theorem dX9_odds_198 : decode cX9_odds 198 = .ok (.lstore 5, 2) := by decide +kernel
theorem dX9_odds_200 : decode cX9_odds 200 = .ok (.iinc 7 1, 3) := by decide +kernel
theorem dX9_odds_203 : decode cX9_odds 203 = .ok (.goto (-174), 3) := by decide +kernel
theorem dX9_odds_206 : decode cX9_odds 206 = .ok (.lload_n 3, 1) := by decide +kernel
theorem dX9_odds_207 : decode cX9_odds 207 = .ok (.lstore 7, 2) := by decide +kernel
theorem dX9_odds_209 : decode cX9_odds 209 = .ok (.lload 5, 2) := by decide +kernel
theorem dX9_odds_211 : decode cX9_odds 211 = .ok (.lstore 9, 2) := by decide +kernel
theorem dX9_odds_213 : decode cX9_odds 213 = .ok (.lload 9, 2) := by decide +kernel
theorem dX9_odds_215 : decode cX9_odds 215 = .ok (.lconst 0, 1) := by decide +kernel
theorem dX9_odds_216 : decode cX9_odds 216 = .ok (.lcmp, 1) := by decide +kernel
theorem dX9_odds_217 : decode cX9_odds 217 = .ok (.ifCond .eq 21, 3) := by decide +kernel
theorem dX9_odds_220 : decode cX9_odds 220 = .ok (.lload 7, 2) := by decide +kernel
theorem dX9_odds_222 : decode cX9_odds 222 = .ok (.lload 9, 2) := by decide +kernel
theorem dX9_odds_224 : decode cX9_odds 224 = .ok (.lrem, 1) := by decide +kernel
theorem dX9_odds_225 : decode cX9_odds 225 = .ok (.lstore 11, 2) := by decide +kernel
theorem dX9_odds_227 : decode cX9_odds 227 = .ok (.lload 9, 2) := by decide +kernel
theorem dX9_odds_229 : decode cX9_odds 229 = .ok (.lstore 7, 2) := by decide +kernel
theorem dX9_odds_231 : decode cX9_odds 231 = .ok (.lload 11, 2) := by decide +kernel
theorem dX9_odds_233 : decode cX9_odds 233 = .ok (.lstore 9, 2) := by decide +kernel
theorem dX9_odds_235 : decode cX9_odds 235 = .ok (.goto (-22), 3) := by decide +kernel
theorem dX9_odds_238 : decode cX9_odds 238 = .ok (.iload_n 2, 1) := by decide +kernel
theorem dX9_odds_239 : decode cX9_odds 239 = .ok (.ifCond .ne 10, 3) := by decide +kernel
theorem dX9_odds_242 : decode cX9_odds 242 = .ok (.lload_n 3, 1) := by decide +kernel
theorem dX9_odds_243 : decode cX9_odds 243 = .ok (.lload 7, 2) := by decide +kernel
theorem dX9_odds_245 : decode cX9_odds 245 = .ok (.ldiv, 1) := by decide +kernel
theorem dX9_odds_246 : decode cX9_odds 246 = .ok (.goto 8, 3) := by decide +kernel
theorem dX9_odds_249 : decode cX9_odds 249 = .ok (.lload 5, 2) := by decide +kernel
theorem dX9_odds_251 : decode cX9_odds 251 = .ok (.lload 7, 2) := by decide +kernel
theorem dX9_odds_253 : decode cX9_odds 253 = .ok (.ldiv, 1) := by decide +kernel
theorem dX9_odds_254 : decode cX9_odds 254 = .ok (.l2i, 1) := by decide +kernel
theorem dX9_odds_255 : decode cX9_odds 255 = .ok (.ireturn, 1) := by decide +kernel
theorem dX9_sees_0 : decode cX9_sees 0 = .ok (.aload_n 0, 1) := by decide +kernel
theorem dX9_sees_1 : decode cX9_sees 1 = .ok (.iload_n 1, 1) := by decide +kernel
theorem dX9_sees_2 : decode cX9_sees 2 = .ok (.invokevirtual 122, 3) := by decide +kernel
theorem dX9_sees_5 : decode cX9_sees 5 = .ok (.ifCond .eq 25, 3) := by decide +kernel
theorem dX9_sees_8 : decode cX9_sees 8 = .ok (.iload_n 2, 1) := by decide +kernel
theorem dX9_sees_9 : decode cX9_sees 9 = .ok (.iconst 1, 1) := by decide +kernel
theorem dX9_sees_10 : decode cX9_sees 10 = .ok (.bipush 60, 2) := by decide +kernel
theorem dX9_sees_12 : decode cX9_sees 12 = .ok (.invokestatic 69, 3) := by decide +kernel
theorem dX9_sees_15 : decode cX9_sees 15 = .ok (.ifCond .eq 15, 3) := by decide +kernel
theorem dX9_sees_18 : decode cX9_sees 18 = .ok (.iload_n 3, 1) := by decide +kernel
theorem dX9_sees_19 : decode cX9_sees 19 = .ok (.iconst 0, 1) := by decide +kernel
theorem dX9_sees_20 : decode cX9_sees 20 = .ok (.aload_n 0, 1) := by decide +kernel
theorem dX9_sees_21 : decode cX9_sees 21 = .ok (.getfield 66, 3) := by decide +kernel
theorem dX9_sees_24 : decode cX9_sees 24 = .ok (.invokestatic 69, 3) := by decide +kernel
theorem dX9_sees_27 : decode cX9_sees 27 = .ok (.ifCond .ne 5, 3) := by decide +kernel
theorem dX9_sees_30 : decode cX9_sees 30 = .ok (.iconst (-1), 1) := by decide +kernel
theorem dX9_sees_31 : decode cX9_sees 31 = .ok (.ireturn, 1) := by decide +kernel
theorem dX9_sees_32 : decode cX9_sees 32 = .ok (.aload_n 0, 1) := by decide +kernel
theorem dX9_sees_33 : decode cX9_sees 33 = .ok (.getfield 119, 3) := by decide +kernel
theorem dX9_sees_36 : decode cX9_sees 36 = .ok (.bipush 6, 2) := by decide +kernel
theorem dX9_sees_38 : decode cX9_sees 38 = .ok (.if_icmp .ne 6, 3) := by decide +kernel
theorem dX9_sees_41 : decode cX9_sees 41 = .ok (.bipush (-3), 2) := by decide +kernel
theorem dX9_sees_43 : decode cX9_sees 43 = .ok (.ireturn, 1) := by decide +kernel
theorem dX9_sees_44 : decode cX9_sees 44 = .ok (.aload_n 0, 1) := by decide +kernel
theorem dX9_sees_45 : decode cX9_sees 45 = .ok (.getfield 36, 3) := by decide +kernel
theorem dX9_sees_48 : decode cX9_sees 48 = .ok (.aload_n 0, 1) := by decide +kernel
theorem dX9_sees_49 : decode cX9_sees 49 = .ok (.getfield 119, 3) := by decide +kernel
theorem dX9_sees_52 : decode cX9_sees 52 = .ok (.iload_n 1, 1) := by decide +kernel
theorem dX9_sees_53 : decode cX9_sees 53 = .ok (.iastore, 1) := by decide +kernel
theorem dX9_sees_54 : decode cX9_sees 54 = .ok (.aload_n 0, 1) := by decide +kernel
theorem dX9_sees_55 : decode cX9_sees 55 = .ok (.getfield 39, 3) := by decide +kernel
theorem dX9_sees_58 : decode cX9_sees 58 = .ok (.aload_n 0, 1) := by decide +kernel
theorem dX9_sees_59 : decode cX9_sees 59 = .ok (.getfield 119, 3) := by decide +kernel
theorem dX9_sees_62 : decode cX9_sees 62 = .ok (.iload_n 2, 1) := by decide +kernel
theorem dX9_sees_63 : decode cX9_sees 63 = .ok (.iastore, 1) := by decide +kernel
theorem dX9_sees_64 : decode cX9_sees 64 = .ok (.aload_n 0, 1) := by decide +kernel
theorem dX9_sees_65 : decode cX9_sees 65 = .ok (.getfield 42, 3) := by decide +kernel
theorem dX9_sees_68 : decode cX9_sees 68 = .ok (.aload_n 0, 1) := by decide +kernel
theorem dX9_sees_69 : decode cX9_sees 69 = .ok (.getfield 119, 3) := by decide +kernel
theorem dX9_sees_72 : decode cX9_sees 72 = .ok (.iload_n 3, 1) := by decide +kernel
theorem dX9_sees_73 : decode cX9_sees 73 = .ok (.iastore, 1) := by decide +kernel
theorem dX9_sees_74 : decode cX9_sees 74 = .ok (.aload_n 0, 1) := by decide +kernel
theorem dX9_sees_75 : decode cX9_sees 75 = .ok (.dup, 1) := by decide +kernel
theorem dX9_sees_76 : decode cX9_sees 76 = .ok (.getfield 119, 3) := by decide +kernel
theorem dX9_sees_79 : decode cX9_sees 79 = .ok (.iconst 1, 1) := by decide +kernel
theorem dX9_sees_80 : decode cX9_sees 80 = .ok (.iadd, 1) := by decide +kernel
theorem dX9_sees_81 : decode cX9_sees 81 = .ok (.putfield 119, 3) := by decide +kernel
theorem dX9_sees_84 : decode cX9_sees 84 = .ok (.aload_n 0, 1) := by decide +kernel
theorem dX9_sees_85 : decode cX9_sees 85 = .ok (.getfield 119, 3) := by decide +kernel
theorem dX9_sees_88 : decode cX9_sees 88 = .ok (.ireturn, 1) := by decide +kernel
theorem dX9_forget_0 : decode cX9_forget 0 = .ok (.aload_n 0, 1) := by decide +kernel
theorem dX9_forget_1 : decode cX9_forget 1 = .ok (.getfield 119, 3) := by decide +kernel
theorem dX9_forget_4 : decode cX9_forget 4 = .ok (.istore_n 1, 1) := by decide +kernel
theorem dX9_forget_5 : decode cX9_forget 5 = .ok (.aload_n 0, 1) := by decide +kernel
theorem dX9_forget_6 : decode cX9_forget 6 = .ok (.iconst 0, 1) := by decide +kernel
theorem dX9_forget_7 : decode cX9_forget 7 = .ok (.putfield 119, 3) := by decide +kernel
theorem dX9_forget_10 : decode cX9_forget 10 = .ok (.iload_n 1, 1) := by decide +kernel
theorem dX9_forget_11 : decode cX9_forget 11 = .ok (.ireturn, 1) := by decide +kernel
theorem dX9_restsAt_0 : decode cX9_restsAt 0 = .ok (.aload_n 0, 1) := by decide +kernel
theorem dX9_restsAt_1 : decode cX9_restsAt 1 = .ok (.iconst 0, 1) := by decide +kernel
theorem dX9_restsAt_2 : decode cX9_restsAt 2 = .ok (.sipush 156, 3) := by decide +kernel
theorem dX9_restsAt_5 : decode cX9_restsAt 5 = .ok (.invokevirtual 145, 3) := by decide +kernel
theorem dX9_restsAt_8 : decode cX9_restsAt 8 = .ok (.aload_n 0, 1) := by decide +kernel
theorem dX9_restsAt_9 : decode cX9_restsAt 9 = .ok (.iload_n 1, 1) := by decide +kernel
theorem dX9_restsAt_10 : decode cX9_restsAt 10 = .ok (.putfield 125, 3) := by decide +kernel
theorem dX9_restsAt_13 : decode cX9_restsAt 13 = .ok (.aload_n 0, 1) := by decide +kernel
theorem dX9_restsAt_14 : decode cX9_restsAt 14 = .ok (.iload_n 2, 1) := by decide +kernel
theorem dX9_restsAt_15 : decode cX9_restsAt 15 = .ok (.putfield 128, 3) := by decide +kernel
theorem dX9_restsAt_18 : decode cX9_restsAt 18 = .ok (.aload_n 0, 1) := by decide +kernel
theorem dX9_restsAt_19 : decode cX9_restsAt 19 = .ok (.getfield 7, 3) := by decide +kernel
theorem dX9_restsAt_22 : decode cX9_restsAt 22 = .ok (.sipush 156, 3) := by decide +kernel
theorem dX9_restsAt_25 : decode cX9_restsAt 25 = .ok (.iload_n 3, 1) := by decide +kernel
theorem dX9_restsAt_26 : decode cX9_restsAt 26 = .ok (.iastore, 1) := by decide +kernel
theorem dX9_restsAt_27 : decode cX9_restsAt 27 = .ok (.aload_n 0, 1) := by decide +kernel
theorem dX9_restsAt_28 : decode cX9_restsAt 28 = .ok (.getfield 7, 3) := by decide +kernel
theorem dX9_restsAt_31 : decode cX9_restsAt 31 = .ok (.sipush 157, 3) := by decide +kernel
theorem dX9_restsAt_34 : decode cX9_restsAt 34 = .ok (.iload 4, 2) := by decide +kernel
theorem dX9_restsAt_36 : decode cX9_restsAt 36 = .ok (.iastore, 1) := by decide +kernel
theorem dX9_restsAt_37 : decode cX9_restsAt 37 = .ok (.aload_n 0, 1) := by decide +kernel
theorem dX9_restsAt_38 : decode cX9_restsAt 38 = .ok (.invokevirtual 166, 3) := by decide +kernel
theorem dX9_restsAt_41 : decode cX9_restsAt 41 = .ok (.pop, 1) := by decide +kernel
theorem dX9_restsAt_42 : decode cX9_restsAt 42 = .ok (.aload_n 0, 1) := by decide +kernel
theorem dX9_restsAt_43 : decode cX9_restsAt 43 = .ok (.getfield 7, 3) := by decide +kernel
theorem dX9_restsAt_46 : decode cX9_restsAt 46 = .ok (.sipush 156, 3) := by decide +kernel
theorem dX9_restsAt_49 : decode cX9_restsAt 49 = .ok (.iaload, 1) := by decide +kernel
theorem dX9_restsAt_50 : decode cX9_restsAt 50 = .ok (.ireturn, 1) := by decide +kernel
theorem dX9_isWay_0 : decode cX9_isWay 0 = .ok (.iconst 1, 1) := by decide +kernel
theorem dX9_isWay_1 : decode cX9_isWay 1 = .ok (.istore_n 3, 1) := by decide +kernel
theorem dX9_isWay_2 : decode cX9_isWay 2 = .ok (.iconst 0, 1) := by decide +kernel
theorem dX9_isWay_3 : decode cX9_isWay 3 = .ok (.istore 4, 2) := by decide +kernel
theorem dX9_isWay_5 : decode cX9_isWay 5 = .ok (.iload 4, 2) := by decide +kernel
theorem dX9_isWay_7 : decode cX9_isWay 7 = .ok (.aload_n 0, 1) := by decide +kernel
theorem dX9_isWay_8 : decode cX9_isWay 8 = .ok (.getfield 119, 3) := by decide +kernel
theorem dX9_isWay_11 : decode cX9_isWay 11 = .ok (.if_icmp .ge 49, 3) := by decide +kernel
theorem dX9_isWay_14 : decode cX9_isWay 14 = .ok (.iload_n 3, 1) := by decide +kernel
theorem dX9_isWay_15 : decode cX9_isWay 15 = .ok (.ifCond .eq 37, 3) := by decide +kernel
theorem dX9_isWay_18 : decode cX9_isWay 18 = .ok (.aload_n 0, 1) := by decide +kernel
theorem dX9_isWay_19 : decode cX9_isWay 19 = .ok (.iload_n 1, 1) := by decide +kernel
theorem dX9_isWay_20 : decode cX9_isWay 20 = .ok (.iload_n 2, 1) := by decide +kernel
theorem dX9_isWay_21 : decode cX9_isWay 21 = .ok (.aload_n 0, 1) := by decide +kernel
theorem dX9_isWay_22 : decode cX9_isWay 22 = .ok (.getfield 36, 3) := by decide +kernel
theorem dX9_isWay_25 : decode cX9_isWay 25 = .ok (.iload 4, 2) := by decide +kernel
theorem dX9_isWay_27 : decode cX9_isWay 27 = .ok (.iaload, 1) := by decide +kernel
theorem dX9_isWay_28 : decode cX9_isWay 28 = .ok (.aload_n 0, 1) := by decide +kernel
theorem dX9_isWay_29 : decode cX9_isWay 29 = .ok (.getfield 39, 3) := by decide +kernel
theorem dX9_isWay_32 : decode cX9_isWay 32 = .ok (.iload 4, 2) := by decide +kernel
theorem dX9_isWay_34 : decode cX9_isWay 34 = .ok (.iaload, 1) := by decide +kernel
theorem dX9_isWay_35 : decode cX9_isWay 35 = .ok (.invokevirtual 178, 3) := by decide +kernel
theorem dX9_isWay_38 : decode cX9_isWay 38 = .ok (.aload_n 0, 1) := by decide +kernel
theorem dX9_isWay_39 : decode cX9_isWay 39 = .ok (.getfield 42, 3) := by decide +kernel
theorem dX9_isWay_42 : decode cX9_isWay 42 = .ok (.iload 4, 2) := by decide +kernel
theorem dX9_isWay_44 : decode cX9_isWay 44 = .ok (.iaload, 1) := by decide +kernel
theorem dX9_isWay_45 : decode cX9_isWay 45 = .ok (.if_icmp .ne 7, 3) := by decide +kernel
theorem dX9_isWay_48 : decode cX9_isWay 48 = .ok (.iconst 1, 1) := by decide +kernel
theorem dX9_isWay_49 : decode cX9_isWay 49 = .ok (.goto 4, 3) := by decide +kernel
theorem dX9_isWay_52 : decode cX9_isWay 52 = .ok (.iconst 0, 1) := by decide +kernel
theorem dX9_isWay_53 : decode cX9_isWay 53 = .ok (.istore_n 3, 1) := by decide +kernel
theorem dX9_isWay_54 : decode cX9_isWay 54 = .ok (.iinc 4 1, 3) := by decide +kernel
theorem dX9_isWay_57 : decode cX9_isWay 57 = .ok (.goto (-52), 3) := by decide +kernel
theorem dX9_isWay_60 : decode cX9_isWay 60 = .ok (.iload_n 3, 1) := by decide +kernel
theorem dX9_isWay_61 : decode cX9_isWay 61 = .ok (.ireturn, 1) := by decide +kernel
theorem dX9_layWays_0 : decode cX9_layWays 0 = .ok (.aload_n 0, 1) := by decide +kernel
theorem dX9_layWays_1 : decode cX9_layWays 1 = .ok (.iconst 0, 1) := by decide +kernel
theorem dX9_layWays_2 : decode cX9_layWays 2 = .ok (.putfield 182, 3) := by decide +kernel
theorem dX9_layWays_5 : decode cX9_layWays 5 = .ok (.iconst 0, 1) := by decide +kernel
theorem dX9_layWays_6 : decode cX9_layWays 6 = .ok (.istore_n 1, 1) := by decide +kernel
theorem dX9_layWays_7 : decode cX9_layWays 7 = .ok (.iload_n 1, 1) := by decide +kernel
theorem dX9_layWays_8 : decode cX9_layWays 8 = .ok (.bipush 36, 2) := by decide +kernel
theorem dX9_layWays_10 : decode cX9_layWays 10 = .ok (.if_icmp .ge 55, 3) := by decide +kernel
theorem dX9_layWays_13 : decode cX9_layWays 13 = .ok (.aload_n 0, 1) := by decide +kernel
theorem dX9_layWays_14 : decode cX9_layWays 14 = .ok (.iconst 1, 1) := by decide +kernel
theorem dX9_layWays_15 : decode cX9_layWays 15 = .ok (.iload_n 1, 1) := by decide +kernel
theorem dX9_layWays_16 : decode cX9_layWays 16 = .ok (.iconst 4, 1) := by decide +kernel
theorem dX9_layWays_17 : decode cX9_layWays 17 = .ok (.idiv, 1) := by decide +kernel
theorem dX9_layWays_18 : decode cX9_layWays 18 = .ok (.iadd, 1) := by decide +kernel
theorem dX9_layWays_19 : decode cX9_layWays 19 = .ok (.iload_n 1, 1) := by decide +kernel
theorem dX9_layWays_20 : decode cX9_layWays 20 = .ok (.iconst 4, 1) := by decide +kernel
theorem dX9_layWays_21 : decode cX9_layWays 21 = .ok (.irem, 1) := by decide +kernel
theorem dX9_layWays_22 : decode cX9_layWays 22 = .ok (.invokevirtual 185, 3) := by decide +kernel
theorem dX9_layWays_25 : decode cX9_layWays 25 = .ok (.ifCond .eq 34, 3) := by decide +kernel
theorem dX9_layWays_28 : decode cX9_layWays 28 = .ok (.aload_n 0, 1) := by decide +kernel
theorem dX9_layWays_29 : decode cX9_layWays 29 = .ok (.getfield 60, 3) := by decide +kernel
theorem dX9_layWays_32 : decode cX9_layWays 32 = .ok (.aload_n 0, 1) := by decide +kernel
theorem dX9_layWays_33 : decode cX9_layWays 33 = .ok (.getfield 182, 3) := by decide +kernel
theorem dX9_layWays_36 : decode cX9_layWays 36 = .ok (.bipush 10, 2) := by decide +kernel
theorem dX9_layWays_38 : decode cX9_layWays 38 = .ok (.iconst 1, 1) := by decide +kernel
theorem dX9_layWays_39 : decode cX9_layWays 39 = .ok (.iload_n 1, 1) := by decide +kernel
theorem dX9_layWays_40 : decode cX9_layWays 40 = .ok (.iconst 4, 1) := by decide +kernel
theorem dX9_layWays_41 : decode cX9_layWays 41 = .ok (.idiv, 1) := by decide +kernel
theorem dX9_layWays_42 : decode cX9_layWays 42 = .ok (.iadd, 1) := by decide +kernel
theorem dX9_layWays_43 : decode cX9_layWays 43 = .ok (.imul, 1) := by decide +kernel
theorem dX9_layWays_44 : decode cX9_layWays 44 = .ok (.iload_n 1, 1) := by decide +kernel
theorem dX9_layWays_45 : decode cX9_layWays 45 = .ok (.iconst 4, 1) := by decide +kernel
theorem dX9_layWays_46 : decode cX9_layWays 46 = .ok (.irem, 1) := by decide +kernel
theorem dX9_layWays_47 : decode cX9_layWays 47 = .ok (.iadd, 1) := by decide +kernel
theorem dX9_layWays_48 : decode cX9_layWays 48 = .ok (.iastore, 1) := by decide +kernel
theorem dX9_layWays_49 : decode cX9_layWays 49 = .ok (.aload_n 0, 1) := by decide +kernel
theorem dX9_layWays_50 : decode cX9_layWays 50 = .ok (.dup, 1) := by decide +kernel
theorem dX9_layWays_51 : decode cX9_layWays 51 = .ok (.getfield 182, 3) := by decide +kernel
theorem dX9_layWays_54 : decode cX9_layWays 54 = .ok (.iconst 1, 1) := by decide +kernel
theorem dX9_layWays_55 : decode cX9_layWays 55 = .ok (.iadd, 1) := by decide +kernel
theorem dX9_layWays_56 : decode cX9_layWays 56 = .ok (.putfield 182, 3) := by decide +kernel
theorem dX9_layWays_59 : decode cX9_layWays 59 = .ok (.iinc 1 1, 3) := by decide +kernel
theorem dX9_layWays_62 : decode cX9_layWays 62 = .ok (.goto (-55), 3) := by decide +kernel
theorem dX9_layWays_65 : decode cX9_layWays 65 = .ok (.return_, 1) := by decide +kernel
theorem dX9_ways_0 : decode cX9_ways 0 = .ok (.iload_n 1, 1) := by decide +kernel
theorem dX9_ways_1 : decode cX9_ways 1 = .ok (.iconst 0, 1) := by decide +kernel
theorem dX9_ways_2 : decode cX9_ways 2 = .ok (.iconst 1, 1) := by decide +kernel
theorem dX9_ways_3 : decode cX9_ways 3 = .ok (.invokestatic 69, 3) := by decide +kernel
theorem dX9_ways_6 : decode cX9_ways 6 = .ok (.ifCond .ne 5, 3) := by decide +kernel
theorem dX9_ways_9 : decode cX9_ways 9 = .ok (.iconst (-1), 1) := by decide +kernel
theorem dX9_ways_10 : decode cX9_ways 10 = .ok (.ireturn, 1) := by decide +kernel
theorem dX9_ways_11 : decode cX9_ways 11 = .ok (.aload_n 0, 1) := by decide +kernel
theorem dX9_ways_12 : decode cX9_ways 12 = .ok (.invokevirtual 188, 3) := by decide +kernel
theorem dX9_ways_15 : decode cX9_ways 15 = .ok (.iload_n 1, 1) := by decide +kernel
theorem dX9_ways_16 : decode cX9_ways 16 = .ok (.ifCond .ne 10, 3) := by decide +kernel
theorem dX9_ways_19 : decode cX9_ways 19 = .ok (.aload_n 0, 1) := by decide +kernel
theorem dX9_ways_20 : decode cX9_ways 20 = .ok (.getfield 182, 3) := by decide +kernel
theorem dX9_ways_23 : decode cX9_ways 23 = .ok (.goto 21, 3) := by decide +kernel
theorem dX9_ways_26 : decode cX9_ways 26 = .ok (.aload_n 0, 1) := by decide +kernel
theorem dX9_ways_27 : decode cX9_ways 27 = .ok (.getfield 182, 3) := by decide +kernel
theorem dX9_ways_30 : decode cX9_ways 30 = .ok (.ifCond .ne 8, 3) := by decide +kernel
theorem dX9_ways_33 : decode cX9_ways 33 = .ok (.bipush (-9), 2) := by decide +kernel
theorem dX9_ways_35 : decode cX9_ways 35 = .ok (.goto 9, 3) := by decide +kernel
theorem dX9_ways_38 : decode cX9_ways 38 = .ok (.aload_n 0, 1) := by decide +kernel
theorem dX9_ways_39 : decode cX9_ways 39 = .ok (.getfield 60, 3) := by decide +kernel
theorem dX9_ways_42 : decode cX9_ways 42 = .ok (.iconst 0, 1) := by decide +kernel
theorem dX9_ways_43 : decode cX9_ways 43 = .ok (.iaload, 1) := by decide +kernel
theorem dX9_ways_44 : decode cX9_ways 44 = .ok (.ireturn, 1) := by decide +kernel
theorem dX9_next_0 : decode cX9_next 0 = .ok (.aload_n 0, 1) := by decide +kernel
theorem dX9_next_1 : decode cX9_next 1 = .ok (.iload_n 1, 1) := by decide +kernel
theorem dX9_next_2 : decode cX9_next 2 = .ok (.invokevirtual 122, 3) := by decide +kernel
theorem dX9_next_5 : decode cX9_next 5 = .ok (.ifCond .ne 5, 3) := by decide +kernel
theorem dX9_next_8 : decode cX9_next 8 = .ok (.iconst (-1), 1) := by decide +kernel
theorem dX9_next_9 : decode cX9_next 9 = .ok (.ireturn, 1) := by decide +kernel
theorem dX9_next_10 : decode cX9_next 10 = .ok (.aload_n 0, 1) := by decide +kernel
theorem dX9_next_11 : decode cX9_next 11 = .ok (.invokevirtual 188, 3) := by decide +kernel
theorem dX9_next_14 : decode cX9_next 14 = .ok (.bipush (-9), 2) := by decide +kernel
theorem dX9_next_16 : decode cX9_next 16 = .ok (.istore_n 2, 1) := by decide +kernel
theorem dX9_next_17 : decode cX9_next 17 = .ok (.ldc 152, 2) := by decide +kernel
theorem dX9_next_19 : decode cX9_next 19 = .ok (.istore_n 3, 1) := by decide +kernel
theorem dX9_next_20 : decode cX9_next 20 = .ok (.iconst 1, 1) := by decide +kernel
theorem dX9_next_21 : decode cX9_next 21 = .ok (.istore 4, 2) := by decide +kernel
theorem dX9_next_23 : decode cX9_next 23 = .ok (.iload 4, 2) := by decide +kernel
theorem dX9_next_25 : decode cX9_next 25 = .ok (.bipush 61, 2) := by decide +kernel
theorem dX9_next_27 : decode cX9_next 27 = .ok (.if_icmp .ge 156, 3) := by decide +kernel
theorem dX9_next_30 : decode cX9_next 30 = .ok (.aload_n 0, 1) := by decide +kernel
theorem dX9_next_31 : decode cX9_next 31 = .ok (.getfield 182, 3) := by decide +kernel
theorem dX9_next_34 : decode cX9_next 34 = .ok (.iconst 1, 1) := by decide +kernel
theorem dX9_next_35 : decode cX9_next 35 = .ok (.if_icmp .le 148, 3) := by decide +kernel
theorem dX9_next_38 : decode cX9_next 38 = .ok (.iconst 0, 1) := by decide +kernel
theorem dX9_next_39 : decode cX9_next 39 = .ok (.istore 5, 2) := by decide +kernel
theorem dX9_next_41 : decode cX9_next 41 = .ok (.iconst 0, 1) := by decide +kernel
theorem dX9_next_42 : decode cX9_next 42 = .ok (.istore 6, 2) := by decide +kernel
theorem dX9_next_44 : decode cX9_next 44 = .ok (.iload 6, 2) := by decide +kernel
theorem dX9_next_46 : decode cX9_next 46 = .ok (.aload_n 0, 1) := by decide +kernel
theorem dX9_next_47 : decode cX9_next 47 = .ok (.getfield 66, 3) := by decide +kernel
theorem dX9_next_50 : decode cX9_next 50 = .ok (.if_icmp .gt 17, 3) := by decide +kernel
theorem dX9_next_53 : decode cX9_next 53 = .ok (.aload_n 0, 1) := by decide +kernel
theorem dX9_next_54 : decode cX9_next 54 = .ok (.getfield 63, 3) := by decide +kernel
theorem dX9_next_57 : decode cX9_next 57 = .ok (.iload 6, 2) := by decide +kernel
theorem dX9_next_59 : decode cX9_next 59 = .ok (.iconst 0, 1) := by decide +kernel
theorem dX9_next_60 : decode cX9_next 60 = .ok (.iastore, 1) := by decide +kernel
theorem dX9_next_61 : decode cX9_next 61 = .ok (.iinc 6 1, 3) := by decide +kernel
theorem dX9_next_64 : decode cX9_next 64 = .ok (.goto (-20), 3) := by decide +kernel
theorem dX9_next_67 : decode cX9_next 67 = .ok (.iconst 0, 1) := by decide +kernel
theorem dX9_next_68 : decode cX9_next 68 = .ok (.istore 6, 2) := by decide +kernel
theorem dX9_next_70 : decode cX9_next 70 = .ok (.iload 6, 2) := by decide +kernel
theorem dX9_next_72 : decode cX9_next 72 = .ok (.aload_n 0, 1) := by decide +kernel
theorem dX9_next_73 : decode cX9_next 73 = .ok (.getfield 182, 3) := by decide +kernel
theorem dX9_next_76 : decode cX9_next 76 = .ok (.if_icmp .ge 75, 3) := by decide +kernel
theorem dX9_next_79 : decode cX9_next 79 = .ok (.aload_n 0, 1) := by decide +kernel
theorem dX9_next_80 : decode cX9_next 80 = .ok (.aload_n 0, 1) := by decide +kernel
theorem dX9_next_81 : decode cX9_next 81 = .ok (.getfield 60, 3) := by decide +kernel
theorem dX9_next_84 : decode cX9_next 84 = .ok (.iload 6, 2) := by decide +kernel
theorem dX9_next_86 : decode cX9_next 86 = .ok (.iaload, 1) := by decide +kernel
theorem dX9_next_87 : decode cX9_next 87 = .ok (.bipush 10, 2) := by decide +kernel
theorem dX9_next_89 : decode cX9_next 89 = .ok (.idiv, 1) := by decide +kernel
theorem dX9_next_90 : decode cX9_next 90 = .ok (.aload_n 0, 1) := by decide +kernel
theorem dX9_next_91 : decode cX9_next 91 = .ok (.getfield 60, 3) := by decide +kernel
theorem dX9_next_94 : decode cX9_next 94 = .ok (.iload 6, 2) := by decide +kernel
theorem dX9_next_96 : decode cX9_next 96 = .ok (.iaload, 1) := by decide +kernel
theorem dX9_next_97 : decode cX9_next 97 = .ok (.bipush 10, 2) := by decide +kernel
theorem dX9_next_99 : decode cX9_next 99 = .ok (.irem, 1) := by decide +kernel
theorem dX9_next_100 : decode cX9_next 100 = .ok (.iload_n 1, 1) := by decide +kernel
theorem dX9_next_101 : decode cX9_next 101 = .ok (.iload 4, 2) := by decide +kernel
theorem dX9_next_103 : decode cX9_next 103 = .ok (.invokevirtual 178, 3) := by decide +kernel
theorem dX9_next_106 : decode cX9_next 106 = .ok (.istore 7, 2) := by decide +kernel
theorem dX9_next_108 : decode cX9_next 108 = .ok (.aload_n 0, 1) := by decide +kernel
theorem dX9_next_109 : decode cX9_next 109 = .ok (.getfield 63, 3) := by decide +kernel
theorem dX9_next_112 : decode cX9_next 112 = .ok (.iload 7, 2) := by decide +kernel
theorem dX9_next_114 : decode cX9_next 114 = .ok (.dup2, 1) := by decide +kernel
theorem dX9_next_115 : decode cX9_next 115 = .ok (.iaload, 1) := by decide +kernel
theorem dX9_next_116 : decode cX9_next 116 = .ok (.iconst 1, 1) := by decide +kernel
theorem dX9_next_117 : decode cX9_next 117 = .ok (.iadd, 1) := by decide +kernel
theorem dX9_next_118 : decode cX9_next 118 = .ok (.iastore, 1) := by decide +kernel
theorem dX9_next_119 : decode cX9_next 119 = .ok (.aload_n 0, 1) := by decide +kernel
theorem dX9_next_120 : decode cX9_next 120 = .ok (.getfield 63, 3) := by decide +kernel
theorem dX9_next_123 : decode cX9_next 123 = .ok (.iload 7, 2) := by decide +kernel
theorem dX9_next_125 : decode cX9_next 125 = .ok (.iaload, 1) := by decide +kernel
theorem dX9_next_126 : decode cX9_next 126 = .ok (.iload 5, 2) := by decide +kernel
theorem dX9_next_128 : decode cX9_next 128 = .ok (.if_icmp .le 13, 3) := by decide +kernel
theorem dX9_next_131 : decode cX9_next 131 = .ok (.aload_n 0, 1) := by decide +kernel
theorem dX9_next_132 : decode cX9_next 132 = .ok (.getfield 63, 3) := by decide +kernel
theorem dX9_next_135 : decode cX9_next 135 = .ok (.iload 7, 2) := by decide +kernel
theorem dX9_next_137 : decode cX9_next 137 = .ok (.iaload, 1) := by decide +kernel
theorem dX9_next_138 : decode cX9_next 138 = .ok (.goto 5, 3) := by decide +kernel
theorem dX9_next_141 : decode cX9_next 141 = .ok (.iload 5, 2) := by decide +kernel
theorem dX9_next_143 : decode cX9_next 143 = .ok (.istore 5, 2) := by decide +kernel
theorem dX9_next_145 : decode cX9_next 145 = .ok (.iinc 6 1, 3) := by decide +kernel
theorem dX9_next_148 : decode cX9_next 148 = .ok (.goto (-78), 3) := by decide +kernel
theorem dX9_next_151 : decode cX9_next 151 = .ok (.iload 5, 2) := by decide +kernel
theorem dX9_next_153 : decode cX9_next 153 = .ok (.iload_n 3, 1) := by decide +kernel
theorem dX9_next_154 : decode cX9_next 154 = .ok (.if_icmp .ge 8, 3) := by decide +kernel
theorem dX9_next_157 : decode cX9_next 157 = .ok (.iload 4, 2) := by decide +kernel
theorem dX9_next_159 : decode cX9_next 159 = .ok (.goto 4, 3) := by decide +kernel
theorem dX9_next_162 : decode cX9_next 162 = .ok (.iload_n 2, 1) := by decide +kernel
theorem dX9_next_163 : decode cX9_next 163 = .ok (.istore_n 2, 1) := by decide +kernel
theorem dX9_next_164 : decode cX9_next 164 = .ok (.iload 5, 2) := by decide +kernel
theorem dX9_next_166 : decode cX9_next 166 = .ok (.iload_n 3, 1) := by decide +kernel
theorem dX9_next_167 : decode cX9_next 167 = .ok (.if_icmp .ge 8, 3) := by decide +kernel
theorem dX9_next_170 : decode cX9_next 170 = .ok (.iload 5, 2) := by decide +kernel
theorem dX9_next_172 : decode cX9_next 172 = .ok (.goto 4, 3) := by decide +kernel
theorem dX9_next_175 : decode cX9_next 175 = .ok (.iload_n 3, 1) := by decide +kernel
theorem dX9_next_176 : decode cX9_next 176 = .ok (.istore_n 3, 1) := by decide +kernel
theorem dX9_next_177 : decode cX9_next 177 = .ok (.iinc 4 1, 3) := by decide +kernel
theorem dX9_next_180 : decode cX9_next 180 = .ok (.goto (-157), 3) := by decide +kernel
theorem dX9_next_183 : decode cX9_next 183 = .ok (.iload_n 2, 1) := by decide +kernel
theorem dX9_next_184 : decode cX9_next 184 = .ok (.ireturn, 1) := by decide +kernel
theorem dX9_coilRate_0 : decode cX9_coilRate 0 = .ok (.aload_n 0, 1) := by decide +kernel
theorem dX9_coilRate_1 : decode cX9_coilRate 1 = .ok (.dup, 1) := by decide +kernel
theorem dX9_coilRate_2 : decode cX9_coilRate 2 = .ok (.getfield 191, 3) := by decide +kernel
theorem dX9_coilRate_5 : decode cX9_coilRate 5 = .ok (.lconst 1, 1) := by decide +kernel
theorem dX9_coilRate_6 : decode cX9_coilRate 6 = .ok (.ladd, 1) := by decide +kernel
theorem dX9_coilRate_7 : decode cX9_coilRate 7 = .ok (.putfield 191, 3) := by decide +kernel
theorem dX9_coilRate_10 : decode cX9_coilRate 10 = .ok (.aload_n 0, 1) := by decide +kernel
theorem dX9_coilRate_11 : decode cX9_coilRate 11 = .ok (.getfield 23, 3) := by decide +kernel
theorem dX9_coilRate_14 : decode cX9_coilRate 14 = .ok (.iload_n 1, 1) := by decide +kernel
theorem dX9_coilRate_15 : decode cX9_coilRate 15 = .ok (.iaload, 1) := by decide +kernel
theorem dX9_coilRate_16 : decode cX9_coilRate 16 = .ok (.ireturn, 1) := by decide +kernel
theorem dX9_brassRate_0 : decode cX9_brassRate 0 = .ok (.aload_n 0, 1) := by decide +kernel
theorem dX9_brassRate_1 : decode cX9_brassRate 1 = .ok (.dup, 1) := by decide +kernel
theorem dX9_brassRate_2 : decode cX9_brassRate 2 = .ok (.getfield 191, 3) := by decide +kernel
theorem dX9_brassRate_5 : decode cX9_brassRate 5 = .ok (.ldc2_w 195, 3) := by decide +kernel
theorem dX9_brassRate_8 : decode cX9_brassRate 8 = .ok (.ladd, 1) := by decide +kernel
theorem dX9_brassRate_9 : decode cX9_brassRate 9 = .ok (.putfield 191, 3) := by decide +kernel
theorem dX9_brassRate_12 : decode cX9_brassRate 12 = .ok (.aload_n 0, 1) := by decide +kernel
theorem dX9_brassRate_13 : decode cX9_brassRate 13 = .ok (.iload_n 1, 1) := by decide +kernel
theorem dX9_brassRate_14 : decode cX9_brassRate 14 = .ok (.invokevirtual 197, 3) := by decide +kernel
theorem dX9_brassRate_17 : decode cX9_brassRate 17 = .ok (.aload_n 0, 1) := by decide +kernel
theorem dX9_brassRate_18 : decode cX9_brassRate 18 = .ok (.getfield 26, 3) := by decide +kernel
theorem dX9_brassRate_21 : decode cX9_brassRate 21 = .ok (.iload_n 1, 1) := by decide +kernel
theorem dX9_brassRate_22 : decode cX9_brassRate 22 = .ok (.iaload, 1) := by decide +kernel
theorem dX9_brassRate_23 : decode cX9_brassRate 23 = .ok (.iadd, 1) := by decide +kernel
theorem dX9_brassRate_24 : decode cX9_brassRate 24 = .ok (.ireturn, 1) := by decide +kernel
theorem dX9_paperRate_0 : decode cX9_paperRate 0 = .ok (.aload_n 0, 1) := by decide +kernel
theorem dX9_paperRate_1 : decode cX9_paperRate 1 = .ok (.dup, 1) := by decide +kernel
theorem dX9_paperRate_2 : decode cX9_paperRate 2 = .ok (.getfield 191, 3) := by decide +kernel
theorem dX9_paperRate_5 : decode cX9_paperRate 5 = .ok (.ldc2_w 200, 3) := by decide +kernel
theorem dX9_paperRate_8 : decode cX9_paperRate 8 = .ok (.ladd, 1) := by decide +kernel
theorem dX9_paperRate_9 : decode cX9_paperRate 9 = .ok (.putfield 191, 3) := by decide +kernel
theorem dX9_paperRate_12 : decode cX9_paperRate 12 = .ok (.aload_n 0, 1) := by decide +kernel
theorem dX9_paperRate_13 : decode cX9_paperRate 13 = .ok (.iload_n 1, 1) := by decide +kernel
theorem dX9_paperRate_14 : decode cX9_paperRate 14 = .ok (.invokevirtual 197, 3) := by decide +kernel
theorem dX9_paperRate_17 : decode cX9_paperRate 17 = .ok (.iconst 2, 1) := by decide +kernel
theorem dX9_paperRate_18 : decode cX9_paperRate 18 = .ok (.aload_n 0, 1) := by decide +kernel
theorem dX9_paperRate_19 : decode cX9_paperRate 19 = .ok (.getfield 7, 3) := by decide +kernel
theorem dX9_paperRate_22 : decode cX9_paperRate 22 = .ok (.iconst 3, 1) := by decide +kernel
theorem dX9_paperRate_23 : decode cX9_paperRate 23 = .ok (.iload_n 1, 1) := by decide +kernel
theorem dX9_paperRate_24 : decode cX9_paperRate 24 = .ok (.iadd, 1) := by decide +kernel
theorem dX9_paperRate_25 : decode cX9_paperRate 25 = .ok (.iaload, 1) := by decide +kernel
theorem dX9_paperRate_26 : decode cX9_paperRate 26 = .ok (.imul, 1) := by decide +kernel
theorem dX9_paperRate_27 : decode cX9_paperRate 27 = .ok (.isub, 1) := by decide +kernel
theorem dX9_paperRate_28 : decode cX9_paperRate 28 = .ok (.ireturn, 1) := by decide +kernel
theorem dX9_rate_0 : decode cX9_rate 0 = .ok (.iload_n 1, 1) := by decide +kernel
theorem dX9_rate_1 : decode cX9_rate 1 = .ok (.iconst 0, 1) := by decide +kernel
theorem dX9_rate_2 : decode cX9_rate 2 = .ok (.iconst 5, 1) := by decide +kernel
theorem dX9_rate_3 : decode cX9_rate 3 = .ok (.invokestatic 69, 3) := by decide +kernel
theorem dX9_rate_6 : decode cX9_rate 6 = .ok (.ifCond .eq 11, 3) := by decide +kernel
theorem dX9_rate_9 : decode cX9_rate 9 = .ok (.aload_n 0, 1) := by decide +kernel
theorem dX9_rate_10 : decode cX9_rate 10 = .ok (.iload_n 2, 1) := by decide +kernel
theorem dX9_rate_11 : decode cX9_rate 11 = .ok (.invokevirtual 122, 3) := by decide +kernel
theorem dX9_rate_14 : decode cX9_rate 14 = .ok (.ifCond .ne 6, 3) := by decide +kernel
theorem dX9_rate_17 : decode cX9_rate 17 = .ok (.ldc 202, 2) := by decide +kernel
theorem dX9_rate_19 : decode cX9_rate 19 = .ok (.ireturn, 1) := by decide +kernel
theorem dX9_rate_20 : decode cX9_rate 20 = .ok (.iload_n 1, 1) := by decide +kernel
theorem dX9_rate_21 : decode cX9_rate 21 = .ok (.tableswitch 112 1 5 #[35, 41, 47, 67, 87], 35) := by decide +kernel
theorem dX9_rate_56 : decode cX9_rate 56 = .ok (.aload_n 0, 1) := by decide +kernel
theorem dX9_rate_57 : decode cX9_rate 57 = .ok (.iload_n 2, 1) := by decide +kernel
theorem dX9_rate_58 : decode cX9_rate 58 = .ok (.invokevirtual 203, 3) := by decide +kernel
theorem dX9_rate_61 : decode cX9_rate 61 = .ok (.ireturn, 1) := by decide +kernel
theorem dX9_rate_62 : decode cX9_rate 62 = .ok (.aload_n 0, 1) := by decide +kernel
theorem dX9_rate_63 : decode cX9_rate 63 = .ok (.iload_n 2, 1) := by decide +kernel
theorem dX9_rate_64 : decode cX9_rate 64 = .ok (.invokevirtual 206, 3) := by decide +kernel
theorem dX9_rate_67 : decode cX9_rate 67 = .ok (.ireturn, 1) := by decide +kernel
theorem dX9_rate_68 : decode cX9_rate 68 = .ok (.aload_n 0, 1) := by decide +kernel
theorem dX9_rate_69 : decode cX9_rate 69 = .ok (.dup, 1) := by decide +kernel
theorem dX9_rate_70 : decode cX9_rate 70 = .ok (.getfield 191, 3) := by decide +kernel
theorem dX9_rate_73 : decode cX9_rate 73 = .ok (.ldc2_w 209, 3) := by decide +kernel
theorem dX9_rate_76 : decode cX9_rate 76 = .ok (.ladd, 1) := by decide +kernel
theorem dX9_rate_77 : decode cX9_rate 77 = .ok (.putfield 191, 3) := by decide +kernel
theorem dX9_rate_80 : decode cX9_rate 80 = .ok (.iconst 2, 1) := by decide +kernel
theorem dX9_rate_81 : decode cX9_rate 81 = .ok (.aload_n 0, 1) := by decide +kernel
theorem dX9_rate_82 : decode cX9_rate 82 = .ok (.iload_n 2, 1) := by decide +kernel
theorem dX9_rate_83 : decode cX9_rate 83 = .ok (.invokevirtual 203, 3) := by decide +kernel
theorem dX9_rate_86 : decode cX9_rate 86 = .ok (.imul, 1) := by decide +kernel
theorem dX9_rate_87 : decode cX9_rate 87 = .ok (.ireturn, 1) := by decide +kernel
theorem dX9_rate_88 : decode cX9_rate 88 = .ok (.aload_n 0, 1) := by decide +kernel
theorem dX9_rate_89 : decode cX9_rate 89 = .ok (.dup, 1) := by decide +kernel
theorem dX9_rate_90 : decode cX9_rate 90 = .ok (.getfield 191, 3) := by decide +kernel
theorem dX9_rate_93 : decode cX9_rate 93 = .ok (.ldc2_w 211, 3) := by decide +kernel
theorem dX9_rate_96 : decode cX9_rate 96 = .ok (.ladd, 1) := by decide +kernel
theorem dX9_rate_97 : decode cX9_rate 97 = .ok (.putfield 191, 3) := by decide +kernel
theorem dX9_rate_100 : decode cX9_rate 100 = .ok (.aload_n 0, 1) := by decide +kernel
theorem dX9_rate_101 : decode cX9_rate 101 = .ok (.iload_n 2, 1) := by decide +kernel
theorem dX9_rate_102 : decode cX9_rate 102 = .ok (.invokevirtual 206, 3) := by decide +kernel
theorem dX9_rate_105 : decode cX9_rate 105 = .ok (.iload_n 2, 1) := by decide +kernel
theorem dX9_rate_106 : decode cX9_rate 106 = .ok (.iadd, 1) := by decide +kernel
theorem dX9_rate_107 : decode cX9_rate 107 = .ok (.ireturn, 1) := by decide +kernel
theorem dX9_rate_108 : decode cX9_rate 108 = .ok (.aload_n 0, 1) := by decide +kernel
theorem dX9_rate_109 : decode cX9_rate 109 = .ok (.dup, 1) := by decide +kernel
theorem dX9_rate_110 : decode cX9_rate 110 = .ok (.getfield 191, 3) := by decide +kernel
theorem dX9_rate_113 : decode cX9_rate 113 = .ok (.ldc2_w 213, 3) := by decide +kernel
theorem dX9_rate_116 : decode cX9_rate 116 = .ok (.ladd, 1) := by decide +kernel
theorem dX9_rate_117 : decode cX9_rate 117 = .ok (.putfield 191, 3) := by decide +kernel
theorem dX9_rate_120 : decode cX9_rate 120 = .ok (.aload_n 0, 1) := by decide +kernel
theorem dX9_rate_121 : decode cX9_rate 121 = .ok (.iload_n 2, 1) := by decide +kernel
theorem dX9_rate_122 : decode cX9_rate 122 = .ok (.invokevirtual 197, 3) := by decide +kernel
theorem dX9_rate_125 : decode cX9_rate 125 = .ok (.aload_n 0, 1) := by decide +kernel
theorem dX9_rate_126 : decode cX9_rate 126 = .ok (.getfield 7, 3) := by decide +kernel
theorem dX9_rate_129 : decode cX9_rate 129 = .ok (.iconst 1, 1) := by decide +kernel
theorem dX9_rate_130 : decode cX9_rate 130 = .ok (.iaload, 1) := by decide +kernel
theorem dX9_rate_131 : decode cX9_rate 131 = .ok (.iadd, 1) := by decide +kernel
theorem dX9_rate_132 : decode cX9_rate 132 = .ok (.ireturn, 1) := by decide +kernel
theorem dX9_rate_133 : decode cX9_rate 133 = .ok (.aload_n 0, 1) := by decide +kernel
theorem dX9_rate_134 : decode cX9_rate 134 = .ok (.iload_n 2, 1) := by decide +kernel
theorem dX9_rate_135 : decode cX9_rate 135 = .ok (.invokevirtual 197, 3) := by decide +kernel
theorem dX9_rate_138 : decode cX9_rate 138 = .ok (.ireturn, 1) := by decide +kernel
theorem dX9_keep_0 : decode cX9_keep 0 = .ok (.iload_n 1, 1) := by decide +kernel
theorem dX9_keep_1 : decode cX9_keep 1 = .ok (.iconst 0, 1) := by decide +kernel
theorem dX9_keep_2 : decode cX9_keep 2 = .ok (.iconst 1, 1) := by decide +kernel
theorem dX9_keep_3 : decode cX9_keep 3 = .ok (.invokestatic 69, 3) := by decide +kernel
theorem dX9_keep_6 : decode cX9_keep 6 = .ok (.ifCond .ne 5, 3) := by decide +kernel
theorem dX9_keep_9 : decode cX9_keep 9 = .ok (.iconst (-1), 1) := by decide +kernel
theorem dX9_keep_10 : decode cX9_keep 10 = .ok (.ireturn, 1) := by decide +kernel
theorem dX9_keep_11 : decode cX9_keep 11 = .ok (.aload_n 0, 1) := by decide +kernel
theorem dX9_keep_12 : decode cX9_keep 12 = .ok (.iconst 0, 1) := by decide +kernel
theorem dX9_keep_13 : decode cX9_keep 13 = .ok (.sipush 132, 3) := by decide +kernel
theorem dX9_keep_16 : decode cX9_keep 16 = .ok (.bipush 12, 2) := by decide +kernel
theorem dX9_keep_18 : decode cX9_keep 18 = .ok (.iload_n 1, 1) := by decide +kernel
theorem dX9_keep_19 : decode cX9_keep 19 = .ok (.imul, 1) := by decide +kernel
theorem dX9_keep_20 : decode cX9_keep 20 = .ok (.iadd, 1) := by decide +kernel
theorem dX9_keep_21 : decode cX9_keep 21 = .ok (.invokevirtual 145, 3) := by decide +kernel
theorem dX9_keep_24 : decode cX9_keep 24 = .ok (.aload_n 0, 1) := by decide +kernel
theorem dX9_keep_25 : decode cX9_keep 25 = .ok (.getfield 29, 3) := by decide +kernel
theorem dX9_keep_28 : decode cX9_keep 28 = .ok (.iload_n 1, 1) := by decide +kernel
theorem dX9_keep_29 : decode cX9_keep 29 = .ok (.iconst 1, 1) := by decide +kernel
theorem dX9_keep_30 : decode cX9_keep 30 = .ok (.bastore, 1) := by decide +kernel
theorem dX9_keep_31 : decode cX9_keep 31 = .ok (.aload_n 0, 1) := by decide +kernel
theorem dX9_keep_32 : decode cX9_keep 32 = .ok (.getfield 7, 3) := by decide +kernel
theorem dX9_keep_35 : decode cX9_keep 35 = .ok (.iconst 0, 1) := by decide +kernel
theorem dX9_keep_36 : decode cX9_keep 36 = .ok (.iaload, 1) := by decide +kernel
theorem dX9_keep_37 : decode cX9_keep 37 = .ok (.ireturn, 1) := by decide +kernel
theorem dX9_back_0 : decode cX9_back 0 = .ok (.iload_n 1, 1) := by decide +kernel
theorem dX9_back_1 : decode cX9_back 1 = .ok (.iconst 0, 1) := by decide +kernel
theorem dX9_back_2 : decode cX9_back 2 = .ok (.iconst 1, 1) := by decide +kernel
theorem dX9_back_3 : decode cX9_back 3 = .ok (.invokestatic 69, 3) := by decide +kernel
theorem dX9_back_6 : decode cX9_back 6 = .ok (.ifCond .ne 5, 3) := by decide +kernel
theorem dX9_back_9 : decode cX9_back 9 = .ok (.iconst (-1), 1) := by decide +kernel
theorem dX9_back_10 : decode cX9_back 10 = .ok (.ireturn, 1) := by decide +kernel
theorem dX9_back_11 : decode cX9_back 11 = .ok (.aload_n 0, 1) := by decide +kernel
theorem dX9_back_12 : decode cX9_back 12 = .ok (.getfield 29, 3) := by decide +kernel
theorem dX9_back_15 : decode cX9_back 15 = .ok (.iload_n 1, 1) := by decide +kernel
theorem dX9_back_16 : decode cX9_back 16 = .ok (.baload, 1) := by decide +kernel
theorem dX9_back_17 : decode cX9_back 17 = .ok (.ifCond .ne 6, 3) := by decide +kernel
theorem dX9_back_20 : decode cX9_back 20 = .ok (.bipush (-2), 2) := by decide +kernel
theorem dX9_back_22 : decode cX9_back 22 = .ok (.ireturn, 1) := by decide +kernel
theorem dX9_back_23 : decode cX9_back 23 = .ok (.aload_n 0, 1) := by decide +kernel
theorem dX9_back_24 : decode cX9_back 24 = .ok (.sipush 132, 3) := by decide +kernel
theorem dX9_back_27 : decode cX9_back 27 = .ok (.bipush 12, 2) := by decide +kernel
theorem dX9_back_29 : decode cX9_back 29 = .ok (.iload_n 1, 1) := by decide +kernel
theorem dX9_back_30 : decode cX9_back 30 = .ok (.imul, 1) := by decide +kernel
theorem dX9_back_31 : decode cX9_back 31 = .ok (.iadd, 1) := by decide +kernel
theorem dX9_back_32 : decode cX9_back 32 = .ok (.iconst 0, 1) := by decide +kernel
theorem dX9_back_33 : decode cX9_back 33 = .ok (.invokevirtual 145, 3) := by decide +kernel
theorem dX9_back_36 : decode cX9_back 36 = .ok (.aload_n 0, 1) := by decide +kernel
theorem dX9_back_37 : decode cX9_back 37 = .ok (.iconst 0, 1) := by decide +kernel
theorem dX9_back_38 : decode cX9_back 38 = .ok (.putfield 116, 3) := by decide +kernel
theorem dX9_back_41 : decode cX9_back 41 = .ok (.aload_n 0, 1) := by decide +kernel
theorem dX9_back_42 : decode cX9_back 42 = .ok (.getfield 7, 3) := by decide +kernel
theorem dX9_back_45 : decode cX9_back 45 = .ok (.iconst 0, 1) := by decide +kernel
theorem dX9_back_46 : decode cX9_back 46 = .ok (.iaload, 1) := by decide +kernel
theorem dX9_back_47 : decode cX9_back 47 = .ok (.ireturn, 1) := by decide +kernel
theorem dX9_count_0 : decode cX9_count 0 = .ok (.iload_n 1, 1) := by decide +kernel
theorem dX9_count_1 : decode cX9_count 1 = .ok (.tableswitch 69 0 5 #[39, 44, 49, 54, 59, 64], 39) := by decide +kernel
theorem dX9_count_40 : decode cX9_count 40 = .ok (.aload_n 0, 1) := by decide +kernel
theorem dX9_count_41 : decode cX9_count 41 = .ok (.getfield 66, 3) := by decide +kernel
theorem dX9_count_44 : decode cX9_count 44 = .ok (.ireturn, 1) := by decide +kernel
theorem dX9_count_45 : decode cX9_count 45 = .ok (.aload_n 0, 1) := by decide +kernel
theorem dX9_count_46 : decode cX9_count 46 = .ok (.getfield 13, 3) := by decide +kernel
theorem dX9_count_49 : decode cX9_count 49 = .ok (.ireturn, 1) := by decide +kernel
theorem dX9_count_50 : decode cX9_count 50 = .ok (.aload_n 0, 1) := by decide +kernel
theorem dX9_count_51 : decode cX9_count 51 = .ok (.getfield 17, 3) := by decide +kernel
theorem dX9_count_54 : decode cX9_count 54 = .ok (.ireturn, 1) := by decide +kernel
theorem dX9_count_55 : decode cX9_count 55 = .ok (.aload_n 0, 1) := by decide +kernel
theorem dX9_count_56 : decode cX9_count 56 = .ok (.getfield 20, 3) := by decide +kernel
theorem dX9_count_59 : decode cX9_count 59 = .ok (.ireturn, 1) := by decide +kernel
theorem dX9_count_60 : decode cX9_count 60 = .ok (.aload_n 0, 1) := by decide +kernel
theorem dX9_count_61 : decode cX9_count 61 = .ok (.getfield 119, 3) := by decide +kernel
theorem dX9_count_64 : decode cX9_count 64 = .ok (.ireturn, 1) := by decide +kernel
theorem dX9_count_65 : decode cX9_count 65 = .ok (.aload_n 0, 1) := by decide +kernel
theorem dX9_count_66 : decode cX9_count 66 = .ok (.getfield 73, 3) := by decide +kernel
theorem dX9_count_69 : decode cX9_count 69 = .ok (.ireturn, 1) := by decide +kernel
theorem dX9_count_70 : decode cX9_count 70 = .ok (.iconst (-1), 1) := by decide +kernel
theorem dX9_count_71 : decode cX9_count 71 = .ok (.ireturn, 1) := by decide +kernel
theorem dX9_trace_0 : decode cX9_trace 0 = .ok (.aload_n 0, 1) := by decide +kernel
theorem dX9_trace_1 : decode cX9_trace 1 = .ok (.getfield 191, 3) := by decide +kernel
theorem dX9_trace_4 : decode cX9_trace 4 = .ok (.lreturn, 1) := by decide +kernel
theorem dJ9_max_7cf53_0 : decode cJ9_max_7cf53 0 = .ok (.iload_n 0, 1) := by decide +kernel
theorem dJ9_max_7cf53_1 : decode cJ9_max_7cf53 1 = .ok (.iload_n 1, 1) := by decide +kernel
theorem dJ9_max_7cf53_2 : decode cJ9_max_7cf53 2 = .ok (.if_icmp .lt 7, 3) := by decide +kernel
theorem dJ9_max_7cf53_5 : decode cJ9_max_7cf53 5 = .ok (.iload_n 0, 1) := by decide +kernel
theorem dJ9_max_7cf53_6 : decode cJ9_max_7cf53 6 = .ok (.goto 4, 3) := by decide +kernel
theorem dJ9_max_7cf53_9 : decode cJ9_max_7cf53 9 = .ok (.iload_n 1, 1) := by decide +kernel
theorem dJ9_max_7cf53_10 : decode cJ9_max_7cf53 10 = .ok (.ireturn, 1) := by decide +kernel
theorem dJ9_min_7cf53_0 : decode cJ9_min_7cf53 0 = .ok (.iload_n 0, 1) := by decide +kernel
theorem dJ9_min_7cf53_1 : decode cJ9_min_7cf53 1 = .ok (.iload_n 1, 1) := by decide +kernel
theorem dJ9_min_7cf53_2 : decode cJ9_min_7cf53 2 = .ok (.if_icmp .gt 7, 3) := by decide +kernel
theorem dJ9_min_7cf53_5 : decode cJ9_min_7cf53 5 = .ok (.iload_n 0, 1) := by decide +kernel
theorem dJ9_min_7cf53_6 : decode cJ9_min_7cf53 6 = .ok (.goto 4, 3) := by decide +kernel
theorem dJ9_min_7cf53_9 : decode cJ9_min_7cf53 9 = .ok (.iload_n 1, 1) := by decide +kernel
theorem dJ9_min_7cf53_10 : decode cJ9_min_7cf53 10 = .ok (.ireturn, 1) := by decide +kernel
theorem dJ7_fill_53178_0 : decode cJ7_fill_53178 0 = .ok (.iconst 0, 1) := by decide +kernel
theorem dJ7_fill_53178_1 : decode cJ7_fill_53178 1 = .ok (.istore_n 2, 1) := by decide +kernel
theorem dJ7_fill_53178_2 : decode cJ7_fill_53178 2 = .ok (.aload_n 0, 1) := by decide +kernel
theorem dJ7_fill_53178_3 : decode cJ7_fill_53178 3 = .ok (.arraylength, 1) := by decide +kernel
theorem dJ7_fill_53178_4 : decode cJ7_fill_53178 4 = .ok (.istore_n 3, 1) := by decide +kernel
theorem dJ7_fill_53178_5 : decode cJ7_fill_53178 5 = .ok (.iload_n 2, 1) := by decide +kernel
theorem dJ7_fill_53178_6 : decode cJ7_fill_53178 6 = .ok (.iload_n 3, 1) := by decide +kernel
theorem dJ7_fill_53178_7 : decode cJ7_fill_53178 7 = .ok (.if_icmp .ge 13, 3) := by decide +kernel
theorem dJ7_fill_53178_10 : decode cJ7_fill_53178 10 = .ok (.aload_n 0, 1) := by decide +kernel
theorem dJ7_fill_53178_11 : decode cJ7_fill_53178 11 = .ok (.iload_n 2, 1) := by decide +kernel
theorem dJ7_fill_53178_12 : decode cJ7_fill_53178 12 = .ok (.iload_n 1, 1) := by decide +kernel
theorem dJ7_fill_53178_13 : decode cJ7_fill_53178 13 = .ok (.iastore, 1) := by decide +kernel
theorem dJ7_fill_53178_14 : decode cJ7_fill_53178 14 = .ok (.iinc 2 1, 3) := by decide +kernel
theorem dJ7_fill_53178_17 : decode cJ7_fill_53178 17 = .ok (.goto (-12), 3) := by decide +kernel
theorem dJ7_fill_53178_20 : decode cJ7_fill_53178 20 = .ok (.return_, 1) := by decide +kernel
theorem dL_law_0 : decode cL_law 0 = .ok (.new 7, 3) := by decide +kernel
theorem dL_law_3 : decode cL_law 3 = .ok (.dup, 1) := by decide +kernel
theorem dL_law_4 : decode cL_law 4 = .ok (.invokespecial 9, 3) := by decide +kernel
theorem dL_law_7 : decode cL_law 7 = .ok (.astore_n 1, 1) := by decide +kernel
theorem dL_law_8 : decode cL_law 8 = .ok (.new 10, 3) := by decide +kernel
theorem dL_law_11 : decode cL_law 11 = .ok (.dup, 1) := by decide +kernel
theorem dL_law_12 : decode cL_law 12 = .ok (.invokespecial 12, 3) := by decide +kernel
theorem dL_law_15 : decode cL_law 15 = .ok (.astore_n 2, 1) := by decide +kernel
theorem dL_law_16 : decode cL_law 16 = .ok (.iconst 0, 1) := by decide +kernel
theorem dL_law_17 : decode cL_law 17 = .ok (.istore_n 3, 1) := by decide +kernel
theorem dL_law_18 : decode cL_law 18 = .ok (.iload_n 3, 1) := by decide +kernel
theorem dL_law_19 : decode cL_law 19 = .ok (.aload_n 0, 1) := by decide +kernel
theorem dL_law_20 : decode cL_law 20 = .ok (.arraylength, 1) := by decide +kernel
theorem dL_law_21 : decode cL_law 21 = .ok (.iconst 4, 1) := by decide +kernel
theorem dL_law_22 : decode cL_law 22 = .ok (.isub, 1) := by decide +kernel
theorem dL_law_23 : decode cL_law 23 = .ok (.if_icmp .gt 636, 3) := by decide +kernel
theorem dL_law_26 : decode cL_law 26 = .ok (.aload_n 0, 1) := by decide +kernel
theorem dL_law_27 : decode cL_law 27 = .ok (.iload_n 3, 1) := by decide +kernel
theorem dL_law_28 : decode cL_law 28 = .ok (.iaload, 1) := by decide +kernel
theorem dL_law_29 : decode cL_law 29 = .ok (.bipush 31, 2) := by decide +kernel
theorem dL_law_31 : decode cL_law 31 = .ok (.iand, 1) := by decide +kernel
theorem dL_law_32 : decode cL_law 32 = .ok (.tableswitch 621 0 21 #[104, 127, 140, 153, 186, 209, 222, 245, 268, 301, 314, 337, 370, 403, 446, 459, 482, 505, 538, 561, 584, 607], 104) := by decide +kernel
theorem dL_law_136 : decode cL_law 136 = .ok (.aload_n 1, 1) := by decide +kernel
theorem dL_law_137 : decode cL_law 137 = .ok (.aload_n 0, 1) := by decide +kernel
theorem dL_law_138 : decode cL_law 138 = .ok (.iload_n 3, 1) := by decide +kernel
theorem dL_law_139 : decode cL_law 139 = .ok (.iconst 1, 1) := by decide +kernel
theorem dL_law_140 : decode cL_law 140 = .ok (.iadd, 1) := by decide +kernel
theorem dL_law_141 : decode cL_law 141 = .ok (.iaload, 1) := by decide +kernel
theorem dL_law_142 : decode cL_law 142 = .ok (.invokevirtual 13, 3) := by decide +kernel
theorem dL_law_145 : decode cL_law 145 = .ok (.aload_n 2, 1) := by decide +kernel
theorem dL_law_146 : decode cL_law 146 = .ok (.aload_n 0, 1) := by decide +kernel
theorem dL_law_147 : decode cL_law 147 = .ok (.iload_n 3, 1) := by decide +kernel
theorem dL_law_148 : decode cL_law 148 = .ok (.iconst 1, 1) := by decide +kernel
theorem dL_law_149 : decode cL_law 149 = .ok (.iadd, 1) := by decide +kernel
theorem dL_law_150 : decode cL_law 150 = .ok (.iaload, 1) := by decide +kernel
theorem dL_law_151 : decode cL_law 151 = .ok (.invokevirtual 17, 3) := by decide +kernel
theorem dL_law_154 : decode cL_law 154 = .ok (.if_icmp .eq 499, 3) := by decide +kernel
theorem dL_law_157 : decode cL_law 157 = .ok (.iconst 0, 1) := by decide +kernel
theorem dL_law_158 : decode cL_law 158 = .ok (.ireturn, 1) := by decide +kernel
theorem dL_law_159 : decode cL_law 159 = .ok (.aload_n 1, 1) := by decide +kernel
theorem dL_law_160 : decode cL_law 160 = .ok (.invokevirtual 18, 3) := by decide +kernel
theorem dL_law_163 : decode cL_law 163 = .ok (.aload_n 2, 1) := by decide +kernel
theorem dL_law_164 : decode cL_law 164 = .ok (.invokevirtual 22, 3) := by decide +kernel
theorem dL_law_167 : decode cL_law 167 = .ok (.if_icmp .eq 486, 3) := by decide +kernel
theorem dL_law_170 : decode cL_law 170 = .ok (.iconst 0, 1) := by decide +kernel
theorem dL_law_171 : decode cL_law 171 = .ok (.ireturn, 1) := by decide +kernel
theorem dL_law_172 : decode cL_law 172 = .ok (.aload_n 1, 1) := by decide +kernel
theorem dL_law_173 : decode cL_law 173 = .ok (.invokevirtual 23, 3) := by decide +kernel
theorem dL_law_176 : decode cL_law 176 = .ok (.aload_n 2, 1) := by decide +kernel
theorem dL_law_177 : decode cL_law 177 = .ok (.invokevirtual 26, 3) := by decide +kernel
theorem dL_law_180 : decode cL_law 180 = .ok (.if_icmp .eq 473, 3) := by decide +kernel
theorem dL_law_183 : decode cL_law 183 = .ok (.iconst 0, 1) := by decide +kernel
theorem dL_law_184 : decode cL_law 184 = .ok (.ireturn, 1) := by decide +kernel
theorem dL_law_185 : decode cL_law 185 = .ok (.aload_n 1, 1) := by decide +kernel
theorem dL_law_186 : decode cL_law 186 = .ok (.aload_n 0, 1) := by decide +kernel
theorem dL_law_187 : decode cL_law 187 = .ok (.iload_n 3, 1) := by decide +kernel
theorem dL_law_188 : decode cL_law 188 = .ok (.iconst 1, 1) := by decide +kernel
theorem dL_law_189 : decode cL_law 189 = .ok (.iadd, 1) := by decide +kernel
theorem dL_law_190 : decode cL_law 190 = .ok (.iaload, 1) := by decide +kernel
theorem dL_law_191 : decode cL_law 191 = .ok (.aload_n 0, 1) := by decide +kernel
theorem dL_law_192 : decode cL_law 192 = .ok (.iload_n 3, 1) := by decide +kernel
theorem dL_law_193 : decode cL_law 193 = .ok (.iconst 2, 1) := by decide +kernel
theorem dL_law_194 : decode cL_law 194 = .ok (.iadd, 1) := by decide +kernel
theorem dL_law_195 : decode cL_law 195 = .ok (.iaload, 1) := by decide +kernel
theorem dL_law_196 : decode cL_law 196 = .ok (.invokevirtual 27, 3) := by decide +kernel
theorem dL_law_199 : decode cL_law 199 = .ok (.aload_n 2, 1) := by decide +kernel
theorem dL_law_200 : decode cL_law 200 = .ok (.aload_n 0, 1) := by decide +kernel
theorem dL_law_201 : decode cL_law 201 = .ok (.iload_n 3, 1) := by decide +kernel
theorem dL_law_202 : decode cL_law 202 = .ok (.iconst 1, 1) := by decide +kernel
theorem dL_law_203 : decode cL_law 203 = .ok (.iadd, 1) := by decide +kernel
theorem dL_law_204 : decode cL_law 204 = .ok (.iaload, 1) := by decide +kernel
theorem dL_law_205 : decode cL_law 205 = .ok (.aload_n 0, 1) := by decide +kernel
theorem dL_law_206 : decode cL_law 206 = .ok (.iload_n 3, 1) := by decide +kernel
theorem dL_law_207 : decode cL_law 207 = .ok (.iconst 2, 1) := by decide +kernel
theorem dL_law_208 : decode cL_law 208 = .ok (.iadd, 1) := by decide +kernel
theorem dL_law_209 : decode cL_law 209 = .ok (.iaload, 1) := by decide +kernel
theorem dL_law_210 : decode cL_law 210 = .ok (.invokevirtual 31, 3) := by decide +kernel
theorem dL_law_213 : decode cL_law 213 = .ok (.if_icmp .eq 440, 3) := by decide +kernel
theorem dL_law_216 : decode cL_law 216 = .ok (.iconst 0, 1) := by decide +kernel
theorem dL_law_217 : decode cL_law 217 = .ok (.ireturn, 1) := by decide +kernel
theorem dL_law_218 : decode cL_law 218 = .ok (.aload_n 1, 1) := by decide +kernel
theorem dL_law_219 : decode cL_law 219 = .ok (.aload_n 0, 1) := by decide +kernel
theorem dL_law_220 : decode cL_law 220 = .ok (.iload_n 3, 1) := by decide +kernel
theorem dL_law_221 : decode cL_law 221 = .ok (.iconst 1, 1) := by decide +kernel
theorem dL_law_222 : decode cL_law 222 = .ok (.iadd, 1) := by decide +kernel
theorem dL_law_223 : decode cL_law 223 = .ok (.iaload, 1) := by decide +kernel
theorem dL_law_224 : decode cL_law 224 = .ok (.invokevirtual 32, 3) := by decide +kernel
theorem dL_law_227 : decode cL_law 227 = .ok (.aload_n 2, 1) := by decide +kernel
theorem dL_law_228 : decode cL_law 228 = .ok (.aload_n 0, 1) := by decide +kernel
theorem dL_law_229 : decode cL_law 229 = .ok (.iload_n 3, 1) := by decide +kernel
theorem dL_law_230 : decode cL_law 230 = .ok (.iconst 1, 1) := by decide +kernel
theorem dL_law_231 : decode cL_law 231 = .ok (.iadd, 1) := by decide +kernel
theorem dL_law_232 : decode cL_law 232 = .ok (.iaload, 1) := by decide +kernel
theorem dL_law_233 : decode cL_law 233 = .ok (.invokevirtual 35, 3) := by decide +kernel
theorem dL_law_236 : decode cL_law 236 = .ok (.if_icmp .eq 417, 3) := by decide +kernel
theorem dL_law_239 : decode cL_law 239 = .ok (.iconst 0, 1) := by decide +kernel
theorem dL_law_240 : decode cL_law 240 = .ok (.ireturn, 1) := by decide +kernel
theorem dL_law_241 : decode cL_law 241 = .ok (.aload_n 1, 1) := by decide +kernel
theorem dL_law_242 : decode cL_law 242 = .ok (.invokevirtual 36, 3) := by decide +kernel
theorem dL_law_245 : decode cL_law 245 = .ok (.aload_n 2, 1) := by decide +kernel
theorem dL_law_246 : decode cL_law 246 = .ok (.invokevirtual 39, 3) := by decide +kernel
theorem dL_law_249 : decode cL_law 249 = .ok (.if_icmp .eq 404, 3) := by decide +kernel
theorem dL_law_252 : decode cL_law 252 = .ok (.iconst 0, 1) := by decide +kernel
theorem dL_law_253 : decode cL_law 253 = .ok (.ireturn, 1) := by decide +kernel
theorem dL_law_254 : decode cL_law 254 = .ok (.aload_n 1, 1) := by decide +kernel
theorem dL_law_255 : decode cL_law 255 = .ok (.aload_n 0, 1) := by decide +kernel
theorem dL_law_256 : decode cL_law 256 = .ok (.iload_n 3, 1) := by decide +kernel
theorem dL_law_257 : decode cL_law 257 = .ok (.iconst 1, 1) := by decide +kernel
theorem dL_law_258 : decode cL_law 258 = .ok (.iadd, 1) := by decide +kernel
theorem dL_law_259 : decode cL_law 259 = .ok (.iaload, 1) := by decide +kernel
theorem dL_law_260 : decode cL_law 260 = .ok (.invokevirtual 40, 3) := by decide +kernel
theorem dL_law_263 : decode cL_law 263 = .ok (.aload_n 2, 1) := by decide +kernel
theorem dL_law_264 : decode cL_law 264 = .ok (.aload_n 0, 1) := by decide +kernel
theorem dL_law_265 : decode cL_law 265 = .ok (.iload_n 3, 1) := by decide +kernel
theorem dL_law_266 : decode cL_law 266 = .ok (.iconst 1, 1) := by decide +kernel
theorem dL_law_267 : decode cL_law 267 = .ok (.iadd, 1) := by decide +kernel
theorem dL_law_268 : decode cL_law 268 = .ok (.iaload, 1) := by decide +kernel
theorem dL_law_269 : decode cL_law 269 = .ok (.invokevirtual 43, 3) := by decide +kernel
theorem dL_law_272 : decode cL_law 272 = .ok (.if_icmp .eq 381, 3) := by decide +kernel
theorem dL_law_275 : decode cL_law 275 = .ok (.iconst 0, 1) := by decide +kernel
theorem dL_law_276 : decode cL_law 276 = .ok (.ireturn, 1) := by decide +kernel
theorem dL_law_277 : decode cL_law 277 = .ok (.aload_n 1, 1) := by decide +kernel
theorem dL_law_278 : decode cL_law 278 = .ok (.aload_n 0, 1) := by decide +kernel
theorem dL_law_279 : decode cL_law 279 = .ok (.iload_n 3, 1) := by decide +kernel
theorem dL_law_280 : decode cL_law 280 = .ok (.iconst 1, 1) := by decide +kernel
theorem dL_law_281 : decode cL_law 281 = .ok (.iadd, 1) := by decide +kernel
theorem dL_law_282 : decode cL_law 282 = .ok (.iaload, 1) := by decide +kernel
theorem dL_law_283 : decode cL_law 283 = .ok (.invokevirtual 44, 3) := by decide +kernel
theorem dL_law_286 : decode cL_law 286 = .ok (.aload_n 2, 1) := by decide +kernel
theorem dL_law_287 : decode cL_law 287 = .ok (.aload_n 0, 1) := by decide +kernel
theorem dL_law_288 : decode cL_law 288 = .ok (.iload_n 3, 1) := by decide +kernel
theorem dL_law_289 : decode cL_law 289 = .ok (.iconst 1, 1) := by decide +kernel
theorem dL_law_290 : decode cL_law 290 = .ok (.iadd, 1) := by decide +kernel
theorem dL_law_291 : decode cL_law 291 = .ok (.iaload, 1) := by decide +kernel
theorem dL_law_292 : decode cL_law 292 = .ok (.invokevirtual 47, 3) := by decide +kernel
theorem dL_law_295 : decode cL_law 295 = .ok (.if_icmp .eq 358, 3) := by decide +kernel
theorem dL_law_298 : decode cL_law 298 = .ok (.iconst 0, 1) := by decide +kernel
theorem dL_law_299 : decode cL_law 299 = .ok (.ireturn, 1) := by decide +kernel
theorem dL_law_300 : decode cL_law 300 = .ok (.aload_n 1, 1) := by decide +kernel
theorem dL_law_301 : decode cL_law 301 = .ok (.aload_n 0, 1) := by decide +kernel
theorem dL_law_302 : decode cL_law 302 = .ok (.iload_n 3, 1) := by decide +kernel
theorem dL_law_303 : decode cL_law 303 = .ok (.iconst 1, 1) := by decide +kernel
theorem dL_law_304 : decode cL_law 304 = .ok (.iadd, 1) := by decide +kernel
theorem dL_law_305 : decode cL_law 305 = .ok (.iaload, 1) := by decide +kernel
theorem dL_law_306 : decode cL_law 306 = .ok (.aload_n 0, 1) := by decide +kernel
theorem dL_law_307 : decode cL_law 307 = .ok (.iload_n 3, 1) := by decide +kernel
theorem dL_law_308 : decode cL_law 308 = .ok (.iconst 2, 1) := by decide +kernel
theorem dL_law_309 : decode cL_law 309 = .ok (.iadd, 1) := by decide +kernel
theorem dL_law_310 : decode cL_law 310 = .ok (.iaload, 1) := by decide +kernel
theorem dL_law_311 : decode cL_law 311 = .ok (.invokevirtual 48, 3) := by decide +kernel
theorem dL_law_314 : decode cL_law 314 = .ok (.aload_n 2, 1) := by decide +kernel
theorem dL_law_315 : decode cL_law 315 = .ok (.aload_n 0, 1) := by decide +kernel
theorem dL_law_316 : decode cL_law 316 = .ok (.iload_n 3, 1) := by decide +kernel
theorem dL_law_317 : decode cL_law 317 = .ok (.iconst 1, 1) := by decide +kernel
theorem dL_law_318 : decode cL_law 318 = .ok (.iadd, 1) := by decide +kernel
theorem dL_law_319 : decode cL_law 319 = .ok (.iaload, 1) := by decide +kernel
theorem dL_law_320 : decode cL_law 320 = .ok (.aload_n 0, 1) := by decide +kernel
theorem dL_law_321 : decode cL_law 321 = .ok (.iload_n 3, 1) := by decide +kernel
theorem dL_law_322 : decode cL_law 322 = .ok (.iconst 2, 1) := by decide +kernel
theorem dL_law_323 : decode cL_law 323 = .ok (.iadd, 1) := by decide +kernel
theorem dL_law_324 : decode cL_law 324 = .ok (.iaload, 1) := by decide +kernel
theorem dL_law_325 : decode cL_law 325 = .ok (.invokevirtual 51, 3) := by decide +kernel
theorem dL_law_328 : decode cL_law 328 = .ok (.if_icmp .eq 325, 3) := by decide +kernel
theorem dL_law_331 : decode cL_law 331 = .ok (.iconst 0, 1) := by decide +kernel
theorem dL_law_332 : decode cL_law 332 = .ok (.ireturn, 1) := by decide +kernel
theorem dL_law_333 : decode cL_law 333 = .ok (.aload_n 1, 1) := by decide +kernel
theorem dL_law_334 : decode cL_law 334 = .ok (.invokevirtual 52, 3) := by decide +kernel
theorem dL_law_337 : decode cL_law 337 = .ok (.aload_n 2, 1) := by decide +kernel
theorem dL_law_338 : decode cL_law 338 = .ok (.invokevirtual 55, 3) := by decide +kernel
theorem dL_law_341 : decode cL_law 341 = .ok (.if_icmp .eq 312, 3) := by decide +kernel
theorem dL_law_344 : decode cL_law 344 = .ok (.iconst 0, 1) := by decide +kernel
theorem dL_law_345 : decode cL_law 345 = .ok (.ireturn, 1) := by decide +kernel
theorem dL_law_346 : decode cL_law 346 = .ok (.aload_n 1, 1) := by decide +kernel
theorem dL_law_347 : decode cL_law 347 = .ok (.aload_n 0, 1) := by decide +kernel
theorem dL_law_348 : decode cL_law 348 = .ok (.iload_n 3, 1) := by decide +kernel
theorem dL_law_349 : decode cL_law 349 = .ok (.iconst 1, 1) := by decide +kernel
theorem dL_law_350 : decode cL_law 350 = .ok (.iadd, 1) := by decide +kernel
theorem dL_law_351 : decode cL_law 351 = .ok (.iaload, 1) := by decide +kernel
theorem dL_law_352 : decode cL_law 352 = .ok (.invokevirtual 56, 3) := by decide +kernel
theorem dL_law_355 : decode cL_law 355 = .ok (.aload_n 2, 1) := by decide +kernel
theorem dL_law_356 : decode cL_law 356 = .ok (.aload_n 0, 1) := by decide +kernel
theorem dL_law_357 : decode cL_law 357 = .ok (.iload_n 3, 1) := by decide +kernel
theorem dL_law_358 : decode cL_law 358 = .ok (.iconst 1, 1) := by decide +kernel
theorem dL_law_359 : decode cL_law 359 = .ok (.iadd, 1) := by decide +kernel
theorem dL_law_360 : decode cL_law 360 = .ok (.iaload, 1) := by decide +kernel
theorem dL_law_361 : decode cL_law 361 = .ok (.invokevirtual 59, 3) := by decide +kernel
theorem dL_law_364 : decode cL_law 364 = .ok (.if_icmp .eq 289, 3) := by decide +kernel
theorem dL_law_367 : decode cL_law 367 = .ok (.iconst 0, 1) := by decide +kernel
theorem dL_law_368 : decode cL_law 368 = .ok (.ireturn, 1) := by decide +kernel
theorem dL_law_369 : decode cL_law 369 = .ok (.aload_n 1, 1) := by decide +kernel
theorem dL_law_370 : decode cL_law 370 = .ok (.aload_n 0, 1) := by decide +kernel
theorem dL_law_371 : decode cL_law 371 = .ok (.iload_n 3, 1) := by decide +kernel
theorem dL_law_372 : decode cL_law 372 = .ok (.iconst 1, 1) := by decide +kernel
theorem dL_law_373 : decode cL_law 373 = .ok (.iadd, 1) := by decide +kernel
theorem dL_law_374 : decode cL_law 374 = .ok (.iaload, 1) := by decide +kernel
theorem dL_law_375 : decode cL_law 375 = .ok (.aload_n 0, 1) := by decide +kernel
theorem dL_law_376 : decode cL_law 376 = .ok (.iload_n 3, 1) := by decide +kernel
theorem dL_law_377 : decode cL_law 377 = .ok (.iconst 2, 1) := by decide +kernel
theorem dL_law_378 : decode cL_law 378 = .ok (.iadd, 1) := by decide +kernel
theorem dL_law_379 : decode cL_law 379 = .ok (.iaload, 1) := by decide +kernel
theorem dL_law_380 : decode cL_law 380 = .ok (.invokevirtual 60, 3) := by decide +kernel
theorem dL_law_383 : decode cL_law 383 = .ok (.aload_n 2, 1) := by decide +kernel
theorem dL_law_384 : decode cL_law 384 = .ok (.aload_n 0, 1) := by decide +kernel
theorem dL_law_385 : decode cL_law 385 = .ok (.iload_n 3, 1) := by decide +kernel
theorem dL_law_386 : decode cL_law 386 = .ok (.iconst 1, 1) := by decide +kernel
theorem dL_law_387 : decode cL_law 387 = .ok (.iadd, 1) := by decide +kernel
theorem dL_law_388 : decode cL_law 388 = .ok (.iaload, 1) := by decide +kernel
theorem dL_law_389 : decode cL_law 389 = .ok (.aload_n 0, 1) := by decide +kernel
theorem dL_law_390 : decode cL_law 390 = .ok (.iload_n 3, 1) := by decide +kernel
theorem dL_law_391 : decode cL_law 391 = .ok (.iconst 2, 1) := by decide +kernel
theorem dL_law_392 : decode cL_law 392 = .ok (.iadd, 1) := by decide +kernel
theorem dL_law_393 : decode cL_law 393 = .ok (.iaload, 1) := by decide +kernel
theorem dL_law_394 : decode cL_law 394 = .ok (.invokevirtual 63, 3) := by decide +kernel
theorem dL_law_397 : decode cL_law 397 = .ok (.if_icmp .eq 256, 3) := by decide +kernel
theorem dL_law_400 : decode cL_law 400 = .ok (.iconst 0, 1) := by decide +kernel
theorem dL_law_401 : decode cL_law 401 = .ok (.ireturn, 1) := by decide +kernel
theorem dL_law_402 : decode cL_law 402 = .ok (.aload_n 1, 1) := by decide +kernel
theorem dL_law_403 : decode cL_law 403 = .ok (.aload_n 0, 1) := by decide +kernel
theorem dL_law_404 : decode cL_law 404 = .ok (.iload_n 3, 1) := by decide +kernel
theorem dL_law_405 : decode cL_law 405 = .ok (.iconst 1, 1) := by decide +kernel
theorem dL_law_406 : decode cL_law 406 = .ok (.iadd, 1) := by decide +kernel
theorem dL_law_407 : decode cL_law 407 = .ok (.iaload, 1) := by decide +kernel
theorem dL_law_408 : decode cL_law 408 = .ok (.aload_n 0, 1) := by decide +kernel
theorem dL_law_409 : decode cL_law 409 = .ok (.iload_n 3, 1) := by decide +kernel
theorem dL_law_410 : decode cL_law 410 = .ok (.iconst 2, 1) := by decide +kernel
theorem dL_law_411 : decode cL_law 411 = .ok (.iadd, 1) := by decide +kernel
theorem dL_law_412 : decode cL_law 412 = .ok (.iaload, 1) := by decide +kernel
theorem dL_law_413 : decode cL_law 413 = .ok (.invokevirtual 64, 3) := by decide +kernel
theorem dL_law_416 : decode cL_law 416 = .ok (.aload_n 2, 1) := by decide +kernel
theorem dL_law_417 : decode cL_law 417 = .ok (.aload_n 0, 1) := by decide +kernel
theorem dL_law_418 : decode cL_law 418 = .ok (.iload_n 3, 1) := by decide +kernel
theorem dL_law_419 : decode cL_law 419 = .ok (.iconst 1, 1) := by decide +kernel
theorem dL_law_420 : decode cL_law 420 = .ok (.iadd, 1) := by decide +kernel
theorem dL_law_421 : decode cL_law 421 = .ok (.iaload, 1) := by decide +kernel
theorem dL_law_422 : decode cL_law 422 = .ok (.aload_n 0, 1) := by decide +kernel
theorem dL_law_423 : decode cL_law 423 = .ok (.iload_n 3, 1) := by decide +kernel
theorem dL_law_424 : decode cL_law 424 = .ok (.iconst 2, 1) := by decide +kernel
theorem dL_law_425 : decode cL_law 425 = .ok (.iadd, 1) := by decide +kernel
theorem dL_law_426 : decode cL_law 426 = .ok (.iaload, 1) := by decide +kernel
theorem dL_law_427 : decode cL_law 427 = .ok (.invokevirtual 67, 3) := by decide +kernel
theorem dL_law_430 : decode cL_law 430 = .ok (.if_icmp .eq 223, 3) := by decide +kernel
theorem dL_law_433 : decode cL_law 433 = .ok (.iconst 0, 1) := by decide +kernel
theorem dL_law_434 : decode cL_law 434 = .ok (.ireturn, 1) := by decide +kernel
theorem dL_law_435 : decode cL_law 435 = .ok (.aload_n 1, 1) := by decide +kernel
theorem dL_law_436 : decode cL_law 436 = .ok (.aload_n 0, 1) := by decide +kernel
theorem dL_law_437 : decode cL_law 437 = .ok (.iload_n 3, 1) := by decide +kernel
theorem dL_law_438 : decode cL_law 438 = .ok (.iconst 1, 1) := by decide +kernel
theorem dL_law_439 : decode cL_law 439 = .ok (.iadd, 1) := by decide +kernel
theorem dL_law_440 : decode cL_law 440 = .ok (.iaload, 1) := by decide +kernel
theorem dL_law_441 : decode cL_law 441 = .ok (.aload_n 0, 1) := by decide +kernel
theorem dL_law_442 : decode cL_law 442 = .ok (.iload_n 3, 1) := by decide +kernel
theorem dL_law_443 : decode cL_law 443 = .ok (.iconst 2, 1) := by decide +kernel
theorem dL_law_444 : decode cL_law 444 = .ok (.iadd, 1) := by decide +kernel
theorem dL_law_445 : decode cL_law 445 = .ok (.iaload, 1) := by decide +kernel
theorem dL_law_446 : decode cL_law 446 = .ok (.aload_n 0, 1) := by decide +kernel
theorem dL_law_447 : decode cL_law 447 = .ok (.iload_n 3, 1) := by decide +kernel
theorem dL_law_448 : decode cL_law 448 = .ok (.iconst 3, 1) := by decide +kernel
theorem dL_law_449 : decode cL_law 449 = .ok (.iadd, 1) := by decide +kernel
theorem dL_law_450 : decode cL_law 450 = .ok (.iaload, 1) := by decide +kernel
theorem dL_law_451 : decode cL_law 451 = .ok (.invokevirtual 68, 3) := by decide +kernel
theorem dL_law_454 : decode cL_law 454 = .ok (.aload_n 2, 1) := by decide +kernel
theorem dL_law_455 : decode cL_law 455 = .ok (.aload_n 0, 1) := by decide +kernel
theorem dL_law_456 : decode cL_law 456 = .ok (.iload_n 3, 1) := by decide +kernel
theorem dL_law_457 : decode cL_law 457 = .ok (.iconst 1, 1) := by decide +kernel
theorem dL_law_458 : decode cL_law 458 = .ok (.iadd, 1) := by decide +kernel
theorem dL_law_459 : decode cL_law 459 = .ok (.iaload, 1) := by decide +kernel
theorem dL_law_460 : decode cL_law 460 = .ok (.aload_n 0, 1) := by decide +kernel
theorem dL_law_461 : decode cL_law 461 = .ok (.iload_n 3, 1) := by decide +kernel
theorem dL_law_462 : decode cL_law 462 = .ok (.iconst 2, 1) := by decide +kernel
theorem dL_law_463 : decode cL_law 463 = .ok (.iadd, 1) := by decide +kernel
theorem dL_law_464 : decode cL_law 464 = .ok (.iaload, 1) := by decide +kernel
theorem dL_law_465 : decode cL_law 465 = .ok (.aload_n 0, 1) := by decide +kernel
theorem dL_law_466 : decode cL_law 466 = .ok (.iload_n 3, 1) := by decide +kernel
theorem dL_law_467 : decode cL_law 467 = .ok (.iconst 3, 1) := by decide +kernel
theorem dL_law_468 : decode cL_law 468 = .ok (.iadd, 1) := by decide +kernel
theorem dL_law_469 : decode cL_law 469 = .ok (.iaload, 1) := by decide +kernel
theorem dL_law_470 : decode cL_law 470 = .ok (.invokevirtual 72, 3) := by decide +kernel
theorem dL_law_473 : decode cL_law 473 = .ok (.if_icmp .eq 180, 3) := by decide +kernel
theorem dL_law_476 : decode cL_law 476 = .ok (.iconst 0, 1) := by decide +kernel
theorem dL_law_477 : decode cL_law 477 = .ok (.ireturn, 1) := by decide +kernel
theorem dL_law_478 : decode cL_law 478 = .ok (.aload_n 1, 1) := by decide +kernel
theorem dL_law_479 : decode cL_law 479 = .ok (.invokevirtual 73, 3) := by decide +kernel
theorem dL_law_482 : decode cL_law 482 = .ok (.aload_n 2, 1) := by decide +kernel
theorem dL_law_483 : decode cL_law 483 = .ok (.invokevirtual 76, 3) := by decide +kernel
theorem dL_law_486 : decode cL_law 486 = .ok (.if_icmp .eq 167, 3) := by decide +kernel
theorem dL_law_489 : decode cL_law 489 = .ok (.iconst 0, 1) := by decide +kernel
theorem dL_law_490 : decode cL_law 490 = .ok (.ireturn, 1) := by decide +kernel
theorem dL_law_491 : decode cL_law 491 = .ok (.aload_n 1, 1) := by decide +kernel
theorem dL_law_492 : decode cL_law 492 = .ok (.aload_n 0, 1) := by decide +kernel
theorem dL_law_493 : decode cL_law 493 = .ok (.iload_n 3, 1) := by decide +kernel
theorem dL_law_494 : decode cL_law 494 = .ok (.iconst 1, 1) := by decide +kernel
theorem dL_law_495 : decode cL_law 495 = .ok (.iadd, 1) := by decide +kernel
theorem dL_law_496 : decode cL_law 496 = .ok (.iaload, 1) := by decide +kernel
theorem dL_law_497 : decode cL_law 497 = .ok (.invokevirtual 77, 3) := by decide +kernel
theorem dL_law_500 : decode cL_law 500 = .ok (.aload_n 2, 1) := by decide +kernel
theorem dL_law_501 : decode cL_law 501 = .ok (.aload_n 0, 1) := by decide +kernel
theorem dL_law_502 : decode cL_law 502 = .ok (.iload_n 3, 1) := by decide +kernel
theorem dL_law_503 : decode cL_law 503 = .ok (.iconst 1, 1) := by decide +kernel
theorem dL_law_504 : decode cL_law 504 = .ok (.iadd, 1) := by decide +kernel
theorem dL_law_505 : decode cL_law 505 = .ok (.iaload, 1) := by decide +kernel
theorem dL_law_506 : decode cL_law 506 = .ok (.invokevirtual 80, 3) := by decide +kernel
theorem dL_law_509 : decode cL_law 509 = .ok (.if_icmp .eq 144, 3) := by decide +kernel
theorem dL_law_512 : decode cL_law 512 = .ok (.iconst 0, 1) := by decide +kernel
theorem dL_law_513 : decode cL_law 513 = .ok (.ireturn, 1) := by decide +kernel
theorem dL_law_514 : decode cL_law 514 = .ok (.aload_n 1, 1) := by decide +kernel
theorem dL_law_515 : decode cL_law 515 = .ok (.aload_n 0, 1) := by decide +kernel
theorem dL_law_516 : decode cL_law 516 = .ok (.iload_n 3, 1) := by decide +kernel
theorem dL_law_517 : decode cL_law 517 = .ok (.iconst 1, 1) := by decide +kernel
theorem dL_law_518 : decode cL_law 518 = .ok (.iadd, 1) := by decide +kernel
theorem dL_law_519 : decode cL_law 519 = .ok (.iaload, 1) := by decide +kernel
theorem dL_law_520 : decode cL_law 520 = .ok (.invokevirtual 81, 3) := by decide +kernel
theorem dL_law_523 : decode cL_law 523 = .ok (.aload_n 2, 1) := by decide +kernel
theorem dL_law_524 : decode cL_law 524 = .ok (.aload_n 0, 1) := by decide +kernel
theorem dL_law_525 : decode cL_law 525 = .ok (.iload_n 3, 1) := by decide +kernel
theorem dL_law_526 : decode cL_law 526 = .ok (.iconst 1, 1) := by decide +kernel
theorem dL_law_527 : decode cL_law 527 = .ok (.iadd, 1) := by decide +kernel
theorem dL_law_528 : decode cL_law 528 = .ok (.iaload, 1) := by decide +kernel
theorem dL_law_529 : decode cL_law 529 = .ok (.invokevirtual 84, 3) := by decide +kernel
theorem dL_law_532 : decode cL_law 532 = .ok (.if_icmp .eq 121, 3) := by decide +kernel
theorem dL_law_535 : decode cL_law 535 = .ok (.iconst 0, 1) := by decide +kernel
theorem dL_law_536 : decode cL_law 536 = .ok (.ireturn, 1) := by decide +kernel
theorem dL_law_537 : decode cL_law 537 = .ok (.aload_n 1, 1) := by decide +kernel
theorem dL_law_538 : decode cL_law 538 = .ok (.aload_n 0, 1) := by decide +kernel
theorem dL_law_539 : decode cL_law 539 = .ok (.iload_n 3, 1) := by decide +kernel
theorem dL_law_540 : decode cL_law 540 = .ok (.iconst 1, 1) := by decide +kernel
theorem dL_law_541 : decode cL_law 541 = .ok (.iadd, 1) := by decide +kernel
theorem dL_law_542 : decode cL_law 542 = .ok (.iaload, 1) := by decide +kernel
theorem dL_law_543 : decode cL_law 543 = .ok (.aload_n 0, 1) := by decide +kernel
theorem dL_law_544 : decode cL_law 544 = .ok (.iload_n 3, 1) := by decide +kernel
theorem dL_law_545 : decode cL_law 545 = .ok (.iconst 2, 1) := by decide +kernel
theorem dL_law_546 : decode cL_law 546 = .ok (.iadd, 1) := by decide +kernel
theorem dL_law_547 : decode cL_law 547 = .ok (.iaload, 1) := by decide +kernel
theorem dL_law_548 : decode cL_law 548 = .ok (.invokevirtual 85, 3) := by decide +kernel
theorem dL_law_551 : decode cL_law 551 = .ok (.aload_n 2, 1) := by decide +kernel
theorem dL_law_552 : decode cL_law 552 = .ok (.aload_n 0, 1) := by decide +kernel
theorem dL_law_553 : decode cL_law 553 = .ok (.iload_n 3, 1) := by decide +kernel
theorem dL_law_554 : decode cL_law 554 = .ok (.iconst 1, 1) := by decide +kernel
theorem dL_law_555 : decode cL_law 555 = .ok (.iadd, 1) := by decide +kernel
theorem dL_law_556 : decode cL_law 556 = .ok (.iaload, 1) := by decide +kernel
theorem dL_law_557 : decode cL_law 557 = .ok (.aload_n 0, 1) := by decide +kernel
theorem dL_law_558 : decode cL_law 558 = .ok (.iload_n 3, 1) := by decide +kernel
theorem dL_law_559 : decode cL_law 559 = .ok (.iconst 2, 1) := by decide +kernel
theorem dL_law_560 : decode cL_law 560 = .ok (.iadd, 1) := by decide +kernel
theorem dL_law_561 : decode cL_law 561 = .ok (.iaload, 1) := by decide +kernel
theorem dL_law_562 : decode cL_law 562 = .ok (.invokevirtual 88, 3) := by decide +kernel
theorem dL_law_565 : decode cL_law 565 = .ok (.if_icmp .eq 88, 3) := by decide +kernel
theorem dL_law_568 : decode cL_law 568 = .ok (.iconst 0, 1) := by decide +kernel
theorem dL_law_569 : decode cL_law 569 = .ok (.ireturn, 1) := by decide +kernel
theorem dL_law_570 : decode cL_law 570 = .ok (.aload_n 1, 1) := by decide +kernel
theorem dL_law_571 : decode cL_law 571 = .ok (.aload_n 0, 1) := by decide +kernel
theorem dL_law_572 : decode cL_law 572 = .ok (.iload_n 3, 1) := by decide +kernel
theorem dL_law_573 : decode cL_law 573 = .ok (.iconst 1, 1) := by decide +kernel
theorem dL_law_574 : decode cL_law 574 = .ok (.iadd, 1) := by decide +kernel
theorem dL_law_575 : decode cL_law 575 = .ok (.iaload, 1) := by decide +kernel
theorem dL_law_576 : decode cL_law 576 = .ok (.invokevirtual 89, 3) := by decide +kernel
theorem dL_law_579 : decode cL_law 579 = .ok (.aload_n 2, 1) := by decide +kernel
theorem dL_law_580 : decode cL_law 580 = .ok (.aload_n 0, 1) := by decide +kernel
theorem dL_law_581 : decode cL_law 581 = .ok (.iload_n 3, 1) := by decide +kernel
theorem dL_law_582 : decode cL_law 582 = .ok (.iconst 1, 1) := by decide +kernel
theorem dL_law_583 : decode cL_law 583 = .ok (.iadd, 1) := by decide +kernel
theorem dL_law_584 : decode cL_law 584 = .ok (.iaload, 1) := by decide +kernel
theorem dL_law_585 : decode cL_law 585 = .ok (.invokevirtual 92, 3) := by decide +kernel
theorem dL_law_588 : decode cL_law 588 = .ok (.if_icmp .eq 65, 3) := by decide +kernel
theorem dL_law_591 : decode cL_law 591 = .ok (.iconst 0, 1) := by decide +kernel
theorem dL_law_592 : decode cL_law 592 = .ok (.ireturn, 1) := by decide +kernel
theorem dL_law_593 : decode cL_law 593 = .ok (.aload_n 1, 1) := by decide +kernel
theorem dL_law_594 : decode cL_law 594 = .ok (.aload_n 0, 1) := by decide +kernel
theorem dL_law_595 : decode cL_law 595 = .ok (.iload_n 3, 1) := by decide +kernel
theorem dL_law_596 : decode cL_law 596 = .ok (.iconst 1, 1) := by decide +kernel
theorem dL_law_597 : decode cL_law 597 = .ok (.iadd, 1) := by decide +kernel
theorem dL_law_598 : decode cL_law 598 = .ok (.iaload, 1) := by decide +kernel
theorem dL_law_599 : decode cL_law 599 = .ok (.invokevirtual 93, 3) := by decide +kernel
theorem dL_law_602 : decode cL_law 602 = .ok (.aload_n 2, 1) := by decide +kernel
theorem dL_law_603 : decode cL_law 603 = .ok (.aload_n 0, 1) := by decide +kernel
theorem dL_law_604 : decode cL_law 604 = .ok (.iload_n 3, 1) := by decide +kernel
theorem dL_law_605 : decode cL_law 605 = .ok (.iconst 1, 1) := by decide +kernel
theorem dL_law_606 : decode cL_law 606 = .ok (.iadd, 1) := by decide +kernel
theorem dL_law_607 : decode cL_law 607 = .ok (.iaload, 1) := by decide +kernel
theorem dL_law_608 : decode cL_law 608 = .ok (.invokevirtual 96, 3) := by decide +kernel
theorem dL_law_611 : decode cL_law 611 = .ok (.if_icmp .eq 42, 3) := by decide +kernel
theorem dL_law_614 : decode cL_law 614 = .ok (.iconst 0, 1) := by decide +kernel
theorem dL_law_615 : decode cL_law 615 = .ok (.ireturn, 1) := by decide +kernel
theorem dL_law_616 : decode cL_law 616 = .ok (.aload_n 1, 1) := by decide +kernel
theorem dL_law_617 : decode cL_law 617 = .ok (.aload_n 0, 1) := by decide +kernel
theorem dL_law_618 : decode cL_law 618 = .ok (.iload_n 3, 1) := by decide +kernel
theorem dL_law_619 : decode cL_law 619 = .ok (.iconst 1, 1) := by decide +kernel
theorem dL_law_620 : decode cL_law 620 = .ok (.iadd, 1) := by decide +kernel
theorem dL_law_621 : decode cL_law 621 = .ok (.iaload, 1) := by decide +kernel
theorem dL_law_622 : decode cL_law 622 = .ok (.invokevirtual 97, 3) := by decide +kernel
theorem dL_law_625 : decode cL_law 625 = .ok (.aload_n 2, 1) := by decide +kernel
theorem dL_law_626 : decode cL_law 626 = .ok (.aload_n 0, 1) := by decide +kernel
theorem dL_law_627 : decode cL_law 627 = .ok (.iload_n 3, 1) := by decide +kernel
theorem dL_law_628 : decode cL_law 628 = .ok (.iconst 1, 1) := by decide +kernel
theorem dL_law_629 : decode cL_law 629 = .ok (.iadd, 1) := by decide +kernel
theorem dL_law_630 : decode cL_law 630 = .ok (.iaload, 1) := by decide +kernel
theorem dL_law_631 : decode cL_law 631 = .ok (.invokevirtual 100, 3) := by decide +kernel
theorem dL_law_634 : decode cL_law 634 = .ok (.if_icmp .eq 19, 3) := by decide +kernel
theorem dL_law_637 : decode cL_law 637 = .ok (.iconst 0, 1) := by decide +kernel
theorem dL_law_638 : decode cL_law 638 = .ok (.ireturn, 1) := by decide +kernel
theorem dL_law_639 : decode cL_law 639 = .ok (.aload_n 1, 1) := by decide +kernel
theorem dL_law_640 : decode cL_law 640 = .ok (.invokevirtual 101, 3) := by decide +kernel
theorem dL_law_643 : decode cL_law 643 = .ok (.aload_n 2, 1) := by decide +kernel
theorem dL_law_644 : decode cL_law 644 = .ok (.invokevirtual 105, 3) := by decide +kernel
theorem dL_law_647 : decode cL_law 647 = .ok (.lcmp, 1) := by decide +kernel
theorem dL_law_648 : decode cL_law 648 = .ok (.ifCond .eq 5, 3) := by decide +kernel
theorem dL_law_651 : decode cL_law 651 = .ok (.iconst 0, 1) := by decide +kernel
theorem dL_law_652 : decode cL_law 652 = .ok (.ireturn, 1) := by decide +kernel
theorem dL_law_653 : decode cL_law 653 = .ok (.iinc 3 4, 3) := by decide +kernel
theorem dL_law_656 : decode cL_law 656 = .ok (.goto (-638), 3) := by decide +kernel
theorem dL_law_659 : decode cL_law 659 = .ok (.iconst 1, 1) := by decide +kernel
theorem dL_law_660 : decode cL_law 660 = .ok (.ireturn, 1) := by decide +kernel
