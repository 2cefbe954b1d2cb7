theorem dX9_next_8 : decode cX9_next 8 = .ok (.iconst (-1), 1) := by decide +kernel
theorem dX9_next_9 : decode cX9_next 9 = .ok (.ireturn, 1) := by decide +kernel
theorem dX9_next_10 : decode cX9_next 10 = .ok (.aload_n 0, 1) := by decide +kernel
theorem dX9_next_11 : decode cX9_next 11 = .ok (.invokevirtual 188, 3) := by decide +kernel
theorem dX9_next_14 : decode cX9_next 14 = .ok (.bipush (-9), 2) := by decide +kernel
theorem dX9_next_16 : decode cX9_next 16 = .ok (.istore_n 2, 1) := by decide +kernel
theorem dX9_next_17 : decode cX9_next 17 = .ok (.ldc 152, 2) := by decide +kernel
theorem dX9_next_19 : decode cX9_next 19 = .ok (.istore_n 3, 1) := by decide +kernel
theorem dX9_next_20 : decode cX9_next 20 = .ok (.iconst 1, 1) := by decide +kernel
theorem dX9_next_21 : decode cX9_next 21 = .ok (.istore 4, 2) := by decide +kernel
theorem dX9_next_23 : decode cX9_next 23 = .ok (.iload 4, 2) := by decide +kernel
theorem dX9_next_25 : decode cX9_next 25 = .ok (.bipush 61, 2) := by decide +kernel
theorem dX9_next_27 : decode cX9_next 27 = .ok (.if_icmp .ge 156, 3) := by decide +kernel
theorem dX9_next_30 : decode cX9_next 30 = .ok (.aload_n 0, 1) := by decide +kernel
theorem dX9_next_31 : decode cX9_next 31 = .ok (.getfield 182, 3) := by decide +kernel
theorem dX9_next_34 : decode cX9_next 34 = .ok (.iconst 1, 1) := by decide +kernel
theorem dX9_next_35 : decode cX9_next 35 = .ok (.if_icmp .le 148, 3) := by decide +kernel
theorem dX9_next_38 : decode cX9_next 38 = .ok (.iconst 0, 1) := by decide +kernel
theorem dX9_next_39 : decode cX9_next 39 = .ok (.istore 5, 2) := by decide +kernel
theorem dX9_next_41 : decode cX9_next 41 = .ok (.iconst 0, 1) := by decide +kernel
theorem dX9_next_42 : decode cX9_next 42 = .ok (.istore 6, 2) := by decide +kernel
theorem dX9_next_44 : decode cX9_next 44 = .ok (.iload 6, 2) := by decide +kernel
theorem dX9_next_46 : decode cX9_next 46 = .ok (.aload_n 0, 1) := by decide +kernel
theorem dX9_next_47 : decode cX9_next 47 = .ok (.getfield 66, 3) := by decide +kernel
theorem dX9_next_50 : decode cX9_next 50 = .ok (.if_icmp .gt 17, 3) := by decide +kernel
theorem dX9_next_53 : decode cX9_next 53 = .ok (.aload_n 0, 1) := by decide +kernel
theorem dX9_next_54 : decode cX9_next 54 = .ok (.getfield 63, 3) := by decide +kernel
theorem dX9_next_57 : decode cX9_next 57 = .ok (.iload 6, 2) := by decide +kernel
theorem dX9_next_59 : decode cX9_next 59 = .ok (.iconst 0, 1) := by decide +kernel
theorem dX9_next_60 : decode cX9_next 60 = .ok (.iastore, 1) := by decide +kernel
theorem dX9_next_61 : decode cX9_next 61 = .ok (.iinc 6 1, 3) := by decide +kernel
theorem dX9_next_64 : decode cX9_next 64 = .ok (.goto (-20), 3) := by decide +kernel
theorem dX9_next_67 : decode cX9_next 67 = .ok (.iconst 0, 1) := by decide +kernel
theorem dX9_next_68 : decode cX9_next 68 = .ok (.istore 6, 2) := by decide +kernel
theorem dX9_next_70 : decode cX9_next 70 = .ok (.iload 6, 2) := by decide +kernel
theorem dX9_next_72 : decode cX9_next 72 = .ok (.aload_n 0, 1) := by decide +kernel
theorem dX9_next_73 : decode cX9_next 73 = .ok (.getfield 182, 3) := by decide +kernel
theorem dX9_next_76 : decode cX9_next 76 = .ok (.if_icmp .ge 75, 3) := by decide +kernel
theorem dX9_next_79 : decode cX9_next 79 = .ok (.aload_n 0, 1) := by decide +kernel
theorem dX9_next_80 : decode cX9_next 80 = .ok (.aload_n 0, 1) := by decide +kernel
theorem dX9_next_81 : decode cX9_next 81 = .ok (.getfield 60, 3) := by decide +kernel
theorem dX9_next_84 : decode cX9_next 84 = .ok (.iload 6, 2) := by decide +kernel
theorem dX9_next_86 : decode cX9_next 86 = .ok (.iaload, 1) := by decide +kernel
theorem dX9_next_87 : decode cX9_next 87 = .ok (.bipush 10, 2) := by decide +kernel
theorem dX9_next_89 : decode cX9_next 89 = .ok (.idiv, 1) := by decide +kernel
theorem dX9_next_90 : decode cX9_next 90 = .ok (.aload_n 0, 1) := by decide +kernel
theorem dX9_next_91 : decode cX9_next 91 = .ok (.getfield 60, 3) := by decide +kernel
theorem dX9_next_94 : decode cX9_next 94 = .ok (.iload 6, 2) := by decide +kernel
theorem dX9_next_96 : decode cX9_next 96 = .ok (.iaload, 1) := by decide +kernel
theorem dX9_next_97 : decode cX9_next 97 = .ok (.bipush 10, 2) := by decide +kernel
theorem dX9_next_99 : decode cX9_next 99 = .ok (.irem, 1) := by decide +kernel
theorem dX9_next_100 : decode cX9_next 100 = .ok (.iload_n 1, 1) := by decide +kernel
theorem dX9_next_101 : decode cX9_next 101 = .ok (.iload 4, 2) := by decide +kernel
theorem dX9_next_103 : decode cX9_next 103 = .ok (.invokevirtual 178, 3) := by decide +kernel
theorem dX9_next_106 : decode cX9_next 106 = .ok (.istore 7, 2) := by decide +kernel
theorem dX9_next_108 : decode cX9_next 108 = .ok (.aload_n 0, 1) := by decide +kernel
theorem dX9_next_109 : decode cX9_next 109 = .ok (.getfield 63, 3) := by decide +kernel
theorem dX9_next_112 : decode cX9_next 112 = .ok (.iload 7, 2) := by decide +kernel
theorem dX9_next_114 : decode cX9_next 114 = .ok (.dup2, 1) := by decide +kernel
theorem dX9_next_115 : decode cX9_next 115 = .ok (.iaload, 1) := by decide +kernel
theorem dX9_next_116 : decode cX9_next 116 = .ok (.iconst 1, 1) := by decide +kernel
theorem dX9_next_117 : decode cX9_next 117 = .ok (.iadd, 1) := by decide +kernel
theorem dX9_next_118 : decode cX9_next 118 = .ok (.iastore, 1) := by decide +kernel
theorem dX9_next_119 : decode cX9_next 119 = .ok (.aload_n 0, 1) := by decide +kernel
theorem dX9_next_120 : decode cX9_next 120 = .ok (.getfield 63, 3) := by decide +kernel
theorem dX9_next_123 : decode cX9_next 123 = .ok (.iload 7, 2) := by decide +kernel
theorem dX9_next_125 : decode cX9_next 125 = .ok (.iaload, 1) := by decide +kernel
theorem dX9_next_126 : decode cX9_next 126 = .ok (.iload 5, 2) := by decide +kernel
theorem dX9_next_128 : decode cX9_next 128 = .ok (.if_icmp .le 13, 3) := by decide +kernel
theorem dX9_next_131 : decode cX9_next 131 = .ok (.aload_n 0, 1) := by decide +kernel
theorem dX9_next_132 : decode cX9_next 132 = .ok (.getfield 63, 3) := by decide +kernel
theorem dX9_next_135 : decode cX9_next 135 = .ok (.iload 7, 2) := by decide +kernel
theorem dX9_next_137 : decode cX9_next 137 = .ok (.iaload, 1) := by decide +kernel
theorem dX9_next_138 : decode cX9_next 138 = .ok (.goto 5, 3) := by decide +kernel
theorem dX9_next_141 : decode cX9_next 141 = .ok (.iload 5, 2) := by decide +kernel
theorem dX9_next_143 : decode cX9_next 143 = .ok (.istore 5, 2) := by decide +kernel
theorem dX9_next_145 : decode cX9_next 145 = .ok (.iinc 6 1, 3) := by decide +kernel
theorem dX9_next_148 : decode cX9_next 148 = .ok (.goto (-78), 3) := by decide +kernel
theorem dX9_next_151 : decode cX9_next 151 = .ok (.iload 5, 2) := by decide +kernel
theorem dX9_next_153 : decode cX9_next 153 = .ok (.iload_n 3, 1) := by decide +kernel
theorem dX9_next_154 : decode cX9_next 154 = .ok (.if_icmp .ge 8, 3) := by decide +kernel
theorem dX9_next_157 : decode cX9_next 157 = .ok (.iload 4, 2) := by decide +kernel
theorem dX9_next_159 : decode cX9_next 159 = .ok (.goto 4, 3) := by decide +kernel
theorem dX9_next_162 : decode cX9_next 162 = .ok (.iload_n 2, 1) := by decide +kernel
theorem dX9_next_163 : decode cX9_next 163 = .ok (.istore_n 2, 1) := by decide +kernel
theorem dX9_next_164 : decode cX9_next 164 = .ok (.iload 5, 2) := by decide +kernel
theorem dX9_next_166 : decode cX9_next 166 = .ok (.iload_n 3, 1) := by decide +kernel
theorem dX9_next_167 : decode cX9_next 167 = .ok (.if_icmp .ge 8, 3) := by decide +kernel
theorem dX9_next_170 : decode cX9_next 170 = .ok (.iload 5, 2) := by decide +kernel
theorem dX9_next_172 : decode cX9_next 172 = .ok (.goto 4, 3) := by decide +kernel
theorem dX9_next_175 : decode cX9_next 175 = .ok (.iload_n 3, 1) := by decide +kernel
theorem dX9_next_176 : decode cX9_next 176 = .ok (.istore_n 3, 1) := by decide +kernel
theorem dX9_next_177 : decode cX9_next 177 = .ok (.iinc 4 1, 3) := by decide +kernel
theorem dX9_next_180 : decode cX9_next 180 = .ok (.goto (-157), 3) := by decide +kernel
theorem dX9_next_183 : decode cX9_next 183 = .ok (.iload_n 2, 1) := by decide +kernel
theorem dX9_next_184 : decode cX9_next 184 = .ok (.ireturn, 1) := by decide +kernel
theorem dX9_coilRate_0 : decode cX9_coilRate 0 = .ok (.aload_n 0, 1) := by decide +kernel
theorem dX9_coilRate_1 : decode cX9_coilRate 1 = .ok (.dup, 1) := by decide +kernel
theorem dX9_coilRate_2 : decode cX9_coilRate 2 = .ok (.getfield 191, 3) := by decide +kernel
theorem dX9_coilRate_5 : decode cX9_coilRate 5 = .ok (.lconst 1, 1) := by decide +kernel
theorem dX9_coilRate_6 : decode cX9_coilRate 6 = .ok (.ladd, 1) := by decide +kernel
theorem dX9_coilRate_7 : decode cX9_coilRate 7 = .ok (.putfield 191, 3) := by decide +kernel
theorem dX9_coilRate_10 : decode cX9_coilRate 10 = .ok (.aload_n 0, 1) := by decide +kernel
theorem dX9_coilRate_11 : decode cX9_coilRate 11 = .ok (.getfield 23, 3) := by decide +kernel
theorem dX9_coilRate_14 : decode cX9_coilRate 14 = .ok (.iload_n 1, 1) := by decide +kernel
theorem dX9_coilRate_15 : decode cX9_coilRate 15 = .ok (.iaload, 1) := by decide +kernel
theorem dX9_coilRate_16 : decode cX9_coilRate 16 = .ok (.ireturn, 1) := by decide +kernel
set_option maxRecDepth 20000 in
theorem ggX9_brassRate_X9_coilRate : GoodIn wsX9_brassRate wsX9_coilRate := goodIn_r _ [8, 1, 9, 10, 11, 12, 13, 14, 15, 16, 17, 18, 19, 20, 21, 22, 23, 24, 25, 26, 27, 28, 29, 30, 31, 32, 33, 34, 35, 36, 37, 38, 39, 40, 41] (by decide +kernel) (by decide +kernel)
set_option maxRecDepth 20000 in
theorem gX9_brassRate_X9_coilRate : GoodIn wsX9_brassRate (wsV RX9 197 RX9 yX9_coilRate wsX9_coilRate) := goodIn_app (goodIn_of _ (by decide +kernel)) ggX9_brassRate_X9_coilRate
theorem dX9_brassRate_0 : decode cX9_brassRate 0 = .ok (.aload_n 0, 1) := by decide +kernel
theorem dX9_brassRate_1 : decode cX9_brassRate 1 = .ok (.dup, 1) := by decide +kernel
theorem dX9_brassRate_2 : decode cX9_brassRate 2 = .ok (.getfield 191, 3) := by decide +kernel
theorem dX9_brassRate_5 : decode cX9_brassRate 5 = .ok (.ldc2_w 195, 3) := by decide +kernel
theorem dX9_brassRate_8 : decode cX9_brassRate 8 = .ok (.ladd, 1) := by decide +kernel
theorem dX9_brassRate_9 : decode cX9_brassRate 9 = .ok (.putfield 191, 3) := by decide +kernel
theorem dX9_brassRate_12 : decode cX9_brassRate 12 = .ok (.aload_n 0, 1) := by decide +kernel
theorem dX9_brassRate_13 : decode cX9_brassRate 13 = .ok (.iload_n 1, 1) := by decide +kernel
theorem dX9_brassRate_14 : decode cX9_brassRate 14 = .ok (.invokevirtual 197, 3) := by decide +kernel
theorem dX9_brassRate_17 : decode cX9_brassRate 17 = .ok (.aload_n 0, 1) := by decide +kernel
theorem dX9_brassRate_18 : decode cX9_brassRate 18 = .ok (.getfield 26, 3) := by decide +kernel
theorem dX9_brassRate_21 : decode cX9_brassRate 21 = .ok (.iload_n 1, 1) := by decide +kernel
theorem dX9_brassRate_22 : decode cX9_brassRate 22 = .ok (.iaload, 1) := by decide +kernel
theorem dX9_brassRate_23 : decode cX9_brassRate 23 = .ok (.iadd, 1) := by decide +kernel
theorem dX9_brassRate_24 : decode cX9_brassRate 24 = .ok (.ireturn, 1) := by decide +kernel
set_option maxRecDepth 20000 in
theorem ggX9_paperRate_X9_coilRate : GoodIn wsX9_paperRate wsX9_coilRate := goodIn_r _ [8, 1, 9, 10, 11, 12, 13, 14, 15, 16, 17, 18, 19, 20, 21, 22, 23, 24, 25, 26, 27, 28, 29, 30, 31, 32, 33, 34, 35, 36, 37, 38, 39, 40, 41] (by decide +kernel) (by decide +kernel)
set_option maxRecDepth 20000 in
theorem gX9_paperRate_X9_coilRate : GoodIn wsX9_paperRate (wsV RX9 197 RX9 yX9_coilRate wsX9_coilRate) := goodIn_app (goodIn_of _ (by decide +kernel)) ggX9_paperRate_X9_coilRate
theorem dX9_paperRate_0 : decode cX9_paperRate 0 = .ok (.aload_n 0, 1) := by decide +kernel
theorem dX9_paperRate_1 : decode cX9_paperRate 1 = .ok (.dup, 1) := by decide +kernel
theorem dX9_paperRate_2 : decode cX9_paperRate 2 = .ok (.getfield 191, 3) := by decide +kernel
theorem dX9_paperRate_5 : decode cX9_paperRate 5 = .ok (.ldc2_w 200, 3) := by decide +kernel
theorem dX9_paperRate_8 : decode cX9_paperRate 8 = .ok (.ladd, 1) := by decide +kernel
theorem dX9_paperRate_9 : decode cX9_paperRate 9 = .ok (.putfield 191, 3) := by decide +kernel
theorem dX9_paperRate_12 : decode cX9_paperRate 12 = .ok (.aload_n 0, 1) := by decide +kernel
theorem dX9_paperRate_13 : decode cX9_paperRate 13 = .ok (.iload_n 1, 1) := by decide +kernel
theorem dX9_paperRate_14 : decode cX9_paperRate 14 = .ok (.invokevirtual 197, 3) := by decide +kernel
theorem dX9_paperRate_17 : decode cX9_paperRate 17 = .ok (.iconst 2, 1) := by decide +kernel
theorem dX9_paperRate_18 : decode cX9_paperRate 18 = .ok (.aload_n 0, 1) := by decide +kernel
theorem dX9_paperRate_19 : decode cX9_paperRate 19 = .ok (.getfield 7, 3) := by decide +kernel
theorem dX9_paperRate_22 : decode cX9_paperRate 22 = .ok (.iconst 3, 1) := by decide +kernel
theorem dX9_paperRate_23 : decode cX9_paperRate 23 = .ok (.iload_n 1, 1) := by decide +kernel
theorem dX9_paperRate_24 : decode cX9_paperRate 24 = .ok (.iadd, 1) := by decide +kernel
theorem dX9_paperRate_25 : decode cX9_paperRate 25 = .ok (.iaload, 1) := by decide +kernel
theorem dX9_paperRate_26 : decode cX9_paperRate 26 = .ok (.imul, 1) := by decide +kernel
theorem dX9_paperRate_27 : decode cX9_paperRate 27 = .ok (.isub, 1) := by decide +kernel
theorem dX9_paperRate_28 : decode cX9_paperRate 28 = .ok (.ireturn, 1) := by decide +kernel
set_option maxRecDepth 20000 in
theorem ggX9_rate_X9_in : GoodIn wsX9_rate wsX9_in := goodIn_r _ [10] (by decide +kernel) (by decide +kernel)
set_option maxRecDepth 20000 in
theorem gX9_rate_X9_in : GoodIn wsX9_rate (va_wsS RX9 69 yX9_in wsX9_in) := goodIn_app (goodIn_of _ (by decide +kernel)) ggX9_rate_X9_in
set_option maxRecDepth 20000 in
theorem ggX9_rate_X9_isStep : GoodIn wsX9_rate wsX9_isStep := goodIn_r _ [14, 15, 7, 8, 9, 10, 32, 33, 34, 35, 36, 37, 38, 39, 40, 41, 42, 43, 44, 45, 46, 47, 48, 49, 50, 51, 52, 53, 54, 55, 56, 57, 58, 59, 60, 61, 62, 63] (by decide +kernel) (by decide +kernel)
set_option maxRecDepth 20000 in
theorem gX9_rate_X9_isStep : GoodIn wsX9_rate (wsV RX9 122 RX9 yX9_isStep wsX9_isStep) := goodIn_app (goodIn_of _ (by decide +kernel)) ggX9_rate_X9_isStep
set_option maxRecDepth 20000 in
theorem ggX9_rate_X9_brassRate : GoodIn wsX9_rate wsX9_brassRate := goodIn_r _ [19, 2, 20, 21, 22, 23, 24, 9, 25, 26, 32, 33, 34, 35, 36, 37, 38, 39, 40, 41, 42, 43, 44, 45, 46, 47, 48, 49, 50, 51, 52, 53, 54, 55, 56, 57, 58, 59, 60, 61, 62, 63] (by decide +kernel) (by decide +kernel)
set_option maxRecDepth 20000 in
theorem gX9_rate_X9_brassRate : GoodIn wsX9_rate (wsV RX9 203 RX9 yX9_brassRate wsX9_brassRate) := goodIn_app (goodIn_of _ (by decide +kernel)) ggX9_rate_X9_brassRate
set_option maxRecDepth 20000 in
theorem ggX9_rate_X9_paperRate : GoodIn wsX9_rate wsX9_paperRate := goodIn_r _ [30, 2, 31, 6, 22, 23, 24, 9, 25, 26, 32, 33, 34, 35, 36, 37, 38, 39, 40, 41, 42, 43, 44, 45, 46, 47, 48, 49, 50, 51, 52, 53, 54, 55, 56, 57, 58, 59, 60, 61, 62, 63] (by decide +kernel) (by decide +kernel)
set_option maxRecDepth 20000 in
theorem gX9_rate_X9_paperRate : GoodIn wsX9_rate (wsV RX9 206 RX9 yX9_paperRate wsX9_paperRate) := goodIn_app (goodIn_of _ (by decide +kernel)) ggX9_rate_X9_paperRate
set_option maxRecDepth 20000 in
theorem ggX9_rate_X9_coilRate : GoodIn wsX9_rate wsX9_coilRate := goodIn_r _ [25, 2, 26, 32, 33, 34, 35, 36, 37, 38, 39, 40, 41, 42, 43, 44, 45, 46, 47, 48, 49, 50, 51, 52, 53, 54, 55, 56, 57, 58, 59, 60, 61, 62, 63] (by decide +kernel) (by decide +kernel)
set_option maxRecDepth 20000 in
theorem gX9_rate_X9_coilRate : GoodIn wsX9_rate (wsV RX9 197 RX9 yX9_coilRate wsX9_coilRate) := goodIn_app (goodIn_of _ (by decide +kernel)) ggX9_rate_X9_coilRate
theorem dX9_rate_0 : decode cX9_rate 0 = .ok (.iload_n 1, 1) := by decide +kernel
theorem dX9_rate_1 : decode cX9_rate 1 = .ok (.iconst 0, 1) := by decide +kernel
theorem dX9_rate_2 : decode cX9_rate 2 = .ok (.iconst 5, 1) := by decide +kernel
theorem dX9_rate_3 : decode cX9_rate 3 = .ok (.invokestatic 69, 3) := by decide +kernel
theorem dX9_rate_6 : decode cX9_rate 6 = .ok (.ifCond .eq 11, 3) := by decide +kernel
theorem dX9_rate_9 : decode cX9_rate 9 = .ok (.aload_n 0, 1) := by decide +kernel
theorem dX9_rate_10 : decode cX9_rate 10 = .ok (.iload_n 2, 1) := by decide +kernel
theorem dX9_rate_11 : decode cX9_rate 11 = .ok (.invokevirtual 122, 3) := by decide +kernel
theorem dX9_rate_14 : decode cX9_rate 14 = .ok (.ifCond .ne 6, 3) := by decide +kernel
theorem dX9_rate_17 : decode cX9_rate 17 = .ok (.ldc 202, 2) := by decide +kernel
theorem dX9_rate_19 : decode cX9_rate 19 = .ok (.ireturn, 1) := by decide +kernel
theorem dX9_rate_20 : decode cX9_rate 20 = .ok (.iload_n 1, 1) := by decide +kernel
theorem dX9_rate_21 : decode cX9_rate 21 = .ok (.tableswitch 112 1 5 #[35, 41, 47, 67, 87], 35) := by decide +kernel
theorem dX9_rate_56 : decode cX9_rate 56 = .ok (.aload_n 0, 1) := by decide +kernel
theorem dX9_rate_57 : decode cX9_rate 57 = .ok (.iload_n 2, 1) := by decide +kernel
theorem dX9_rate_58 : decode cX9_rate 58 = .ok (.invokevirtual 203, 3) := by decide +kernel
theorem dX9_rate_61 : decode cX9_rate 61 = .ok (.ireturn, 1) := by decide +kernel
theorem dX9_rate_62 : decode cX9_rate 62 = .ok (.aload_n 0, 1) := by decide +kernel
theorem dX9_rate_63 : decode cX9_rate 63 = .ok (.iload_n 2, 1) := by decide +kernel
theorem dX9_rate_64 : decode cX9_rate 64 = .ok (.invokevirtual 206, 3) := by decide +kernel
theorem dX9_rate_67 : decode cX9_rate 67 = .ok (.ireturn, 1) := by decide +kernel
theorem dX9_rate_68 : decode cX9_rate 68 = .ok (.aload_n 0, 1) := by decide +kernel
theorem dX9_rate_69 : decode cX9_rate 69 = .ok (.dup, 1) := by decide +kernel
theorem dX9_rate_70 : decode cX9_rate 70 = .ok (.getfield 191, 3) := by decide +kernel
theorem dX9_rate_73 : decode cX9_rate 73 = .ok (.ldc2_w 209, 3) := by decide +kernel
theorem dX9_rate_76 : decode cX9_rate 76 = .ok (.ladd, 1) := by decide +kernel
theorem dX9_rate_77 : decode cX9_rate 77 = .ok (.putfield 191, 3) := by decide +kernel
theorem dX9_rate_80 : decode cX9_rate 80 = .ok (.iconst 2, 1) := by decide +kernel
theorem dX9_rate_81 : decode cX9_rate 81 = .ok (.aload_n 0, 1) := by decide +kernel
theorem dX9_rate_82 : decode cX9_rate 82 = .ok (.iload_n 2, 1) := by decide +kernel
theorem dX9_rate_83 : decode cX9_rate 83 = .ok (.invokevirtual 203, 3) := by decide +kernel
theorem dX9_rate_86 : decode cX9_rate 86 = .ok (.imul, 1) := by decide +kernel
theorem dX9_rate_87 : decode cX9_rate 87 = .ok (.ireturn, 1) := by decide +kernel
theorem dX9_rate_88 : decode cX9_rate 88 = .ok (.aload_n 0, 1) := by decide +kernel
theorem dX9_rate_89 : decode cX9_rate 89 = .ok (.dup, 1) := by decide +kernel
theorem dX9_rate_90 : decode cX9_rate 90 = .ok (.getfield 191, 3) := by decide +kernel
theorem dX9_rate_93 : decode cX9_rate 93 = .ok (.ldc2_w 211, 3) := by decide +kernel
theorem dX9_rate_96 : decode cX9_rate 96 = .ok (.ladd, 1) := by decide +kernel
theorem dX9_rate_97 : decode cX9_rate 97 = .ok (.putfield 191, 3) := by decide +kernel
theorem dX9_rate_100 : decode cX9_rate 100 = .ok (.aload_n 0, 1) := by decide +kernel
theorem dX9_rate_101 : decode cX9_rate 101 = .ok (.iload_n 2, 1) := by decide +kernel
theorem dX9_rate_102 : decode cX9_rate 102 = .ok (.invokevirtual 206, 3) := by decide +kernel
theorem dX9_rate_105 : decode cX9_rate 105 = .ok (.iload_n 2, 1) := by decide +kernel
theorem dX9_rate_106 : decode cX9_rate 106 = .ok (.iadd, 1) := by decide +kernel
theorem dX9_rate_107 : decode cX9_rate 107 = .ok (.ireturn, 1) := by decide +kernel
theorem dX9_rate_108 : decode cX9_rate 108 = .ok (.aload_n 0, 1) := by decide +kernel
theorem dX9_rate_109 : decode cX9_rate 109 = .ok (.dup, 1) := by decide +kernel
theorem dX9_rate_110 : decode cX9_rate 110 = .ok (.getfield 191, 3) := by decide +kernel
theorem dX9_rate_113 : decode cX9_rate 113 = .ok (.ldc2_w 213, 3) := by decide +kernel
theorem dX9_rate_116 : decode cX9_rate 116 = .ok (.ladd, 1) := by decide +kernel
theorem dX9_rate_117 : decode cX9_rate 117 = .ok (.putfield 191, 3) := by decide +kernel
theorem dX9_rate_120 : decode cX9_rate 120 = .ok (.aload_n 0, 1) := by decide +kernel
theorem dX9_rate_121 : decode cX9_rate 121 = .ok (.iload_n 2, 1) := by decide +kernel
theorem dX9_rate_122 : decode cX9_rate 122 = .ok (.invokevirtual 197, 3) := by decide +kernel
theorem dX9_rate_125 : decode cX9_rate 125 = .ok (.aload_n 0, 1) := by decide +kernel
theorem dX9_rate_126 : decode cX9_rate 126 = .ok (.getfield 7, 3) := by decide +kernel
theorem dX9_rate_129 : decode cX9_rate 129 = .ok (.iconst 1, 1) := by decide +kernel
theorem dX9_rate_130 : decode cX9_rate 130 = .ok (.iaload, 1) := by decide +kernel
theorem dX9_rate_131 : decode cX9_rate 131 = .ok (.iadd, 1) := by decide +kernel
theorem dX9_rate_132 : decode cX9_rate 132 = .ok (.ireturn, 1) := by decide +kernel
theorem dX9_rate_133 : decode cX9_rate 133 = .ok (.aload_n 0, 1) := by decide +kernel
theorem dX9_rate_134 : decode cX9_rate 134 = .ok (.iload_n 2, 1) := by decide +kernel
theorem dX9_rate_135 : decode cX9_rate 135 = .ok (.invokevirtual 197, 3) := by decide +kernel
theorem dX9_rate_138 : decode cX9_rate 138 = .ok (.ireturn, 1) := by decide +kernel
set_option maxRecDepth 20000 in
theorem ggX9_keep_X9_in : GoodIn wsX9_keep wsX9_in := goodIn_r _ [6] (by decide +kernel) (by decide +kernel)
set_option maxRecDepth 20000 in
theorem gX9_keep_X9_in : GoodIn wsX9_keep (va_wsS RX9 69 yX9_in wsX9_in) := goodIn_app (goodIn_of _ (by decide +kernel)) ggX9_keep_X9_in
set_option maxRecDepth 20000 in
theorem ggX9_keep_X9_copyRow : GoodIn wsX9_keep wsX9_copyRow := goodIn_r _ [10, 2, 11, 12, 13, 14, 15, 16, 17, 18, 19, 20, 21, 22, 23, 24, 25, 26, 27, 28, 29, 30, 31, 32, 33, 34, 35, 36, 37, 38, 39, 40, 41, 42] (by decide +kernel) (by decide +kernel)
set_option maxRecDepth 20000 in
theorem gX9_keep_X9_copyRow : GoodIn wsX9_keep (wsV RX9 145 RX9 yX9_copyRow wsX9_copyRow) := goodIn_app (goodIn_of _ (by decide +kernel)) ggX9_keep_X9_copyRow
theorem dX9_keep_0 : decode cX9_keep 0 = .ok (.iload_n 1, 1) := by decide +kernel
theorem dX9_keep_1 : decode cX9_keep 1 = .ok (.iconst 0, 1) := by decide +kernel
theorem dX9_keep_2 : decode cX9_keep 2 = .ok (.iconst 1, 1) := by decide +kernel
theorem dX9_keep_3 : decode cX9_keep 3 = .ok (.invokestatic 69, 3) := by decide +kernel
theorem dX9_keep_6 : decode cX9_keep 6 = .ok (.ifCond .ne 5, 3) := by decide +kernel
theorem dX9_keep_9 : decode cX9_keep 9 = .ok (.iconst (-1), 1) := by decide +kernel
theorem dX9_keep_10 : decode cX9_keep 10 = .ok (.ireturn, 1) := by decide +kernel
theorem dX9_keep_11 : decode cX9_keep 11 = .ok (.aload_n 0, 1) := by decide +kernel
theorem dX9_keep_12 : decode cX9_keep 12 = .ok (.iconst 0, 1) := by decide +kernel
theorem dX9_keep_13 : decode cX9_keep 13 = .ok (.sipush 132, 3) := by decide +kernel
theorem dX9_keep_16 : decode cX9_keep 16 = .ok (.bipush 12, 2) := by decide +kernel
theorem dX9_keep_18 : decode cX9_keep 18 = .ok (.iload_n 1, 1) := by decide +kernel
theorem dX9_keep_19 : decode cX9_keep 19 = .ok (.imul, 1) := by decide +kernel
theorem dX9_keep_20 : decode cX9_keep 20 = .ok (.iadd, 1) := by decide +kernel
theorem dX9_keep_21 : decode cX9_keep 21 = .ok (.invokevirtual 145, 3) := by decide +kernel
theorem dX9_keep_24 : decode cX9_keep 24 = .ok (.aload_n 0, 1) := by decide +kernel
theorem dX9_keep_25 : decode cX9_keep 25 = .ok (.getfield 29, 3) := by decide +kernel
theorem dX9_keep_28 : decode cX9_keep 28 = .ok (.iload_n 1, 1) := by decide +kernel
theorem dX9_keep_29 : decode cX9_keep 29 = .ok (.iconst 1, 1) := by decide +kernel
theorem dX9_keep_30 : decode cX9_keep 30 = .ok (.bastore, 1) := by decide +kernel
theorem dX9_keep_31 : decode cX9_keep 31 = .ok (.aload_n 0, 1) := by decide +kernel
theorem dX9_keep_32 : decode cX9_keep 32 = .ok (.getfield 7, 3) := by decide +kernel
theorem dX9_keep_35 : decode cX9_keep 35 = .ok (.iconst 0, 1) := by decide +kernel
theorem dX9_keep_36 : decode cX9_keep 36 = .ok (.iaload, 1) := by decide +kernel
theorem dX9_keep_37 : decode cX9_keep 37 = .ok (.ireturn, 1) := by decide +kernel
set_option maxRecDepth 20000 in
theorem ggX9_back_X9_in : GoodIn wsX9_back wsX9_in := goodIn_r _ [7] (by decide +kernel) (by decide +kernel)
set_option maxRecDepth 20000 in
theorem gX9_back_X9_in : GoodIn wsX9_back (va_wsS RX9 69 yX9_in wsX9_in) := goodIn_app (goodIn_of _ (by decide +kernel)) ggX9_back_X9_in
set_option maxRecDepth 20000 in
theorem ggX9_back_X9_copyRow : GoodIn wsX9_back wsX9_copyRow := goodIn_r _ [11, 3, 12, 13, 14, 15, 16, 17, 18, 19, 20, 21, 22, 23, 24, 25, 26, 27, 28, 29, 30, 31, 32, 33, 34, 35, 36, 37, 38, 39, 40, 41, 42, 43] (by decide +kernel) (by decide +kernel)
set_option maxRecDepth 20000 in
theorem gX9_back_X9_copyRow : GoodIn wsX9_back (wsV RX9 145 RX9 yX9_copyRow wsX9_copyRow) := goodIn_app (goodIn_of _ (by decide +kernel)) ggX9_back_X9_copyRow
theorem dX9_back_0 : decode cX9_back 0 = .ok (.iload_n 1, 1) := by decide +kernel
theorem dX9_back_1 : decode cX9_back 1 = .ok (.iconst 0, 1) := by decide +kernel
theorem dX9_back_2 : decode cX9_back 2 = .ok (.iconst 1, 1) := by decide +kernel
theorem dX9_back_3 : decode cX9_back 3 = .ok (.invokestatic 69, 3) := by decide +kernel
theorem dX9_back_6 : decode cX9_back 6 = .ok (.ifCond .ne 5, 3) := by decide +kernel
theorem dX9_back_9 : decode cX9_back 9 = .ok (.iconst (-1), 1) := by decide +kernel
theorem dX9_back_10 : decode cX9_back 10 = .ok (.ireturn, 1) := by decide +kernel
theorem dX9_back_11 : decode cX9_back 11 = .ok (.aload_n 0, 1) := by decide +kernel
theorem dX9_back_12 : decode cX9_back 12 = .ok (.getfield 29, 3) := by decide +kernel
theorem dX9_back_15 : decode cX9_back 15 = .ok (.iload_n 1, 1) := by decide +kernel
theorem dX9_back_16 : decode cX9_back 16 = .ok (.baload, 1) := by decide +kernel
theorem dX9_back_17 : decode cX9_back 17 = .ok (.ifCond .ne 6, 3) := by decide +kernel
theorem dX9_back_20 : decode cX9_back 20 = .ok (.bipush (-2), 2) := by decide +kernel
theorem dX9_back_22 : decode cX9_back 22 = .ok (.ireturn, 1) := by decide +kernel
theorem dX9_back_23 : decode cX9_back 23 = .ok (.aload_n 0, 1) := by decide +kernel
theorem dX9_back_24 : decode cX9_back 24 = .ok (.sipush 132, 3) := by decide +kernel
theorem dX9_back_27 : decode cX9_back 27 = .ok (.bipush 12, 2) := by decide +kernel
theorem dX9_back_29 : decode cX9_back 29 = .ok (.iload_n 1, 1) := by decide +kernel
theorem dX9_back_30 : decode cX9_back 30 = .ok (.imul, 1) := by decide +kernel
theorem dX9_back_31 : decode cX9_back 31 = .ok (.iadd, 1) := by decide +kernel
theorem dX9_back_32 : decode cX9_back 32 = .ok (.iconst 0, 1) := by decide +kernel
theorem dX9_back_33 : decode cX9_back 33 = .ok (.invokevirtual 145, 3) := by decide +kernel
theorem dX9_back_36 : decode cX9_back 36 = .ok (.aload_n 0, 1) := by decide +kernel
theorem dX9_back_37 : decode cX9_back 37 = .ok (.iconst 0, 1) := by decide +kernel
theorem dX9_back_38 : decode cX9_back 38 = .ok (.putfield 116, 3) := by decide +kernel
theorem dX9_back_41 : decode cX9_back 41 = .ok (.aload_n 0, 1) := by decide +kernel
theorem dX9_back_42 : decode cX9_back 42 = .ok (.getfield 7, 3) := by decide +kernel
theorem dX9_back_45 : decode cX9_back 45 = .ok (.iconst 0, 1) := by decide +kernel
theorem dX9_back_46 : decode cX9_back 46 = .ok (.iaload, 1) := by decide +kernel
theorem dX9_back_47 : decode cX9_back 47 = .ok (.ireturn, 1) := by decide +kernel
theorem dX9_count_0 : decode cX9_count 0 = .ok (.iload_n 1, 1) := by decide +kernel
theorem dX9_count_1 : decode cX9_count 1 = .ok (.tableswitch 69 0 5 #[39, 44, 49, 54, 59, 64], 39) := by decide +kernel
theorem dX9_count_40 : decode cX9_count 40 = .ok (.aload_n 0, 1) := by decide +kernel
theorem dX9_count_41 : decode cX9_count 41 = .ok (.getfield 66, 3) := by decide +kernel
theorem dX9_count_44 : decode cX9_count 44 = .ok (.ireturn, 1) := by decide +kernel
theorem dX9_count_45 : decode cX9_count 45 = .ok (.aload_n 0, 1) := by decide +kernel
theorem dX9_count_46 : decode cX9_count 46 = .ok (.getfield 13, 3) := by decide +kernel
theorem dX9_count_49 : decode cX9_count 49 = .ok (.ireturn, 1) := by decide +kernel
theorem dX9_count_50 : decode cX9_count 50 = .ok (.aload_n 0, 1) := by decide +kernel
theorem dX9_count_51 : decode cX9_count 51 = .ok (.getfield 17, 3) := by decide +kernel
theorem dX9_count_54 : decode cX9_count 54 = .ok (.ireturn, 1) := by decide +kernel
theorem dX9_count_55 : decode cX9_count 55 = .ok (.aload_n 0, 1) := by decide +kernel
theorem dX9_count_56 : decode cX9_count 56 = .ok (.getfield 20, 3) := by decide +kernel
theorem dX9_count_59 : decode cX9_count 59 = .ok (.ireturn, 1) := by decide +kernel
theorem dX9_count_60 : decode cX9_count 60 = .ok (.aload_n 0, 1) := by decide +kernel
theorem dX9_count_61 : decode cX9_count 61 = .ok (.getfield 119, 3) := by decide +kernel
theorem dX9_count_64 : decode cX9_count 64 = .ok (.ireturn, 1) := by decide +kernel
theorem dX9_count_65 : decode cX9_count 65 = .ok (.aload_n 0, 1) := by decide +kernel
theorem dX9_count_66 : decode cX9_count 66 = .ok (.getfield 73, 3) := by decide +kernel
theorem dX9_count_69 : decode cX9_count 69 = .ok (.ireturn, 1) := by decide +kernel
theorem dX9_count_70 : decode cX9_count 70 = .ok (.iconst (-1), 1) := by decide +kernel
theorem dX9_count_71 : decode cX9_count 71 = .ok (.ireturn, 1) := by decide +kernel
theorem dX9_trace_0 : decode cX9_trace 0 = .ok (.aload_n 0, 1) := by decide +kernel
theorem dX9_trace_1 : decode cX9_trace 1 = .ok (.getfield 191, 3) := by decide +kernel
theorem dX9_trace_4 : decode cX9_trace 4 = .ok (.lreturn, 1) := by decide +kernel
theorem dJ9_max_7cf53_0 : decode cJ9_max_7cf53 0 = .ok (.iload_n 0, 1) := by decide +kernel
theorem dJ9_max_7cf53_1 : decode cJ9_max_7cf53 1 = .ok (.iload_n 1, 1) := by decide +kernel
theorem dJ9_max_7cf53_2 : decode cJ9_max_7cf53 2 = .ok (.if_icmp .lt 7, 3) := by decide +kernel
theorem dJ9_max_7cf53_5 : decode cJ9_max_7cf53 5 = .ok (.iload_n 0, 1) := by decide +kernel
theorem dJ9_max_7cf53_6 : decode cJ9_max_7cf53 6 = .ok (.goto 4, 3) := by decide +kernel
theorem dJ9_max_7cf53_9 : decode cJ9_max_7cf53 9 = .ok (.iload_n 1, 1) := by decide +kernel
theorem dJ9_max_7cf53_10 : decode cJ9_max_7cf53 10 = .ok (.ireturn, 1) := by decide +kernel
theorem dJ9_min_7cf53_0 : decode cJ9_min_7cf53 0 = .ok (.iload_n 0, 1) := by decide +kernel
theorem dJ9_min_7cf53_1 : decode cJ9_min_7cf53 1 = .ok (.iload_n 1, 1) := by decide +kernel
theorem dJ9_min_7cf53_2 : decode cJ9_min_7cf53 2 = .ok (.if_icmp .gt 7, 3) := by decide +kernel
theorem dJ9_min_7cf53_5 : decode cJ9_min_7cf53 5 = .ok (.iload_n 0, 1) := by decide +kernel
theorem dJ9_min_7cf53_6 : decode cJ9_min_7cf53 6 = .ok (.goto 4, 3) := by decide +kernel
theorem dJ9_min_7cf53_9 : decode cJ9_min_7cf53 9 = .ok (.iload_n 1, 1) := by decide +kernel
theorem dJ9_min_7cf53_10 : decode cJ9_min_7cf53 10 = .ok (.ireturn, 1) := by decide +kernel
theorem dJ7_fill_53178_0 : decode cJ7_fill_53178 0 = .ok (.iconst 0, 1) := by decide +kernel
theorem dJ7_fill_53178_1 : decode cJ7_fill_53178 1 = .ok (.istore_n 2, 1) := by decide +kernel
theorem dJ7_fill_53178_2 : decode cJ7_fill_53178 2 = .ok (.aload_n 0, 1) := by decide +kernel
theorem dJ7_fill_53178_3 : decode cJ7_fill_53178 3 = .ok (.arraylength, 1) := by decide +kernel
theorem dJ7_fill_53178_4 : decode cJ7_fill_53178 4 = .ok (.istore_n 3, 1) := by decide +kernel
theorem dJ7_fill_53178_5 : decode cJ7_fill_53178 5 = .ok (.iload_n 2, 1) := by decide +kernel
theorem dJ7_fill_53178_6 : decode cJ7_fill_53178 6 = .ok (.iload_n 3, 1) := by decide +kernel
theorem dJ7_fill_53178_7 : decode cJ7_fill_53178 7 = .ok (.if_icmp .ge 13, 3) := by decide +kernel
theorem dJ7_fill_53178_10 : decode cJ7_fill_53178 10 = .ok (.aload_n 0, 1) := by decide +kernel
theorem dJ7_fill_53178_11 : decode cJ7_fill_53178 11 = .ok (.iload_n 2, 1) := by decide +kernel
theorem dJ7_fill_53178_12 : decode cJ7_fill_53178 12 = .ok (.iload_n 1, 1) := by decide +kernel
theorem dJ7_fill_53178_13 : decode cJ7_fill_53178 13 = .ok (.iastore, 1) := by decide +kernel
theorem dJ7_fill_53178_14 : decode cJ7_fill_53178 14 = .ok (.iinc 2 1, 3) := by decide +kernel
theorem dJ7_fill_53178_17 : decode cJ7_fill_53178 17 = .ok (.goto (-12), 3) := by decide +kernel
theorem dJ7_fill_53178_20 : decode cJ7_fill_53178 20 = .ok (.return_, 1) := by decide +kernel
set_option maxRecDepth 20000 in
theorem ggL_law_X8_init : GoodIn wsL_law wsX8_init := goodIn_r _ [8, 9, 10, 11, 12, 13, 14, 15, 16, 17, 18, 19, 20, 21, 22, 23, 24, 25, 26, 27, 28, 29, 30, 31, 32, 33, 34, 35, 36, 37, 38, 39, 40, 41, 42, 43, 44, 45, 46, 47, 48, 49, 50, 51, 52, 53, 54, 55, 56, 57, 58, 59, 60, 61, 62, 63, 64, 65, 66, 67, 68, 69, 70, 71, 72, 73, 74, 75, 76, 77, 78, 79, 80, 81, 82, 83, 84, 85, 86, 87, 88, 89, 90, 91, 92, 93, 94, 95, 96, 97, 98, 99, 100, 101, 102, 103, 104, 105, 106, 107, 108, 109, 110, 775, 776, 777, 778, 779, 780, 781, 732, 733, 734, 735, 736, 737, 738, 739, 740, 741, 742, 782, 783, 784, 785, 786, 787, 788, 789, 790, 791, 792, 793, 794, 795, 796, 797, 798, 799, 800, 801, 802, 803, 804, 805, 806, 807, 808, 809, 810, 811, 812, 813, 814, 815, 816, 817, 818, 819, 820, 821] (by decide +kernel) (by decide +kernel)
set_option maxRecDepth 20000 in
theorem gL_law_X8_init : GoodIn wsL_law (wsX8_init) := ggL_law_X8_init
set_option maxRecDepth 20000 in
theorem ggL_law_X9_init : GoodIn wsL_law wsX9_init := goodIn_r _ [113, 114, 10, 11, 52, 115, 116, 117, 118, 119, 120, 29, 121, 122, 123, 124, 125, 126, 127, 128, 129, 130, 131, 132, 743, 744, 745, 746, 747, 748, 749, 750, 751, 752, 753, 754, 755, 756, 757, 758, 759, 760, 761, 762, 763, 764, 765, 766, 767, 768, 769, 770, 771, 772, 773, 774] (by decide +kernel) (by decide +kernel)
set_option maxRecDepth 20000 in
theorem gL_law_X9_init : GoodIn wsL_law (wsX9_init) := ggL_law_X9_init
set_option maxRecDepth 20000 in
theorem ggL_law_X8_type : GoodIn wsL_law wsX8_type := goodIn_r _ [136, 19, 137, 138, 139, 2, 140, 141, 142, 143, 18, 144, 145, 68, 732, 733, 734, 735, 736, 737, 738, 739, 740, 741, 742, 782, 783, 784, 785, 786, 787, 788, 789, 790] (by decide +kernel) (by decide +kernel)
set_option maxRecDepth 20000 in
theorem gL_law_X8_type : GoodIn wsL_law (wsV RL 13 RX8 yX8_type wsX8_type) := goodIn_app (goodIn_of _ (by decide +kernel)) ggL_law_X8_type
set_option maxRecDepth 20000 in
theorem ggL_law_X9_type : GoodIn wsL_law wsX9_type := goodIn_r _ [149, 150, 122, 151, 152, 5, 153, 743, 744, 745, 746, 747, 748, 749, 750, 751, 752, 753, 754, 755, 756, 757, 758, 759, 760, 761, 762, 763, 764, 765, 766, 767, 768, 769, 770, 771, 772, 773, 774] (by decide +kernel) (by decide +kernel)
set_option maxRecDepth 20000 in
theorem gL_law_X9_type : GoodIn wsL_law (wsV RL 17 RX9 yX9_type wsX9_type) := goodIn_app (goodIn_of _ (by decide +kernel)) ggL_law_X9_type
set_option maxRecDepth 20000 in
theorem ggL_law_X8_clear : GoodIn wsL_law wsX8_clear := goodIn_r _ [157, 19, 137, 732, 733, 734, 735, 736, 737, 738, 739, 740, 741, 742, 782, 783, 784, 785, 786, 787, 788, 789, 790] (by decide +kernel) (by decide +kernel)
set_option maxRecDepth 20000 in
theorem gL_law_X8_clear : GoodIn wsL_law (wsV RL 18 RX8 yX8_clear wsX8_clear) := goodIn_app (goodIn_of _ (by decide +kernel)) ggL_law_X8_clear
set_option maxRecDepth 20000 in
theorem ggL_law_X9_clear : GoodIn wsL_law wsX9_clear := goodIn_r _ [161, 150, 743, 744, 745, 746, 747, 748, 749, 750, 751, 752, 753, 754, 755, 756, 757, 758, 759, 760, 761, 762, 763, 764, 765, 766, 767, 768, 769, 770, 771, 772, 773, 774] (by decide +kernel) (by decide +kernel)
set_option maxRecDepth 20000 in
theorem gL_law_X9_clear : GoodIn wsL_law (wsV RL 22 RX9 yX9_clear wsX9_clear) := goodIn_app (goodIn_of _ (by decide +kernel)) ggL_law_X9_clear
set_option maxRecDepth 20000 in
theorem ggL_law_X8_stairs : GoodIn wsL_law wsX8_stairs := goodIn_r _ [165, 19, 166, 15, 167, 23, 27, 168, 42, 169, 30, 137, 170, 171, 172, 173, 18, 174, 70, 175, 176, 177, 178, 179, 180, 181, 57, 58, 14, 59, 60, 61, 62, 63, 182, 183, 184, 185, 145, 68, 186, 187, 188, 189, 190, 191, 192, 193, 194, 195, 196, 197, 198, 199, 200, 201, 202, 203, 204, 205, 206, 207, 208, 209, 139, 2, 140, 210, 211, 212, 213, 53, 54, 55, 214, 215, 216, 217, 218, 219, 220, 221, 222, 223, 224, 225, 226, 227, 228, 22, 229, 230, 75, 231, 232, 233, 234, 732, 733, 734, 735, 736, 737, 738, 739, 740, 741, 742, 782, 783, 784, 785, 786, 787, 788, 789, 790, 795, 796, 797, 808, 809, 810, 811, 812, 813, 814, 815, 816, 775, 776, 777, 778, 779, 780, 781, 791, 792, 793, 794] (by decide +kernel) (by decide +kernel)
set_option maxRecDepth 20000 in
theorem gL_law_X8_stairs : GoodIn wsL_law (wsV RL 23 RX8 yX8_stairs wsX8_stairs) := goodIn_app (goodIn_of _ (by decide +kernel)) ggL_law_X8_stairs
set_option maxRecDepth 20000 in
theorem ggL_law_X9_stairs : GoodIn wsL_law wsX9_stairs := goodIn_r _ [238, 239, 150, 240, 241, 129, 116, 117, 118, 115, 119, 126, 120, 127, 128, 242, 243, 121, 244, 245, 246, 5, 247, 248, 249, 250, 251, 252, 122, 253, 254, 255, 256, 151, 152, 153, 257, 258, 259, 260, 261, 262, 263, 264, 265, 266, 267, 268, 269, 270, 271, 272, 273, 274, 275, 276, 277, 743, 744, 745, 746, 747, 748, 749, 750, 751, 752, 753, 754, 755, 756, 757, 758, 759, 760, 761, 762, 763, 764, 765, 766, 767, 768, 769, 770, 771, 772, 773, 774] (by decide +kernel) (by decide +kernel)
set_option maxRecDepth 20000 in
theorem gL_law_X9_stairs : GoodIn wsL_law (wsV RL 26 RX9 yX9_stairs wsX9_stairs) := goodIn_app (goodIn_of _ (by decide +kernel)) ggL_law_X9_stairs
set_option maxRecDepth 20000 in
theorem ggL_law_X8_step : GoodIn wsL_law wsX8_step := goodIn_r _ [281, 15, 282, 283, 23, 284, 285, 286, 287, 14, 288, 60, 139, 2, 140, 732, 733, 734, 735, 736, 737, 738, 739, 740, 741, 742, 775, 776, 777, 778, 779, 780, 781, 791, 792, 793, 794] (by decide +kernel) (by decide +kernel)
set_option maxRecDepth 20000 in
theorem gL_law_X8_step : GoodIn wsL_law (wsV RL 27 RX8 yX8_step wsX8_step) := goodIn_app (goodIn_of _ (by decide +kernel)) ggL_law_X8_step
set_option maxRecDepth 20000 in
theorem ggL_law_X9_step : GoodIn wsL_law wsX9_step := goodIn_r _ [292, 119, 120, 115, 293, 294, 295, 5, 296, 241, 151, 152, 153, 743, 744, 745, 746, 747, 748, 749, 750, 751, 752, 753, 754, 755, 756, 757, 758, 759, 760, 761, 762, 763, 764, 765, 766, 767, 768, 769, 770, 771, 772, 773, 774] (by decide +kernel) (by decide +kernel)
set_option maxRecDepth 20000 in
theorem gL_law_X9_step : GoodIn wsL_law (wsV RL 31 RX9 yX9_step wsX9_step) := goodIn_app (goodIn_of _ (by decide +kernel)) ggL_law_X9_step
set_option maxRecDepth 20000 in
theorem ggL_law_X8_now : GoodIn wsL_law wsX8_now := goodIn_r _ [300, 23, 301, 302, 303, 34, 304, 305, 38, 27, 168, 306, 307, 308, 2, 309, 310, 311, 312, 33, 313, 314, 86, 315, 223, 224, 225, 87, 316, 317, 318, 319, 320, 321, 322, 323, 324, 325, 326, 327, 328, 329, 330, 331, 332, 286, 287, 14, 288, 60, 139, 140, 333, 334, 335, 336, 337, 338, 339, 340, 341, 342, 343, 344, 345, 346, 347, 348, 349, 37, 350, 93, 92, 351, 352, 353, 354, 355, 356, 357, 358, 359, 360, 361, 362, 363, 364, 365, 366, 367, 368, 369, 370, 371, 372, 373, 374, 732, 733, 734, 735, 736, 737, 738, 739, 740, 741, 742, 791, 792, 793, 794, 798, 799, 800, 801, 802, 803, 804, 805, 795, 796, 797, 775, 776, 777, 778, 779, 780, 781, 806, 807] (by decide +kernel) (by decide +kernel)
set_option maxRecDepth 20000 in
theorem gL_law_X8_now : GoodIn wsL_law (wsV RL 32 RX8 yX8_now wsX8_now) := goodIn_app (goodIn_of _ (by decide +kernel)) ggL_law_X8_now
set_option maxRecDepth 20000 in
theorem ggL_law_X9_now : GoodIn wsL_law wsX9_now := goodIn_r _ [378, 115, 242, 379, 380, 381, 5, 382, 383, 384, 385, 386, 387, 388, 389, 390, 391, 392, 393, 394, 395, 117, 396, 118, 397, 398, 399, 400, 401, 402, 403, 404, 405, 119, 406, 407, 408, 409, 410, 411, 412, 241, 116, 120, 413, 414, 415, 416, 417, 418, 419, 420, 421, 130, 422, 423, 424, 425, 426, 743, 744, 745, 746, 747, 748, 749, 750, 751, 752, 753, 754, 755, 756, 757, 758, 759, 760, 761, 762, 763, 764, 765, 766, 767, 768, 769, 770, 771, 772, 773, 774] (by decide +kernel) (by decide +kernel)
set_option maxRecDepth 20000 in
theorem gL_law_X9_now : GoodIn wsL_law (wsV RL 35 RX9 yX9_now wsX9_now) := goodIn_app (goodIn_of _ (by decide +kernel)) ggL_law_X9_now
set_option maxRecDepth 20000 in
theorem ggL_law_X8_flips : GoodIn wsL_law wsX8_flips := goodIn_r _ [430, 15, 23, 301, 302, 303, 27, 34, 431, 432, 285, 286, 287, 14, 288, 60, 139, 2, 140, 433, 434, 435, 26, 436, 81, 437, 438, 439, 207, 208, 209, 440, 441, 442, 22, 443, 75, 231, 223, 224, 225, 232, 233, 234, 310, 311, 312, 33, 313, 314, 86, 315, 87, 316, 317, 318, 319, 444, 327, 328, 329, 325, 324, 330, 331, 445, 334, 335, 336, 337, 332, 338, 339, 340, 341, 342, 343, 344, 345, 346, 732, 733, 734, 735, 736, 737, 738, 739, 740, 741, 742, 791, 792, 793, 794, 798, 799, 800, 801, 802, 803, 804, 805, 775, 776, 777, 778, 779, 780, 781, 795, 796, 797] (by decide +kernel) (by decide +kernel)
set_option maxRecDepth 20000 in
theorem gL_law_X8_flips : GoodIn wsL_law (wsV RL 36 RX8 yX8_flips wsX8_flips) := goodIn_app (goodIn_of _ (by decide +kernel)) ggL_law_X8_flips
set_option maxRecDepth 20000 in
theorem ggL_law_X9_flips : GoodIn wsL_law wsX9_flips := goodIn_r _ [449, 115, 241, 450, 451, 452, 5, 453, 242, 388, 389, 390, 391, 392, 393, 394, 395, 117, 396, 118, 397, 383, 402, 403, 404, 405, 119, 406, 407, 408, 409, 410, 411, 412, 116, 120, 743, 744, 745, 746, 747, 748, 749, 750, 751, 752, 753, 754, 755, 756, 757, 758, 759, 760, 761, 762, 763, 764, 765, 766, 767, 768, 769, 770, 771, 772, 773, 774] (by decide +kernel) (by decide +kernel)
set_option maxRecDepth 20000 in
theorem gL_law_X9_flips : GoodIn wsL_law (wsV RL 39 RX9 yX9_flips wsX9_flips) := goodIn_app (goodIn_of _ (by decide +kernel)) ggL_law_X9_flips
set_option maxRecDepth 20000 in
theorem ggL_law_X8_pushes : GoodIn wsL_law wsX8_pushes := goodIn_r _ [457, 15, 23, 301, 27, 302, 138, 139, 2, 140, 285, 286, 287, 14, 288, 60, 433, 434, 435, 26, 436, 81, 437, 438, 439, 207, 208, 209, 440, 441, 442, 22, 443, 75, 231, 223, 224, 225, 232, 233, 234, 458, 338, 339, 732, 733, 734, 735, 736, 737, 738, 739, 740, 741, 742, 791, 792, 793, 794, 775, 776, 777, 778, 779, 780, 781, 795, 796, 797] (by decide +kernel) (by decide +kernel)
set_option maxRecDepth 20000 in
theorem gL_law_X8_pushes : GoodIn wsL_law (wsV RL 40 RX8 yX8_pushes wsX8_pushes) := goodIn_app (goodIn_of _ (by decide +kernel)) ggL_law_X8_pushes
set_option maxRecDepth 20000 in
theorem ggL_law_X9_pushes : GoodIn wsL_law wsX9_pushes := goodIn_r _ [462, 115, 241, 151, 152, 5, 153, 450, 451, 452, 453, 242, 388, 389, 390, 391, 406, 407, 408, 743, 744, 745, 746, 747, 748, 749, 750, 751, 752, 753, 754, 755, 756, 757, 758, 759, 760, 761, 762, 763, 764, 765, 766, 767, 768, 769, 770, 771, 772, 773, 774] (by decide +kernel) (by decide +kernel)
set_option maxRecDepth 20000 in
theorem gL_law_X9_pushes : GoodIn wsL_law (wsV RL 43 RX9 yX9_pushes wsX9_pushes) := goodIn_app (goodIn_of _ (by decide +kernel)) ggL_law_X9_pushes
set_option maxRecDepth 20000 in
theorem ggL_law_X8_lifts : GoodIn wsL_law wsX8_lifts := goodIn_r _ [466, 15, 23, 301, 27, 302, 285, 286, 287, 14, 288, 60, 139, 2, 140, 433, 434, 435, 26, 436, 81, 437, 438, 439, 207, 208, 209, 440, 441, 442, 22, 443, 75, 231, 223, 224, 225, 232, 233, 234, 732, 733, 734, 735, 736, 737, 738, 739, 740, 741, 742, 791, 792, 793, 794, 775, 776, 777, 778, 779, 780, 781, 795, 796, 797] (by decide +kernel) (by decide +kernel)
set_option maxRecDepth 20000 in
theorem gL_law_X8_lifts : GoodIn wsL_law (wsV RL 44 RX8 yX8_lifts wsX8_lifts) := goodIn_app (goodIn_of _ (by decide +kernel)) ggL_law_X8_lifts
set_option maxRecDepth 20000 in
theorem ggL_law_X9_lifts : GoodIn wsL_law wsX9_lifts := goodIn_r _ [470, 115, 293, 294, 295, 5, 296, 241, 151, 152, 153, 450, 451, 452, 453, 242, 388, 389, 390, 391, 743, 744, 745, 746, 747, 748, 749, 750, 751, 752, 753, 754, 755, 756, 757, 758, 759, 760, 761, 762, 763, 764, 765, 766, 767, 768, 769, 770, 771, 772, 773, 774] (by decide +kernel) (by decide +kernel)
set_option maxRecDepth 20000 in
theorem gL_law_X9_lifts : GoodIn wsL_law (wsV RL 47 RX9 yX9_lifts wsX9_lifts) := goodIn_app (goodIn_of _ (by decide +kernel)) ggL_law_X9_lifts
set_option maxRecDepth 20000 in
theorem ggL_law_X8_lays : GoodIn wsL_law wsX8_lays := goodIn_r _ [474, 15, 23, 284, 27, 285, 286, 287, 14, 288, 60, 139, 2, 140, 138, 433, 434, 435, 26, 436, 81, 437, 438, 439, 207, 208, 209, 440, 441, 442, 22, 443, 75, 231, 223, 224, 225, 232, 233, 234, 732, 733, 734, 735, 736, 737, 738, 739, 740, 741, 742, 791, 792, 793, 794, 775, 776, 777, 778, 779, 780, 781, 795, 796, 797] (by decide +kernel) (by decide +kernel)
set_option maxRecDepth 20000 in
theorem gL_law_X8_lays : GoodIn wsL_law (wsV RL 48 RX8 yX8_lays wsX8_lays) := goodIn_app (goodIn_of _ (by decide +kernel)) ggL_law_X8_lays
set_option maxRecDepth 20000 in
theorem ggL_law_X9_lays : GoodIn wsL_law wsX9_lays := goodIn_r _ [478, 115, 293, 294, 295, 5, 296, 241, 151, 152, 153, 450, 451, 452, 453, 242, 388, 389, 390, 391, 743, 744, 745, 746, 747, 748, 749, 750, 751, 752, 753, 754, 755, 756, 757, 758, 759, 760, 761, 762, 763, 764, 765, 766, 767, 768, 769, 770, 771, 772, 773, 774] (by decide +kernel) (by decide +kernel)
set_option maxRecDepth 20000 in
theorem gL_law_X9_lays : GoodIn wsL_law (wsV RL 51 RX9 yX9_lays wsX9_lays) := goodIn_app (goodIn_of _ (by decide +kernel)) ggL_law_X9_lays
set_option maxRecDepth 20000 in
theorem ggL_law_X8_undo : GoodIn wsL_law wsX8_undo := goodIn_r _ [482, 27, 23, 168, 483, 484, 485, 26, 486, 438, 437, 81, 440, 441, 442, 22, 443, 75, 231, 223, 224, 225, 232, 233, 234, 732, 733, 734, 735, 736, 737, 738, 739, 740, 741, 742, 795, 796, 797, 791, 792, 793, 794] (by decide +kernel) (by decide +kernel)
set_option maxRecDepth 20000 in
theorem gL_law_X8_undo : GoodIn wsL_law (wsV RL 52 RX8 yX8_undo wsX8_undo) := goodIn_app (goodIn_of _ (by decide +kernel)) ggL_law_X8_undo
set_option maxRecDepth 20000 in
theorem ggL_law_X9_undo : GoodIn wsL_law wsX9_undo := goodIn_r _ [490, 242, 388, 389, 390, 5, 391, 115, 743, 744, 745, 746, 747, 748, 749, 750, 751, 752, 753, 754, 755, 756, 757, 758, 759, 760, 761, 762, 763, 764, 765, 766, 767, 768, 769, 770, 771, 772, 773, 774] (by decide +kernel) (by decide +kernel)
set_option maxRecDepth 20000 in
theorem gL_law_X9_undo : GoodIn wsL_law (wsV RL 55 RX9 yX9_undo wsX9_undo) := goodIn_app (goodIn_of _ (by decide +kernel)) ggL_law_X9_undo
set_option maxRecDepth 20000 in
theorem ggL_law_X8_push : GoodIn wsL_law wsX8_push := goodIn_r _ [494, 15, 23, 302, 495, 496, 497, 14, 498, 60, 139, 2, 140, 458, 338, 339, 306, 307, 308, 309, 34, 301, 310, 311, 312, 33, 313, 314, 86, 315, 223, 224, 225, 87, 316, 317, 318, 319, 320, 321, 322, 323, 324, 325, 326, 327, 328, 329, 330, 331, 332, 286, 287, 288, 333, 334, 335, 336, 337, 340, 341, 342, 343, 344, 345, 346, 732, 733, 734, 735, 736, 737, 738, 739, 740, 741, 742, 791, 792, 793, 794, 775, 776, 777, 778, 779, 780, 781, 798, 799, 800, 801, 802, 803, 804, 805] (by decide +kernel) (by decide +kernel)
set_option maxRecDepth 20000 in
theorem gL_law_X8_push : GoodIn wsL_law (wsV RL 56 RX8 yX8_push wsX8_push) := goodIn_app (goodIn_of _ (by decide +kernel)) ggL_law_X8_push
set_option maxRecDepth 20000 in
theorem ggL_law_X9_push : GoodIn wsL_law wsX9_push := goodIn_r _ [502, 241, 115, 151, 152, 5, 153, 384, 385, 386, 387, 388, 389, 390, 391, 392, 393, 394, 395, 117, 396, 118, 397, 383, 406, 407, 408, 398, 399, 400, 401, 402, 403, 404, 405, 119, 409, 410, 411, 412, 116, 120, 743, 744, 745, 746, 747, 748, 749, 750, 751, 752, 753, 754, 755, 756, 757, 758, 759, 760, 761, 762, 763, 764, 765, 766, 767, 768, 769, 770, 771, 772, 773, 774] (by decide +kernel) (by decide +kernel)
set_option maxRecDepth 20000 in
theorem gL_law_X9_push : GoodIn wsL_law (wsV RL 59 RX9 yX9_push wsX9_push) := goodIn_app (goodIn_of _ (by decide +kernel)) ggL_law_X9_push
set_option maxRecDepth 20000 in
theorem ggL_law_X8_mat : GoodIn wsL_law wsX8_mat := goodIn_r _ [506, 15, 507, 495, 496, 497, 14, 498, 60, 139, 2, 140, 138, 508, 509, 510, 511, 34, 23, 512, 301, 302, 310, 311, 312, 33, 313, 314, 86, 315, 223, 224, 225, 87, 316, 317, 318, 319, 320, 321, 322, 323, 324, 325, 326, 327, 328, 329, 330, 331, 332, 286, 287, 288, 333, 334, 335, 336, 337, 338, 339, 340, 341, 342, 343, 344, 345, 346, 732, 733, 734, 735, 736, 737, 738, 739, 740, 741, 742, 775, 776, 777, 778, 779, 780, 781, 798, 799, 800, 801, 802, 803, 804, 805, 791, 792, 793, 794] (by decide +kernel) (by decide +kernel)
set_option maxRecDepth 20000 in
theorem gL_law_X8_mat : GoodIn wsL_law (wsV RL 60 RX8 yX8_mat wsX8_mat) := goodIn_app (goodIn_of _ (by decide +kernel)) ggL_law_X8_mat
set_option maxRecDepth 20000 in
theorem ggL_law_X9_mat : GoodIn wsL_law wsX9_mat := goodIn_r _ [516, 241, 115, 151, 152, 5, 153, 384, 385, 386, 387, 388, 389, 390, 391, 392, 393, 394, 395, 117, 396, 118, 397, 383, 398, 399, 400, 401, 402, 403, 404, 405, 119, 406, 407, 408, 409, 410, 411, 412, 116, 120, 743, 744, 745, 746, 747, 748, 749, 750, 751, 752, 753, 754, 755, 756, 757, 758, 759, 760, 761, 762, 763, 764, 765, 766, 767, 768, 769, 770, 771, 772, 773, 774] (by decide +kernel) (by decide +kernel)
set_option maxRecDepth 20000 in
theorem gL_law_X9_mat : GoodIn wsL_law (wsV RL 63 RX9 yX9_mat wsX9_mat) := goodIn_app (goodIn_of _ (by decide +kernel)) ggL_law_X9_mat
set_option maxRecDepth 20000 in
theorem ggL_law_X8_odds : GoodIn wsL_law wsX8_odds := goodIn_r _ [520, 46, 23, 521, 522, 138, 139, 2, 140, 523, 524, 525, 45, 526, 110, 527, 528, 529, 530, 531, 311, 312, 33, 313, 314, 86, 315, 223, 224, 225, 87, 316, 317, 318, 319, 532, 533, 534, 535, 536, 537, 538, 539, 109, 540, 541, 542, 543, 544, 545, 546, 547, 548, 549, 550, 321, 322, 323, 324, 325, 326, 327, 328, 329, 330, 331, 332, 286, 287, 14, 288, 60, 333, 334, 335, 336, 337, 338, 339, 340, 341, 342, 343, 344, 345, 346, 551, 552, 553, 554, 555, 732, 733, 734, 735, 736, 737, 738, 739, 740, 741, 742, 817, 818, 819, 820, 821, 791, 792, 793, 794, 798, 799, 800, 801, 802, 803, 804, 805, 775, 776, 777, 778, 779, 780, 781] (by decide +kernel) (by decide +kernel)
set_option maxRecDepth 20000 in
theorem gL_law_X8_odds : GoodIn wsL_law (wsV RL 64 RX8 yX8_odds wsX8_odds) := goodIn_app (goodIn_of _ (by decide +kernel)) ggL_law_X8_odds
set_option maxRecDepth 20000 in
theorem ggL_law_X9_odds : GoodIn wsL_law wsX9_odds := goodIn_r _ [559, 241, 115, 151, 152, 5, 153, 384, 385, 386, 387, 388, 389, 390, 391, 392, 393, 394, 395, 117, 396, 118, 397, 383, 398, 399, 400, 401, 402, 403, 404, 405, 119, 406, 407, 408, 409, 410, 411, 412, 116, 120, 743, 744, 745, 746, 747, 748, 749, 750, 751, 752, 753, 754, 755, 756, 757, 758, 759, 760, 761, 762, 763, 764, 765, 766, 767, 768, 769, 770, 771, 772, 773, 774] (by decide +kernel) (by decide +kernel)
set_option maxRecDepth 20000 in
theorem gL_law_X9_odds : GoodIn wsL_law (wsV RL 67 RX9 yX9_odds wsX9_odds) := goodIn_app (goodIn_of _ (by decide +kernel)) ggL_law_X9_odds
set_option maxRecDepth 20000 in
theorem ggL_law_X8_sees : GoodIn wsL_law wsX8_sees := goodIn_r _ [563, 15, 42, 169, 285, 286, 287, 14, 288, 60, 139, 2, 140, 138, 495, 496, 497, 498, 564, 565, 566, 41, 567, 568, 98, 99, 100, 732, 733, 734, 735, 736, 737, 738, 739, 740, 741, 742, 808, 809, 810, 811, 812, 813, 814, 815, 816, 775, 776, 777, 778, 779, 780, 781] (by decide +kernel) (by decide +kernel)
set_option maxRecDepth 20000 in
theorem gL_law_X8_sees : GoodIn wsL_law (wsV RL 68 RX8 yX8_sees wsX8_sees) := goodIn_app (goodIn_of _ (by decide +kernel)) ggL_law_X8_sees
set_option maxRecDepth 20000 in
theorem ggL_law_X9_sees : GoodIn wsL_law wsX9_sees := goodIn_r _ [572, 241, 243, 123, 124, 125, 293, 294, 295, 5, 296, 151, 152, 153, 743, 744, 745, 746, 747, 748, 749, 750, 751, 752, 753, 754, 755, 756, 757, 758, 759, 760, 761, 762, 763, 764, 765, 766, 767, 768, 769, 770, 771, 772, 773, 774] (by decide +kernel) (by decide +kernel)
set_option maxRecDepth 20000 in
theorem gL_law_X9_sees : GoodIn wsL_law (wsV RL 72 RX9 yX9_sees wsX9_sees) := goodIn_app (goodIn_of _ (by decide +kernel)) ggL_law_X9_sees
set_option maxRecDepth 20000 in
theorem ggL_law_X8_forget : GoodIn wsL_law wsX8_forget := goodIn_r _ [576, 42, 169, 732, 733, 734, 735, 736, 737, 738, 739, 740, 741, 742, 808, 809, 810, 811, 812, 813, 814, 815, 816] (by decide +kernel) (by decide +kernel)
set_option maxRecDepth 20000 in
theorem gL_law_X8_forget : GoodIn wsL_law (wsV RL 73 RX8 yX8_forget wsX8_forget) := goodIn_app (goodIn_of _ (by decide +kernel)) ggL_law_X8_forget
set_option maxRecDepth 20000 in
theorem ggL_law_X9_forget : GoodIn wsL_law wsX9_forget := goodIn_r _ [580, 243, 743, 744, 745, 746, 747, 748, 749, 750, 751, 752, 753, 754, 755, 756, 757, 758, 759, 760, 761, 762, 763, 764, 765, 766, 767, 768, 769, 770, 771, 772, 773, 774] (by decide +kernel) (by decide +kernel)
set_option maxRecDepth 20000 in
theorem gL_law_X9_forget : GoodIn wsL_law (wsV RL 76 RX9 yX9_forget wsX9_forget) := goodIn_app (goodIn_of _ (by decide +kernel)) ggL_law_X9_forget
set_option maxRecDepth 20000 in
theorem ggL_law_X8_ways : GoodIn wsL_law wsX8_ways := goodIn_r _ [584, 42, 23, 585, 586, 587, 138, 139, 2, 140, 588, 589, 590, 41, 591, 104, 592, 101, 102, 593, 311, 312, 33, 313, 314, 86, 315, 223, 224, 225, 87, 316, 317, 318, 319, 594, 595, 596, 597, 598, 599, 568, 98, 99, 100, 600, 321, 322, 323, 324, 325, 326, 327, 328, 329, 330, 331, 332, 286, 287, 14, 288, 60, 333, 334, 335, 336, 337, 338, 339, 340, 341, 342, 343, 344, 345, 346, 601, 373, 374, 732, 733, 734, 735, 736, 737, 738, 739, 740, 741, 742, 808, 809, 810, 811, 812, 813, 814, 815, 816, 791, 792, 793, 794, 798, 799, 800, 801, 802, 803, 804, 805, 775, 776, 777, 778, 779, 780, 781] (by decide +kernel) (by decide +kernel)
set_option maxRecDepth 20000 in
theorem gL_law_X8_ways : GoodIn wsL_law (wsV RL 77 RX8 yX8_ways wsX8_ways) := goodIn_app (goodIn_of _ (by decide +kernel)) ggL_law_X8_ways
set_option maxRecDepth 20000 in
theorem ggL_law_X9_ways : GoodIn wsL_law wsX9_ways := goodIn_r _ [605, 606, 131, 151, 152, 5, 153, 607, 608, 609, 610, 611, 612, 613, 614, 243, 123, 124, 125, 615, 616, 617, 618, 396, 397, 115, 388, 389, 390, 391, 398, 399, 400, 401, 402, 403, 404, 405, 119, 406, 407, 408, 409, 410, 411, 412, 241, 116, 120, 383, 743, 744, 745, 746, 747, 748, 749, 750, 751, 752, 753, 754, 755, 756, 757, 758, 759, 760, 761, 762, 763, 764, 765, 766, 767, 768, 769, 770, 771, 772, 773, 774] (by decide +kernel) (by decide +kernel)
set_option maxRecDepth 20000 in
theorem gL_law_X9_ways : GoodIn wsL_law (wsV RL 80 RX9 yX9_ways wsX9_ways) := goodIn_app (goodIn_of _ (by decide +kernel)) ggL_law_X9_ways
set_option maxRecDepth 20000 in
theorem ggL_law_X8_next : GoodIn wsL_law wsX8_next := goodIn_r _ [622, 15, 42, 23, 285, 286, 287, 14, 288, 60, 139, 2, 140, 588, 589, 590, 41, 591, 104, 592, 101, 102, 593, 311, 312, 33, 313, 314, 86, 315, 223, 224, 225, 87, 316, 317, 318, 319, 594, 595, 596, 597, 598, 599, 568, 98, 99, 100, 600, 321, 322, 323, 324, 325, 326, 327, 328, 329, 330, 331, 332, 333, 334, 335, 336, 337, 338, 339, 340, 341, 342, 343, 344, 345, 346, 623, 624, 625, 626, 627, 628, 629, 630, 103, 631, 632, 208, 633, 634, 355, 356, 357, 732, 733, 734, 735, 736, 737, 738, 739, 740, 741, 742, 775, 776, 777, 778, 779, 780, 781, 808, 809, 810, 811, 812, 813, 814, 815, 816, 791, 792, 793, 794, 798, 799, 800, 801, 802, 803, 804, 805] (by decide +kernel) (by decide +kernel)
set_option maxRecDepth 20000 in
theorem gL_law_X8_next : GoodIn wsL_law (wsV RL 81 RX8 yX8_next wsX8_next) := goodIn_app (goodIn_of _ (by decide +kernel)) ggL_law_X8_next
set_option maxRecDepth 20000 in
theorem ggL_law_X9_next : GoodIn wsL_law wsX9_next := goodIn_r _ [638, 426, 606, 241, 132, 131, 293, 294, 295, 5, 296, 151, 152, 153, 607, 608, 609, 610, 611, 612, 613, 614, 243, 123, 124, 125, 615, 616, 617, 618, 396, 397, 115, 388, 389, 390, 391, 398, 399, 400, 401, 402, 403, 404, 405, 119, 406, 407, 408, 409, 410, 411, 412, 116, 120, 383, 743, 744, 745, 746, 747, 748, 749, 750, 751, 752, 753, 754, 755, 756, 757, 758, 759, 760, 761, 762, 763, 764, 765, 766, 767, 768, 769, 770, 771, 772, 773, 774] (by decide +kernel) (by decide +kernel)
set_option maxRecDepth 20000 in
theorem gL_law_X9_next : GoodIn wsL_law (wsV RL 84 RX9 yX9_next wsX9_next) := goodIn_app (goodIn_of _ (by decide +kernel)) ggL_law_X9_next
set_option maxRecDepth 20000 in
theorem ggL_law_X8_rate : GoodIn wsL_law wsX8_rate := goodIn_r _ [642, 15, 643, 285, 286, 287, 14, 288, 60, 139, 2, 140, 644, 645, 646, 647, 47, 282, 648, 649, 650, 651, 652, 283, 653, 654, 655, 656, 657, 23, 284, 658, 659, 660, 661, 662, 663, 664, 665, 666, 667, 668, 669, 670, 671, 672, 302, 732, 733, 734, 735, 736, 737, 738, 739, 740, 741, 742, 775, 776, 777, 778, 779, 780, 781, 791, 792, 793, 794] (by decide +kernel) (by decide +kernel)
set_option maxRecDepth 20000 in
theorem gL_law_X8_rate : GoodIn wsL_law (wsV RL 85 RX8 yX8_rate wsX8_rate) := goodIn_app (goodIn_of _ (by decide +kernel)) ggL_law_X8_rate
set_option maxRecDepth 20000 in
theorem ggL_law_X9_rate : GoodIn wsL_law wsX9_rate := goodIn_r _ [676, 677, 678, 679, 680, 681, 115, 151, 152, 5, 153, 293, 294, 295, 296, 241, 682, 683, 684, 685, 686, 120, 687, 688, 689, 690, 119, 691, 692, 693, 694, 695, 743, 744, 745, 746, 747, 748, 749, 750, 751, 752, 753, 754, 755, 756, 757, 758, 759, 760, 761, 762, 763, 764, 765, 766, 767, 768, 769, 770, 771, 772, 773, 774] (by decide +kernel) (by decide +kernel)
set_option maxRecDepth 20000 in
theorem gL_law_X9_rate : GoodIn wsL_law (wsV RL 88 RX9 yX9_rate wsX9_rate) := goodIn_app (goodIn_of _ (by decide +kernel)) ggL_law_X9_rate
set_option maxRecDepth 20000 in
theorem ggL_law_X8_keep : GoodIn wsL_law wsX8_keep := goodIn_r _ [699, 28, 23, 30, 301, 138, 139, 2, 140, 700, 441, 442, 22, 443, 75, 231, 223, 224, 225, 232, 233, 234, 732, 733, 734, 735, 736, 737, 738, 739, 740, 741, 742, 791, 792, 793, 794] (by decide +kernel) (by decide +kernel)
set_option maxRecDepth 20000 in
theorem gL_law_X8_keep : GoodIn wsL_law (wsV RL 89 RX8 yX8_keep wsX8_keep) := goodIn_app (goodIn_of _ (by decide +kernel)) ggL_law_X8_keep
set_option maxRecDepth 20000 in
theorem ggL_law_X9_keep : GoodIn wsL_law wsX9_keep := goodIn_r _ [704, 121, 115, 151, 152, 5, 153, 388, 389, 390, 391, 743, 744, 745, 746, 747, 748, 749, 750, 751, 752, 753, 754, 755, 756, 757, 758, 759, 760, 761, 762, 763, 764, 765, 766, 767, 768, 769, 770, 771, 772, 773, 774] (by decide +kernel) (by decide +kernel)
set_option maxRecDepth 20000 in
theorem gL_law_X9_keep : GoodIn wsL_law (wsV RL 92 RX9 yX9_keep wsX9_keep) := goodIn_app (goodIn_of _ (by decide +kernel)) ggL_law_X9_keep
set_option maxRecDepth 20000 in
theorem ggL_law_X8_back : GoodIn wsL_law wsX8_back := goodIn_r _ [708, 30, 23, 28, 27, 168, 301, 138, 139, 2, 140, 700, 441, 442, 22, 443, 75, 231, 223, 224, 225, 232, 233, 234, 732, 733, 734, 735, 736, 737, 738, 739, 740, 741, 742, 795, 796, 797, 791, 792, 793, 794] (by decide +kernel) (by decide +kernel)
set_option maxRecDepth 20000 in
theorem gL_law_X8_back : GoodIn wsL_law (wsV RL 93 RX8 yX8_back wsX8_back) := goodIn_app (goodIn_of _ (by decide +kernel)) ggL_law_X8_back
set_option maxRecDepth 20000 in
theorem ggL_law_X9_back : GoodIn wsL_law wsX9_back := goodIn_r _ [712, 121, 242, 115, 151, 152, 5, 153, 388, 389, 390, 391, 743, 744, 745, 746, 747, 748, 749, 750, 751, 752, 753, 754, 755, 756, 757, 758, 759, 760, 761, 762, 763, 764, 765, 766, 767, 768, 769, 770, 771, 772, 773, 774] (by decide +kernel) (by decide +kernel)
set_option maxRecDepth 20000 in
theorem gL_law_X9_back : GoodIn wsL_law (wsV RL 96 RX9 yX9_back wsX9_back) := goodIn_app (goodIn_of _ (by decide +kernel)) ggL_law_X9_back
set_option maxRecDepth 20000 in
theorem ggL_law_X8_count : GoodIn wsL_law wsX8_count := goodIn_r _ [716, 15, 507, 717, 718, 719, 42, 169, 19, 137, 732, 733, 734, 735, 736, 737, 738, 739, 740, 741, 742, 775, 776, 777, 778, 779, 780, 781, 808, 809, 810, 811, 812, 813, 814, 815, 816, 782, 783, 784, 785, 786, 787, 788, 789, 790] (by decide +kernel) (by decide +kernel)
set_option maxRecDepth 20000 in
theorem gL_law_X8_count : GoodIn wsL_law (wsV RL 97 RX8 yX8_count wsX8_count) := goodIn_app (goodIn_of _ (by decide +kernel)) ggL_law_X8_count
set_option maxRecDepth 20000 in
theorem ggL_law_X9_count : GoodIn wsL_law wsX9_count := goodIn_r _ [723, 241, 116, 117, 118, 243, 150, 743, 744, 745, 746, 747, 748, 749, 750, 751, 752, 753, 754, 755, 756, 757, 758, 759, 760, 761, 762, 763, 764, 765, 766, 767, 768, 769, 770, 771, 772, 773, 774] (by decide +kernel) (by decide +kernel)
set_option maxRecDepth 20000 in
theorem gL_law_X9_count : GoodIn wsL_law (wsV RL 100 RX9 yX9_count wsX9_count) := goodIn_app (goodIn_of _ (by decide +kernel)) ggL_law_X9_count
set_option maxRecDepth 20000 in
theorem ggL_law_X8_trace : GoodIn wsL_law wsX8_trace := goodIn_r _ [727, 47, 732, 733, 734, 735, 736, 737, 738, 739, 740, 741, 742] (by decide +kernel) (by decide +kernel)
set_option maxRecDepth 20000 in
theorem gL_law_X8_trace : GoodIn wsL_law (wsV RL 101 RX8 yX8_trace wsX8_trace) := goodIn_app (goodIn_of _ (by decide +kernel)) ggL_law_X8_trace
set_option maxRecDepth 20000 in
theorem ggL_law_X9_trace : GoodIn wsL_law wsX9_trace := goodIn_r _ [731, 678, 743, 744, 745, 746, 747, 748, 749, 750, 751, 752, 753, 754, 755, 756, 757, 758, 759, 760, 761, 762, 763, 764, 765, 766, 767, 768, 769, 770, 771, 772, 773, 774] (by decide +kernel) (by decide +kernel)
set_option maxRecDepth 20000 in
theorem gL_law_X9_trace : GoodIn wsL_law (wsV RL 105 RX9 yX9_trace wsX9_trace) := goodIn_app (goodIn_of _ (by decide +kernel)) ggL_law_X9_trace
theorem dL_law_0 : decode cL_law 0 = .ok (.new 7, 3) := by decide +kernel
theorem dL_law_3 : decode cL_law 3 = .ok (.dup, 1) := by decide +kernel
theorem dL_law_4 : decode cL_law 4 = .ok (.invokespecial 9, 3) := by decide +kernel
theorem dL_law_7 : decode cL_law 7 = .ok (.astore_n 1, 1) := by decide +kernel
theorem dL_law_8 : decode cL_law 8 = .ok (.new 10, 3) := by decide +kernel
theorem dL_law_11 : decode cL_law 11 = .ok (.dup, 1) := by decide +kernel
theorem dL_law_12 : decode cL_law 12 = .ok (.invokespecial 12, 3) := by decide +kernel
theorem dL_law_15 : decode cL_law 15 = .ok (.astore_n 2, 1) := by decide +kernel
theorem dL_law_16 : decode cL_law 16 = .ok (.iconst 0, 1) := by decide +kernel
theorem dL_law_17 : decode cL_law 17 = .ok (.istore_n 3, 1) := by decide +kernel
theorem dL_law_18 : decode cL_law 18 = .ok (.iload_n 3, 1) := by decide +kernel
theorem dL_law_19 : decode cL_law 19 = .ok (.aload_n 0, 1) := by decide +kernel
theorem dL_law_20 : decode cL_law 20 = .ok (.arraylength, 1) := by decide +kernel
theorem dL_law_21 : decode cL_law 21 = .ok (.iconst 4, 1) := by decide +kernel
theorem dL_law_22 : decode cL_law 22 = .ok (.isub, 1) := by decide +kernel
theorem dL_law_23 : decode cL_law 23 = .ok (.if_icmp .gt 636, 3) := by decide +kernel
theorem dL_law_26 : decode cL_law 26 = .ok (.aload_n 0, 1) := by decide +kernel
theorem dL_law_27 : decode cL_law 27 = .ok (.iload_n 3, 1) := by decide +kernel
theorem dL_law_28 : decode cL_law 28 = .ok (.iaload, 1) := by decide +kernel
theorem dL_law_29 : decode cL_law 29 = .ok (.bipush 31, 2) := by decide +kernel
theorem dL_law_31 : decode cL_law 31 = .ok (.iand, 1) := by decide +kernel
theorem dL_law_32 : decode cL_law 32 = .ok (.tableswitch 621 0 21 #[104, 127, 140, 153, 186, 209, 222, 245, 268, 301, 314, 337, 370, 403, 446, 459, 482, 505, 538, 561, 584, 607], 104) := by decide +kernel
theorem dL_law_136 : decode cL_law 136 = .ok (.aload_n 1, 1) := by decide +kernel
theorem dL_law_137 : decode cL_law 137 = .ok (.aload_n 0, 1) := by decide +kernel
theorem dL_law_138 : decode cL_law 138 = .ok (.iload_n 3, 1) := by decide +kernel
theorem dL_law_139 : decode cL_law 139 = .ok (.iconst 1, 1) := by decide +kernel
theorem dL_law_140 : decode cL_law 140 = .ok (.iadd, 1) := by decide +kernel
theorem dL_law_141 : decode cL_law 141 = .ok (.iaload, 1) := by decide +kernel
theorem dL_law_142 : decode cL_law 142 = .ok (.invokevirtual 13, 3) := by decide +kernel
theorem dL_law_145 : decode cL_law 145 = .ok (.aload_n 2, 1) := by decide +kernel
theorem dL_law_146 : decode cL_law 146 = .ok (.aload_n 0, 1) := by decide +kernel
theorem dL_law_147 : decode cL_law 147 = .ok (.iload_n 3, 1) := by decide +kernel
theorem dL_law_148 : decode cL_law 148 = .ok (.iconst 1, 1) := by decide +kernel
theorem dL_law_149 : decode cL_law 149 = .ok (.iadd, 1) := by decide +kernel
theorem dL_law_150 : decode cL_law 150 = .ok (.iaload, 1) := by decide +kernel
theorem dL_law_151 : decode cL_law 151 = .ok (.invokevirtual 17, 3) := by decide +kernel
theorem dL_law_154 : decode cL_law 154 = .ok (.if_icmp .eq 499, 3) := by decide +kernel
theorem dL_law_157 : decode cL_law 157 = .ok (.iconst 0, 1) := by decide +kernel
theorem dL_law_158 : decode cL_law 158 = .ok (.ireturn, 1) := by decide +kernel
theorem dL_law_159 : decode cL_law 159 = .ok (.aload_n 1, 1) := by decide +kernel
theorem dL_law_160 : decode cL_law 160 = .ok (.invokevirtual 18, 3) := by decide +kernel
theorem dL_law_163 : decode cL_law 163 = .ok (.aload_n 2, 1) := by decide +kernel
theorem dL_law_164 : decode cL_law 164 = .ok (.invokevirtual 22, 3) := by decide +kernel
theorem dL_law_167 : decode cL_law 167 = .ok (.if_icmp .eq 486, 3) := by decide +kernel
theorem dL_law_170 : decode cL_law 170 = .ok (.iconst 0, 1) := by decide +kernel
theorem dL_law_171 : decode cL_law 171 = .ok (.ireturn, 1) := by decide +kernel
theorem dL_law_172 : decode cL_law 172 = .ok (.aload_n 1, 1) := by decide +kernel
theorem dL_law_173 : decode cL_law 173 = .ok (.invokevirtual 23, 3) := by decide +kernel
theorem dL_law_176 : decode cL_law 176 = .ok (.aload_n 2, 1) := by decide +kernel
theorem dL_law_177 : decode cL_law 177 = .ok (.invokevirtual 26, 3) := by decide +kernel
theorem dL_law_180 : decode cL_law 180 = .ok (.if_icmp .eq 473, 3) := by decide +kernel
theorem dL_law_183 : decode cL_law 183 = .ok (.iconst 0, 1) := by decide +kernel
theorem dL_law_184 : decode cL_law 184 = .ok (.ireturn, 1) := by decide +kernel
theorem dL_law_185 : decode cL_law 185 = .ok (.aload_n 1, 1) := by decide +kernel
theorem dL_law_186 : decode cL_law 186 = .ok (.aload_n 0, 1) := by decide +kernel
theorem dL_law_187 : decode cL_law 187 = .ok (.iload_n 3, 1) := by decide +kernel
theorem dL_law_188 : decode cL_law 188 = .ok (.iconst 1, 1) := by decide +kernel
theorem dL_law_189 : decode cL_law 189 = .ok (.iadd, 1) := by decide +kernel
theorem dL_law_190 : decode cL_law 190 = .ok (.iaload, 1) := by decide +kernel
theorem dL_law_191 : decode cL_law 191 = .ok (.aload_n 0, 1) := by decide +kernel
theorem dL_law_192 : decode cL_law 192 = .ok (.iload_n 3, 1) := by decide +kernel
theorem dL_law_193 : decode cL_law 193 = .ok (.iconst 2, 1) := by decide +kernel
theorem dL_law_194 : decode cL_law 194 = .ok (.iadd, 1) := by decide +kernel
theorem dL_law_195 : decode cL_law 195 = .ok (.iaload, 1) := by decide +kernel
theorem dL_law_196 : decode cL_law 196 = .ok (.invokevirtual 27, 3) := by decide +kernel
theorem dL_law_199 : decode cL_law 199 = .ok (.aload_n 2, 1) := by decide +kernel
theorem dL_law_200 : decode cL_law 200 = .ok (.aload_n 0, 1) := by decide +kernel
theorem dL_law_201 : decode cL_law 201 = .ok (.iload_n 3, 1) := by decide +kernel
theorem dL_law_202 : decode cL_law 202 = .ok (.iconst 1, 1) := by decide +kernel
theorem dL_law_203 : decode cL_law 203 = .ok (.iadd, 1) := by decide +kernel
theorem dL_law_204 : decode cL_law 204 = .ok (.iaload, 1) := by decide +kernel
theorem dL_law_205 : decode cL_law 205 = .ok (.aload_n 0, 1) := by decide +kernel
theorem dL_law_206 : decode cL_law 206 = .ok (.iload_n 3, 1) := by decide +kernel
theorem dL_law_207 : decode cL_law 207 = .ok (.iconst 2, 1) := by decide +kernel
theorem dL_law_208 : decode cL_law 208 = .ok (.iadd, 1) := by decide +kernel
theorem dL_law_209 : decode cL_law 209 = .ok (.iaload, 1) := by decide +kernel
theorem dL_law_210 : decode cL_law 210 = .ok (.invokevirtual 31, 3) := by decide +kernel
theorem dL_law_213 : decode cL_law 213 = .ok (.if_icmp .eq 440, 3) := by decide +kernel
theorem dL_law_216 : decode cL_law 216 = .ok (.iconst 0, 1) := by decide +kernel
theorem dL_law_217 : decode cL_law 217 = .ok (.ireturn, 1) := by decide +kernel
theorem dL_law_218 : decode cL_law 218 = .ok (.aload_n 1, 1) := by decide +kernel
theorem dL_law_219 : decode cL_law 219 = .ok (.aload_n 0, 1) := by decide +kernel
theorem dL_law_220 : decode cL_law 220 = .ok (.iload_n 3, 1) := by decide +kernel
theorem dL_law_221 : decode cL_law 221 = .ok (.iconst 1, 1) := by decide +kernel
theorem dL_law_222 : decode cL_law 222 = .ok (.iadd, 1) := by decide +kernel
theorem dL_law_223 : decode cL_law 223 = .ok (.iaload, 1) := by decide +kernel
theorem dL_law_224 : decode cL_law 224 = .ok (.invokevirtual 32, 3) := by decide +kernel
theorem dL_law_227 : decode cL_law 227 = .ok (.aload_n 2, 1) := by decide +kernel
theorem dL_law_228 : decode cL_law 228 = .ok (.aload_n 0, 1) := by decide +kernel
theorem dL_law_229 : decode cL_law 229 = .ok (.iload_n 3, 1) := by decide +kernel
theorem dL_law_230 : decode cL_law 230 = .ok (.iconst 1, 1) := by decide +kernel
theorem dL_law_231 : decode cL_law 231 = .ok (.iadd, 1) := by decide +kernel
theorem dL_law_232 : decode cL_law 232 = .ok (.iaload, 1) := by decide +kernel
theorem dL_law_233 : decode cL_law 233 = .ok (.invokevirtual 35, 3) := by decide +kernel
theorem dL_law_236 : decode cL_law 236 = .ok (.if_icmp .eq 417, 3) := by decide +kernel
theorem dL_law_239 : decode cL_law 239 = .ok (.iconst 0, 1) := by decide +kernel
theorem dL_law_240 : decode cL_law 240 = .ok (.ireturn, 1) := by decide +kernel
theorem dL_law_241 : decode cL_law 241 = .ok (.aload_n 1, 1) := by decide +kernel
theorem dL_law_242 : decode cL_law 242 = .ok (.invokevirtual 36, 3) := by decide +kernel
theorem dL_law_245 : decode cL_law 245 = .ok (.aload_n 2, 1) := by decide +kernel
theorem dL_law_246 : decode cL_law 246 = .ok (.invokevirtual 39, 3) := by decide +kernel
theorem dL_law_249 : decode cL_law 249 = .ok (.if_icmp .eq 404, 3) := by decide +kernel
theorem dL_law_252 : decode cL_law 252 = .ok (.iconst 0, 1) := by decide +kernel
theorem dL_law_253 : decode cL_law 253 = .ok (.ireturn, 1) := by decide +kernel
theorem dL_law_254 : decode cL_law 254 = .ok (.aload_n 1, 1) := by decide +kernel
theorem dL_law_255 : decode cL_law 255 = .ok (.aload_n 0, 1) := by decide +kernel
theorem dL_law_256 : decode cL_law 256 = .ok (.iload_n 3, 1) := by decide +kernel
theorem dL_law_257 : decode cL_law 257 = .ok (.iconst 1, 1) := by decide +kernel
theorem dL_law_258 : decode cL_law 258 = .ok (.iadd, 1) := by decide +kernel
theorem dL_law_259 : decode cL_law 259 = .ok (.iaload, 1) := by decide +kernel
theorem dL_law_260 : decode cL_law 260 = .ok (.invokevirtual 40, 3) := by decide +kernel
theorem dL_law_263 : decode cL_law 263 = .ok (.aload_n 2, 1) := by decide +kernel
theorem dL_law_264 : decode cL_law 264 = .ok (.aload_n 0, 1) := by decide +kernel
theorem dL_law_265 : decode cL_law 265 = .ok (.iload_n 3, 1) := by decide +kernel
theorem dL_law_266 : decode cL_law 266 = .ok (.iconst 1, 1) := by decide +kernel
theorem dL_law_267 : decode cL_law 267 = .ok (.iadd, 1) := by decide +kernel
theorem dL_law_268 : decode cL_law 268 = .ok (.iaload, 1) := by decide +kernel
theorem dL_law_269 : decode cL_law 269 = .ok (.invokevirtual 43, 3) := by decide +kernel
theorem dL_law_272 : decode cL_law 272 = .ok (.if_icmp .eq 381, 3) := by decide +kernel
theorem dL_law_275 : decode cL_law 275 = .ok (.iconst 0, 1) := by decide +kernel
theorem dL_law_276 : decode cL_law 276 = .ok (.ireturn, 1) := by decide +kernel
theorem dL_law_277 : decode cL_law 277 = .ok (.aload_n 1, 1) := by decide +kernel
theorem dL_law_278 : decode cL_law 278 = .ok (.aload_n 0, 1) := by decide +kernel
theorem dL_law_279 : decode cL_law 279 = .ok (.iload_n 3, 1) := by decide +kernel
theorem dL_law_280 : decode cL_law 280 = .ok (.iconst 1, 1) := by decide +kernel
theorem dL_law_281 : decode cL_law 281 = .ok (.iadd, 1) := by decide +kernel
theorem dL_law_282 : decode cL_law 282 = .ok (.iaload, 1) := by decide +kernel
theorem dL_law_283 : decode cL_law 283 = .ok (.invokevirtual 44, 3) := by decide +kernel
theorem dL_law_286 : decode cL_law 286 = .ok (.aload_n 2, 1) := by decide +kernel
theorem dL_law_287 : decode cL_law 287 = .ok (.aload_n 0, 1) := by decide +kernel
theorem dL_law_288 : decode cL_law 288 = .ok (.iload_n 3, 1) := by decide +kernel
theorem dL_law_289 : decode cL_law 289 = .ok (.iconst 1, 1) := by decide +kernel
theorem dL_law_290 : decode cL_law 290 = .ok (.iadd, 1) := by decide +kernel
theorem dL_law_291 : decode cL_law 291 = .ok (.iaload, 1) := by decide +kernel
theorem dL_law_292 : decode cL_law 292 = .ok (.invokevirtual 47, 3) := by decide +kernel
theorem dL_law_295 : decode cL_law 295 = .ok (.if_icmp .eq 358, 3) := by decide +kernel
theorem dL_law_298 : decode cL_law 298 = .ok (.iconst 0, 1) := by decide +kernel
theorem dL_law_299 : decode cL_law 299 = .ok (.ireturn, 1) := by decide +kernel
theorem dL_law_300 : decode cL_law 300 = .ok (.aload_n 1, 1) := by decide +kernel
theorem dL_law_301 : decode cL_law 301 = .ok (.aload_n 0, 1) := by decide +kernel
theorem dL_law_302 : decode cL_law 302 = .ok (.iload_n 3, 1) := by decide +kernel
theorem dL_law_303 : decode cL_law 303 = .ok (.iconst 1, 1) := by decide +kernel
theorem dL_law_304 : decode cL_law 304 = .ok (.iadd, 1) := by decide +kernel
theorem dL_law_305 : decode cL_law 305 = .ok (.iaload, 1) := by decide +kernel
theorem dL_law_306 : decode cL_law 306 = .ok (.aload_n 0, 1) := by decide +kernel
theorem dL_law_307 : decode cL_law 307 = .ok (.iload_n 3, 1) := by decide +kernel
theorem dL_law_308 : decode cL_law 308 = .ok (.iconst 2, 1) := by decide +kernel
theorem dL_law_309 : decode cL_law 309 = .ok (.iadd, 1) := by decide +kernel
theorem dL_law_310 : decode cL_law 310 = .ok (.iaload, 1) := by decide +kernel
theorem dL_law_311 : decode cL_law 311 = .ok (.invokevirtual 48, 3) := by decide +kernel
theorem dL_law_314 : decode cL_law 314 = .ok (.aload_n 2, 1) := by decide +kernel
theorem dL_law_315 : decode cL_law 315 = .ok (.aload_n 0, 1) := by decide +kernel
theorem dL_law_316 : decode cL_law 316 = .ok (.iload_n 3, 1) := by decide +kernel
theorem dL_law_317 : decode cL_law 317 = .ok (.iconst 1, 1) := by decide +kernel
theorem dL_law_318 : decode cL_law 318 = .ok (.iadd, 1) := by decide +kernel
theorem dL_law_319 : decode cL_law 319 = .ok (.iaload, 1) := by decide +kernel
theorem dL_law_320 : decode cL_law 320 = .ok (.aload_n 0, 1) := by decide +kernel
theorem dL_law_321 : decode cL_law 321 = .ok (.iload_n 3, 1) := by decide +kernel
theorem dL_law_322 : decode cL_law 322 = .ok (.iconst 2, 1) := by decide +kernel
theorem dL_law_323 : decode cL_law 323 = .ok (.iadd, 1) := by decide +kernel
theorem dL_law_324 : decode cL_law 324 = .ok (.iaload, 1) := by decide +kernel
theorem dL_law_325 : decode cL_law 325 = .ok (.invokevirtual 51, 3) := by decide +kernel
theorem dL_law_328 : decode cL_law 328 = .ok (.if_icmp .eq 325, 3) := by decide +kernel
theorem dL_law_331 : decode cL_law 331 = .ok (.iconst 0, 1) := by decide +kernel
theorem dL_law_332 : decode cL_law 332 = .ok (.ireturn, 1) := by decide +kernel
theorem dL_law_333 : decode cL_law 333 = .ok (.aload_n 1, 1) := by decide +kernel
theorem dL_law_334 : decode cL_law 334 = .ok (.invokevirtual 52, 3) := by decide +kernel
theorem dL_law_337 : decode cL_law 337 = .ok (.aload_n 2, 1) := by decide +kernel
theorem dL_law_338 : decode cL_law 338 = .ok (.invokevirtual 55, 3) := by decide +kernel
theorem dL_law_341 : decode cL_law 341 = .ok (.if_icmp .eq 312, 3) := by decide +kernel
theorem dL_law_344 : decode cL_law 344 = .ok (.iconst 0, 1) := by decide +kernel
theorem dL_law_345 : decode cL_law 345 = .ok (.ireturn, 1) := by decide +kernel
theorem dL_law_346 : decode cL_law 346 = .ok (.aload_n 1, 1) := by decide +kernel
theorem dL_law_347 : decode cL_law 347 = .ok (.aload_n 0, 1) := by decide +kernel
theorem dL_law_348 : decode cL_law 348 = .ok (.iload_n 3, 1) := by decide +kernel
theorem dL_law_349 : decode cL_law 349 = .ok (.iconst 1, 1) := by decide +kernel
theorem dL_law_350 : decode cL_law 350 = .ok (.iadd, 1) := by decide +kernel
theorem dL_law_351 : decode cL_law 351 = .ok (.iaload, 1) := by decide +kernel
theorem dL_law_352 : decode cL_law 352 = .ok (.invokevirtual 56, 3) := by decide +kernel
theorem dL_law_355 : decode cL_law 355 = .ok (.aload_n 2, 1) := by decide +kernel
theorem dL_law_356 : decode cL_law 356 = .ok (.aload_n 0, 1) := by decide +kernel
theorem dL_law_357 : decode cL_law 357 = .ok (.iload_n 3, 1) := by decide +kernel
theorem dL_law_358 : decode cL_law 358 = .ok (.iconst 1, 1) := by decide +kernel
theorem dL_law_359 : decode cL_law 359 = .ok (.iadd, 1) := by decide +kernel
theorem dL_law_360 : decode cL_law 360 = .ok (.iaload, 1) := by decide +kernel
theorem dL_law_361 : decode cL_law 361 = .ok (.invokevirtual 59, 3) := by decide +kernel
theorem dL_law_364 : decode cL_law 364 = .ok (.if_icmp .eq 289, 3) := by decide +kernel
theorem dL_law_367 : decode cL_law 367 = .ok (.iconst 0, 1) := by decide +kernel
theorem dL_law_368 : decode cL_law 368 = .ok (.ireturn, 1) := by decide +kernel
theorem dL_law_369 : decode cL_law 369 = .ok (.aload_n 1, 1) := by decide +kernel
theorem dL_law_370 : decode cL_law 370 = .ok (.aload_n 0, 1) := by decide +kernel
theorem dL_law_371 : decode cL_law 371 = .ok (.iload_n 3, 1) := by decide +kernel
theorem dL_law_372 : decode cL_law 372 = .ok (.iconst 1, 1) := by decide +kernel
theorem dL_law_373 : decode cL_law 373 = .ok (.iadd, 1) := by decide +kernel
theorem dL_law_374 : decode cL_law 374 = .ok (.iaload, 1) := by decide +kernel
theorem dL_law_375 : decode cL_law 375 = .ok (.aload_n 0, 1) := by decide +kernel
theorem dL_law_376 : decode cL_law 376 = .ok (.iload_n 3, 1) := by decide +kernel
theorem dL_law_377 : decode cL_law 377 = .ok (.iconst 2, 1) := by decide +kernel
theorem dL_law_378 : decode cL_law 378 = .ok (.iadd, 1) := by decide +kernel
theorem dL_law_379 : decode cL_law 379 = .ok (.iaload, 1) := by decide +kernel
theorem dL_law_380 : decode cL_law 380 = .ok (.invokevirtual 60, 3) := by decide +kernel
theorem dL_law_383 : decode cL_law 383 = .ok (.aload_n 2, 1) := by decide +kernel
theorem dL_law_384 : decode cL_law 384 = .ok (.aload_n 0, 1) := by decide +kernel
theorem dL_law_385 : decode cL_law 385 = .ok (.iload_n 3, 1) := by decide +kernel
theorem dL_law_386 : decode cL_law 386 = .ok (.iconst 1, 1) := by decide +kernel
theorem dL_law_387 : decode cL_law 387 = .ok (.iadd, 1) := by decide +kernel
theorem dL_law_388 : decode cL_law 388 = .ok (.iaload, 1) := by decide +kernel
theorem dL_law_389 : decode cL_law 389 = .ok (.aload_n 0, 1) := by decide +kernel
theorem dL_law_390 : decode cL_law 390 = .ok (.iload_n 3, 1) := by decide +kernel
theorem dL_law_391 : decode cL_law 391 = .ok (.iconst 2, 1) := by decide +kernel
theorem dL_law_392 : decode cL_law 392 = .ok (.iadd, 1) := by decide +kernel
theorem dL_law_393 : decode cL_law 393 = .ok (.iaload, 1) := by decide +kernel
theorem dL_law_394 : decode cL_law 394 = .ok (.invokevirtual 63, 3) := by decide +kernel
theorem dL_law_397 : decode cL_law 397 = .ok (.if_icmp .eq 256, 3) := by decide +kernel
theorem dL_law_400 : decode cL_law 400 = .ok (.iconst 0, 1) := by decide +kernel
theorem dL_law_401 : decode cL_law 401 = .ok (.ireturn, 1) := by decide +kernel
theorem dL_law_402 : decode cL_law 402 = .ok (.aload_n 1, 1) := by decide +kernel
theorem dL_law_403 : decode cL_law 403 = .ok (.aload_n 0, 1) := by decide +kernel
theorem dL_law_404 : decode cL_law 404 = .ok (.iload_n 3, 1) := by decide +kernel
theorem dL_law_405 : decode cL_law 405 = .ok (.iconst 1, 1) := by decide +kernel
theorem dL_law_406 : decode cL_law 406 = .ok (.iadd, 1) := by decide +kernel
theorem dL_law_407 : decode cL_law 407 = .ok (.iaload, 1) := by decide +kernel
theorem dL_law_408 : decode cL_law 408 = .ok (.aload_n 0, 1) := by decide +kernel
theorem dL_law_409 : decode cL_law 409 = .ok (.iload_n 3, 1) := by decide +kernel
theorem dL_law_410 : decode cL_law 410 = .ok (.iconst 2, 1) := by decide +kernel
theorem dL_law_411 : decode cL_law 411 = .ok (.iadd, 1) := by decide +kernel
theorem dL_law_412 : decode cL_law 412 = .ok (.iaload, 1) := by decide +kernel
theorem dL_law_413 : decode cL_law 413 = .ok (.invokevirtual 64, 3) := by decide +kernel
theorem dL_law_416 : decode cL_law 416 = .ok (.aload_n 2, 1) := by decide +kernel
theorem dL_law_417 : decode cL_law 417 = .ok (.aload_n 0, 1) := by decide +kernel
theorem dL_law_418 : decode cL_law 418 = .ok (.iload_n 3, 1) := by decide +kernel
theorem dL_law_419 : decode cL_law 419 = .ok (.iconst 1, 1) := by decide +kernel
theorem dL_law_420 : decode cL_law 420 = .ok (.iadd, 1) := by decide +kernel
theorem dL_law_421 : decode cL_law 421 = .ok (.iaload, 1) := by decide +kernel
theorem dL_law_422 : decode cL_law 422 = .ok (.aload_n 0, 1) := by decide +kernel
theorem dL_law_423 : decode cL_law 423 = .ok (.iload_n 3, 1) := by decide +kernel
theorem dL_law_424 : decode cL_law 424 = .ok (.iconst 2, 1) := by decide +kernel
theorem dL_law_425 : decode cL_law 425 = .ok (.iadd, 1) := by decide +kernel
theorem dL_law_426 : decode cL_law 426 = .ok (.iaload, 1) := by decide +kernel
theorem dL_law_427 : decode cL_law 427 = .ok (.invokevirtual 67, 3) := by decide +kernel
theorem dL_law_430 : decode cL_law 430 = .ok (.if_icmp .eq 223, 3) := by decide +kernel
theorem dL_law_433 : decode cL_law 433 = .ok (.iconst 0, 1) := by decide +kernel
theorem dL_law_434 : decode cL_law 434 = .ok (.ireturn, 1) := by decide +kernel
theorem dL_law_435 : decode cL_law 435 = .ok (.aload_n 1, 1) := by decide +kernel
theorem dL_law_436 : decode cL_law 436 = .ok (.aload_n 0, 1) := by decide +kernel
theorem dL_law_437 : decode cL_law 437 = .ok (.iload_n 3, 1) := by decide +kernel
theorem dL_law_438 : decode cL_law 438 = .ok (.iconst 1, 1) := by decide +kernel
theorem dL_law_439 : decode cL_law 439 = .ok (.iadd, 1) := by decide +kernel
theorem dL_law_440 : decode cL_law 440 = .ok (.iaload, 1) := by decide +kernel
theorem dL_law_441 : decode cL_law 441 = .ok (.aload_n 0, 1) := by decide +kernel
theorem dL_law_442 : decode cL_law 442 = .ok (.iload_n 3, 1) := by decide +kernel
theorem dL_law_443 : decode cL_law 443 = .ok (.iconst 2, 1) := by decide +kernel
theorem dL_law_444 : decode cL_law 444 = .ok (.iadd, 1) := by decide +kernel
theorem dL_law_445 : decode cL_law 445 = .ok (.iaload, 1) := by decide +kernel
theorem dL_law_446 : decode cL_law 446 = .ok (.aload_n 0, 1) := by decide +kernel
theorem dL_law_447 : decode cL_law 447 = .ok (.iload_n 3, 1) := by decide +kernel
theorem dL_law_448 : decode cL_law 448 = .ok (.iconst 3, 1) := by decide +kernel
theorem dL_law_449 : decode cL_law 449 = .ok (.iadd, 1) := by decide +kernel
theorem dL_law_450 : decode cL_law 450 = .ok (.iaload, 1) := by decide +kernel
theorem dL_law_451 : decode cL_law 451 = .ok (.invokevirtual 68, 3) := by decide +kernel
theorem dL_law_454 : decode cL_law 454 = .ok (.aload_n 2, 1) := by decide +kernel
theorem dL_law_455 : decode cL_law 455 = .ok (.aload_n 0, 1) := by decide +kernel
theorem dL_law_456 : decode cL_law 456 = .ok (.iload_n 3, 1) := by decide +kernel
theorem dL_law_457 : decode cL_law 457 = .ok (.iconst 1, 1) := by decide +kernel
theorem dL_law_458 : decode cL_law 458 = .ok (.iadd, 1) := by decide +kernel
theorem dL_law_459 : decode cL_law 459 = .ok (.iaload, 1) := by decide +kernel
theorem dL_law_460 : decode cL_law 460 = .ok (.aload_n 0, 1) := by decide +kernel
theorem dL_law_461 : decode cL_law 461 = .ok (.iload_n 3, 1) := by decide +kernel
theorem dL_law_462 : decode cL_law 462 = .ok (.iconst 2, 1) := by decide +kernel
theorem dL_law_463 : decode cL_law 463 = .ok (.iadd, 1) := by decide +kernel
theorem dL_law_464 : decode cL_law 464 = .ok (.iaload, 1) := by decide +kernel
theorem dL_law_465 : decode cL_law 465 = .ok (.aload_n 0, 1) := by decide +kernel
theorem dL_law_466 : decode cL_law 466 = .ok (.iload_n 3, 1) := by decide +kernel
theorem dL_law_467 : decode cL_law 467 = .ok (.iconst 3, 1) := by decide +kernel
theorem dL_law_468 : decode cL_law 468 = .ok (.iadd, 1) := by decide +kernel
theorem dL_law_469 : decode cL_law 469 = .ok (.iaload, 1) := by decide +kernel
theorem dL_law_470 : decode cL_law 470 = .ok (.invokevirtual 72, 3) := by decide +kernel
theorem dL_law_473 : decode cL_law 473 = .ok (.if_icmp .eq 180, 3) := by decide +kernel
theorem dL_law_476 : decode cL_law 476 = .ok (.iconst 0, 1) := by decide +kernel
theorem dL_law_477 : decode cL_law 477 = .ok (.ireturn, 1) := by decide +kernel
theorem dL_law_478 : decode cL_law 478 = .ok (.aload_n 1, 1) := by decide +kernel
theorem dL_law_479 : decode cL_law 479 = .ok (.invokevirtual 73, 3) := by decide +kernel
theorem dL_law_482 : decode cL_law 482 = .ok (.aload_n 2, 1) := by decide +kernel
theorem dL_law_483 : decode cL_law 483 = .ok (.invokevirtual 76, 3) := by decide +kernel
theorem dL_law_486 : decode cL_law 486 = .ok (.if_icmp .eq 167, 3) := by decide +kernel
theorem dL_law_489 : decode cL_law 489 = .ok (.iconst 0, 1) := by decide +kernel
theorem dL_law_490 : decode cL_law 490 = .ok (.ireturn, 1) := by decide +kernel
theorem dL_law_491 : decode cL_law 491 = .ok (.aload_n 1, 1) := by decide +kernel
theorem dL_law_492 : decode cL_law 492 = .ok (.aload_n 0, 1) := by decide +kernel
theorem dL_law_493 : decode cL_law 493 = .ok (.iload_n 3, 1) := by decide +kernel
theorem dL_law_494 : decode cL_law 494 = .ok (.iconst 1, 1) := by decide +kernel
theorem dL_law_495 : decode cL_law 495 = .ok (.iadd, 1) := by decide +kernel
theorem dL_law_496 : decode cL_law 496 = .ok (.iaload, 1) := by decide +kernel
theorem dL_law_497 : decode cL_law 497 = .ok (.invokevirtual 77, 3) := by decide +kernel
theorem dL_law_500 : decode cL_law 500 = .ok (.aload_n 2, 1) := by decide +kernel
theorem dL_law_501 : decode cL_law 501 = .ok (.aload_n 0, 1) := by decide +kernel
theorem dL_law_502 : decode cL_law 502 = .ok (.iload_n 3, 1) := by decide +kernel
theorem dL_law_503 : decode cL_law 503 = .ok (.iconst 1, 1) := by decide +kernel
theorem dL_law_504 : decode cL_law 504 = .ok (.iadd, 1) := by decide +kernel
theorem dL_law_505 : decode cL_law 505 = .ok (.iaload, 1) := by decide +kernel
theorem dL_law_506 : decode cL_law 506 = .ok (.invokevirtual 80, 3) := by decide +kernel
theorem dL_law_509 : decode cL_law 509 = .ok (.if_icmp .eq 144, 3) := by decide +kernel
theorem dL_law_512 : decode cL_law 512 = .ok (.iconst 0, 1) := by decide +kernel
theorem dL_law_513 : decode cL_law 513 = .ok (.ireturn, 1) := by decide +kernel
theorem dL_law_514 : decode cL_law 514 = .ok (.aload_n 1, 1) := by decide +kernel
theorem dL_law_515 : decode cL_law 515 = .ok (.aload_n 0, 1) := by decide +kernel
theorem dL_law_516 : decode cL_law 516 = .ok (.iload_n 3, 1) := by decide +kernel
theorem dL_law_517 : decode cL_law 517 = .ok (.iconst 1, 1) := by decide +kernel
theorem dL_law_518 : decode cL_law 518 = .ok (.iadd, 1) := by decide +kernel
theorem dL_law_519 : decode cL_law 519 = .ok (.iaload, 1) := by decide +kernel
theorem dL_law_520 : decode cL_law 520 = .ok (.invokevirtual 81, 3) := by decide +kernel
theorem dL_law_523 : decode cL_law 523 = .ok (.aload_n 2, 1) := by decide +kernel
theorem dL_law_524 : decode cL_law 524 = .ok (.aload_n 0, 1) := by decide +kernel
theorem dL_law_525 : decode cL_law 525 = .ok (.iload_n 3, 1) := by decide +kernel
theorem dL_law_526 : decode cL_law 526 = .ok (.iconst 1, 1) := by decide +kernel
theorem dL_law_527 : decode cL_law 527 = .ok (.iadd, 1) := by decide +kernel
theorem dL_law_528 : decode cL_law 528 = .ok (.iaload, 1) := by decide +kernel
theorem dL_law_529 : decode cL_law 529 = .ok (.invokevirtual 84, 3) := by decide +kernel
theorem dL_law_532 : decode cL_law 532 = .ok (.if_icmp .eq 121, 3) := by decide +kernel
theorem dL_law_535 : decode cL_law 535 = .ok (.iconst 0, 1) := by decide +kernel
theorem dL_law_536 : decode cL_law 536 = .ok (.ireturn, 1) := by decide +kernel
theorem dL_law_537 : decode cL_law 537 = .ok (.aload_n 1, 1) := by decide +kernel
theorem dL_law_538 : decode cL_law 538 = .ok (.aload_n 0, 1) := by decide +kernel
theorem dL_law_539 : decode cL_law 539 = .ok (.iload_n 3, 1) := by decide +kernel
theorem dL_law_540 : decode cL_law 540 = .ok (.iconst 1, 1) := by decide +kernel
theorem dL_law_541 : decode cL_law 541 = .ok (.iadd, 1) := by decide +kernel
theorem dL_law_542 : decode cL_law 542 = .ok (.iaload, 1) := by decide +kernel
theorem dL_law_543 : decode cL_law 543 = .ok (.aload_n 0, 1) := by decide +kernel
theorem dL_law_544 : decode cL_law 544 = .ok (.iload_n 3, 1) := by decide +kernel
theorem dL_law_545 : decode cL_law 545 = .ok (.iconst 2, 1) := by decide +kernel
theorem dL_law_546 : decode cL_law 546 = .ok (.iadd, 1) := by decide +kernel
theorem dL_law_547 : decode cL_law 547 = .ok (.iaload, 1) := by decide +kernel
theorem dL_law_548 : decode cL_law 548 = .ok (.invokevirtual 85, 3) := by decide +kernel
theorem dL_law_551 : decode cL_law 551 = .ok (.aload_n 2, 1) := by decide +kernel
theorem dL_law_552 : decode cL_law 552 = .ok (.aload_n 0, 1) := by decide +kernel
theorem dL_law_553 : decode cL_law 553 = .ok (.iload_n 3, 1) := by decide +kernel
theorem dL_law_554 : decode cL_law 554 = .ok (.iconst 1, 1) := by decide +kernel
theorem dL_law_555 : decode cL_law 555 = .ok (.iadd, 1) := by decide +kernel
theorem dL_law_556 : decode cL_law 556 = .ok (.iaload, 1) := by decide +kernel
theorem dL_law_557 : decode cL_law 557 = .ok (.aload_n 0, 1) := by decide +kernel
theorem dL_law_558 : decode cL_law 558 = .ok (.iload_n 3, 1) := by decide +kernel
theorem dL_law_559 : decode cL_law 559 = .ok (.iconst 2, 1) := by decide +kernel
theorem dL_law_560 : decode cL_law 560 = .ok (.iadd, 1) := by decide +kernel
theorem dL_law_561 : decode cL_law 561 = .ok (.iaload, 1) := by decide +kernel
theorem dL_law_562 : decode cL_law 562 = .ok (.invokevirtual 88, 3) := by decide +kernel
theorem dL_law_565 : decode cL_law 565 = .ok (.if_icmp .eq 88, 3) := by decide +kernel
theorem dL_law_568 : decode cL_law 568 = .ok (.iconst 0, 1) := by decide +kernel
theorem dL_law_569 : decode cL_law 569 = .ok (.ireturn, 1) := by decide +kernel
theorem dL_law_570 : decode cL_law 570 = .ok (.aload_n 1, 1) := by decide +kernel
theorem dL_law_571 : decode cL_law 571 = .ok (.aload_n 0, 1) := by decide +kernel
theorem dL_law_572 : decode cL_law 572 = .ok (.iload_n 3, 1) := by decide +kernel
theorem dL_law_573 : decode cL_law 573 = .ok (.iconst 1, 1) := by decide +kernel
theorem dL_law_574 : decode cL_law 574 = .ok (.iadd, 1) := by decide +kernel
theorem dL_law_575 : decode cL_law 575 = .ok (.iaload, 1) := by decide +kernel
theorem dL_law_576 : decode cL_law 576 = .ok (.invokevirtual 89, 3) := by decide +kernel
theorem dL_law_579 : decode cL_law 579 = .ok (.aload_n 2, 1) := by decide +kernel
theorem dL_law_580 : decode cL_law 580 = .ok (.aload_n 0, 1) := by decide +kernel
theorem dL_law_581 : decode cL_law 581 = .ok (.iload_n 3, 1) := by decide +kernel
theorem dL_law_582 : decode cL_law 582 = .ok (.iconst 1, 1) := by decide +kernel
theorem dL_law_583 : decode cL_law 583 = .ok (.iadd, 1) := by decide +kernel
theorem dL_law_584 : decode cL_law 584 = .ok (.iaload, 1) := by decide +kernel
theorem dL_law_585 : decode cL_law 585 = .ok (.invokevirtual 92, 3) := by decide +kernel
theorem dL_law_588 : decode cL_law 588 = .ok (.if_icmp .eq 65, 3) := by decide +kernel
theorem dL_law_591 : decode cL_law 591 = .ok (.iconst 0, 1) := by decide +kernel
theorem dL_law_592 : decode cL_law 592 = .ok (.ireturn, 1) := by decide +kernel
theorem dL_law_593 : decode cL_law 593 = .ok (.aload_n 1, 1) := by decide +kernel
theorem dL_law_594 : decode cL_law 594 = .ok (.aload_n 0, 1) := by decide +kernel
theorem dL_law_595 : decode cL_law 595 = .ok (.iload_n 3, 1) := by decide +kernel
theorem dL_law_596 : decode cL_law 596 = .ok (.iconst 1, 1) := by decide +kernel
theorem dL_law_597 : decode cL_law 597 = .ok (.iadd, 1) := by decide +kernel
theorem dL_law_598 : decode cL_law 598 = .ok (.iaload, 1) := by decide +kernel
theorem dL_law_599 : decode cL_law 599 = .ok (.invokevirtual 93, 3) := by decide +kernel
theorem dL_law_602 : decode cL_law 602 = .ok (.aload_n 2, 1) := by decide +kernel
theorem dL_law_603 : decode cL_law 603 = .ok (.aload_n 0, 1) := by decide +kernel
theorem dL_law_604 : decode cL_law 604 = .ok (.iload_n 3, 1) := by decide +kernel
theorem dL_law_605 : decode cL_law 605 = .ok (.iconst 1, 1) := by decide +kernel
theorem dL_law_606 : decode cL_law 606 = .ok (.iadd, 1) := by decide +kernel
theorem dL_law_607 : decode cL_law 607 = .ok (.iaload, 1) := by decide +kernel
theorem dL_law_608 : decode cL_law 608 = .ok (.invokevirtual 96, 3) := by decide +kernel
theorem dL_law_611 : decode cL_law 611 = .ok (.if_icmp .eq 42, 3) := by decide +kernel
theorem dL_law_614 : decode cL_law 614 = .ok (.iconst 0, 1) := by decide +kernel
theorem dL_law_615 : decode cL_law 615 = .ok (.ireturn, 1) := by decide +kernel
theorem dL_law_616 : decode cL_law 616 = .ok (.aload_n 1, 1) := by decide +kernel
theorem dL_law_617 : decode cL_law 617 = .ok (.aload_n 0, 1) := by decide +kernel
theorem dL_law_618 : decode cL_law 618 = .ok (.iload_n 3, 1) := by decide +kernel
theorem dL_law_619 : decode cL_law 619 = .ok (.iconst 1, 1) := by decide +kernel
theorem dL_law_620 : decode cL_law 620 = .ok (.iadd, 1) := by decide +kernel
theorem dL_law_621 : decode cL_law 621 = .ok (.iaload, 1) := by decide +kernel
theorem dL_law_622 : decode cL_law 622 = .ok (.invokevirtual 97, 3) := by decide +kernel
theorem dL_law_625 : decode cL_law 625 = .ok (.aload_n 2, 1) := by decide +kernel
theorem dL_law_626 : decode cL_law 626 = .ok (.aload_n 0, 1) := by decide +kernel
theorem dL_law_627 : decode cL_law 627 = .ok (.iload_n 3, 1) := by decide +kernel
theorem dL_law_628 : decode cL_law 628 = .ok (.iconst 1, 1) := by decide +kernel
theorem dL_law_629 : decode cL_law 629 = .ok (.iadd, 1) := by decide +kernel
theorem dL_law_630 : decode cL_law 630 = .ok (.iaload, 1) := by decide +kernel
theorem dL_law_631 : decode cL_law 631 = .ok (.invokevirtual 100, 3) := by decide +kernel
theorem dL_law_634 : decode cL_law 634 = .ok (.if_icmp .eq 19, 3) := by decide +kernel
theorem dL_law_637 : decode cL_law 637 = .ok (.iconst 0, 1) := by decide +kernel
theorem dL_law_638 : decode cL_law 638 = .ok (.ireturn, 1) := by decide +kernel
theorem dL_law_639 : decode cL_law 639 = .ok (.aload_n 1, 1) := by decide +kernel
theorem dL_law_640 : decode cL_law 640 = .ok (.invokevirtual 101, 3) := by decide +kernel
theorem dL_law_643 : decode cL_law 643 = .ok (.aload_n 2, 1) := by decide +kernel
theorem dL_law_644 : decode cL_law 644 = .ok (.invokevirtual 105, 3) := by decide +kernel
theorem dL_law_647 : decode cL_law 647 = .ok (.lcmp, 1) := by decide +kernel
theorem dL_law_648 : decode cL_law 648 = .ok (.ifCond .eq 5, 3) := by decide +kernel
theorem dL_law_651 : decode cL_law 651 = .ok (.iconst 0, 1) := by decide +kernel
theorem dL_law_652 : decode cL_law 652 = .ok (.ireturn, 1) := by decide +kernel
theorem dL_law_653 : decode cL_law 653 = .ok (.iinc 3 4, 3) := by decide +kernel
theorem dL_law_656 : decode cL_law 656 = .ok (.goto (-638), 3) := by decide +kernel
theorem dL_law_659 : decode cL_law 659 = .ok (.iconst 1, 1) := by decide +kernel
theorem dL_law_660 : decode cL_law 660 = .ok (.ireturn, 1) := by decide +kernel
