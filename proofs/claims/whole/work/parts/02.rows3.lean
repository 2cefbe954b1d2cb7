theorem dX8_now_136 : decode cX8_now 136 = .ok (.invokevirtual 149, 3) := by decide +kernel
theorem dX8_now_139 : decode cX8_now 139 = .ok (.bipush 10, 2) := by decide +kernel
theorem dX8_now_141 : decode cX8_now 141 = .ok (.idiv, 1) := by decide +kernel
theorem dX8_now_142 : decode cX8_now 142 = .ok (.ireturn, 1) := by decide +kernel
theorem dX8_now_143 : decode cX8_now 143 = .ok (.aload_n 0, 1) := by decide +kernel
theorem dX8_now_144 : decode cX8_now 144 = .ok (.getfield 59, 3) := by decide +kernel
theorem dX8_now_147 : decode cX8_now 147 = .ok (.aload_n 0, 1) := by decide +kernel
theorem dX8_now_148 : decode cX8_now 148 = .ok (.getfield 26, 3) := by decide +kernel
theorem dX8_now_151 : decode cX8_now 151 = .ok (.invokevirtual 149, 3) := by decide +kernel
theorem dX8_now_154 : decode cX8_now 154 = .ok (.bipush 10, 2) := by decide +kernel
theorem dX8_now_156 : decode cX8_now 156 = .ok (.irem, 1) := by decide +kernel
theorem dX8_now_157 : decode cX8_now 157 = .ok (.ireturn, 1) := by decide +kernel
theorem dX8_now_158 : decode cX8_now 158 = .ok (.aload_n 0, 1) := by decide +kernel
theorem dX8_now_159 : decode cX8_now 159 = .ok (.getfield 33, 3) := by decide +kernel
theorem dX8_now_162 : decode cX8_now 162 = .ok (.getfield 109, 3) := by decide +kernel
theorem dX8_now_165 : decode cX8_now 165 = .ok (.ireturn, 1) := by decide +kernel
theorem dX8_now_166 : decode cX8_now 166 = .ok (.iconst (-1), 1) := by decide +kernel
theorem dX8_now_167 : decode cX8_now 167 = .ok (.ireturn, 1) := by decide +kernel
set_option maxRecDepth 20000 in
theorem ggX8_flips_X5_has : GoodIn wsX8_flips wsX5_has := goodIn_r _ [14, 15, 16, 17, 18, 103, 104, 105, 106, 107, 108, 109] (by decide +kernel) (by decide +kernel)
set_option maxRecDepth 20000 in
theorem gX8_flips_X5_has : GoodIn wsX8_flips (wsV RX8 118 RX5 yX5_has wsX5_has) := goodIn_app (goodIn_of _ (by decide +kernel)) ggX8_flips_X5_has
set_option maxRecDepth 20000 in
theorem ggX8_flips_X2_remember : GoodIn wsX8_flips wsX2_remember := goodIn_r _ [23, 24, 25, 26, 27, 28, 29, 30, 31, 32, 33, 34, 35, 36, 37, 38, 39, 40, 41, 42, 43, 110, 111, 112, 91, 92, 93, 94] (by decide +kernel) (by decide +kernel)
set_option maxRecDepth 20000 in
theorem gX8_flips_X2_remember : GoodIn wsX8_flips (wsV RX8 153 RX2 yX2_remember wsX2_remember) := goodIn_app (goodIn_of _ (by decide +kernel)) ggX8_flips_X2_remember
set_option maxRecDepth 20000 in
theorem ggX8_flips_X7_prepare : GoodIn wsX8_flips wsX7_prepare := goodIn_r _ [48, 49, 50, 51, 38, 39, 40, 52, 53, 54, 55, 56, 91, 92, 93, 94, 95, 96, 97, 98, 99, 100, 101, 102, 103, 104, 105, 106, 107, 108, 109] (by decide +kernel) (by decide +kernel)
set_option maxRecDepth 20000 in
theorem gX8_flips_X7_prepare : GoodIn wsX8_flips (wsV RX8 157 RX7 yX7_prepare wsX7_prepare) := goodIn_app (goodIn_of _ (by decide +kernel)) ggX8_flips_X7_prepare
set_option maxRecDepth 20000 in
theorem ggX8_flips_X7_stand : GoodIn wsX8_flips wsX7_stand := goodIn_r _ [60, 61, 62, 63, 64, 95, 96, 97, 98, 99, 100, 101, 102] (by decide +kernel) (by decide +kernel)
set_option maxRecDepth 20000 in
theorem gX8_flips_X7_stand : GoodIn wsX8_flips (wsV RX8 160 RX7 yX7_stand wsX7_stand) := goodIn_app (goodIn_of _ (by decide +kernel)) ggX8_flips_X7_stand
set_option maxRecDepth 20000 in
theorem ggX8_flips_X7_turn : GoodIn wsX8_flips wsX7_turn := goodIn_r _ [68, 52, 61, 63, 62, 54, 69, 56, 70, 11, 12, 13, 14, 15, 16, 17, 18, 71, 72, 73, 74, 75, 47, 76, 77, 50, 78, 79, 64, 95, 96, 97, 98, 99, 100, 101, 102, 103, 104, 105, 106, 107, 108, 109] (by decide +kernel) (by decide +kernel)
set_option maxRecDepth 20000 in
theorem gX8_flips_X7_turn : GoodIn wsX8_flips (wsV RX8 164 RX7 yX7_turn wsX7_turn) := goodIn_app (goodIn_of _ (by decide +kernel)) ggX8_flips_X7_turn
theorem dX8_flips_0 : decode cX8_flips 0 = .ok (.aload_n 0, 1) := by decide +kernel
theorem dX8_flips_1 : decode cX8_flips 1 = .ok (.getfield 12, 3) := by decide +kernel
theorem dX8_flips_4 : decode cX8_flips 4 = .ok (.aload_n 0, 1) := by decide +kernel
theorem dX8_flips_5 : decode cX8_flips 5 = .ok (.getfield 26, 3) := by decide +kernel
theorem dX8_flips_8 : decode cX8_flips 8 = .ok (.getfield 132, 3) := by decide +kernel
theorem dX8_flips_11 : decode cX8_flips 11 = .ok (.invokevirtual 118, 3) := by decide +kernel
theorem dX8_flips_14 : decode cX8_flips 14 = .ok (.ifCond .eq 26, 3) := by decide +kernel
theorem dX8_flips_17 : decode cX8_flips 17 = .ok (.aload_n 0, 1) := by decide +kernel
theorem dX8_flips_18 : decode cX8_flips 18 = .ok (.getfield 26, 3) := by decide +kernel
theorem dX8_flips_21 : decode cX8_flips 21 = .ok (.getfield 135, 3) := by decide +kernel
theorem dX8_flips_24 : decode cX8_flips 24 = .ok (.ifCond .eq 16, 3) := by decide +kernel
theorem dX8_flips_27 : decode cX8_flips 27 = .ok (.aload_n 0, 1) := by decide +kernel
theorem dX8_flips_28 : decode cX8_flips 28 = .ok (.getfield 26, 3) := by decide +kernel
theorem dX8_flips_31 : decode cX8_flips 31 = .ok (.getfield 138, 3) := by decide +kernel
theorem dX8_flips_34 : decode cX8_flips 34 = .ok (.sipush 999, 3) := by decide +kernel
theorem dX8_flips_37 : decode cX8_flips 37 = .ok (.if_icmp .lt 6, 3) := by decide +kernel
theorem dX8_flips_40 : decode cX8_flips 40 = .ok (.bipush (-2), 2) := by decide +kernel
theorem dX8_flips_42 : decode cX8_flips 42 = .ok (.ireturn, 1) := by decide +kernel
theorem dX8_flips_43 : decode cX8_flips 43 = .ok (.aload_n 0, 1) := by decide +kernel
theorem dX8_flips_44 : decode cX8_flips 44 = .ok (.getfield 33, 3) := by decide +kernel
theorem dX8_flips_47 : decode cX8_flips 47 = .ok (.aload_n 0, 1) := by decide +kernel
theorem dX8_flips_48 : decode cX8_flips 48 = .ok (.getfield 26, 3) := by decide +kernel
theorem dX8_flips_51 : decode cX8_flips 51 = .ok (.invokevirtual 153, 3) := by decide +kernel
theorem dX8_flips_54 : decode cX8_flips 54 = .ok (.aload_n 0, 1) := by decide +kernel
theorem dX8_flips_55 : decode cX8_flips 55 = .ok (.getfield 50, 3) := by decide +kernel
theorem dX8_flips_58 : decode cX8_flips 58 = .ok (.aload_n 0, 1) := by decide +kernel
theorem dX8_flips_59 : decode cX8_flips 59 = .ok (.getfield 26, 3) := by decide +kernel
theorem dX8_flips_62 : decode cX8_flips 62 = .ok (.invokevirtual 157, 3) := by decide +kernel
theorem dX8_flips_65 : decode cX8_flips 65 = .ok (.aload_n 0, 1) := by decide +kernel
theorem dX8_flips_66 : decode cX8_flips 66 = .ok (.getfield 50, 3) := by decide +kernel
theorem dX8_flips_69 : decode cX8_flips 69 = .ok (.aload_n 0, 1) := by decide +kernel
theorem dX8_flips_70 : decode cX8_flips 70 = .ok (.getfield 26, 3) := by decide +kernel
theorem dX8_flips_73 : decode cX8_flips 73 = .ok (.getfield 132, 3) := by decide +kernel
theorem dX8_flips_76 : decode cX8_flips 76 = .ok (.aload_n 0, 1) := by decide +kernel
theorem dX8_flips_77 : decode cX8_flips 77 = .ok (.getfield 26, 3) := by decide +kernel
theorem dX8_flips_80 : decode cX8_flips 80 = .ok (.getfield 135, 3) := by decide +kernel
theorem dX8_flips_83 : decode cX8_flips 83 = .ok (.invokevirtual 160, 3) := by decide +kernel
theorem dX8_flips_86 : decode cX8_flips 86 = .ok (.aload_n 0, 1) := by decide +kernel
theorem dX8_flips_87 : decode cX8_flips 87 = .ok (.getfield 50, 3) := by decide +kernel
theorem dX8_flips_90 : decode cX8_flips 90 = .ok (.invokevirtual 164, 3) := by decide +kernel
theorem dX8_flips_93 : decode cX8_flips 93 = .ok (.aload_n 0, 1) := by decide +kernel
theorem dX8_flips_94 : decode cX8_flips 94 = .ok (.getfield 26, 3) := by decide +kernel
theorem dX8_flips_97 : decode cX8_flips 97 = .ok (.aload_n 0, 1) := by decide +kernel
theorem dX8_flips_98 : decode cX8_flips 98 = .ok (.getfield 50, 3) := by decide +kernel
theorem dX8_flips_101 : decode cX8_flips 101 = .ok (.getfield 167, 3) := by decide +kernel
theorem dX8_flips_104 : decode cX8_flips 104 = .ok (.putfield 132, 3) := by decide +kernel
theorem dX8_flips_107 : decode cX8_flips 107 = .ok (.aload_n 0, 1) := by decide +kernel
theorem dX8_flips_108 : decode cX8_flips 108 = .ok (.getfield 26, 3) := by decide +kernel
theorem dX8_flips_111 : decode cX8_flips 111 = .ok (.aload_n 0, 1) := by decide +kernel
theorem dX8_flips_112 : decode cX8_flips 112 = .ok (.getfield 50, 3) := by decide +kernel
theorem dX8_flips_115 : decode cX8_flips 115 = .ok (.getfield 168, 3) := by decide +kernel
theorem dX8_flips_118 : decode cX8_flips 118 = .ok (.putfield 135, 3) := by decide +kernel
theorem dX8_flips_121 : decode cX8_flips 121 = .ok (.aload_n 0, 1) := by decide +kernel
theorem dX8_flips_122 : decode cX8_flips 122 = .ok (.getfield 26, 3) := by decide +kernel
theorem dX8_flips_125 : decode cX8_flips 125 = .ok (.dup, 1) := by decide +kernel
theorem dX8_flips_126 : decode cX8_flips 126 = .ok (.getfield 138, 3) := by decide +kernel
theorem dX8_flips_129 : decode cX8_flips 129 = .ok (.iconst 1, 1) := by decide +kernel
theorem dX8_flips_130 : decode cX8_flips 130 = .ok (.iadd, 1) := by decide +kernel
theorem dX8_flips_131 : decode cX8_flips 131 = .ok (.putfield 138, 3) := by decide +kernel
theorem dX8_flips_134 : decode cX8_flips 134 = .ok (.aload_n 0, 1) := by decide +kernel
theorem dX8_flips_135 : decode cX8_flips 135 = .ok (.getfield 26, 3) := by decide +kernel
theorem dX8_flips_138 : decode cX8_flips 138 = .ok (.getfield 132, 3) := by decide +kernel
theorem dX8_flips_141 : decode cX8_flips 141 = .ok (.ireturn, 1) := by decide +kernel
set_option maxRecDepth 20000 in
theorem ggX8_pushes_X8_within : GoodIn wsX8_pushes wsX8_within := goodIn_r _ [9] (by decide +kernel) (by decide +kernel)
set_option maxRecDepth 20000 in
theorem gX8_pushes_X8_within : GoodIn wsX8_pushes (va_wsS RX8 81 yX8_within wsX8_within) := goodIn_app (goodIn_of _ (by decide +kernel)) ggX8_pushes_X8_within
set_option maxRecDepth 20000 in
theorem ggX8_pushes_X5_has : GoodIn wsX8_pushes wsX5_has := goodIn_r _ [14, 15, 7, 8, 9, 59, 60, 61, 62, 63, 64, 65] (by decide +kernel) (by decide +kernel)
set_option maxRecDepth 20000 in
theorem gX8_pushes_X5_has : GoodIn wsX8_pushes (wsV RX8 118 RX5 yX5_has wsX5_has) := goodIn_app (goodIn_of _ (by decide +kernel)) ggX8_pushes_X5_has
set_option maxRecDepth 20000 in
theorem ggX8_pushes_X2_remember : GoodIn wsX8_pushes wsX2_remember := goodIn_r _ [20, 21, 22, 23, 24, 25, 26, 27, 28, 29, 30, 31, 32, 33, 34, 35, 36, 37, 38, 39, 40, 66, 67, 68, 55, 56, 57, 58] (by decide +kernel) (by decide +kernel)
set_option maxRecDepth 20000 in
theorem gX8_pushes_X2_remember : GoodIn wsX8_pushes (wsV RX8 153 RX2 yX2_remember wsX2_remember) := goodIn_app (goodIn_of _ (by decide +kernel)) ggX8_pushes_X2_remember
set_option maxRecDepth 20000 in
theorem ggX8_pushes_X8_asVigour : GoodIn wsX8_pushes wsX8_asVigour := goodIn_r _ [43] (by decide +kernel) (by decide +kernel)
set_option maxRecDepth 20000 in
theorem gX8_pushes_X8_asVigour : GoodIn wsX8_pushes (va_wsS RX8 169 yX8_asVigour wsX8_asVigour) := goodIn_app (goodIn_of _ (by decide +kernel)) ggX8_pushes_X8_asVigour
theorem dX8_pushes_0 : decode cX8_pushes 0 = .ok (.iload_n 1, 1) := by decide +kernel
theorem dX8_pushes_1 : decode cX8_pushes 1 = .ok (.iconst 1, 1) := by decide +kernel
theorem dX8_pushes_2 : decode cX8_pushes 2 = .ok (.bipush 20, 2) := by decide +kernel
theorem dX8_pushes_4 : decode cX8_pushes 4 = .ok (.invokestatic 81, 3) := by decide +kernel
theorem dX8_pushes_7 : decode cX8_pushes 7 = .ok (.ifCond .ne 5, 3) := by decide +kernel
theorem dX8_pushes_10 : decode cX8_pushes 10 = .ok (.iconst (-1), 1) := by decide +kernel
theorem dX8_pushes_11 : decode cX8_pushes 11 = .ok (.ireturn, 1) := by decide +kernel
theorem dX8_pushes_12 : decode cX8_pushes 12 = .ok (.aload_n 0, 1) := by decide +kernel
theorem dX8_pushes_13 : decode cX8_pushes 13 = .ok (.getfield 12, 3) := by decide +kernel
theorem dX8_pushes_16 : decode cX8_pushes 16 = .ok (.aload_n 0, 1) := by decide +kernel
theorem dX8_pushes_17 : decode cX8_pushes 17 = .ok (.getfield 26, 3) := by decide +kernel
theorem dX8_pushes_20 : decode cX8_pushes 20 = .ok (.getfield 132, 3) := by decide +kernel
theorem dX8_pushes_23 : decode cX8_pushes 23 = .ok (.invokevirtual 118, 3) := by decide +kernel
theorem dX8_pushes_26 : decode cX8_pushes 26 = .ok (.ifCond .ne 6, 3) := by decide +kernel
theorem dX8_pushes_29 : decode cX8_pushes 29 = .ok (.bipush (-2), 2) := by decide +kernel
theorem dX8_pushes_31 : decode cX8_pushes 31 = .ok (.ireturn, 1) := by decide +kernel
theorem dX8_pushes_32 : decode cX8_pushes 32 = .ok (.aload_n 0, 1) := by decide +kernel
theorem dX8_pushes_33 : decode cX8_pushes 33 = .ok (.getfield 33, 3) := by decide +kernel
theorem dX8_pushes_36 : decode cX8_pushes 36 = .ok (.aload_n 0, 1) := by decide +kernel
theorem dX8_pushes_37 : decode cX8_pushes 37 = .ok (.getfield 26, 3) := by decide +kernel
theorem dX8_pushes_40 : decode cX8_pushes 40 = .ok (.invokevirtual 153, 3) := by decide +kernel
theorem dX8_pushes_43 : decode cX8_pushes 43 = .ok (.aload_n 0, 1) := by decide +kernel
theorem dX8_pushes_44 : decode cX8_pushes 44 = .ok (.getfield 26, 3) := by decide +kernel
theorem dX8_pushes_47 : decode cX8_pushes 47 = .ok (.aload_n 0, 1) := by decide +kernel
theorem dX8_pushes_48 : decode cX8_pushes 48 = .ok (.getfield 26, 3) := by decide +kernel
theorem dX8_pushes_51 : decode cX8_pushes 51 = .ok (.getfield 135, 3) := by decide +kernel
theorem dX8_pushes_54 : decode cX8_pushes 54 = .ok (.iload_n 1, 1) := by decide +kernel
theorem dX8_pushes_55 : decode cX8_pushes 55 = .ok (.iadd, 1) := by decide +kernel
theorem dX8_pushes_56 : decode cX8_pushes 56 = .ok (.invokestatic 169, 3) := by decide +kernel
theorem dX8_pushes_59 : decode cX8_pushes 59 = .ok (.putfield 135, 3) := by decide +kernel
theorem dX8_pushes_62 : decode cX8_pushes 62 = .ok (.aload_n 0, 1) := by decide +kernel
theorem dX8_pushes_63 : decode cX8_pushes 63 = .ok (.getfield 26, 3) := by decide +kernel
theorem dX8_pushes_66 : decode cX8_pushes 66 = .ok (.getfield 135, 3) := by decide +kernel
theorem dX8_pushes_69 : decode cX8_pushes 69 = .ok (.ireturn, 1) := by decide +kernel
set_option maxRecDepth 20000 in
theorem ggX8_lifts_X5_has : GoodIn wsX8_lifts wsX5_has := goodIn_r _ [10, 11, 12, 13, 14, 55, 56, 57, 58, 59, 60, 61] (by decide +kernel) (by decide +kernel)
set_option maxRecDepth 20000 in
theorem gX8_lifts_X5_has : GoodIn wsX8_lifts (wsV RX8 118 RX5 yX5_has wsX5_has) := goodIn_app (goodIn_of _ (by decide +kernel)) ggX8_lifts_X5_has
set_option maxRecDepth 20000 in
theorem ggX8_lifts_X2_remember : GoodIn wsX8_lifts wsX2_remember := goodIn_r _ [19, 20, 21, 22, 23, 24, 25, 26, 27, 28, 29, 30, 31, 32, 33, 34, 35, 36, 37, 38, 39, 62, 63, 64, 51, 52, 53, 54] (by decide +kernel) (by decide +kernel)
set_option maxRecDepth 20000 in
theorem gX8_lifts_X2_remember : GoodIn wsX8_lifts (wsV RX8 153 RX2 yX2_remember wsX2_remember) := goodIn_app (goodIn_of _ (by decide +kernel)) ggX8_lifts_X2_remember
theorem dX8_lifts_0 : decode cX8_lifts 0 = .ok (.aload_n 0, 1) := by decide +kernel
theorem dX8_lifts_1 : decode cX8_lifts 1 = .ok (.getfield 12, 3) := by decide +kernel
theorem dX8_lifts_4 : decode cX8_lifts 4 = .ok (.iload_n 1, 1) := by decide +kernel
theorem dX8_lifts_5 : decode cX8_lifts 5 = .ok (.invokevirtual 118, 3) := by decide +kernel
theorem dX8_lifts_8 : decode cX8_lifts 8 = .ok (.ifCond .ne 5, 3) := by decide +kernel
theorem dX8_lifts_11 : decode cX8_lifts 11 = .ok (.iconst (-1), 1) := by decide +kernel
theorem dX8_lifts_12 : decode cX8_lifts 12 = .ok (.ireturn, 1) := by decide +kernel
theorem dX8_lifts_13 : decode cX8_lifts 13 = .ok (.aload_n 0, 1) := by decide +kernel
theorem dX8_lifts_14 : decode cX8_lifts 14 = .ok (.getfield 26, 3) := by decide +kernel
theorem dX8_lifts_17 : decode cX8_lifts 17 = .ok (.getfield 132, 3) := by decide +kernel
theorem dX8_lifts_20 : decode cX8_lifts 20 = .ok (.iload_n 1, 1) := by decide +kernel
theorem dX8_lifts_21 : decode cX8_lifts 21 = .ok (.if_icmp .ne 6, 3) := by decide +kernel
theorem dX8_lifts_24 : decode cX8_lifts 24 = .ok (.bipush (-2), 2) := by decide +kernel
theorem dX8_lifts_26 : decode cX8_lifts 26 = .ok (.ireturn, 1) := by decide +kernel
theorem dX8_lifts_27 : decode cX8_lifts 27 = .ok (.aload_n 0, 1) := by decide +kernel
theorem dX8_lifts_28 : decode cX8_lifts 28 = .ok (.getfield 33, 3) := by decide +kernel
theorem dX8_lifts_31 : decode cX8_lifts 31 = .ok (.aload_n 0, 1) := by decide +kernel
theorem dX8_lifts_32 : decode cX8_lifts 32 = .ok (.getfield 26, 3) := by decide +kernel
theorem dX8_lifts_35 : decode cX8_lifts 35 = .ok (.invokevirtual 153, 3) := by decide +kernel
theorem dX8_lifts_38 : decode cX8_lifts 38 = .ok (.aload_n 0, 1) := by decide +kernel
theorem dX8_lifts_39 : decode cX8_lifts 39 = .ok (.getfield 26, 3) := by decide +kernel
theorem dX8_lifts_42 : decode cX8_lifts 42 = .ok (.getfield 132, 3) := by decide +kernel
theorem dX8_lifts_45 : decode cX8_lifts 45 = .ok (.istore_n 2, 1) := by decide +kernel
theorem dX8_lifts_46 : decode cX8_lifts 46 = .ok (.aload_n 0, 1) := by decide +kernel
theorem dX8_lifts_47 : decode cX8_lifts 47 = .ok (.getfield 26, 3) := by decide +kernel
theorem dX8_lifts_50 : decode cX8_lifts 50 = .ok (.iload_n 1, 1) := by decide +kernel
theorem dX8_lifts_51 : decode cX8_lifts 51 = .ok (.putfield 132, 3) := by decide +kernel
theorem dX8_lifts_54 : decode cX8_lifts 54 = .ok (.aload_n 0, 1) := by decide +kernel
theorem dX8_lifts_55 : decode cX8_lifts 55 = .ok (.getfield 26, 3) := by decide +kernel
theorem dX8_lifts_58 : decode cX8_lifts 58 = .ok (.iconst 0, 1) := by decide +kernel
theorem dX8_lifts_59 : decode cX8_lifts 59 = .ok (.putfield 135, 3) := by decide +kernel
theorem dX8_lifts_62 : decode cX8_lifts 62 = .ok (.iload_n 2, 1) := by decide +kernel
theorem dX8_lifts_63 : decode cX8_lifts 63 = .ok (.ireturn, 1) := by decide +kernel
set_option maxRecDepth 20000 in
theorem ggX8_lays_X5_has : GoodIn wsX8_lays wsX5_has := goodIn_r _ [9, 10, 11, 12, 13, 55, 56, 57, 58, 59, 60, 61] (by decide +kernel) (by decide +kernel)
set_option maxRecDepth 20000 in
theorem gX8_lays_X5_has : GoodIn wsX8_lays (wsV RX8 118 RX5 yX5_has wsX5_has) := goodIn_app (goodIn_of _ (by decide +kernel)) ggX8_lays_X5_has
set_option maxRecDepth 20000 in
theorem ggX8_lays_X8_within : GoodIn wsX8_lays wsX8_within := goodIn_r _ [13] (by decide +kernel) (by decide +kernel)
set_option maxRecDepth 20000 in
theorem gX8_lays_X8_within : GoodIn wsX8_lays (va_wsS RX8 81 yX8_within wsX8_within) := goodIn_app (goodIn_of _ (by decide +kernel)) ggX8_lays_X8_within
set_option maxRecDepth 20000 in
theorem ggX8_lays_X2_remember : GoodIn wsX8_lays wsX2_remember := goodIn_r _ [19, 20, 21, 22, 23, 24, 25, 26, 27, 28, 29, 30, 31, 32, 33, 34, 35, 36, 37, 38, 39, 62, 63, 64, 51, 52, 53, 54] (by decide +kernel) (by decide +kernel)
set_option maxRecDepth 20000 in
theorem gX8_lays_X2_remember : GoodIn wsX8_lays (wsV RX8 153 RX2 yX2_remember wsX2_remember) := goodIn_app (goodIn_of _ (by decide +kernel)) ggX8_lays_X2_remember
theorem dX8_lays_0 : decode cX8_lays 0 = .ok (.aload_n 0, 1) := by decide +kernel
theorem dX8_lays_1 : decode cX8_lays 1 = .ok (.getfield 12, 3) := by decide +kernel
theorem dX8_lays_4 : decode cX8_lays 4 = .ok (.iload_n 1, 1) := by decide +kernel
theorem dX8_lays_5 : decode cX8_lays 5 = .ok (.invokevirtual 118, 3) := by decide +kernel
theorem dX8_lays_8 : decode cX8_lays 8 = .ok (.ifCond .eq 12, 3) := by decide +kernel
theorem dX8_lays_11 : decode cX8_lays 11 = .ok (.iload_n 2, 1) := by decide +kernel
theorem dX8_lays_12 : decode cX8_lays 12 = .ok (.iconst 0, 1) := by decide +kernel
theorem dX8_lays_13 : decode cX8_lays 13 = .ok (.iconst 5, 1) := by decide +kernel
theorem dX8_lays_14 : decode cX8_lays 14 = .ok (.invokestatic 81, 3) := by decide +kernel
theorem dX8_lays_17 : decode cX8_lays 17 = .ok (.ifCond .ne 5, 3) := by decide +kernel
theorem dX8_lays_20 : decode cX8_lays 20 = .ok (.iconst (-1), 1) := by decide +kernel
theorem dX8_lays_21 : decode cX8_lays 21 = .ok (.ireturn, 1) := by decide +kernel
theorem dX8_lays_22 : decode cX8_lays 22 = .ok (.aload_n 0, 1) := by decide +kernel
theorem dX8_lays_23 : decode cX8_lays 23 = .ok (.getfield 26, 3) := by decide +kernel
theorem dX8_lays_26 : decode cX8_lays 26 = .ok (.getfield 129, 3) := by decide +kernel
theorem dX8_lays_29 : decode cX8_lays 29 = .ok (.iload_n 1, 1) := by decide +kernel
theorem dX8_lays_30 : decode cX8_lays 30 = .ok (.iaload, 1) := by decide +kernel
theorem dX8_lays_31 : decode cX8_lays 31 = .ok (.istore_n 3, 1) := by decide +kernel
theorem dX8_lays_32 : decode cX8_lays 32 = .ok (.iload_n 3, 1) := by decide +kernel
theorem dX8_lays_33 : decode cX8_lays 33 = .ok (.iload_n 2, 1) := by decide +kernel
theorem dX8_lays_34 : decode cX8_lays 34 = .ok (.if_icmp .ne 6, 3) := by decide +kernel
theorem dX8_lays_37 : decode cX8_lays 37 = .ok (.bipush (-2), 2) := by decide +kernel
theorem dX8_lays_39 : decode cX8_lays 39 = .ok (.ireturn, 1) := by decide +kernel
theorem dX8_lays_40 : decode cX8_lays 40 = .ok (.aload_n 0, 1) := by decide +kernel
theorem dX8_lays_41 : decode cX8_lays 41 = .ok (.getfield 33, 3) := by decide +kernel
theorem dX8_lays_44 : decode cX8_lays 44 = .ok (.aload_n 0, 1) := by decide +kernel
theorem dX8_lays_45 : decode cX8_lays 45 = .ok (.getfield 26, 3) := by decide +kernel
theorem dX8_lays_48 : decode cX8_lays 48 = .ok (.invokevirtual 153, 3) := by decide +kernel
theorem dX8_lays_51 : decode cX8_lays 51 = .ok (.aload_n 0, 1) := by decide +kernel
theorem dX8_lays_52 : decode cX8_lays 52 = .ok (.getfield 26, 3) := by decide +kernel
theorem dX8_lays_55 : decode cX8_lays 55 = .ok (.getfield 129, 3) := by decide +kernel
theorem dX8_lays_58 : decode cX8_lays 58 = .ok (.iload_n 1, 1) := by decide +kernel
theorem dX8_lays_59 : decode cX8_lays 59 = .ok (.iload_n 2, 1) := by decide +kernel
theorem dX8_lays_60 : decode cX8_lays 60 = .ok (.iastore, 1) := by decide +kernel
theorem dX8_lays_61 : decode cX8_lays 61 = .ok (.iload_n 3, 1) := by decide +kernel
theorem dX8_lays_62 : decode cX8_lays 62 = .ok (.ireturn, 1) := by decide +kernel
set_option maxRecDepth 20000 in
theorem ggX8_undo_X2_restore : GoodIn wsX8_undo wsX2_restore := goodIn_r _ [8, 9, 10, 11, 12, 13, 14, 15, 16, 17, 18, 19, 20, 21, 22, 23, 24, 36, 37, 38, 39, 40, 41, 42] (by decide +kernel) (by decide +kernel)
set_option maxRecDepth 20000 in
theorem gX8_undo_X2_restore : GoodIn wsX8_undo (wsV RX8 172 RX2 yX2_restore wsX2_restore) := goodIn_app (goodIn_of _ (by decide +kernel)) ggX8_undo_X2_restore
theorem dX8_undo_0 : decode cX8_undo 0 = .ok (.aload_n 0, 1) := by decide +kernel
theorem dX8_undo_1 : decode cX8_undo 1 = .ok (.getfield 33, 3) := by decide +kernel
theorem dX8_undo_4 : decode cX8_undo 4 = .ok (.aload_n 0, 1) := by decide +kernel
theorem dX8_undo_5 : decode cX8_undo 5 = .ok (.getfield 26, 3) := by decide +kernel
theorem dX8_undo_8 : decode cX8_undo 8 = .ok (.invokevirtual 172, 3) := by decide +kernel
theorem dX8_undo_11 : decode cX8_undo 11 = .ok (.ifCond .eq 13, 3) := by decide +kernel
theorem dX8_undo_14 : decode cX8_undo 14 = .ok (.aload_n 0, 1) := by decide +kernel
theorem dX8_undo_15 : decode cX8_undo 15 = .ok (.getfield 33, 3) := by decide +kernel
theorem dX8_undo_18 : decode cX8_undo 18 = .ok (.getfield 109, 3) := by decide +kernel
theorem dX8_undo_21 : decode cX8_undo 21 = .ok (.goto 5, 3) := by decide +kernel
theorem dX8_undo_24 : decode cX8_undo 24 = .ok (.bipush (-2), 2) := by decide +kernel
theorem dX8_undo_26 : decode cX8_undo 26 = .ok (.ireturn, 1) := by decide +kernel
set_option maxRecDepth 20000 in
theorem ggX8_push_X5_hasPlace : GoodIn wsX8_push wsX5_hasPlace := goodIn_r _ [8, 9, 10, 11, 12, 81, 82, 83, 84, 85, 86, 87] (by decide +kernel) (by decide +kernel)
set_option maxRecDepth 20000 in
theorem gX8_push_X5_hasPlace : GoodIn wsX8_push (wsV RX8 176 RX5 yX5_hasPlace wsX5_hasPlace) := goodIn_app (goodIn_of _ (by decide +kernel)) ggX8_push_X5_hasPlace
set_option maxRecDepth 20000 in
theorem ggX8_push_X8_asVigour : GoodIn wsX8_push wsX8_asVigour := goodIn_r _ [15] (by decide +kernel) (by decide +kernel)
set_option maxRecDepth 20000 in
theorem gX8_push_X8_asVigour : GoodIn wsX8_push (va_wsS RX8 169 yX8_asVigour wsX8_asVigour) := goodIn_app (goodIn_of _ (by decide +kernel)) ggX8_push_X8_asVigour
set_option maxRecDepth 20000 in
theorem ggX8_push_X8_runFrom : GoodIn wsX8_push wsX8_runFrom := goodIn_r _ [19, 20, 2, 21, 22, 23, 24, 25, 26, 27, 28, 29, 30, 31, 32, 33, 34, 35, 36, 37, 38, 39, 40, 41, 42, 43, 44, 45, 46, 47, 48, 49, 50, 51, 52, 7, 53, 9, 10, 11, 12, 54, 55, 56, 57, 58, 14, 15, 59, 60, 61, 62, 63, 64, 65, 66, 67, 68, 69, 70, 71, 72, 73, 74, 75, 76, 77, 78, 79, 80, 88, 89, 90, 91, 92, 93, 94, 95, 81, 82, 83, 84, 85, 86, 87] (by decide +kernel) (by decide +kernel)
set_option maxRecDepth 20000 in
theorem gX8_push_X8_runFrom : GoodIn wsX8_push (wsV RX8 141 RX8 yX8_runFrom wsX8_runFrom) := goodIn_app (goodIn_of _ (by decide +kernel)) ggX8_push_X8_runFrom
theorem dX8_push_0 : decode cX8_push 0 = .ok (.aload_n 0, 1) := by decide +kernel
theorem dX8_push_1 : decode cX8_push 1 = .ok (.getfield 12, 3) := by decide +kernel
theorem dX8_push_4 : decode cX8_push 4 = .ok (.iload_n 1, 1) := by decide +kernel
theorem dX8_push_5 : decode cX8_push 5 = .ok (.invokevirtual 176, 3) := by decide +kernel
theorem dX8_push_8 : decode cX8_push 8 = .ok (.ifCond .ne 5, 3) := by decide +kernel
theorem dX8_push_11 : decode cX8_push 11 = .ok (.iconst (-1), 1) := by decide +kernel
theorem dX8_push_12 : decode cX8_push 12 = .ok (.ireturn, 1) := by decide +kernel
theorem dX8_push_13 : decode cX8_push 13 = .ok (.iconst 0, 1) := by decide +kernel
theorem dX8_push_14 : decode cX8_push 14 = .ok (.istore_n 2, 1) := by decide +kernel
theorem dX8_push_15 : decode cX8_push 15 = .ok (.iload_n 2, 1) := by decide +kernel
theorem dX8_push_16 : decode cX8_push 16 = .ok (.bipush 60, 2) := by decide +kernel
theorem dX8_push_18 : decode cX8_push 18 = .ok (.if_icmp .gt 31, 3) := by decide +kernel
theorem dX8_push_21 : decode cX8_push 21 = .ok (.aload_n 0, 1) := by decide +kernel
theorem dX8_push_22 : decode cX8_push 22 = .ok (.aload_n 0, 1) := by decide +kernel
theorem dX8_push_23 : decode cX8_push 23 = .ok (.getfield 26, 3) := by decide +kernel
theorem dX8_push_26 : decode cX8_push 26 = .ok (.getfield 135, 3) := by decide +kernel
theorem dX8_push_29 : decode cX8_push 29 = .ok (.iload_n 2, 1) := by decide +kernel
theorem dX8_push_30 : decode cX8_push 30 = .ok (.iadd, 1) := by decide +kernel
theorem dX8_push_31 : decode cX8_push 31 = .ok (.invokestatic 169, 3) := by decide +kernel
theorem dX8_push_34 : decode cX8_push 34 = .ok (.invokevirtual 141, 3) := by decide +kernel
theorem dX8_push_37 : decode cX8_push 37 = .ok (.iload_n 1, 1) := by decide +kernel
theorem dX8_push_38 : decode cX8_push 38 = .ok (.if_icmp .ne 5, 3) := by decide +kernel
theorem dX8_push_41 : decode cX8_push 41 = .ok (.iload_n 2, 1) := by decide +kernel
theorem dX8_push_42 : decode cX8_push 42 = .ok (.ireturn, 1) := by decide +kernel
theorem dX8_push_43 : decode cX8_push 43 = .ok (.iinc 2 1, 3) := by decide +kernel
theorem dX8_push_46 : decode cX8_push 46 = .ok (.goto (-31), 3) := by decide +kernel
theorem dX8_push_49 : decode cX8_push 49 = .ok (.bipush (-9), 2) := by decide +kernel
theorem dX8_push_51 : decode cX8_push 51 = .ok (.ireturn, 1) := by decide +kernel
set_option maxRecDepth 20000 in
theorem ggX8_mat_X5_hasPlace : GoodIn wsX8_mat wsX5_hasPlace := goodIn_r _ [7, 8, 9, 10, 11, 79, 80, 81, 82, 83, 84, 85] (by decide +kernel) (by decide +kernel)
set_option maxRecDepth 20000 in
theorem gX8_mat_X5_hasPlace : GoodIn wsX8_mat (wsV RX8 176 RX5 yX5_hasPlace wsX5_hasPlace) := goodIn_app (goodIn_of _ (by decide +kernel)) ggX8_mat_X5_hasPlace
set_option maxRecDepth 20000 in
theorem ggX8_mat_X8_within : GoodIn wsX8_mat wsX8_within := goodIn_r _ [11] (by decide +kernel) (by decide +kernel)
set_option maxRecDepth 20000 in
theorem gX8_mat_X8_within : GoodIn wsX8_mat (va_wsS RX8 81 yX8_within wsX8_within) := goodIn_app (goodIn_of _ (by decide +kernel)) ggX8_mat_X8_within
set_option maxRecDepth 20000 in
theorem ggX8_mat_X8_runWithMat : GoodIn wsX8_mat wsX8_runWithMat := goodIn_r _ [16, 17, 18, 19, 20, 21, 22, 23, 24, 25, 26, 27, 28, 29, 30, 31, 32, 33, 34, 35, 36, 37, 38, 39, 40, 41, 42, 43, 44, 45, 46, 47, 48, 49, 50, 51, 52, 6, 53, 8, 9, 10, 11, 54, 55, 56, 57, 58, 59, 60, 61, 62, 63, 64, 65, 66, 67, 68, 69, 70, 71, 72, 73, 74, 75, 76, 77, 78, 86, 87, 88, 89, 90, 91, 92, 93, 94, 95, 96, 97, 79, 80, 81, 82, 83, 84, 85] (by decide +kernel) (by decide +kernel)
set_option maxRecDepth 20000 in
theorem gX8_mat_X8_runWithMat : GoodIn wsX8_mat (wsV RX8 182 RX8 yX8_runWithMat wsX8_runWithMat) := goodIn_app (goodIn_of _ (by decide +kernel)) ggX8_mat_X8_runWithMat
theorem dX8_mat_0 : decode cX8_mat 0 = .ok (.aload_n 0, 1) := by decide +kernel
theorem dX8_mat_1 : decode cX8_mat 1 = .ok (.getfield 12, 3) := by decide +kernel
theorem dX8_mat_4 : decode cX8_mat 4 = .ok (.iload_n 1, 1) := by decide +kernel
theorem dX8_mat_5 : decode cX8_mat 5 = .ok (.invokevirtual 176, 3) := by decide +kernel
theorem dX8_mat_8 : decode cX8_mat 8 = .ok (.ifCond .eq 12, 3) := by decide +kernel
theorem dX8_mat_11 : decode cX8_mat 11 = .ok (.iload_n 2, 1) := by decide +kernel
theorem dX8_mat_12 : decode cX8_mat 12 = .ok (.iconst 0, 1) := by decide +kernel
theorem dX8_mat_13 : decode cX8_mat 13 = .ok (.iconst 5, 1) := by decide +kernel
theorem dX8_mat_14 : decode cX8_mat 14 = .ok (.invokestatic 81, 3) := by decide +kernel
theorem dX8_mat_17 : decode cX8_mat 17 = .ok (.ifCond .ne 5, 3) := by decide +kernel
theorem dX8_mat_20 : decode cX8_mat 20 = .ok (.iconst (-1), 1) := by decide +kernel
theorem dX8_mat_21 : decode cX8_mat 21 = .ok (.ireturn, 1) := by decide +kernel
theorem dX8_mat_22 : decode cX8_mat 22 = .ok (.iconst 0, 1) := by decide +kernel
theorem dX8_mat_23 : decode cX8_mat 23 = .ok (.istore_n 3, 1) := by decide +kernel
theorem dX8_mat_24 : decode cX8_mat 24 = .ok (.iload_n 3, 1) := by decide +kernel
theorem dX8_mat_25 : decode cX8_mat 25 = .ok (.aload_n 0, 1) := by decide +kernel
theorem dX8_mat_26 : decode cX8_mat 26 = .ok (.getfield 12, 3) := by decide +kernel
theorem dX8_mat_29 : decode cX8_mat 29 = .ok (.getfield 179, 3) := by decide +kernel
theorem dX8_mat_32 : decode cX8_mat 32 = .ok (.if_icmp .ge 21, 3) := by decide +kernel
theorem dX8_mat_35 : decode cX8_mat 35 = .ok (.aload_n 0, 1) := by decide +kernel
theorem dX8_mat_36 : decode cX8_mat 36 = .ok (.iload_n 3, 1) := by decide +kernel
theorem dX8_mat_37 : decode cX8_mat 37 = .ok (.iload_n 2, 1) := by decide +kernel
theorem dX8_mat_38 : decode cX8_mat 38 = .ok (.invokevirtual 182, 3) := by decide +kernel
theorem dX8_mat_41 : decode cX8_mat 41 = .ok (.iload_n 1, 1) := by decide +kernel
theorem dX8_mat_42 : decode cX8_mat 42 = .ok (.if_icmp .ne 5, 3) := by decide +kernel
theorem dX8_mat_45 : decode cX8_mat 45 = .ok (.iload_n 3, 1) := by decide +kernel
theorem dX8_mat_46 : decode cX8_mat 46 = .ok (.ireturn, 1) := by decide +kernel
theorem dX8_mat_47 : decode cX8_mat 47 = .ok (.iinc 3 1, 3) := by decide +kernel
theorem dX8_mat_50 : decode cX8_mat 50 = .ok (.goto (-26), 3) := by decide +kernel
theorem dX8_mat_53 : decode cX8_mat 53 = .ok (.bipush (-9), 2) := by decide +kernel
theorem dX8_mat_55 : decode cX8_mat 55 = .ok (.ireturn, 1) := by decide +kernel
set_option maxRecDepth 20000 in
theorem ggX8_odds_X8_within : GoodIn wsX8_odds wsX8_within := goodIn_r _ [8] (by decide +kernel) (by decide +kernel)
set_option maxRecDepth 20000 in
theorem gX8_odds_X8_within : GoodIn wsX8_odds (va_wsS RX8 81 yX8_within wsX8_within) := goodIn_app (goodIn_of _ (by decide +kernel)) ggX8_odds_X8_within
set_option maxRecDepth 20000 in
theorem ggX8_odds_X0_weigh : GoodIn wsX8_odds wsX0_weigh := goodIn_r _ [13, 14, 15, 16, 17, 18, 19, 20, 21, 22, 23, 24, 25, 26, 27, 28, 29, 30, 31, 32, 33, 34, 35, 36, 37, 12, 38, 39, 40, 41, 42, 43, 44, 45, 46, 47, 48, 49, 50, 51, 52, 53, 54, 55, 56, 57, 58, 59, 60, 61, 62, 63, 64, 65, 66, 67, 68, 69, 70, 71, 6, 7, 8, 72, 73, 74, 75, 76, 77, 78, 79, 80, 81, 82, 83, 84, 85, 86, 87, 88, 89, 90, 102, 103, 104, 105, 106, 107, 108, 109, 110, 111, 112, 113, 114, 115, 116, 117, 118, 119, 120, 121, 122, 123, 124, 125] (by decide +kernel) (by decide +kernel)
set_option maxRecDepth 20000 in
theorem gX8_odds_X0_weigh : GoodIn wsX8_odds (wsV RX8 186 RX0 yX0_weigh wsX0_weigh) := goodIn_app (goodIn_of _ (by decide +kernel)) ggX8_odds_X0_weigh
theorem dX8_odds_0 : decode cX8_odds 0 = .ok (.iload_n 1, 1) := by decide +kernel
theorem dX8_odds_1 : decode cX8_odds 1 = .ok (.iconst 0, 1) := by decide +kernel
theorem dX8_odds_2 : decode cX8_odds 2 = .ok (.bipush 10, 2) := by decide +kernel
theorem dX8_odds_4 : decode cX8_odds 4 = .ok (.invokestatic 81, 3) := by decide +kernel
theorem dX8_odds_7 : decode cX8_odds 7 = .ok (.ifCond .eq 12, 3) := by decide +kernel
theorem dX8_odds_10 : decode cX8_odds 10 = .ok (.iload_n 2, 1) := by decide +kernel
theorem dX8_odds_11 : decode cX8_odds 11 = .ok (.iconst 0, 1) := by decide +kernel
theorem dX8_odds_12 : decode cX8_odds 12 = .ok (.iconst 1, 1) := by decide +kernel
theorem dX8_odds_13 : decode cX8_odds 13 = .ok (.invokestatic 81, 3) := by decide +kernel
theorem dX8_odds_16 : decode cX8_odds 16 = .ok (.ifCond .ne 5, 3) := by decide +kernel
theorem dX8_odds_19 : decode cX8_odds 19 = .ok (.iconst (-1), 1) := by decide +kernel
theorem dX8_odds_20 : decode cX8_odds 20 = .ok (.ireturn, 1) := by decide +kernel
theorem dX8_odds_21 : decode cX8_odds 21 = .ok (.aload_n 0, 1) := by decide +kernel
theorem dX8_odds_22 : decode cX8_odds 22 = .ok (.getfield 73, 3) := by decide +kernel
theorem dX8_odds_25 : decode cX8_odds 25 = .ok (.aload_n 0, 1) := by decide +kernel
theorem dX8_odds_26 : decode cX8_odds 26 = .ok (.getfield 26, 3) := by decide +kernel
theorem dX8_odds_29 : decode cX8_odds 29 = .ok (.iload_n 1, 1) := by decide +kernel
theorem dX8_odds_30 : decode cX8_odds 30 = .ok (.invokevirtual 186, 3) := by decide +kernel
theorem dX8_odds_33 : decode cX8_odds 33 = .ok (.iload_n 2, 1) := by decide +kernel
theorem dX8_odds_34 : decode cX8_odds 34 = .ok (.ifCond .ne 13, 3) := by decide +kernel
theorem dX8_odds_37 : decode cX8_odds 37 = .ok (.aload_n 0, 1) := by decide +kernel
theorem dX8_odds_38 : decode cX8_odds 38 = .ok (.getfield 73, 3) := by decide +kernel
theorem dX8_odds_41 : decode cX8_odds 41 = .ok (.getfield 190, 3) := by decide +kernel
theorem dX8_odds_44 : decode cX8_odds 44 = .ok (.goto 10, 3) := by decide +kernel
theorem dX8_odds_47 : decode cX8_odds 47 = .ok (.aload_n 0, 1) := by decide +kernel
theorem dX8_odds_48 : decode cX8_odds 48 = .ok (.getfield 73, 3) := by decide +kernel
theorem dX8_odds_51 : decode cX8_odds 51 = .ok (.getfield 193, 3) := by decide +kernel
theorem dX8_odds_54 : decode cX8_odds 54 = .ok (.l2i, 1) := by decide +kernel
theorem dX8_odds_55 : decode cX8_odds 55 = .ok (.ireturn, 1) := by decide +kernel
set_option maxRecDepth 20000 in
theorem ggX8_sees_X5_has : GoodIn wsX8_sees wsX5_has := goodIn_r _ [8, 9, 10, 11, 12, 47, 48, 49, 50, 51, 52, 53] (by decide +kernel) (by decide +kernel)
set_option maxRecDepth 20000 in
theorem gX8_sees_X5_has : GoodIn wsX8_sees (wsV RX8 118 RX5 yX5_has wsX5_has) := goodIn_app (goodIn_of _ (by decide +kernel)) ggX8_sees_X5_has
set_option maxRecDepth 20000 in
theorem ggX8_sees_X8_within : GoodIn wsX8_sees wsX8_within := goodIn_r _ [12] (by decide +kernel) (by decide +kernel)
set_option maxRecDepth 20000 in
theorem gX8_sees_X8_within : GoodIn wsX8_sees (va_wsS RX8 81 yX8_within wsX8_within) := goodIn_app (goodIn_of _ (by decide +kernel)) ggX8_sees_X8_within
set_option maxRecDepth 20000 in
theorem ggX8_sees_X5_hasPlace : GoodIn wsX8_sees wsX5_hasPlace := goodIn_r _ [17, 9, 10, 11, 12, 47, 48, 49, 50, 51, 52, 53] (by decide +kernel) (by decide +kernel)
set_option maxRecDepth 20000 in
theorem gX8_sees_X5_hasPlace : GoodIn wsX8_sees (wsV RX8 176 RX5 yX5_hasPlace wsX5_hasPlace) := goodIn_app (goodIn_of _ (by decide +kernel)) ggX8_sees_X5_hasPlace
set_option maxRecDepth 20000 in
theorem ggX8_sees_X1_add : GoodIn wsX8_sees wsX1_add := goodIn_r _ [22, 23, 24, 25, 26, 38, 39, 40, 41, 42, 43, 44, 45, 46] (by decide +kernel) (by decide +kernel)
set_option maxRecDepth 20000 in
theorem gX8_sees_X1_add : GoodIn wsX8_sees (wsV RX8 196 RX1 yX1_add wsX1_add) := goodIn_app (goodIn_of _ (by decide +kernel)) ggX8_sees_X1_add
theorem dX8_sees_0 : decode cX8_sees 0 = .ok (.aload_n 0, 1) := by decide +kernel
theorem dX8_sees_1 : decode cX8_sees 1 = .ok (.getfield 12, 3) := by decide +kernel
theorem dX8_sees_4 : decode cX8_sees 4 = .ok (.iload_n 1, 1) := by decide +kernel
theorem dX8_sees_5 : decode cX8_sees 5 = .ok (.invokevirtual 118, 3) := by decide +kernel
theorem dX8_sees_8 : decode cX8_sees 8 = .ok (.ifCond .eq 24, 3) := by decide +kernel
theorem dX8_sees_11 : decode cX8_sees 11 = .ok (.iload_n 2, 1) := by decide +kernel
theorem dX8_sees_12 : decode cX8_sees 12 = .ok (.iconst 1, 1) := by decide +kernel
theorem dX8_sees_13 : decode cX8_sees 13 = .ok (.bipush 60, 2) := by decide +kernel
theorem dX8_sees_15 : decode cX8_sees 15 = .ok (.invokestatic 81, 3) := by decide +kernel
theorem dX8_sees_18 : decode cX8_sees 18 = .ok (.ifCond .eq 14, 3) := by decide +kernel
theorem dX8_sees_21 : decode cX8_sees 21 = .ok (.aload_n 0, 1) := by decide +kernel
theorem dX8_sees_22 : decode cX8_sees 22 = .ok (.getfield 12, 3) := by decide +kernel
theorem dX8_sees_25 : decode cX8_sees 25 = .ok (.iload_n 3, 1) := by decide +kernel
theorem dX8_sees_26 : decode cX8_sees 26 = .ok (.invokevirtual 176, 3) := by decide +kernel
theorem dX8_sees_29 : decode cX8_sees 29 = .ok (.ifCond .ne 5, 3) := by decide +kernel
theorem dX8_sees_32 : decode cX8_sees 32 = .ok (.iconst (-1), 1) := by decide +kernel
theorem dX8_sees_33 : decode cX8_sees 33 = .ok (.ireturn, 1) := by decide +kernel
theorem dX8_sees_34 : decode cX8_sees 34 = .ok (.aload_n 0, 1) := by decide +kernel
theorem dX8_sees_35 : decode cX8_sees 35 = .ok (.getfield 66, 3) := by decide +kernel
theorem dX8_sees_38 : decode cX8_sees 38 = .ok (.iload_n 1, 1) := by decide +kernel
theorem dX8_sees_39 : decode cX8_sees 39 = .ok (.iload_n 2, 1) := by decide +kernel
theorem dX8_sees_40 : decode cX8_sees 40 = .ok (.iload_n 3, 1) := by decide +kernel
theorem dX8_sees_41 : decode cX8_sees 41 = .ok (.invokevirtual 196, 3) := by decide +kernel
theorem dX8_sees_44 : decode cX8_sees 44 = .ok (.ifCond .eq 13, 3) := by decide +kernel
theorem dX8_sees_47 : decode cX8_sees 47 = .ok (.aload_n 0, 1) := by decide +kernel
theorem dX8_sees_48 : decode cX8_sees 48 = .ok (.getfield 66, 3) := by decide +kernel
theorem dX8_sees_51 : decode cX8_sees 51 = .ok (.getfield 112, 3) := by decide +kernel
theorem dX8_sees_54 : decode cX8_sees 54 = .ok (.goto 5, 3) := by decide +kernel
theorem dX8_sees_57 : decode cX8_sees 57 = .ok (.bipush (-3), 2) := by decide +kernel
theorem dX8_sees_59 : decode cX8_sees 59 = .ok (.ireturn, 1) := by decide +kernel
theorem dX8_forget_0 : decode cX8_forget 0 = .ok (.aload_n 0, 1) := by decide +kernel
theorem dX8_forget_1 : decode cX8_forget 1 = .ok (.getfield 66, 3) := by decide +kernel
theorem dX8_forget_4 : decode cX8_forget 4 = .ok (.getfield 112, 3) := by decide +kernel
theorem dX8_forget_7 : decode cX8_forget 7 = .ok (.istore_n 1, 1) := by decide +kernel
theorem dX8_forget_8 : decode cX8_forget 8 = .ok (.aload_n 0, 1) := by decide +kernel
theorem dX8_forget_9 : decode cX8_forget 9 = .ok (.getfield 66, 3) := by decide +kernel
theorem dX8_forget_12 : decode cX8_forget 12 = .ok (.iconst 0, 1) := by decide +kernel
theorem dX8_forget_13 : decode cX8_forget 13 = .ok (.putfield 112, 3) := by decide +kernel
theorem dX8_forget_16 : decode cX8_forget 16 = .ok (.iload_n 1, 1) := by decide +kernel
theorem dX8_forget_17 : decode cX8_forget 17 = .ok (.ireturn, 1) := by decide +kernel
set_option maxRecDepth 20000 in
theorem ggX8_ways_X8_within : GoodIn wsX8_ways wsX8_within := goodIn_r _ [9] (by decide +kernel) (by decide +kernel)
set_option maxRecDepth 20000 in
theorem gX8_ways_X8_within : GoodIn wsX8_ways (va_wsS RX8 81 yX8_within wsX8_within) := goodIn_app (goodIn_of _ (by decide +kernel)) ggX8_ways_X8_within
set_option maxRecDepth 20000 in
theorem ggX8_ways_X1_findPossible : GoodIn wsX8_ways wsX1_findPossible := goodIn_r _ [14, 15, 16, 17, 18, 19, 20, 21, 22, 23, 24, 25, 26, 27, 28, 29, 30, 31, 32, 33, 34, 35, 36, 37, 13, 38, 39, 40, 41, 42, 43, 44, 45, 46, 47, 48, 49, 50, 51, 52, 53, 54, 55, 56, 57, 58, 59, 60, 61, 62, 7, 8, 9, 63, 64, 65, 66, 67, 68, 69, 70, 71, 72, 73, 74, 75, 76, 91, 92, 93, 94, 95, 96, 97, 98, 99, 100, 101, 102, 103, 104, 105, 106, 107, 108, 109, 110, 111, 112, 113, 114, 115, 116, 117, 118] (by decide +kernel) (by decide +kernel)
set_option maxRecDepth 20000 in
theorem gX8_ways_X1_findPossible : GoodIn wsX8_ways (wsV RX8 199 RX1 yX1_findPossible wsX1_findPossible) := goodIn_app (goodIn_of _ (by decide +kernel)) ggX8_ways_X1_findPossible
set_option maxRecDepth 20000 in
theorem ggX8_ways_X8_tenTimes : GoodIn wsX8_ways wsX8_tenTimes := goodIn_r _ [79] (by decide +kernel) (by decide +kernel)
set_option maxRecDepth 20000 in
theorem gX8_ways_X8_tenTimes : GoodIn wsX8_ways (va_wsS RX8 211 yX8_tenTimes wsX8_tenTimes) := goodIn_app (goodIn_of _ (by decide +kernel)) ggX8_ways_X8_tenTimes
theorem dX8_ways_0 : decode cX8_ways 0 = .ok (.iload_n 1, 1) := by decide +kernel
theorem dX8_ways_1 : decode cX8_ways 1 = .ok (.iconst 0, 1) := by decide +kernel
theorem dX8_ways_2 : decode cX8_ways 2 = .ok (.iconst 1, 1) := by decide +kernel
theorem dX8_ways_3 : decode cX8_ways 3 = .ok (.invokestatic 81, 3) := by decide +kernel
theorem dX8_ways_6 : decode cX8_ways 6 = .ok (.ifCond .ne 5, 3) := by decide +kernel
theorem dX8_ways_9 : decode cX8_ways 9 = .ok (.iconst (-1), 1) := by decide +kernel
theorem dX8_ways_10 : decode cX8_ways 10 = .ok (.ireturn, 1) := by decide +kernel
theorem dX8_ways_11 : decode cX8_ways 11 = .ok (.aload_n 0, 1) := by decide +kernel
theorem dX8_ways_12 : decode cX8_ways 12 = .ok (.getfield 66, 3) := by decide +kernel
theorem dX8_ways_15 : decode cX8_ways 15 = .ok (.aload_n 0, 1) := by decide +kernel
theorem dX8_ways_16 : decode cX8_ways 16 = .ok (.getfield 26, 3) := by decide +kernel
theorem dX8_ways_19 : decode cX8_ways 19 = .ok (.invokevirtual 199, 3) := by decide +kernel
theorem dX8_ways_22 : decode cX8_ways 22 = .ok (.iload_n 1, 1) := by decide +kernel
theorem dX8_ways_23 : decode cX8_ways 23 = .ok (.ifCond .ne 11, 3) := by decide +kernel
theorem dX8_ways_26 : decode cX8_ways 26 = .ok (.aload_n 0, 1) := by decide +kernel
theorem dX8_ways_27 : decode cX8_ways 27 = .ok (.getfield 66, 3) := by decide +kernel
theorem dX8_ways_30 : decode cX8_ways 30 = .ok (.getfield 202, 3) := by decide +kernel
theorem dX8_ways_33 : decode cX8_ways 33 = .ok (.ireturn, 1) := by decide +kernel
theorem dX8_ways_34 : decode cX8_ways 34 = .ok (.aload_n 0, 1) := by decide +kernel
theorem dX8_ways_35 : decode cX8_ways 35 = .ok (.getfield 66, 3) := by decide +kernel
theorem dX8_ways_38 : decode cX8_ways 38 = .ok (.getfield 202, 3) := by decide +kernel
theorem dX8_ways_41 : decode cX8_ways 41 = .ok (.ifCond .ne 8, 3) := by decide +kernel
theorem dX8_ways_44 : decode cX8_ways 44 = .ok (.bipush (-9), 2) := by decide +kernel
theorem dX8_ways_46 : decode cX8_ways 46 = .ok (.goto 24, 3) := by decide +kernel
theorem dX8_ways_49 : decode cX8_ways 49 = .ok (.aload_n 0, 1) := by decide +kernel
theorem dX8_ways_50 : decode cX8_ways 50 = .ok (.getfield 66, 3) := by decide +kernel
theorem dX8_ways_53 : decode cX8_ways 53 = .ok (.getfield 205, 3) := by decide +kernel
theorem dX8_ways_56 : decode cX8_ways 56 = .ok (.iconst 0, 1) := by decide +kernel
theorem dX8_ways_57 : decode cX8_ways 57 = .ok (.iaload, 1) := by decide +kernel
theorem dX8_ways_58 : decode cX8_ways 58 = .ok (.aload_n 0, 1) := by decide +kernel
theorem dX8_ways_59 : decode cX8_ways 59 = .ok (.getfield 66, 3) := by decide +kernel
theorem dX8_ways_62 : decode cX8_ways 62 = .ok (.getfield 208, 3) := by decide +kernel
theorem dX8_ways_65 : decode cX8_ways 65 = .ok (.iconst 0, 1) := by decide +kernel
theorem dX8_ways_66 : decode cX8_ways 66 = .ok (.iaload, 1) := by decide +kernel
theorem dX8_ways_67 : decode cX8_ways 67 = .ok (.invokestatic 211, 3) := by decide +kernel
theorem dX8_ways_70 : decode cX8_ways 70 = .ok (.ireturn, 1) := by decide +kernel
set_option maxRecDepth 20000 in
theorem ggX8_next_X5_has : GoodIn wsX8_next wsX5_has := goodIn_r _ [8, 9, 10, 11, 12, 103, 104, 105, 106, 107, 108, 109] (by decide +kernel) (by decide +kernel)
set_option maxRecDepth 20000 in
theorem gX8_next_X5_has : GoodIn wsX8_next (wsV RX8 118 RX5 yX5_has wsX5_has) := goodIn_app (goodIn_of _ (by decide +kernel)) ggX8_next_X5_has
set_option maxRecDepth 20000 in
theorem ggX8_next_X1_findPossible : GoodIn wsX8_next wsX1_findPossible := goodIn_r _ [17, 18, 19, 20, 21, 22, 23, 24, 25, 26, 27, 28, 29, 30, 31, 32, 33, 34, 35, 36, 37, 38, 39, 40, 16, 41, 42, 43, 44, 45, 46, 47, 48, 49, 50, 51, 52, 53, 54, 55, 56, 57, 58, 59, 60, 5, 6, 7, 8, 9, 10, 11, 12, 61, 62, 63, 64, 65, 66, 67, 68, 69, 70, 71, 72, 73, 74, 110, 111, 112, 113, 114, 115, 116, 117, 118, 119, 120, 121, 122, 123, 124, 125, 126, 127, 128, 129, 130, 103, 104, 105, 106, 107, 108, 109] (by decide +kernel) (by decide +kernel)
set_option maxRecDepth 20000 in
theorem gX8_next_X1_findPossible : GoodIn wsX8_next (wsV RX8 199 RX1 yX1_findPossible wsX1_findPossible) := goodIn_app (goodIn_of _ (by decide +kernel)) ggX8_next_X1_findPossible
set_option maxRecDepth 20000 in
theorem ggX8_next_X1_bestTry : GoodIn wsX8_next wsX1_bestTry := goodIn_r _ [78, 19, 79, 80, 81, 16, 82, 83, 18, 20, 42, 21, 43, 84, 85, 86, 87, 88, 89, 90, 91, 48, 49, 50, 25, 51, 52, 33, 53, 54, 55, 56, 57, 58, 59, 60, 5, 6, 7, 8, 9, 10, 11, 12, 61, 62, 63, 64, 35, 65, 37, 66, 67, 68, 69, 70, 71, 72, 28, 73, 74, 110, 111, 112, 113, 114, 115, 116, 117, 118, 123, 124, 125, 126, 127, 128, 129, 130, 103, 104, 105, 106, 107, 108, 109] (by decide +kernel) (by decide +kernel)
set_option maxRecDepth 20000 in
theorem gX8_next_X1_bestTry : GoodIn wsX8_next (wsV RX8 214 RX1 yX1_bestTry wsX1_bestTry) := goodIn_app (goodIn_of _ (by decide +kernel)) ggX8_next_X1_bestTry
theorem dX8_next_0 : decode cX8_next 0 = .ok (.aload_n 0, 1) := by decide +kernel
theorem dX8_next_1 : decode cX8_next 1 = .ok (.getfield 12, 3) := by decide +kernel
theorem dX8_next_4 : decode cX8_next 4 = .ok (.iload_n 1, 1) := by decide +kernel
theorem dX8_next_5 : decode cX8_next 5 = .ok (.invokevirtual 118, 3) := by decide +kernel
theorem dX8_next_8 : decode cX8_next 8 = .ok (.ifCond .ne 5, 3) := by decide +kernel
theorem dX8_next_11 : decode cX8_next 11 = .ok (.iconst (-1), 1) := by decide +kernel
theorem dX8_next_12 : decode cX8_next 12 = .ok (.ireturn, 1) := by decide +kernel
theorem dX8_next_13 : decode cX8_next 13 = .ok (.aload_n 0, 1) := by decide +kernel
theorem dX8_next_14 : decode cX8_next 14 = .ok (.getfield 66, 3) := by decide +kernel
theorem dX8_next_17 : decode cX8_next 17 = .ok (.aload_n 0, 1) := by decide +kernel
theorem dX8_next_18 : decode cX8_next 18 = .ok (.getfield 26, 3) := by decide +kernel
theorem dX8_next_21 : decode cX8_next 21 = .ok (.invokevirtual 199, 3) := by decide +kernel
theorem dX8_next_24 : decode cX8_next 24 = .ok (.aload_n 0, 1) := by decide +kernel
theorem dX8_next_25 : decode cX8_next 25 = .ok (.getfield 66, 3) := by decide +kernel
theorem dX8_next_28 : decode cX8_next 28 = .ok (.iload_n 1, 1) := by decide +kernel
theorem dX8_next_29 : decode cX8_next 29 = .ok (.invokevirtual 214, 3) := by decide +kernel
theorem dX8_next_32 : decode cX8_next 32 = .ok (.ireturn, 1) := by decide +kernel
set_option maxRecDepth 20000 in
theorem ggX8_rate_X5_has : GoodIn wsX8_rate wsX5_has := goodIn_r _ [7, 8, 9, 10, 11, 58, 59, 60, 61, 62, 63, 64] (by decide +kernel) (by decide +kernel)
set_option maxRecDepth 20000 in
theorem gX8_rate_X5_has : GoodIn wsX8_rate (wsV RX8 118 RX5 yX5_has wsX5_has) := goodIn_app (goodIn_of _ (by decide +kernel)) ggX8_rate_X5_has
set_option maxRecDepth 20000 in
theorem ggX8_rate_X8_asCoil : GoodIn wsX8_rate wsX8_asCoil := goodIn_r _ [15, 16, 1, 17, 47, 48, 49, 50, 51, 52, 53, 54, 55, 56, 57, 58, 59, 60, 61, 62, 63, 64] (by decide +kernel) (by decide +kernel)
set_option maxRecDepth 20000 in
theorem gX8_rate_X8_asCoil : GoodIn wsX8_rate (wsV RX8 218 RX8 yX8_asCoil wsX8_asCoil) := goodIn_app (goodIn_of _ (by decide +kernel)) ggX8_rate_X8_asCoil
set_option maxRecDepth 20000 in
theorem ggX8_rate_X8_asBrass : GoodIn wsX8_rate wsX8_asBrass := goodIn_r _ [21, 16, 22, 1, 23, 12, 13, 14, 10, 15, 17, 47, 48, 49, 50, 51, 52, 53, 54, 55, 56, 57, 58, 59, 60, 61, 62, 63, 64] (by decide +kernel) (by decide +kernel)
set_option maxRecDepth 20000 in
theorem gX8_rate_X8_asBrass : GoodIn wsX8_rate (wsV RX8 221 RX8 yX8_asBrass wsX8_asBrass) := goodIn_app (goodIn_of _ (by decide +kernel)) ggX8_rate_X8_asBrass
set_option maxRecDepth 20000 in
theorem ggX8_rate_X8_asPaper : GoodIn wsX8_rate wsX8_asPaper := goodIn_r _ [27, 16, 28, 29, 30, 12, 13, 14, 10, 15, 1, 17, 47, 48, 49, 50, 51, 52, 53, 54, 55, 56, 57, 65, 66, 67, 68, 58, 59, 60, 61, 62, 63, 64] (by decide +kernel) (by decide +kernel)
set_option maxRecDepth 20000 in
theorem gX8_rate_X8_asPaper : GoodIn wsX8_rate (wsV RX8 224 RX8 yX8_asPaper wsX8_asPaper) := goodIn_app (goodIn_of _ (by decide +kernel)) ggX8_rate_X8_asPaper
set_option maxRecDepth 20000 in
theorem ggX8_rate_X8_asSilver : GoodIn wsX8_rate wsX8_asSilver := goodIn_r _ [34, 16, 35, 18, 19, 20, 10, 21, 22, 1, 23, 12, 13, 14, 15, 17, 47, 48, 49, 50, 51, 52, 53, 54, 55, 56, 57, 58, 59, 60, 61, 62, 63, 64] (by decide +kernel) (by decide +kernel)
set_option maxRecDepth 20000 in
theorem gX8_rate_X8_asSilver : GoodIn wsX8_rate (wsV RX8 227 RX8 yX8_asSilver wsX8_asSilver) := goodIn_app (goodIn_of _ (by decide +kernel)) ggX8_rate_X8_asSilver
set_option maxRecDepth 20000 in
theorem ggX8_rate_X8_asTwine : GoodIn wsX8_rate wsX8_asTwine := goodIn_r _ [39, 16, 40, 24, 25, 26, 10, 27, 28, 29, 30, 12, 13, 14, 15, 1, 17, 47, 48, 49, 50, 51, 52, 53, 54, 55, 56, 57, 65, 66, 67, 68, 58, 59, 60, 61, 62, 63, 64] (by decide +kernel) (by decide +kernel)
set_option maxRecDepth 20000 in
theorem gX8_rate_X8_asTwine : GoodIn wsX8_rate (wsV RX8 230 RX8 yX8_asTwine wsX8_asTwine) := goodIn_app (goodIn_of _ (by decide +kernel)) ggX8_rate_X8_asTwine
set_option maxRecDepth 20000 in
theorem ggX8_rate_X8_asLead : GoodIn wsX8_rate wsX8_asLead := goodIn_r _ [44, 16, 45, 29, 46, 12, 13, 14, 10, 15, 1, 17, 47, 48, 49, 50, 51, 52, 53, 54, 55, 56, 57, 65, 66, 67, 68, 58, 59, 60, 61, 62, 63, 64] (by decide +kernel) (by decide +kernel)
set_option maxRecDepth 20000 in
theorem gX8_rate_X8_asLead : GoodIn wsX8_rate (wsV RX8 233 RX8 yX8_asLead wsX8_asLead) := goodIn_app (goodIn_of _ (by decide +kernel)) ggX8_rate_X8_asLead
theorem dX8_rate_0 : decode cX8_rate 0 = .ok (.aload_n 0, 1) := by decide +kernel
theorem dX8_rate_1 : decode cX8_rate 1 = .ok (.getfield 12, 3) := by decide +kernel
theorem dX8_rate_4 : decode cX8_rate 4 = .ok (.iload_n 2, 1) := by decide +kernel
theorem dX8_rate_5 : decode cX8_rate 5 = .ok (.invokevirtual 118, 3) := by decide +kernel
theorem dX8_rate_8 : decode cX8_rate 8 = .ok (.ifCond .ne 6, 3) := by decide +kernel
theorem dX8_rate_11 : decode cX8_rate 11 = .ok (.ldc 217, 2) := by decide +kernel
theorem dX8_rate_13 : decode cX8_rate 13 = .ok (.ireturn, 1) := by decide +kernel
theorem dX8_rate_14 : decode cX8_rate 14 = .ok (.iload_n 1, 1) := by decide +kernel
theorem dX8_rate_15 : decode cX8_rate 15 = .ok (.tableswitch 73 0 5 #[37, 43, 49, 55, 61, 67], 37) := by decide +kernel
theorem dX8_rate_52 : decode cX8_rate 52 = .ok (.aload_n 0, 1) := by decide +kernel
theorem dX8_rate_53 : decode cX8_rate 53 = .ok (.iload_n 2, 1) := by decide +kernel
theorem dX8_rate_54 : decode cX8_rate 54 = .ok (.invokevirtual 218, 3) := by decide +kernel
theorem dX8_rate_57 : decode cX8_rate 57 = .ok (.ireturn, 1) := by decide +kernel
theorem dX8_rate_58 : decode cX8_rate 58 = .ok (.aload_n 0, 1) := by decide +kernel
theorem dX8_rate_59 : decode cX8_rate 59 = .ok (.iload_n 2, 1) := by decide +kernel
theorem dX8_rate_60 : decode cX8_rate 60 = .ok (.invokevirtual 221, 3) := by decide +kernel
theorem dX8_rate_63 : decode cX8_rate 63 = .ok (.ireturn, 1) := by decide +kernel
theorem dX8_rate_64 : decode cX8_rate 64 = .ok (.aload_n 0, 1) := by decide +kernel
theorem dX8_rate_65 : decode cX8_rate 65 = .ok (.iload_n 2, 1) := by decide +kernel
theorem dX8_rate_66 : decode cX8_rate 66 = .ok (.invokevirtual 224, 3) := by decide +kernel
theorem dX8_rate_69 : decode cX8_rate 69 = .ok (.ireturn, 1) := by decide +kernel
theorem dX8_rate_70 : decode cX8_rate 70 = .ok (.aload_n 0, 1) := by decide +kernel
theorem dX8_rate_71 : decode cX8_rate 71 = .ok (.iload_n 2, 1) := by decide +kernel
theorem dX8_rate_72 : decode cX8_rate 72 = .ok (.invokevirtual 227, 3) := by decide +kernel
theorem dX8_rate_75 : decode cX8_rate 75 = .ok (.ireturn, 1) := by decide +kernel
theorem dX8_rate_76 : decode cX8_rate 76 = .ok (.aload_n 0, 1) := by decide +kernel
theorem dX8_rate_77 : decode cX8_rate 77 = .ok (.iload_n 2, 1) := by decide +kernel
theorem dX8_rate_78 : decode cX8_rate 78 = .ok (.invokevirtual 230, 3) := by decide +kernel
theorem dX8_rate_81 : decode cX8_rate 81 = .ok (.ireturn, 1) := by decide +kernel
theorem dX8_rate_82 : decode cX8_rate 82 = .ok (.aload_n 0, 1) := by decide +kernel
theorem dX8_rate_83 : decode cX8_rate 83 = .ok (.iload_n 2, 1) := by decide +kernel
theorem dX8_rate_84 : decode cX8_rate 84 = .ok (.invokevirtual 233, 3) := by decide +kernel
theorem dX8_rate_87 : decode cX8_rate 87 = .ok (.ireturn, 1) := by decide +kernel
theorem dX8_rate_88 : decode cX8_rate 88 = .ok (.ldc 217, 2) := by decide +kernel
theorem dX8_rate_90 : decode cX8_rate 90 = .ok (.ireturn, 1) := by decide +kernel
set_option maxRecDepth 20000 in
theorem ggX8_keep_X8_within : GoodIn wsX8_keep wsX8_within := goodIn_r _ [8] (by decide +kernel) (by decide +kernel)
set_option maxRecDepth 20000 in
theorem gX8_keep_X8_within : GoodIn wsX8_keep (va_wsS RX8 81 yX8_within wsX8_within) := goodIn_app (goodIn_of _ (by decide +kernel)) ggX8_keep_X8_within
set_option maxRecDepth 20000 in
theorem ggX8_keep_X4_copy : GoodIn wsX8_keep wsX4_copy := goodIn_r _ [13, 14, 15, 16, 17, 18, 19, 20, 21, 33, 34, 35, 36] (by decide +kernel) (by decide +kernel)
set_option maxRecDepth 20000 in
theorem gX8_keep_X4_copy : GoodIn wsX8_keep (wsV RX8 236 RX4 yX4_copy wsX4_copy) := goodIn_app (goodIn_of _ (by decide +kernel)) ggX8_keep_X4_copy
theorem dX8_keep_0 : decode cX8_keep 0 = .ok (.iload_n 1, 1) := by decide +kernel
theorem dX8_keep_1 : decode cX8_keep 1 = .ok (.iconst 0, 1) := by decide +kernel
theorem dX8_keep_2 : decode cX8_keep 2 = .ok (.iconst 1, 1) := by decide +kernel
theorem dX8_keep_3 : decode cX8_keep 3 = .ok (.invokestatic 81, 3) := by decide +kernel
theorem dX8_keep_6 : decode cX8_keep 6 = .ok (.ifCond .ne 5, 3) := by decide +kernel
theorem dX8_keep_9 : decode cX8_keep 9 = .ok (.iconst (-1), 1) := by decide +kernel
theorem dX8_keep_10 : decode cX8_keep 10 = .ok (.ireturn, 1) := by decide +kernel
theorem dX8_keep_11 : decode cX8_keep 11 = .ok (.aload_n 0, 1) := by decide +kernel
theorem dX8_keep_12 : decode cX8_keep 12 = .ok (.getfield 37, 3) := by decide +kernel
theorem dX8_keep_15 : decode cX8_keep 15 = .ok (.iload_n 1, 1) := by decide +kernel
theorem dX8_keep_16 : decode cX8_keep 16 = .ok (.aaload, 1) := by decide +kernel
theorem dX8_keep_17 : decode cX8_keep 17 = .ok (.aload_n 0, 1) := by decide +kernel
theorem dX8_keep_18 : decode cX8_keep 18 = .ok (.getfield 26, 3) := by decide +kernel
theorem dX8_keep_21 : decode cX8_keep 21 = .ok (.invokevirtual 236, 3) := by decide +kernel
theorem dX8_keep_24 : decode cX8_keep 24 = .ok (.aload_n 0, 1) := by decide +kernel
theorem dX8_keep_25 : decode cX8_keep 25 = .ok (.getfield 41, 3) := by decide +kernel
theorem dX8_keep_28 : decode cX8_keep 28 = .ok (.iload_n 1, 1) := by decide +kernel
theorem dX8_keep_29 : decode cX8_keep 29 = .ok (.iconst 1, 1) := by decide +kernel
theorem dX8_keep_30 : decode cX8_keep 30 = .ok (.bastore, 1) := by decide +kernel
theorem dX8_keep_31 : decode cX8_keep 31 = .ok (.aload_n 0, 1) := by decide +kernel
theorem dX8_keep_32 : decode cX8_keep 32 = .ok (.getfield 26, 3) := by decide +kernel
theorem dX8_keep_35 : decode cX8_keep 35 = .ok (.getfield 132, 3) := by decide +kernel
theorem dX8_keep_38 : decode cX8_keep 38 = .ok (.ireturn, 1) := by decide +kernel
set_option maxRecDepth 20000 in
theorem ggX8_back_X8_within : GoodIn wsX8_back wsX8_within := goodIn_r _ [10] (by decide +kernel) (by decide +kernel)
set_option maxRecDepth 20000 in
theorem gX8_back_X8_within : GoodIn wsX8_back (va_wsS RX8 81 yX8_within wsX8_within) := goodIn_app (goodIn_of _ (by decide +kernel)) ggX8_back_X8_within
set_option maxRecDepth 20000 in
theorem ggX8_back_X4_copy : GoodIn wsX8_back wsX4_copy := goodIn_r _ [15, 16, 17, 18, 19, 20, 21, 22, 23, 38, 39, 40, 41] (by decide +kernel) (by decide +kernel)
set_option maxRecDepth 20000 in
theorem gX8_back_X4_copy : GoodIn wsX8_back (wsV RX8 236 RX4 yX4_copy wsX4_copy) := goodIn_app (goodIn_of _ (by decide +kernel)) ggX8_back_X4_copy
theorem dX8_back_0 : decode cX8_back 0 = .ok (.iload_n 1, 1) := by decide +kernel
theorem dX8_back_1 : decode cX8_back 1 = .ok (.iconst 0, 1) := by decide +kernel
theorem dX8_back_2 : decode cX8_back 2 = .ok (.iconst 1, 1) := by decide +kernel
theorem dX8_back_3 : decode cX8_back 3 = .ok (.invokestatic 81, 3) := by decide +kernel
theorem dX8_back_6 : decode cX8_back 6 = .ok (.ifCond .ne 5, 3) := by decide +kernel
theorem dX8_back_9 : decode cX8_back 9 = .ok (.iconst (-1), 1) := by decide +kernel
theorem dX8_back_10 : decode cX8_back 10 = .ok (.ireturn, 1) := by decide +kernel
theorem dX8_back_11 : decode cX8_back 11 = .ok (.aload_n 0, 1) := by decide +kernel
theorem dX8_back_12 : decode cX8_back 12 = .ok (.getfield 41, 3) := by decide +kernel
theorem dX8_back_15 : decode cX8_back 15 = .ok (.iload_n 1, 1) := by decide +kernel
theorem dX8_back_16 : decode cX8_back 16 = .ok (.baload, 1) := by decide +kernel
theorem dX8_back_17 : decode cX8_back 17 = .ok (.ifCond .ne 6, 3) := by decide +kernel
theorem dX8_back_20 : decode cX8_back 20 = .ok (.bipush (-2), 2) := by decide +kernel
theorem dX8_back_22 : decode cX8_back 22 = .ok (.ireturn, 1) := by decide +kernel
theorem dX8_back_23 : decode cX8_back 23 = .ok (.aload_n 0, 1) := by decide +kernel
theorem dX8_back_24 : decode cX8_back 24 = .ok (.getfield 26, 3) := by decide +kernel
theorem dX8_back_27 : decode cX8_back 27 = .ok (.aload_n 0, 1) := by decide +kernel
theorem dX8_back_28 : decode cX8_back 28 = .ok (.getfield 37, 3) := by decide +kernel
theorem dX8_back_31 : decode cX8_back 31 = .ok (.iload_n 1, 1) := by decide +kernel
theorem dX8_back_32 : decode cX8_back 32 = .ok (.aaload, 1) := by decide +kernel
theorem dX8_back_33 : decode cX8_back 33 = .ok (.invokevirtual 236, 3) := by decide +kernel
theorem dX8_back_36 : decode cX8_back 36 = .ok (.aload_n 0, 1) := by decide +kernel
theorem dX8_back_37 : decode cX8_back 37 = .ok (.getfield 33, 3) := by decide +kernel
theorem dX8_back_40 : decode cX8_back 40 = .ok (.iconst 0, 1) := by decide +kernel
theorem dX8_back_41 : decode cX8_back 41 = .ok (.putfield 109, 3) := by decide +kernel
theorem dX8_back_44 : decode cX8_back 44 = .ok (.aload_n 0, 1) := by decide +kernel
theorem dX8_back_45 : decode cX8_back 45 = .ok (.getfield 26, 3) := by decide +kernel
theorem dX8_back_48 : decode cX8_back 48 = .ok (.getfield 132, 3) := by decide +kernel
theorem dX8_back_51 : decode cX8_back 51 = .ok (.ireturn, 1) := by decide +kernel
theorem dX8_count_0 : decode cX8_count 0 = .ok (.iload_n 1, 1) := by decide +kernel
theorem dX8_count_1 : decode cX8_count 1 = .ok (.tableswitch 87 0 5 #[39, 47, 55, 63, 71, 79], 39) := by decide +kernel
theorem dX8_count_40 : decode cX8_count 40 = .ok (.aload_n 0, 1) := by decide +kernel
theorem dX8_count_41 : decode cX8_count 41 = .ok (.getfield 12, 3) := by decide +kernel
theorem dX8_count_44 : decode cX8_count 44 = .ok (.getfield 179, 3) := by decide +kernel
theorem dX8_count_47 : decode cX8_count 47 = .ok (.ireturn, 1) := by decide +kernel
theorem dX8_count_48 : decode cX8_count 48 = .ok (.aload_n 0, 1) := by decide +kernel
theorem dX8_count_49 : decode cX8_count 49 = .ok (.getfield 12, 3) := by decide +kernel
theorem dX8_count_52 : decode cX8_count 52 = .ok (.getfield 238, 3) := by decide +kernel
theorem dX8_count_55 : decode cX8_count 55 = .ok (.ireturn, 1) := by decide +kernel
theorem dX8_count_56 : decode cX8_count 56 = .ok (.aload_n 0, 1) := by decide +kernel
theorem dX8_count_57 : decode cX8_count 57 = .ok (.getfield 12, 3) := by decide +kernel
theorem dX8_count_60 : decode cX8_count 60 = .ok (.getfield 241, 3) := by decide +kernel
theorem dX8_count_63 : decode cX8_count 63 = .ok (.ireturn, 1) := by decide +kernel
theorem dX8_count_64 : decode cX8_count 64 = .ok (.aload_n 0, 1) := by decide +kernel
theorem dX8_count_65 : decode cX8_count 65 = .ok (.getfield 12, 3) := by decide +kernel
theorem dX8_count_68 : decode cX8_count 68 = .ok (.getfield 244, 3) := by decide +kernel
theorem dX8_count_71 : decode cX8_count 71 = .ok (.ireturn, 1) := by decide +kernel
theorem dX8_count_72 : decode cX8_count 72 = .ok (.aload_n 0, 1) := by decide +kernel
theorem dX8_count_73 : decode cX8_count 73 = .ok (.getfield 66, 3) := by decide +kernel
theorem dX8_count_76 : decode cX8_count 76 = .ok (.getfield 112, 3) := by decide +kernel
theorem dX8_count_79 : decode cX8_count 79 = .ok (.ireturn, 1) := by decide +kernel
theorem dX8_count_80 : decode cX8_count 80 = .ok (.aload_n 0, 1) := by decide +kernel
theorem dX8_count_81 : decode cX8_count 81 = .ok (.getfield 19, 3) := by decide +kernel
theorem dX8_count_84 : decode cX8_count 84 = .ok (.getfield 89, 3) := by decide +kernel
theorem dX8_count_87 : decode cX8_count 87 = .ok (.ireturn, 1) := by decide +kernel
theorem dX8_count_88 : decode cX8_count 88 = .ok (.iconst (-1), 1) := by decide +kernel
theorem dX8_count_89 : decode cX8_count 89 = .ok (.ireturn, 1) := by decide +kernel
theorem dX8_trace_0 : decode cX8_trace 0 = .ok (.aload_n 0, 1) := by decide +kernel
theorem dX8_trace_1 : decode cX8_trace 1 = .ok (.getfield 77, 3) := by decide +kernel
theorem dX8_trace_4 : decode cX8_trace 4 = .ok (.lreturn, 1) := by decide +kernel
theorem dX8_within_0 : decode cX8_within 0 = .ok (.iload_n 0, 1) := by decide +kernel
theorem dX8_within_1 : decode cX8_within 1 = .ok (.iload_n 1, 1) := by decide +kernel
theorem dX8_within_2 : decode cX8_within 2 = .ok (.if_icmp .lt 12, 3) := by decide +kernel
theorem dX8_within_5 : decode cX8_within 5 = .ok (.iload_n 0, 1) := by decide +kernel
theorem dX8_within_6 : decode cX8_within 6 = .ok (.iload_n 2, 1) := by decide +kernel
theorem dX8_within_7 : decode cX8_within 7 = .ok (.if_icmp .gt 7, 3) := by decide +kernel
theorem dX8_within_10 : decode cX8_within 10 = .ok (.iconst 1, 1) := by decide +kernel
theorem dX8_within_11 : decode cX8_within 11 = .ok (.goto 4, 3) := by decide +kernel
theorem dX8_within_14 : decode cX8_within 14 = .ok (.iconst 0, 1) := by decide +kernel
theorem dX8_within_15 : decode cX8_within 15 = .ok (.ireturn, 1) := by decide +kernel
theorem dX8_asVigour_0 : decode cX8_asVigour 0 = .ok (.iload_n 0, 1) := by decide +kernel
theorem dX8_asVigour_1 : decode cX8_asVigour 1 = .ok (.ifCond .ge 5, 3) := by decide +kernel
theorem dX8_asVigour_4 : decode cX8_asVigour 4 = .ok (.iconst 0, 1) := by decide +kernel
theorem dX8_asVigour_5 : decode cX8_asVigour 5 = .ok (.ireturn, 1) := by decide +kernel
theorem dX8_asVigour_6 : decode cX8_asVigour 6 = .ok (.iload_n 0, 1) := by decide +kernel
theorem dX8_asVigour_7 : decode cX8_asVigour 7 = .ok (.bipush 99, 2) := by decide +kernel
theorem dX8_asVigour_9 : decode cX8_asVigour 9 = .ok (.if_icmp .le 8, 3) := by decide +kernel
theorem dX8_asVigour_12 : decode cX8_asVigour 12 = .ok (.bipush 99, 2) := by decide +kernel
theorem dX8_asVigour_14 : decode cX8_asVigour 14 = .ok (.goto 4, 3) := by decide +kernel
theorem dX8_asVigour_17 : decode cX8_asVigour 17 = .ok (.iload_n 0, 1) := by decide +kernel
theorem dX8_asVigour_18 : decode cX8_asVigour 18 = .ok (.ireturn, 1) := by decide +kernel
theorem dX8_tenTimes_0 : decode cX8_tenTimes 0 = .ok (.bipush 10, 2) := by decide +kernel
theorem dX8_tenTimes_2 : decode cX8_tenTimes 2 = .ok (.iload_n 0, 1) := by decide +kernel
theorem dX8_tenTimes_3 : decode cX8_tenTimes 3 = .ok (.imul, 1) := by decide +kernel
theorem dX8_tenTimes_4 : decode cX8_tenTimes 4 = .ok (.iload_n 1, 1) := by decide +kernel
theorem dX8_tenTimes_5 : decode cX8_tenTimes 5 = .ok (.iadd, 1) := by decide +kernel
theorem dX8_tenTimes_6 : decode cX8_tenTimes 6 = .ok (.ireturn, 1) := by decide +kernel
set_option maxRecDepth 20000 in
theorem ggX8_runFrom_X7_prepare : GoodIn wsX8_runFrom wsX7_prepare := goodIn_r _ [8, 9, 10, 11, 12, 13, 14, 15, 16, 17, 18, 19, 66, 67, 68, 69, 70, 71, 72, 73, 74, 75, 76, 77, 78, 79, 80, 81, 82, 83, 84] (by decide +kernel) (by decide +kernel)
set_option maxRecDepth 20000 in
theorem gX8_runFrom_X7_prepare : GoodIn wsX8_runFrom (wsV RX8 157 RX7 yX7_prepare wsX7_prepare) := goodIn_app (goodIn_of _ (by decide +kernel)) ggX8_runFrom_X7_prepare
set_option maxRecDepth 20000 in
theorem ggX8_runFrom_X7_run : GoodIn wsX8_runFrom wsX7_run := goodIn_r _ [23, 24, 15, 25, 26, 27, 28, 7, 29, 30, 31, 32, 33, 34, 35, 36, 37, 38, 39, 40, 41, 42, 43, 44, 17, 45, 19, 46, 47, 48, 49, 50, 51, 52, 10, 53, 54, 70, 71, 72, 73, 74, 75, 76, 77, 78, 79, 80, 81, 82, 83, 84] (by decide +kernel) (by decide +kernel)
set_option maxRecDepth 20000 in
theorem gX8_runFrom_X7_run : GoodIn wsX8_runFrom (wsV RX8 247 RX7 yX7_run wsX7_run) := goodIn_app (goodIn_of _ (by decide +kernel)) ggX8_runFrom_X7_run
theorem dX8_runFrom_0 : decode cX8_runFrom 0 = .ok (.aload_n 0, 1) := by decide +kernel
theorem dX8_runFrom_1 : decode cX8_runFrom 1 = .ok (.getfield 50, 3) := by decide +kernel
theorem dX8_runFrom_4 : decode cX8_runFrom 4 = .ok (.aload_n 0, 1) := by decide +kernel
theorem dX8_runFrom_5 : decode cX8_runFrom 5 = .ok (.getfield 26, 3) := by decide +kernel
theorem dX8_runFrom_8 : decode cX8_runFrom 8 = .ok (.invokevirtual 157, 3) := by decide +kernel
theorem dX8_runFrom_11 : decode cX8_runFrom 11 = .ok (.aload_n 0, 1) := by decide +kernel
theorem dX8_runFrom_12 : decode cX8_runFrom 12 = .ok (.getfield 50, 3) := by decide +kernel
theorem dX8_runFrom_15 : decode cX8_runFrom 15 = .ok (.aload_n 0, 1) := by decide +kernel
theorem dX8_runFrom_16 : decode cX8_runFrom 16 = .ok (.getfield 26, 3) := by decide +kernel
theorem dX8_runFrom_19 : decode cX8_runFrom 19 = .ok (.getfield 132, 3) := by decide +kernel
theorem dX8_runFrom_22 : decode cX8_runFrom 22 = .ok (.iload_n 1, 1) := by decide +kernel
theorem dX8_runFrom_23 : decode cX8_runFrom 23 = .ok (.invokevirtual 247, 3) := by decide +kernel
theorem dX8_runFrom_26 : decode cX8_runFrom 26 = .ok (.ireturn, 1) := by decide +kernel
set_option maxRecDepth 20000 in
theorem ggX8_runWithMat_X7_prepare : GoodIn wsX8_runWithMat wsX7_prepare := goodIn_r _ [10, 11, 12, 13, 14, 15, 16, 17, 18, 19, 20, 21, 76, 77, 78, 79, 68, 69, 70, 71, 72, 73, 74, 75, 80, 81, 82, 83, 84, 85, 86] (by decide +kernel) (by decide +kernel)
set_option maxRecDepth 20000 in
theorem gX8_runWithMat_X7_prepare : GoodIn wsX8_runWithMat (wsV RX8 157 RX7 yX7_prepare wsX7_prepare) := goodIn_app (goodIn_of _ (by decide +kernel)) ggX8_runWithMat_X7_prepare
set_option maxRecDepth 20000 in
theorem ggX8_runWithMat_X7_run : GoodIn wsX8_runWithMat wsX7_run := goodIn_r _ [25, 26, 17, 27, 28, 29, 30, 9, 31, 32, 33, 34, 35, 36, 37, 38, 39, 40, 41, 42, 43, 44, 45, 46, 19, 47, 21, 48, 49, 50, 51, 52, 53, 54, 12, 55, 56, 68, 69, 70, 71, 72, 73, 74, 75, 80, 81, 82, 83, 84, 85, 86] (by decide +kernel) (by decide +kernel)
set_option maxRecDepth 20000 in
theorem gX8_runWithMat_X7_run : GoodIn wsX8_runWithMat (wsV RX8 247 RX7 yX7_run wsX7_run) := goodIn_app (goodIn_of _ (by decide +kernel)) ggX8_runWithMat_X7_run
theorem dX8_runWithMat_0 : decode cX8_runWithMat 0 = .ok (.aload_n 0, 1) := by decide +kernel
theorem dX8_runWithMat_1 : decode cX8_runWithMat 1 = .ok (.getfield 50, 3) := by decide +kernel
theorem dX8_runWithMat_4 : decode cX8_runWithMat 4 = .ok (.aload_n 0, 1) := by decide +kernel
theorem dX8_runWithMat_5 : decode cX8_runWithMat 5 = .ok (.getfield 26, 3) := by decide +kernel
theorem dX8_runWithMat_8 : decode cX8_runWithMat 8 = .ok (.invokevirtual 157, 3) := by decide +kernel
theorem dX8_runWithMat_11 : decode cX8_runWithMat 11 = .ok (.aload_n 0, 1) := by decide +kernel
theorem dX8_runWithMat_12 : decode cX8_runWithMat 12 = .ok (.getfield 50, 3) := by decide +kernel
theorem dX8_runWithMat_15 : decode cX8_runWithMat 15 = .ok (.getfield 250, 3) := by decide +kernel
theorem dX8_runWithMat_18 : decode cX8_runWithMat 18 = .ok (.iload_n 1, 1) := by decide +kernel
theorem dX8_runWithMat_19 : decode cX8_runWithMat 19 = .ok (.iload_n 2, 1) := by decide +kernel
theorem dX8_runWithMat_20 : decode cX8_runWithMat 20 = .ok (.iastore, 1) := by decide +kernel
theorem dX8_runWithMat_21 : decode cX8_runWithMat 21 = .ok (.aload_n 0, 1) := by decide +kernel
theorem dX8_runWithMat_22 : decode cX8_runWithMat 22 = .ok (.getfield 50, 3) := by decide +kernel
theorem dX8_runWithMat_25 : decode cX8_runWithMat 25 = .ok (.aload_n 0, 1) := by decide +kernel
theorem dX8_runWithMat_26 : decode cX8_runWithMat 26 = .ok (.getfield 26, 3) := by decide +kernel
theorem dX8_runWithMat_29 : decode cX8_runWithMat 29 = .ok (.getfield 132, 3) := by decide +kernel
theorem dX8_runWithMat_32 : decode cX8_runWithMat 32 = .ok (.aload_n 0, 1) := by decide +kernel
theorem dX8_runWithMat_33 : decode cX8_runWithMat 33 = .ok (.getfield 26, 3) := by decide +kernel
theorem dX8_runWithMat_36 : decode cX8_runWithMat 36 = .ok (.getfield 135, 3) := by decide +kernel
theorem dX8_runWithMat_39 : decode cX8_runWithMat 39 = .ok (.invokevirtual 247, 3) := by decide +kernel
theorem dX8_runWithMat_42 : decode cX8_runWithMat 42 = .ok (.ireturn, 1) := by decide +kernel
theorem dX8_asCoil_0 : decode cX8_asCoil 0 = .ok (.aload_n 0, 1) := by decide +kernel
theorem dX8_asCoil_1 : decode cX8_asCoil 1 = .ok (.dup, 1) := by decide +kernel
theorem dX8_asCoil_2 : decode cX8_asCoil 2 = .ok (.getfield 77, 3) := by decide +kernel
theorem dX8_asCoil_5 : decode cX8_asCoil 5 = .ok (.lconst 1, 1) := by decide +kernel
theorem dX8_asCoil_6 : decode cX8_asCoil 6 = .ok (.ladd, 1) := by decide +kernel
theorem dX8_asCoil_7 : decode cX8_asCoil 7 = .ok (.putfield 77, 3) := by decide +kernel
theorem dX8_asCoil_10 : decode cX8_asCoil 10 = .ok (.aload_n 0, 1) := by decide +kernel
theorem dX8_asCoil_11 : decode cX8_asCoil 11 = .ok (.getfield 12, 3) := by decide +kernel
theorem dX8_asCoil_14 : decode cX8_asCoil 14 = .ok (.getfield 122, 3) := by decide +kernel
theorem dX8_asCoil_17 : decode cX8_asCoil 17 = .ok (.iload_n 1, 1) := by decide +kernel
theorem dX8_asCoil_18 : decode cX8_asCoil 18 = .ok (.iaload, 1) := by decide +kernel
theorem dX8_asCoil_19 : decode cX8_asCoil 19 = .ok (.ireturn, 1) := by decide +kernel
set_option maxRecDepth 20000 in
theorem ggX8_asBrass_X8_asCoil : GoodIn wsX8_asBrass wsX8_asCoil := goodIn_r _ [9, 1, 3, 10, 11, 12, 13, 14, 15, 16, 17, 18, 19, 20, 21, 22, 23, 24, 25, 26, 27, 28] (by decide +kernel) (by decide +kernel)
set_option maxRecDepth 20000 in
theorem gX8_asBrass_X8_asCoil : GoodIn wsX8_asBrass (wsV RX8 218 RX8 yX8_asCoil wsX8_asCoil) := goodIn_app (goodIn_of _ (by decide +kernel)) ggX8_asBrass_X8_asCoil
theorem dX8_asBrass_0 : decode cX8_asBrass 0 = .ok (.aload_n 0, 1) := by decide +kernel
theorem dX8_asBrass_1 : decode cX8_asBrass 1 = .ok (.dup, 1) := by decide +kernel
theorem dX8_asBrass_2 : decode cX8_asBrass 2 = .ok (.getfield 77, 3) := by decide +kernel
theorem dX8_asBrass_5 : decode cX8_asBrass 5 = .ok (.ldc2_w 251, 3) := by decide +kernel
theorem dX8_asBrass_8 : decode cX8_asBrass 8 = .ok (.ladd, 1) := by decide +kernel
theorem dX8_asBrass_9 : decode cX8_asBrass 9 = .ok (.putfield 77, 3) := by decide +kernel
theorem dX8_asBrass_12 : decode cX8_asBrass 12 = .ok (.aload_n 0, 1) := by decide +kernel
theorem dX8_asBrass_13 : decode cX8_asBrass 13 = .ok (.iload_n 1, 1) := by decide +kernel
theorem dX8_asBrass_14 : decode cX8_asBrass 14 = .ok (.invokevirtual 218, 3) := by decide +kernel
theorem dX8_asBrass_17 : decode cX8_asBrass 17 = .ok (.aload_n 0, 1) := by decide +kernel
theorem dX8_asBrass_18 : decode cX8_asBrass 18 = .ok (.getfield 12, 3) := by decide +kernel
theorem dX8_asBrass_21 : decode cX8_asBrass 21 = .ok (.getfield 126, 3) := by decide +kernel
theorem dX8_asBrass_24 : decode cX8_asBrass 24 = .ok (.iload_n 1, 1) := by decide +kernel
theorem dX8_asBrass_25 : decode cX8_asBrass 25 = .ok (.iaload, 1) := by decide +kernel
theorem dX8_asBrass_26 : decode cX8_asBrass 26 = .ok (.iadd, 1) := by decide +kernel
theorem dX8_asBrass_27 : decode cX8_asBrass 27 = .ok (.ireturn, 1) := by decide +kernel
set_option maxRecDepth 20000 in
theorem ggX8_asPaper_X8_asCoil : GoodIn wsX8_asPaper wsX8_asCoil := goodIn_r _ [9, 1, 10, 11, 12, 13, 14, 15, 16, 17, 18, 19, 20, 21, 22, 27, 28, 29, 30, 31, 32, 33] (by decide +kernel) (by decide +kernel)
set_option maxRecDepth 20000 in
theorem gX8_asPaper_X8_asCoil : GoodIn wsX8_asPaper (wsV RX8 218 RX8 yX8_asCoil wsX8_asCoil) := goodIn_app (goodIn_of _ (by decide +kernel)) ggX8_asPaper_X8_asCoil
theorem dX8_asPaper_0 : decode cX8_asPaper 0 = .ok (.aload_n 0, 1) := by decide +kernel
theorem dX8_asPaper_1 : decode cX8_asPaper 1 = .ok (.dup, 1) := by decide +kernel
theorem dX8_asPaper_2 : decode cX8_asPaper 2 = .ok (.getfield 77, 3) := by decide +kernel
theorem dX8_asPaper_5 : decode cX8_asPaper 5 = .ok (.ldc2_w 253, 3) := by decide +kernel
theorem dX8_asPaper_8 : decode cX8_asPaper 8 = .ok (.ladd, 1) := by decide +kernel
theorem dX8_asPaper_9 : decode cX8_asPaper 9 = .ok (.putfield 77, 3) := by decide +kernel
theorem dX8_asPaper_12 : decode cX8_asPaper 12 = .ok (.aload_n 0, 1) := by decide +kernel
theorem dX8_asPaper_13 : decode cX8_asPaper 13 = .ok (.iload_n 1, 1) := by decide +kernel
theorem dX8_asPaper_14 : decode cX8_asPaper 14 = .ok (.invokevirtual 218, 3) := by decide +kernel
theorem dX8_asPaper_17 : decode cX8_asPaper 17 = .ok (.iconst 2, 1) := by decide +kernel
theorem dX8_asPaper_18 : decode cX8_asPaper 18 = .ok (.aload_n 0, 1) := by decide +kernel
theorem dX8_asPaper_19 : decode cX8_asPaper 19 = .ok (.getfield 26, 3) := by decide +kernel
theorem dX8_asPaper_22 : decode cX8_asPaper 22 = .ok (.getfield 129, 3) := by decide +kernel
theorem dX8_asPaper_25 : decode cX8_asPaper 25 = .ok (.iload_n 1, 1) := by decide +kernel
theorem dX8_asPaper_26 : decode cX8_asPaper 26 = .ok (.iaload, 1) := by decide +kernel
theorem dX8_asPaper_27 : decode cX8_asPaper 27 = .ok (.imul, 1) := by decide +kernel
theorem dX8_asPaper_28 : decode cX8_asPaper 28 = .ok (.isub, 1) := by decide +kernel
theorem dX8_asPaper_29 : decode cX8_asPaper 29 = .ok (.ireturn, 1) := by decide +kernel
set_option maxRecDepth 20000 in
theorem ggX8_asSilver_X8_asBrass : GoodIn wsX8_asSilver wsX8_asBrass := goodIn_r _ [7, 1, 8, 9, 10, 11, 12, 13, 6, 14, 15, 16, 17, 18, 19, 20, 21, 22, 23, 24, 25, 26, 27, 28, 29, 30, 31, 32, 33] (by decide +kernel) (by decide +kernel)
set_option maxRecDepth 20000 in
theorem gX8_asSilver_X8_asBrass : GoodIn wsX8_asSilver (wsV RX8 221 RX8 yX8_asBrass wsX8_asBrass) := goodIn_app (goodIn_of _ (by decide +kernel)) ggX8_asSilver_X8_asBrass
theorem dX8_asSilver_0 : decode cX8_asSilver 0 = .ok (.aload_n 0, 1) := by decide +kernel
theorem dX8_asSilver_1 : decode cX8_asSilver 1 = .ok (.dup, 1) := by decide +kernel
theorem dX8_asSilver_2 : decode cX8_asSilver 2 = .ok (.getfield 77, 3) := by decide +kernel
theorem dX8_asSilver_5 : decode cX8_asSilver 5 = .ok (.ldc2_w 255, 3) := by decide +kernel
theorem dX8_asSilver_8 : decode cX8_asSilver 8 = .ok (.ladd, 1) := by decide +kernel
theorem dX8_asSilver_9 : decode cX8_asSilver 9 = .ok (.putfield 77, 3) := by decide +kernel
theorem dX8_asSilver_12 : decode cX8_asSilver 12 = .ok (.iconst 2, 1) := by decide +kernel
theorem dX8_asSilver_13 : decode cX8_asSilver 13 = .ok (.aload_n 0, 1) := by decide +kernel
theorem dX8_asSilver_14 : decode cX8_asSilver 14 = .ok (.iload_n 1, 1) := by decide +kernel
theorem dX8_asSilver_15 : decode cX8_asSilver 15 = .ok (.invokevirtual 221, 3) := by decide +kernel
theorem dX8_asSilver_18 : decode cX8_asSilver 18 = .ok (.imul, 1) := by decide +kernel
theorem dX8_asSilver_19 : decode cX8_asSilver 19 = .ok (.ireturn, 1) := by decide +kernel
set_option maxRecDepth 20000 in
theorem ggX8_asTwine_X8_asPaper : GoodIn wsX8_asTwine wsX8_asPaper := goodIn_r _ [7, 1, 8, 9, 10, 11, 12, 13, 6, 14, 15, 16, 17, 18, 19, 20, 21, 22, 23, 24, 25, 26, 27, 28, 29, 30, 31, 32, 33, 34, 35, 36, 37, 38] (by decide +kernel) (by decide +kernel)
set_option maxRecDepth 20000 in
theorem gX8_asTwine_X8_asPaper : GoodIn wsX8_asTwine (wsV RX8 224 RX8 yX8_asPaper wsX8_asPaper) := goodIn_app (goodIn_of _ (by decide +kernel)) ggX8_asTwine_X8_asPaper
theorem dX8_asTwine_0 : decode cX8_asTwine 0 = .ok (.aload_n 0, 1) := by decide +kernel
theorem dX8_asTwine_1 : decode cX8_asTwine 1 = .ok (.dup, 1) := by decide +kernel
theorem dX8_asTwine_2 : decode cX8_asTwine 2 = .ok (.getfield 77, 3) := by decide +kernel
theorem dX8_asTwine_5 : decode cX8_asTwine 5 = .ok (.ldc2_w 257, 3) := by decide +kernel
theorem dX8_asTwine_8 : decode cX8_asTwine 8 = .ok (.ladd, 1) := by decide +kernel
theorem dX8_asTwine_9 : decode cX8_asTwine 9 = .ok (.putfield 77, 3) := by decide +kernel
theorem dX8_asTwine_12 : decode cX8_asTwine 12 = .ok (.aload_n 0, 1) := by decide +kernel
theorem dX8_asTwine_13 : decode cX8_asTwine 13 = .ok (.iload_n 1, 1) := by decide +kernel
theorem dX8_asTwine_14 : decode cX8_asTwine 14 = .ok (.invokevirtual 224, 3) := by decide +kernel
theorem dX8_asTwine_17 : decode cX8_asTwine 17 = .ok (.iload_n 1, 1) := by decide +kernel
theorem dX8_asTwine_18 : decode cX8_asTwine 18 = .ok (.iadd, 1) := by decide +kernel
theorem dX8_asTwine_19 : decode cX8_asTwine 19 = .ok (.ireturn, 1) := by decide +kernel
set_option maxRecDepth 20000 in
theorem ggX8_asLead_X8_asCoil : GoodIn wsX8_asLead wsX8_asCoil := goodIn_r _ [9, 1, 10, 11, 12, 13, 14, 15, 16, 17, 18, 19, 20, 21, 22, 27, 28, 29, 30, 31, 32, 33] (by decide +kernel) (by decide +kernel)
set_option maxRecDepth 20000 in
theorem gX8_asLead_X8_asCoil : GoodIn wsX8_asLead (wsV RX8 218 RX8 yX8_asCoil wsX8_asCoil) := goodIn_app (goodIn_of _ (by decide +kernel)) ggX8_asLead_X8_asCoil
theorem dX8_asLead_0 : decode cX8_asLead 0 = .ok (.aload_n 0, 1) := by decide +kernel
theorem dX8_asLead_1 : decode cX8_asLead 1 = .ok (.dup, 1) := by decide +kernel
theorem dX8_asLead_2 : decode cX8_asLead 2 = .ok (.getfield 77, 3) := by decide +kernel
theorem dX8_asLead_5 : decode cX8_asLead 5 = .ok (.ldc2_w 259, 3) := by decide +kernel
theorem dX8_asLead_8 : decode cX8_asLead 8 = .ok (.ladd, 1) := by decide +kernel
theorem dX8_asLead_9 : decode cX8_asLead 9 = .ok (.putfield 77, 3) := by decide +kernel
theorem dX8_asLead_12 : decode cX8_asLead 12 = .ok (.aload_n 0, 1) := by decide +kernel
theorem dX8_asLead_13 : decode cX8_asLead 13 = .ok (.iload_n 1, 1) := by decide +kernel
theorem dX8_asLead_14 : decode cX8_asLead 14 = .ok (.invokevirtual 218, 3) := by decide +kernel
theorem dX8_asLead_17 : decode cX8_asLead 17 = .ok (.aload_n 0, 1) := by decide +kernel
theorem dX8_asLead_18 : decode cX8_asLead 18 = .ok (.getfield 26, 3) := by decide +kernel
theorem dX8_asLead_21 : decode cX8_asLead 21 = .ok (.getfield 135, 3) := by decide +kernel
theorem dX8_asLead_24 : decode cX8_asLead 24 = .ok (.iadd, 1) := by decide +kernel
theorem dX8_asLead_25 : decode cX8_asLead 25 = .ok (.ireturn, 1) := by decide +kernel
theorem dX9_init_0 : decode cX9_init 0 = .ok (.aload_n 0, 1) := by decide +kernel
theorem dX9_init_1 : decode cX9_init 1 = .ok (.invokespecial 1, 3) := by decide +kernel
theorem dX9_init_4 : decode cX9_init 4 = .ok (.aload_n 0, 1) := by decide +kernel
theorem dX9_init_5 : decode cX9_init 5 = .ok (.sipush 168, 3) := by decide +kernel
theorem dX9_init_8 : decode cX9_init 8 = .ok (.newarray .int, 2) := by decide +kernel
theorem dX9_init_10 : decode cX9_init 10 = .ok (.putfield 7, 3) := by decide +kernel
theorem dX9_init_13 : decode cX9_init 13 = .ok (.aload_n 0, 1) := by decide +kernel
theorem dX9_init_14 : decode cX9_init 14 = .ok (.iconst 4, 1) := by decide +kernel
theorem dX9_init_15 : decode cX9_init 15 = .ok (.putfield 13, 3) := by decide +kernel
theorem dX9_init_18 : decode cX9_init 18 = .ok (.aload_n 0, 1) := by decide +kernel
theorem dX9_init_19 : decode cX9_init 19 = .ok (.iconst 3, 1) := by decide +kernel
theorem dX9_init_20 : decode cX9_init 20 = .ok (.putfield 17, 3) := by decide +kernel
theorem dX9_init_23 : decode cX9_init 23 = .ok (.aload_n 0, 1) := by decide +kernel
theorem dX9_init_24 : decode cX9_init 24 = .ok (.iconst 1, 1) := by decide +kernel
theorem dX9_init_25 : decode cX9_init 25 = .ok (.putfield 20, 3) := by decide +kernel
theorem dX9_init_28 : decode cX9_init 28 = .ok (.aload_n 0, 1) := by decide +kernel
theorem dX9_init_29 : decode cX9_init 29 = .ok (.bipush 9, 2) := by decide +kernel
theorem dX9_init_31 : decode cX9_init 31 = .ok (.newarray .int, 2) := by decide +kernel
theorem dX9_init_33 : decode cX9_init 33 = .ok (.putfield 23, 3) := by decide +kernel
theorem dX9_init_36 : decode cX9_init 36 = .ok (.aload_n 0, 1) := by decide +kernel
theorem dX9_init_37 : decode cX9_init 37 = .ok (.bipush 9, 2) := by decide +kernel
theorem dX9_init_39 : decode cX9_init 39 = .ok (.newarray .int, 2) := by decide +kernel
theorem dX9_init_41 : decode cX9_init 41 = .ok (.putfield 26, 3) := by decide +kernel
theorem dX9_init_44 : decode cX9_init 44 = .ok (.aload_n 0, 1) := by decide +kernel
theorem dX9_init_45 : decode cX9_init 45 = .ok (.iconst 2, 1) := by decide +kernel
theorem dX9_init_46 : decode cX9_init 46 = .ok (.newarray .boolean, 2) := by decide +kernel
theorem dX9_init_48 : decode cX9_init 48 = .ok (.putfield 29, 3) := by decide +kernel
theorem dX9_init_51 : decode cX9_init 51 = .ok (.aload_n 0, 1) := by decide +kernel
theorem dX9_init_52 : decode cX9_init 52 = .ok (.bipush 100, 2) := by decide +kernel
theorem dX9_init_54 : decode cX9_init 54 = .ok (.newarray .int, 2) := by decide +kernel
theorem dX9_init_56 : decode cX9_init 56 = .ok (.putfield 33, 3) := by decide +kernel
theorem dX9_init_59 : decode cX9_init 59 = .ok (.aload_n 0, 1) := by decide +kernel
theorem dX9_init_60 : decode cX9_init 60 = .ok (.bipush 6, 2) := by decide +kernel
theorem dX9_init_62 : decode cX9_init 62 = .ok (.newarray .int, 2) := by decide +kernel
theorem dX9_init_64 : decode cX9_init 64 = .ok (.putfield 36, 3) := by decide +kernel
theorem dX9_init_67 : decode cX9_init 67 = .ok (.aload_n 0, 1) := by decide +kernel
theorem dX9_init_68 : decode cX9_init 68 = .ok (.bipush 6, 2) := by decide +kernel
theorem dX9_init_70 : decode cX9_init 70 = .ok (.newarray .int, 2) := by decide +kernel
theorem dX9_init_72 : decode cX9_init 72 = .ok (.putfield 39, 3) := by decide +kernel
theorem dX9_init_75 : decode cX9_init 75 = .ok (.aload_n 0, 1) := by decide +kernel
theorem dX9_init_76 : decode cX9_init 76 = .ok (.bipush 6, 2) := by decide +kernel
theorem dX9_init_78 : decode cX9_init 78 = .ok (.newarray .int, 2) := by decide +kernel
theorem dX9_init_80 : decode cX9_init 80 = .ok (.putfield 42, 3) := by decide +kernel
theorem dX9_init_83 : decode cX9_init 83 = .ok (.aload_n 0, 1) := by decide +kernel
theorem dX9_init_84 : decode cX9_init 84 = .ok (.bipush 9, 2) := by decide +kernel
theorem dX9_init_86 : decode cX9_init 86 = .ok (.newarray .int, 2) := by decide +kernel
theorem dX9_init_88 : decode cX9_init 88 = .ok (.putfield 45, 3) := by decide +kernel
theorem dX9_init_91 : decode cX9_init 91 = .ok (.aload_n 0, 1) := by decide +kernel
theorem dX9_init_92 : decode cX9_init 92 = .ok (.bipush 9, 2) := by decide +kernel
theorem dX9_init_94 : decode cX9_init 94 = .ok (.newarray .int, 2) := by decide +kernel
theorem dX9_init_96 : decode cX9_init 96 = .ok (.putfield 48, 3) := by decide +kernel
theorem dX9_init_99 : decode cX9_init 99 = .ok (.aload_n 0, 1) := by decide +kernel
theorem dX9_init_100 : decode cX9_init 100 = .ok (.bipush 9, 2) := by decide +kernel
theorem dX9_init_102 : decode cX9_init 102 = .ok (.newarray .int, 2) := by decide +kernel
theorem dX9_init_104 : decode cX9_init 104 = .ok (.putfield 51, 3) := by decide +kernel
theorem dX9_init_107 : decode cX9_init 107 = .ok (.aload_n 0, 1) := by decide +kernel
theorem dX9_init_108 : decode cX9_init 108 = .ok (.iconst 3, 1) := by decide +kernel
theorem dX9_init_109 : decode cX9_init 109 = .ok (.newarray .int, 2) := by decide +kernel
theorem dX9_init_111 : decode cX9_init 111 = .ok (.putfield 54, 3) := by decide +kernel
theorem dX9_init_114 : decode cX9_init 114 = .ok (.aload_n 0, 1) := by decide +kernel
theorem dX9_init_115 : decode cX9_init 115 = .ok (.sipush 1000, 3) := by decide +kernel
theorem dX9_init_118 : decode cX9_init 118 = .ok (.newarray .int, 2) := by decide +kernel
theorem dX9_init_120 : decode cX9_init 120 = .ok (.putfield 57, 3) := by decide +kernel
theorem dX9_init_123 : decode cX9_init 123 = .ok (.aload_n 0, 1) := by decide +kernel
theorem dX9_init_124 : decode cX9_init 124 = .ok (.bipush 36, 2) := by decide +kernel
theorem dX9_init_126 : decode cX9_init 126 = .ok (.newarray .int, 2) := by decide +kernel
theorem dX9_init_128 : decode cX9_init 128 = .ok (.putfield 60, 3) := by decide +kernel
theorem dX9_init_131 : decode cX9_init 131 = .ok (.aload_n 0, 1) := by decide +kernel
theorem dX9_init_132 : decode cX9_init 132 = .ok (.bipush 10, 2) := by decide +kernel
theorem dX9_init_134 : decode cX9_init 134 = .ok (.newarray .int, 2) := by decide +kernel
theorem dX9_init_136 : decode cX9_init 136 = .ok (.putfield 63, 3) := by decide +kernel
theorem dX9_init_139 : decode cX9_init 139 = .ok (.return_, 1) := by decide +kernel
theorem dX9_in_0 : decode cX9_in 0 = .ok (.iload_n 0, 1) := by decide +kernel
theorem dX9_in_1 : decode cX9_in 1 = .ok (.iload_n 1, 1) := by decide +kernel
theorem dX9_in_2 : decode cX9_in 2 = .ok (.if_icmp .lt 12, 3) := by decide +kernel
theorem dX9_in_5 : decode cX9_in 5 = .ok (.iload_n 0, 1) := by decide +kernel
theorem dX9_in_6 : decode cX9_in 6 = .ok (.iload_n 2, 1) := by decide +kernel
theorem dX9_in_7 : decode cX9_in 7 = .ok (.if_icmp .gt 7, 3) := by decide +kernel
theorem dX9_in_10 : decode cX9_in 10 = .ok (.iconst 1, 1) := by decide +kernel
theorem dX9_in_11 : decode cX9_in 11 = .ok (.goto 4, 3) := by decide +kernel
theorem dX9_in_14 : decode cX9_in 14 = .ok (.iconst 0, 1) := by decide +kernel
theorem dX9_in_15 : decode cX9_in 15 = .ok (.ireturn, 1) := by decide +kernel
theorem dX9_copyRow_0 : decode cX9_copyRow 0 = .ok (.iconst 0, 1) := by decide +kernel
theorem dX9_copyRow_1 : decode cX9_copyRow 1 = .ok (.istore_n 3, 1) := by decide +kernel
theorem dX9_copyRow_2 : decode cX9_copyRow 2 = .ok (.iload_n 3, 1) := by decide +kernel
theorem dX9_copyRow_3 : decode cX9_copyRow 3 = .ok (.bipush 12, 2) := by decide +kernel
theorem dX9_copyRow_5 : decode cX9_copyRow 5 = .ok (.if_icmp .ge 25, 3) := by decide +kernel
theorem dX9_copyRow_8 : decode cX9_copyRow 8 = .ok (.aload_n 0, 1) := by decide +kernel
theorem dX9_copyRow_9 : decode cX9_copyRow 9 = .ok (.getfield 7, 3) := by decide +kernel
theorem dX9_copyRow_12 : decode cX9_copyRow 12 = .ok (.iload_n 2, 1) := by decide +kernel
theorem dX9_copyRow_13 : decode cX9_copyRow 13 = .ok (.iload_n 3, 1) := by decide +kernel
theorem dX9_copyRow_14 : decode cX9_copyRow 14 = .ok (.iadd, 1) := by decide +kernel
theorem dX9_copyRow_15 : decode cX9_copyRow 15 = .ok (.aload_n 0, 1) := by decide +kernel
theorem dX9_copyRow_16 : decode cX9_copyRow 16 = .ok (.getfield 7, 3) := by decide +kernel
