theorem dX8_now_72 : decode cX8_now 72 = .ok (.getfield 138, 3) := by decide +kernel
theorem dX8_now_75 : decode cX8_now 75 = .ok (.ireturn, 1) := by decide +kernel
theorem dX8_now_76 : decode cX8_now 76 = .ok (.aload_n 0, 1) := by decide +kernel
theorem dX8_now_77 : decode cX8_now 77 = .ok (.aload_n 0, 1) := by decide +kernel
theorem dX8_now_78 : decode cX8_now 78 = .ok (.getfield 26, 3) := by decide +kernel
theorem dX8_now_81 : decode cX8_now 81 = .ok (.getfield 135, 3) := by decide +kernel
theorem dX8_now_84 : decode cX8_now 84 = .ok (.invokevirtual 141, 3) := by decide +kernel
theorem dX8_now_87 : decode cX8_now 87 = .ok (.ireturn, 1) := by decide +kernel
theorem dX8_now_88 : decode cX8_now 88 = .ok (.aload_n 0, 1) := by decide +kernel
theorem dX8_now_89 : decode cX8_now 89 = .ok (.aload_n 0, 1) := by decide +kernel
theorem dX8_now_90 : decode cX8_now 90 = .ok (.getfield 26, 3) := by decide +kernel
theorem dX8_now_93 : decode cX8_now 93 = .ok (.getfield 135, 3) := by decide +kernel
theorem dX8_now_96 : decode cX8_now 96 = .ok (.invokevirtual 141, 3) := by decide +kernel
theorem dX8_now_99 : decode cX8_now 99 = .ok (.pop, 1) := by decide +kernel
theorem dX8_now_100 : decode cX8_now 100 = .ok (.aload_n 0, 1) := by decide +kernel
theorem dX8_now_101 : decode cX8_now 101 = .ok (.getfield 50, 3) := by decide +kernel
theorem dX8_now_104 : decode cX8_now 104 = .ok (.getfield 145, 3) := by decide +kernel
theorem dX8_now_107 : decode cX8_now 107 = .ok (.ireturn, 1) := by decide +kernel
theorem dX8_now_108 : decode cX8_now 108 = .ok (.aload_n 0, 1) := by decide +kernel
theorem dX8_now_109 : decode cX8_now 109 = .ok (.aload_n 0, 1) := by decide +kernel
theorem dX8_now_110 : decode cX8_now 110 = .ok (.getfield 26, 3) := by decide +kernel
theorem dX8_now_113 : decode cX8_now 113 = .ok (.getfield 135, 3) := by decide +kernel
theorem dX8_now_116 : decode cX8_now 116 = .ok (.invokevirtual 141, 3) := by decide +kernel
theorem dX8_now_119 : decode cX8_now 119 = .ok (.pop, 1) := by decide +kernel
theorem dX8_now_120 : decode cX8_now 120 = .ok (.aload_n 0, 1) := by decide +kernel
theorem dX8_now_121 : decode cX8_now 121 = .ok (.getfield 50, 3) := by decide +kernel
theorem dX8_now_124 : decode cX8_now 124 = .ok (.getfield 146, 3) := by decide +kernel
theorem dX8_now_127 : decode cX8_now 127 = .ok (.ireturn, 1) := by decide +kernel
theorem dX8_now_128 : decode cX8_now 128 = .ok (.aload_n 0, 1) := by decide +kernel
theorem dX8_now_129 : decode cX8_now 129 = .ok (.getfield 59, 3) := by decide +kernel
theorem dX8_now_132 : decode cX8_now 132 = .ok (.aload_n 0, 1) := by decide +kernel
theorem dX8_now_133 : decode cX8_now 133 = .ok (.getfield 26, 3) := by decide +kernel
theorem dX8_now_136 : decode cX8_now 136 = .ok (.invokevirtual 149, 3) := by decide +kernel
theorem dX8_now_139 : decode cX8_now 139 = .ok (.bipush 10, 2) := by decide +kernel
theorem dX8_now_141 : decode cX8_now 141 = .ok (.idiv, 1) := by decide +kernel
theorem dX8_now_142 : decode cX8_now 142 = .ok (.ireturn, 1) := by decide +kernel
theorem dX8_now_143 : decode cX8_now 143 = .ok (.aload_n 0, 1) := by decide +kernel
theorem dX8_now_144 : decode cX8_now 144 = .ok (.getfield 59, 3) := by decide +kernel
theorem dX8_now_147 : decode cX8_now 147 = .ok (.aload_n 0, 1) := by decide +kernel
theorem dX8_now_148 : decode cX8_now 148 = .ok (.getfield 26, 3) := by decide +kernel
theorem dX8_now_151 : decode cX8_now 151 = .ok (.invokevirtual 149, 3) := by decide +kernel
theorem dX8_now_154 : decode cX8_now 154 = .ok (.bipush 10, 2) := by decide +kernel
theorem dX8_now_156 : decode cX8_now 156 = .ok (.irem, 1) := by decide +kernel
theorem dX8_now_157 : decode cX8_now 157 = .ok (.ireturn, 1) := by decide +kernel
theorem dX8_now_158 : decode cX8_now 158 = .ok (.aload_n 0, 1) := by decide +kernel
theorem dX8_now_159 : decode cX8_now 159 = .ok (.getfield 33, 3) := by decide +kernel
theorem dX8_now_162 : decode cX8_now 162 = .ok (.getfield 109, 3) := by decide +kernel
theorem dX8_now_165 : decode cX8_now 165 = .ok (.ireturn, 1) := by decide +kernel
theorem dX8_now_166 : decode cX8_now 166 = .ok (.iconst (-1), 1) := by decide +kernel
theorem dX8_now_167 : decode cX8_now 167 = .ok (.ireturn, 1) := by decide +kernel
theorem dX8_flips_0 : decode cX8_flips 0 = .ok (.aload_n 0, 1) := by decide +kernel
theorem dX8_flips_1 : decode cX8_flips 1 = .ok (.getfield 12, 3) := by decide +kernel
theorem dX8_flips_4 : decode cX8_flips 4 = .ok (.aload_n 0, 1) := by decide +kernel
theorem dX8_flips_5 : decode cX8_flips 5 = .ok (.getfield 26, 3) := by decide +kernel
theorem dX8_flips_8 : decode cX8_flips 8 = .ok (.getfield 132, 3) := by decide +kernel
theorem dX8_flips_11 : decode cX8_flips 11 = .ok (.invokevirtual 118, 3) := by decide +kernel
theorem dX8_flips_14 : decode cX8_flips 14 = .ok (.ifCond .eq 26, 3) := by decide +kernel
theorem dX8_flips_17 : decode cX8_flips 17 = .ok (.aload_n 0, 1) := by decide +kernel
theorem dX8_flips_18 : decode cX8_flips 18 = .ok (.getfield 26, 3) := by decide +kernel
theorem dX8_flips_21 : decode cX8_flips 21 = .ok (.getfield 135, 3) := by decide +kernel
theorem dX8_flips_24 : decode cX8_flips 24 = .ok (.ifCond .eq 16, 3) := by decide +kernel
theorem dX8_flips_27 : decode cX8_flips 27 = .ok (.aload_n 0, 1) := by decide +kernel
theorem dX8_flips_28 : decode cX8_flips 28 = .ok (.getfield 26, 3) := by decide +kernel
theorem dX8_flips_31 : decode cX8_flips 31 = .ok (.getfield 138, 3) := by decide +kernel
theorem dX8_flips_34 : decode cX8_flips 34 = .ok (.sipush 999, 3) := by decide +kernel
theorem dX8_flips_37 : decode cX8_flips 37 = .ok (.if_icmp .lt 6, 3) := by decide +kernel
theorem dX8_flips_40 : decode cX8_flips 40 = .ok (.bipush (-2), 2) := by decide +kernel
theorem dX8_flips_42 : decode cX8_flips 42 = .ok (.ireturn, 1) := by decide +kernel
theorem dX8_flips_43 : decode cX8_flips 43 = .ok (.aload_n 0, 1) := by decide +kernel
theorem dX8_flips_44 : decode cX8_flips 44 = .ok (.getfield 33, 3) := by decide +kernel
theorem dX8_flips_47 : decode cX8_flips 47 = .ok (.aload_n 0, 1) := by decide +kernel
theorem dX8_flips_48 : decode cX8_flips 48 = .ok (.getfield 26, 3) := by decide +kernel
theorem dX8_flips_51 : decode cX8_flips 51 = .ok (.invokevirtual 153, 3) := by decide +kernel
theorem dX8_flips_54 : decode cX8_flips 54 = .ok (.aload_n 0, 1) := by decide +kernel
theorem dX8_flips_55 : decode cX8_flips 55 = .ok (.getfield 50, 3) := by decide +kernel
theorem dX8_flips_58 : decode cX8_flips 58 = .ok (.aload_n 0, 1) := by decide +kernel
theorem dX8_flips_59 : decode cX8_flips 59 = .ok (.getfield 26, 3) := by decide +kernel
theorem dX8_flips_62 : decode cX8_flips 62 = .ok (.invokevirtual 157, 3) := by decide +kernel
theorem dX8_flips_65 : decode cX8_flips 65 = .ok (.aload_n 0, 1) := by decide +kernel
theorem dX8_flips_66 : decode cX8_flips 66 = .ok (.getfield 50, 3) := by decide +kernel
theorem dX8_flips_69 : decode cX8_flips 69 = .ok (.aload_n 0, 1) := by decide +kernel
theorem dX8_flips_70 : decode cX8_flips 70 = .ok (.getfield 26, 3) := by decide +kernel
theorem dX8_flips_73 : decode cX8_flips 73 = .ok (.getfield 132, 3) := by decide +kernel
theorem dX8_flips_76 : decode cX8_flips 76 = .ok (.aload_n 0, 1) := by decide +kernel
theorem dX8_flips_77 : decode cX8_flips 77 = .ok (.getfield 26, 3) := by decide +kernel
theorem dX8_flips_80 : decode cX8_flips 80 = .ok (.getfield 135, 3) := by decide +kernel
theorem dX8_flips_83 : decode cX8_flips 83 = .ok (.invokevirtual 160, 3) := by decide +kernel
theorem dX8_flips_86 : decode cX8_flips 86 = .ok (.aload_n 0, 1) := by decide +kernel
theorem dX8_flips_87 : decode cX8_flips 87 = .ok (.getfield 50, 3) := by decide +kernel
theorem dX8_flips_90 : decode cX8_flips 90 = .ok (.invokevirtual 164, 3) := by decide +kernel
theorem dX8_flips_93 : decode cX8_flips 93 = .ok (.aload_n 0, 1) := by decide +kernel
theorem dX8_flips_94 : decode cX8_flips 94 = .ok (.getfield 26, 3) := by decide +kernel
theorem dX8_flips_97 : decode cX8_flips 97 = .ok (.aload_n 0, 1) := by decide +kernel
theorem dX8_flips_98 : decode cX8_flips 98 = .ok (.getfield 50, 3) := by decide +kernel
theorem dX8_flips_101 : decode cX8_flips 101 = .ok (.getfield 167, 3) := by decide +kernel
theorem dX8_flips_104 : decode cX8_flips 104 = .ok (.putfield 132, 3) := by decide +kernel
theorem dX8_flips_107 : decode cX8_flips 107 = .ok (.aload_n 0, 1) := by decide +kernel
theorem dX8_flips_108 : decode cX8_flips 108 = .ok (.getfield 26, 3) := by decide +kernel
theorem dX8_flips_111 : decode cX8_flips 111 = .ok (.aload_n 0, 1) := by decide +kernel
theorem dX8_flips_112 : decode cX8_flips 112 = .ok (.getfield 50, 3) := by decide +kernel
theorem dX8_flips_115 : decode cX8_flips 115 = .ok (.getfield 168, 3) := by decide +kernel
theorem dX8_flips_118 : decode cX8_flips 118 = .ok (.putfield 135, 3) := by decide +kernel
theorem dX8_flips_121 : decode cX8_flips 121 = .ok (.aload_n 0, 1) := by decide +kernel
theorem dX8_flips_122 : decode cX8_flips 122 = .ok (.getfield 26, 3) := by decide +kernel
theorem dX8_flips_125 : decode cX8_flips 125 = .ok (.dup, 1) := by decide +kernel
theorem dX8_flips_126 : decode cX8_flips 126 = .ok (.getfield 138, 3) := by decide +kernel
theorem dX8_flips_129 : decode cX8_flips 129 = .ok (.iconst 1, 1) := by decide +kernel
theorem dX8_flips_130 : decode cX8_flips 130 = .ok (.iadd, 1) := by decide +kernel
theorem dX8_flips_131 : decode cX8_flips 131 = .ok (.putfield 138, 3) := by decide +kernel
theorem dX8_flips_134 : decode cX8_flips 134 = .ok (.aload_n 0, 1) := by decide +kernel
theorem dX8_flips_135 : decode cX8_flips 135 = .ok (.getfield 26, 3) := by decide +kernel
theorem dX8_flips_138 : decode cX8_flips 138 = .ok (.getfield 132, 3) := by decide +kernel
theorem dX8_flips_141 : decode cX8_flips 141 = .ok (.ireturn, 1) := by decide +kernel
theorem dX8_pushes_0 : decode cX8_pushes 0 = .ok (.iload_n 1, 1) := by decide +kernel
theorem dX8_pushes_1 : decode cX8_pushes 1 = .ok (.iconst 1, 1) := by decide +kernel
theorem dX8_pushes_2 : decode cX8_pushes 2 = .ok (.bipush 20, 2) := by decide +kernel
theorem dX8_pushes_4 : decode cX8_pushes 4 = .ok (.invokestatic 81, 3) := by decide +kernel
theorem dX8_pushes_7 : decode cX8_pushes 7 = .ok (.ifCond .ne 5, 3) := by decide +kernel
theorem dX8_pushes_10 : decode cX8_pushes 10 = .ok (.iconst (-1), 1) := by decide +kernel
theorem dX8_pushes_11 : decode cX8_pushes 11 = .ok (.ireturn, 1) := by decide +kernel
theorem dX8_pushes_12 : decode cX8_pushes 12 = .ok (.aload_n 0, 1) := by decide +kernel
theorem dX8_pushes_13 : decode cX8_pushes 13 = .ok (.getfield 12, 3) := by decide +kernel
theorem dX8_pushes_16 : decode cX8_pushes 16 = .ok (.aload_n 0, 1) := by decide +kernel
theorem dX8_pushes_17 : decode cX8_pushes 17 = .ok (.getfield 26, 3) := by decide +kernel
theorem dX8_pushes_20 : decode cX8_pushes 20 = .ok (.getfield 132, 3) := by decide +kernel
theorem dX8_pushes_23 : decode cX8_pushes 23 = .ok (.invokevirtual 118, 3) := by decide +kernel
theorem dX8_pushes_26 : decode cX8_pushes 26 = .ok (.ifCond .ne 6, 3) := by decide +kernel
theorem dX8_pushes_29 : decode cX8_pushes 29 = .ok (.bipush (-2), 2) := by decide +kernel
theorem dX8_pushes_31 : decode cX8_pushes 31 = .ok (.ireturn, 1) := by decide +kernel
theorem dX8_pushes_32 : decode cX8_pushes 32 = .ok (.aload_n 0, 1) := by decide +kernel
theorem dX8_pushes_33 : decode cX8_pushes 33 = .ok (.getfield 33, 3) := by decide +kernel
theorem dX8_pushes_36 : decode cX8_pushes 36 = .ok (.aload_n 0, 1) := by decide +kernel
theorem dX8_pushes_37 : decode cX8_pushes 37 = .ok (.getfield 26, 3) := by decide +kernel
theorem dX8_pushes_40 : decode cX8_pushes 40 = .ok (.invokevirtual 153, 3) := by decide +kernel
theorem dX8_pushes_43 : decode cX8_pushes 43 = .ok (.aload_n 0, 1) := by decide +kernel
theorem dX8_pushes_44 : decode cX8_pushes 44 = .ok (.getfield 26, 3) := by decide +kernel
theorem dX8_pushes_47 : decode cX8_pushes 47 = .ok (.aload_n 0, 1) := by decide +kernel
theorem dX8_pushes_48 : decode cX8_pushes 48 = .ok (.getfield 26, 3) := by decide +kernel
theorem dX8_pushes_51 : decode cX8_pushes 51 = .ok (.getfield 135, 3) := by decide +kernel
theorem dX8_pushes_54 : decode cX8_pushes 54 = .ok (.iload_n 1, 1) := by decide +kernel
theorem dX8_pushes_55 : decode cX8_pushes 55 = .ok (.iadd, 1) := by decide +kernel
theorem dX8_pushes_56 : decode cX8_pushes 56 = .ok (.invokestatic 169, 3) := by decide +kernel
theorem dX8_pushes_59 : decode cX8_pushes 59 = .ok (.putfield 135, 3) := by decide +kernel
theorem dX8_pushes_62 : decode cX8_pushes 62 = .ok (.aload_n 0, 1) := by decide +kernel
theorem dX8_pushes_63 : decode cX8_pushes 63 = .ok (.getfield 26, 3) := by decide +kernel
theorem dX8_pushes_66 : decode cX8_pushes 66 = .ok (.getfield 135, 3) := by decide +kernel
theorem dX8_pushes_69 : decode cX8_pushes 69 = .ok (.ireturn, 1) := by decide +kernel
theorem dX8_lifts_0 : decode cX8_lifts 0 = .ok (.aload_n 0, 1) := by decide +kernel
theorem dX8_lifts_1 : decode cX8_lifts 1 = .ok (.getfield 12, 3) := by decide +kernel
theorem dX8_lifts_4 : decode cX8_lifts 4 = .ok (.iload_n 1, 1) := by decide +kernel
theorem dX8_lifts_5 : decode cX8_lifts 5 = .ok (.invokevirtual 118, 3) := by decide +kernel
theorem dX8_lifts_8 : decode cX8_lifts 8 = .ok (.ifCond .ne 5, 3) := by decide +kernel
theorem dX8_lifts_11 : decode cX8_lifts 11 = .ok (.iconst (-1), 1) := by decide +kernel
theorem dX8_lifts_12 : decode cX8_lifts 12 = .ok (.ireturn, 1) := by decide +kernel
theorem dX8_lifts_13 : decode cX8_lifts 13 = .ok (.aload_n 0, 1) := by decide +kernel
theorem dX8_lifts_14 : decode cX8_lifts 14 = .ok (.getfield 26, 3) := by decide +kernel
theorem dX8_lifts_17 : decode cX8_lifts 17 = .ok (.getfield 132, 3) := by decide +kernel
theorem dX8_lifts_20 : decode cX8_lifts 20 = .ok (.iload_n 1, 1) := by decide +kernel
theorem dX8_lifts_21 : decode cX8_lifts 21 = .ok (.if_icmp .ne 6, 3) := by decide +kernel
theorem dX8_lifts_24 : decode cX8_lifts 24 = .ok (.bipush (-2), 2) := by decide +kernel
theorem dX8_lifts_26 : decode cX8_lifts 26 = .ok (.ireturn, 1) := by decide +kernel
theorem dX8_lifts_27 : decode cX8_lifts 27 = .ok (.aload_n 0, 1) := by decide +kernel
theorem dX8_lifts_28 : decode cX8_lifts 28 = .ok (.getfield 33, 3) := by decide +kernel
theorem dX8_lifts_31 : decode cX8_lifts 31 = .ok (.aload_n 0, 1) := by decide +kernel
theorem dX8_lifts_32 : decode cX8_lifts 32 = .ok (.getfield 26, 3) := by decide +kernel
theorem dX8_lifts_35 : decode cX8_lifts 35 = .ok (.invokevirtual 153, 3) := by decide +kernel
theorem dX8_lifts_38 : decode cX8_lifts 38 = .ok (.aload_n 0, 1) := by decide +kernel
theorem dX8_lifts_39 : decode cX8_lifts 39 = .ok (.getfield 26, 3) := by decide +kernel
theorem dX8_lifts_42 : decode cX8_lifts 42 = .ok (.getfield 132, 3) := by decide +kernel
theorem dX8_lifts_45 : decode cX8_lifts 45 = .ok (.istore_n 2, 1) := by decide +kernel
theorem dX8_lifts_46 : decode cX8_lifts 46 = .ok (.aload_n 0, 1) := by decide +kernel
theorem dX8_lifts_47 : decode cX8_lifts 47 = .ok (.getfield 26, 3) := by decide +kernel
theorem dX8_lifts_50 : decode cX8_lifts 50 = .ok (.iload_n 1, 1) := by decide +kernel
theorem dX8_lifts_51 : decode cX8_lifts 51 = .ok (.putfield 132, 3) := by decide +kernel
theorem dX8_lifts_54 : decode cX8_lifts 54 = .ok (.aload_n 0, 1) := by decide +kernel
theorem dX8_lifts_55 : decode cX8_lifts 55 = .ok (.getfield 26, 3) := by decide +kernel
theorem dX8_lifts_58 : decode cX8_lifts 58 = .ok (.iconst 0, 1) := by decide +kernel
theorem dX8_lifts_59 : decode cX8_lifts 59 = .ok (.putfield 135, 3) := by decide +kernel
theorem dX8_lifts_62 : decode cX8_lifts 62 = .ok (.iload_n 2, 1) := by decide +kernel
theorem dX8_lifts_63 : decode cX8_lifts 63 = .ok (.ireturn, 1) := by decide +kernel
theorem dX8_lays_0 : decode cX8_lays 0 = .ok (.aload_n 0, 1) := by decide +kernel
theorem dX8_lays_1 : decode cX8_lays 1 = .ok (.getfield 12, 3) := by decide +kernel
theorem dX8_lays_4 : decode cX8_lays 4 = .ok (.iload_n 1, 1) := by decide +kernel
theorem dX8_lays_5 : decode cX8_lays 5 = .ok (.invokevirtual 118, 3) := by decide +kernel
theorem dX8_lays_8 : decode cX8_lays 8 = .ok (.ifCond .eq 12, 3) := by decide +kernel
theorem dX8_lays_11 : decode cX8_lays 11 = .ok (.iload_n 2, 1) := by decide +kernel
theorem dX8_lays_12 : decode cX8_lays 12 = .ok (.iconst 0, 1) := by decide +kernel
theorem dX8_lays_13 : decode cX8_lays 13 = .ok (.iconst 5, 1) := by decide +kernel
theorem dX8_lays_14 : decode cX8_lays 14 = .ok (.invokestatic 81, 3) := by decide +kernel
theorem dX8_lays_17 : decode cX8_lays 17 = .ok (.ifCond .ne 5, 3) := by decide +kernel
theorem dX8_lays_20 : decode cX8_lays 20 = .ok (.iconst (-1), 1) := by decide +kernel
theorem dX8_lays_21 : decode cX8_lays 21 = .ok (.ireturn, 1) := by decide +kernel
theorem dX8_lays_22 : decode cX8_lays 22 = .ok (.aload_n 0, 1) := by decide +kernel
theorem dX8_lays_23 : decode cX8_lays 23 = .ok (.getfield 26, 3) := by decide +kernel
theorem dX8_lays_26 : decode cX8_lays 26 = .ok (.getfield 129, 3) := by decide +kernel
theorem dX8_lays_29 : decode cX8_lays 29 = .ok (.iload_n 1, 1) := by decide +kernel
theorem dX8_lays_30 : decode cX8_lays 30 = .ok (.iaload, 1) := by decide +kernel
theorem dX8_lays_31 : decode cX8_lays 31 = .ok (.istore_n 3, 1) := by decide +kernel
theorem dX8_lays_32 : decode cX8_lays 32 = .ok (.iload_n 3, 1) := by decide +kernel
theorem dX8_lays_33 : decode cX8_lays 33 = .ok (.iload_n 2, 1) := by decide +kernel
theorem dX8_lays_34 : decode cX8_lays 34 = .ok (.if_icmp .ne 6, 3) := by decide +kernel
theorem dX8_lays_37 : decode cX8_lays 37 = .ok (.bipush (-2), 2) := by decide +kernel
theorem dX8_lays_39 : decode cX8_lays 39 = .ok (.ireturn, 1) := by decide +kernel
theorem dX8_lays_40 : decode cX8_lays 40 = .ok (.aload_n 0, 1) := by decide +kernel
theorem dX8_lays_41 : decode cX8_lays 41 = .ok (.getfield 33, 3) := by decide +kernel
theorem dX8_lays_44 : decode cX8_lays 44 = .ok (.aload_n 0, 1) := by decide +kernel
theorem dX8_lays_45 : decode cX8_lays 45 = .ok (.getfield 26, 3) := by decide +kernel
theorem dX8_lays_48 : decode cX8_lays 48 = .ok (.invokevirtual 153, 3) := by decide +kernel
theorem dX8_lays_51 : decode cX8_lays 51 = .ok (.aload_n 0, 1) := by decide +kernel
theorem dX8_lays_52 : decode cX8_lays 52 = .ok (.getfield 26, 3) := by decide +kernel
theorem dX8_lays_55 : decode cX8_lays 55 = .ok (.getfield 129, 3) := by decide +kernel
theorem dX8_lays_58 : decode cX8_lays 58 = .ok (.iload_n 1, 1) := by decide +kernel
theorem dX8_lays_59 : decode cX8_lays 59 = .ok (.iload_n 2, 1) := by decide +kernel
theorem dX8_lays_60 : decode cX8_lays 60 = .ok (.iastore, 1) := by decide +kernel
theorem dX8_lays_61 : decode cX8_lays 61 = .ok (.iload_n 3, 1) := by decide +kernel
theorem dX8_lays_62 : decode cX8_lays 62 = .ok (.ireturn, 1) := by decide +kernel
theorem dX8_undo_0 : decode cX8_undo 0 = .ok (.aload_n 0, 1) := by decide +kernel
theorem dX8_undo_1 : decode cX8_undo 1 = .ok (.getfield 33, 3) := by decide +kernel
theorem dX8_undo_4 : decode cX8_undo 4 = .ok (.aload_n 0, 1) := by decide +kernel
theorem dX8_undo_5 : decode cX8_undo 5 = .ok (.getfield 26, 3) := by decide +kernel
theorem dX8_undo_8 : decode cX8_undo 8 = .ok (.invokevirtual 172, 3) := by decide +kernel
theorem dX8_undo_11 : decode cX8_undo 11 = .ok (.ifCond .eq 13, 3) := by decide +kernel
theorem dX8_undo_14 : decode cX8_undo 14 = .ok (.aload_n 0, 1) := by decide +kernel
theorem dX8_undo_15 : decode cX8_undo 15 = .ok (.getfield 33, 3) := by decide +kernel
theorem dX8_undo_18 : decode cX8_undo 18 = .ok (.getfield 109, 3) := by decide +kernel
theorem dX8_undo_21 : decode cX8_undo 21 = .ok (.goto 5, 3) := by decide +kernel
theorem dX8_undo_24 : decode cX8_undo 24 = .ok (.bipush (-2), 2) := by decide +kernel
theorem dX8_undo_26 : decode cX8_undo 26 = .ok (.ireturn, 1) := by decide +kernel
theorem dX8_push_0 : decode cX8_push 0 = .ok (.aload_n 0, 1) := by decide +kernel
theorem dX8_push_1 : decode cX8_push 1 = .ok (.getfield 12, 3) := by decide +kernel
theorem dX8_push_4 : decode cX8_push 4 = .ok (.iload_n 1, 1) := by decide +kernel
theorem dX8_push_5 : decode cX8_push 5 = .ok (.invokevirtual 176, 3) := by decide +kernel
theorem dX8_push_8 : decode cX8_push 8 = .ok (.ifCond .ne 5, 3) := by decide +kernel
theorem dX8_push_11 : decode cX8_push 11 = .ok (.iconst (-1), 1) := by decide +kernel
theorem dX8_push_12 : decode cX8_push 12 = .ok (.ireturn, 1) := by decide +kernel
theorem dX8_push_13 : decode cX8_push 13 = .ok (.iconst 0, 1) := by decide +kernel
theorem dX8_push_14 : decode cX8_push 14 = .ok (.istore_n 2, 1) := by decide +kernel
theorem dX8_push_15 : decode cX8_push 15 = .ok (.iload_n 2, 1) := by decide +kernel
theorem dX8_push_16 : decode cX8_push 16 = .ok (.bipush 60, 2) := by decide +kernel
theorem dX8_push_18 : decode cX8_push 18 = .ok (.if_icmp .gt 31, 3) := by decide +kernel
theorem dX8_push_21 : decode cX8_push 21 = .ok (.aload_n 0, 1) := by decide +kernel
theorem dX8_push_22 : decode cX8_push 22 = .ok (.aload_n 0, 1) := by decide +kernel
theorem dX8_push_23 : decode cX8_push 23 = .ok (.getfield 26, 3) := by decide +kernel
theorem dX8_push_26 : decode cX8_push 26 = .ok (.getfield 135, 3) := by decide +kernel
theorem dX8_push_29 : decode cX8_push 29 = .ok (.iload_n 2, 1) := by decide +kernel
theorem dX8_push_30 : decode cX8_push 30 = .ok (.iadd, 1) := by decide +kernel
theorem dX8_push_31 : decode cX8_push 31 = .ok (.invokestatic 169, 3) := by decide +kernel
theorem dX8_push_34 : decode cX8_push 34 = .ok (.invokevirtual 141, 3) := by decide +kernel
theorem dX8_push_37 : decode cX8_push 37 = .ok (.iload_n 1, 1) := by decide +kernel
theorem dX8_push_38 : decode cX8_push 38 = .ok (.if_icmp .ne 5, 3) := by decide +kernel
theorem dX8_push_41 : decode cX8_push 41 = .ok (.iload_n 2, 1) := by decide +kernel
theorem dX8_push_42 : decode cX8_push 42 = .ok (.ireturn, 1) := by decide +kernel
theorem dX8_push_43 : decode cX8_push 43 = .ok (.iinc 2 1, 3) := by decide +kernel
theorem dX8_push_46 : decode cX8_push 46 = .ok (.goto (-31), 3) := by decide +kernel
theorem dX8_push_49 : decode cX8_push 49 = .ok (.bipush (-9), 2) := by decide +kernel
theorem dX8_push_51 : decode cX8_push 51 = .ok (.ireturn, 1) := by decide +kernel
theorem dX8_mat_0 : decode cX8_mat 0 = .ok (.aload_n 0, 1) := by decide +kernel
theorem dX8_mat_1 : decode cX8_mat 1 = .ok (.getfield 12, 3) := by decide +kernel
theorem dX8_mat_4 : decode cX8_mat 4 = .ok (.iload_n 1, 1) := by decide +kernel
theorem dX8_mat_5 : decode cX8_mat 5 = .ok (.invokevirtual 176, 3) := by decide +kernel
theorem dX8_mat_8 : decode cX8_mat 8 = .ok (.ifCond .eq 12, 3) := by decide +kernel
theorem dX8_mat_11 : decode cX8_mat 11 = .ok (.iload_n 2, 1) := by decide +kernel
theorem dX8_mat_12 : decode cX8_mat 12 = .ok (.iconst 0, 1) := by decide +kernel
theorem dX8_mat_13 : decode cX8_mat 13 = .ok (.iconst 5, 1) := by decide +kernel
theorem dX8_mat_14 : decode cX8_mat 14 = .ok (.invokestatic 81, 3) := by decide +kernel
theorem dX8_mat_17 : decode cX8_mat 17 = .ok (.ifCond .ne 5, 3) := by decide +kernel
theorem dX8_mat_20 : decode cX8_mat 20 = .ok (.iconst (-1), 1) := by decide +kernel
theorem dX8_mat_21 : decode cX8_mat 21 = .ok (.ireturn, 1) := by decide +kernel
theorem dX8_mat_22 : decode cX8_mat 22 = .ok (.iconst 0, 1) := by decide +kernel
theorem dX8_mat_23 : decode cX8_mat 23 = .ok (.istore_n 3, 1) := by decide +kernel
theorem dX8_mat_24 : decode cX8_mat 24 = .ok (.iload_n 3, 1) := by decide +kernel
theorem dX8_mat_25 : decode cX8_mat 25 = .ok (.aload_n 0, 1) := by decide +kernel
theorem dX8_mat_26 : decode cX8_mat 26 = .ok (.getfield 12, 3) := by decide +kernel
theorem dX8_mat_29 : decode cX8_mat 29 = .ok (.getfield 179, 3) := by decide +kernel
theorem dX8_mat_32 : decode cX8_mat 32 = .ok (.if_icmp .ge 21, 3) := by decide +kernel
theorem dX8_mat_35 : decode cX8_mat 35 = .ok (.aload_n 0, 1) := by decide +kernel
theorem dX8_mat_36 : decode cX8_mat 36 = .ok (.iload_n 3, 1) := by decide +kernel
theorem dX8_mat_37 : decode cX8_mat 37 = .ok (.iload_n 2, 1) := by decide +kernel
theorem dX8_mat_38 : decode cX8_mat 38 = .ok (.invokevirtual 182, 3) := by decide +kernel
theorem dX8_mat_41 : decode cX8_mat 41 = .ok (.iload_n 1, 1) := by decide +kernel
theorem dX8_mat_42 : decode cX8_mat 42 = .ok (.if_icmp .ne 5, 3) := by decide +kernel
theorem dX8_mat_45 : decode cX8_mat 45 = .ok (.iload_n 3, 1) := by decide +kernel
theorem dX8_mat_46 : decode cX8_mat 46 = .ok (.ireturn, 1) := by decide +kernel
theorem dX8_mat_47 : decode cX8_mat 47 = .ok (.iinc 3 1, 3) := by decide +kernel
theorem dX8_mat_50 : decode cX8_mat 50 = .ok (.goto (-26), 3) := by decide +kernel
theorem dX8_mat_53 : decode cX8_mat 53 = .ok (.bipush (-9), 2) := by decide +kernel
theorem dX8_mat_55 : decode cX8_mat 55 = .ok (.ireturn, 1) := by decide +kernel
theorem dX8_odds_0 : decode cX8_odds 0 = .ok (.iload_n 1, 1) := by decide +kernel
theorem dX8_odds_1 : decode cX8_odds 1 = .ok (.iconst 0, 1) := by decide +kernel
theorem dX8_odds_2 : decode cX8_odds 2 = .ok (.bipush 10, 2) := by decide +kernel
theorem dX8_odds_4 : decode cX8_odds 4 = .ok (.invokestatic 81, 3) := by decide +kernel
theorem dX8_odds_7 : decode cX8_odds 7 = .ok (.ifCond .eq 12, 3) := by decide +kernel
theorem dX8_odds_10 : decode cX8_odds 10 = .ok (.iload_n 2, 1) := by decide +kernel
theorem dX8_odds_11 : decode cX8_odds 11 = .ok (.iconst 0, 1) := by decide +kernel
theorem dX8_odds_12 : decode cX8_odds 12 = .ok (.iconst 1, 1) := by decide +kernel
theorem dX8_odds_13 : decode cX8_odds 13 = .ok (.invokestatic 81, 3) := by decide +kernel
theorem dX8_odds_16 : decode cX8_odds 16 = .ok (.ifCond .ne 5, 3) := by decide +kernel
theorem dX8_odds_19 : decode cX8_odds 19 = .ok (.iconst (-1), 1) := by decide +kernel
theorem dX8_odds_20 : decode cX8_odds 20 = .ok (.ireturn, 1) := by decide +kernel
theorem dX8_odds_21 : decode cX8_odds 21 = .ok (.aload_n 0, 1) := by decide +kernel
theorem dX8_odds_22 : decode cX8_odds 22 = .ok (.getfield 73, 3) := by decide +kernel
theorem dX8_odds_25 : decode cX8_odds 25 = .ok (.aload_n 0, 1) := by decide +kernel
theorem dX8_odds_26 : decode cX8_odds 26 = .ok (.getfield 26, 3) := by decide +kernel
theorem dX8_odds_29 : decode cX8_odds 29 = .ok (.iload_n 1, 1) := by decide +kernel
theorem dX8_odds_30 : decode cX8_odds 30 = .ok (.invokevirtual 186, 3) := by decide +kernel
theorem dX8_odds_33 : decode cX8_odds 33 = .ok (.iload_n 2, 1) := by decide +kernel
theorem dX8_odds_34 : decode cX8_odds 34 = .ok (.ifCond .ne 13, 3) := by decide +kernel
theorem dX8_odds_37 : decode cX8_odds 37 = .ok (.aload_n 0, 1) := by decide +kernel
theorem dX8_odds_38 : decode cX8_odds 38 = .ok (.getfield 73, 3) := by decide +kernel
theorem dX8_odds_41 : decode cX8_odds 41 = .ok (.getfield 190, 3) := by decide +kernel
theorem dX8_odds_44 : decode cX8_odds 44 = .ok (.goto 10, 3) := by decide +kernel
theorem dX8_odds_47 : decode cX8_odds 47 = .ok (.aload_n 0, 1) := by decide +kernel
theorem dX8_odds_48 : decode cX8_odds 48 = .ok (.getfield 73, 3) := by decide +kernel
theorem dX8_odds_51 : decode cX8_odds 51 = .ok (.getfield 193, 3) := by decide +kernel
theorem dX8_odds_54 : decode cX8_odds 54 = .ok (.l2i, 1) := by decide +kernel
theorem dX8_odds_55 : decode cX8_odds 55 = .ok (.ireturn, 1) := by decide +kernel
theorem dX8_sees_0 : decode cX8_sees 0 = .ok (.aload_n 0, 1) := by decide +kernel
theorem dX8_sees_1 : decode cX8_sees 1 = .ok (.getfield 12, 3) := by decide +kernel
theorem dX8_sees_4 : decode cX8_sees 4 = .ok (.iload_n 1, 1) := by decide +kernel
theorem dX8_sees_5 : decode cX8_sees 5 = .ok (.invokevirtual 118, 3) := by decide +kernel
theorem dX8_sees_8 : decode cX8_sees 8 = .ok (.ifCond .eq 24, 3) := by decide +kernel
theorem dX8_sees_11 : decode cX8_sees 11 = .ok (.iload_n 2, 1) := by decide +kernel
theorem dX8_sees_12 : decode cX8_sees 12 = .ok (.iconst 1, 1) := by decide +kernel
theorem dX8_sees_13 : decode cX8_sees 13 = .ok (.bipush 60, 2) := by decide +kernel
theorem dX8_sees_15 : decode cX8_sees 15 = .ok (.invokestatic 81, 3) := by decide +kernel
theorem dX8_sees_18 : decode cX8_sees 18 = .ok (.ifCond .eq 14, 3) := by decide +kernel
theorem dX8_sees_21 : decode cX8_sees 21 = .ok (.aload_n 0, 1) := by decide +kernel
theorem dX8_sees_22 : decode cX8_sees 22 = .ok (.getfield 12, 3) := by decide +kernel
theorem dX8_sees_25 : decode cX8_sees 25 = .ok (.iload_n 3, 1) := by decide +kernel
theorem dX8_sees_26 : decode cX8_sees 26 = .ok (.invokevirtual 176, 3) := by decide +kernel
theorem dX8_sees_29 : decode cX8_sees 29 = .ok (.ifCond .ne 5, 3) := by decide +kernel
theorem dX8_sees_32 : decode cX8_sees 32 = .ok (.iconst (-1), 1) := by decide +kernel
theorem dX8_sees_33 : decode cX8_sees 33 = .ok (.ireturn, 1) := by decide +kernel
theorem dX8_sees_34 : decode cX8_sees 34 = .ok (.aload_n 0, 1) := by decide +kernel
theorem dX8_sees_35 : decode cX8_sees 35 = .ok (.getfield 66, 3) := by decide +kernel
theorem dX8_sees_38 : decode cX8_sees 38 = .ok (.iload_n 1, 1) := by decide +kernel
theorem dX8_sees_39 : decode cX8_sees 39 = .ok (.iload_n 2, 1) := by decide +kernel
theorem dX8_sees_40 : decode cX8_sees 40 = .ok (.iload_n 3, 1) := by decide +kernel
theorem dX8_sees_41 : decode cX8_sees 41 = .ok (.invokevirtual 196, 3) := by decide +kernel
theorem dX8_sees_44 : decode cX8_sees 44 = .ok (.ifCond .eq 13, 3) := by decide +kernel
theorem dX8_sees_47 : decode cX8_sees 47 = .ok (.aload_n 0, 1) := by decide +kernel
theorem dX8_sees_48 : decode cX8_sees 48 = .ok (.getfield 66, 3) := by decide +kernel
theorem dX8_sees_51 : decode cX8_sees 51 = .ok (.getfield 112, 3) := by decide +kernel
theorem dX8_sees_54 : decode cX8_sees 54 = .ok (.goto 5, 3) := by decide +kernel
theorem dX8_sees_57 : decode cX8_sees 57 = .ok (.bipush (-3), 2) := by decide +kernel
theorem dX8_sees_59 : decode cX8_sees 59 = .ok (.ireturn, 1) := by decide +kernel
theorem dX8_forget_0 : decode cX8_forget 0 = .ok (.aload_n 0, 1) := by decide +kernel
theorem dX8_forget_1 : decode cX8_forget 1 = .ok (.getfield 66, 3) := by decide +kernel
theorem dX8_forget_4 : decode cX8_forget 4 = .ok (.getfield 112, 3) := by decide +kernel
theorem dX8_forget_7 : decode cX8_forget 7 = .ok (.istore_n 1, 1) := by decide +kernel
theorem dX8_forget_8 : decode cX8_forget 8 = .ok (.aload_n 0, 1) := by decide +kernel
theorem dX8_forget_9 : decode cX8_forget 9 = .ok (.getfield 66, 3) := by decide +kernel
theorem dX8_forget_12 : decode cX8_forget 12 = .ok (.iconst 0, 1) := by decide +kernel
theorem dX8_forget_13 : decode cX8_forget 13 = .ok (.putfield 112, 3) := by decide +kernel
theorem dX8_forget_16 : decode cX8_forget 16 = .ok (.iload_n 1, 1) := by decide +kernel
theorem dX8_forget_17 : decode cX8_forget 17 = .ok (.ireturn, 1) := by decide +kernel
theorem dX8_ways_0 : decode cX8_ways 0 = .ok (.iload_n 1, 1) := by decide +kernel
theorem dX8_ways_1 : decode cX8_ways 1 = .ok (.iconst 0, 1) := by decide +kernel
theorem dX8_ways_2 : decode cX8_ways 2 = .ok (.iconst 1, 1) := by decide +kernel
theorem dX8_ways_3 : decode cX8_ways 3 = .ok (.invokestatic 81, 3) := by decide +kernel
theorem dX8_ways_6 : decode cX8_ways 6 = .ok (.ifCond .ne 5, 3) := by decide +kernel
theorem dX8_ways_9 : decode cX8_ways 9 = .ok (.iconst (-1), 1) := by decide +kernel
theorem dX8_ways_10 : decode cX8_ways 10 = .ok (.ireturn, 1) := by decide +kernel
theorem dX8_ways_11 : decode cX8_ways 11 = .ok (.aload_n 0, 1) := by decide +kernel
theorem dX8_ways_12 : decode cX8_ways 12 = .ok (.getfield 66, 3) := by decide +kernel
theorem dX8_ways_15 : decode cX8_ways 15 = .ok (.aload_n 0, 1) := by decide +kernel
theorem dX8_ways_16 : decode cX8_ways 16 = .ok (.getfield 26, 3) := by decide +kernel
theorem dX8_ways_19 : decode cX8_ways 19 = .ok (.invokevirtual 199, 3) := by decide +kernel
theorem dX8_ways_22 : decode cX8_ways 22 = .ok (.iload_n 1, 1) := by decide +kernel
theorem dX8_ways_23 : decode cX8_ways 23 = .ok (.ifCond .ne 11, 3) := by decide +kernel
theorem dX8_ways_26 : decode cX8_ways 26 = .ok (.aload_n 0, 1) := by decide +kernel
theorem dX8_ways_27 : decode cX8_ways 27 = .ok (.getfield 66, 3) := by decide +kernel
theorem dX8_ways_30 : decode cX8_ways 30 = .ok (.getfield 202, 3) := by decide +kernel
theorem dX8_ways_33 : decode cX8_ways 33 = .ok (.ireturn, 1) := by decide +kernel
theorem dX8_ways_34 : decode cX8_ways 34 = .ok (.aload_n 0, 1) := by decide +kernel
theorem dX8_ways_35 : decode cX8_ways 35 = .ok (.getfield 66, 3) := by decide +kernel
theorem dX8_ways_38 : decode cX8_ways 38 = .ok (.getfield 202, 3) := by decide +kernel
theorem dX8_ways_41 : decode cX8_ways 41 = .ok (.ifCond .ne 8, 3) := by decide +kernel
theorem dX8_ways_44 : decode cX8_ways 44 = .ok (.bipush (-9), 2) := by decide +kernel
theorem dX8_ways_46 : decode cX8_ways 46 = .ok (.goto 24, 3) := by decide +kernel
theorem dX8_ways_49 : decode cX8_ways 49 = .ok (.aload_n 0, 1) := by decide +kernel
theorem dX8_ways_50 : decode cX8_ways 50 = .ok (.getfield 66, 3) := by decide +kernel
theorem dX8_ways_53 : decode cX8_ways 53 = .ok (.getfield 205, 3) := by decide +kernel
theorem dX8_ways_56 : decode cX8_ways 56 = .ok (.iconst 0, 1) := by decide +kernel
theorem dX8_ways_57 : decode cX8_ways 57 = .ok (.iaload, 1) := by decide +kernel
theorem dX8_ways_58 : decode cX8_ways 58 = .ok (.aload_n 0, 1) := by decide +kernel
theorem dX8_ways_59 : decode cX8_ways 59 = .ok (.getfield 66, 3) := by decide +kernel
theorem dX8_ways_62 : decode cX8_ways 62 = .ok (.getfield 208, 3) := by decide +kernel
theorem dX8_ways_65 : decode cX8_ways 65 = .ok (.iconst 0, 1) := by decide +kernel
theorem dX8_ways_66 : decode cX8_ways 66 = .ok (.iaload, 1) := by decide +kernel
theorem dX8_ways_67 : decode cX8_ways 67 = .ok (.invokestatic 211, 3) := by decide +kernel
theorem dX8_ways_70 : decode cX8_ways 70 = .ok (.ireturn, 1) := by decide +kernel
theorem dX8_next_0 : decode cX8_next 0 = .ok (.aload_n 0, 1) := by decide +kernel
theorem dX8_next_1 : decode cX8_next 1 = .ok (.getfield 12, 3) := by decide +kernel
theorem dX8_next_4 : decode cX8_next 4 = .ok (.iload_n 1, 1) := by decide +kernel
theorem dX8_next_5 : decode cX8_next 5 = .ok (.invokevirtual 118, 3) := by decide +kernel
theorem dX8_next_8 : decode cX8_next 8 = .ok (.ifCond .ne 5, 3) := by decide +kernel
theorem dX8_next_11 : decode cX8_next 11 = .ok (.iconst (-1), 1) := by decide +kernel
theorem dX8_next_12 : decode cX8_next 12 = .ok (.ireturn, 1) := by decide +kernel
theorem dX8_next_13 : decode cX8_next 13 = .ok (.aload_n 0, 1) := by decide +kernel
theorem dX8_next_14 : decode cX8_next 14 = .ok (.getfield 66, 3) := by decide +kernel
theorem dX8_next_17 : decode cX8_next 17 = .ok (.aload_n 0, 1) := by decide +kernel
theorem dX8_next_18 : decode cX8_next 18 = .ok (.getfield 26, 3) := by decide +kernel
theorem dX8_next_21 : decode cX8_next 21 = .ok (.invokevirtual 199, 3) := by decide +kernel
theorem dX8_next_24 : decode cX8_next 24 = .ok (.aload_n 0, 1) := by decide +kernel
theorem dX8_next_25 : decode cX8_next 25 = .ok (.getfield 66, 3) := by decide +kernel
theorem dX8_next_28 : decode cX8_next 28 = .ok (.iload_n 1, 1) := by decide +kernel
theorem dX8_next_29 : decode cX8_next 29 = .ok (.invokevirtual 214, 3) := by decide +kernel
theorem dX8_next_32 : decode cX8_next 32 = .ok (.ireturn, 1) := by decide +kernel
theorem dX8_rate_0 : decode cX8_rate 0 = .ok (.aload_n 0, 1) := by decide +kernel
theorem dX8_rate_1 : decode cX8_rate 1 = .ok (.getfield 12, 3) := by decide +kernel
theorem dX8_rate_4 : decode cX8_rate 4 = .ok (.iload_n 2, 1) := by decide +kernel
theorem dX8_rate_5 : decode cX8_rate 5 = .ok (.invokevirtual 118, 3) := by decide +kernel
theorem dX8_rate_8 : decode cX8_rate 8 = .ok (.ifCond .ne 6, 3) := by decide +kernel
theorem dX8_rate_11 : decode cX8_rate 11 = .ok (.ldc 217, 2) := by decide +kernel
theorem dX8_rate_13 : decode cX8_rate 13 = .ok (.ireturn, 1) := by decide +kernel
theorem dX8_rate_14 : decode cX8_rate 14 = .ok (.iload_n 1, 1) := by decide +kernel
theorem dX8_rate_15 : decode cX8_rate 15 = .ok (.tableswitch 73 0 5 #[37, 43, 49, 55, 61, 67], 37) := by decide +kernel
theorem dX8_rate_52 : decode cX8_rate 52 = .ok (.aload_n 0, 1) := by decide +kernel
theorem dX8_rate_53 : decode cX8_rate 53 = .ok (.iload_n 2, 1) := by decide +kernel
theorem dX8_rate_54 : decode cX8_rate 54 = .ok (.invokevirtual 218, 3) := by decide +kernel
theorem dX8_rate_57 : decode cX8_rate 57 = .ok (.ireturn, 1) := by decide +kernel
theorem dX8_rate_58 : decode cX8_rate 58 = .ok (.aload_n 0, 1) := by decide +kernel
theorem dX8_rate_59 : decode cX8_rate 59 = .ok (.iload_n 2, 1) := by decide +kernel
theorem dX8_rate_60 : decode cX8_rate 60 = .ok (.invokevirtual 221, 3) := by decide +kernel
theorem dX8_rate_63 : decode cX8_rate 63 = .ok (.ireturn, 1) := by decide +kernel
theorem dX8_rate_64 : decode cX8_rate 64 = .ok (.aload_n 0, 1) := by decide +kernel
theorem dX8_rate_65 : decode cX8_rate 65 = .ok (.iload_n 2, 1) := by decide +kernel
theorem dX8_rate_66 : decode cX8_rate 66 = .ok (.invokevirtual 224, 3) := by decide +kernel
theorem dX8_rate_69 : decode cX8_rate 69 = .ok (.ireturn, 1) := by decide +kernel
theorem dX8_rate_70 : decode cX8_rate 70 = .ok (.aload_n 0, 1) := by decide +kernel
theorem dX8_rate_71 : decode cX8_rate 71 = .ok (.iload_n 2, 1) := by decide +kernel
theorem dX8_rate_72 : decode cX8_rate 72 = .ok (.invokevirtual 227, 3) := by decide +kernel
theorem dX8_rate_75 : decode cX8_rate 75 = .ok (.ireturn, 1) := by decide +kernel
theorem dX8_rate_76 : decode cX8_rate 76 = .ok (.aload_n 0, 1) := by decide +kernel
theorem dX8_rate_77 : decode cX8_rate 77 = .ok (.iload_n 2, 1) := by decide +kernel
theorem dX8_rate_78 : decode cX8_rate 78 = .ok (.invokevirtual 230, 3) := by decide +kernel
theorem dX8_rate_81 : decode cX8_rate 81 = .ok (.ireturn, 1) := by decide +kernel
theorem dX8_rate_82 : decode cX8_rate 82 = .ok (.aload_n 0, 1) := by decide +kernel
theorem dX8_rate_83 : decode cX8_rate 83 = .ok (.iload_n 2, 1) := by decide +kernel
theorem dX8_rate_84 : decode cX8_rate 84 = .ok (.invokevirtual 233, 3) := by decide +kernel
theorem dX8_rate_87 : decode cX8_rate 87 = .ok (.ireturn, 1) := by decide +kernel
theorem dX8_rate_88 : decode cX8_rate 88 = .ok (.ldc 217, 2) := by decide +kernel
theorem dX8_rate_90 : decode cX8_rate 90 = .ok (.ireturn, 1) := by decide +kernel
theorem dX8_keep_0 : decode cX8_keep 0 = .ok (.iload_n 1, 1) := by decide +kernel
theorem dX8_keep_1 : decode cX8_keep 1 = .ok (.iconst 0, 1) := by decide +kernel
theorem dX8_keep_2 : decode cX8_keep 2 = .ok (.iconst 1, 1) := by decide +kernel
theorem dX8_keep_3 : decode cX8_keep 3 = .ok (.invokestatic 81, 3) := by decide +kernel
theorem dX8_keep_6 : decode cX8_keep 6 = .ok (.ifCond .ne 5, 3) := by decide +kernel
theorem dX8_keep_9 : decode cX8_keep 9 = .ok (.iconst (-1), 1) := by decide +kernel
theorem dX8_keep_10 : decode cX8_keep 10 = .ok (.ireturn, 1) := by decide +kernel
theorem dX8_keep_11 : decode cX8_keep 11 = .ok (.aload_n 0, 1) := by decide +kernel
theorem dX8_keep_12 : decode cX8_keep 12 = .ok (.getfield 37, 3) := by decide +kernel
theorem dX8_keep_15 : decode cX8_keep 15 = .ok (.iload_n 1, 1) := by decide +kernel
theorem dX8_keep_16 : decode cX8_keep 16 = .ok (.aaload, 1) := by decide +kernel
theorem dX8_keep_17 : decode cX8_keep 17 = .ok (.aload_n 0, 1) := by decide +kernel
theorem dX8_keep_18 : decode cX8_keep 18 = .ok (.getfield 26, 3) := by decide +kernel
theorem dX8_keep_21 : decode cX8_keep 21 = .ok (.invokevirtual 236, 3) := by decide +kernel
theorem dX8_keep_24 : decode cX8_keep 24 = .ok (.aload_n 0, 1) := by decide +kernel
theorem dX8_keep_25 : decode cX8_keep 25 = .ok (.getfield 41, 3) := by decide +kernel
theorem dX8_keep_28 : decode cX8_keep 28 = .ok (.iload_n 1, 1) := by decide +kernel
theorem dX8_keep_29 : decode cX8_keep 29 = .ok (.iconst 1, 1) := by decide +kernel
theorem dX8_keep_30 : decode cX8_keep 30 = .ok (.bastore, 1) := by decide +kernel
theorem dX8_keep_31 : decode cX8_keep 31 = .ok (.aload_n 0, 1) := by decide +kernel
theorem dX8_keep_32 : decode cX8_keep 32 = .ok (.getfield 26, 3) := by decide +kernel
theorem dX8_keep_35 : decode cX8_keep 35 = .ok (.getfield 132, 3) := by decide +kernel
theorem dX8_keep_38 : decode cX8_keep 38 = .ok (.ireturn, 1) := by decide +kernel
theorem dX8_back_0 : decode cX8_back 0 = .ok (.iload_n 1, 1) := by decide +kernel
theorem dX8_back_1 : decode cX8_back 1 = .ok (.iconst 0, 1) := by decide +kernel
theorem dX8_back_2 : decode cX8_back 2 = .ok (.iconst 1, 1) := by decide +kernel
theorem dX8_back_3 : decode cX8_back 3 = .ok (.invokestatic 81, 3) := by decide +kernel
theorem dX8_back_6 : decode cX8_back 6 = .ok (.ifCond .ne 5, 3) := by decide +kernel
theorem dX8_back_9 : decode cX8_back 9 = .ok (.iconst (-1), 1) := by decide +kernel
theorem dX8_back_10 : decode cX8_back 10 = .ok (.ireturn, 1) := by decide +kernel
theorem dX8_back_11 : decode cX8_back 11 = .ok (.aload_n 0, 1) := by decide +kernel
theorem dX8_back_12 : decode cX8_back 12 = .ok (.getfield 41, 3) := by decide +kernel
theorem dX8_back_15 : decode cX8_back 15 = .ok (.iload_n 1, 1) := by decide +kernel
theorem dX8_back_16 : decode cX8_back 16 = .ok (.baload, 1) := by decide +kernel
theorem dX8_back_17 : decode cX8_back 17 = .ok (.ifCond .ne 6, 3) := by decide +kernel
theorem dX8_back_20 : decode cX8_back 20 = .ok (.bipush (-2), 2) := by decide +kernel
theorem dX8_back_22 : decode cX8_back 22 = .ok (.ireturn, 1) := by decide +kernel
theorem dX8_back_23 : decode cX8_back 23 = .ok (.aload_n 0, 1) := by decide +kernel
theorem dX8_back_24 : decode cX8_back 24 = .ok (.getfield 26, 3) := by decide +kernel
theorem dX8_back_27 : decode cX8_back 27 = .ok (.aload_n 0, 1) := by decide +kernel
theorem dX8_back_28 : decode cX8_back 28 = .ok (.getfield 37, 3) := by decide +kernel
theorem dX8_back_31 : decode cX8_back 31 = .ok (.iload_n 1, 1) := by decide +kernel
theorem dX8_back_32 : decode cX8_back 32 = .ok (.aaload, 1) := by decide +kernel
theorem dX8_back_33 : decode cX8_back 33 = .ok (.invokevirtual 236, 3) := by decide +kernel
theorem dX8_back_36 : decode cX8_back 36 = .ok (.aload_n 0, 1) := by decide +kernel
theorem dX8_back_37 : decode cX8_back 37 = .ok (.getfield 33, 3) := by decide +kernel
theorem dX8_back_40 : decode cX8_back 40 = .ok (.iconst 0, 1) := by decide +kernel
theorem dX8_back_41 : decode cX8_back 41 = .ok (.putfield 109, 3) := by decide +kernel
theorem dX8_back_44 : decode cX8_back 44 = .ok (.aload_n 0, 1) := by decide +kernel
theorem dX8_back_45 : decode cX8_back 45 = .ok (.getfield 26, 3) := by decide +kernel
theorem dX8_back_48 : decode cX8_back 48 = .ok (.getfield 132, 3) := by decide +kernel
theorem dX8_back_51 : decode cX8_back 51 = .ok (.ireturn, 1) := by decide +kernel
theorem dX8_count_0 : decode cX8_count 0 = .ok (.iload_n 1, 1) := by decide +kernel
theorem dX8_count_1 : decode cX8_count 1 = .ok (.tableswitch 87 0 5 #[39, 47, 55, 63, 71, 79], 39) := by decide +kernel
theorem dX8_count_40 : decode cX8_count 40 = .ok (.aload_n 0, 1) := by decide +kernel
theorem dX8_count_41 : decode cX8_count 41 = .ok (.getfield 12, 3) := by decide +kernel
theorem dX8_count_44 : decode cX8_count 44 = .ok (.getfield 179, 3) := by decide +kernel
theorem dX8_count_47 : decode cX8_count 47 = .ok (.ireturn, 1) := by decide +kernel
theorem dX8_count_48 : decode cX8_count 48 = .ok (.aload_n 0, 1) := by decide +kernel
theorem dX8_count_49 : decode cX8_count 49 = .ok (.getfield 12, 3) := by decide +kernel
theorem dX8_count_52 : decode cX8_count 52 = .ok (.getfield 238, 3) := by decide +kernel
theorem dX8_count_55 : decode cX8_count 55 = .ok (.ireturn, 1) := by decide +kernel
theorem dX8_count_56 : decode cX8_count 56 = .ok (.aload_n 0, 1) := by decide +kernel
theorem dX8_count_57 : decode cX8_count 57 = .ok (.getfield 12, 3) := by decide +kernel
theorem dX8_count_60 : decode cX8_count 60 = .ok (.getfield 241, 3) := by decide +kernel
theorem dX8_count_63 : decode cX8_count 63 = .ok (.ireturn, 1) := by decide +kernel
theorem dX8_count_64 : decode cX8_count 64 = .ok (.aload_n 0, 1) := by decide +kernel
theorem dX8_count_65 : decode cX8_count 65 = .ok (.getfield 12, 3) := by decide +kernel
theorem dX8_count_68 : decode cX8_count 68 = .ok (.getfield 244, 3) := by decide +kernel
theorem dX8_count_71 : decode cX8_count 71 = .ok (.ireturn, 1) := by decide +kernel
theorem dX8_count_72 : decode cX8_count 72 = .ok (.aload_n 0, 1) := by decide +kernel
theorem dX8_count_73 : decode cX8_count 73 = .ok (.getfield 66, 3) := by decide +kernel
theorem dX8_count_76 : decode cX8_count 76 = .ok (.getfield 112, 3) := by decide +kernel
theorem dX8_count_79 : decode cX8_count 79 = .ok (.ireturn, 1) := by decide +kernel
theorem dX8_count_80 : decode cX8_count 80 = .ok (.aload_n 0, 1) := by decide +kernel
theorem dX8_count_81 : decode cX8_count 81 = .ok (.getfield 19, 3) := by decide +kernel
theorem dX8_count_84 : decode cX8_count 84 = .ok (.getfield 89, 3) := by decide +kernel
theorem dX8_count_87 : decode cX8_count 87 = .ok (.ireturn, 1) := by decide +kernel
theorem dX8_count_88 : decode cX8_count 88 = .ok (.iconst (-1), 1) := by decide +kernel
theorem dX8_count_89 : decode cX8_count 89 = .ok (.ireturn, 1) := by decide +kernel
theorem dX8_trace_0 : decode cX8_trace 0 = .ok (.aload_n 0, 1) := by decide +kernel
theorem dX8_trace_1 : decode cX8_trace 1 = .ok (.getfield 77, 3) := by decide +kernel
theorem dX8_trace_4 : decode cX8_trace 4 = .ok (.lreturn, 1) := by decide +kernel
theorem dX8_within_0 : decode cX8_within 0 = .ok (.iload_n 0, 1) := by decide +kernel
theorem dX8_within_1 : decode cX8_within 1 = .ok (.iload_n 1, 1) := by decide +kernel
theorem dX8_within_2 : decode cX8_within 2 = .ok (.if_icmp .lt 12, 3) := by decide +kernel
theorem dX8_within_5 : decode cX8_within 5 = .ok (.iload_n 0, 1) := by decide +kernel
theorem dX8_within_6 : decode cX8_within 6 = .ok (.iload_n 2, 1) := by decide +kernel
theorem dX8_within_7 : decode cX8_within 7 = .ok (.if_icmp .gt 7, 3) := by decide +kernel
theorem dX8_within_10 : decode cX8_within 10 = .ok (.iconst 1, 1) := by decide +kernel
theorem dX8_within_11 : decode cX8_within 11 = .ok (.goto 4, 3) := by decide +kernel
theorem dX8_within_14 : decode cX8_within 14 = .ok (.iconst 0, 1) := by decide +kernel
theorem dX8_within_15 : decode cX8_within 15 = .ok (.ireturn, 1) := by decide +kernel
theorem dX8_asVigour_0 : decode cX8_asVigour 0 = .ok (.iload_n 0, 1) := by decide +kernel
theorem dX8_asVigour_1 : decode cX8_asVigour 1 = .ok (.ifCond .ge 5, 3) := by decide +kernel
theorem dX8_asVigour_4 : decode cX8_asVigour 4 = .ok (.iconst 0, 1) := by decide +kernel
theorem dX8_asVigour_5 : decode cX8_asVigour 5 = .ok (.ireturn, 1) := by decide +kernel
theorem dX8_asVigour_6 : decode cX8_asVigour 6 = .ok (.iload_n 0, 1) := by decide +kernel
theorem dX8_asVigour_7 : decode cX8_asVigour 7 = .ok (.bipush 99, 2) := by decide +kernel
theorem dX8_asVigour_9 : decode cX8_asVigour 9 = .ok (.if_icmp .le 8, 3) := by decide +kernel
theorem dX8_asVigour_12 : decode cX8_asVigour 12 = .ok (.bipush 99, 2) := by decide +kernel
theorem dX8_asVigour_14 : decode cX8_asVigour 14 = .ok (.goto 4, 3) := by decide +kernel
theorem dX8_asVigour_17 : decode cX8_asVigour 17 = .ok (.iload_n 0, 1) := by decide +kernel
theorem dX8_asVigour_18 : decode cX8_asVigour 18 = .ok (.ireturn, 1) := by decide +kernel
theorem dX8_tenTimes_0 : decode cX8_tenTimes 0 = .ok (.bipush 10, 2) := by decide +kernel
theorem dX8_tenTimes_2 : decode cX8_tenTimes 2 = .ok (.iload_n 0, 1) := by decide +kernel
theorem dX8_tenTimes_3 : decode cX8_tenTimes 3 = .ok (.imul, 1) := by decide +kernel
theorem dX8_tenTimes_4 : decode cX8_tenTimes 4 = .ok (.iload_n 1, 1) := by decide +kernel
theorem dX8_tenTimes_5 : decode cX8_tenTimes 5 = .ok (.iadd, 1) := by decide +kernel
theorem dX8_tenTimes_6 : decode cX8_tenTimes 6 = .ok (.ireturn, 1) := by decide +kernel
theorem dX8_runFrom_0 : decode cX8_runFrom 0 = .ok (.aload_n 0, 1) := by decide +kernel
theorem dX8_runFrom_1 : decode cX8_runFrom 1 = .ok (.getfield 50, 3) := by decide +kernel
theorem dX8_runFrom_4 : decode cX8_runFrom 4 = .ok (.aload_n 0, 1) := by decide +kernel
theorem dX8_runFrom_5 : decode cX8_runFrom 5 = .ok (.getfield 26, 3) := by decide +kernel
theorem dX8_runFrom_8 : decode cX8_runFrom 8 = .ok (.invokevirtual 157, 3) := by decide +kernel
theorem dX8_runFrom_11 : decode cX8_runFrom 11 = .ok (.aload_n 0, 1) := by decide +kernel
theorem dX8_runFrom_12 : decode cX8_runFrom 12 = .ok (.getfield 50, 3) := by decide +kernel
theorem dX8_runFrom_15 : decode cX8_runFrom 15 = .ok (.aload_n 0, 1) := by decide +kernel
theorem dX8_runFrom_16 : decode cX8_runFrom 16 = .ok (.getfield 26, 3) := by decide +kernel
theorem dX8_runFrom_19 : decode cX8_runFrom 19 = .ok (.getfield 132, 3) := by decide +kernel
theorem dX8_runFrom_22 : decode cX8_runFrom 22 = .ok (.iload_n 1, 1) := by decide +kernel
theorem dX8_runFrom_23 : decode cX8_runFrom 23 = .ok (.invokevirtual 247, 3) := by decide +kernel
theorem dX8_runFrom_26 : decode cX8_runFrom 26 = .ok (.ireturn, 1) := by decide +kernel
theorem dX8_runWithMat_0 : decode cX8_runWithMat 0 = .ok (.aload_n 0, 1) := by decide +kernel
theorem dX8_runWithMat_1 : decode cX8_runWithMat 1 = .ok (.getfield 50, 3) := by decide +kernel
theorem dX8_runWithMat_4 : decode cX8_runWithMat 4 = .ok (.aload_n 0, 1) := by decide +kernel
theorem dX8_runWithMat_5 : decode cX8_runWithMat 5 = .ok (.getfield 26, 3) := by decide +kernel
theorem dX8_runWithMat_8 : decode cX8_runWithMat 8 = .ok (.invokevirtual 157, 3) := by decide +kernel
theorem dX8_runWithMat_11 : decode cX8_runWithMat 11 = .ok (.aload_n 0, 1) := by decide +kernel
theorem dX8_runWithMat_12 : decode cX8_runWithMat 12 = .ok (.getfield 50, 3) := by decide +kernel
theorem dX8_runWithMat_15 : decode cX8_runWithMat 15 = .ok (.getfield 250, 3) := by decide +kernel
theorem dX8_runWithMat_18 : decode cX8_runWithMat 18 = .ok (.iload_n 1, 1) := by decide +kernel
theorem dX8_runWithMat_19 : decode cX8_runWithMat 19 = .ok (.iload_n 2, 1) := by decide +kernel
theorem dX8_runWithMat_20 : decode cX8_runWithMat 20 = .ok (.iastore, 1) := by decide +kernel
theorem dX8_runWithMat_21 : decode cX8_runWithMat 21 = .ok (.aload_n 0, 1) := by decide +kernel
theorem dX8_runWithMat_22 : decode cX8_runWithMat 22 = .ok (.getfield 50, 3) := by decide +kernel
theorem dX8_runWithMat_25 : decode cX8_runWithMat 25 = .ok (.aload_n 0, 1) := by decide +kernel
theorem dX8_runWithMat_26 : decode cX8_runWithMat 26 = .ok (.getfield 26, 3) := by decide +kernel
theorem dX8_runWithMat_29 : decode cX8_runWithMat 29 = .ok (.getfield 132, 3) := by decide +kernel
theorem dX8_runWithMat_32 : decode cX8_runWithMat 32 = .ok (.aload_n 0, 1) := by decide +kernel
theorem dX8_runWithMat_33 : decode cX8_runWithMat 33 = .ok (.getfield 26, 3) := by decide +kernel
theorem dX8_runWithMat_36 : decode cX8_runWithMat 36 = .ok (.getfield 135, 3) := by decide +kernel
theorem dX8_runWithMat_39 : decode cX8_runWithMat 39 = .ok (.invokevirtual 247, 3) := by decide +kernel
theorem dX8_runWithMat_42 : decode cX8_runWithMat 42 = .ok (.ireturn, 1) := by decide +kernel
theorem dX8_asCoil_0 : decode cX8_asCoil 0 = .ok (.aload_n 0, 1) := by decide +kernel
theorem dX8_asCoil_1 : decode cX8_asCoil 1 = .ok (.dup, 1) := by decide +kernel
theorem dX8_asCoil_2 : decode cX8_asCoil 2 = .ok (.getfield 77, 3) := by decide +kernel
theorem dX8_asCoil_5 : decode cX8_asCoil 5 = .ok (.lconst 1, 1) := by decide +kernel
theorem dX8_asCoil_6 : decode cX8_asCoil 6 = .ok (.ladd, 1) := by decide +kernel
theorem dX8_asCoil_7 : decode cX8_asCoil 7 = .ok (.putfield 77, 3) := by decide +kernel
theorem dX8_asCoil_10 : decode cX8_asCoil 10 = .ok (.aload_n 0, 1) := by decide +kernel
theorem dX8_asCoil_11 : decode cX8_asCoil 11 = .ok (.getfield 12, 3) := by decide +kernel
theorem dX8_asCoil_14 : decode cX8_asCoil 14 = .ok (.getfield 122, 3) := by decide +kernel
theorem dX8_asCoil_17 : decode cX8_asCoil 17 = .ok (.iload_n 1, 1) := by decide +kernel
theorem dX8_asCoil_18 : decode cX8_asCoil 18 = .ok (.iaload, 1) := by decide +kernel
theorem dX8_asCoil_19 : decode cX8_asCoil 19 = .ok (.ireturn, 1) := by decide +kernel
theorem dX8_asBrass_0 : decode cX8_asBrass 0 = .ok (.aload_n 0, 1) := by decide +kernel
theorem dX8_asBrass_1 : decode cX8_asBrass 1 = .ok (.dup, 1) := by decide +kernel
theorem dX8_asBrass_2 : decode cX8_asBrass 2 = .ok (.getfield 77, 3) := by decide +kernel
theorem dX8_asBrass_5 : decode cX8_asBrass 5 = .ok (.ldc2_w 251, 3) := by decide +kernel
theorem dX8_asBrass_8 : decode cX8_asBrass 8 = .ok (.ladd, 1) := by decide +kernel
theorem dX8_asBrass_9 : decode cX8_asBrass 9 = .ok (.putfield 77, 3) := by decide +kernel
theorem dX8_asBrass_12 : decode cX8_asBrass 12 = .ok (.aload_n 0, 1) := by decide +kernel
theorem dX8_asBrass_13 : decode cX8_asBrass 13 = .ok (.iload_n 1, 1) := by decide +kernel
theorem dX8_asBrass_14 : decode cX8_asBrass 14 = .ok (.invokevirtual 218, 3) := by decide +kernel
theorem dX8_asBrass_17 : decode cX8_asBrass 17 = .ok (.aload_n 0, 1) := by decide +kernel
theorem dX8_asBrass_18 : decode cX8_asBrass 18 = .ok (.getfield 12, 3) := by decide +kernel
theorem dX8_asBrass_21 : decode cX8_asBrass 21 = .ok (.getfield 126, 3) := by decide +kernel
theorem dX8_asBrass_24 : decode cX8_asBrass 24 = .ok (.iload_n 1, 1) := by decide +kernel
theorem dX8_asBrass_25 : decode cX8_asBrass 25 = .ok (.iaload, 1) := by decide +kernel
theorem dX8_asBrass_26 : decode cX8_asBrass 26 = .ok (.iadd, 1) := by decide +kernel
theorem dX8_asBrass_27 : decode cX8_asBrass 27 = .ok (.ireturn, 1) := by decide +kernel
theorem dX8_asPaper_0 : decode cX8_asPaper 0 = .ok (.aload_n 0, 1) := by decide +kernel
theorem dX8_asPaper_1 : decode cX8_asPaper 1 = .ok (.dup, 1) := by decide +kernel
theorem dX8_asPaper_2 : decode cX8_asPaper 2 = .ok (.getfield 77, 3) := by decide +kernel
theorem dX8_asPaper_5 : decode cX8_asPaper 5 = .ok (.ldc2_w 253, 3) := by decide +kernel
theorem dX8_asPaper_8 : decode cX8_asPaper 8 = .ok (.ladd, 1) := by decide +kernel
theorem dX8_asPaper_9 : decode cX8_asPaper 9 = .ok (.putfield 77, 3) := by decide +kernel
theorem dX8_asPaper_12 : decode cX8_asPaper 12 = .ok (.aload_n 0, 1) := by decide +kernel
theorem dX8_asPaper_13 : decode cX8_asPaper 13 = .ok (.iload_n 1, 1) := by decide +kernel
theorem dX8_asPaper_14 : decode cX8_asPaper 14 = .ok (.invokevirtual 218, 3) := by decide +kernel
theorem dX8_asPaper_17 : decode cX8_asPaper 17 = .ok (.iconst 2, 1) := by decide +kernel
theorem dX8_asPaper_18 : decode cX8_asPaper 18 = .ok (.aload_n 0, 1) := by decide +kernel
theorem dX8_asPaper_19 : decode cX8_asPaper 19 = .ok (.getfield 26, 3) := by decide +kernel
theorem dX8_asPaper_22 : decode cX8_asPaper 22 = .ok (.getfield 129, 3) := by decide +kernel
theorem dX8_asPaper_25 : decode cX8_asPaper 25 = .ok (.iload_n 1, 1) := by decide +kernel
theorem dX8_asPaper_26 : decode cX8_asPaper 26 = .ok (.iaload, 1) := by decide +kernel
theorem dX8_asPaper_27 : decode cX8_asPaper 27 = .ok (.imul, 1) := by decide +kernel
theorem dX8_asPaper_28 : decode cX8_asPaper 28 = .ok (.isub, 1) := by decide +kernel
theorem dX8_asPaper_29 : decode cX8_asPaper 29 = .ok (.ireturn, 1) := by decide +kernel
theorem dX8_asSilver_0 : decode cX8_asSilver 0 = .ok (.aload_n 0, 1) := by decide +kernel
theorem dX8_asSilver_1 : decode cX8_asSilver 1 = .ok (.dup, 1) := by decide +kernel
theorem dX8_asSilver_2 : decode cX8_asSilver 2 = .ok (.getfield 77, 3) := by decide +kernel
theorem dX8_asSilver_5 : decode cX8_asSilver 5 = .ok (.ldc2_w 255, 3) := by decide +kernel
theorem dX8_asSilver_8 : decode cX8_asSilver 8 = .ok (.ladd, 1) := by decide +kernel
theorem dX8_asSilver_9 : decode cX8_asSilver 9 = .ok (.putfield 77, 3) := by decide +kernel
theorem dX8_asSilver_12 : decode cX8_asSilver 12 = .ok (.iconst 2, 1) := by decide +kernel
theorem dX8_asSilver_13 : decode cX8_asSilver 13 = .ok (.aload_n 0, 1) := by decide +kernel
theorem dX8_asSilver_14 : decode cX8_asSilver 14 = .ok (.iload_n 1, 1) := by decide +kernel
theorem dX8_asSilver_15 : decode cX8_asSilver 15 = .ok (.invokevirtual 221, 3) := by decide +kernel
theorem dX8_asSilver_18 : decode cX8_asSilver 18 = .ok (.imul, 1) := by decide +kernel
theorem dX8_asSilver_19 : decode cX8_asSilver 19 = .ok (.ireturn, 1) := by decide +kernel
theorem dX8_asTwine_0 : decode cX8_asTwine 0 = .ok (.aload_n 0, 1) := by decide +kernel
theorem dX8_asTwine_1 : decode cX8_asTwine 1 = .ok (.dup, 1) := by decide +kernel
theorem dX8_asTwine_2 : decode cX8_asTwine 2 = .ok (.getfield 77, 3) := by decide +kernel
theorem dX8_asTwine_5 : decode cX8_asTwine 5 = .ok (.ldc2_w 257, 3) := by decide +kernel
theorem dX8_asTwine_8 : decode cX8_asTwine 8 = .ok (.ladd, 1) := by decide +kernel
theorem dX8_asTwine_9 : decode cX8_asTwine 9 = .ok (.putfield 77, 3) := by decide +kernel
theorem dX8_asTwine_12 : decode cX8_asTwine 12 = .ok (.aload_n 0, 1) := by decide +kernel
theorem dX8_asTwine_13 : decode cX8_asTwine 13 = .ok (.iload_n 1, 1) := by decide +kernel
theorem dX8_asTwine_14 : decode cX8_asTwine 14 = .ok (.invokevirtual 224, 3) := by decide +kernel
theorem dX8_asTwine_17 : decode cX8_asTwine 17 = .ok (.iload_n 1, 1) := by decide +kernel
theorem dX8_asTwine_18 : decode cX8_asTwine 18 = .ok (.iadd, 1) := by decide +kernel
theorem dX8_asTwine_19 : decode cX8_asTwine 19 = .ok (.ireturn, 1) := by decide +kernel
theorem dX8_asLead_0 : decode cX8_asLead 0 = .ok (.aload_n 0, 1) := by decide +kernel
theorem dX8_asLead_1 : decode cX8_asLead 1 = .ok (.dup, 1) := by decide +kernel
theorem dX8_asLead_2 : decode cX8_asLead 2 = .ok (.getfield 77, 3) := by decide +kernel
theorem dX8_asLead_5 : decode cX8_asLead 5 = .ok (.ldc2_w 259, 3) := by decide +kernel
theorem dX8_asLead_8 : decode cX8_asLead 8 = .ok (.ladd, 1) := by decide +kernel
theorem dX8_asLead_9 : decode cX8_asLead 9 = .ok (.putfield 77, 3) := by decide +kernel
theorem dX8_asLead_12 : decode cX8_asLead 12 = .ok (.aload_n 0, 1) := by decide +kernel
theorem dX8_asLead_13 : decode cX8_asLead 13 = .ok (.iload_n 1, 1) := by decide +kernel
theorem dX8_asLead_14 : decode cX8_asLead 14 = .ok (.invokevirtual 218, 3) := by decide +kernel
theorem dX8_asLead_17 : decode cX8_asLead 17 = .ok (.aload_n 0, 1) := by decide +kernel
theorem dX8_asLead_18 : decode cX8_asLead 18 = .ok (.getfield 26, 3) := by decide +kernel
theorem dX8_asLead_21 : decode cX8_asLead 21 = .ok (.getfield 135, 3) := by decide +kernel
theorem dX8_asLead_24 : decode cX8_asLead 24 = .ok (.iadd, 1) := by decide +kernel
theorem dX8_asLead_25 : decode cX8_asLead 25 = .ok (.ireturn, 1) := by decide +kernel
theorem dX9_init_0 : decode cX9_init 0 = .ok (.aload_n 0, 1) := by decide +kernel
theorem dX9_init_1 : decode cX9_init 1 = .ok (.invokespecial 1, 3) := by decide +kernel
theorem dX9_init_4 : decode cX9_init 4 = .ok (.aload_n 0, 1) := by decide +kernel
theorem dX9_init_5 : decode cX9_init 5 = .ok (.sipush 168, 3) := by decide +kernel
theorem dX9_init_8 : decode cX9_init 8 = .ok (.newarray .int, 2) := by decide +kernel
theorem dX9_init_10 : decode cX9_init 10 = .ok (.putfield 7, 3) := by decide +kernel
theorem dX9_init_13 : decode cX9_init 13 = .ok (.aload_n 0, 1) := by decide +kernel
theorem dX9_init_14 : decode cX9_init 14 = .ok (.iconst 4, 1) := by decide +kernel
theorem dX9_init_15 : decode cX9_init 15 = .ok (.putfield 13, 3) := by decide +kernel
theorem dX9_init_18 : decode cX9_init 18 = .ok (.aload_n 0, 1) := by decide +kernel
theorem dX9_init_19 : decode cX9_init 19 = .ok (.iconst 3, 1) := by decide +kernel
theorem dX9_init_20 : decode cX9_init 20 = .ok (.putfield 17, 3) := by decide +kernel
theorem dX9_init_23 : decode cX9_init 23 = .ok (.aload_n 0, 1) := by decide +kernel
theorem dX9_init_24 : decode cX9_init 24 = .ok (.iconst 1, 1) := by decide +kernel
theorem dX9_init_25 : decode cX9_init 25 = .ok (.putfield 20, 3) := by decide +kernel
theorem dX9_init_28 : decode cX9_init 28 = .ok (.aload_n 0, 1) := by decide +kernel
theorem dX9_init_29 : decode cX9_init 29 = .ok (.bipush 9, 2) := by decide +kernel
theorem dX9_init_31 : decode cX9_init 31 = .ok (.newarray .int, 2) := by decide +kernel
theorem dX9_init_33 : decode cX9_init 33 = .ok (.putfield 23, 3) := by decide +kernel
theorem dX9_init_36 : decode cX9_init 36 = .ok (.aload_n 0, 1) := by decide +kernel
theorem dX9_init_37 : decode cX9_init 37 = .ok (.bipush 9, 2) := by decide +kernel
theorem dX9_init_39 : decode cX9_init 39 = .ok (.newarray .int, 2) := by decide +kernel
theorem dX9_init_41 : decode cX9_init 41 = .ok (.putfield 26, 3) := by decide +kernel
theorem dX9_init_44 : decode cX9_init 44 = .ok (.aload_n 0, 1) := by decide +kernel
theorem dX9_init_45 : decode cX9_init 45 = .ok (.iconst 2, 1) := by decide +kernel
theorem dX9_init_46 : decode cX9_init 46 = .ok (.newarray .boolean, 2) := by decide +kernel
theorem dX9_init_48 : decode cX9_init 48 = .ok (.putfield 29, 3) := by decide +kernel
theorem dX9_init_51 : decode cX9_init 51 = .ok (.aload_n 0, 1) := by decide +kernel
theorem dX9_init_52 : decode cX9_init 52 = .ok (.bipush 100, 2) := by decide +kernel
theorem dX9_init_54 : decode cX9_init 54 = .ok (.newarray .int, 2) := by decide +kernel
theorem dX9_init_56 : decode cX9_init 56 = .ok (.putfield 33, 3) := by decide +kernel
theorem dX9_init_59 : decode cX9_init 59 = .ok (.aload_n 0, 1) := by decide +kernel
theorem dX9_init_60 : decode cX9_init 60 = .ok (.bipush 6, 2) := by decide +kernel
theorem dX9_init_62 : decode cX9_init 62 = .ok (.newarray .int, 2) := by decide +kernel
theorem dX9_init_64 : decode cX9_init 64 = .ok (.putfield 36, 3) := by decide +kernel
theorem dX9_init_67 : decode cX9_init 67 = .ok (.aload_n 0, 1) := by decide +kernel
theorem dX9_init_68 : decode cX9_init 68 = .ok (.bipush 6, 2) := by decide +kernel
theorem dX9_init_70 : decode cX9_init 70 = .ok (.newarray .int, 2) := by decide +kernel
theorem dX9_init_72 : decode cX9_init 72 = .ok (.putfield 39, 3) := by decide +kernel
theorem dX9_init_75 : decode cX9_init 75 = .ok (.aload_n 0, 1) := by decide +kernel
theorem dX9_init_76 : decode cX9_init 76 = .ok (.bipush 6, 2) := by decide +kernel
theorem dX9_init_78 : decode cX9_init 78 = .ok (.newarray .int, 2) := by decide +kernel
theorem dX9_init_80 : decode cX9_init 80 = .ok (.putfield 42, 3) := by decide +kernel
theorem dX9_init_83 : decode cX9_init 83 = .ok (.aload_n 0, 1) := by decide +kernel
theorem dX9_init_84 : decode cX9_init 84 = .ok (.bipush 9, 2) := by decide +kernel
theorem dX9_init_86 : decode cX9_init 86 = .ok (.newarray .int, 2) := by decide +kernel
theorem dX9_init_88 : decode cX9_init 88 = .ok (.putfield 45, 3) := by decide +kernel
theorem dX9_init_91 : decode cX9_init 91 = .ok (.aload_n 0, 1) := by decide +kernel
theorem dX9_init_92 : decode cX9_init 92 = .ok (.bipush 9, 2) := by decide +kernel
theorem dX9_init_94 : decode cX9_init 94 = .ok (.newarray .int, 2) := by decide +kernel
theorem dX9_init_96 : decode cX9_init 96 = .ok (.putfield 48, 3) := by decide +kernel
theorem dX9_init_99 : decode cX9_init 99 = .ok (.aload_n 0, 1) := by decide +kernel
theorem dX9_init_100 : decode cX9_init 100 = .ok (.bipush 9, 2) := by decide +kernel
theorem dX9_init_102 : decode cX9_init 102 = .ok (.newarray .int, 2) := by decide +kernel
theorem dX9_init_104 : decode cX9_init 104 = .ok (.putfield 51, 3) := by decide +kernel
theorem dX9_init_107 : decode cX9_init 107 = .ok (.aload_n 0, 1) := by decide +kernel
theorem dX9_init_108 : decode cX9_init 108 = .ok (.iconst 3, 1) := by decide +kernel
theorem dX9_init_109 : decode cX9_init 109 = .ok (.newarray .int, 2) := by decide +kernel
theorem dX9_init_111 : decode cX9_init 111 = .ok (.putfield 54, 3) := by decide +kernel
theorem dX9_init_114 : decode cX9_init 114 = .ok (.aload_n 0, 1) := by decide +kernel
theorem dX9_init_115 : decode cX9_init 115 = .ok (.sipush 1000, 3) := by decide +kernel
theorem dX9_init_118 : decode cX9_init 118 = .ok (.newarray .int, 2) := by decide +kernel
theorem dX9_init_120 : decode cX9_init 120 = .ok (.putfield 57, 3) := by decide +kernel
theorem dX9_init_123 : decode cX9_init 123 = .ok (.aload_n 0, 1) := by decide +kernel
theorem dX9_init_124 : decode cX9_init 124 = .ok (.bipush 36, 2) := by decide +kernel
theorem dX9_init_126 : decode cX9_init 126 = .ok (.newarray .int, 2) := by decide +kernel
theorem dX9_init_128 : decode cX9_init 128 = .ok (.putfield 60, 3) := by decide +kernel
theorem dX9_init_131 : decode cX9_init 131 = .ok (.aload_n 0, 1) := by decide +kernel
theorem dX9_init_132 : decode cX9_init 132 = .ok (.bipush 10, 2) := by decide +kernel
theorem dX9_init_134 : decode cX9_init 134 = .ok (.newarray .int, 2) := by decide +kernel
theorem dX9_init_136 : decode cX9_init 136 = .ok (.putfield 63, 3) := by decide +kernel
theorem dX9_init_139 : decode cX9_init 139 = .ok (.return_, 1) := by decide +kernel
theorem dX9_in_0 : decode cX9_in 0 = .ok (.iload_n 0, 1) := by decide +kernel
theorem dX9_in_1 : decode cX9_in 1 = .ok (.iload_n 1, 1) := by decide +kernel
theorem dX9_in_2 : decode cX9_in 2 = .ok (.if_icmp .lt 12, 3) := by decide +kernel
theorem dX9_in_5 : decode cX9_in 5 = .ok (.iload_n 0, 1) := by decide +kernel
theorem dX9_in_6 : decode cX9_in 6 = .ok (.iload_n 2, 1) := by decide +kernel
theorem dX9_in_7 : decode cX9_in 7 = .ok (.if_icmp .gt 7, 3) := by decide +kernel
theorem dX9_in_10 : decode cX9_in 10 = .ok (.iconst 1, 1) := by decide +kernel
theorem dX9_in_11 : decode cX9_in 11 = .ok (.goto 4, 3) := by decide +kernel
theorem dX9_in_14 : decode cX9_in 14 = .ok (.iconst 0, 1) := by decide +kernel
theorem dX9_in_15 : decode cX9_in 15 = .ok (.ireturn, 1) := by decide +kernel
theorem dX9_copyRow_0 : decode cX9_copyRow 0 = .ok (.iconst 0, 1) := by decide +kernel
theorem dX9_copyRow_1 : decode cX9_copyRow 1 = .ok (.istore_n 3, 1) := by decide +kernel
theorem dX9_copyRow_2 : decode cX9_copyRow 2 = .ok (.iload_n 3, 1) := by decide +kernel
theorem dX9_copyRow_3 : decode cX9_copyRow 3 = .ok (.bipush 12, 2) := by decide +kernel
theorem dX9_copyRow_5 : decode cX9_copyRow 5 = .ok (.if_icmp .ge 25, 3) := by decide +kernel
theorem dX9_copyRow_8 : decode cX9_copyRow 8 = .ok (.aload_n 0, 1) := by decide +kernel
theorem dX9_copyRow_9 : decode cX9_copyRow 9 = .ok (.getfield 7, 3) := by decide +kernel
theorem dX9_copyRow_12 : decode cX9_copyRow 12 = .ok (.iload_n 2, 1) := by decide +kernel
theorem dX9_copyRow_13 : decode cX9_copyRow 13 = .ok (.iload_n 3, 1) := by decide +kernel
theorem dX9_copyRow_14 : decode cX9_copyRow 14 = .ok (.iadd, 1) := by decide +kernel
theorem dX9_copyRow_15 : decode cX9_copyRow 15 = .ok (.aload_n 0, 1) := by decide +kernel
theorem dX9_copyRow_16 : decode cX9_copyRow 16 = .ok (.getfield 7, 3) := by decide +kernel
theorem dX9_copyRow_19 : decode cX9_copyRow 19 = .ok (.iload_n 1, 1) := by decide +kernel
theorem dX9_copyRow_20 : decode cX9_copyRow 20 = .ok (.iload_n 3, 1) := by decide +kernel
theorem dX9_copyRow_21 : decode cX9_copyRow 21 = .ok (.iadd, 1) := by decide +kernel
theorem dX9_copyRow_22 : decode cX9_copyRow 22 = .ok (.iaload, 1) := by decide +kernel
theorem dX9_copyRow_23 : decode cX9_copyRow 23 = .ok (.iastore, 1) := by decide +kernel
theorem dX9_copyRow_24 : decode cX9_copyRow 24 = .ok (.iinc 3 1, 3) := by decide +kernel
theorem dX9_copyRow_27 : decode cX9_copyRow 27 = .ok (.goto (-25), 3) := by decide +kernel
theorem dX9_copyRow_30 : decode cX9_copyRow 30 = .ok (.return_, 1) := by decide +kernel
theorem dX9_isStep_0 : decode cX9_isStep 0 = .ok (.iload_n 1, 1) := by decide +kernel
theorem dX9_isStep_1 : decode cX9_isStep 1 = .ok (.iconst 0, 1) := by decide +kernel
theorem dX9_isStep_2 : decode cX9_isStep 2 = .ok (.aload_n 0, 1) := by decide +kernel
theorem dX9_isStep_3 : decode cX9_isStep 3 = .ok (.getfield 66, 3) := by decide +kernel
theorem dX9_isStep_6 : decode cX9_isStep 6 = .ok (.iconst 1, 1) := by decide +kernel
theorem dX9_isStep_7 : decode cX9_isStep 7 = .ok (.isub, 1) := by decide +kernel
theorem dX9_isStep_8 : decode cX9_isStep 8 = .ok (.invokestatic 69, 3) := by decide +kernel
theorem dX9_isStep_11 : decode cX9_isStep 11 = .ok (.ireturn, 1) := by decide +kernel
theorem dX9_type_0 : decode cX9_type 0 = .ok (.iload_n 1, 1) := by decide +kernel
theorem dX9_type_1 : decode cX9_type 1 = .ok (.iconst 0, 1) := by decide +kernel
theorem dX9_type_2 : decode cX9_type 2 = .ok (.sipush 255, 3) := by decide +kernel
theorem dX9_type_5 : decode cX9_type 5 = .ok (.invokestatic 69, 3) := by decide +kernel
theorem dX9_type_8 : decode cX9_type 8 = .ok (.ifCond .ne 5, 3) := by decide +kernel
theorem dX9_type_11 : decode cX9_type 11 = .ok (.iconst (-1), 1) := by decide +kernel
theorem dX9_type_12 : decode cX9_type 12 = .ok (.ireturn, 1) := by decide +kernel
theorem dX9_type_13 : decode cX9_type 13 = .ok (.aload_n 0, 1) := by decide +kernel
theorem dX9_type_14 : decode cX9_type 14 = .ok (.getfield 73, 3) := by decide +kernel
theorem dX9_type_17 : decode cX9_type 17 = .ok (.bipush 100, 2) := by decide +kernel
theorem dX9_type_19 : decode cX9_type 19 = .ok (.if_icmp .ne 6, 3) := by decide +kernel
theorem dX9_type_22 : decode cX9_type 22 = .ok (.bipush (-3), 2) := by decide +kernel
theorem dX9_type_24 : decode cX9_type 24 = .ok (.ireturn, 1) := by decide +kernel
theorem dX9_type_25 : decode cX9_type 25 = .ok (.aload_n 0, 1) := by decide +kernel
theorem dX9_type_26 : decode cX9_type 26 = .ok (.getfield 33, 3) := by decide +kernel
theorem dX9_type_29 : decode cX9_type 29 = .ok (.aload_n 0, 1) := by decide +kernel
theorem dX9_type_30 : decode cX9_type 30 = .ok (.getfield 73, 3) := by decide +kernel
theorem dX9_type_33 : decode cX9_type 33 = .ok (.iload_n 1, 1) := by decide +kernel
theorem dX9_type_34 : decode cX9_type 34 = .ok (.iastore, 1) := by decide +kernel
theorem dX9_type_35 : decode cX9_type 35 = .ok (.aload_n 0, 1) := by decide +kernel
theorem dX9_type_36 : decode cX9_type 36 = .ok (.dup, 1) := by decide +kernel
theorem dX9_type_37 : decode cX9_type 37 = .ok (.getfield 73, 3) := by decide +kernel
theorem dX9_type_40 : decode cX9_type 40 = .ok (.iconst 1, 1) := by decide +kernel
theorem dX9_type_41 : decode cX9_type 41 = .ok (.iadd, 1) := by decide +kernel
theorem dX9_type_42 : decode cX9_type 42 = .ok (.putfield 73, 3) := by decide +kernel
theorem dX9_type_45 : decode cX9_type 45 = .ok (.aload_n 0, 1) := by decide +kernel
theorem dX9_type_46 : decode cX9_type 46 = .ok (.getfield 73, 3) := by decide +kernel
theorem dX9_type_49 : decode cX9_type 49 = .ok (.ireturn, 1) := by decide +kernel
theorem dX9_clear_0 : decode cX9_clear 0 = .ok (.aload_n 0, 1) := by decide +kernel
theorem dX9_clear_1 : decode cX9_clear 1 = .ok (.getfield 73, 3) := by decide +kernel
theorem dX9_clear_4 : decode cX9_clear 4 = .ok (.istore_n 1, 1) := by decide +kernel
theorem dX9_clear_5 : decode cX9_clear 5 = .ok (.aload_n 0, 1) := by decide +kernel
theorem dX9_clear_6 : decode cX9_clear 6 = .ok (.iconst 0, 1) := by decide +kernel
theorem dX9_clear_7 : decode cX9_clear 7 = .ok (.putfield 73, 3) := by decide +kernel
theorem dX9_clear_10 : decode cX9_clear 10 = .ok (.iload_n 1, 1) := by decide +kernel
theorem dX9_clear_11 : decode cX9_clear 11 = .ok (.ireturn, 1) := by decide +kernel
theorem dX9_isFigure_0 : decode cX9_isFigure 0 = .ok (.iload_n 1, 1) := by decide +kernel
theorem dX9_isFigure_1 : decode cX9_isFigure 1 = .ok (.aload_n 0, 1) := by decide +kernel
theorem dX9_isFigure_2 : decode cX9_isFigure 2 = .ok (.getfield 73, 3) := by decide +kernel
theorem dX9_isFigure_5 : decode cX9_isFigure 5 = .ok (.if_icmp .ge 23, 3) := by decide +kernel
theorem dX9_isFigure_8 : decode cX9_isFigure 8 = .ok (.aload_n 0, 1) := by decide +kernel
theorem dX9_isFigure_9 : decode cX9_isFigure 9 = .ok (.getfield 33, 3) := by decide +kernel
theorem dX9_isFigure_12 : decode cX9_isFigure 12 = .ok (.iload_n 1, 1) := by decide +kernel
theorem dX9_isFigure_13 : decode cX9_isFigure 13 = .ok (.iaload, 1) := by decide +kernel
theorem dX9_isFigure_14 : decode cX9_isFigure 14 = .ok (.bipush 48, 2) := by decide +kernel
theorem dX9_isFigure_16 : decode cX9_isFigure 16 = .ok (.bipush 57, 2) := by decide +kernel
theorem dX9_isFigure_18 : decode cX9_isFigure 18 = .ok (.invokestatic 69, 3) := by decide +kernel
theorem dX9_isFigure_21 : decode cX9_isFigure 21 = .ok (.ifCond .eq 7, 3) := by decide +kernel
theorem dX9_isFigure_24 : decode cX9_isFigure 24 = .ok (.iconst 1, 1) := by decide +kernel
theorem dX9_isFigure_25 : decode cX9_isFigure 25 = .ok (.goto 4, 3) := by decide +kernel
theorem dX9_isFigure_28 : decode cX9_isFigure 28 = .ok (.iconst 0, 1) := by decide +kernel
theorem dX9_isFigure_29 : decode cX9_isFigure 29 = .ok (.ireturn, 1) := by decide +kernel
theorem dX9_nextToken_0 : decode cX9_nextToken 0 = .ok (.aload_n 0, 1) := by decide +kernel
theorem dX9_nextToken_1 : decode cX9_nextToken 1 = .ok (.aload_n 0, 1) := by decide +kernel
theorem dX9_nextToken_2 : decode cX9_nextToken 2 = .ok (.getfield 76, 3) := by decide +kernel
theorem dX9_nextToken_5 : decode cX9_nextToken 5 = .ok (.putfield 79, 3) := by decide +kernel
theorem dX9_nextToken_8 : decode cX9_nextToken 8 = .ok (.aload_n 0, 1) := by decide +kernel
theorem dX9_nextToken_9 : decode cX9_nextToken 9 = .ok (.getfield 79, 3) := by decide +kernel
theorem dX9_nextToken_12 : decode cX9_nextToken 12 = .ok (.aload_n 0, 1) := by decide +kernel
theorem dX9_nextToken_13 : decode cX9_nextToken 13 = .ok (.getfield 73, 3) := by decide +kernel
theorem dX9_nextToken_16 : decode cX9_nextToken 16 = .ok (.if_icmp .ge 30, 3) := by decide +kernel
theorem dX9_nextToken_19 : decode cX9_nextToken 19 = .ok (.aload_n 0, 1) := by decide +kernel
theorem dX9_nextToken_20 : decode cX9_nextToken 20 = .ok (.getfield 33, 3) := by decide +kernel
theorem dX9_nextToken_23 : decode cX9_nextToken 23 = .ok (.aload_n 0, 1) := by decide +kernel
theorem dX9_nextToken_24 : decode cX9_nextToken 24 = .ok (.getfield 79, 3) := by decide +kernel
theorem dX9_nextToken_27 : decode cX9_nextToken 27 = .ok (.iaload, 1) := by decide +kernel
theorem dX9_nextToken_28 : decode cX9_nextToken 28 = .ok (.bipush 32, 2) := by decide +kernel
theorem dX9_nextToken_30 : decode cX9_nextToken 30 = .ok (.if_icmp .ne 16, 3) := by decide +kernel
theorem dX9_nextToken_33 : decode cX9_nextToken 33 = .ok (.aload_n 0, 1) := by decide +kernel
theorem dX9_nextToken_34 : decode cX9_nextToken 34 = .ok (.dup, 1) := by decide +kernel
theorem dX9_nextToken_35 : decode cX9_nextToken 35 = .ok (.getfield 79, 3) := by decide +kernel
theorem dX9_nextToken_38 : decode cX9_nextToken 38 = .ok (.iconst 1, 1) := by decide +kernel
theorem dX9_nextToken_39 : decode cX9_nextToken 39 = .ok (.iadd, 1) := by decide +kernel
theorem dX9_nextToken_40 : decode cX9_nextToken 40 = .ok (.putfield 79, 3) := by decide +kernel
theorem dX9_nextToken_43 : decode cX9_nextToken 43 = .ok (.goto (-35), 3) := by decide +kernel
theorem dX9_nextToken_46 : decode cX9_nextToken 46 = .ok (.aload_n 0, 1) := by decide +kernel
theorem dX9_nextToken_47 : decode cX9_nextToken 47 = .ok (.aload_n 0, 1) := by decide +kernel
theorem dX9_nextToken_48 : decode cX9_nextToken 48 = .ok (.getfield 79, 3) := by decide +kernel
theorem dX9_nextToken_51 : decode cX9_nextToken 51 = .ok (.aload_n 0, 1) := by decide +kernel
theorem dX9_nextToken_52 : decode cX9_nextToken 52 = .ok (.getfield 73, 3) := by decide +kernel
theorem dX9_nextToken_55 : decode cX9_nextToken 55 = .ok (.if_icmp .ge 12, 3) := by decide +kernel
theorem dX9_nextToken_58 : decode cX9_nextToken 58 = .ok (.aload_n 0, 1) := by decide +kernel
theorem dX9_nextToken_59 : decode cX9_nextToken 59 = .ok (.getfield 79, 3) := by decide +kernel
theorem dX9_nextToken_62 : decode cX9_nextToken 62 = .ok (.iconst 1, 1) := by decide +kernel
theorem dX9_nextToken_63 : decode cX9_nextToken 63 = .ok (.iadd, 1) := by decide +kernel
theorem dX9_nextToken_64 : decode cX9_nextToken 64 = .ok (.goto 7, 3) := by decide +kernel
theorem dX9_nextToken_67 : decode cX9_nextToken 67 = .ok (.aload_n 0, 1) := by decide +kernel
theorem dX9_nextToken_68 : decode cX9_nextToken 68 = .ok (.getfield 79, 3) := by decide +kernel
theorem dX9_nextToken_71 : decode cX9_nextToken 71 = .ok (.putfield 76, 3) := by decide +kernel
theorem dX9_nextToken_74 : decode cX9_nextToken 74 = .ok (.aload_n 0, 1) := by decide +kernel
theorem dX9_nextToken_75 : decode cX9_nextToken 75 = .ok (.aload_n 0, 1) := by decide +kernel
theorem dX9_nextToken_76 : decode cX9_nextToken 76 = .ok (.getfield 79, 3) := by decide +kernel
theorem dX9_nextToken_79 : decode cX9_nextToken 79 = .ok (.invokevirtual 82, 3) := by decide +kernel
theorem dX9_nextToken_82 : decode cX9_nextToken 82 = .ok (.ifCond .eq 27, 3) := by decide +kernel
theorem dX9_nextToken_85 : decode cX9_nextToken 85 = .ok (.aload_n 0, 1) := by decide +kernel
theorem dX9_nextToken_86 : decode cX9_nextToken 86 = .ok (.aload_n 0, 1) := by decide +kernel
theorem dX9_nextToken_87 : decode cX9_nextToken 87 = .ok (.getfield 76, 3) := by decide +kernel
theorem dX9_nextToken_90 : decode cX9_nextToken 90 = .ok (.invokevirtual 82, 3) := by decide +kernel
theorem dX9_nextToken_93 : decode cX9_nextToken 93 = .ok (.ifCond .eq 16, 3) := by decide +kernel
theorem dX9_nextToken_96 : decode cX9_nextToken 96 = .ok (.aload_n 0, 1) := by decide +kernel
theorem dX9_nextToken_97 : decode cX9_nextToken 97 = .ok (.dup, 1) := by decide +kernel
theorem dX9_nextToken_98 : decode cX9_nextToken 98 = .ok (.getfield 76, 3) := by decide +kernel
theorem dX9_nextToken_101 : decode cX9_nextToken 101 = .ok (.iconst 1, 1) := by decide +kernel
theorem dX9_nextToken_102 : decode cX9_nextToken 102 = .ok (.iadd, 1) := by decide +kernel
theorem dX9_nextToken_103 : decode cX9_nextToken 103 = .ok (.putfield 76, 3) := by decide +kernel
theorem dX9_nextToken_106 : decode cX9_nextToken 106 = .ok (.goto (-32), 3) := by decide +kernel
theorem dX9_nextToken_109 : decode cX9_nextToken 109 = .ok (.return_, 1) := by decide +kernel
theorem dX9_isSign_0 : decode cX9_isSign 0 = .ok (.aload_n 0, 1) := by decide +kernel
theorem dX9_isSign_1 : decode cX9_isSign 1 = .ok (.getfield 79, 3) := by decide +kernel
theorem dX9_isSign_4 : decode cX9_isSign 4 = .ok (.aload_n 0, 1) := by decide +kernel
theorem dX9_isSign_5 : decode cX9_isSign 5 = .ok (.getfield 73, 3) := by decide +kernel
theorem dX9_isSign_8 : decode cX9_isSign 8 = .ok (.if_icmp .ge 20, 3) := by decide +kernel
theorem dX9_isSign_11 : decode cX9_isSign 11 = .ok (.aload_n 0, 1) := by decide +kernel
theorem dX9_isSign_12 : decode cX9_isSign 12 = .ok (.getfield 33, 3) := by decide +kernel
theorem dX9_isSign_15 : decode cX9_isSign 15 = .ok (.aload_n 0, 1) := by decide +kernel
theorem dX9_isSign_16 : decode cX9_isSign 16 = .ok (.getfield 79, 3) := by decide +kernel
theorem dX9_isSign_19 : decode cX9_isSign 19 = .ok (.iaload, 1) := by decide +kernel
theorem dX9_isSign_20 : decode cX9_isSign 20 = .ok (.iload_n 1, 1) := by decide +kernel
theorem dX9_isSign_21 : decode cX9_isSign 21 = .ok (.if_icmp .ne 7, 3) := by decide +kernel
theorem dX9_isSign_24 : decode cX9_isSign 24 = .ok (.iconst 1, 1) := by decide +kernel
theorem dX9_isSign_25 : decode cX9_isSign 25 = .ok (.goto 4, 3) := by decide +kernel
theorem dX9_isSign_28 : decode cX9_isSign 28 = .ok (.iconst 0, 1) := by decide +kernel
theorem dX9_isSign_29 : decode cX9_isSign 29 = .ok (.ireturn, 1) := by decide +kernel
theorem dX9_readsNumber_0 : decode cX9_readsNumber 0 = .ok (.aload_n 0, 1) := by decide +kernel
theorem dX9_readsNumber_1 : decode cX9_readsNumber 1 = .ok (.invokevirtual 86, 3) := by decide +kernel
theorem dX9_readsNumber_4 : decode cX9_readsNumber 4 = .ok (.aload_n 0, 1) := by decide +kernel
theorem dX9_readsNumber_5 : decode cX9_readsNumber 5 = .ok (.aload_n 0, 1) := by decide +kernel
theorem dX9_readsNumber_6 : decode cX9_readsNumber 6 = .ok (.aload_n 0, 1) := by decide +kernel
theorem dX9_readsNumber_7 : decode cX9_readsNumber 7 = .ok (.getfield 79, 3) := by decide +kernel
theorem dX9_readsNumber_10 : decode cX9_readsNumber 10 = .ok (.invokevirtual 82, 3) := by decide +kernel
theorem dX9_readsNumber_13 : decode cX9_readsNumber 13 = .ok (.ifCond .eq 31, 3) := by decide +kernel
theorem dX9_readsNumber_16 : decode cX9_readsNumber 16 = .ok (.aload_n 0, 1) := by decide +kernel
theorem dX9_readsNumber_17 : decode cX9_readsNumber 17 = .ok (.getfield 76, 3) := by decide +kernel
theorem dX9_readsNumber_20 : decode cX9_readsNumber 20 = .ok (.aload_n 0, 1) := by decide +kernel
theorem dX9_readsNumber_21 : decode cX9_readsNumber 21 = .ok (.getfield 79, 3) := by decide +kernel
theorem dX9_readsNumber_24 : decode cX9_readsNumber 24 = .ok (.isub, 1) := by decide +kernel
theorem dX9_readsNumber_25 : decode cX9_readsNumber 25 = .ok (.iconst 1, 1) := by decide +kernel
theorem dX9_readsNumber_26 : decode cX9_readsNumber 26 = .ok (.if_icmp .ne 18, 3) := by decide +kernel
theorem dX9_readsNumber_29 : decode cX9_readsNumber 29 = .ok (.aload_n 0, 1) := by decide +kernel
theorem dX9_readsNumber_30 : decode cX9_readsNumber 30 = .ok (.getfield 33, 3) := by decide +kernel
theorem dX9_readsNumber_33 : decode cX9_readsNumber 33 = .ok (.aload_n 0, 1) := by decide +kernel
theorem dX9_readsNumber_34 : decode cX9_readsNumber 34 = .ok (.getfield 79, 3) := by decide +kernel
theorem dX9_readsNumber_37 : decode cX9_readsNumber 37 = .ok (.iaload, 1) := by decide +kernel
theorem dX9_readsNumber_38 : decode cX9_readsNumber 38 = .ok (.bipush 48, 2) := by decide +kernel
theorem dX9_readsNumber_40 : decode cX9_readsNumber 40 = .ok (.isub, 1) := by decide +kernel
theorem dX9_readsNumber_41 : decode cX9_readsNumber 41 = .ok (.goto 4, 3) := by decide +kernel
theorem dX9_readsNumber_44 : decode cX9_readsNumber 44 = .ok (.iconst (-1), 1) := by decide +kernel
theorem dX9_readsNumber_45 : decode cX9_readsNumber 45 = .ok (.putfield 89, 3) := by decide +kernel
theorem dX9_readsNumber_48 : decode cX9_readsNumber 48 = .ok (.aload_n 0, 1) := by decide +kernel
theorem dX9_readsNumber_49 : decode cX9_readsNumber 49 = .ok (.getfield 89, 3) := by decide +kernel
theorem dX9_readsNumber_52 : decode cX9_readsNumber 52 = .ok (.iload_n 1, 1) := by decide +kernel
theorem dX9_readsNumber_53 : decode cX9_readsNumber 53 = .ok (.iload_n 2, 1) := by decide +kernel
theorem dX9_readsNumber_54 : decode cX9_readsNumber 54 = .ok (.invokestatic 69, 3) := by decide +kernel
theorem dX9_readsNumber_57 : decode cX9_readsNumber 57 = .ok (.ireturn, 1) := by decide +kernel
theorem dX9_readsStep_0 : decode cX9_readsStep 0 = .ok (.aload_n 0, 1) := by decide +kernel
theorem dX9_readsStep_1 : decode cX9_readsStep 1 = .ok (.getfield 92, 3) := by decide +kernel
theorem dX9_readsStep_4 : decode cX9_readsStep 4 = .ok (.bipush 9, 2) := by decide +kernel
theorem dX9_readsStep_6 : decode cX9_readsStep 6 = .ok (.if_icmp .eq 13, 3) := by decide +kernel
theorem dX9_readsStep_9 : decode cX9_readsStep 9 = .ok (.aload_n 0, 1) := by decide +kernel
theorem dX9_readsStep_10 : decode cX9_readsStep 10 = .ok (.iconst 1, 1) := by decide +kernel
theorem dX9_readsStep_11 : decode cX9_readsStep 11 = .ok (.bipush 9, 2) := by decide +kernel
theorem dX9_readsStep_13 : decode cX9_readsStep 13 = .ok (.invokevirtual 95, 3) := by decide +kernel
theorem dX9_readsStep_16 : decode cX9_readsStep 16 = .ok (.ifCond .ne 5, 3) := by decide +kernel
theorem dX9_readsStep_19 : decode cX9_readsStep 19 = .ok (.iconst 0, 1) := by decide +kernel
theorem dX9_readsStep_20 : decode cX9_readsStep 20 = .ok (.ireturn, 1) := by decide +kernel
theorem dX9_readsStep_21 : decode cX9_readsStep 21 = .ok (.aload_n 0, 1) := by decide +kernel
theorem dX9_readsStep_22 : decode cX9_readsStep 22 = .ok (.getfield 45, 3) := by decide +kernel
theorem dX9_readsStep_25 : decode cX9_readsStep 25 = .ok (.aload_n 0, 1) := by decide +kernel
theorem dX9_readsStep_26 : decode cX9_readsStep 26 = .ok (.getfield 92, 3) := by decide +kernel
theorem dX9_readsStep_29 : decode cX9_readsStep 29 = .ok (.aload_n 0, 1) := by decide +kernel
theorem dX9_readsStep_30 : decode cX9_readsStep 30 = .ok (.getfield 89, 3) := by decide +kernel
theorem dX9_readsStep_33 : decode cX9_readsStep 33 = .ok (.iastore, 1) := by decide +kernel
theorem dX9_readsStep_34 : decode cX9_readsStep 34 = .ok (.aload_n 0, 1) := by decide +kernel
theorem dX9_readsStep_35 : decode cX9_readsStep 35 = .ok (.iconst 1, 1) := by decide +kernel
theorem dX9_readsStep_36 : decode cX9_readsStep 36 = .ok (.bipush 9, 2) := by decide +kernel
theorem dX9_readsStep_38 : decode cX9_readsStep 38 = .ok (.invokevirtual 95, 3) := by decide +kernel
theorem dX9_readsStep_41 : decode cX9_readsStep 41 = .ok (.ifCond .ne 5, 3) := by decide +kernel
theorem dX9_readsStep_44 : decode cX9_readsStep 44 = .ok (.iconst 0, 1) := by decide +kernel
theorem dX9_readsStep_45 : decode cX9_readsStep 45 = .ok (.ireturn, 1) := by decide +kernel
theorem dX9_readsStep_46 : decode cX9_readsStep 46 = .ok (.aload_n 0, 1) := by decide +kernel
theorem dX9_readsStep_47 : decode cX9_readsStep 47 = .ok (.getfield 48, 3) := by decide +kernel
theorem dX9_readsStep_50 : decode cX9_readsStep 50 = .ok (.aload_n 0, 1) := by decide +kernel
theorem dX9_readsStep_51 : decode cX9_readsStep 51 = .ok (.getfield 92, 3) := by decide +kernel
theorem dX9_readsStep_54 : decode cX9_readsStep 54 = .ok (.aload_n 0, 1) := by decide +kernel
theorem dX9_readsStep_55 : decode cX9_readsStep 55 = .ok (.getfield 89, 3) := by decide +kernel
theorem dX9_readsStep_58 : decode cX9_readsStep 58 = .ok (.iastore, 1) := by decide +kernel
theorem dX9_readsStep_59 : decode cX9_readsStep 59 = .ok (.aload_n 0, 1) := by decide +kernel
theorem dX9_readsStep_60 : decode cX9_readsStep 60 = .ok (.iconst 0, 1) := by decide +kernel
theorem dX9_readsStep_61 : decode cX9_readsStep 61 = .ok (.iconst 5, 1) := by decide +kernel
theorem dX9_readsStep_62 : decode cX9_readsStep 62 = .ok (.invokevirtual 95, 3) := by decide +kernel
theorem dX9_readsStep_65 : decode cX9_readsStep 65 = .ok (.ifCond .ne 5, 3) := by decide +kernel
theorem dX9_readsStep_68 : decode cX9_readsStep 68 = .ok (.iconst 0, 1) := by decide +kernel
theorem dX9_readsStep_69 : decode cX9_readsStep 69 = .ok (.ireturn, 1) := by decide +kernel
theorem dX9_readsStep_70 : decode cX9_readsStep 70 = .ok (.aload_n 0, 1) := by decide +kernel
theorem dX9_readsStep_71 : decode cX9_readsStep 71 = .ok (.getfield 51, 3) := by decide +kernel
theorem dX9_readsStep_74 : decode cX9_readsStep 74 = .ok (.aload_n 0, 1) := by decide +kernel
theorem dX9_readsStep_75 : decode cX9_readsStep 75 = .ok (.getfield 92, 3) := by decide +kernel
theorem dX9_readsStep_78 : decode cX9_readsStep 78 = .ok (.aload_n 0, 1) := by decide +kernel
theorem dX9_readsStep_79 : decode cX9_readsStep 79 = .ok (.getfield 89, 3) := by decide +kernel
theorem dX9_readsStep_82 : decode cX9_readsStep 82 = .ok (.iastore, 1) := by decide +kernel
theorem dX9_readsStep_83 : decode cX9_readsStep 83 = .ok (.aload_n 0, 1) := by decide +kernel
theorem dX9_readsStep_84 : decode cX9_readsStep 84 = .ok (.dup, 1) := by decide +kernel
theorem dX9_readsStep_85 : decode cX9_readsStep 85 = .ok (.getfield 92, 3) := by decide +kernel
theorem dX9_readsStep_88 : decode cX9_readsStep 88 = .ok (.iconst 1, 1) := by decide +kernel
theorem dX9_readsStep_89 : decode cX9_readsStep 89 = .ok (.iadd, 1) := by decide +kernel
theorem dX9_readsStep_90 : decode cX9_readsStep 90 = .ok (.putfield 92, 3) := by decide +kernel
theorem dX9_readsStep_93 : decode cX9_readsStep 93 = .ok (.iconst 1, 1) := by decide +kernel
theorem dX9_readsStep_94 : decode cX9_readsStep 94 = .ok (.ireturn, 1) := by decide +kernel
theorem dX9_readsCoil_0 : decode cX9_readsCoil 0 = .ok (.aload_n 0, 1) := by decide +kernel
theorem dX9_readsCoil_1 : decode cX9_readsCoil 1 = .ok (.getfield 54, 3) := by decide +kernel
theorem dX9_readsCoil_4 : decode cX9_readsCoil 4 = .ok (.iload_n 1, 1) := by decide +kernel
theorem dX9_readsCoil_5 : decode cX9_readsCoil 5 = .ok (.iaload, 1) := by decide +kernel
theorem dX9_readsCoil_6 : decode cX9_readsCoil 6 = .ok (.ifCond .ge 12, 3) := by decide +kernel
theorem dX9_readsCoil_9 : decode cX9_readsCoil 9 = .ok (.aload_n 0, 1) := by decide +kernel
theorem dX9_readsCoil_10 : decode cX9_readsCoil 10 = .ok (.iload_n 2, 1) := by decide +kernel
theorem dX9_readsCoil_11 : decode cX9_readsCoil 11 = .ok (.iload_n 3, 1) := by decide +kernel
theorem dX9_readsCoil_12 : decode cX9_readsCoil 12 = .ok (.invokevirtual 95, 3) := by decide +kernel
theorem dX9_readsCoil_15 : decode cX9_readsCoil 15 = .ok (.ifCond .ne 5, 3) := by decide +kernel
theorem dX9_readsCoil_18 : decode cX9_readsCoil 18 = .ok (.iconst 0, 1) := by decide +kernel
theorem dX9_readsCoil_19 : decode cX9_readsCoil 19 = .ok (.ireturn, 1) := by decide +kernel
theorem dX9_readsCoil_20 : decode cX9_readsCoil 20 = .ok (.aload_n 0, 1) := by decide +kernel
theorem dX9_readsCoil_21 : decode cX9_readsCoil 21 = .ok (.getfield 54, 3) := by decide +kernel
theorem dX9_readsCoil_24 : decode cX9_readsCoil 24 = .ok (.iload_n 1, 1) := by decide +kernel
theorem dX9_readsCoil_25 : decode cX9_readsCoil 25 = .ok (.aload_n 0, 1) := by decide +kernel
theorem dX9_readsCoil_26 : decode cX9_readsCoil 26 = .ok (.getfield 89, 3) := by decide +kernel
theorem dX9_readsCoil_29 : decode cX9_readsCoil 29 = .ok (.iastore, 1) := by decide +kernel
theorem dX9_readsCoil_30 : decode cX9_readsCoil 30 = .ok (.iconst 1, 1) := by decide +kernel
theorem dX9_readsCoil_31 : decode cX9_readsCoil 31 = .ok (.ireturn, 1) := by decide +kernel
theorem dX9_readsItem_0 : decode cX9_readsItem 0 = .ok (.aload_n 0, 1) := by decide +kernel
theorem dX9_readsItem_1 : decode cX9_readsItem 1 = .ok (.bipush 115, 2) := by decide +kernel
theorem dX9_readsItem_3 : decode cX9_readsItem 3 = .ok (.invokevirtual 99, 3) := by decide +kernel
theorem dX9_readsItem_6 : decode cX9_readsItem 6 = .ok (.ifCond .eq 10, 3) := by decide +kernel
theorem dX9_readsItem_9 : decode cX9_readsItem 9 = .ok (.aload_n 0, 1) := by decide +kernel
theorem dX9_readsItem_10 : decode cX9_readsItem 10 = .ok (.invokevirtual 102, 3) := by decide +kernel
theorem dX9_readsItem_13 : decode cX9_readsItem 13 = .ok (.goto 67, 3) := by decide +kernel
theorem dX9_readsItem_16 : decode cX9_readsItem 16 = .ok (.aload_n 0, 1) := by decide +kernel
theorem dX9_readsItem_17 : decode cX9_readsItem 17 = .ok (.bipush 108, 2) := by decide +kernel
theorem dX9_readsItem_19 : decode cX9_readsItem 19 = .ok (.invokevirtual 99, 3) := by decide +kernel
theorem dX9_readsItem_22 : decode cX9_readsItem 22 = .ok (.ifCond .eq 14, 3) := by decide +kernel
theorem dX9_readsItem_25 : decode cX9_readsItem 25 = .ok (.aload_n 0, 1) := by decide +kernel
theorem dX9_readsItem_26 : decode cX9_readsItem 26 = .ok (.iconst 0, 1) := by decide +kernel
theorem dX9_readsItem_27 : decode cX9_readsItem 27 = .ok (.iconst 0, 1) := by decide +kernel
theorem dX9_readsItem_28 : decode cX9_readsItem 28 = .ok (.bipush 9, 2) := by decide +kernel
theorem dX9_readsItem_30 : decode cX9_readsItem 30 = .ok (.invokevirtual 106, 3) := by decide +kernel
theorem dX9_readsItem_33 : decode cX9_readsItem 33 = .ok (.goto 47, 3) := by decide +kernel
theorem dX9_readsItem_36 : decode cX9_readsItem 36 = .ok (.aload_n 0, 1) := by decide +kernel
theorem dX9_readsItem_37 : decode cX9_readsItem 37 = .ok (.bipush 102, 2) := by decide +kernel
theorem dX9_readsItem_39 : decode cX9_readsItem 39 = .ok (.invokevirtual 99, 3) := by decide +kernel
theorem dX9_readsItem_42 : decode cX9_readsItem 42 = .ok (.ifCond .eq 14, 3) := by decide +kernel
theorem dX9_readsItem_45 : decode cX9_readsItem 45 = .ok (.aload_n 0, 1) := by decide +kernel
theorem dX9_readsItem_46 : decode cX9_readsItem 46 = .ok (.iconst 1, 1) := by decide +kernel
theorem dX9_readsItem_47 : decode cX9_readsItem 47 = .ok (.iconst 1, 1) := by decide +kernel
theorem dX9_readsItem_48 : decode cX9_readsItem 48 = .ok (.bipush 9, 2) := by decide +kernel
theorem dX9_readsItem_50 : decode cX9_readsItem 50 = .ok (.invokevirtual 106, 3) := by decide +kernel
theorem dX9_readsItem_53 : decode cX9_readsItem 53 = .ok (.goto 27, 3) := by decide +kernel
theorem dX9_readsItem_56 : decode cX9_readsItem 56 = .ok (.aload_n 0, 1) := by decide +kernel
theorem dX9_readsItem_57 : decode cX9_readsItem 57 = .ok (.bipush 100, 2) := by decide +kernel
theorem dX9_readsItem_59 : decode cX9_readsItem 59 = .ok (.invokevirtual 99, 3) := by decide +kernel
theorem dX9_readsItem_62 : decode cX9_readsItem 62 = .ok (.ifCond .eq 17, 3) := by decide +kernel
theorem dX9_readsItem_65 : decode cX9_readsItem 65 = .ok (.aload_n 0, 1) := by decide +kernel
theorem dX9_readsItem_66 : decode cX9_readsItem 66 = .ok (.iconst 2, 1) := by decide +kernel
theorem dX9_readsItem_67 : decode cX9_readsItem 67 = .ok (.iconst 0, 1) := by decide +kernel
theorem dX9_readsItem_68 : decode cX9_readsItem 68 = .ok (.iconst 3, 1) := by decide +kernel
theorem dX9_readsItem_69 : decode cX9_readsItem 69 = .ok (.invokevirtual 106, 3) := by decide +kernel
theorem dX9_readsItem_72 : decode cX9_readsItem 72 = .ok (.ifCond .eq 7, 3) := by decide +kernel
theorem dX9_readsItem_75 : decode cX9_readsItem 75 = .ok (.iconst 1, 1) := by decide +kernel
theorem dX9_readsItem_76 : decode cX9_readsItem 76 = .ok (.goto 4, 3) := by decide +kernel
theorem dX9_readsItem_79 : decode cX9_readsItem 79 = .ok (.iconst 0, 1) := by decide +kernel
theorem dX9_readsItem_80 : decode cX9_readsItem 80 = .ok (.istore_n 1, 1) := by decide +kernel
theorem dX9_readsItem_81 : decode cX9_readsItem 81 = .ok (.iload_n 1, 1) := by decide +kernel
theorem dX9_readsItem_82 : decode cX9_readsItem 82 = .ok (.ifCond .eq 14, 3) := by decide +kernel
theorem dX9_readsItem_85 : decode cX9_readsItem 85 = .ok (.aload_n 0, 1) := by decide +kernel
theorem dX9_readsItem_86 : decode cX9_readsItem 86 = .ok (.invokevirtual 86, 3) := by decide +kernel
theorem dX9_readsItem_89 : decode cX9_readsItem 89 = .ok (.aload_n 0, 1) := by decide +kernel
theorem dX9_readsItem_90 : decode cX9_readsItem 90 = .ok (.bipush 59, 2) := by decide +kernel
theorem dX9_readsItem_92 : decode cX9_readsItem 92 = .ok (.invokevirtual 99, 3) := by decide +kernel
theorem dX9_readsItem_95 : decode cX9_readsItem 95 = .ok (.istore_n 1, 1) := by decide +kernel
theorem dX9_readsItem_96 : decode cX9_readsItem 96 = .ok (.iload_n 1, 1) := by decide +kernel
theorem dX9_readsItem_97 : decode cX9_readsItem 97 = .ok (.ireturn, 1) := by decide +kernel
theorem dX9_readItems_0 : decode cX9_readItems 0 = .ok (.aload_n 0, 1) := by decide +kernel
theorem dX9_readItems_1 : decode cX9_readItems 1 = .ok (.iconst 0, 1) := by decide +kernel
theorem dX9_readItems_2 : decode cX9_readItems 2 = .ok (.putfield 76, 3) := by decide +kernel
theorem dX9_readItems_5 : decode cX9_readItems 5 = .ok (.aload_n 0, 1) := by decide +kernel
theorem dX9_readItems_6 : decode cX9_readItems 6 = .ok (.iconst 0, 1) := by decide +kernel
theorem dX9_readItems_7 : decode cX9_readItems 7 = .ok (.putfield 92, 3) := by decide +kernel
theorem dX9_readItems_10 : decode cX9_readItems 10 = .ok (.iconst 0, 1) := by decide +kernel
theorem dX9_readItems_11 : decode cX9_readItems 11 = .ok (.istore_n 1, 1) := by decide +kernel
theorem dX9_readItems_12 : decode cX9_readItems 12 = .ok (.iload_n 1, 1) := by decide +kernel
theorem dX9_readItems_13 : decode cX9_readItems 13 = .ok (.iconst 3, 1) := by decide +kernel
theorem dX9_readItems_14 : decode cX9_readItems 14 = .ok (.if_icmp .ge 16, 3) := by decide +kernel
theorem dX9_readItems_17 : decode cX9_readItems 17 = .ok (.aload_n 0, 1) := by decide +kernel
theorem dX9_readItems_18 : decode cX9_readItems 18 = .ok (.getfield 54, 3) := by decide +kernel
theorem dX9_readItems_21 : decode cX9_readItems 21 = .ok (.iload_n 1, 1) := by decide +kernel
theorem dX9_readItems_22 : decode cX9_readItems 22 = .ok (.iconst (-1), 1) := by decide +kernel
theorem dX9_readItems_23 : decode cX9_readItems 23 = .ok (.iastore, 1) := by decide +kernel
theorem dX9_readItems_24 : decode cX9_readItems 24 = .ok (.iinc 1 1, 3) := by decide +kernel
theorem dX9_readItems_27 : decode cX9_readItems 27 = .ok (.goto (-15), 3) := by decide +kernel
theorem dX9_readItems_30 : decode cX9_readItems 30 = .ok (.iconst 0, 1) := by decide +kernel
theorem dX9_readItems_31 : decode cX9_readItems 31 = .ok (.istore_n 1, 1) := by decide +kernel
theorem dX9_readItems_32 : decode cX9_readItems 32 = .ok (.aload_n 0, 1) := by decide +kernel
theorem dX9_readItems_33 : decode cX9_readItems 33 = .ok (.invokevirtual 86, 3) := by decide +kernel
theorem dX9_readItems_36 : decode cX9_readItems 36 = .ok (.aload_n 0, 1) := by decide +kernel
theorem dX9_readItems_37 : decode cX9_readItems 37 = .ok (.getfield 79, 3) := by decide +kernel
theorem dX9_readItems_40 : decode cX9_readItems 40 = .ok (.aload_n 0, 1) := by decide +kernel
theorem dX9_readItems_41 : decode cX9_readItems 41 = .ok (.getfield 73, 3) := by decide +kernel
theorem dX9_readItems_44 : decode cX9_readItems 44 = .ok (.if_icmp .ge 23, 3) := by decide +kernel
theorem dX9_readItems_47 : decode cX9_readItems 47 = .ok (.aload_n 0, 1) := by decide +kernel
theorem dX9_readItems_48 : decode cX9_readItems 48 = .ok (.invokevirtual 109, 3) := by decide +kernel
theorem dX9_readItems_51 : decode cX9_readItems 51 = .ok (.ifCond .ne 6, 3) := by decide +kernel
theorem dX9_readItems_54 : decode cX9_readItems 54 = .ok (.bipush (-9), 2) := by decide +kernel
theorem dX9_readItems_56 : decode cX9_readItems 56 = .ok (.ireturn, 1) := by decide +kernel
theorem dX9_readItems_57 : decode cX9_readItems 57 = .ok (.iinc 1 1, 3) := by decide +kernel
theorem dX9_readItems_60 : decode cX9_readItems 60 = .ok (.aload_n 0, 1) := by decide +kernel
theorem dX9_readItems_61 : decode cX9_readItems 61 = .ok (.invokevirtual 86, 3) := by decide +kernel
theorem dX9_readItems_64 : decode cX9_readItems 64 = .ok (.goto (-28), 3) := by decide +kernel
theorem dX9_readItems_67 : decode cX9_readItems 67 = .ok (.iload_n 1, 1) := by decide +kernel
theorem dX9_readItems_68 : decode cX9_readItems 68 = .ok (.ireturn, 1) := by decide +kernel
theorem dX9_stairs_0 : decode cX9_stairs 0 = .ok (.aload_n 0, 1) := by decide +kernel
theorem dX9_stairs_1 : decode cX9_stairs 1 = .ok (.invokevirtual 112, 3) := by decide +kernel
theorem dX9_stairs_4 : decode cX9_stairs 4 = .ok (.istore_n 1, 1) := by decide +kernel
theorem dX9_stairs_5 : decode cX9_stairs 5 = .ok (.iload_n 1, 1) := by decide +kernel
theorem dX9_stairs_6 : decode cX9_stairs 6 = .ok (.bipush (-9), 2) := by decide +kernel
theorem dX9_stairs_8 : decode cX9_stairs 8 = .ok (.if_icmp .ne 11, 3) := by decide +kernel
theorem dX9_stairs_11 : decode cX9_stairs 11 = .ok (.bipush (-10), 2) := by decide +kernel
theorem dX9_stairs_13 : decode cX9_stairs 13 = .ok (.aload_n 0, 1) := by decide +kernel
theorem dX9_stairs_14 : decode cX9_stairs 14 = .ok (.getfield 79, 3) := by decide +kernel
theorem dX9_stairs_17 : decode cX9_stairs 17 = .ok (.isub, 1) := by decide +kernel
theorem dX9_stairs_18 : decode cX9_stairs 18 = .ok (.ireturn, 1) := by decide +kernel
theorem dX9_stairs_19 : decode cX9_stairs 19 = .ok (.aload_n 0, 1) := by decide +kernel
theorem dX9_stairs_20 : decode cX9_stairs 20 = .ok (.iconst 0, 1) := by decide +kernel
theorem dX9_stairs_21 : decode cX9_stairs 21 = .ok (.putfield 73, 3) := by decide +kernel
theorem dX9_stairs_24 : decode cX9_stairs 24 = .ok (.aload_n 0, 1) := by decide +kernel
theorem dX9_stairs_25 : decode cX9_stairs 25 = .ok (.aload_n 0, 1) := by decide +kernel
theorem dX9_stairs_26 : decode cX9_stairs 26 = .ok (.getfield 92, 3) := by decide +kernel
theorem dX9_stairs_29 : decode cX9_stairs 29 = .ok (.putfield 66, 3) := by decide +kernel
theorem dX9_stairs_32 : decode cX9_stairs 32 = .ok (.aload_n 0, 1) := by decide +kernel
theorem dX9_stairs_33 : decode cX9_stairs 33 = .ok (.aload_n 0, 1) := by decide +kernel
theorem dX9_stairs_34 : decode cX9_stairs 34 = .ok (.getfield 54, 3) := by decide +kernel
theorem dX9_stairs_37 : decode cX9_stairs 37 = .ok (.iconst 0, 1) := by decide +kernel
theorem dX9_stairs_38 : decode cX9_stairs 38 = .ok (.iaload, 1) := by decide +kernel
theorem dX9_stairs_39 : decode cX9_stairs 39 = .ok (.ifCond .ge 7, 3) := by decide +kernel
theorem dX9_stairs_42 : decode cX9_stairs 42 = .ok (.iconst 4, 1) := by decide +kernel
theorem dX9_stairs_43 : decode cX9_stairs 43 = .ok (.goto 9, 3) := by decide +kernel
theorem dX9_stairs_46 : decode cX9_stairs 46 = .ok (.aload_n 0, 1) := by decide +kernel
theorem dX9_stairs_47 : decode cX9_stairs 47 = .ok (.getfield 54, 3) := by decide +kernel
theorem dX9_stairs_50 : decode cX9_stairs 50 = .ok (.iconst 0, 1) := by decide +kernel
theorem dX9_stairs_51 : decode cX9_stairs 51 = .ok (.iaload, 1) := by decide +kernel
theorem dX9_stairs_52 : decode cX9_stairs 52 = .ok (.putfield 13, 3) := by decide +kernel
theorem dX9_stairs_55 : decode cX9_stairs 55 = .ok (.aload_n 0, 1) := by decide +kernel
theorem dX9_stairs_56 : decode cX9_stairs 56 = .ok (.aload_n 0, 1) := by decide +kernel
theorem dX9_stairs_57 : decode cX9_stairs 57 = .ok (.getfield 54, 3) := by decide +kernel
theorem dX9_stairs_60 : decode cX9_stairs 60 = .ok (.iconst 1, 1) := by decide +kernel
theorem dX9_stairs_61 : decode cX9_stairs 61 = .ok (.iaload, 1) := by decide +kernel
theorem dX9_stairs_62 : decode cX9_stairs 62 = .ok (.ifCond .ge 7, 3) := by decide +kernel
theorem dX9_stairs_65 : decode cX9_stairs 65 = .ok (.iconst 3, 1) := by decide +kernel
theorem dX9_stairs_66 : decode cX9_stairs 66 = .ok (.goto 9, 3) := by decide +kernel
theorem dX9_stairs_69 : decode cX9_stairs 69 = .ok (.aload_n 0, 1) := by decide +kernel
theorem dX9_stairs_70 : decode cX9_stairs 70 = .ok (.getfield 54, 3) := by decide +kernel
theorem dX9_stairs_73 : decode cX9_stairs 73 = .ok (.iconst 1, 1) := by decide +kernel
theorem dX9_stairs_74 : decode cX9_stairs 74 = .ok (.iaload, 1) := by decide +kernel
theorem dX9_stairs_75 : decode cX9_stairs 75 = .ok (.putfield 17, 3) := by decide +kernel
theorem dX9_stairs_78 : decode cX9_stairs 78 = .ok (.aload_n 0, 1) := by decide +kernel
theorem dX9_stairs_79 : decode cX9_stairs 79 = .ok (.aload_n 0, 1) := by decide +kernel
theorem dX9_stairs_80 : decode cX9_stairs 80 = .ok (.getfield 54, 3) := by decide +kernel
theorem dX9_stairs_83 : decode cX9_stairs 83 = .ok (.iconst 2, 1) := by decide +kernel
theorem dX9_stairs_84 : decode cX9_stairs 84 = .ok (.iaload, 1) := by decide +kernel
theorem dX9_stairs_85 : decode cX9_stairs 85 = .ok (.ifCond .ge 7, 3) := by decide +kernel
theorem dX9_stairs_88 : decode cX9_stairs 88 = .ok (.iconst 1, 1) := by decide +kernel
theorem dX9_stairs_89 : decode cX9_stairs 89 = .ok (.goto 9, 3) := by decide +kernel
theorem dX9_stairs_92 : decode cX9_stairs 92 = .ok (.aload_n 0, 1) := by decide +kernel
theorem dX9_stairs_93 : decode cX9_stairs 93 = .ok (.getfield 54, 3) := by decide +kernel
theorem dX9_stairs_96 : decode cX9_stairs 96 = .ok (.iconst 2, 1) := by decide +kernel
theorem dX9_stairs_97 : decode cX9_stairs 97 = .ok (.iaload, 1) := by decide +kernel
theorem dX9_stairs_98 : decode cX9_stairs 98 = .ok (.putfield 20, 3) := by decide +kernel
theorem dX9_stairs_101 : decode cX9_stairs 101 = .ok (.iconst 0, 1) := by decide +kernel
theorem dX9_stairs_102 : decode cX9_stairs 102 = .ok (.istore_n 2, 1) := by decide +kernel
theorem dX9_stairs_103 : decode cX9_stairs 103 = .ok (.iload_n 2, 1) := by decide +kernel
theorem dX9_stairs_104 : decode cX9_stairs 104 = .ok (.bipush 12, 2) := by decide +kernel
theorem dX9_stairs_106 : decode cX9_stairs 106 = .ok (.if_icmp .ge 16, 3) := by decide +kernel
theorem dX9_stairs_109 : decode cX9_stairs 109 = .ok (.aload_n 0, 1) := by decide +kernel
theorem dX9_stairs_110 : decode cX9_stairs 110 = .ok (.getfield 7, 3) := by decide +kernel
theorem dX9_stairs_113 : decode cX9_stairs 113 = .ok (.iload_n 2, 1) := by decide +kernel
theorem dX9_stairs_114 : decode cX9_stairs 114 = .ok (.iconst 0, 1) := by decide +kernel
theorem dX9_stairs_115 : decode cX9_stairs 115 = .ok (.iastore, 1) := by decide +kernel
theorem dX9_stairs_116 : decode cX9_stairs 116 = .ok (.iinc 2 1, 3) := by decide +kernel
theorem dX9_stairs_119 : decode cX9_stairs 119 = .ok (.goto (-16), 3) := by decide +kernel
theorem dX9_stairs_122 : decode cX9_stairs 122 = .ok (.iconst 0, 1) := by decide +kernel
theorem dX9_stairs_123 : decode cX9_stairs 123 = .ok (.istore_n 2, 1) := by decide +kernel
theorem dX9_stairs_124 : decode cX9_stairs 124 = .ok (.iload_n 2, 1) := by decide +kernel
theorem dX9_stairs_125 : decode cX9_stairs 125 = .ok (.aload_n 0, 1) := by decide +kernel
theorem dX9_stairs_126 : decode cX9_stairs 126 = .ok (.getfield 66, 3) := by decide +kernel
theorem dX9_stairs_129 : decode cX9_stairs 129 = .ok (.if_icmp .ge 47, 3) := by decide +kernel
theorem dX9_stairs_132 : decode cX9_stairs 132 = .ok (.aload_n 0, 1) := by decide +kernel
theorem dX9_stairs_133 : decode cX9_stairs 133 = .ok (.getfield 23, 3) := by decide +kernel
theorem dX9_stairs_136 : decode cX9_stairs 136 = .ok (.iload_n 2, 1) := by decide +kernel
theorem dX9_stairs_137 : decode cX9_stairs 137 = .ok (.aload_n 0, 1) := by decide +kernel
theorem dX9_stairs_138 : decode cX9_stairs 138 = .ok (.getfield 45, 3) := by decide +kernel
theorem dX9_stairs_141 : decode cX9_stairs 141 = .ok (.iload_n 2, 1) := by decide +kernel
theorem dX9_stairs_142 : decode cX9_stairs 142 = .ok (.iaload, 1) := by decide +kernel
theorem dX9_stairs_143 : decode cX9_stairs 143 = .ok (.iastore, 1) := by decide +kernel
theorem dX9_stairs_144 : decode cX9_stairs 144 = .ok (.aload_n 0, 1) := by decide +kernel
theorem dX9_stairs_145 : decode cX9_stairs 145 = .ok (.getfield 26, 3) := by decide +kernel
theorem dX9_stairs_148 : decode cX9_stairs 148 = .ok (.iload_n 2, 1) := by decide +kernel
theorem dX9_stairs_149 : decode cX9_stairs 149 = .ok (.aload_n 0, 1) := by decide +kernel
theorem dX9_stairs_150 : decode cX9_stairs 150 = .ok (.getfield 48, 3) := by decide +kernel
theorem dX9_stairs_153 : decode cX9_stairs 153 = .ok (.iload_n 2, 1) := by decide +kernel
theorem dX9_stairs_154 : decode cX9_stairs 154 = .ok (.iaload, 1) := by decide +kernel
theorem dX9_stairs_155 : decode cX9_stairs 155 = .ok (.iastore, 1) := by decide +kernel
theorem dX9_stairs_156 : decode cX9_stairs 156 = .ok (.aload_n 0, 1) := by decide +kernel
theorem dX9_stairs_157 : decode cX9_stairs 157 = .ok (.getfield 7, 3) := by decide +kernel
theorem dX9_stairs_160 : decode cX9_stairs 160 = .ok (.iconst 3, 1) := by decide +kernel
theorem dX9_stairs_161 : decode cX9_stairs 161 = .ok (.iload_n 2, 1) := by decide +kernel
theorem dX9_stairs_162 : decode cX9_stairs 162 = .ok (.iadd, 1) := by decide +kernel
theorem dX9_stairs_163 : decode cX9_stairs 163 = .ok (.aload_n 0, 1) := by decide +kernel
theorem dX9_stairs_164 : decode cX9_stairs 164 = .ok (.getfield 51, 3) := by decide +kernel
theorem dX9_stairs_167 : decode cX9_stairs 167 = .ok (.iload_n 2, 1) := by decide +kernel
theorem dX9_stairs_168 : decode cX9_stairs 168 = .ok (.iaload, 1) := by decide +kernel
theorem dX9_stairs_169 : decode cX9_stairs 169 = .ok (.iastore, 1) := by decide +kernel
theorem dX9_stairs_170 : decode cX9_stairs 170 = .ok (.iinc 2 1, 3) := by decide +kernel
theorem dX9_stairs_173 : decode cX9_stairs 173 = .ok (.goto (-49), 3) := by decide +kernel
theorem dX9_stairs_176 : decode cX9_stairs 176 = .ok (.aload_n 0, 1) := by decide +kernel
theorem dX9_stairs_177 : decode cX9_stairs 177 = .ok (.iconst 0, 1) := by decide +kernel
theorem dX9_stairs_178 : decode cX9_stairs 178 = .ok (.putfield 116, 3) := by decide +kernel
theorem dX9_stairs_181 : decode cX9_stairs 181 = .ok (.aload_n 0, 1) := by decide +kernel
theorem dX9_stairs_182 : decode cX9_stairs 182 = .ok (.iconst 0, 1) := by decide +kernel
theorem dX9_stairs_183 : decode cX9_stairs 183 = .ok (.putfield 119, 3) := by decide +kernel
theorem dX9_stairs_186 : decode cX9_stairs 186 = .ok (.aload_n 0, 1) := by decide +kernel
theorem dX9_stairs_187 : decode cX9_stairs 187 = .ok (.getfield 29, 3) := by decide +kernel
theorem dX9_stairs_190 : decode cX9_stairs 190 = .ok (.iconst 0, 1) := by decide +kernel
theorem dX9_stairs_191 : decode cX9_stairs 191 = .ok (.iconst 0, 1) := by decide +kernel
theorem dX9_stairs_192 : decode cX9_stairs 192 = .ok (.bastore, 1) := by decide +kernel
theorem dX9_stairs_193 : decode cX9_stairs 193 = .ok (.aload_n 0, 1) := by decide +kernel
theorem dX9_stairs_194 : decode cX9_stairs 194 = .ok (.getfield 29, 3) := by decide +kernel
theorem dX9_stairs_197 : decode cX9_stairs 197 = .ok (.iconst 1, 1) := by decide +kernel
theorem dX9_stairs_198 : decode cX9_stairs 198 = .ok (.iconst 0, 1) := by decide +kernel
theorem dX9_stairs_199 : decode cX9_stairs 199 = .ok (.bastore, 1) := by decide +kernel
theorem dX9_stairs_200 : decode cX9_stairs 200 = .ok (.iload_n 1, 1) := by decide +kernel
theorem dX9_stairs_201 : decode cX9_stairs 201 = .ok (.ireturn, 1) := by decide +kernel
theorem dX9_step_0 : decode cX9_step 0 = .ok (.aload_n 0, 1) := by decide +kernel
theorem dX9_step_1 : decode cX9_step 1 = .ok (.iload_n 1, 1) := by decide +kernel
theorem dX9_step_2 : decode cX9_step 2 = .ok (.invokevirtual 122, 3) := by decide +kernel
theorem dX9_step_5 : decode cX9_step 5 = .ok (.ifCond .eq 12, 3) := by decide +kernel
theorem dX9_step_8 : decode cX9_step 8 = .ok (.iload_n 2, 1) := by decide +kernel
theorem dX9_step_9 : decode cX9_step 9 = .ok (.iconst 0, 1) := by decide +kernel
theorem dX9_step_10 : decode cX9_step 10 = .ok (.iconst 2, 1) := by decide +kernel
theorem dX9_step_11 : decode cX9_step 11 = .ok (.invokestatic 69, 3) := by decide +kernel
theorem dX9_step_14 : decode cX9_step 14 = .ok (.ifCond .ne 7, 3) := by decide +kernel
theorem dX9_step_17 : decode cX9_step 17 = .ok (.iconst (-1), 1) := by decide +kernel
theorem dX9_step_18 : decode cX9_step 18 = .ok (.goto 38, 3) := by decide +kernel
theorem dX9_step_21 : decode cX9_step 21 = .ok (.iload_n 2, 1) := by decide +kernel
theorem dX9_step_22 : decode cX9_step 22 = .ok (.ifCond .ne 12, 3) := by decide +kernel
theorem dX9_step_25 : decode cX9_step 25 = .ok (.aload_n 0, 1) := by decide +kernel
theorem dX9_step_26 : decode cX9_step 26 = .ok (.getfield 23, 3) := by decide +kernel
theorem dX9_step_29 : decode cX9_step 29 = .ok (.iload_n 1, 1) := by decide +kernel
theorem dX9_step_30 : decode cX9_step 30 = .ok (.iaload, 1) := by decide +kernel
theorem dX9_step_31 : decode cX9_step 31 = .ok (.goto 25, 3) := by decide +kernel
theorem dX9_step_34 : decode cX9_step 34 = .ok (.iload_n 2, 1) := by decide +kernel
theorem dX9_step_35 : decode cX9_step 35 = .ok (.iconst 1, 1) := by decide +kernel
theorem dX9_step_36 : decode cX9_step 36 = .ok (.if_icmp .ne 12, 3) := by decide +kernel
theorem dX9_step_39 : decode cX9_step 39 = .ok (.aload_n 0, 1) := by decide +kernel
theorem dX9_step_40 : decode cX9_step 40 = .ok (.getfield 26, 3) := by decide +kernel
theorem dX9_step_43 : decode cX9_step 43 = .ok (.iload_n 1, 1) := by decide +kernel
theorem dX9_step_44 : decode cX9_step 44 = .ok (.iaload, 1) := by decide +kernel
theorem dX9_step_45 : decode cX9_step 45 = .ok (.goto 11, 3) := by decide +kernel
theorem dX9_step_48 : decode cX9_step 48 = .ok (.aload_n 0, 1) := by decide +kernel
theorem dX9_step_49 : decode cX9_step 49 = .ok (.getfield 7, 3) := by decide +kernel
theorem dX9_step_52 : decode cX9_step 52 = .ok (.iconst 3, 1) := by decide +kernel
theorem dX9_step_53 : decode cX9_step 53 = .ok (.iload_n 1, 1) := by decide +kernel
theorem dX9_step_54 : decode cX9_step 54 = .ok (.iadd, 1) := by decide +kernel
theorem dX9_step_55 : decode cX9_step 55 = .ok (.iaload, 1) := by decide +kernel
theorem dX9_step_56 : decode cX9_step 56 = .ok (.ireturn, 1) := by decide +kernel
theorem dX9_asItIs_0 : decode cX9_asItIs 0 = .ok (.aload_n 0, 1) := by decide +kernel
theorem dX9_asItIs_1 : decode cX9_asItIs 1 = .ok (.aload_n 0, 1) := by decide +kernel
theorem dX9_asItIs_2 : decode cX9_asItIs 2 = .ok (.getfield 17, 3) := by decide +kernel
theorem dX9_asItIs_5 : decode cX9_asItIs 5 = .ok (.putfield 125, 3) := by decide +kernel
theorem dX9_asItIs_8 : decode cX9_asItIs 8 = .ok (.aload_n 0, 1) := by decide +kernel
theorem dX9_asItIs_9 : decode cX9_asItIs 9 = .ok (.aload_n 0, 1) := by decide +kernel
theorem dX9_asItIs_10 : decode cX9_asItIs 10 = .ok (.getfield 20, 3) := by decide +kernel
theorem dX9_asItIs_13 : decode cX9_asItIs 13 = .ok (.putfield 128, 3) := by decide +kernel
theorem dX9_asItIs_16 : decode cX9_asItIs 16 = .ok (.aload_n 0, 1) := by decide +kernel
theorem dX9_asItIs_17 : decode cX9_asItIs 17 = .ok (.iconst 0, 1) := by decide +kernel
theorem dX9_asItIs_18 : decode cX9_asItIs 18 = .ok (.putfield 131, 3) := by decide +kernel
theorem dX9_asItIs_21 : decode cX9_asItIs 21 = .ok (.return_, 1) := by decide +kernel
theorem dX9_bound_0 : decode cX9_bound 0 = .ok (.iload_n 0, 1) := by decide +kernel
theorem dX9_bound_1 : decode cX9_bound 1 = .ok (.ifCond .ge 7, 3) := by decide +kernel
theorem dX9_bound_4 : decode cX9_bound 4 = .ok (.iconst 0, 1) := by decide +kernel
theorem dX9_bound_5 : decode cX9_bound 5 = .ok (.goto 15, 3) := by decide +kernel
theorem dX9_bound_8 : decode cX9_bound 8 = .ok (.iload_n 0, 1) := by decide +kernel
theorem dX9_bound_9 : decode cX9_bound 9 = .ok (.bipush 99, 2) := by decide +kernel
theorem dX9_bound_11 : decode cX9_bound 11 = .ok (.if_icmp .le 8, 3) := by decide +kernel
theorem dX9_bound_14 : decode cX9_bound 14 = .ok (.bipush 99, 2) := by decide +kernel
theorem dX9_bound_16 : decode cX9_bound 16 = .ok (.goto 4, 3) := by decide +kernel
theorem dX9_bound_19 : decode cX9_bound 19 = .ok (.iload_n 0, 1) := by decide +kernel
theorem dX9_bound_20 : decode cX9_bound 20 = .ok (.ireturn, 1) := by decide +kernel
theorem dX9_lands_0 : decode cX9_lands 0 = .ok (.iconst 1, 1) := by decide +kernel
theorem dX9_lands_1 : decode cX9_lands 1 = .ok (.istore_n 2, 1) := by decide +kernel
theorem dX9_lands_2 : decode cX9_lands 2 = .ok (.iload_n 2, 1) := by decide +kernel
theorem dX9_lands_3 : decode cX9_lands 3 = .ok (.ifCond .eq 160, 3) := by decide +kernel
theorem dX9_lands_6 : decode cX9_lands 6 = .ok (.aload_n 0, 1) := by decide +kernel
theorem dX9_lands_7 : decode cX9_lands 7 = .ok (.getfield 7, 3) := by decide +kernel
theorem dX9_lands_10 : decode cX9_lands 10 = .ok (.iload_n 1, 1) := by decide +kernel
theorem dX9_lands_11 : decode cX9_lands 11 = .ok (.iconst 0, 1) := by decide +kernel
theorem dX9_lands_12 : decode cX9_lands 12 = .ok (.iadd, 1) := by decide +kernel
theorem dX9_lands_13 : decode cX9_lands 13 = .ok (.iaload, 1) := by decide +kernel
theorem dX9_lands_14 : decode cX9_lands 14 = .ok (.istore_n 3, 1) := by decide +kernel
theorem dX9_lands_15 : decode cX9_lands 15 = .ok (.iconst 0, 1) := by decide +kernel
theorem dX9_lands_16 : decode cX9_lands 16 = .ok (.istore_n 2, 1) := by decide +kernel
theorem dX9_lands_17 : decode cX9_lands 17 = .ok (.iload_n 3, 1) := by decide +kernel
theorem dX9_lands_18 : decode cX9_lands 18 = .ok (.aload_n 0, 1) := by decide +kernel
theorem dX9_lands_19 : decode cX9_lands 19 = .ok (.getfield 66, 3) := by decide +kernel
theorem dX9_lands_22 : decode cX9_lands 22 = .ok (.if_icmp .ne 15, 3) := by decide +kernel
theorem dX9_lands_25 : decode cX9_lands 25 = .ok (.aload_n 0, 1) := by decide +kernel
theorem dX9_lands_26 : decode cX9_lands 26 = .ok (.getfield 7, 3) := by decide +kernel
theorem dX9_lands_29 : decode cX9_lands 29 = .ok (.iload_n 1, 1) := by decide +kernel
theorem dX9_lands_30 : decode cX9_lands 30 = .ok (.iconst 1, 1) := by decide +kernel
theorem dX9_lands_31 : decode cX9_lands 31 = .ok (.iadd, 1) := by decide +kernel
theorem dX9_lands_32 : decode cX9_lands 32 = .ok (.iconst 0, 1) := by decide +kernel
theorem dX9_lands_33 : decode cX9_lands 33 = .ok (.iastore, 1) := by decide +kernel
theorem dX9_lands_34 : decode cX9_lands 34 = .ok (.goto 126, 3) := by decide +kernel
theorem dX9_lands_37 : decode cX9_lands 37 = .ok (.aload_n 0, 1) := by decide +kernel
theorem dX9_lands_38 : decode cX9_lands 38 = .ok (.getfield 7, 3) := by decide +kernel
theorem dX9_lands_41 : decode cX9_lands 41 = .ok (.iload_n 1, 1) := by decide +kernel
theorem dX9_lands_42 : decode cX9_lands 42 = .ok (.iconst 1, 1) := by decide +kernel
theorem dX9_lands_43 : decode cX9_lands 43 = .ok (.iadd, 1) := by decide +kernel
theorem dX9_lands_44 : decode cX9_lands 44 = .ok (.iaload, 1) := by decide +kernel
theorem dX9_lands_45 : decode cX9_lands 45 = .ok (.aload_n 0, 1) := by decide +kernel
theorem dX9_lands_46 : decode cX9_lands 46 = .ok (.getfield 7, 3) := by decide +kernel
theorem dX9_lands_49 : decode cX9_lands 49 = .ok (.iload_n 1, 1) := by decide +kernel
theorem dX9_lands_50 : decode cX9_lands 50 = .ok (.iconst 3, 1) := by decide +kernel
theorem dX9_lands_51 : decode cX9_lands 51 = .ok (.iadd, 1) := by decide +kernel
theorem dX9_lands_52 : decode cX9_lands 52 = .ok (.iload_n 3, 1) := by decide +kernel
theorem dX9_lands_53 : decode cX9_lands 53 = .ok (.iadd, 1) := by decide +kernel
theorem dX9_lands_54 : decode cX9_lands 54 = .ok (.iaload, 1) := by decide +kernel
theorem dX9_lands_55 : decode cX9_lands 55 = .ok (.isub, 1) := by decide +kernel
theorem dX9_lands_56 : decode cX9_lands 56 = .ok (.invokestatic 134, 3) := by decide +kernel
theorem dX9_lands_59 : decode cX9_lands 59 = .ok (.istore 4, 2) := by decide +kernel
theorem dX9_lands_61 : decode cX9_lands 61 = .ok (.iload 4, 2) := by decide +kernel
theorem dX9_lands_63 : decode cX9_lands 63 = .ok (.aload_n 0, 1) := by decide +kernel
theorem dX9_lands_64 : decode cX9_lands 64 = .ok (.getfield 13, 3) := by decide +kernel
theorem dX9_lands_67 : decode cX9_lands 67 = .ok (.aload_n 0, 1) := by decide +kernel
theorem dX9_lands_68 : decode cX9_lands 68 = .ok (.getfield 26, 3) := by decide +kernel
theorem dX9_lands_71 : decode cX9_lands 71 = .ok (.iload_n 3, 1) := by decide +kernel
theorem dX9_lands_72 : decode cX9_lands 72 = .ok (.iaload, 1) := by decide +kernel
theorem dX9_lands_73 : decode cX9_lands 73 = .ok (.iadd, 1) := by decide +kernel
theorem dX9_lands_74 : decode cX9_lands 74 = .ok (.if_icmp .le 7, 3) := by decide +kernel
theorem dX9_lands_77 : decode cX9_lands 77 = .ok (.iconst 1, 1) := by decide +kernel
theorem dX9_lands_78 : decode cX9_lands 78 = .ok (.goto 4, 3) := by decide +kernel
theorem dX9_lands_81 : decode cX9_lands 81 = .ok (.iconst 0, 1) := by decide +kernel
theorem dX9_lands_82 : decode cX9_lands 82 = .ok (.istore_n 2, 1) := by decide +kernel
theorem dX9_lands_83 : decode cX9_lands 83 = .ok (.aload_n 0, 1) := by decide +kernel
theorem dX9_lands_84 : decode cX9_lands 84 = .ok (.getfield 7, 3) := by decide +kernel
theorem dX9_lands_87 : decode cX9_lands 87 = .ok (.iload_n 1, 1) := by decide +kernel
theorem dX9_lands_88 : decode cX9_lands 88 = .ok (.iconst 1, 1) := by decide +kernel
theorem dX9_lands_89 : decode cX9_lands 89 = .ok (.iadd, 1) := by decide +kernel
theorem dX9_lands_90 : decode cX9_lands 90 = .ok (.iload_n 2, 1) := by decide +kernel
theorem dX9_lands_91 : decode cX9_lands 91 = .ok (.ifCond .eq 27, 3) := by decide +kernel
theorem dX9_lands_94 : decode cX9_lands 94 = .ok (.iload 4, 2) := by decide +kernel
theorem dX9_lands_96 : decode cX9_lands 96 = .ok (.aload_n 0, 1) := by decide +kernel
theorem dX9_lands_97 : decode cX9_lands 97 = .ok (.getfield 23, 3) := by decide +kernel
theorem dX9_lands_100 : decode cX9_lands 100 = .ok (.iload_n 3, 1) := by decide +kernel
theorem dX9_lands_101 : decode cX9_lands 101 = .ok (.iaload, 1) := by decide +kernel
theorem dX9_lands_102 : decode cX9_lands 102 = .ok (.iadd, 1) := by decide +kernel
theorem dX9_lands_103 : decode cX9_lands 103 = .ok (.iconst 2, 1) := by decide +kernel
theorem dX9_lands_104 : decode cX9_lands 104 = .ok (.aload_n 0, 1) := by decide +kernel
theorem dX9_lands_105 : decode cX9_lands 105 = .ok (.getfield 128, 3) := by decide +kernel
theorem dX9_lands_108 : decode cX9_lands 108 = .ok (.imul, 1) := by decide +kernel
theorem dX9_lands_109 : decode cX9_lands 109 = .ok (.isub, 1) := by decide +kernel
theorem dX9_lands_110 : decode cX9_lands 110 = .ok (.iconst 1, 1) := by decide +kernel
theorem dX9_lands_111 : decode cX9_lands 111 = .ok (.isub, 1) := by decide +kernel
theorem dX9_lands_112 : decode cX9_lands 112 = .ok (.invokestatic 134, 3) := by decide +kernel
theorem dX9_lands_115 : decode cX9_lands 115 = .ok (.goto 5, 3) := by decide +kernel
theorem dX9_lands_118 : decode cX9_lands 118 = .ok (.iload 4, 2) := by decide +kernel
theorem dX9_lands_120 : decode cX9_lands 120 = .ok (.iastore, 1) := by decide +kernel
theorem dX9_lands_121 : decode cX9_lands 121 = .ok (.aload_n 0, 1) := by decide +kernel
theorem dX9_lands_122 : decode cX9_lands 122 = .ok (.getfield 7, 3) := by decide +kernel
theorem dX9_lands_125 : decode cX9_lands 125 = .ok (.iload_n 1, 1) := by decide +kernel
theorem dX9_lands_126 : decode cX9_lands 126 = .ok (.iconst 0, 1) := by decide +kernel
theorem dX9_lands_127 : decode cX9_lands 127 = .ok (.iadd, 1) := by decide +kernel
theorem dX9_lands_128 : decode cX9_lands 128 = .ok (.iload_n 2, 1) := by decide +kernel
theorem dX9_lands_129 : decode cX9_lands 129 = .ok (.ifCond .eq 9, 3) := by decide +kernel
theorem dX9_lands_132 : decode cX9_lands 132 = .ok (.iload_n 3, 1) := by decide +kernel
theorem dX9_lands_133 : decode cX9_lands 133 = .ok (.iconst 1, 1) := by decide +kernel
theorem dX9_lands_134 : decode cX9_lands 134 = .ok (.iadd, 1) := by decide +kernel
theorem dX9_lands_135 : decode cX9_lands 135 = .ok (.goto 4, 3) := by decide +kernel
theorem dX9_lands_138 : decode cX9_lands 138 = .ok (.iload_n 3, 1) := by decide +kernel
theorem dX9_lands_139 : decode cX9_lands 139 = .ok (.iastore, 1) := by decide +kernel
theorem dX9_lands_140 : decode cX9_lands 140 = .ok (.aload_n 0, 1) := by decide +kernel
theorem dX9_lands_141 : decode cX9_lands 141 = .ok (.dup, 1) := by decide +kernel
theorem dX9_lands_142 : decode cX9_lands 142 = .ok (.getfield 131, 3) := by decide +kernel
theorem dX9_lands_145 : decode cX9_lands 145 = .ok (.iload_n 2, 1) := by decide +kernel
theorem dX9_lands_146 : decode cX9_lands 146 = .ok (.ifCond .eq 9, 3) := by decide +kernel
theorem dX9_lands_149 : decode cX9_lands 149 = .ok (.iconst 1, 1) := by decide +kernel
theorem dX9_lands_150 : decode cX9_lands 150 = .ok (.iload_n 3, 1) := by decide +kernel
theorem dX9_lands_151 : decode cX9_lands 151 = .ok (.ishl, 1) := by decide +kernel
theorem dX9_lands_152 : decode cX9_lands 152 = .ok (.goto 4, 3) := by decide +kernel
theorem dX9_lands_155 : decode cX9_lands 155 = .ok (.iconst 0, 1) := by decide +kernel
theorem dX9_lands_156 : decode cX9_lands 156 = .ok (.ior, 1) := by decide +kernel
theorem dX9_lands_157 : decode cX9_lands 157 = .ok (.putfield 131, 3) := by decide +kernel
theorem dX9_lands_160 : decode cX9_lands 160 = .ok (.goto (-158), 3) := by decide +kernel
theorem dX9_lands_163 : decode cX9_lands 163 = .ok (.return_, 1) := by decide +kernel
theorem dX9_flip_0 : decode cX9_flip 0 = .ok (.aload_n 0, 1) := by decide +kernel
theorem dX9_flip_1 : decode cX9_flip 1 = .ok (.getfield 7, 3) := by decide +kernel
theorem dX9_flip_4 : decode cX9_flip 4 = .ok (.iload_n 1, 1) := by decide +kernel
theorem dX9_flip_5 : decode cX9_flip 5 = .ok (.iconst 1, 1) := by decide +kernel
theorem dX9_flip_6 : decode cX9_flip 6 = .ok (.iadd, 1) := by decide +kernel
theorem dX9_flip_7 : decode cX9_flip 7 = .ok (.iaload, 1) := by decide +kernel
theorem dX9_flip_8 : decode cX9_flip 8 = .ok (.istore_n 2, 1) := by decide +kernel
theorem dX9_flip_9 : decode cX9_flip 9 = .ok (.iload_n 2, 1) := by decide +kernel
theorem dX9_flip_10 : decode cX9_flip 10 = .ok (.aload_n 0, 1) := by decide +kernel
theorem dX9_flip_11 : decode cX9_flip 11 = .ok (.getfield 125, 3) := by decide +kernel
theorem dX9_flip_14 : decode cX9_flip 14 = .ok (.if_icmp .ge 15, 3) := by decide +kernel
theorem dX9_flip_17 : decode cX9_flip 17 = .ok (.aload_n 0, 1) := by decide +kernel
theorem dX9_flip_18 : decode cX9_flip 18 = .ok (.getfield 7, 3) := by decide +kernel
theorem dX9_flip_21 : decode cX9_flip 21 = .ok (.iload_n 1, 1) := by decide +kernel
theorem dX9_flip_22 : decode cX9_flip 22 = .ok (.iconst 1, 1) := by decide +kernel
theorem dX9_flip_23 : decode cX9_flip 23 = .ok (.iadd, 1) := by decide +kernel
theorem dX9_flip_24 : decode cX9_flip 24 = .ok (.iconst 0, 1) := by decide +kernel
theorem dX9_flip_25 : decode cX9_flip 25 = .ok (.iastore, 1) := by decide +kernel
theorem dX9_flip_26 : decode cX9_flip 26 = .ok (.goto 56, 3) := by decide +kernel
theorem dX9_flip_29 : decode cX9_flip 29 = .ok (.aload_n 0, 1) := by decide +kernel
theorem dX9_flip_30 : decode cX9_flip 30 = .ok (.getfield 7, 3) := by decide +kernel
theorem dX9_flip_33 : decode cX9_flip 33 = .ok (.iload_n 1, 1) := by decide +kernel
theorem dX9_flip_34 : decode cX9_flip 34 = .ok (.iconst 1, 1) := by decide +kernel
theorem dX9_flip_35 : decode cX9_flip 35 = .ok (.iadd, 1) := by decide +kernel
theorem dX9_flip_36 : decode cX9_flip 36 = .ok (.iload_n 2, 1) := by decide +kernel
theorem dX9_flip_37 : decode cX9_flip 37 = .ok (.aload_n 0, 1) := by decide +kernel
theorem dX9_flip_38 : decode cX9_flip 38 = .ok (.getfield 125, 3) := by decide +kernel
theorem dX9_flip_41 : decode cX9_flip 41 = .ok (.isub, 1) := by decide +kernel
theorem dX9_flip_42 : decode cX9_flip 42 = .ok (.aload_n 0, 1) := by decide +kernel
theorem dX9_flip_43 : decode cX9_flip 43 = .ok (.getfield 23, 3) := by decide +kernel
theorem dX9_flip_46 : decode cX9_flip 46 = .ok (.aload_n 0, 1) := by decide +kernel
theorem dX9_flip_47 : decode cX9_flip 47 = .ok (.getfield 7, 3) := by decide +kernel
theorem dX9_flip_50 : decode cX9_flip 50 = .ok (.iload_n 1, 1) := by decide +kernel
theorem dX9_flip_51 : decode cX9_flip 51 = .ok (.iconst 0, 1) := by decide +kernel
theorem dX9_flip_52 : decode cX9_flip 52 = .ok (.iadd, 1) := by decide +kernel
theorem dX9_flip_53 : decode cX9_flip 53 = .ok (.iaload, 1) := by decide +kernel
theorem dX9_flip_54 : decode cX9_flip 54 = .ok (.iaload, 1) := by decide +kernel
theorem dX9_flip_55 : decode cX9_flip 55 = .ok (.iadd, 1) := by decide +kernel
theorem dX9_flip_56 : decode cX9_flip 56 = .ok (.aload_n 0, 1) := by decide +kernel
theorem dX9_flip_57 : decode cX9_flip 57 = .ok (.getfield 128, 3) := by decide +kernel
theorem dX9_flip_60 : decode cX9_flip 60 = .ok (.isub, 1) := by decide +kernel
theorem dX9_flip_61 : decode cX9_flip 61 = .ok (.invokestatic 134, 3) := by decide +kernel
theorem dX9_flip_64 : decode cX9_flip 64 = .ok (.iastore, 1) := by decide +kernel
theorem dX9_flip_65 : decode cX9_flip 65 = .ok (.aload_n 0, 1) := by decide +kernel
theorem dX9_flip_66 : decode cX9_flip 66 = .ok (.getfield 7, 3) := by decide +kernel
theorem dX9_flip_69 : decode cX9_flip 69 = .ok (.iload_n 1, 1) := by decide +kernel
theorem dX9_flip_70 : decode cX9_flip 70 = .ok (.iconst 0, 1) := by decide +kernel
theorem dX9_flip_71 : decode cX9_flip 71 = .ok (.iadd, 1) := by decide +kernel
theorem dX9_flip_72 : decode cX9_flip 72 = .ok (.dup2, 1) := by decide +kernel
theorem dX9_flip_73 : decode cX9_flip 73 = .ok (.iaload, 1) := by decide +kernel
theorem dX9_flip_74 : decode cX9_flip 74 = .ok (.iconst 1, 1) := by decide +kernel
theorem dX9_flip_75 : decode cX9_flip 75 = .ok (.iadd, 1) := by decide +kernel
theorem dX9_flip_76 : decode cX9_flip 76 = .ok (.iastore, 1) := by decide +kernel
theorem dX9_flip_77 : decode cX9_flip 77 = .ok (.aload_n 0, 1) := by decide +kernel
theorem dX9_flip_78 : decode cX9_flip 78 = .ok (.iload_n 1, 1) := by decide +kernel
theorem dX9_flip_79 : decode cX9_flip 79 = .ok (.invokevirtual 138, 3) := by decide +kernel
theorem dX9_flip_82 : decode cX9_flip 82 = .ok (.aload_n 0, 1) := by decide +kernel
theorem dX9_flip_83 : decode cX9_flip 83 = .ok (.getfield 7, 3) := by decide +kernel
theorem dX9_flip_86 : decode cX9_flip 86 = .ok (.iload_n 1, 1) := by decide +kernel
theorem dX9_flip_87 : decode cX9_flip 87 = .ok (.iconst 2, 1) := by decide +kernel
theorem dX9_flip_88 : decode cX9_flip 88 = .ok (.iadd, 1) := by decide +kernel
theorem dX9_flip_89 : decode cX9_flip 89 = .ok (.dup2, 1) := by decide +kernel
theorem dX9_flip_90 : decode cX9_flip 90 = .ok (.iaload, 1) := by decide +kernel
theorem dX9_flip_91 : decode cX9_flip 91 = .ok (.aload_n 0, 1) := by decide +kernel
theorem dX9_flip_92 : decode cX9_flip 92 = .ok (.getfield 7, 3) := by decide +kernel
theorem dX9_flip_95 : decode cX9_flip 95 = .ok (.iload_n 1, 1) := by decide +kernel
theorem dX9_flip_96 : decode cX9_flip 96 = .ok (.iconst 2, 1) := by decide +kernel
theorem dX9_flip_97 : decode cX9_flip 97 = .ok (.iadd, 1) := by decide +kernel
theorem dX9_flip_98 : decode cX9_flip 98 = .ok (.iaload, 1) := by decide +kernel
theorem dX9_flip_99 : decode cX9_flip 99 = .ok (.sipush 999, 3) := by decide +kernel
theorem dX9_flip_102 : decode cX9_flip 102 = .ok (.if_icmp .ge 7, 3) := by decide +kernel
theorem dX9_flip_105 : decode cX9_flip 105 = .ok (.iconst 1, 1) := by decide +kernel
theorem dX9_flip_106 : decode cX9_flip 106 = .ok (.goto 4, 3) := by decide +kernel
theorem dX9_flip_109 : decode cX9_flip 109 = .ok (.iconst 0, 1) := by decide +kernel
theorem dX9_flip_110 : decode cX9_flip 110 = .ok (.iadd, 1) := by decide +kernel
theorem dX9_flip_111 : decode cX9_flip 111 = .ok (.iastore, 1) := by decide +kernel
theorem dX9_flip_112 : decode cX9_flip 112 = .ok (.return_, 1) := by decide +kernel
theorem dX9_runs_0 : decode cX9_runs 0 = .ok (.iconst 0, 1) := by decide +kernel
theorem dX9_runs_1 : decode cX9_runs 1 = .ok (.istore_n 1, 1) := by decide +kernel
theorem dX9_runs_2 : decode cX9_runs 2 = .ok (.aload_n 0, 1) := by decide +kernel
theorem dX9_runs_3 : decode cX9_runs 3 = .ok (.getfield 7, 3) := by decide +kernel
theorem dX9_runs_6 : decode cX9_runs 6 = .ok (.sipush 157, 3) := by decide +kernel
theorem dX9_runs_9 : decode cX9_runs 9 = .ok (.iaload, 1) := by decide +kernel
theorem dX9_runs_10 : decode cX9_runs 10 = .ok (.ifCond .le 16, 3) := by decide +kernel
theorem dX9_runs_13 : decode cX9_runs 13 = .ok (.aload_n 0, 1) := by decide +kernel
theorem dX9_runs_14 : decode cX9_runs 14 = .ok (.sipush 156, 3) := by decide +kernel
theorem dX9_runs_17 : decode cX9_runs 17 = .ok (.invokevirtual 142, 3) := by decide +kernel
theorem dX9_runs_20 : decode cX9_runs 20 = .ok (.iinc 1 1, 3) := by decide +kernel
theorem dX9_runs_23 : decode cX9_runs 23 = .ok (.goto (-21), 3) := by decide +kernel
theorem dX9_runs_26 : decode cX9_runs 26 = .ok (.iload_n 1, 1) := by decide +kernel
theorem dX9_runs_27 : decode cX9_runs 27 = .ok (.ireturn, 1) := by decide +kernel
theorem dX9_layTried_0 : decode cX9_layTried 0 = .ok (.aload_n 0, 1) := by decide +kernel
theorem dX9_layTried_1 : decode cX9_layTried 1 = .ok (.iconst 0, 1) := by decide +kernel
theorem dX9_layTried_2 : decode cX9_layTried 2 = .ok (.sipush 156, 3) := by decide +kernel
theorem dX9_layTried_5 : decode cX9_layTried 5 = .ok (.invokevirtual 145, 3) := by decide +kernel
theorem dX9_layTried_8 : decode cX9_layTried 8 = .ok (.aload_n 0, 1) := by decide +kernel
theorem dX9_layTried_9 : decode cX9_layTried 9 = .ok (.invokevirtual 149, 3) := by decide +kernel
theorem dX9_layTried_12 : decode cX9_layTried 12 = .ok (.return_, 1) := by decide +kernel
theorem dX9_leastFrom_0 : decode cX9_leastFrom 0 = .ok (.ldc 152, 2) := by decide +kernel
theorem dX9_leastFrom_2 : decode cX9_leastFrom 2 = .ok (.istore_n 3, 1) := by decide +kernel
theorem dX9_leastFrom_3 : decode cX9_leastFrom 3 = .ok (.bipush 9, 2) := by decide +kernel
theorem dX9_leastFrom_5 : decode cX9_leastFrom 5 = .ok (.istore 4, 2) := by decide +kernel
theorem dX9_leastFrom_7 : decode cX9_leastFrom 7 = .ok (.iload 4, 2) := by decide +kernel
theorem dX9_leastFrom_9 : decode cX9_leastFrom 9 = .ok (.ifCond .lt 123, 3) := by decide +kernel
theorem dX9_leastFrom_12 : decode cX9_leastFrom 12 = .ok (.iload_n 2, 1) := by decide +kernel
theorem dX9_leastFrom_13 : decode cX9_leastFrom 13 = .ok (.iload 4, 2) := by decide +kernel
theorem dX9_leastFrom_15 : decode cX9_leastFrom 15 = .ok (.iadd, 1) := by decide +kernel
theorem dX9_leastFrom_16 : decode cX9_leastFrom 16 = .ok (.invokestatic 134, 3) := by decide +kernel
theorem dX9_leastFrom_19 : decode cX9_leastFrom 19 = .ok (.istore 5, 2) := by decide +kernel
theorem dX9_leastFrom_21 : decode cX9_leastFrom 21 = .ok (.iload 5, 2) := by decide +kernel
theorem dX9_leastFrom_23 : decode cX9_leastFrom 23 = .ok (.aload_n 0, 1) := by decide +kernel
theorem dX9_leastFrom_24 : decode cX9_leastFrom 24 = .ok (.getfield 17, 3) := by decide +kernel
theorem dX9_leastFrom_27 : decode cX9_leastFrom 27 = .ok (.if_icmp .lt 99, 3) := by decide +kernel
theorem dX9_leastFrom_30 : decode cX9_leastFrom 30 = .ok (.aload_n 0, 1) := by decide +kernel
theorem dX9_leastFrom_31 : decode cX9_leastFrom 31 = .ok (.iconst 0, 1) := by decide +kernel
theorem dX9_leastFrom_32 : decode cX9_leastFrom 32 = .ok (.sipush 156, 3) := by decide +kernel
theorem dX9_leastFrom_35 : decode cX9_leastFrom 35 = .ok (.invokevirtual 145, 3) := by decide +kernel
theorem dX9_leastFrom_38 : decode cX9_leastFrom 38 = .ok (.aload_n 0, 1) := by decide +kernel
theorem dX9_leastFrom_39 : decode cX9_leastFrom 39 = .ok (.getfield 7, 3) := by decide +kernel
theorem dX9_leastFrom_42 : decode cX9_leastFrom 42 = .ok (.sipush 156, 3) := by decide +kernel
theorem dX9_leastFrom_45 : decode cX9_leastFrom 45 = .ok (.iload_n 1, 1) := by decide +kernel
theorem dX9_leastFrom_46 : decode cX9_leastFrom 46 = .ok (.iastore, 1) := by decide +kernel
theorem dX9_leastFrom_47 : decode cX9_leastFrom 47 = .ok (.aload_n 0, 1) := by decide +kernel
theorem dX9_leastFrom_48 : decode cX9_leastFrom 48 = .ok (.getfield 7, 3) := by decide +kernel
theorem dX9_leastFrom_51 : decode cX9_leastFrom 51 = .ok (.sipush 157, 3) := by decide +kernel
theorem dX9_leastFrom_54 : decode cX9_leastFrom 54 = .ok (.iload 5, 2) := by decide +kernel
theorem dX9_leastFrom_56 : decode cX9_leastFrom 56 = .ok (.iastore, 1) := by decide +kernel
theorem dX9_leastFrom_57 : decode cX9_leastFrom 57 = .ok (.aload_n 0, 1) := by decide +kernel
theorem dX9_leastFrom_58 : decode cX9_leastFrom 58 = .ok (.sipush 156, 3) := by decide +kernel
theorem dX9_leastFrom_61 : decode cX9_leastFrom 61 = .ok (.invokevirtual 142, 3) := by decide +kernel
theorem dX9_leastFrom_64 : decode cX9_leastFrom 64 = .ok (.iload 4, 2) := by decide +kernel
theorem dX9_leastFrom_66 : decode cX9_leastFrom 66 = .ok (.aload_n 0, 1) := by decide +kernel
theorem dX9_leastFrom_67 : decode cX9_leastFrom 67 = .ok (.getfield 57, 3) := by decide +kernel
theorem dX9_leastFrom_70 : decode cX9_leastFrom 70 = .ok (.bipush 100, 2) := by decide +kernel
theorem dX9_leastFrom_72 : decode cX9_leastFrom 72 = .ok (.aload_n 0, 1) := by decide +kernel
theorem dX9_leastFrom_73 : decode cX9_leastFrom 73 = .ok (.getfield 7, 3) := by decide +kernel
