theorem dX9_copyRow_19 : decode cX9_copyRow 19 = .ok (.iload_n 1, 1) := by decide +kernel
theorem dX9_copyRow_20 : decode cX9_copyRow 20 = .ok (.iload_n 3, 1) := by decide +kernel
theorem dX9_copyRow_21 : decode cX9_copyRow 21 = .ok (.iadd, 1) := by decide +kernel
theorem dX9_copyRow_22 : decode cX9_copyRow 22 = .ok (.iaload, 1) := by decide +kernel
theorem dX9_copyRow_23 : decode cX9_copyRow 23 = .ok (.iastore, 1) := by decide +kernel
theorem dX9_copyRow_24 : decode cX9_copyRow 24 = .ok (.iinc 3 1, 3) := by decide +kernel
theorem dX9_copyRow_27 : decode cX9_copyRow 27 = .ok (.goto (-25), 3) := by decide +kernel
theorem dX9_copyRow_30 : decode cX9_copyRow 30 = .ok (.return_, 1) := by decide +kernel
set_option maxRecDepth 20000 in
theorem ggX9_isStep_X9_in : GoodIn wsX9_isStep wsX9_in := goodIn_r _ [5] (by decide +kernel) (by decide +kernel)
set_option maxRecDepth 20000 in
theorem gX9_isStep_X9_in : GoodIn wsX9_isStep (va_wsS RX9 69 yX9_in wsX9_in) := goodIn_app (goodIn_of _ (by decide +kernel)) ggX9_isStep_X9_in
theorem dX9_isStep_0 : decode cX9_isStep 0 = .ok (.iload_n 1, 1) := by decide +kernel
theorem dX9_isStep_1 : decode cX9_isStep 1 = .ok (.iconst 0, 1) := by decide +kernel
theorem dX9_isStep_2 : decode cX9_isStep 2 = .ok (.aload_n 0, 1) := by decide +kernel
theorem dX9_isStep_3 : decode cX9_isStep 3 = .ok (.getfield 66, 3) := by decide +kernel
theorem dX9_isStep_6 : decode cX9_isStep 6 = .ok (.iconst 1, 1) := by decide +kernel
theorem dX9_isStep_7 : decode cX9_isStep 7 = .ok (.isub, 1) := by decide +kernel
theorem dX9_isStep_8 : decode cX9_isStep 8 = .ok (.invokestatic 69, 3) := by decide +kernel
theorem dX9_isStep_11 : decode cX9_isStep 11 = .ok (.ireturn, 1) := by decide +kernel
set_option maxRecDepth 20000 in
theorem ggX9_type_X9_in : GoodIn wsX9_type wsX9_in := goodIn_r _ [6] (by decide +kernel) (by decide +kernel)
set_option maxRecDepth 20000 in
theorem gX9_type_X9_in : GoodIn wsX9_type (va_wsS RX9 69 yX9_in wsX9_in) := goodIn_app (goodIn_of _ (by decide +kernel)) ggX9_type_X9_in
theorem dX9_type_0 : decode cX9_type 0 = .ok (.iload_n 1, 1) := by decide +kernel
theorem dX9_type_1 : decode cX9_type 1 = .ok (.iconst 0, 1) := by decide +kernel
theorem dX9_type_2 : decode cX9_type 2 = .ok (.sipush 255, 3) := by decide +kernel
theorem dX9_type_5 : decode cX9_type 5 = .ok (.invokestatic 69, 3) := by decide +kernel
theorem dX9_type_8 : decode cX9_type 8 = .ok (.ifCond .ne 5, 3) := by decide +kernel
theorem dX9_type_11 : decode cX9_type 11 = .ok (.iconst (-1), 1) := by decide +kernel
theorem dX9_type_12 : decode cX9_type 12 = .ok (.ireturn, 1) := by decide +kernel
theorem dX9_type_13 : decode cX9_type 13 = .ok (.aload_n 0, 1) := by decide +kernel
theorem dX9_type_14 : decode cX9_type 14 = .ok (.getfield 73, 3) := by decide +kernel
theorem dX9_type_17 : decode cX9_type 17 = .ok (.bipush 100, 2) := by decide +kernel
theorem dX9_type_19 : decode cX9_type 19 = .ok (.if_icmp .ne 6, 3) := by decide +kernel
theorem dX9_type_22 : decode cX9_type 22 = .ok (.bipush (-3), 2) := by decide +kernel
theorem dX9_type_24 : decode cX9_type 24 = .ok (.ireturn, 1) := by decide +kernel
theorem dX9_type_25 : decode cX9_type 25 = .ok (.aload_n 0, 1) := by decide +kernel
theorem dX9_type_26 : decode cX9_type 26 = .ok (.getfield 33, 3) := by decide +kernel
theorem dX9_type_29 : decode cX9_type 29 = .ok (.aload_n 0, 1) := by decide +kernel
theorem dX9_type_30 : decode cX9_type 30 = .ok (.getfield 73, 3) := by decide +kernel
theorem dX9_type_33 : decode cX9_type 33 = .ok (.iload_n 1, 1) := by decide +kernel
theorem dX9_type_34 : decode cX9_type 34 = .ok (.iastore, 1) := by decide +kernel
theorem dX9_type_35 : decode cX9_type 35 = .ok (.aload_n 0, 1) := by decide +kernel
theorem dX9_type_36 : decode cX9_type 36 = .ok (.dup, 1) := by decide +kernel
theorem dX9_type_37 : decode cX9_type 37 = .ok (.getfield 73, 3) := by decide +kernel
theorem dX9_type_40 : decode cX9_type 40 = .ok (.iconst 1, 1) := by decide +kernel
theorem dX9_type_41 : decode cX9_type 41 = .ok (.iadd, 1) := by decide +kernel
theorem dX9_type_42 : decode cX9_type 42 = .ok (.putfield 73, 3) := by decide +kernel
theorem dX9_type_45 : decode cX9_type 45 = .ok (.aload_n 0, 1) := by decide +kernel
theorem dX9_type_46 : decode cX9_type 46 = .ok (.getfield 73, 3) := by decide +kernel
theorem dX9_type_49 : decode cX9_type 49 = .ok (.ireturn, 1) := by decide +kernel
theorem dX9_clear_0 : decode cX9_clear 0 = .ok (.aload_n 0, 1) := by decide +kernel
theorem dX9_clear_1 : decode cX9_clear 1 = .ok (.getfield 73, 3) := by decide +kernel
theorem dX9_clear_4 : decode cX9_clear 4 = .ok (.istore_n 1, 1) := by decide +kernel
theorem dX9_clear_5 : decode cX9_clear 5 = .ok (.aload_n 0, 1) := by decide +kernel
theorem dX9_clear_6 : decode cX9_clear 6 = .ok (.iconst 0, 1) := by decide +kernel
theorem dX9_clear_7 : decode cX9_clear 7 = .ok (.putfield 73, 3) := by decide +kernel
theorem dX9_clear_10 : decode cX9_clear 10 = .ok (.iload_n 1, 1) := by decide +kernel
theorem dX9_clear_11 : decode cX9_clear 11 = .ok (.ireturn, 1) := by decide +kernel
set_option maxRecDepth 20000 in
theorem ggX9_isFigure_X9_in : GoodIn wsX9_isFigure wsX9_in := goodIn_r _ [6] (by decide +kernel) (by decide +kernel)
set_option maxRecDepth 20000 in
theorem gX9_isFigure_X9_in : GoodIn wsX9_isFigure (va_wsS RX9 69 yX9_in wsX9_in) := goodIn_app (goodIn_of _ (by decide +kernel)) ggX9_isFigure_X9_in
theorem dX9_isFigure_0 : decode cX9_isFigure 0 = .ok (.iload_n 1, 1) := by decide +kernel
theorem dX9_isFigure_1 : decode cX9_isFigure 1 = .ok (.aload_n 0, 1) := by decide +kernel
theorem dX9_isFigure_2 : decode cX9_isFigure 2 = .ok (.getfield 73, 3) := by decide +kernel
theorem dX9_isFigure_5 : decode cX9_isFigure 5 = .ok (.if_icmp .ge 23, 3) := by decide +kernel
theorem dX9_isFigure_8 : decode cX9_isFigure 8 = .ok (.aload_n 0, 1) := by decide +kernel
theorem dX9_isFigure_9 : decode cX9_isFigure 9 = .ok (.getfield 33, 3) := by decide +kernel
theorem dX9_isFigure_12 : decode cX9_isFigure 12 = .ok (.iload_n 1, 1) := by decide +kernel
theorem dX9_isFigure_13 : decode cX9_isFigure 13 = .ok (.iaload, 1) := by decide +kernel
theorem dX9_isFigure_14 : decode cX9_isFigure 14 = .ok (.bipush 48, 2) := by decide +kernel
theorem dX9_isFigure_16 : decode cX9_isFigure 16 = .ok (.bipush 57, 2) := by decide +kernel
theorem dX9_isFigure_18 : decode cX9_isFigure 18 = .ok (.invokestatic 69, 3) := by decide +kernel
theorem dX9_isFigure_21 : decode cX9_isFigure 21 = .ok (.ifCond .eq 7, 3) := by decide +kernel
theorem dX9_isFigure_24 : decode cX9_isFigure 24 = .ok (.iconst 1, 1) := by decide +kernel
theorem dX9_isFigure_25 : decode cX9_isFigure 25 = .ok (.goto 4, 3) := by decide +kernel
theorem dX9_isFigure_28 : decode cX9_isFigure 28 = .ok (.iconst 0, 1) := by decide +kernel
theorem dX9_isFigure_29 : decode cX9_isFigure 29 = .ok (.ireturn, 1) := by decide +kernel
set_option maxRecDepth 20000 in
theorem ggX9_nextToken_X9_isFigure : GoodIn wsX9_nextToken wsX9_isFigure := goodIn_r _ [9, 3, 4, 10, 11, 8, 12, 13, 14, 15, 16, 17, 18, 19, 20, 21, 22, 23, 24, 25, 26, 27, 28, 29, 30, 31, 32, 33, 34, 35, 36, 37, 38, 39, 40, 41, 42, 43, 44] (by decide +kernel) (by decide +kernel)
set_option maxRecDepth 20000 in
theorem gX9_nextToken_X9_isFigure : GoodIn wsX9_nextToken (wsV RX9 82 RX9 yX9_isFigure wsX9_isFigure) := goodIn_app (goodIn_of _ (by decide +kernel)) ggX9_nextToken_X9_isFigure
theorem dX9_nextToken_0 : decode cX9_nextToken 0 = .ok (.aload_n 0, 1) := by decide +kernel
theorem dX9_nextToken_1 : decode cX9_nextToken 1 = .ok (.aload_n 0, 1) := by decide +kernel
theorem dX9_nextToken_2 : decode cX9_nextToken 2 = .ok (.getfield 76, 3) := by decide +kernel
theorem dX9_nextToken_5 : decode cX9_nextToken 5 = .ok (.putfield 79, 3) := by decide +kernel
theorem dX9_nextToken_8 : decode cX9_nextToken 8 = .ok (.aload_n 0, 1) := by decide +kernel
theorem dX9_nextToken_9 : decode cX9_nextToken 9 = .ok (.getfield 79, 3) := by decide +kernel
theorem dX9_nextToken_12 : decode cX9_nextToken 12 = .ok (.aload_n 0, 1) := by decide +kernel
theorem dX9_nextToken_13 : decode cX9_nextToken 13 = .ok (.getfield 73, 3) := by decide +kernel
theorem dX9_nextToken_16 : decode cX9_nextToken 16 = .ok (.if_icmp .ge 30, 3) := by decide +kernel
theorem dX9_nextToken_19 : decode cX9_nextToken 19 = .ok (.aload_n 0, 1) := by decide +kernel
theorem dX9_nextToken_20 : decode cX9_nextToken 20 = .ok (.getfield 33, 3) := by decide +kernel
theorem dX9_nextToken_23 : decode cX9_nextToken 23 = .ok (.aload_n 0, 1) := by decide +kernel
theorem dX9_nextToken_24 : decode cX9_nextToken 24 = .ok (.getfield 79, 3) := by decide +kernel
theorem dX9_nextToken_27 : decode cX9_nextToken 27 = .ok (.iaload, 1) := by decide +kernel
theorem dX9_nextToken_28 : decode cX9_nextToken 28 = .ok (.bipush 32, 2) := by decide +kernel
theorem dX9_nextToken_30 : decode cX9_nextToken 30 = .ok (.if_icmp .ne 16, 3) := by decide +kernel
theorem dX9_nextToken_33 : decode cX9_nextToken 33 = .ok (.aload_n 0, 1) := by decide +kernel
theorem dX9_nextToken_34 : decode cX9_nextToken 34 = .ok (.dup, 1) := by decide +kernel
theorem dX9_nextToken_35 : decode cX9_nextToken 35 = .ok (.getfield 79, 3) := by decide +kernel
theorem dX9_nextToken_38 : decode cX9_nextToken 38 = .ok (.iconst 1, 1) := by decide +kernel
theorem dX9_nextToken_39 : decode cX9_nextToken 39 = .ok (.iadd, 1) := by decide +kernel
theorem dX9_nextToken_40 : decode cX9_nextToken 40 = .ok (.putfield 79, 3) := by decide +kernel
theorem dX9_nextToken_43 : decode cX9_nextToken 43 = .ok (.goto (-35), 3) := by decide +kernel
theorem dX9_nextToken_46 : decode cX9_nextToken 46 = .ok (.aload_n 0, 1) := by decide +kernel
theorem dX9_nextToken_47 : decode cX9_nextToken 47 = .ok (.aload_n 0, 1) := by decide +kernel
theorem dX9_nextToken_48 : decode cX9_nextToken 48 = .ok (.getfield 79, 3) := by decide +kernel
theorem dX9_nextToken_51 : decode cX9_nextToken 51 = .ok (.aload_n 0, 1) := by decide +kernel
theorem dX9_nextToken_52 : decode cX9_nextToken 52 = .ok (.getfield 73, 3) := by decide +kernel
theorem dX9_nextToken_55 : decode cX9_nextToken 55 = .ok (.if_icmp .ge 12, 3) := by decide +kernel
theorem dX9_nextToken_58 : decode cX9_nextToken 58 = .ok (.aload_n 0, 1) := by decide +kernel
theorem dX9_nextToken_59 : decode cX9_nextToken 59 = .ok (.getfield 79, 3) := by decide +kernel
theorem dX9_nextToken_62 : decode cX9_nextToken 62 = .ok (.iconst 1, 1) := by decide +kernel
theorem dX9_nextToken_63 : decode cX9_nextToken 63 = .ok (.iadd, 1) := by decide +kernel
theorem dX9_nextToken_64 : decode cX9_nextToken 64 = .ok (.goto 7, 3) := by decide +kernel
theorem dX9_nextToken_67 : decode cX9_nextToken 67 = .ok (.aload_n 0, 1) := by decide +kernel
theorem dX9_nextToken_68 : decode cX9_nextToken 68 = .ok (.getfield 79, 3) := by decide +kernel
theorem dX9_nextToken_71 : decode cX9_nextToken 71 = .ok (.putfield 76, 3) := by decide +kernel
theorem dX9_nextToken_74 : decode cX9_nextToken 74 = .ok (.aload_n 0, 1) := by decide +kernel
theorem dX9_nextToken_75 : decode cX9_nextToken 75 = .ok (.aload_n 0, 1) := by decide +kernel
theorem dX9_nextToken_76 : decode cX9_nextToken 76 = .ok (.getfield 79, 3) := by decide +kernel
theorem dX9_nextToken_79 : decode cX9_nextToken 79 = .ok (.invokevirtual 82, 3) := by decide +kernel
theorem dX9_nextToken_82 : decode cX9_nextToken 82 = .ok (.ifCond .eq 27, 3) := by decide +kernel
theorem dX9_nextToken_85 : decode cX9_nextToken 85 = .ok (.aload_n 0, 1) := by decide +kernel
theorem dX9_nextToken_86 : decode cX9_nextToken 86 = .ok (.aload_n 0, 1) := by decide +kernel
theorem dX9_nextToken_87 : decode cX9_nextToken 87 = .ok (.getfield 76, 3) := by decide +kernel
theorem dX9_nextToken_90 : decode cX9_nextToken 90 = .ok (.invokevirtual 82, 3) := by decide +kernel
theorem dX9_nextToken_93 : decode cX9_nextToken 93 = .ok (.ifCond .eq 16, 3) := by decide +kernel
theorem dX9_nextToken_96 : decode cX9_nextToken 96 = .ok (.aload_n 0, 1) := by decide +kernel
theorem dX9_nextToken_97 : decode cX9_nextToken 97 = .ok (.dup, 1) := by decide +kernel
theorem dX9_nextToken_98 : decode cX9_nextToken 98 = .ok (.getfield 76, 3) := by decide +kernel
theorem dX9_nextToken_101 : decode cX9_nextToken 101 = .ok (.iconst 1, 1) := by decide +kernel
theorem dX9_nextToken_102 : decode cX9_nextToken 102 = .ok (.iadd, 1) := by decide +kernel
theorem dX9_nextToken_103 : decode cX9_nextToken 103 = .ok (.putfield 76, 3) := by decide +kernel
theorem dX9_nextToken_106 : decode cX9_nextToken 106 = .ok (.goto (-32), 3) := by decide +kernel
theorem dX9_nextToken_109 : decode cX9_nextToken 109 = .ok (.return_, 1) := by decide +kernel
theorem dX9_isSign_0 : decode cX9_isSign 0 = .ok (.aload_n 0, 1) := by decide +kernel
theorem dX9_isSign_1 : decode cX9_isSign 1 = .ok (.getfield 79, 3) := by decide +kernel
theorem dX9_isSign_4 : decode cX9_isSign 4 = .ok (.aload_n 0, 1) := by decide +kernel
theorem dX9_isSign_5 : decode cX9_isSign 5 = .ok (.getfield 73, 3) := by decide +kernel
theorem dX9_isSign_8 : decode cX9_isSign 8 = .ok (.if_icmp .ge 20, 3) := by decide +kernel
theorem dX9_isSign_11 : decode cX9_isSign 11 = .ok (.aload_n 0, 1) := by decide +kernel
theorem dX9_isSign_12 : decode cX9_isSign 12 = .ok (.getfield 33, 3) := by decide +kernel
theorem dX9_isSign_15 : decode cX9_isSign 15 = .ok (.aload_n 0, 1) := by decide +kernel
theorem dX9_isSign_16 : decode cX9_isSign 16 = .ok (.getfield 79, 3) := by decide +kernel
theorem dX9_isSign_19 : decode cX9_isSign 19 = .ok (.iaload, 1) := by decide +kernel
theorem dX9_isSign_20 : decode cX9_isSign 20 = .ok (.iload_n 1, 1) := by decide +kernel
theorem dX9_isSign_21 : decode cX9_isSign 21 = .ok (.if_icmp .ne 7, 3) := by decide +kernel
theorem dX9_isSign_24 : decode cX9_isSign 24 = .ok (.iconst 1, 1) := by decide +kernel
theorem dX9_isSign_25 : decode cX9_isSign 25 = .ok (.goto 4, 3) := by decide +kernel
theorem dX9_isSign_28 : decode cX9_isSign 28 = .ok (.iconst 0, 1) := by decide +kernel
theorem dX9_isSign_29 : decode cX9_isSign 29 = .ok (.ireturn, 1) := by decide +kernel
set_option maxRecDepth 20000 in
theorem ggX9_readsNumber_X9_nextToken : GoodIn wsX9_readsNumber wsX9_nextToken := goodIn_r _ [9, 2, 1, 10, 3, 11, 12, 13, 8, 14, 15, 16, 17, 18, 19, 20, 21, 22, 23, 24, 25, 26, 27, 28, 29, 30, 31, 32, 33, 34, 35, 36, 37, 38, 39, 40, 41, 42, 43, 44, 45, 46, 47, 48, 49] (by decide +kernel) (by decide +kernel)
set_option maxRecDepth 20000 in
theorem gX9_readsNumber_X9_nextToken : GoodIn wsX9_readsNumber (wsV RX9 86 RX9 yX9_nextToken wsX9_nextToken) := goodIn_app (goodIn_of _ (by decide +kernel)) ggX9_readsNumber_X9_nextToken
set_option maxRecDepth 20000 in
theorem ggX9_readsNumber_X9_isFigure : GoodIn wsX9_readsNumber wsX9_isFigure := goodIn_r _ [14, 10, 3, 15, 16, 8, 17, 18, 19, 20, 21, 22, 23, 24, 25, 26, 27, 28, 29, 30, 31, 32, 33, 34, 35, 36, 37, 38, 39, 40, 41, 42, 43, 44, 45, 46, 47, 48, 49] (by decide +kernel) (by decide +kernel)
set_option maxRecDepth 20000 in
theorem gX9_readsNumber_X9_isFigure : GoodIn wsX9_readsNumber (wsV RX9 82 RX9 yX9_isFigure wsX9_isFigure) := goodIn_app (goodIn_of _ (by decide +kernel)) ggX9_readsNumber_X9_isFigure
set_option maxRecDepth 20000 in
theorem ggX9_readsNumber_X9_in : GoodIn wsX9_readsNumber wsX9_in := goodIn_r _ [17] (by decide +kernel) (by decide +kernel)
set_option maxRecDepth 20000 in
theorem gX9_readsNumber_X9_in : GoodIn wsX9_readsNumber (va_wsS RX9 69 yX9_in wsX9_in) := goodIn_app (goodIn_of _ (by decide +kernel)) ggX9_readsNumber_X9_in
theorem dX9_readsNumber_0 : decode cX9_readsNumber 0 = .ok (.aload_n 0, 1) := by decide +kernel
theorem dX9_readsNumber_1 : decode cX9_readsNumber 1 = .ok (.invokevirtual 86, 3) := by decide +kernel
theorem dX9_readsNumber_4 : decode cX9_readsNumber 4 = .ok (.aload_n 0, 1) := by decide +kernel
theorem dX9_readsNumber_5 : decode cX9_readsNumber 5 = .ok (.aload_n 0, 1) := by decide +kernel
theorem dX9_readsNumber_6 : decode cX9_readsNumber 6 = .ok (.aload_n 0, 1) := by decide +kernel
theorem dX9_readsNumber_7 : decode cX9_readsNumber 7 = .ok (.getfield 79, 3) := by decide +kernel
theorem dX9_readsNumber_10 : decode cX9_readsNumber 10 = .ok (.invokevirtual 82, 3) := by decide +kernel
theorem dX9_readsNumber_13 : decode cX9_readsNumber 13 = .ok (.ifCond .eq 31, 3) := by decide +kernel
theorem dX9_readsNumber_16 : decode cX9_readsNumber 16 = .ok (.aload_n 0, 1) := by decide +kernel
theorem dX9_readsNumber_17 : decode cX9_readsNumber 17 = .ok (.getfield 76, 3) := by decide +kernel
theorem dX9_readsNumber_20 : decode cX9_readsNumber 20 = .ok (.aload_n 0, 1) := by decide +kernel
theorem dX9_readsNumber_21 : decode cX9_readsNumber 21 = .ok (.getfield 79, 3) := by decide +kernel
theorem dX9_readsNumber_24 : decode cX9_readsNumber 24 = .ok (.isub, 1) := by decide +kernel
theorem dX9_readsNumber_25 : decode cX9_readsNumber 25 = .ok (.iconst 1, 1) := by decide +kernel
theorem dX9_readsNumber_26 : decode cX9_readsNumber 26 = .ok (.if_icmp .ne 18, 3) := by decide +kernel
theorem dX9_readsNumber_29 : decode cX9_readsNumber 29 = .ok (.aload_n 0, 1) := by decide +kernel
theorem dX9_readsNumber_30 : decode cX9_readsNumber 30 = .ok (.getfield 33, 3) := by decide +kernel
theorem dX9_readsNumber_33 : decode cX9_readsNumber 33 = .ok (.aload_n 0, 1) := by decide +kernel
theorem dX9_readsNumber_34 : decode cX9_readsNumber 34 = .ok (.getfield 79, 3) := by decide +kernel
theorem dX9_readsNumber_37 : decode cX9_readsNumber 37 = .ok (.iaload, 1) := by decide +kernel
theorem dX9_readsNumber_38 : decode cX9_readsNumber 38 = .ok (.bipush 48, 2) := by decide +kernel
theorem dX9_readsNumber_40 : decode cX9_readsNumber 40 = .ok (.isub, 1) := by decide +kernel
theorem dX9_readsNumber_41 : decode cX9_readsNumber 41 = .ok (.goto 4, 3) := by decide +kernel
theorem dX9_readsNumber_44 : decode cX9_readsNumber 44 = .ok (.iconst (-1), 1) := by decide +kernel
theorem dX9_readsNumber_45 : decode cX9_readsNumber 45 = .ok (.putfield 89, 3) := by decide +kernel
theorem dX9_readsNumber_48 : decode cX9_readsNumber 48 = .ok (.aload_n 0, 1) := by decide +kernel
theorem dX9_readsNumber_49 : decode cX9_readsNumber 49 = .ok (.getfield 89, 3) := by decide +kernel
theorem dX9_readsNumber_52 : decode cX9_readsNumber 52 = .ok (.iload_n 1, 1) := by decide +kernel
theorem dX9_readsNumber_53 : decode cX9_readsNumber 53 = .ok (.iload_n 2, 1) := by decide +kernel
theorem dX9_readsNumber_54 : decode cX9_readsNumber 54 = .ok (.invokestatic 69, 3) := by decide +kernel
theorem dX9_readsNumber_57 : decode cX9_readsNumber 57 = .ok (.ireturn, 1) := by decide +kernel
set_option maxRecDepth 20000 in
theorem ggX9_readsStep_X9_readsNumber : GoodIn wsX9_readsStep wsX9_readsNumber := goodIn_r _ [10, 11, 12, 13, 3, 14, 15, 16, 9, 17, 18, 19, 20, 21, 22, 23, 24, 25, 26, 27, 28, 29, 30, 31, 32, 33, 34, 35, 36, 37, 38, 39, 40, 41, 42, 43, 44, 45, 46, 47, 48, 49, 50, 51, 52, 53, 54, 55, 56, 57] (by decide +kernel) (by decide +kernel)
set_option maxRecDepth 20000 in
theorem gX9_readsStep_X9_readsNumber : GoodIn wsX9_readsStep (wsV RX9 95 RX9 yX9_readsNumber wsX9_readsNumber) := goodIn_app (goodIn_of _ (by decide +kernel)) ggX9_readsStep_X9_readsNumber
theorem dX9_readsStep_0 : decode cX9_readsStep 0 = .ok (.aload_n 0, 1) := by decide +kernel
theorem dX9_readsStep_1 : decode cX9_readsStep 1 = .ok (.getfield 92, 3) := by decide +kernel
theorem dX9_readsStep_4 : decode cX9_readsStep 4 = .ok (.bipush 9, 2) := by decide +kernel
theorem dX9_readsStep_6 : decode cX9_readsStep 6 = .ok (.if_icmp .eq 13, 3) := by decide +kernel
theorem dX9_readsStep_9 : decode cX9_readsStep 9 = .ok (.aload_n 0, 1) := by decide +kernel
theorem dX9_readsStep_10 : decode cX9_readsStep 10 = .ok (.iconst 1, 1) := by decide +kernel
theorem dX9_readsStep_11 : decode cX9_readsStep 11 = .ok (.bipush 9, 2) := by decide +kernel
theorem dX9_readsStep_13 : decode cX9_readsStep 13 = .ok (.invokevirtual 95, 3) := by decide +kernel
theorem dX9_readsStep_16 : decode cX9_readsStep 16 = .ok (.ifCond .ne 5, 3) := by decide +kernel
theorem dX9_readsStep_19 : decode cX9_readsStep 19 = .ok (.iconst 0, 1) := by decide +kernel
theorem dX9_readsStep_20 : decode cX9_readsStep 20 = .ok (.ireturn, 1) := by decide +kernel
theorem dX9_readsStep_21 : decode cX9_readsStep 21 = .ok (.aload_n 0, 1) := by decide +kernel
theorem dX9_readsStep_22 : decode cX9_readsStep 22 = .ok (.getfield 45, 3) := by decide +kernel
theorem dX9_readsStep_25 : decode cX9_readsStep 25 = .ok (.aload_n 0, 1) := by decide +kernel
theorem dX9_readsStep_26 : decode cX9_readsStep 26 = .ok (.getfield 92, 3) := by decide +kernel
theorem dX9_readsStep_29 : decode cX9_readsStep 29 = .ok (.aload_n 0, 1) := by decide +kernel
theorem dX9_readsStep_30 : decode cX9_readsStep 30 = .ok (.getfield 89, 3) := by decide +kernel
theorem dX9_readsStep_33 : decode cX9_readsStep 33 = .ok (.iastore, 1) := by decide +kernel
theorem dX9_readsStep_34 : decode cX9_readsStep 34 = .ok (.aload_n 0, 1) := by decide +kernel
theorem dX9_readsStep_35 : decode cX9_readsStep 35 = .ok (.iconst 1, 1) := by decide +kernel
theorem dX9_readsStep_36 : decode cX9_readsStep 36 = .ok (.bipush 9, 2) := by decide +kernel
theorem dX9_readsStep_38 : decode cX9_readsStep 38 = .ok (.invokevirtual 95, 3) := by decide +kernel
theorem dX9_readsStep_41 : decode cX9_readsStep 41 = .ok (.ifCond .ne 5, 3) := by decide +kernel
theorem dX9_readsStep_44 : decode cX9_readsStep 44 = .ok (.iconst 0, 1) := by decide +kernel
theorem dX9_readsStep_45 : decode cX9_readsStep 45 = .ok (.ireturn, 1) := by decide +kernel
theorem dX9_readsStep_46 : decode cX9_readsStep 46 = .ok (.aload_n 0, 1) := by decide +kernel
theorem dX9_readsStep_47 : decode cX9_readsStep 47 = .ok (.getfield 48, 3) := by decide +kernel
theorem dX9_readsStep_50 : decode cX9_readsStep 50 = .ok (.aload_n 0, 1) := by decide +kernel
theorem dX9_readsStep_51 : decode cX9_readsStep 51 = .ok (.getfield 92, 3) := by decide +kernel
theorem dX9_readsStep_54 : decode cX9_readsStep 54 = .ok (.aload_n 0, 1) := by decide +kernel
theorem dX9_readsStep_55 : decode cX9_readsStep 55 = .ok (.getfield 89, 3) := by decide +kernel
theorem dX9_readsStep_58 : decode cX9_readsStep 58 = .ok (.iastore, 1) := by decide +kernel
theorem dX9_readsStep_59 : decode cX9_readsStep 59 = .ok (.aload_n 0, 1) := by decide +kernel
theorem dX9_readsStep_60 : decode cX9_readsStep 60 = .ok (.iconst 0, 1) := by decide +kernel
theorem dX9_readsStep_61 : decode cX9_readsStep 61 = .ok (.iconst 5, 1) := by decide +kernel
theorem dX9_readsStep_62 : decode cX9_readsStep 62 = .ok (.invokevirtual 95, 3) := by decide +kernel
theorem dX9_readsStep_65 : decode cX9_readsStep 65 = .ok (.ifCond .ne 5, 3) := by decide +kernel
theorem dX9_readsStep_68 : decode cX9_readsStep 68 = .ok (.iconst 0, 1) := by decide +kernel
theorem dX9_readsStep_69 : decode cX9_readsStep 69 = .ok (.ireturn, 1) := by decide +kernel
theorem dX9_readsStep_70 : decode cX9_readsStep 70 = .ok (.aload_n 0, 1) := by decide +kernel
theorem dX9_readsStep_71 : decode cX9_readsStep 71 = .ok (.getfield 51, 3) := by decide +kernel
theorem dX9_readsStep_74 : decode cX9_readsStep 74 = .ok (.aload_n 0, 1) := by decide +kernel
theorem dX9_readsStep_75 : decode cX9_readsStep 75 = .ok (.getfield 92, 3) := by decide +kernel
theorem dX9_readsStep_78 : decode cX9_readsStep 78 = .ok (.aload_n 0, 1) := by decide +kernel
theorem dX9_readsStep_79 : decode cX9_readsStep 79 = .ok (.getfield 89, 3) := by decide +kernel
theorem dX9_readsStep_82 : decode cX9_readsStep 82 = .ok (.iastore, 1) := by decide +kernel
theorem dX9_readsStep_83 : decode cX9_readsStep 83 = .ok (.aload_n 0, 1) := by decide +kernel
theorem dX9_readsStep_84 : decode cX9_readsStep 84 = .ok (.dup, 1) := by decide +kernel
theorem dX9_readsStep_85 : decode cX9_readsStep 85 = .ok (.getfield 92, 3) := by decide +kernel
theorem dX9_readsStep_88 : decode cX9_readsStep 88 = .ok (.iconst 1, 1) := by decide +kernel
theorem dX9_readsStep_89 : decode cX9_readsStep 89 = .ok (.iadd, 1) := by decide +kernel
theorem dX9_readsStep_90 : decode cX9_readsStep 90 = .ok (.putfield 92, 3) := by decide +kernel
theorem dX9_readsStep_93 : decode cX9_readsStep 93 = .ok (.iconst 1, 1) := by decide +kernel
theorem dX9_readsStep_94 : decode cX9_readsStep 94 = .ok (.ireturn, 1) := by decide +kernel
set_option maxRecDepth 20000 in
theorem ggX9_readsCoil_X9_readsNumber : GoodIn wsX9_readsCoil wsX9_readsNumber := goodIn_r _ [7, 8, 9, 10, 2, 11, 12, 13, 6, 14, 15, 16, 17, 18, 19, 20, 21, 22, 23, 24, 25, 26, 27, 28, 29, 30, 31, 32, 33, 34, 35, 36, 37, 38, 39, 40, 41, 42, 43, 44, 45, 46, 47, 48, 49, 50, 51, 52, 53, 54] (by decide +kernel) (by decide +kernel)
set_option maxRecDepth 20000 in
theorem gX9_readsCoil_X9_readsNumber : GoodIn wsX9_readsCoil (wsV RX9 95 RX9 yX9_readsNumber wsX9_readsNumber) := goodIn_app (goodIn_of _ (by decide +kernel)) ggX9_readsCoil_X9_readsNumber
theorem dX9_readsCoil_0 : decode cX9_readsCoil 0 = .ok (.aload_n 0, 1) := by decide +kernel
theorem dX9_readsCoil_1 : decode cX9_readsCoil 1 = .ok (.getfield 54, 3) := by decide +kernel
theorem dX9_readsCoil_4 : decode cX9_readsCoil 4 = .ok (.iload_n 1, 1) := by decide +kernel
theorem dX9_readsCoil_5 : decode cX9_readsCoil 5 = .ok (.iaload, 1) := by decide +kernel
theorem dX9_readsCoil_6 : decode cX9_readsCoil 6 = .ok (.ifCond .ge 12, 3) := by decide +kernel
theorem dX9_readsCoil_9 : decode cX9_readsCoil 9 = .ok (.aload_n 0, 1) := by decide +kernel
theorem dX9_readsCoil_10 : decode cX9_readsCoil 10 = .ok (.iload_n 2, 1) := by decide +kernel
theorem dX9_readsCoil_11 : decode cX9_readsCoil 11 = .ok (.iload_n 3, 1) := by decide +kernel
theorem dX9_readsCoil_12 : decode cX9_readsCoil 12 = .ok (.invokevirtual 95, 3) := by decide +kernel
theorem dX9_readsCoil_15 : decode cX9_readsCoil 15 = .ok (.ifCond .ne 5, 3) := by decide +kernel
theorem dX9_readsCoil_18 : decode cX9_readsCoil 18 = .ok (.iconst 0, 1) := by decide +kernel
theorem dX9_readsCoil_19 : decode cX9_readsCoil 19 = .ok (.ireturn, 1) := by decide +kernel
theorem dX9_readsCoil_20 : decode cX9_readsCoil 20 = .ok (.aload_n 0, 1) := by decide +kernel
theorem dX9_readsCoil_21 : decode cX9_readsCoil 21 = .ok (.getfield 54, 3) := by decide +kernel
theorem dX9_readsCoil_24 : decode cX9_readsCoil 24 = .ok (.iload_n 1, 1) := by decide +kernel
theorem dX9_readsCoil_25 : decode cX9_readsCoil 25 = .ok (.aload_n 0, 1) := by decide +kernel
theorem dX9_readsCoil_26 : decode cX9_readsCoil 26 = .ok (.getfield 89, 3) := by decide +kernel
theorem dX9_readsCoil_29 : decode cX9_readsCoil 29 = .ok (.iastore, 1) := by decide +kernel
theorem dX9_readsCoil_30 : decode cX9_readsCoil 30 = .ok (.iconst 1, 1) := by decide +kernel
theorem dX9_readsCoil_31 : decode cX9_readsCoil 31 = .ok (.ireturn, 1) := by decide +kernel
set_option maxRecDepth 20000 in
theorem ggX9_readsItem_X9_isSign : GoodIn wsX9_readsItem wsX9_isSign := goodIn_r _ [5, 6, 7, 8, 39, 40, 41, 42, 43, 44, 45, 46, 47, 48, 49, 50, 51, 52, 53, 54, 55, 56, 57, 58, 59, 60, 61, 62, 63, 64, 65, 66, 67, 68, 69, 70] (by decide +kernel) (by decide +kernel)
set_option maxRecDepth 20000 in
theorem gX9_readsItem_X9_isSign : GoodIn wsX9_readsItem (wsV RX9 99 RX9 yX9_isSign wsX9_isSign) := goodIn_app (goodIn_of _ (by decide +kernel)) ggX9_readsItem_X9_isSign
set_option maxRecDepth 20000 in
theorem ggX9_readsItem_X9_readsStep : GoodIn wsX9_readsItem wsX9_readsStep := goodIn_r _ [12, 13, 14, 15, 16, 17, 18, 19, 20, 4, 21, 6, 22, 8, 23, 24, 25, 26, 7, 27, 28, 29, 30, 31, 32, 33, 39, 40, 41, 42, 43, 44, 45, 46, 47, 48, 49, 50, 51, 52, 53, 54, 55, 56, 57, 58, 59, 60, 61, 62, 63, 64, 65, 66, 67, 68, 69, 70] (by decide +kernel) (by decide +kernel)
set_option maxRecDepth 20000 in
theorem gX9_readsItem_X9_readsStep : GoodIn wsX9_readsItem (wsV RX9 102 RX9 yX9_readsStep wsX9_readsStep) := goodIn_app (goodIn_of _ (by decide +kernel)) ggX9_readsItem_X9_readsStep
set_option maxRecDepth 20000 in
theorem ggX9_readsItem_X9_readsCoil : GoodIn wsX9_readsItem wsX9_readsCoil := goodIn_r _ [37, 38, 15, 18, 19, 20, 4, 21, 6, 22, 8, 23, 24, 25, 26, 7, 27, 28, 29, 30, 31, 32, 33, 39, 40, 41, 42, 43, 44, 45, 46, 47, 48, 49, 50, 51, 52, 53, 54, 55, 56, 57, 58, 59, 60, 61, 62, 63, 64, 65, 66, 67, 68, 69, 70] (by decide +kernel) (by decide +kernel)
set_option maxRecDepth 20000 in
theorem gX9_readsItem_X9_readsCoil : GoodIn wsX9_readsItem (wsV RX9 106 RX9 yX9_readsCoil wsX9_readsCoil) := goodIn_app (goodIn_of _ (by decide +kernel)) ggX9_readsItem_X9_readsCoil
set_option maxRecDepth 20000 in
theorem ggX9_readsItem_X9_nextToken : GoodIn wsX9_readsItem wsX9_nextToken := goodIn_r _ [26, 22, 6, 7, 8, 27, 28, 29, 4, 30, 31, 32, 33, 39, 40, 41, 42, 43, 44, 45, 46, 47, 48, 49, 50, 51, 52, 53, 54, 55, 56, 57, 58, 59, 60, 61, 62, 63, 64, 65, 66, 67, 68, 69, 70] (by decide +kernel) (by decide +kernel)
set_option maxRecDepth 20000 in
theorem gX9_readsItem_X9_nextToken : GoodIn wsX9_readsItem (wsV RX9 86 RX9 yX9_nextToken wsX9_nextToken) := goodIn_app (goodIn_of _ (by decide +kernel)) ggX9_readsItem_X9_nextToken
theorem dX9_readsItem_0 : decode cX9_readsItem 0 = .ok (.aload_n 0, 1) := by decide +kernel
theorem dX9_readsItem_1 : decode cX9_readsItem 1 = .ok (.bipush 115, 2) := by decide +kernel
theorem dX9_readsItem_3 : decode cX9_readsItem 3 = .ok (.invokevirtual 99, 3) := by decide +kernel
theorem dX9_readsItem_6 : decode cX9_readsItem 6 = .ok (.ifCond .eq 10, 3) := by decide +kernel
theorem dX9_readsItem_9 : decode cX9_readsItem 9 = .ok (.aload_n 0, 1) := by decide +kernel
theorem dX9_readsItem_10 : decode cX9_readsItem 10 = .ok (.invokevirtual 102, 3) := by decide +kernel
theorem dX9_readsItem_13 : decode cX9_readsItem 13 = .ok (.goto 67, 3) := by decide +kernel
theorem dX9_readsItem_16 : decode cX9_readsItem 16 = .ok (.aload_n 0, 1) := by decide +kernel
theorem dX9_readsItem_17 : decode cX9_readsItem 17 = .ok (.bipush 108, 2) := by decide +kernel
theorem dX9_readsItem_19 : decode cX9_readsItem 19 = .ok (.invokevirtual 99, 3) := by decide +kernel
theorem dX9_readsItem_22 : decode cX9_readsItem 22 = .ok (.ifCond .eq 14, 3) := by decide +kernel
theorem dX9_readsItem_25 : decode cX9_readsItem 25 = .ok (.aload_n 0, 1) := by decide +kernel
theorem dX9_readsItem_26 : decode cX9_readsItem 26 = .ok (.iconst 0, 1) := by decide +kernel
theorem dX9_readsItem_27 : decode cX9_readsItem 27 = .ok (.iconst 0, 1) := by decide +kernel
theorem dX9_readsItem_28 : decode cX9_readsItem 28 = .ok (.bipush 9, 2) := by decide +kernel
theorem dX9_readsItem_30 : decode cX9_readsItem 30 = .ok (.invokevirtual 106, 3) := by decide +kernel
theorem dX9_readsItem_33 : decode cX9_readsItem 33 = .ok (.goto 47, 3) := by decide +kernel
theorem dX9_readsItem_36 : decode cX9_readsItem 36 = .ok (.aload_n 0, 1) := by decide +kernel
theorem dX9_readsItem_37 : decode cX9_readsItem 37 = .ok (.bipush 102, 2) := by decide +kernel
theorem dX9_readsItem_39 : decode cX9_readsItem 39 = .ok (.invokevirtual 99, 3) := by decide +kernel
theorem dX9_readsItem_42 : decode cX9_readsItem 42 = .ok (.ifCond .eq 14, 3) := by decide +kernel
theorem dX9_readsItem_45 : decode cX9_readsItem 45 = .ok (.aload_n 0, 1) := by decide +kernel
theorem dX9_readsItem_46 : decode cX9_readsItem 46 = .ok (.iconst 1, 1) := by decide +kernel
theorem dX9_readsItem_47 : decode cX9_readsItem 47 = .ok (.iconst 1, 1) := by decide +kernel
theorem dX9_readsItem_48 : decode cX9_readsItem 48 = .ok (.bipush 9, 2) := by decide +kernel
theorem dX9_readsItem_50 : decode cX9_readsItem 50 = .ok (.invokevirtual 106, 3) := by decide +kernel
theorem dX9_readsItem_53 : decode cX9_readsItem 53 = .ok (.goto 27, 3) := by decide +kernel
theorem dX9_readsItem_56 : decode cX9_readsItem 56 = .ok (.aload_n 0, 1) := by decide +kernel
theorem dX9_readsItem_57 : decode cX9_readsItem 57 = .ok (.bipush 100, 2) := by decide +kernel
theorem dX9_readsItem_59 : decode cX9_readsItem 59 = .ok (.invokevirtual 99, 3) := by decide +kernel
theorem dX9_readsItem_62 : decode cX9_readsItem 62 = .ok (.ifCond .eq 17, 3) := by decide +kernel
theorem dX9_readsItem_65 : decode cX9_readsItem 65 = .ok (.aload_n 0, 1) := by decide +kernel
theorem dX9_readsItem_66 : decode cX9_readsItem 66 = .ok (.iconst 2, 1) := by decide +kernel
theorem dX9_readsItem_67 : decode cX9_readsItem 67 = .ok (.iconst 0, 1) := by decide +kernel
theorem dX9_readsItem_68 : decode cX9_readsItem 68 = .ok (.iconst 3, 1) := by decide +kernel
theorem dX9_readsItem_69 : decode cX9_readsItem 69 = .ok (.invokevirtual 106, 3) := by decide +kernel
theorem dX9_readsItem_72 : decode cX9_readsItem 72 = .ok (.ifCond .eq 7, 3) := by decide +kernel
theorem dX9_readsItem_75 : decode cX9_readsItem 75 = .ok (.iconst 1, 1) := by decide +kernel
theorem dX9_readsItem_76 : decode cX9_readsItem 76 = .ok (.goto 4, 3) := by decide +kernel
theorem dX9_readsItem_79 : decode cX9_readsItem 79 = .ok (.iconst 0, 1) := by decide +kernel
theorem dX9_readsItem_80 : decode cX9_readsItem 80 = .ok (.istore_n 1, 1) := by decide +kernel
theorem dX9_readsItem_81 : decode cX9_readsItem 81 = .ok (.iload_n 1, 1) := by decide +kernel
theorem dX9_readsItem_82 : decode cX9_readsItem 82 = .ok (.ifCond .eq 14, 3) := by decide +kernel
theorem dX9_readsItem_85 : decode cX9_readsItem 85 = .ok (.aload_n 0, 1) := by decide +kernel
theorem dX9_readsItem_86 : decode cX9_readsItem 86 = .ok (.invokevirtual 86, 3) := by decide +kernel
theorem dX9_readsItem_89 : decode cX9_readsItem 89 = .ok (.aload_n 0, 1) := by decide +kernel
theorem dX9_readsItem_90 : decode cX9_readsItem 90 = .ok (.bipush 59, 2) := by decide +kernel
theorem dX9_readsItem_92 : decode cX9_readsItem 92 = .ok (.invokevirtual 99, 3) := by decide +kernel
theorem dX9_readsItem_95 : decode cX9_readsItem 95 = .ok (.istore_n 1, 1) := by decide +kernel
theorem dX9_readsItem_96 : decode cX9_readsItem 96 = .ok (.iload_n 1, 1) := by decide +kernel
theorem dX9_readsItem_97 : decode cX9_readsItem 97 = .ok (.ireturn, 1) := by decide +kernel
set_option maxRecDepth 20000 in
theorem ggX9_readItems_X9_nextToken : GoodIn wsX9_readItems wsX9_nextToken := goodIn_r _ [10, 1, 4, 5, 11, 12, 13, 14, 9, 15, 16, 17, 18, 43, 44, 45, 46, 47, 48, 49, 50, 51, 52, 53, 54, 55, 56, 57, 58, 59, 60, 61, 62, 63, 64, 65, 66, 67, 68, 69, 70, 71, 72, 73, 74] (by decide +kernel) (by decide +kernel)
set_option maxRecDepth 20000 in
theorem gX9_readItems_X9_nextToken : GoodIn wsX9_readItems (wsV RX9 86 RX9 yX9_nextToken wsX9_nextToken) := goodIn_app (goodIn_of _ (by decide +kernel)) ggX9_readItems_X9_nextToken
set_option maxRecDepth 20000 in
theorem ggX9_readItems_X9_readsItem : GoodIn wsX9_readItems wsX9_readsItem := goodIn_r _ [22, 23, 24, 25, 9, 26, 4, 5, 11, 27, 28, 29, 30, 2, 31, 32, 33, 34, 35, 36, 37, 38, 1, 6, 7, 8, 10, 12, 13, 14, 15, 16, 17, 18, 39, 40, 41, 42, 3, 43, 44, 45, 46, 47, 48, 49, 50, 51, 52, 53, 54, 55, 56, 57, 58, 59, 60, 61, 62, 63, 64, 65, 66, 67, 68, 69, 70, 71, 72, 73, 74] (by decide +kernel) (by decide +kernel)
set_option maxRecDepth 20000 in
theorem gX9_readItems_X9_readsItem : GoodIn wsX9_readItems (wsV RX9 109 RX9 yX9_readsItem wsX9_readsItem) := goodIn_app (goodIn_of _ (by decide +kernel)) ggX9_readItems_X9_readsItem
theorem dX9_readItems_0 : decode cX9_readItems 0 = .ok (.aload_n 0, 1) := by decide +kernel
theorem dX9_readItems_1 : decode cX9_readItems 1 = .ok (.iconst 0, 1) := by decide +kernel
theorem dX9_readItems_2 : decode cX9_readItems 2 = .ok (.putfield 76, 3) := by decide +kernel
theorem dX9_readItems_5 : decode cX9_readItems 5 = .ok (.aload_n 0, 1) := by decide +kernel
theorem dX9_readItems_6 : decode cX9_readItems 6 = .ok (.iconst 0, 1) := by decide +kernel
theorem dX9_readItems_7 : decode cX9_readItems 7 = .ok (.putfield 92, 3) := by decide +kernel
theorem dX9_readItems_10 : decode cX9_readItems 10 = .ok (.iconst 0, 1) := by decide +kernel
theorem dX9_readItems_11 : decode cX9_readItems 11 = .ok (.istore_n 1, 1) := by decide +kernel
theorem dX9_readItems_12 : decode cX9_readItems 12 = .ok (.iload_n 1, 1) := by decide +kernel
theorem dX9_readItems_13 : decode cX9_readItems 13 = .ok (.iconst 3, 1) := by decide +kernel
theorem dX9_readItems_14 : decode cX9_readItems 14 = .ok (.if_icmp .ge 16, 3) := by decide +kernel
theorem dX9_readItems_17 : decode cX9_readItems 17 = .ok (.aload_n 0, 1) := by decide +kernel
theorem dX9_readItems_18 : decode cX9_readItems 18 = .ok (.getfield 54, 3) := by decide +kernel
theorem dX9_readItems_21 : decode cX9_readItems 21 = .ok (.iload_n 1, 1) := by decide +kernel
theorem dX9_readItems_22 : decode cX9_readItems 22 = .ok (.iconst (-1), 1) := by decide +kernel
theorem dX9_readItems_23 : decode cX9_readItems 23 = .ok (.iastore, 1) := by decide +kernel
theorem dX9_readItems_24 : decode cX9_readItems 24 = .ok (.iinc 1 1, 3) := by decide +kernel
theorem dX9_readItems_27 : decode cX9_readItems 27 = .ok (.goto (-15), 3) := by decide +kernel
theorem dX9_readItems_30 : decode cX9_readItems 30 = .ok (.iconst 0, 1) := by decide +kernel
theorem dX9_readItems_31 : decode cX9_readItems 31 = .ok (.istore_n 1, 1) := by decide +kernel
theorem dX9_readItems_32 : decode cX9_readItems 32 = .ok (.aload_n 0, 1) := by decide +kernel
theorem dX9_readItems_33 : decode cX9_readItems 33 = .ok (.invokevirtual 86, 3) := by decide +kernel
theorem dX9_readItems_36 : decode cX9_readItems 36 = .ok (.aload_n 0, 1) := by decide +kernel
theorem dX9_readItems_37 : decode cX9_readItems 37 = .ok (.getfield 79, 3) := by decide +kernel
theorem dX9_readItems_40 : decode cX9_readItems 40 = .ok (.aload_n 0, 1) := by decide +kernel
theorem dX9_readItems_41 : decode cX9_readItems 41 = .ok (.getfield 73, 3) := by decide +kernel
theorem dX9_readItems_44 : decode cX9_readItems 44 = .ok (.if_icmp .ge 23, 3) := by decide +kernel
theorem dX9_readItems_47 : decode cX9_readItems 47 = .ok (.aload_n 0, 1) := by decide +kernel
theorem dX9_readItems_48 : decode cX9_readItems 48 = .ok (.invokevirtual 109, 3) := by decide +kernel
theorem dX9_readItems_51 : decode cX9_readItems 51 = .ok (.ifCond .ne 6, 3) := by decide +kernel
theorem dX9_readItems_54 : decode cX9_readItems 54 = .ok (.bipush (-9), 2) := by decide +kernel
theorem dX9_readItems_56 : decode cX9_readItems 56 = .ok (.ireturn, 1) := by decide +kernel
theorem dX9_readItems_57 : decode cX9_readItems 57 = .ok (.iinc 1 1, 3) := by decide +kernel
theorem dX9_readItems_60 : decode cX9_readItems 60 = .ok (.aload_n 0, 1) := by decide +kernel
theorem dX9_readItems_61 : decode cX9_readItems 61 = .ok (.invokevirtual 86, 3) := by decide +kernel
theorem dX9_readItems_64 : decode cX9_readItems 64 = .ok (.goto (-28), 3) := by decide +kernel
theorem dX9_readItems_67 : decode cX9_readItems 67 = .ok (.iload_n 1, 1) := by decide +kernel
theorem dX9_readItems_68 : decode cX9_readItems 68 = .ok (.ireturn, 1) := by decide +kernel
set_option maxRecDepth 20000 in
theorem ggX9_stairs_X9_readItems : GoodIn wsX9_stairs wsX9_readItems := goodIn_r _ [22, 23, 3, 5, 1, 2, 24, 25, 26, 21, 27, 28, 29, 30, 31, 32, 33, 34, 35, 36, 37, 38, 39, 40, 41, 42, 43, 44, 45, 46, 47, 11, 48, 13, 14, 49, 50, 51, 52, 53, 54, 55, 56, 57, 58, 59, 60, 61, 62, 63, 64, 65, 66, 67, 68, 69, 70, 71, 72, 73, 74, 75, 76, 77, 78, 79, 80, 81, 82, 83, 84, 85, 86, 87, 88] (by decide +kernel) (by decide +kernel)
set_option maxRecDepth 20000 in
theorem gX9_stairs_X9_readItems : GoodIn wsX9_stairs (wsV RX9 112 RX9 yX9_readItems wsX9_readItems) := goodIn_app (goodIn_of _ (by decide +kernel)) ggX9_stairs_X9_readItems
theorem dX9_stairs_0 : decode cX9_stairs 0 = .ok (.aload_n 0, 1) := by decide +kernel
theorem dX9_stairs_1 : decode cX9_stairs 1 = .ok (.invokevirtual 112, 3) := by decide +kernel
theorem dX9_stairs_4 : decode cX9_stairs 4 = .ok (.istore_n 1, 1) := by decide +kernel
theorem dX9_stairs_5 : decode cX9_stairs 5 = .ok (.iload_n 1, 1) := by decide +kernel
theorem dX9_stairs_6 : decode cX9_stairs 6 = .ok (.bipush (-9), 2) := by decide +kernel
theorem dX9_stairs_8 : decode cX9_stairs 8 = .ok (.if_icmp .ne 11, 3) := by decide +kernel
theorem dX9_stairs_11 : decode cX9_stairs 11 = .ok (.bipush (-10), 2) := by decide +kernel
theorem dX9_stairs_13 : decode cX9_stairs 13 = .ok (.aload_n 0, 1) := by decide +kernel
theorem dX9_stairs_14 : decode cX9_stairs 14 = .ok (.getfield 79, 3) := by decide +kernel
theorem dX9_stairs_17 : decode cX9_stairs 17 = .ok (.isub, 1) := by decide +kernel
theorem dX9_stairs_18 : decode cX9_stairs 18 = .ok (.ireturn, 1) := by decide +kernel
theorem dX9_stairs_19 : decode cX9_stairs 19 = .ok (.aload_n 0, 1) := by decide +kernel
theorem dX9_stairs_20 : decode cX9_stairs 20 = .ok (.iconst 0, 1) := by decide +kernel
theorem dX9_stairs_21 : decode cX9_stairs 21 = .ok (.putfield 73, 3) := by decide +kernel
theorem dX9_stairs_24 : decode cX9_stairs 24 = .ok (.aload_n 0, 1) := by decide +kernel
theorem dX9_stairs_25 : decode cX9_stairs 25 = .ok (.aload_n 0, 1) := by decide +kernel
theorem dX9_stairs_26 : decode cX9_stairs 26 = .ok (.getfield 92, 3) := by decide +kernel
theorem dX9_stairs_29 : decode cX9_stairs 29 = .ok (.putfield 66, 3) := by decide +kernel
theorem dX9_stairs_32 : decode cX9_stairs 32 = .ok (.aload_n 0, 1) := by decide +kernel
theorem dX9_stairs_33 : decode cX9_stairs 33 = .ok (.aload_n 0, 1) := by decide +kernel
theorem dX9_stairs_34 : decode cX9_stairs 34 = .ok (.getfield 54, 3) := by decide +kernel
theorem dX9_stairs_37 : decode cX9_stairs 37 = .ok (.iconst 0, 1) := by decide +kernel
theorem dX9_stairs_38 : decode cX9_stairs 38 = .ok (.iaload, 1) := by decide +kernel
theorem dX9_stairs_39 : decode cX9_stairs 39 = .ok (.ifCond .ge 7, 3) := by decide +kernel
theorem dX9_stairs_42 : decode cX9_stairs 42 = .ok (.iconst 4, 1) := by decide +kernel
theorem dX9_stairs_43 : decode cX9_stairs 43 = .ok (.goto 9, 3) := by decide +kernel
theorem dX9_stairs_46 : decode cX9_stairs 46 = .ok (.aload_n 0, 1) := by decide +kernel
theorem dX9_stairs_47 : decode cX9_stairs 47 = .ok (.getfield 54, 3) := by decide +kernel
theorem dX9_stairs_50 : decode cX9_stairs 50 = .ok (.iconst 0, 1) := by decide +kernel
theorem dX9_stairs_51 : decode cX9_stairs 51 = .ok (.iaload, 1) := by decide +kernel
theorem dX9_stairs_52 : decode cX9_stairs 52 = .ok (.putfield 13, 3) := by decide +kernel
theorem dX9_stairs_55 : decode cX9_stairs 55 = .ok (.aload_n 0, 1) := by decide +kernel
theorem dX9_stairs_56 : decode cX9_stairs 56 = .ok (.aload_n 0, 1) := by decide +kernel
theorem dX9_stairs_57 : decode cX9_stairs 57 = .ok (.getfield 54, 3) := by decide +kernel
theorem dX9_stairs_60 : decode cX9_stairs 60 = .ok (.iconst 1, 1) := by decide +kernel
theorem dX9_stairs_61 : decode cX9_stairs 61 = .ok (.iaload, 1) := by decide +kernel
theorem dX9_stairs_62 : decode cX9_stairs 62 = .ok (.ifCond .ge 7, 3) := by decide +kernel
theorem dX9_stairs_65 : decode cX9_stairs 65 = .ok (.iconst 3, 1) := by decide +kernel
theorem dX9_stairs_66 : decode cX9_stairs 66 = .ok (.goto 9, 3) := by decide +kernel
theorem dX9_stairs_69 : decode cX9_stairs 69 = .ok (.aload_n 0, 1) := by decide +kernel
theorem dX9_stairs_70 : decode cX9_stairs 70 = .ok (.getfield 54, 3) := by decide +kernel
theorem dX9_stairs_73 : decode cX9_stairs 73 = .ok (.iconst 1, 1) := by decide +kernel
theorem dX9_stairs_74 : decode cX9_stairs 74 = .ok (.iaload, 1) := by decide +kernel
theorem dX9_stairs_75 : decode cX9_stairs 75 = .ok (.putfield 17, 3) := by decide +kernel
theorem dX9_stairs_78 : decode cX9_stairs 78 = .ok (.aload_n 0, 1) := by decide +kernel
theorem dX9_stairs_79 : decode cX9_stairs 79 = .ok (.aload_n 0, 1) := by decide +kernel
theorem dX9_stairs_80 : decode cX9_stairs 80 = .ok (.getfield 54, 3) := by decide +kernel
theorem dX9_stairs_83 : decode cX9_stairs 83 = .ok (.iconst 2, 1) := by decide +kernel
theorem dX9_stairs_84 : decode cX9_stairs 84 = .ok (.iaload, 1) := by decide +kernel
theorem dX9_stairs_85 : decode cX9_stairs 85 = .ok (.ifCond .ge 7, 3) := by decide +kernel
theorem dX9_stairs_88 : decode cX9_stairs 88 = .ok (.iconst 1, 1) := by decide +kernel
theorem dX9_stairs_89 : decode cX9_stairs 89 = .ok (.goto 9, 3) := by decide +kernel
theorem dX9_stairs_92 : decode cX9_stairs 92 = .ok (.aload_n 0, 1) := by decide +kernel
theorem dX9_stairs_93 : decode cX9_stairs 93 = .ok (.getfield 54, 3) := by decide +kernel
theorem dX9_stairs_96 : decode cX9_stairs 96 = .ok (.iconst 2, 1) := by decide +kernel
theorem dX9_stairs_97 : decode cX9_stairs 97 = .ok (.iaload, 1) := by decide +kernel
theorem dX9_stairs_98 : decode cX9_stairs 98 = .ok (.putfield 20, 3) := by decide +kernel
theorem dX9_stairs_101 : decode cX9_stairs 101 = .ok (.iconst 0, 1) := by decide +kernel
theorem dX9_stairs_102 : decode cX9_stairs 102 = .ok (.istore_n 2, 1) := by decide +kernel
theorem dX9_stairs_103 : decode cX9_stairs 103 = .ok (.iload_n 2, 1) := by decide +kernel
theorem dX9_stairs_104 : decode cX9_stairs 104 = .ok (.bipush 12, 2) := by decide +kernel
theorem dX9_stairs_106 : decode cX9_stairs 106 = .ok (.if_icmp .ge 16, 3) := by decide +kernel
theorem dX9_stairs_109 : decode cX9_stairs 109 = .ok (.aload_n 0, 1) := by decide +kernel
theorem dX9_stairs_110 : decode cX9_stairs 110 = .ok (.getfield 7, 3) := by decide +kernel
theorem dX9_stairs_113 : decode cX9_stairs 113 = .ok (.iload_n 2, 1) := by decide +kernel
theorem dX9_stairs_114 : decode cX9_stairs 114 = .ok (.iconst 0, 1) := by decide +kernel
theorem dX9_stairs_115 : decode cX9_stairs 115 = .ok (.iastore, 1) := by decide +kernel
theorem dX9_stairs_116 : decode cX9_stairs 116 = .ok (.iinc 2 1, 3) := by decide +kernel
theorem dX9_stairs_119 : decode cX9_stairs 119 = .ok (.goto (-16), 3) := by decide +kernel
theorem dX9_stairs_122 : decode cX9_stairs 122 = .ok (.iconst 0, 1) := by decide +kernel
theorem dX9_stairs_123 : decode cX9_stairs 123 = .ok (.istore_n 2, 1) := by decide +kernel
theorem dX9_stairs_124 : decode cX9_stairs 124 = .ok (.iload_n 2, 1) := by decide +kernel
theorem dX9_stairs_125 : decode cX9_stairs 125 = .ok (.aload_n 0, 1) := by decide +kernel
theorem dX9_stairs_126 : decode cX9_stairs 126 = .ok (.getfield 66, 3) := by decide +kernel
theorem dX9_stairs_129 : decode cX9_stairs 129 = .ok (.if_icmp .ge 47, 3) := by decide +kernel
theorem dX9_stairs_132 : decode cX9_stairs 132 = .ok (.aload_n 0, 1) := by decide +kernel
theorem dX9_stairs_133 : decode cX9_stairs 133 = .ok (.getfield 23, 3) := by decide +kernel
theorem dX9_stairs_136 : decode cX9_stairs 136 = .ok (.iload_n 2, 1) := by decide +kernel
theorem dX9_stairs_137 : decode cX9_stairs 137 = .ok (.aload_n 0, 1) := by decide +kernel
theorem dX9_stairs_138 : decode cX9_stairs 138 = .ok (.getfield 45, 3) := by decide +kernel
theorem dX9_stairs_141 : decode cX9_stairs 141 = .ok (.iload_n 2, 1) := by decide +kernel
theorem dX9_stairs_142 : decode cX9_stairs 142 = .ok (.iaload, 1) := by decide +kernel
theorem dX9_stairs_143 : decode cX9_stairs 143 = .ok (.iastore, 1) := by decide +kernel
theorem dX9_stairs_144 : decode cX9_stairs 144 = .ok (.aload_n 0, 1) := by decide +kernel
theorem dX9_stairs_145 : decode cX9_stairs 145 = .ok (.getfield 26, 3) := by decide +kernel
theorem dX9_stairs_148 : decode cX9_stairs 148 = .ok (.iload_n 2, 1) := by decide +kernel
theorem dX9_stairs_149 : decode cX9_stairs 149 = .ok (.aload_n 0, 1) := by decide +kernel
theorem dX9_stairs_150 : decode cX9_stairs 150 = .ok (.getfield 48, 3) := by decide +kernel
theorem dX9_stairs_153 : decode cX9_stairs 153 = .ok (.iload_n 2, 1) := by decide +kernel
theorem dX9_stairs_154 : decode cX9_stairs 154 = .ok (.iaload, 1) := by decide +kernel
theorem dX9_stairs_155 : decode cX9_stairs 155 = .ok (.iastore, 1) := by decide +kernel
theorem dX9_stairs_156 : decode cX9_stairs 156 = .ok (.aload_n 0, 1) := by decide +kernel
theorem dX9_stairs_157 : decode cX9_stairs 157 = .ok (.getfield 7, 3) := by decide +kernel
theorem dX9_stairs_160 : decode cX9_stairs 160 = .ok (.iconst 3, 1) := by decide +kernel
theorem dX9_stairs_161 : decode cX9_stairs 161 = .ok (.iload_n 2, 1) := by decide +kernel
theorem dX9_stairs_162 : decode cX9_stairs 162 = .ok (.iadd, 1) := by decide +kernel
theorem dX9_stairs_163 : decode cX9_stairs 163 = .ok (.aload_n 0, 1) := by decide +kernel
theorem dX9_stairs_164 : decode cX9_stairs 164 = .ok (.getfield 51, 3) := by decide +kernel
theorem dX9_stairs_167 : decode cX9_stairs 167 = .ok (.iload_n 2, 1) := by decide +kernel
theorem dX9_stairs_168 : decode cX9_stairs 168 = .ok (.iaload, 1) := by decide +kernel
theorem dX9_stairs_169 : decode cX9_stairs 169 = .ok (.iastore, 1) := by decide +kernel
theorem dX9_stairs_170 : decode cX9_stairs 170 = .ok (.iinc 2 1, 3) := by decide +kernel
theorem dX9_stairs_173 : decode cX9_stairs 173 = .ok (.goto (-49), 3) := by decide +kernel
theorem dX9_stairs_176 : decode cX9_stairs 176 = .ok (.aload_n 0, 1) := by decide +kernel
theorem dX9_stairs_177 : decode cX9_stairs 177 = .ok (.iconst 0, 1) := by decide +kernel
theorem dX9_stairs_178 : decode cX9_stairs 178 = .ok (.putfield 116, 3) := by decide +kernel
theorem dX9_stairs_181 : decode cX9_stairs 181 = .ok (.aload_n 0, 1) := by decide +kernel
theorem dX9_stairs_182 : decode cX9_stairs 182 = .ok (.iconst 0, 1) := by decide +kernel
theorem dX9_stairs_183 : decode cX9_stairs 183 = .ok (.putfield 119, 3) := by decide +kernel
theorem dX9_stairs_186 : decode cX9_stairs 186 = .ok (.aload_n 0, 1) := by decide +kernel
theorem dX9_stairs_187 : decode cX9_stairs 187 = .ok (.getfield 29, 3) := by decide +kernel
theorem dX9_stairs_190 : decode cX9_stairs 190 = .ok (.iconst 0, 1) := by decide +kernel
theorem dX9_stairs_191 : decode cX9_stairs 191 = .ok (.iconst 0, 1) := by decide +kernel
theorem dX9_stairs_192 : decode cX9_stairs 192 = .ok (.bastore, 1) := by decide +kernel
theorem dX9_stairs_193 : decode cX9_stairs 193 = .ok (.aload_n 0, 1) := by decide +kernel
theorem dX9_stairs_194 : decode cX9_stairs 194 = .ok (.getfield 29, 3) := by decide +kernel
theorem dX9_stairs_197 : decode cX9_stairs 197 = .ok (.iconst 1, 1) := by decide +kernel
theorem dX9_stairs_198 : decode cX9_stairs 198 = .ok (.iconst 0, 1) := by decide +kernel
theorem dX9_stairs_199 : decode cX9_stairs 199 = .ok (.bastore, 1) := by decide +kernel
theorem dX9_stairs_200 : decode cX9_stairs 200 = .ok (.iload_n 1, 1) := by decide +kernel
theorem dX9_stairs_201 : decode cX9_stairs 201 = .ok (.ireturn, 1) := by decide +kernel
set_option maxRecDepth 20000 in
theorem ggX9_step_X9_isStep : GoodIn wsX9_step wsX9_isStep := goodIn_r _ [8, 9, 10, 11, 7, 12, 13, 14, 15, 16, 17, 18, 19, 20, 21, 22, 23, 24, 25, 26, 27, 28, 29, 30, 31, 32, 33, 34, 35, 36, 37, 38, 39, 40, 41, 42, 43, 44] (by decide +kernel) (by decide +kernel)
set_option maxRecDepth 20000 in
theorem gX9_step_X9_isStep : GoodIn wsX9_step (wsV RX9 122 RX9 yX9_isStep wsX9_isStep) := goodIn_app (goodIn_of _ (by decide +kernel)) ggX9_step_X9_isStep
set_option maxRecDepth 20000 in
theorem ggX9_step_X9_in : GoodIn wsX9_step wsX9_in := goodIn_r _ [12] (by decide +kernel) (by decide +kernel)
set_option maxRecDepth 20000 in
theorem gX9_step_X9_in : GoodIn wsX9_step (va_wsS RX9 69 yX9_in wsX9_in) := goodIn_app (goodIn_of _ (by decide +kernel)) ggX9_step_X9_in
theorem dX9_step_0 : decode cX9_step 0 = .ok (.aload_n 0, 1) := by decide +kernel
theorem dX9_step_1 : decode cX9_step 1 = .ok (.iload_n 1, 1) := by decide +kernel
theorem dX9_step_2 : decode cX9_step 2 = .ok (.invokevirtual 122, 3) := by decide +kernel
theorem dX9_step_5 : decode cX9_step 5 = .ok (.ifCond .eq 12, 3) := by decide +kernel
theorem dX9_step_8 : decode cX9_step 8 = .ok (.iload_n 2, 1) := by decide +kernel
theorem dX9_step_9 : decode cX9_step 9 = .ok (.iconst 0, 1) := by decide +kernel
theorem dX9_step_10 : decode cX9_step 10 = .ok (.iconst 2, 1) := by decide +kernel
theorem dX9_step_11 : decode cX9_step 11 = .ok (.invokestatic 69, 3) := by decide +kernel
theorem dX9_step_14 : decode cX9_step 14 = .ok (.ifCond .ne 7, 3) := by decide +kernel
theorem dX9_step_17 : decode cX9_step 17 = .ok (.iconst (-1), 1) := by decide +kernel
theorem dX9_step_18 : decode cX9_step 18 = .ok (.goto 38, 3) := by decide +kernel
theorem dX9_step_21 : decode cX9_step 21 = .ok (.iload_n 2, 1) := by decide +kernel
theorem dX9_step_22 : decode cX9_step 22 = .ok (.ifCond .ne 12, 3) := by decide +kernel
theorem dX9_step_25 : decode cX9_step 25 = .ok (.aload_n 0, 1) := by decide +kernel
theorem dX9_step_26 : decode cX9_step 26 = .ok (.getfield 23, 3) := by decide +kernel
theorem dX9_step_29 : decode cX9_step 29 = .ok (.iload_n 1, 1) := by decide +kernel
theorem dX9_step_30 : decode cX9_step 30 = .ok (.iaload, 1) := by decide +kernel
theorem dX9_step_31 : decode cX9_step 31 = .ok (.goto 25, 3) := by decide +kernel
theorem dX9_step_34 : decode cX9_step 34 = .ok (.iload_n 2, 1) := by decide +kernel
theorem dX9_step_35 : decode cX9_step 35 = .ok (.iconst 1, 1) := by decide +kernel
theorem dX9_step_36 : decode cX9_step 36 = .ok (.if_icmp .ne 12, 3) := by decide +kernel
theorem dX9_step_39 : decode cX9_step 39 = .ok (.aload_n 0, 1) := by decide +kernel
theorem dX9_step_40 : decode cX9_step 40 = .ok (.getfield 26, 3) := by decide +kernel
theorem dX9_step_43 : decode cX9_step 43 = .ok (.iload_n 1, 1) := by decide +kernel
theorem dX9_step_44 : decode cX9_step 44 = .ok (.iaload, 1) := by decide +kernel
theorem dX9_step_45 : decode cX9_step 45 = .ok (.goto 11, 3) := by decide +kernel
theorem dX9_step_48 : decode cX9_step 48 = .ok (.aload_n 0, 1) := by decide +kernel
theorem dX9_step_49 : decode cX9_step 49 = .ok (.getfield 7, 3) := by decide +kernel
theorem dX9_step_52 : decode cX9_step 52 = .ok (.iconst 3, 1) := by decide +kernel
theorem dX9_step_53 : decode cX9_step 53 = .ok (.iload_n 1, 1) := by decide +kernel
theorem dX9_step_54 : decode cX9_step 54 = .ok (.iadd, 1) := by decide +kernel
theorem dX9_step_55 : decode cX9_step 55 = .ok (.iaload, 1) := by decide +kernel
theorem dX9_step_56 : decode cX9_step 56 = .ok (.ireturn, 1) := by decide +kernel
theorem dX9_asItIs_0 : decode cX9_asItIs 0 = .ok (.aload_n 0, 1) := by decide +kernel
theorem dX9_asItIs_1 : decode cX9_asItIs 1 = .ok (.aload_n 0, 1) := by decide +kernel
theorem dX9_asItIs_2 : decode cX9_asItIs 2 = .ok (.getfield 17, 3) := by decide +kernel
theorem dX9_asItIs_5 : decode cX9_asItIs 5 = .ok (.putfield 125, 3) := by decide +kernel
theorem dX9_asItIs_8 : decode cX9_asItIs 8 = .ok (.aload_n 0, 1) := by decide +kernel
theorem dX9_asItIs_9 : decode cX9_asItIs 9 = .ok (.aload_n 0, 1) := by decide +kernel
theorem dX9_asItIs_10 : decode cX9_asItIs 10 = .ok (.getfield 20, 3) := by decide +kernel
theorem dX9_asItIs_13 : decode cX9_asItIs 13 = .ok (.putfield 128, 3) := by decide +kernel
theorem dX9_asItIs_16 : decode cX9_asItIs 16 = .ok (.aload_n 0, 1) := by decide +kernel
theorem dX9_asItIs_17 : decode cX9_asItIs 17 = .ok (.iconst 0, 1) := by decide +kernel
theorem dX9_asItIs_18 : decode cX9_asItIs 18 = .ok (.putfield 131, 3) := by decide +kernel
theorem dX9_asItIs_21 : decode cX9_asItIs 21 = .ok (.return_, 1) := by decide +kernel
theorem dX9_bound_0 : decode cX9_bound 0 = .ok (.iload_n 0, 1) := by decide +kernel
theorem dX9_bound_1 : decode cX9_bound 1 = .ok (.ifCond .ge 7, 3) := by decide +kernel
theorem dX9_bound_4 : decode cX9_bound 4 = .ok (.iconst 0, 1) := by decide +kernel
theorem dX9_bound_5 : decode cX9_bound 5 = .ok (.goto 15, 3) := by decide +kernel
theorem dX9_bound_8 : decode cX9_bound 8 = .ok (.iload_n 0, 1) := by decide +kernel
theorem dX9_bound_9 : decode cX9_bound 9 = .ok (.bipush 99, 2) := by decide +kernel
theorem dX9_bound_11 : decode cX9_bound 11 = .ok (.if_icmp .le 8, 3) := by decide +kernel
theorem dX9_bound_14 : decode cX9_bound 14 = .ok (.bipush 99, 2) := by decide +kernel
theorem dX9_bound_16 : decode cX9_bound 16 = .ok (.goto 4, 3) := by decide +kernel
theorem dX9_bound_19 : decode cX9_bound 19 = .ok (.iload_n 0, 1) := by decide +kernel
theorem dX9_bound_20 : decode cX9_bound 20 = .ok (.ireturn, 1) := by decide +kernel
set_option maxRecDepth 20000 in
theorem ggX9_lands_X9_bound : GoodIn wsX9_lands wsX9_bound := goodIn_r _ [11] (by decide +kernel) (by decide +kernel)
set_option maxRecDepth 20000 in
theorem gX9_lands_X9_bound : GoodIn wsX9_lands (va_wsS RX9 134 yX9_bound wsX9_bound) := goodIn_app (goodIn_of _ (by decide +kernel)) ggX9_lands_X9_bound
theorem dX9_lands_0 : decode cX9_lands 0 = .ok (.iconst 1, 1) := by decide +kernel
theorem dX9_lands_1 : decode cX9_lands 1 = .ok (.istore_n 2, 1) := by decide +kernel
theorem dX9_lands_2 : decode cX9_lands 2 = .ok (.iload_n 2, 1) := by decide +kernel
theorem dX9_lands_3 : decode cX9_lands 3 = .ok (.ifCond .eq 160, 3) := by decide +kernel
theorem dX9_lands_6 : decode cX9_lands 6 = .ok (.aload_n 0, 1) := by decide +kernel
theorem dX9_lands_7 : decode cX9_lands 7 = .ok (.getfield 7, 3) := by decide +kernel
theorem dX9_lands_10 : decode cX9_lands 10 = .ok (.iload_n 1, 1) := by decide +kernel
theorem dX9_lands_11 : decode cX9_lands 11 = .ok (.iconst 0, 1) := by decide +kernel
theorem dX9_lands_12 : decode cX9_lands 12 = .ok (.iadd, 1) := by decide +kernel
theorem dX9_lands_13 : decode cX9_lands 13 = .ok (.iaload, 1) := by decide +kernel
theorem dX9_lands_14 : decode cX9_lands 14 = .ok (.istore_n 3, 1) := by decide +kernel
theorem dX9_lands_15 : decode cX9_lands 15 = .ok (.iconst 0, 1) := by decide +kernel
theorem dX9_lands_16 : decode cX9_lands 16 = .ok (.istore_n 2, 1) := by decide +kernel
theorem dX9_lands_17 : decode cX9_lands 17 = .ok (.iload_n 3, 1) := by decide +kernel
theorem dX9_lands_18 : decode cX9_lands 18 = .ok (.aload_n 0, 1) := by decide +kernel
theorem dX9_lands_19 : decode cX9_lands 19 = .ok (.getfield 66, 3) := by decide +kernel
theorem dX9_lands_22 : decode cX9_lands 22 = .ok (.if_icmp .ne 15, 3) := by decide +kernel
theorem dX9_lands_25 : decode cX9_lands 25 = .ok (.aload_n 0, 1) := by decide +kernel
theorem dX9_lands_26 : decode cX9_lands 26 = .ok (.getfield 7, 3) := by decide +kernel
theorem dX9_lands_29 : decode cX9_lands 29 = .ok (.iload_n 1, 1) := by decide +kernel
theorem dX9_lands_30 : decode cX9_lands 30 = .ok (.iconst 1, 1) := by decide +kernel
theorem dX9_lands_31 : decode cX9_lands 31 = .ok (.iadd, 1) := by decide +kernel
theorem dX9_lands_32 : decode cX9_lands 32 = .ok (.iconst 0, 1) := by decide +kernel
theorem dX9_lands_33 : decode cX9_lands 33 = .ok (.iastore, 1) := by decide +kernel
theorem dX9_lands_34 : decode cX9_lands 34 = .ok (.goto 126, 3) := by decide +kernel
theorem dX9_lands_37 : decode cX9_lands 37 = .ok (.aload_n 0, 1) := by decide +kernel
theorem dX9_lands_38 : decode cX9_lands 38 = .ok (.getfield 7, 3) := by decide +kernel
theorem dX9_lands_41 : decode cX9_lands 41 = .ok (.iload_n 1, 1) := by decide +kernel
theorem dX9_lands_42 : decode cX9_lands 42 = .ok (.iconst 1, 1) := by decide +kernel
theorem dX9_lands_43 : decode cX9_lands 43 = .ok (.iadd, 1) := by decide +kernel
theorem dX9_lands_44 : decode cX9_lands 44 = .ok (.iaload, 1) := by decide +kernel
theorem dX9_lands_45 : decode cX9_lands 45 = .ok (.aload_n 0, 1) := by decide +kernel
theorem dX9_lands_46 : decode cX9_lands 46 = .ok (.getfield 7, 3) := by decide +kernel
theorem dX9_lands_49 : decode cX9_lands 49 = .ok (.iload_n 1, 1) := by decide +kernel
theorem dX9_lands_50 : decode cX9_lands 50 = .ok (.iconst 3, 1) := by decide +kernel
theorem dX9_lands_51 : decode cX9_lands 51 = .ok (.iadd, 1) := by decide +kernel
theorem dX9_lands_52 : decode cX9_lands 52 = .ok (.iload_n 3, 1) := by decide +kernel
theorem dX9_lands_53 : decode cX9_lands 53 = .ok (.iadd, 1) := by decide +kernel
theorem dX9_lands_54 : decode cX9_lands 54 = .ok (.iaload, 1) := by decide +kernel
theorem dX9_lands_55 : decode cX9_lands 55 = .ok (.isub, 1) := by decide +kernel
theorem dX9_lands_56 : decode cX9_lands 56 = .ok (.invokestatic 134, 3) := by decide +kernel
theorem dX9_lands_59 : decode cX9_lands 59 = .ok (.istore 4, 2) := by decide +kernel
theorem dX9_lands_61 : decode cX9_lands 61 = .ok (.iload 4, 2) := by decide +kernel
theorem dX9_lands_63 : decode cX9_lands 63 = .ok (.aload_n 0, 1) := by decide +kernel
theorem dX9_lands_64 : decode cX9_lands 64 = .ok (.getfield 13, 3) := by decide +kernel
theorem dX9_lands_67 : decode cX9_lands 67 = .ok (.aload_n 0, 1) := by decide +kernel
theorem dX9_lands_68 : decode cX9_lands 68 = .ok (.getfield 26, 3) := by decide +kernel
theorem dX9_lands_71 : decode cX9_lands 71 = .ok (.iload_n 3, 1) := by decide +kernel
theorem dX9_lands_72 : decode cX9_lands 72 = .ok (.iaload, 1) := by decide +kernel
theorem dX9_lands_73 : decode cX9_lands 73 = .ok (.iadd, 1) := by decide +kernel
theorem dX9_lands_74 : decode cX9_lands 74 = .ok (.if_icmp .le 7, 3) := by decide +kernel
theorem dX9_lands_77 : decode cX9_lands 77 = .ok (.iconst 1, 1) := by decide +kernel
theorem dX9_lands_78 : decode cX9_lands 78 = .ok (.goto 4, 3) := by decide +kernel
theorem dX9_lands_81 : decode cX9_lands 81 = .ok (.iconst 0, 1) := by decide +kernel
theorem dX9_lands_82 : decode cX9_lands 82 = .ok (.istore_n 2, 1) := by decide +kernel
theorem dX9_lands_83 : decode cX9_lands 83 = .ok (.aload_n 0, 1) := by decide +kernel
theorem dX9_lands_84 : decode cX9_lands 84 = .ok (.getfield 7, 3) := by decide +kernel
theorem dX9_lands_87 : decode cX9_lands 87 = .ok (.iload_n 1, 1) := by decide +kernel
theorem dX9_lands_88 : decode cX9_lands 88 = .ok (.iconst 1, 1) := by decide +kernel
theorem dX9_lands_89 : decode cX9_lands 89 = .ok (.iadd, 1) := by decide +kernel
theorem dX9_lands_90 : decode cX9_lands 90 = .ok (.iload_n 2, 1) := by decide +kernel
theorem dX9_lands_91 : decode cX9_lands 91 = .ok (.ifCond .eq 27, 3) := by decide +kernel
theorem dX9_lands_94 : decode cX9_lands 94 = .ok (.iload 4, 2) := by decide +kernel
theorem dX9_lands_96 : decode cX9_lands 96 = .ok (.aload_n 0, 1) := by decide +kernel
theorem dX9_lands_97 : decode cX9_lands 97 = .ok (.getfield 23, 3) := by decide +kernel
theorem dX9_lands_100 : decode cX9_lands 100 = .ok (.iload_n 3, 1) := by decide +kernel
theorem dX9_lands_101 : decode cX9_lands 101 = .ok (.iaload, 1) := by decide +kernel
theorem dX9_lands_102 : decode cX9_lands 102 = .ok (.iadd, 1) := by decide +kernel
theorem dX9_lands_103 : decode cX9_lands 103 = .ok (.iconst 2, 1) := by decide +kernel
theorem dX9_lands_104 : decode cX9_lands 104 = .ok (.aload_n 0, 1) := by decide +kernel
theorem dX9_lands_105 : decode cX9_lands 105 = .ok (.getfield 128, 3) := by decide +kernel
theorem dX9_lands_108 : decode cX9_lands 108 = .ok (.imul, 1) := by decide +kernel
theorem dX9_lands_109 : decode cX9_lands 109 = .ok (.isub, 1) := by decide +kernel
theorem dX9_lands_110 : decode cX9_lands 110 = .ok (.iconst 1, 1) := by decide +kernel
theorem dX9_lands_111 : decode cX9_lands 111 = .ok (.isub, 1) := by decide +kernel
theorem dX9_lands_112 : decode cX9_lands 112 = .ok (.invokestatic 134, 3) := by decide +kernel
theorem dX9_lands_115 : decode cX9_lands 115 = .ok (.goto 5, 3) := by decide +kernel
theorem dX9_lands_118 : decode cX9_lands 118 = .ok (.iload 4, 2) := by decide +kernel
theorem dX9_lands_120 : decode cX9_lands 120 = .ok (.iastore, 1) := by decide +kernel
theorem dX9_lands_121 : decode cX9_lands 121 = .ok (.aload_n 0, 1) := by decide +kernel
theorem dX9_lands_122 : decode cX9_lands 122 = .ok (.getfield 7, 3) := by decide +kernel
theorem dX9_lands_125 : decode cX9_lands 125 = .ok (.iload_n 1, 1) := by decide +kernel
theorem dX9_lands_126 : decode cX9_lands 126 = .ok (.iconst 0, 1) := by decide +kernel
theorem dX9_lands_127 : decode cX9_lands 127 = .ok (.iadd, 1) := by decide +kernel
theorem dX9_lands_128 : decode cX9_lands 128 = .ok (.iload_n 2, 1) := by decide +kernel
theorem dX9_lands_129 : decode cX9_lands 129 = .ok (.ifCond .eq 9, 3) := by decide +kernel
theorem dX9_lands_132 : decode cX9_lands 132 = .ok (.iload_n 3, 1) := by decide +kernel
theorem dX9_lands_133 : decode cX9_lands 133 = .ok (.iconst 1, 1) := by decide +kernel
theorem dX9_lands_134 : decode cX9_lands 134 = .ok (.iadd, 1) := by decide +kernel
theorem dX9_lands_135 : decode cX9_lands 135 = .ok (.goto 4, 3) := by decide +kernel
theorem dX9_lands_138 : decode cX9_lands 138 = .ok (.iload_n 3, 1) := by decide +kernel
theorem dX9_lands_139 : decode cX9_lands 139 = .ok (.iastore, 1) := by decide +kernel
theorem dX9_lands_140 : decode cX9_lands 140 = .ok (.aload_n 0, 1) := by decide +kernel
theorem dX9_lands_141 : decode cX9_lands 141 = .ok (.dup, 1) := by decide +kernel
theorem dX9_lands_142 : decode cX9_lands 142 = .ok (.getfield 131, 3) := by decide +kernel
theorem dX9_lands_145 : decode cX9_lands 145 = .ok (.iload_n 2, 1) := by decide +kernel
theorem dX9_lands_146 : decode cX9_lands 146 = .ok (.ifCond .eq 9, 3) := by decide +kernel
theorem dX9_lands_149 : decode cX9_lands 149 = .ok (.iconst 1, 1) := by decide +kernel
theorem dX9_lands_150 : decode cX9_lands 150 = .ok (.iload_n 3, 1) := by decide +kernel
theorem dX9_lands_151 : decode cX9_lands 151 = .ok (.ishl, 1) := by decide +kernel
theorem dX9_lands_152 : decode cX9_lands 152 = .ok (.goto 4, 3) := by decide +kernel
theorem dX9_lands_155 : decode cX9_lands 155 = .ok (.iconst 0, 1) := by decide +kernel
theorem dX9_lands_156 : decode cX9_lands 156 = .ok (.ior, 1) := by decide +kernel
theorem dX9_lands_157 : decode cX9_lands 157 = .ok (.putfield 131, 3) := by decide +kernel
theorem dX9_lands_160 : decode cX9_lands 160 = .ok (.goto (-158), 3) := by decide +kernel
theorem dX9_lands_163 : decode cX9_lands 163 = .ok (.return_, 1) := by decide +kernel
set_option maxRecDepth 20000 in
theorem ggX9_flip_X9_bound : GoodIn wsX9_flip wsX9_bound := goodIn_r _ [8] (by decide +kernel) (by decide +kernel)
set_option maxRecDepth 20000 in
theorem gX9_flip_X9_bound : GoodIn wsX9_flip (va_wsS RX9 134 yX9_bound wsX9_bound) := goodIn_app (goodIn_of _ (by decide +kernel)) ggX9_flip_X9_bound
set_option maxRecDepth 20000 in
theorem ggX9_flip_X9_lands : GoodIn wsX9_flip wsX9_lands := goodIn_r _ [12, 1, 13, 14, 15, 3, 4, 16, 5, 6, 7, 8, 17, 18, 19, 20, 21, 22, 23, 24, 25, 26, 27, 28, 29, 30, 31, 32, 33, 34, 35, 36, 37, 38, 39, 40, 41, 42, 43, 44, 45, 46, 47, 48] (by decide +kernel) (by decide +kernel)
set_option maxRecDepth 20000 in
theorem gX9_flip_X9_lands : GoodIn wsX9_flip (wsV RX9 138 RX9 yX9_lands wsX9_lands) := goodIn_app (goodIn_of _ (by decide +kernel)) ggX9_flip_X9_lands
theorem dX9_flip_0 : decode cX9_flip 0 = .ok (.aload_n 0, 1) := by decide +kernel
theorem dX9_flip_1 : decode cX9_flip 1 = .ok (.getfield 7, 3) := by decide +kernel
theorem dX9_flip_4 : decode cX9_flip 4 = .ok (.iload_n 1, 1) := by decide +kernel
theorem dX9_flip_5 : decode cX9_flip 5 = .ok (.iconst 1, 1) := by decide +kernel
theorem dX9_flip_6 : decode cX9_flip 6 = .ok (.iadd, 1) := by decide +kernel
theorem dX9_flip_7 : decode cX9_flip 7 = .ok (.iaload, 1) := by decide +kernel
theorem dX9_flip_8 : decode cX9_flip 8 = .ok (.istore_n 2, 1) := by decide +kernel
theorem dX9_flip_9 : decode cX9_flip 9 = .ok (.iload_n 2, 1) := by decide +kernel
theorem dX9_flip_10 : decode cX9_flip 10 = .ok (.aload_n 0, 1) := by decide +kernel
theorem dX9_flip_11 : decode cX9_flip 11 = .ok (.getfield 125, 3) := by decide +kernel
theorem dX9_flip_14 : decode cX9_flip 14 = .ok (.if_icmp .ge 15, 3) := by decide +kernel
theorem dX9_flip_17 : decode cX9_flip 17 = .ok (.aload_n 0, 1) := by decide +kernel
theorem dX9_flip_18 : decode cX9_flip 18 = .ok (.getfield 7, 3) := by decide +kernel
theorem dX9_flip_21 : decode cX9_flip 21 = .ok (.iload_n 1, 1) := by decide +kernel
theorem dX9_flip_22 : decode cX9_flip 22 = .ok (.iconst 1, 1) := by decide +kernel
theorem dX9_flip_23 : decode cX9_flip 23 = .ok (.iadd, 1) := by decide +kernel
theorem dX9_flip_24 : decode cX9_flip 24 = .ok (.iconst 0, 1) := by decide +kernel
theorem dX9_flip_25 : decode cX9_flip 25 = .ok (.iastore, 1) := by decide +kernel
theorem dX9_flip_26 : decode cX9_flip 26 = .ok (.goto 56, 3) := by decide +kernel
theorem dX9_flip_29 : decode cX9_flip 29 = .ok (.aload_n 0, 1) := by decide +kernel
theorem dX9_flip_30 : decode cX9_flip 30 = .ok (.getfield 7, 3) := by decide +kernel
theorem dX9_flip_33 : decode cX9_flip 33 = .ok (.iload_n 1, 1) := by decide +kernel
theorem dX9_flip_34 : decode cX9_flip 34 = .ok (.iconst 1, 1) := by decide +kernel
theorem dX9_flip_35 : decode cX9_flip 35 = .ok (.iadd, 1) := by decide +kernel
theorem dX9_flip_36 : decode cX9_flip 36 = .ok (.iload_n 2, 1) := by decide +kernel
theorem dX9_flip_37 : decode cX9_flip 37 = .ok (.aload_n 0, 1) := by decide +kernel
theorem dX9_flip_38 : decode cX9_flip 38 = .ok (.getfield 125, 3) := by decide +kernel
theorem dX9_flip_41 : decode cX9_flip 41 = .ok (.isub, 1) := by decide +kernel
theorem dX9_flip_42 : decode cX9_flip 42 = .ok (.aload_n 0, 1) := by decide +kernel
theorem dX9_flip_43 : decode cX9_flip 43 = .ok (.getfield 23, 3) := by decide +kernel
theorem dX9_flip_46 : decode cX9_flip 46 = .ok (.aload_n 0, 1) := by decide +kernel
theorem dX9_flip_47 : decode cX9_flip 47 = .ok (.getfield 7, 3) := by decide +kernel
theorem dX9_flip_50 : decode cX9_flip 50 = .ok (.iload_n 1, 1) := by decide +kernel
theorem dX9_flip_51 : decode cX9_flip 51 = .ok (.iconst 0, 1) := by decide +kernel
theorem dX9_flip_52 : decode cX9_flip 52 = .ok (.iadd, 1) := by decide +kernel
theorem dX9_flip_53 : decode cX9_flip 53 = .ok (.iaload, 1) := by decide +kernel
theorem dX9_flip_54 : decode cX9_flip 54 = .ok (.iaload, 1) := by decide +kernel
theorem dX9_flip_55 : decode cX9_flip 55 = .ok (.iadd, 1) := by decide +kernel
theorem dX9_flip_56 : decode cX9_flip 56 = .ok (.aload_n 0, 1) := by decide +kernel
theorem dX9_flip_57 : decode cX9_flip 57 = .ok (.getfield 128, 3) := by decide +kernel
theorem dX9_flip_60 : decode cX9_flip 60 = .ok (.isub, 1) := by decide +kernel
theorem dX9_flip_61 : decode cX9_flip 61 = .ok (.invokestatic 134, 3) := by decide +kernel
theorem dX9_flip_64 : decode cX9_flip 64 = .ok (.iastore, 1) := by decide +kernel
theorem dX9_flip_65 : decode cX9_flip 65 = .ok (.aload_n 0, 1) := by decide +kernel
theorem dX9_flip_66 : decode cX9_flip 66 = .ok (.getfield 7, 3) := by decide +kernel
theorem dX9_flip_69 : decode cX9_flip 69 = .ok (.iload_n 1, 1) := by decide +kernel
theorem dX9_flip_70 : decode cX9_flip 70 = .ok (.iconst 0, 1) := by decide +kernel
theorem dX9_flip_71 : decode cX9_flip 71 = .ok (.iadd, 1) := by decide +kernel
theorem dX9_flip_72 : decode cX9_flip 72 = .ok (.dup2, 1) := by decide +kernel
theorem dX9_flip_73 : decode cX9_flip 73 = .ok (.iaload, 1) := by decide +kernel
theorem dX9_flip_74 : decode cX9_flip 74 = .ok (.iconst 1, 1) := by decide +kernel
theorem dX9_flip_75 : decode cX9_flip 75 = .ok (.iadd, 1) := by decide +kernel
theorem dX9_flip_76 : decode cX9_flip 76 = .ok (.iastore, 1) := by decide +kernel
theorem dX9_flip_77 : decode cX9_flip 77 = .ok (.aload_n 0, 1) := by decide +kernel
theorem dX9_flip_78 : decode cX9_flip 78 = .ok (.iload_n 1, 1) := by decide +kernel
theorem dX9_flip_79 : decode cX9_flip 79 = .ok (.invokevirtual 138, 3) := by decide +kernel
theorem dX9_flip_82 : decode cX9_flip 82 = .ok (.aload_n 0, 1) := by decide +kernel
theorem dX9_flip_83 : decode cX9_flip 83 = .ok (.getfield 7, 3) := by decide +kernel
theorem dX9_flip_86 : decode cX9_flip 86 = .ok (.iload_n 1, 1) := by decide +kernel
theorem dX9_flip_87 : decode cX9_flip 87 = .ok (.iconst 2, 1) := by decide +kernel
theorem dX9_flip_88 : decode cX9_flip 88 = .ok (.iadd, 1) := by decide +kernel
theorem dX9_flip_89 : decode cX9_flip 89 = .ok (.dup2, 1) := by decide +kernel
theorem dX9_flip_90 : decode cX9_flip 90 = .ok (.iaload, 1) := by decide +kernel
theorem dX9_flip_91 : decode cX9_flip 91 = .ok (.aload_n 0, 1) := by decide +kernel
theorem dX9_flip_92 : decode cX9_flip 92 = .ok (.getfield 7, 3) := by decide +kernel
theorem dX9_flip_95 : decode cX9_flip 95 = .ok (.iload_n 1, 1) := by decide +kernel
theorem dX9_flip_96 : decode cX9_flip 96 = .ok (.iconst 2, 1) := by decide +kernel
theorem dX9_flip_97 : decode cX9_flip 97 = .ok (.iadd, 1) := by decide +kernel
theorem dX9_flip_98 : decode cX9_flip 98 = .ok (.iaload, 1) := by decide +kernel
theorem dX9_flip_99 : decode cX9_flip 99 = .ok (.sipush 999, 3) := by decide +kernel
theorem dX9_flip_102 : decode cX9_flip 102 = .ok (.if_icmp .ge 7, 3) := by decide +kernel
theorem dX9_flip_105 : decode cX9_flip 105 = .ok (.iconst 1, 1) := by decide +kernel
theorem dX9_flip_106 : decode cX9_flip 106 = .ok (.goto 4, 3) := by decide +kernel
theorem dX9_flip_109 : decode cX9_flip 109 = .ok (.iconst 0, 1) := by decide +kernel
theorem dX9_flip_110 : decode cX9_flip 110 = .ok (.iadd, 1) := by decide +kernel
theorem dX9_flip_111 : decode cX9_flip 111 = .ok (.iastore, 1) := by decide +kernel
theorem dX9_flip_112 : decode cX9_flip 112 = .ok (.return_, 1) := by decide +kernel
set_option maxRecDepth 20000 in
theorem ggX9_runs_X9_flip : GoodIn wsX9_runs wsX9_flip := goodIn_r _ [6, 1, 7, 8, 9, 10, 11, 5, 12, 13, 14, 15, 16, 17, 18, 19, 20, 21, 22, 23, 24, 25, 26, 27, 28, 29, 30, 31, 32, 33, 34, 35, 36, 37, 38, 39, 40, 41, 42, 43, 44, 45, 46, 47, 48, 49, 50, 51, 52] (by decide +kernel) (by decide +kernel)
set_option maxRecDepth 20000 in
theorem gX9_runs_X9_flip : GoodIn wsX9_runs (wsV RX9 142 RX9 yX9_flip wsX9_flip) := goodIn_app (goodIn_of _ (by decide +kernel)) ggX9_runs_X9_flip
theorem dX9_runs_0 : decode cX9_runs 0 = .ok (.iconst 0, 1) := by decide +kernel
theorem dX9_runs_1 : decode cX9_runs 1 = .ok (.istore_n 1, 1) := by decide +kernel
theorem dX9_runs_2 : decode cX9_runs 2 = .ok (.aload_n 0, 1) := by decide +kernel
theorem dX9_runs_3 : decode cX9_runs 3 = .ok (.getfield 7, 3) := by decide +kernel
theorem dX9_runs_6 : decode cX9_runs 6 = .ok (.sipush 157, 3) := by decide +kernel
theorem dX9_runs_9 : decode cX9_runs 9 = .ok (.iaload, 1) := by decide +kernel
theorem dX9_runs_10 : decode cX9_runs 10 = .ok (.ifCond .le 16, 3) := by decide +kernel
theorem dX9_runs_13 : decode cX9_runs 13 = .ok (.aload_n 0, 1) := by decide +kernel
theorem dX9_runs_14 : decode cX9_runs 14 = .ok (.sipush 156, 3) := by decide +kernel
theorem dX9_runs_17 : decode cX9_runs 17 = .ok (.invokevirtual 142, 3) := by decide +kernel
theorem dX9_runs_20 : decode cX9_runs 20 = .ok (.iinc 1 1, 3) := by decide +kernel
theorem dX9_runs_23 : decode cX9_runs 23 = .ok (.goto (-21), 3) := by decide +kernel
theorem dX9_runs_26 : decode cX9_runs 26 = .ok (.iload_n 1, 1) := by decide +kernel
theorem dX9_runs_27 : decode cX9_runs 27 = .ok (.ireturn, 1) := by decide +kernel
set_option maxRecDepth 20000 in
theorem ggX9_layTried_X9_copyRow : GoodIn wsX9_layTried wsX9_copyRow := goodIn_r _ [5, 6, 16, 17, 18, 19, 20, 21, 22, 23, 24, 25, 26, 27, 28, 29, 30, 31, 32, 33, 34, 35, 36, 37, 38, 39, 40, 41, 42, 43, 44, 45, 46, 47] (by decide +kernel) (by decide +kernel)
set_option maxRecDepth 20000 in
theorem gX9_layTried_X9_copyRow : GoodIn wsX9_layTried (wsV RX9 145 RX9 yX9_copyRow wsX9_copyRow) := goodIn_app (goodIn_of _ (by decide +kernel)) ggX9_layTried_X9_copyRow
set_option maxRecDepth 20000 in
theorem ggX9_layTried_X9_asItIs : GoodIn wsX9_layTried wsX9_asItIs := goodIn_r _ [10, 11, 12, 13, 14, 15, 16, 17, 18, 19, 20, 21, 22, 23, 24, 25, 26, 27, 28, 29, 30, 31, 32, 33, 34, 35, 36, 37, 38, 39, 40, 41, 42, 43, 44, 45, 46, 47] (by decide +kernel) (by decide +kernel)
set_option maxRecDepth 20000 in
theorem gX9_layTried_X9_asItIs : GoodIn wsX9_layTried (wsV RX9 149 RX9 yX9_asItIs wsX9_asItIs) := goodIn_app (goodIn_of _ (by decide +kernel)) ggX9_layTried_X9_asItIs
theorem dX9_layTried_0 : decode cX9_layTried 0 = .ok (.aload_n 0, 1) := by decide +kernel
theorem dX9_layTried_1 : decode cX9_layTried 1 = .ok (.iconst 0, 1) := by decide +kernel
theorem dX9_layTried_2 : decode cX9_layTried 2 = .ok (.sipush 156, 3) := by decide +kernel
theorem dX9_layTried_5 : decode cX9_layTried 5 = .ok (.invokevirtual 145, 3) := by decide +kernel
theorem dX9_layTried_8 : decode cX9_layTried 8 = .ok (.aload_n 0, 1) := by decide +kernel
theorem dX9_layTried_9 : decode cX9_layTried 9 = .ok (.invokevirtual 149, 3) := by decide +kernel
theorem dX9_layTried_12 : decode cX9_layTried 12 = .ok (.return_, 1) := by decide +kernel
set_option maxRecDepth 20000 in
theorem ggX9_leastFrom_X9_bound : GoodIn wsX9_leastFrom wsX9_bound := goodIn_r _ [9] (by decide +kernel) (by decide +kernel)
set_option maxRecDepth 20000 in
theorem gX9_leastFrom_X9_bound : GoodIn wsX9_leastFrom (va_wsS RX9 134 yX9_bound wsX9_bound) := goodIn_app (goodIn_of _ (by decide +kernel)) ggX9_leastFrom_X9_bound
set_option maxRecDepth 20000 in
theorem ggX9_leastFrom_X9_copyRow : GoodIn wsX9_leastFrom wsX9_copyRow := goodIn_r _ [13, 3, 29, 30, 31, 32, 33, 34, 35, 36, 37, 38, 39, 40, 41, 42, 43, 44, 45, 46, 47, 48, 49, 50, 51, 52, 53, 54, 55, 56, 57, 58, 59, 60] (by decide +kernel) (by decide +kernel)
set_option maxRecDepth 20000 in
theorem gX9_leastFrom_X9_copyRow : GoodIn wsX9_leastFrom (wsV RX9 145 RX9 yX9_copyRow wsX9_copyRow) := goodIn_app (goodIn_of _ (by decide +kernel)) ggX9_leastFrom_X9_copyRow
set_option maxRecDepth 20000 in
theorem ggX9_leastFrom_X9_flip : GoodIn wsX9_leastFrom wsX9_flip := goodIn_r _ [17, 3, 18, 19, 20, 6, 7, 8, 9, 21, 22, 23, 24, 25, 26, 27, 28, 29, 30, 31, 32, 33, 34, 35, 36, 37, 38, 39, 40, 41, 42, 43, 44, 45, 46, 47, 48, 49, 50, 51, 52, 53, 54, 55, 56, 57, 58, 59, 60] (by decide +kernel) (by decide +kernel)
set_option maxRecDepth 20000 in
theorem gX9_leastFrom_X9_flip : GoodIn wsX9_leastFrom (wsV RX9 142 RX9 yX9_flip wsX9_flip) := goodIn_app (goodIn_of _ (by decide +kernel)) ggX9_leastFrom_X9_flip
theorem dX9_leastFrom_0 : decode cX9_leastFrom 0 = .ok (.ldc 152, 2) := by decide +kernel
theorem dX9_leastFrom_2 : decode cX9_leastFrom 2 = .ok (.istore_n 3, 1) := by decide +kernel
theorem dX9_leastFrom_3 : decode cX9_leastFrom 3 = .ok (.bipush 9, 2) := by decide +kernel
theorem dX9_leastFrom_5 : decode cX9_leastFrom 5 = .ok (.istore 4, 2) := by decide +kernel
theorem dX9_leastFrom_7 : decode cX9_leastFrom 7 = .ok (.iload 4, 2) := by decide +kernel
theorem dX9_leastFrom_9 : decode cX9_leastFrom 9 = .ok (.ifCond .lt 123, 3) := by decide +kernel
theorem dX9_leastFrom_12 : decode cX9_leastFrom 12 = .ok (.iload_n 2, 1) := by decide +kernel
theorem dX9_leastFrom_13 : decode cX9_leastFrom 13 = .ok (.iload 4, 2) := by decide +kernel
theorem dX9_leastFrom_15 : decode cX9_leastFrom 15 = .ok (.iadd, 1) := by decide +kernel
theorem dX9_leastFrom_16 : decode cX9_leastFrom 16 = .ok (.invokestatic 134, 3) := by decide +kernel
theorem dX9_leastFrom_19 : decode cX9_leastFrom 19 = .ok (.istore 5, 2) := by decide +kernel
theorem dX9_leastFrom_21 : decode cX9_leastFrom 21 = .ok (.iload 5, 2) := by decide +kernel
theorem dX9_leastFrom_23 : decode cX9_leastFrom 23 = .ok (.aload_n 0, 1) := by decide +kernel
theorem dX9_leastFrom_24 : decode cX9_leastFrom 24 = .ok (.getfield 17, 3) := by decide +kernel
theorem dX9_leastFrom_27 : decode cX9_leastFrom 27 = .ok (.if_icmp .lt 99, 3) := by decide +kernel
theorem dX9_leastFrom_30 : decode cX9_leastFrom 30 = .ok (.aload_n 0, 1) := by decide +kernel
theorem dX9_leastFrom_31 : decode cX9_leastFrom 31 = .ok (.iconst 0, 1) := by decide +kernel
theorem dX9_leastFrom_32 : decode cX9_leastFrom 32 = .ok (.sipush 156, 3) := by decide +kernel
theorem dX9_leastFrom_35 : decode cX9_leastFrom 35 = .ok (.invokevirtual 145, 3) := by decide +kernel
theorem dX9_leastFrom_38 : decode cX9_leastFrom 38 = .ok (.aload_n 0, 1) := by decide +kernel
theorem dX9_leastFrom_39 : decode cX9_leastFrom 39 = .ok (.getfield 7, 3) := by decide +kernel
theorem dX9_leastFrom_42 : decode cX9_leastFrom 42 = .ok (.sipush 156, 3) := by decide +kernel
theorem dX9_leastFrom_45 : decode cX9_leastFrom 45 = .ok (.iload_n 1, 1) := by decide +kernel
theorem dX9_leastFrom_46 : decode cX9_leastFrom 46 = .ok (.iastore, 1) := by decide +kernel
theorem dX9_leastFrom_47 : decode cX9_leastFrom 47 = .ok (.aload_n 0, 1) := by decide +kernel
theorem dX9_leastFrom_48 : decode cX9_leastFrom 48 = .ok (.getfield 7, 3) := by decide +kernel
theorem dX9_leastFrom_51 : decode cX9_leastFrom 51 = .ok (.sipush 157, 3) := by decide +kernel
theorem dX9_leastFrom_54 : decode cX9_leastFrom 54 = .ok (.iload 5, 2) := by decide +kernel
theorem dX9_leastFrom_56 : decode cX9_leastFrom 56 = .ok (.iastore, 1) := by decide +kernel
theorem dX9_leastFrom_57 : decode cX9_leastFrom 57 = .ok (.aload_n 0, 1) := by decide +kernel
theorem dX9_leastFrom_58 : decode cX9_leastFrom 58 = .ok (.sipush 156, 3) := by decide +kernel
theorem dX9_leastFrom_61 : decode cX9_leastFrom 61 = .ok (.invokevirtual 142, 3) := by decide +kernel
theorem dX9_leastFrom_64 : decode cX9_leastFrom 64 = .ok (.iload 4, 2) := by decide +kernel
theorem dX9_leastFrom_66 : decode cX9_leastFrom 66 = .ok (.aload_n 0, 1) := by decide +kernel
theorem dX9_leastFrom_67 : decode cX9_leastFrom 67 = .ok (.getfield 57, 3) := by decide +kernel
theorem dX9_leastFrom_70 : decode cX9_leastFrom 70 = .ok (.bipush 100, 2) := by decide +kernel
theorem dX9_leastFrom_72 : decode cX9_leastFrom 72 = .ok (.aload_n 0, 1) := by decide +kernel
theorem dX9_leastFrom_73 : decode cX9_leastFrom 73 = .ok (.getfield 7, 3) := by decide +kernel
theorem dX9_leastFrom_76 : decode cX9_leastFrom 76 = .ok (.sipush 156, 3) := by decide +kernel
theorem dX9_leastFrom_79 : decode cX9_leastFrom 79 = .ok (.iaload, 1) := by decide +kernel
theorem dX9_leastFrom_80 : decode cX9_leastFrom 80 = .ok (.imul, 1) := by decide +kernel
theorem dX9_leastFrom_81 : decode cX9_leastFrom 81 = .ok (.aload_n 0, 1) := by decide +kernel
theorem dX9_leastFrom_82 : decode cX9_leastFrom 82 = .ok (.getfield 7, 3) := by decide +kernel
theorem dX9_leastFrom_85 : decode cX9_leastFrom 85 = .ok (.sipush 157, 3) := by decide +kernel
theorem dX9_leastFrom_88 : decode cX9_leastFrom 88 = .ok (.iaload, 1) := by decide +kernel
theorem dX9_leastFrom_89 : decode cX9_leastFrom 89 = .ok (.iadd, 1) := by decide +kernel
theorem dX9_leastFrom_90 : decode cX9_leastFrom 90 = .ok (.iaload, 1) := by decide +kernel
theorem dX9_leastFrom_91 : decode cX9_leastFrom 91 = .ok (.iadd, 1) := by decide +kernel
theorem dX9_leastFrom_92 : decode cX9_leastFrom 92 = .ok (.istore 6, 2) := by decide +kernel
theorem dX9_leastFrom_94 : decode cX9_leastFrom 94 = .ok (.aload_n 0, 1) := by decide +kernel
theorem dX9_leastFrom_95 : decode cX9_leastFrom 95 = .ok (.iload 6, 2) := by decide +kernel
theorem dX9_leastFrom_97 : decode cX9_leastFrom 97 = .ok (.iload_n 3, 1) := by decide +kernel
theorem dX9_leastFrom_98 : decode cX9_leastFrom 98 = .ok (.if_icmp .gt 8, 3) := by decide +kernel
theorem dX9_leastFrom_101 : decode cX9_leastFrom 101 = .ok (.iload 4, 2) := by decide +kernel
theorem dX9_leastFrom_103 : decode cX9_leastFrom 103 = .ok (.goto 7, 3) := by decide +kernel
theorem dX9_leastFrom_106 : decode cX9_leastFrom 106 = .ok (.aload_n 0, 1) := by decide +kernel
theorem dX9_leastFrom_107 : decode cX9_leastFrom 107 = .ok (.getfield 153, 3) := by decide +kernel
theorem dX9_leastFrom_110 : decode cX9_leastFrom 110 = .ok (.putfield 153, 3) := by decide +kernel
theorem dX9_leastFrom_113 : decode cX9_leastFrom 113 = .ok (.iload 6, 2) := by decide +kernel
theorem dX9_leastFrom_115 : decode cX9_leastFrom 115 = .ok (.iload_n 3, 1) := by decide +kernel
theorem dX9_leastFrom_116 : decode cX9_leastFrom 116 = .ok (.if_icmp .gt 8, 3) := by decide +kernel
theorem dX9_leastFrom_119 : decode cX9_leastFrom 119 = .ok (.iload 6, 2) := by decide +kernel
theorem dX9_leastFrom_121 : decode cX9_leastFrom 121 = .ok (.goto 4, 3) := by decide +kernel
theorem dX9_leastFrom_124 : decode cX9_leastFrom 124 = .ok (.iload_n 3, 1) := by decide +kernel
theorem dX9_leastFrom_125 : decode cX9_leastFrom 125 = .ok (.istore_n 3, 1) := by decide +kernel
theorem dX9_leastFrom_126 : decode cX9_leastFrom 126 = .ok (.iinc 4 (-1), 3) := by decide +kernel
theorem dX9_leastFrom_129 : decode cX9_leastFrom 129 = .ok (.goto (-122), 3) := by decide +kernel
theorem dX9_leastFrom_132 : decode cX9_leastFrom 132 = .ok (.iload_n 3, 1) := by decide +kernel
theorem dX9_leastFrom_133 : decode cX9_leastFrom 133 = .ok (.ireturn, 1) := by decide +kernel
set_option maxRecDepth 20000 in
theorem ggX9_fewest_X9_asItIs : GoodIn wsX9_fewest wsX9_asItIs := goodIn_r _ [9, 10, 11, 12, 13, 14, 38, 39, 40, 41, 42, 43, 44, 45, 46, 47, 48, 49, 50, 51, 52, 53, 54, 55, 56, 57, 58, 59, 60, 61, 62, 63, 64, 65, 66, 67, 68, 69] (by decide +kernel) (by decide +kernel)
set_option maxRecDepth 20000 in
theorem gX9_fewest_X9_asItIs : GoodIn wsX9_fewest (wsV RX9 149 RX9 yX9_asItIs wsX9_asItIs) := goodIn_app (goodIn_of _ (by decide +kernel)) ggX9_fewest_X9_asItIs
set_option maxRecDepth 20000 in
theorem ggX9_fewest_X9_leastFrom : GoodIn wsX9_fewest wsX9_leastFrom := goodIn_r _ [18, 19, 10, 4, 2, 1, 20, 21, 8, 22, 23, 24, 25, 26, 27, 28, 29, 30, 11, 31, 13, 32, 33, 34, 35, 3, 36, 37, 14, 38, 39, 40, 41, 42, 43, 44, 45, 46, 47, 48, 49, 50, 51, 52, 53, 54, 55, 56, 57, 58, 59, 60, 61, 62, 63, 64, 65, 66, 67, 68, 69] (by decide +kernel) (by decide +kernel)
