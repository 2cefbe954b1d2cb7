theorem dX0_init_0 : decode cX0_init 0 = .ok (.aload_n 0, 1) := by decide +kernel
theorem dX0_init_1 : decode cX0_init 1 = .ok (.invokespecial 3, 3) := by decide +kernel
theorem dX0_init_4 : decode cX0_init 4 = .ok (.aload_n 0, 1) := by decide +kernel
theorem dX0_init_5 : decode cX0_init 5 = .ok (.bipush 9, 2) := by decide +kernel
theorem dX0_init_7 : decode cX0_init 7 = .ok (.newarray .int, 2) := by decide +kernel
theorem dX0_init_9 : decode cX0_init 9 = .ok (.putfield 9, 3) := by decide +kernel
theorem dX0_init_12 : decode cX0_init 12 = .ok (.aload_n 0, 1) := by decide +kernel
theorem dX0_init_13 : decode cX0_init 13 = .ok (.aload_n 1, 1) := by decide +kernel
theorem dX0_init_14 : decode cX0_init 14 = .ok (.putfield 15, 3) := by decide +kernel
theorem dX0_init_17 : decode cX0_init 17 = .ok (.return_, 1) := by decide +kernel
set_option maxRecDepth 20000 in
theorem ggX0_weigh_X7_prepare : GoodIn wsX0_weigh wsX7_prepare := goodIn_r _ [10, 11, 12, 13, 14, 15, 16, 17, 18, 19, 20, 21, 87, 88, 89, 90, 91, 92, 93, 94, 95, 96, 97, 98, 99, 100, 101, 102, 103, 104, 105] (by decide +kernel) (by decide +kernel)
set_option maxRecDepth 20000 in
theorem gX0_weigh_X7_prepare : GoodIn wsX0_weigh (wsV RX0 19 RX7 yX7_prepare wsX7_prepare) := goodIn_app (goodIn_of _ (by decide +kernel)) ggX0_weigh_X7_prepare
set_option maxRecDepth 20000 in
theorem ggX0_weigh_X0_listMats : GoodIn wsX0_weigh wsX0_listMats := goodIn_r _ [26, 4, 27, 1, 28, 29, 30, 31, 82, 83, 84, 85, 86, 87, 88, 89, 90, 91, 92, 93, 94, 95, 96, 97, 98, 99, 100, 101, 102, 103, 104, 105] (by decide +kernel) (by decide +kernel)
set_option maxRecDepth 20000 in
theorem gX0_weigh_X0_listMats : GoodIn wsX0_weigh (wsV RX0 25 RX0 yX0_listMats wsX0_listMats) := goodIn_app (goodIn_of _ (by decide +kernel)) ggX0_weigh_X0_listMats
set_option maxRecDepth 20000 in
theorem ggX0_weigh_X0_weightOf : GoodIn wsX0_weigh wsX0_weightOf := goodIn_r _ [35, 4, 82, 83, 84, 85, 86] (by decide +kernel) (by decide +kernel)
set_option maxRecDepth 20000 in
theorem gX0_weigh_X0_weightOf : GoodIn wsX0_weigh (wsV RX0 41 RX0 yX0_weightOf wsX0_weightOf) := goodIn_app (goodIn_of _ (by decide +kernel)) ggX0_weigh_X0_weightOf
set_option maxRecDepth 20000 in
theorem ggX0_weigh_X0_reachesFloor : GoodIn wsX0_weigh wsX0_reachesFloor := goodIn_r _ [39, 4, 31, 1, 40, 30, 28, 27, 41, 42, 43, 44, 9, 45, 46, 17, 47, 48, 49, 50, 51, 52, 53, 54, 55, 56, 57, 58, 59, 60, 61, 62, 63, 64, 65, 66, 19, 67, 21, 68, 69, 70, 71, 72, 73, 74, 12, 75, 76, 77, 82, 83, 84, 85, 86, 91, 92, 93, 94, 95, 96, 97, 98, 87, 88, 89, 90, 99, 100, 101, 102, 103, 104, 105] (by decide +kernel) (by decide +kernel)
set_option maxRecDepth 20000 in
theorem gX0_weigh_X0_reachesFloor : GoodIn wsX0_weigh (wsV RX0 45 RX0 yX0_reachesFloor wsX0_reachesFloor) := goodIn_app (goodIn_of _ (by decide +kernel)) ggX0_weigh_X0_reachesFloor
set_option maxRecDepth 20000 in
theorem ggX0_weigh_X0_reduce : GoodIn wsX0_weigh wsX0_reduce := goodIn_r _ [81, 3, 2, 82, 83, 84, 85, 86] (by decide +kernel) (by decide +kernel)
set_option maxRecDepth 20000 in
theorem gX0_weigh_X0_reduce : GoodIn wsX0_weigh (wsV RX0 49 RX0 yX0_reduce wsX0_reduce) := goodIn_app (goodIn_of _ (by decide +kernel)) ggX0_weigh_X0_reduce
theorem dX0_weigh_0 : decode cX0_weigh 0 = .ok (.aload_n 0, 1) := by decide +kernel
theorem dX0_weigh_1 : decode cX0_weigh 1 = .ok (.getfield 15, 3) := by decide +kernel
theorem dX0_weigh_4 : decode cX0_weigh 4 = .ok (.aload_n 1, 1) := by decide +kernel
theorem dX0_weigh_5 : decode cX0_weigh 5 = .ok (.invokevirtual 19, 3) := by decide +kernel
theorem dX0_weigh_8 : decode cX0_weigh 8 = .ok (.aload_n 0, 1) := by decide +kernel
theorem dX0_weigh_9 : decode cX0_weigh 9 = .ok (.aload_n 1, 1) := by decide +kernel
theorem dX0_weigh_10 : decode cX0_weigh 10 = .ok (.invokevirtual 25, 3) := by decide +kernel
theorem dX0_weigh_13 : decode cX0_weigh 13 = .ok (.aload_n 0, 1) := by decide +kernel
theorem dX0_weigh_14 : decode cX0_weigh 14 = .ok (.lconst 0, 1) := by decide +kernel
theorem dX0_weigh_15 : decode cX0_weigh 15 = .ok (.putfield 28, 3) := by decide +kernel
theorem dX0_weigh_18 : decode cX0_weigh 18 = .ok (.aload_n 0, 1) := by decide +kernel
theorem dX0_weigh_19 : decode cX0_weigh 19 = .ok (.lconst 1, 1) := by decide +kernel
theorem dX0_weigh_20 : decode cX0_weigh 20 = .ok (.putfield 32, 3) := by decide +kernel
theorem dX0_weigh_23 : decode cX0_weigh 23 = .ok (.iconst 0, 1) := by decide +kernel
theorem dX0_weigh_24 : decode cX0_weigh 24 = .ok (.istore_n 3, 1) := by decide +kernel
theorem dX0_weigh_25 : decode cX0_weigh 25 = .ok (.iload_n 3, 1) := by decide +kernel
theorem dX0_weigh_26 : decode cX0_weigh 26 = .ok (.aload_n 0, 1) := by decide +kernel
theorem dX0_weigh_27 : decode cX0_weigh 27 = .ok (.getfield 35, 3) := by decide +kernel
theorem dX0_weigh_30 : decode cX0_weigh 30 = .ok (.if_icmp .ge 21, 3) := by decide +kernel
theorem dX0_weigh_33 : decode cX0_weigh 33 = .ok (.aload_n 0, 1) := by decide +kernel
theorem dX0_weigh_34 : decode cX0_weigh 34 = .ok (.dup, 1) := by decide +kernel
theorem dX0_weigh_35 : decode cX0_weigh 35 = .ok (.getfield 32, 3) := by decide +kernel
theorem dX0_weigh_38 : decode cX0_weigh 38 = .ok (.ldc2_w 39, 3) := by decide +kernel
theorem dX0_weigh_41 : decode cX0_weigh 41 = .ok (.lmul, 1) := by decide +kernel
theorem dX0_weigh_42 : decode cX0_weigh 42 = .ok (.putfield 32, 3) := by decide +kernel
theorem dX0_weigh_45 : decode cX0_weigh 45 = .ok (.iinc 3 1, 3) := by decide +kernel
theorem dX0_weigh_48 : decode cX0_weigh 48 = .ok (.goto (-23), 3) := by decide +kernel
theorem dX0_weigh_51 : decode cX0_weigh 51 = .ok (.iconst 0, 1) := by decide +kernel
theorem dX0_weigh_52 : decode cX0_weigh 52 = .ok (.istore_n 3, 1) := by decide +kernel
theorem dX0_weigh_53 : decode cX0_weigh 53 = .ok (.iload_n 3, 1) := by decide +kernel
theorem dX0_weigh_54 : decode cX0_weigh 54 = .ok (.iconst 1, 1) := by decide +kernel
theorem dX0_weigh_55 : decode cX0_weigh 55 = .ok (.aload_n 0, 1) := by decide +kernel
theorem dX0_weigh_56 : decode cX0_weigh 56 = .ok (.getfield 35, 3) := by decide +kernel
theorem dX0_weigh_59 : decode cX0_weigh 59 = .ok (.ishl, 1) := by decide +kernel
theorem dX0_weigh_60 : decode cX0_weigh 60 = .ok (.if_icmp .ge 44, 3) := by decide +kernel
theorem dX0_weigh_63 : decode cX0_weigh 63 = .ok (.aload_n 0, 1) := by decide +kernel
theorem dX0_weigh_64 : decode cX0_weigh 64 = .ok (.iload_n 3, 1) := by decide +kernel
theorem dX0_weigh_65 : decode cX0_weigh 65 = .ok (.iload_n 2, 1) := by decide +kernel
theorem dX0_weigh_66 : decode cX0_weigh 66 = .ok (.invokevirtual 41, 3) := by decide +kernel
theorem dX0_weigh_69 : decode cX0_weigh 69 = .ok (.lstore 4, 2) := by decide +kernel
theorem dX0_weigh_71 : decode cX0_weigh 71 = .ok (.lload 4, 2) := by decide +kernel
theorem dX0_weigh_73 : decode cX0_weigh 73 = .ok (.lconst 0, 1) := by decide +kernel
theorem dX0_weigh_74 : decode cX0_weigh 74 = .ok (.lcmp, 1) := by decide +kernel
theorem dX0_weigh_75 : decode cX0_weigh 75 = .ok (.ifCond .le 23, 3) := by decide +kernel
theorem dX0_weigh_78 : decode cX0_weigh 78 = .ok (.aload_n 0, 1) := by decide +kernel
theorem dX0_weigh_79 : decode cX0_weigh 79 = .ok (.aload_n 1, 1) := by decide +kernel
theorem dX0_weigh_80 : decode cX0_weigh 80 = .ok (.iload_n 3, 1) := by decide +kernel
theorem dX0_weigh_81 : decode cX0_weigh 81 = .ok (.invokevirtual 45, 3) := by decide +kernel
theorem dX0_weigh_84 : decode cX0_weigh 84 = .ok (.ifCond .eq 14, 3) := by decide +kernel
theorem dX0_weigh_87 : decode cX0_weigh 87 = .ok (.aload_n 0, 1) := by decide +kernel
theorem dX0_weigh_88 : decode cX0_weigh 88 = .ok (.dup, 1) := by decide +kernel
theorem dX0_weigh_89 : decode cX0_weigh 89 = .ok (.getfield 28, 3) := by decide +kernel
theorem dX0_weigh_92 : decode cX0_weigh 92 = .ok (.lload 4, 2) := by decide +kernel
theorem dX0_weigh_94 : decode cX0_weigh 94 = .ok (.ladd, 1) := by decide +kernel
theorem dX0_weigh_95 : decode cX0_weigh 95 = .ok (.putfield 28, 3) := by decide +kernel
theorem dX0_weigh_98 : decode cX0_weigh 98 = .ok (.iinc 3 1, 3) := by decide +kernel
theorem dX0_weigh_101 : decode cX0_weigh 101 = .ok (.goto (-48), 3) := by decide +kernel
theorem dX0_weigh_104 : decode cX0_weigh 104 = .ok (.aload_n 0, 1) := by decide +kernel
theorem dX0_weigh_105 : decode cX0_weigh 105 = .ok (.invokevirtual 49, 3) := by decide +kernel
theorem dX0_weigh_108 : decode cX0_weigh 108 = .ok (.return_, 1) := by decide +kernel
theorem dX0_listMats_0 : decode cX0_listMats 0 = .ok (.aload_n 0, 1) := by decide +kernel
theorem dX0_listMats_1 : decode cX0_listMats 1 = .ok (.iconst 0, 1) := by decide +kernel
theorem dX0_listMats_2 : decode cX0_listMats 2 = .ok (.putfield 35, 3) := by decide +kernel
theorem dX0_listMats_5 : decode cX0_listMats 5 = .ok (.aload_n 1, 1) := by decide +kernel
theorem dX0_listMats_6 : decode cX0_listMats 6 = .ok (.getfield 52, 3) := by decide +kernel
theorem dX0_listMats_9 : decode cX0_listMats 9 = .ok (.iconst 1, 1) := by decide +kernel
theorem dX0_listMats_10 : decode cX0_listMats 10 = .ok (.iadd, 1) := by decide +kernel
theorem dX0_listMats_11 : decode cX0_listMats 11 = .ok (.istore_n 2, 1) := by decide +kernel
theorem dX0_listMats_12 : decode cX0_listMats 12 = .ok (.iload_n 2, 1) := by decide +kernel
theorem dX0_listMats_13 : decode cX0_listMats 13 = .ok (.aload_n 0, 1) := by decide +kernel
theorem dX0_listMats_14 : decode cX0_listMats 14 = .ok (.getfield 15, 3) := by decide +kernel
theorem dX0_listMats_17 : decode cX0_listMats 17 = .ok (.getfield 57, 3) := by decide +kernel
theorem dX0_listMats_20 : decode cX0_listMats 20 = .ok (.getfield 61, 3) := by decide +kernel
theorem dX0_listMats_23 : decode cX0_listMats 23 = .ok (.if_icmp .ge 38, 3) := by decide +kernel
theorem dX0_listMats_26 : decode cX0_listMats 26 = .ok (.aload_n 1, 1) := by decide +kernel
theorem dX0_listMats_27 : decode cX0_listMats 27 = .ok (.getfield 66, 3) := by decide +kernel
theorem dX0_listMats_30 : decode cX0_listMats 30 = .ok (.iload_n 2, 1) := by decide +kernel
theorem dX0_listMats_31 : decode cX0_listMats 31 = .ok (.iaload, 1) := by decide +kernel
theorem dX0_listMats_32 : decode cX0_listMats 32 = .ok (.ifCond .le 23, 3) := by decide +kernel
theorem dX0_listMats_35 : decode cX0_listMats 35 = .ok (.aload_n 0, 1) := by decide +kernel
theorem dX0_listMats_36 : decode cX0_listMats 36 = .ok (.getfield 9, 3) := by decide +kernel
theorem dX0_listMats_39 : decode cX0_listMats 39 = .ok (.aload_n 0, 1) := by decide +kernel
theorem dX0_listMats_40 : decode cX0_listMats 40 = .ok (.getfield 35, 3) := by decide +kernel
theorem dX0_listMats_43 : decode cX0_listMats 43 = .ok (.iload_n 2, 1) := by decide +kernel
theorem dX0_listMats_44 : decode cX0_listMats 44 = .ok (.iastore, 1) := by decide +kernel
theorem dX0_listMats_45 : decode cX0_listMats 45 = .ok (.aload_n 0, 1) := by decide +kernel
theorem dX0_listMats_46 : decode cX0_listMats 46 = .ok (.dup, 1) := by decide +kernel
theorem dX0_listMats_47 : decode cX0_listMats 47 = .ok (.getfield 35, 3) := by decide +kernel
theorem dX0_listMats_50 : decode cX0_listMats 50 = .ok (.iconst 1, 1) := by decide +kernel
theorem dX0_listMats_51 : decode cX0_listMats 51 = .ok (.iadd, 1) := by decide +kernel
theorem dX0_listMats_52 : decode cX0_listMats 52 = .ok (.putfield 35, 3) := by decide +kernel
theorem dX0_listMats_55 : decode cX0_listMats 55 = .ok (.iinc 2 1, 3) := by decide +kernel
theorem dX0_listMats_58 : decode cX0_listMats 58 = .ok (.goto (-46), 3) := by decide +kernel
theorem dX0_listMats_61 : decode cX0_listMats 61 = .ok (.return_, 1) := by decide +kernel
theorem dX0_weightOf_0 : decode cX0_weightOf 0 = .ok (.lconst 1, 1) := by decide +kernel
theorem dX0_weightOf_1 : decode cX0_weightOf 1 = .ok (.lstore_n 3, 1) := by decide +kernel
theorem dX0_weightOf_2 : decode cX0_weightOf 2 = .ok (.iconst 0, 1) := by decide +kernel
theorem dX0_weightOf_3 : decode cX0_weightOf 3 = .ok (.istore 5, 2) := by decide +kernel
theorem dX0_weightOf_5 : decode cX0_weightOf 5 = .ok (.iload 5, 2) := by decide +kernel
theorem dX0_weightOf_7 : decode cX0_weightOf 7 = .ok (.aload_n 0, 1) := by decide +kernel
theorem dX0_weightOf_8 : decode cX0_weightOf 8 = .ok (.getfield 35, 3) := by decide +kernel
theorem dX0_weightOf_11 : decode cX0_weightOf 11 = .ok (.if_icmp .ge 32, 3) := by decide +kernel
theorem dX0_weightOf_14 : decode cX0_weightOf 14 = .ok (.lload_n 3, 1) := by decide +kernel
theorem dX0_weightOf_15 : decode cX0_weightOf 15 = .ok (.iload_n 1, 1) := by decide +kernel
theorem dX0_weightOf_16 : decode cX0_weightOf 16 = .ok (.iload 5, 2) := by decide +kernel
theorem dX0_weightOf_18 : decode cX0_weightOf 18 = .ok (.ishr, 1) := by decide +kernel
theorem dX0_weightOf_19 : decode cX0_weightOf 19 = .ok (.iconst 1, 1) := by decide +kernel
theorem dX0_weightOf_20 : decode cX0_weightOf 20 = .ok (.iand, 1) := by decide +kernel
theorem dX0_weightOf_21 : decode cX0_weightOf 21 = .ok (.iconst 1, 1) := by decide +kernel
theorem dX0_weightOf_22 : decode cX0_weightOf 22 = .ok (.if_icmp .ne 8, 3) := by decide +kernel
theorem dX0_weightOf_25 : decode cX0_weightOf 25 = .ok (.iload_n 2, 1) := by decide +kernel
theorem dX0_weightOf_26 : decode cX0_weightOf 26 = .ok (.i2l, 1) := by decide +kernel
theorem dX0_weightOf_27 : decode cX0_weightOf 27 = .ok (.goto 8, 3) := by decide +kernel
theorem dX0_weightOf_30 : decode cX0_weightOf 30 = .ok (.bipush 10, 2) := by decide +kernel
theorem dX0_weightOf_32 : decode cX0_weightOf 32 = .ok (.iload_n 2, 1) := by decide +kernel
theorem dX0_weightOf_33 : decode cX0_weightOf 33 = .ok (.isub, 1) := by decide +kernel
theorem dX0_weightOf_34 : decode cX0_weightOf 34 = .ok (.i2l, 1) := by decide +kernel
theorem dX0_weightOf_35 : decode cX0_weightOf 35 = .ok (.lmul, 1) := by decide +kernel
theorem dX0_weightOf_36 : decode cX0_weightOf 36 = .ok (.lstore_n 3, 1) := by decide +kernel
theorem dX0_weightOf_37 : decode cX0_weightOf 37 = .ok (.iinc 5 1, 3) := by decide +kernel
theorem dX0_weightOf_40 : decode cX0_weightOf 40 = .ok (.goto (-35), 3) := by decide +kernel
theorem dX0_weightOf_43 : decode cX0_weightOf 43 = .ok (.lload_n 3, 1) := by decide +kernel
theorem dX0_weightOf_44 : decode cX0_weightOf 44 = .ok (.lreturn, 1) := by decide +kernel
set_option maxRecDepth 20000 in
theorem ggX0_reachesFloor_X7_run : GoodIn wsX0_reachesFloor wsX7_run := goodIn_r _ [13, 14, 15, 16, 17, 18, 19, 12, 20, 21, 22, 23, 24, 25, 26, 27, 28, 29, 30, 31, 32, 33, 34, 35, 36, 37, 38, 39, 40, 41, 42, 43, 44, 45, 46, 47, 48, 55, 56, 57, 58, 59, 60, 61, 62, 67, 68, 69, 70, 71, 72, 73] (by decide +kernel) (by decide +kernel)
set_option maxRecDepth 20000 in
theorem gX0_reachesFloor_X7_run : GoodIn wsX0_reachesFloor (wsV RX0 72 RX7 yX7_run wsX7_run) := goodIn_app (goodIn_of _ (by decide +kernel)) ggX0_reachesFloor_X7_run
set_option maxRecDepth 20000 in
theorem ggX0_reachesFloor_X5_has : GoodIn wsX0_reachesFloor wsX5_has := goodIn_r _ [27, 28, 29, 30, 31, 67, 68, 69, 70, 71, 72, 73] (by decide +kernel) (by decide +kernel)
set_option maxRecDepth 20000 in
theorem gX0_reachesFloor_X5_has : GoodIn wsX0_reachesFloor (wsV RX0 76 RX5 yX5_has wsX5_has) := goodIn_app (goodIn_of _ (by decide +kernel)) ggX0_reachesFloor_X5_has
theorem dX0_reachesFloor_0 : decode cX0_reachesFloor 0 = .ok (.iconst 0, 1) := by decide +kernel
theorem dX0_reachesFloor_1 : decode cX0_reachesFloor 1 = .ok (.istore_n 3, 1) := by decide +kernel
theorem dX0_reachesFloor_2 : decode cX0_reachesFloor 2 = .ok (.iload_n 3, 1) := by decide +kernel
theorem dX0_reachesFloor_3 : decode cX0_reachesFloor 3 = .ok (.aload_n 0, 1) := by decide +kernel
theorem dX0_reachesFloor_4 : decode cX0_reachesFloor 4 = .ok (.getfield 35, 3) := by decide +kernel
theorem dX0_reachesFloor_7 : decode cX0_reachesFloor 7 = .ok (.if_icmp .ge 47, 3) := by decide +kernel
theorem dX0_reachesFloor_10 : decode cX0_reachesFloor 10 = .ok (.aload_n 0, 1) := by decide +kernel
theorem dX0_reachesFloor_11 : decode cX0_reachesFloor 11 = .ok (.getfield 9, 3) := by decide +kernel
theorem dX0_reachesFloor_14 : decode cX0_reachesFloor 14 = .ok (.iload_n 3, 1) := by decide +kernel
theorem dX0_reachesFloor_15 : decode cX0_reachesFloor 15 = .ok (.iaload, 1) := by decide +kernel
theorem dX0_reachesFloor_16 : decode cX0_reachesFloor 16 = .ok (.istore 4, 2) := by decide +kernel
theorem dX0_reachesFloor_18 : decode cX0_reachesFloor 18 = .ok (.aload_n 0, 1) := by decide +kernel
theorem dX0_reachesFloor_19 : decode cX0_reachesFloor 19 = .ok (.getfield 15, 3) := by decide +kernel
theorem dX0_reachesFloor_22 : decode cX0_reachesFloor 22 = .ok (.getfield 68, 3) := by decide +kernel
theorem dX0_reachesFloor_25 : decode cX0_reachesFloor 25 = .ok (.iload 4, 2) := by decide +kernel
theorem dX0_reachesFloor_27 : decode cX0_reachesFloor 27 = .ok (.iload_n 2, 1) := by decide +kernel
theorem dX0_reachesFloor_28 : decode cX0_reachesFloor 28 = .ok (.iload_n 3, 1) := by decide +kernel
theorem dX0_reachesFloor_29 : decode cX0_reachesFloor 29 = .ok (.ishr, 1) := by decide +kernel
theorem dX0_reachesFloor_30 : decode cX0_reachesFloor 30 = .ok (.iconst 1, 1) := by decide +kernel
theorem dX0_reachesFloor_31 : decode cX0_reachesFloor 31 = .ok (.iand, 1) := by decide +kernel
theorem dX0_reachesFloor_32 : decode cX0_reachesFloor 32 = .ok (.iconst 1, 1) := by decide +kernel
theorem dX0_reachesFloor_33 : decode cX0_reachesFloor 33 = .ok (.if_icmp .ne 7, 3) := by decide +kernel
theorem dX0_reachesFloor_36 : decode cX0_reachesFloor 36 = .ok (.iconst 0, 1) := by decide +kernel
theorem dX0_reachesFloor_37 : decode cX0_reachesFloor 37 = .ok (.goto 10, 3) := by decide +kernel
theorem dX0_reachesFloor_40 : decode cX0_reachesFloor 40 = .ok (.aload_n 1, 1) := by decide +kernel
theorem dX0_reachesFloor_41 : decode cX0_reachesFloor 41 = .ok (.getfield 66, 3) := by decide +kernel
theorem dX0_reachesFloor_44 : decode cX0_reachesFloor 44 = .ok (.iload 4, 2) := by decide +kernel
theorem dX0_reachesFloor_46 : decode cX0_reachesFloor 46 = .ok (.iaload, 1) := by decide +kernel
theorem dX0_reachesFloor_47 : decode cX0_reachesFloor 47 = .ok (.iastore, 1) := by decide +kernel
theorem dX0_reachesFloor_48 : decode cX0_reachesFloor 48 = .ok (.iinc 3 1, 3) := by decide +kernel
theorem dX0_reachesFloor_51 : decode cX0_reachesFloor 51 = .ok (.goto (-49), 3) := by decide +kernel
theorem dX0_reachesFloor_54 : decode cX0_reachesFloor 54 = .ok (.aload_n 0, 1) := by decide +kernel
theorem dX0_reachesFloor_55 : decode cX0_reachesFloor 55 = .ok (.getfield 15, 3) := by decide +kernel
theorem dX0_reachesFloor_58 : decode cX0_reachesFloor 58 = .ok (.getfield 57, 3) := by decide +kernel
theorem dX0_reachesFloor_61 : decode cX0_reachesFloor 61 = .ok (.aload_n 0, 1) := by decide +kernel
theorem dX0_reachesFloor_62 : decode cX0_reachesFloor 62 = .ok (.getfield 15, 3) := by decide +kernel
theorem dX0_reachesFloor_65 : decode cX0_reachesFloor 65 = .ok (.aload_n 1, 1) := by decide +kernel
theorem dX0_reachesFloor_66 : decode cX0_reachesFloor 66 = .ok (.getfield 52, 3) := by decide +kernel
theorem dX0_reachesFloor_69 : decode cX0_reachesFloor 69 = .ok (.aload_n 1, 1) := by decide +kernel
theorem dX0_reachesFloor_70 : decode cX0_reachesFloor 70 = .ok (.getfield 69, 3) := by decide +kernel
theorem dX0_reachesFloor_73 : decode cX0_reachesFloor 73 = .ok (.invokevirtual 72, 3) := by decide +kernel
theorem dX0_reachesFloor_76 : decode cX0_reachesFloor 76 = .ok (.invokevirtual 76, 3) := by decide +kernel
theorem dX0_reachesFloor_79 : decode cX0_reachesFloor 79 = .ok (.ifCond .ne 7, 3) := by decide +kernel
theorem dX0_reachesFloor_82 : decode cX0_reachesFloor 82 = .ok (.iconst 1, 1) := by decide +kernel
theorem dX0_reachesFloor_83 : decode cX0_reachesFloor 83 = .ok (.goto 4, 3) := by decide +kernel
theorem dX0_reachesFloor_86 : decode cX0_reachesFloor 86 = .ok (.iconst 0, 1) := by decide +kernel
theorem dX0_reachesFloor_87 : decode cX0_reachesFloor 87 = .ok (.ireturn, 1) := by decide +kernel
theorem dX0_reduce_0 : decode cX0_reduce 0 = .ok (.aload_n 0, 1) := by decide +kernel
theorem dX0_reduce_1 : decode cX0_reduce 1 = .ok (.getfield 32, 3) := by decide +kernel
theorem dX0_reduce_4 : decode cX0_reduce 4 = .ok (.lstore_n 1, 1) := by decide +kernel
theorem dX0_reduce_5 : decode cX0_reduce 5 = .ok (.aload_n 0, 1) := by decide +kernel
theorem dX0_reduce_6 : decode cX0_reduce 6 = .ok (.getfield 28, 3) := by decide +kernel
theorem dX0_reduce_9 : decode cX0_reduce 9 = .ok (.lstore_n 3, 1) := by decide +kernel
theorem dX0_reduce_10 : decode cX0_reduce 10 = .ok (.iconst 0, 1) := by decide +kernel
theorem dX0_reduce_11 : decode cX0_reduce 11 = .ok (.istore 5, 2) := by decide +kernel
theorem dX0_reduce_13 : decode cX0_reduce 13 = .ok (.iload 5, 2) := by decide +kernel
theorem dX0_reduce_15 : decode cX0_reduce 15 = .ok (.sipush 1000, 3) := by decide +kernel
theorem dX0_reduce_18 : decode cX0_reduce 18 = .ok (.if_icmp .ge 25, 3) := by decide +kernel
theorem dX0_reduce_21 : decode cX0_reduce 21 = .ok (.lload_n 3, 1) := by decide +kernel
theorem dX0_reduce_22 : decode cX0_reduce 22 = .ok (.lconst 0, 1) := by decide +kernel
theorem dX0_reduce_23 : decode cX0_reduce 23 = .ok (.lcmp, 1) := by decide +kernel
theorem dX0_reduce_24 : decode cX0_reduce 24 = .ok (.ifCond .eq 19, 3) := by decide +kernel
theorem dX0_reduce_27 : decode cX0_reduce 27 = .ok (.lload_n 1, 1) := by decide +kernel
theorem dX0_reduce_28 : decode cX0_reduce 28 = .ok (.lload_n 3, 1) := by decide +kernel
theorem dX0_reduce_29 : decode cX0_reduce 29 = .ok (.lrem, 1) := by decide +kernel
theorem dX0_reduce_30 : decode cX0_reduce 30 = .ok (.lstore 6, 2) := by decide +kernel
theorem dX0_reduce_32 : decode cX0_reduce 32 = .ok (.lload_n 3, 1) := by decide +kernel
theorem dX0_reduce_33 : decode cX0_reduce 33 = .ok (.lstore_n 1, 1) := by decide +kernel
theorem dX0_reduce_34 : decode cX0_reduce 34 = .ok (.lload 6, 2) := by decide +kernel
theorem dX0_reduce_36 : decode cX0_reduce 36 = .ok (.lstore_n 3, 1) := by decide +kernel
theorem dX0_reduce_37 : decode cX0_reduce 37 = .ok (.iinc 5 1, 3) := by decide +kernel
theorem dX0_reduce_40 : decode cX0_reduce 40 = .ok (.goto (-27), 3) := by decide +kernel
theorem dX0_reduce_43 : decode cX0_reduce 43 = .ok (.lload_n 1, 1) := by decide +kernel
theorem dX0_reduce_44 : decode cX0_reduce 44 = .ok (.lconst 0, 1) := by decide +kernel
theorem dX0_reduce_45 : decode cX0_reduce 45 = .ok (.lcmp, 1) := by decide +kernel
theorem dX0_reduce_46 : decode cX0_reduce 46 = .ok (.ifCond .le 23, 3) := by decide +kernel
theorem dX0_reduce_49 : decode cX0_reduce 49 = .ok (.aload_n 0, 1) := by decide +kernel
theorem dX0_reduce_50 : decode cX0_reduce 50 = .ok (.dup, 1) := by decide +kernel
theorem dX0_reduce_51 : decode cX0_reduce 51 = .ok (.getfield 28, 3) := by decide +kernel
theorem dX0_reduce_54 : decode cX0_reduce 54 = .ok (.lload_n 1, 1) := by decide +kernel
theorem dX0_reduce_55 : decode cX0_reduce 55 = .ok (.ldiv, 1) := by decide +kernel
theorem dX0_reduce_56 : decode cX0_reduce 56 = .ok (.putfield 28, 3) := by decide +kernel
theorem dX0_reduce_59 : decode cX0_reduce 59 = .ok (.aload_n 0, 1) := by decide +kernel
theorem dX0_reduce_60 : decode cX0_reduce 60 = .ok (.dup, 1) := by decide +kernel
theorem dX0_reduce_61 : decode cX0_reduce 61 = .ok (.getfield 32, 3) := by decide +kernel
theorem dX0_reduce_64 : decode cX0_reduce 64 = .ok (.lload_n 1, 1) := by decide +kernel
theorem dX0_reduce_65 : decode cX0_reduce 65 = .ok (.ldiv, 1) := by decide +kernel
theorem dX0_reduce_66 : decode cX0_reduce 66 = .ok (.putfield 32, 3) := by decide +kernel
theorem dX0_reduce_69 : decode cX0_reduce 69 = .ok (.return_, 1) := by decide +kernel
theorem dX1_init_0 : decode cX1_init 0 = .ok (.aload_n 0, 1) := by decide +kernel
theorem dX1_init_1 : decode cX1_init 1 = .ok (.invokespecial 3, 3) := by decide +kernel
theorem dX1_init_4 : decode cX1_init 4 = .ok (.aload_n 0, 1) := by decide +kernel
theorem dX1_init_5 : decode cX1_init 5 = .ok (.bipush 6, 2) := by decide +kernel
theorem dX1_init_7 : decode cX1_init 7 = .ok (.newarray .int, 2) := by decide +kernel
theorem dX1_init_9 : decode cX1_init 9 = .ok (.putfield 9, 3) := by decide +kernel
theorem dX1_init_12 : decode cX1_init 12 = .ok (.aload_n 0, 1) := by decide +kernel
theorem dX1_init_13 : decode cX1_init 13 = .ok (.bipush 6, 2) := by decide +kernel
theorem dX1_init_15 : decode cX1_init 15 = .ok (.newarray .int, 2) := by decide +kernel
theorem dX1_init_17 : decode cX1_init 17 = .ok (.putfield 15, 3) := by decide +kernel
theorem dX1_init_20 : decode cX1_init 20 = .ok (.aload_n 0, 1) := by decide +kernel
theorem dX1_init_21 : decode cX1_init 21 = .ok (.bipush 6, 2) := by decide +kernel
theorem dX1_init_23 : decode cX1_init 23 = .ok (.newarray .int, 2) := by decide +kernel
theorem dX1_init_25 : decode cX1_init 25 = .ok (.putfield 18, 3) := by decide +kernel
theorem dX1_init_28 : decode cX1_init 28 = .ok (.aload_n 0, 1) := by decide +kernel
theorem dX1_init_29 : decode cX1_init 29 = .ok (.bipush 36, 2) := by decide +kernel
theorem dX1_init_31 : decode cX1_init 31 = .ok (.newarray .int, 2) := by decide +kernel
theorem dX1_init_33 : decode cX1_init 33 = .ok (.putfield 21, 3) := by decide +kernel
theorem dX1_init_36 : decode cX1_init 36 = .ok (.aload_n 0, 1) := by decide +kernel
theorem dX1_init_37 : decode cX1_init 37 = .ok (.bipush 36, 2) := by decide +kernel
theorem dX1_init_39 : decode cX1_init 39 = .ok (.newarray .int, 2) := by decide +kernel
theorem dX1_init_41 : decode cX1_init 41 = .ok (.putfield 24, 3) := by decide +kernel
theorem dX1_init_44 : decode cX1_init 44 = .ok (.aload_n 0, 1) := by decide +kernel
theorem dX1_init_45 : decode cX1_init 45 = .ok (.bipush 10, 2) := by decide +kernel
theorem dX1_init_47 : decode cX1_init 47 = .ok (.newarray .int, 2) := by decide +kernel
theorem dX1_init_49 : decode cX1_init 49 = .ok (.putfield 27, 3) := by decide +kernel
theorem dX1_init_52 : decode cX1_init 52 = .ok (.aload_n 0, 1) := by decide +kernel
theorem dX1_init_53 : decode cX1_init 53 = .ok (.aload_n 1, 1) := by decide +kernel
theorem dX1_init_54 : decode cX1_init 54 = .ok (.putfield 30, 3) := by decide +kernel
theorem dX1_init_57 : decode cX1_init 57 = .ok (.return_, 1) := by decide +kernel
theorem dX1_add_0 : decode cX1_add 0 = .ok (.aload_n 0, 1) := by decide +kernel
theorem dX1_add_1 : decode cX1_add 1 = .ok (.getfield 34, 3) := by decide +kernel
theorem dX1_add_4 : decode cX1_add 4 = .ok (.bipush 6, 2) := by decide +kernel
theorem dX1_add_6 : decode cX1_add 6 = .ok (.if_icmp .lt 5, 3) := by decide +kernel
theorem dX1_add_9 : decode cX1_add 9 = .ok (.iconst 0, 1) := by decide +kernel
theorem dX1_add_10 : decode cX1_add 10 = .ok (.ireturn, 1) := by decide +kernel
theorem dX1_add_11 : decode cX1_add 11 = .ok (.aload_n 0, 1) := by decide +kernel
theorem dX1_add_12 : decode cX1_add 12 = .ok (.getfield 9, 3) := by decide +kernel
theorem dX1_add_15 : decode cX1_add 15 = .ok (.aload_n 0, 1) := by decide +kernel
theorem dX1_add_16 : decode cX1_add 16 = .ok (.getfield 34, 3) := by decide +kernel
theorem dX1_add_19 : decode cX1_add 19 = .ok (.iload_n 1, 1) := by decide +kernel
theorem dX1_add_20 : decode cX1_add 20 = .ok (.iastore, 1) := by decide +kernel
theorem dX1_add_21 : decode cX1_add 21 = .ok (.aload_n 0, 1) := by decide +kernel
theorem dX1_add_22 : decode cX1_add 22 = .ok (.getfield 15, 3) := by decide +kernel
theorem dX1_add_25 : decode cX1_add 25 = .ok (.aload_n 0, 1) := by decide +kernel
theorem dX1_add_26 : decode cX1_add 26 = .ok (.getfield 34, 3) := by decide +kernel
theorem dX1_add_29 : decode cX1_add 29 = .ok (.iload_n 2, 1) := by decide +kernel
theorem dX1_add_30 : decode cX1_add 30 = .ok (.iastore, 1) := by decide +kernel
theorem dX1_add_31 : decode cX1_add 31 = .ok (.aload_n 0, 1) := by decide +kernel
theorem dX1_add_32 : decode cX1_add 32 = .ok (.getfield 18, 3) := by decide +kernel
theorem dX1_add_35 : decode cX1_add 35 = .ok (.aload_n 0, 1) := by decide +kernel
theorem dX1_add_36 : decode cX1_add 36 = .ok (.getfield 34, 3) := by decide +kernel
theorem dX1_add_39 : decode cX1_add 39 = .ok (.iload_n 3, 1) := by decide +kernel
theorem dX1_add_40 : decode cX1_add 40 = .ok (.iastore, 1) := by decide +kernel
theorem dX1_add_41 : decode cX1_add 41 = .ok (.aload_n 0, 1) := by decide +kernel
theorem dX1_add_42 : decode cX1_add 42 = .ok (.dup, 1) := by decide +kernel
theorem dX1_add_43 : decode cX1_add 43 = .ok (.getfield 34, 3) := by decide +kernel
theorem dX1_add_46 : decode cX1_add 46 = .ok (.iconst 1, 1) := by decide +kernel
theorem dX1_add_47 : decode cX1_add 47 = .ok (.iadd, 1) := by decide +kernel
theorem dX1_add_48 : decode cX1_add 48 = .ok (.putfield 34, 3) := by decide +kernel
theorem dX1_add_51 : decode cX1_add 51 = .ok (.iconst 1, 1) := by decide +kernel
theorem dX1_add_52 : decode cX1_add 52 = .ok (.ireturn, 1) := by decide +kernel
set_option maxRecDepth 20000 in
theorem ggX1_findPossible_X7_prepare : GoodIn wsX1_findPossible wsX7_prepare := goodIn_r _ [9, 10, 11, 12, 13, 14, 15, 16, 17, 18, 19, 20, 76, 77, 78, 79, 80, 81, 82, 83, 84, 85, 86, 87, 88, 89, 90, 91, 92, 93, 94] (by decide +kernel) (by decide +kernel)
set_option maxRecDepth 20000 in
theorem gX1_findPossible_X7_prepare : GoodIn wsX1_findPossible (wsV RX1 38 RX7 yX7_prepare wsX7_prepare) := goodIn_app (goodIn_of _ (by decide +kernel)) ggX1_findPossible_X7_prepare
set_option maxRecDepth 20000 in
theorem ggX1_findPossible_X1_explains : GoodIn wsX1_findPossible wsX1_explains := goodIn_r _ [25, 1, 26, 27, 28, 29, 30, 31, 32, 33, 34, 8, 35, 36, 16, 37, 38, 39, 40, 41, 42, 43, 44, 45, 46, 47, 48, 49, 50, 51, 52, 53, 54, 55, 56, 18, 57, 20, 58, 59, 60, 61, 62, 63, 64, 11, 65, 66, 67, 68, 69, 70, 71, 72, 73, 74, 75, 80, 81, 82, 83, 84, 85, 86, 87, 88, 89, 90, 91, 92, 93, 94] (by decide +kernel) (by decide +kernel)
set_option maxRecDepth 20000 in
theorem gX1_findPossible_X1_explains : GoodIn wsX1_findPossible (wsV RX1 47 RX1 yX1_explains wsX1_explains) := goodIn_app (goodIn_of _ (by decide +kernel)) ggX1_findPossible_X1_explains
theorem dX1_findPossible_0 : decode cX1_findPossible 0 = .ok (.aload_n 0, 1) := by decide +kernel
theorem dX1_findPossible_1 : decode cX1_findPossible 1 = .ok (.getfield 30, 3) := by decide +kernel
theorem dX1_findPossible_4 : decode cX1_findPossible 4 = .ok (.aload_n 1, 1) := by decide +kernel
theorem dX1_findPossible_5 : decode cX1_findPossible 5 = .ok (.invokevirtual 38, 3) := by decide +kernel
theorem dX1_findPossible_8 : decode cX1_findPossible 8 = .ok (.aload_n 0, 1) := by decide +kernel
theorem dX1_findPossible_9 : decode cX1_findPossible 9 = .ok (.iconst 0, 1) := by decide +kernel
theorem dX1_findPossible_10 : decode cX1_findPossible 10 = .ok (.putfield 44, 3) := by decide +kernel
theorem dX1_findPossible_13 : decode cX1_findPossible 13 = .ok (.iconst 1, 1) := by decide +kernel
theorem dX1_findPossible_14 : decode cX1_findPossible 14 = .ok (.istore_n 2, 1) := by decide +kernel
theorem dX1_findPossible_15 : decode cX1_findPossible 15 = .ok (.iload_n 2, 1) := by decide +kernel
theorem dX1_findPossible_16 : decode cX1_findPossible 16 = .ok (.bipush 9, 2) := by decide +kernel
theorem dX1_findPossible_18 : decode cX1_findPossible 18 = .ok (.if_icmp .gt 61, 3) := by decide +kernel
theorem dX1_findPossible_21 : decode cX1_findPossible 21 = .ok (.iconst 0, 1) := by decide +kernel
theorem dX1_findPossible_22 : decode cX1_findPossible 22 = .ok (.istore_n 3, 1) := by decide +kernel
theorem dX1_findPossible_23 : decode cX1_findPossible 23 = .ok (.iload_n 3, 1) := by decide +kernel
theorem dX1_findPossible_24 : decode cX1_findPossible 24 = .ok (.iconst 3, 1) := by decide +kernel
theorem dX1_findPossible_25 : decode cX1_findPossible 25 = .ok (.if_icmp .gt 48, 3) := by decide +kernel
theorem dX1_findPossible_28 : decode cX1_findPossible 28 = .ok (.aload_n 0, 1) := by decide +kernel
theorem dX1_findPossible_29 : decode cX1_findPossible 29 = .ok (.iload_n 2, 1) := by decide +kernel
theorem dX1_findPossible_30 : decode cX1_findPossible 30 = .ok (.iload_n 3, 1) := by decide +kernel
theorem dX1_findPossible_31 : decode cX1_findPossible 31 = .ok (.invokevirtual 47, 3) := by decide +kernel
theorem dX1_findPossible_34 : decode cX1_findPossible 34 = .ok (.ifCond .eq 33, 3) := by decide +kernel
theorem dX1_findPossible_37 : decode cX1_findPossible 37 = .ok (.aload_n 0, 1) := by decide +kernel
theorem dX1_findPossible_38 : decode cX1_findPossible 38 = .ok (.getfield 21, 3) := by decide +kernel
theorem dX1_findPossible_41 : decode cX1_findPossible 41 = .ok (.aload_n 0, 1) := by decide +kernel
theorem dX1_findPossible_42 : decode cX1_findPossible 42 = .ok (.getfield 44, 3) := by decide +kernel
theorem dX1_findPossible_45 : decode cX1_findPossible 45 = .ok (.iload_n 2, 1) := by decide +kernel
theorem dX1_findPossible_46 : decode cX1_findPossible 46 = .ok (.iastore, 1) := by decide +kernel
theorem dX1_findPossible_47 : decode cX1_findPossible 47 = .ok (.aload_n 0, 1) := by decide +kernel
theorem dX1_findPossible_48 : decode cX1_findPossible 48 = .ok (.getfield 24, 3) := by decide +kernel
theorem dX1_findPossible_51 : decode cX1_findPossible 51 = .ok (.aload_n 0, 1) := by decide +kernel
theorem dX1_findPossible_52 : decode cX1_findPossible 52 = .ok (.getfield 44, 3) := by decide +kernel
theorem dX1_findPossible_55 : decode cX1_findPossible 55 = .ok (.iload_n 3, 1) := by decide +kernel
theorem dX1_findPossible_56 : decode cX1_findPossible 56 = .ok (.iastore, 1) := by decide +kernel
theorem dX1_findPossible_57 : decode cX1_findPossible 57 = .ok (.aload_n 0, 1) := by decide +kernel
theorem dX1_findPossible_58 : decode cX1_findPossible 58 = .ok (.dup, 1) := by decide +kernel
theorem dX1_findPossible_59 : decode cX1_findPossible 59 = .ok (.getfield 44, 3) := by decide +kernel
theorem dX1_findPossible_62 : decode cX1_findPossible 62 = .ok (.iconst 1, 1) := by decide +kernel
theorem dX1_findPossible_63 : decode cX1_findPossible 63 = .ok (.iadd, 1) := by decide +kernel
theorem dX1_findPossible_64 : decode cX1_findPossible 64 = .ok (.putfield 44, 3) := by decide +kernel
theorem dX1_findPossible_67 : decode cX1_findPossible 67 = .ok (.iinc 3 1, 3) := by decide +kernel
theorem dX1_findPossible_70 : decode cX1_findPossible 70 = .ok (.goto (-47), 3) := by decide +kernel
theorem dX1_findPossible_73 : decode cX1_findPossible 73 = .ok (.iinc 2 1, 3) := by decide +kernel
theorem dX1_findPossible_76 : decode cX1_findPossible 76 = .ok (.goto (-61), 3) := by decide +kernel
theorem dX1_findPossible_79 : decode cX1_findPossible 79 = .ok (.return_, 1) := by decide +kernel
set_option maxRecDepth 20000 in
theorem ggX1_explains_X7_run : GoodIn wsX1_explains wsX7_run := goodIn_r _ [12, 13, 14, 15, 16, 17, 18, 11, 19, 20, 21, 22, 23, 24, 25, 26, 27, 28, 29, 30, 31, 32, 33, 34, 35, 36, 37, 38, 39, 40, 41, 42, 43, 44, 45, 46, 47, 57, 58, 59, 60, 61, 62, 63, 64, 65, 66, 67, 68, 69, 70, 71] (by decide +kernel) (by decide +kernel)
set_option maxRecDepth 20000 in
theorem gX1_explains_X7_run : GoodIn wsX1_explains (wsV RX1 57 RX7 yX7_run wsX7_run) := goodIn_app (goodIn_of _ (by decide +kernel)) ggX1_explains_X7_run
theorem dX1_explains_0 : decode cX1_explains 0 = .ok (.aload_n 0, 1) := by decide +kernel
theorem dX1_explains_1 : decode cX1_explains 1 = .ok (.getfield 30, 3) := by decide +kernel
theorem dX1_explains_4 : decode cX1_explains 4 = .ok (.iload_n 1, 1) := by decide +kernel
theorem dX1_explains_5 : decode cX1_explains 5 = .ok (.putfield 51, 3) := by decide +kernel
theorem dX1_explains_8 : decode cX1_explains 8 = .ok (.aload_n 0, 1) := by decide +kernel
theorem dX1_explains_9 : decode cX1_explains 9 = .ok (.getfield 30, 3) := by decide +kernel
theorem dX1_explains_12 : decode cX1_explains 12 = .ok (.iload_n 2, 1) := by decide +kernel
theorem dX1_explains_13 : decode cX1_explains 13 = .ok (.putfield 54, 3) := by decide +kernel
theorem dX1_explains_16 : decode cX1_explains 16 = .ok (.iconst 0, 1) := by decide +kernel
theorem dX1_explains_17 : decode cX1_explains 17 = .ok (.istore_n 3, 1) := by decide +kernel
theorem dX1_explains_18 : decode cX1_explains 18 = .ok (.iload_n 3, 1) := by decide +kernel
theorem dX1_explains_19 : decode cX1_explains 19 = .ok (.aload_n 0, 1) := by decide +kernel
theorem dX1_explains_20 : decode cX1_explains 20 = .ok (.getfield 34, 3) := by decide +kernel
theorem dX1_explains_23 : decode cX1_explains 23 = .ok (.if_icmp .ge 39, 3) := by decide +kernel
theorem dX1_explains_26 : decode cX1_explains 26 = .ok (.aload_n 0, 1) := by decide +kernel
theorem dX1_explains_27 : decode cX1_explains 27 = .ok (.getfield 30, 3) := by decide +kernel
theorem dX1_explains_30 : decode cX1_explains 30 = .ok (.aload_n 0, 1) := by decide +kernel
theorem dX1_explains_31 : decode cX1_explains 31 = .ok (.getfield 9, 3) := by decide +kernel
theorem dX1_explains_34 : decode cX1_explains 34 = .ok (.iload_n 3, 1) := by decide +kernel
theorem dX1_explains_35 : decode cX1_explains 35 = .ok (.iaload, 1) := by decide +kernel
theorem dX1_explains_36 : decode cX1_explains 36 = .ok (.aload_n 0, 1) := by decide +kernel
theorem dX1_explains_37 : decode cX1_explains 37 = .ok (.getfield 15, 3) := by decide +kernel
theorem dX1_explains_40 : decode cX1_explains 40 = .ok (.iload_n 3, 1) := by decide +kernel
theorem dX1_explains_41 : decode cX1_explains 41 = .ok (.iaload, 1) := by decide +kernel
theorem dX1_explains_42 : decode cX1_explains 42 = .ok (.invokevirtual 57, 3) := by decide +kernel
theorem dX1_explains_45 : decode cX1_explains 45 = .ok (.aload_n 0, 1) := by decide +kernel
theorem dX1_explains_46 : decode cX1_explains 46 = .ok (.getfield 18, 3) := by decide +kernel
theorem dX1_explains_49 : decode cX1_explains 49 = .ok (.iload_n 3, 1) := by decide +kernel
theorem dX1_explains_50 : decode cX1_explains 50 = .ok (.iaload, 1) := by decide +kernel
theorem dX1_explains_51 : decode cX1_explains 51 = .ok (.if_icmp .eq 5, 3) := by decide +kernel
theorem dX1_explains_54 : decode cX1_explains 54 = .ok (.iconst 0, 1) := by decide +kernel
theorem dX1_explains_55 : decode cX1_explains 55 = .ok (.ireturn, 1) := by decide +kernel
theorem dX1_explains_56 : decode cX1_explains 56 = .ok (.iinc 3 1, 3) := by decide +kernel
theorem dX1_explains_59 : decode cX1_explains 59 = .ok (.goto (-41), 3) := by decide +kernel
theorem dX1_explains_62 : decode cX1_explains 62 = .ok (.iconst 1, 1) := by decide +kernel
theorem dX1_explains_63 : decode cX1_explains 63 = .ok (.ireturn, 1) := by decide +kernel
set_option maxRecDepth 20000 in
theorem ggX1_bestTry_X1_mostAtOnePlace : GoodIn wsX1_bestTry wsX1_mostAtOnePlace := goodIn_r _ [6, 7, 1, 8, 9, 10, 11, 12, 13, 14, 15, 16, 17, 18, 19, 20, 21, 22, 23, 24, 25, 26, 27, 28, 29, 30, 31, 32, 33, 34, 35, 36, 37, 38, 39, 40, 41, 42, 43, 44, 45, 46, 47, 48, 49, 50, 51, 52, 53, 54, 55, 56, 57, 58, 59, 60, 61, 62, 63, 64, 65, 66, 67, 68, 69, 70, 71, 72, 73, 74, 75, 76, 77, 78, 79, 80, 81, 82, 83, 84] (by decide +kernel) (by decide +kernel)
set_option maxRecDepth 20000 in
theorem gX1_bestTry_X1_mostAtOnePlace : GoodIn wsX1_bestTry (wsV RX1 61 RX1 yX1_mostAtOnePlace wsX1_mostAtOnePlace) := goodIn_app (goodIn_of _ (by decide +kernel)) ggX1_bestTry_X1_mostAtOnePlace
theorem dX1_bestTry_0 : decode cX1_bestTry 0 = .ok (.aload_n 0, 1) := by decide +kernel
theorem dX1_bestTry_1 : decode cX1_bestTry 1 = .ok (.getfield 44, 3) := by decide +kernel
theorem dX1_bestTry_4 : decode cX1_bestTry 4 = .ok (.iconst 1, 1) := by decide +kernel
theorem dX1_bestTry_5 : decode cX1_bestTry 5 = .ok (.if_icmp .gt 6, 3) := by decide +kernel
theorem dX1_bestTry_8 : decode cX1_bestTry 8 = .ok (.bipush (-9), 2) := by decide +kernel
theorem dX1_bestTry_10 : decode cX1_bestTry 10 = .ok (.ireturn, 1) := by decide +kernel
theorem dX1_bestTry_11 : decode cX1_bestTry 11 = .ok (.bipush (-9), 2) := by decide +kernel
theorem dX1_bestTry_13 : decode cX1_bestTry 13 = .ok (.istore_n 2, 1) := by decide +kernel
theorem dX1_bestTry_14 : decode cX1_bestTry 14 = .ok (.aload_n 0, 1) := by decide +kernel
theorem dX1_bestTry_15 : decode cX1_bestTry 15 = .ok (.getfield 44, 3) := by decide +kernel
theorem dX1_bestTry_18 : decode cX1_bestTry 18 = .ok (.iconst 1, 1) := by decide +kernel
theorem dX1_bestTry_19 : decode cX1_bestTry 19 = .ok (.iadd, 1) := by decide +kernel
theorem dX1_bestTry_20 : decode cX1_bestTry 20 = .ok (.istore_n 3, 1) := by decide +kernel
theorem dX1_bestTry_21 : decode cX1_bestTry 21 = .ok (.iconst 1, 1) := by decide +kernel
theorem dX1_bestTry_22 : decode cX1_bestTry 22 = .ok (.istore 4, 2) := by decide +kernel
theorem dX1_bestTry_24 : decode cX1_bestTry 24 = .ok (.iload 4, 2) := by decide +kernel
theorem dX1_bestTry_26 : decode cX1_bestTry 26 = .ok (.bipush 60, 2) := by decide +kernel
theorem dX1_bestTry_28 : decode cX1_bestTry 28 = .ok (.if_icmp .gt 30, 3) := by decide +kernel
theorem dX1_bestTry_31 : decode cX1_bestTry 31 = .ok (.aload_n 0, 1) := by decide +kernel
theorem dX1_bestTry_32 : decode cX1_bestTry 32 = .ok (.iload_n 1, 1) := by decide +kernel
theorem dX1_bestTry_33 : decode cX1_bestTry 33 = .ok (.iload 4, 2) := by decide +kernel
theorem dX1_bestTry_35 : decode cX1_bestTry 35 = .ok (.invokevirtual 61, 3) := by decide +kernel
theorem dX1_bestTry_38 : decode cX1_bestTry 38 = .ok (.istore 5, 2) := by decide +kernel
theorem dX1_bestTry_40 : decode cX1_bestTry 40 = .ok (.iload 5, 2) := by decide +kernel
theorem dX1_bestTry_42 : decode cX1_bestTry 42 = .ok (.iload_n 3, 1) := by decide +kernel
theorem dX1_bestTry_43 : decode cX1_bestTry 43 = .ok (.if_icmp .ge 9, 3) := by decide +kernel
theorem dX1_bestTry_46 : decode cX1_bestTry 46 = .ok (.iload 5, 2) := by decide +kernel
theorem dX1_bestTry_48 : decode cX1_bestTry 48 = .ok (.istore_n 3, 1) := by decide +kernel
theorem dX1_bestTry_49 : decode cX1_bestTry 49 = .ok (.iload 4, 2) := by decide +kernel
theorem dX1_bestTry_51 : decode cX1_bestTry 51 = .ok (.istore_n 2, 1) := by decide +kernel
theorem dX1_bestTry_52 : decode cX1_bestTry 52 = .ok (.iinc 4 1, 3) := by decide +kernel
theorem dX1_bestTry_55 : decode cX1_bestTry 55 = .ok (.goto (-31), 3) := by decide +kernel
theorem dX1_bestTry_58 : decode cX1_bestTry 58 = .ok (.iload_n 2, 1) := by decide +kernel
theorem dX1_bestTry_59 : decode cX1_bestTry 59 = .ok (.ireturn, 1) := by decide +kernel
set_option maxRecDepth 20000 in
theorem ggX1_mostAtOnePlace_J7_fill_53178 : GoodIn wsX1_mostAtOnePlace wsJ7_fill_53178 := goodIn_r _ [15] (by decide +kernel) (by decide +kernel)
set_option maxRecDepth 20000 in
theorem gX1_mostAtOnePlace_J7_fill_53178 : GoodIn wsX1_mostAtOnePlace (va_wsS RX1 64 yJ7_fill_53178 wsJ7_fill_53178) := goodIn_app (goodIn_of _ (by decide +kernel)) ggX1_mostAtOnePlace_J7_fill_53178
set_option maxRecDepth 20000 in
theorem ggX1_mostAtOnePlace_X7_run : GoodIn wsX1_mostAtOnePlace wsX7_run := goodIn_r _ [20, 21, 22, 23, 24, 25, 26, 19, 27, 28, 29, 30, 31, 32, 33, 34, 35, 36, 37, 38, 39, 40, 41, 42, 43, 44, 45, 46, 47, 48, 49, 50, 51, 52, 53, 54, 55, 65, 66, 67, 68, 69, 70, 71, 72, 73, 74, 75, 76, 77, 78, 79] (by decide +kernel) (by decide +kernel)
set_option maxRecDepth 20000 in
theorem gX1_mostAtOnePlace_X7_run : GoodIn wsX1_mostAtOnePlace (wsV RX1 57 RX7 yX7_run wsX7_run) := goodIn_app (goodIn_of _ (by decide +kernel)) ggX1_mostAtOnePlace_X7_run
theorem dX1_mostAtOnePlace_0 : decode cX1_mostAtOnePlace 0 = .ok (.aload_n 0, 1) := by decide +kernel
theorem dX1_mostAtOnePlace_1 : decode cX1_mostAtOnePlace 1 = .ok (.getfield 27, 3) := by decide +kernel
theorem dX1_mostAtOnePlace_4 : decode cX1_mostAtOnePlace 4 = .ok (.iconst 0, 1) := by decide +kernel
theorem dX1_mostAtOnePlace_5 : decode cX1_mostAtOnePlace 5 = .ok (.invokestatic 64, 3) := by decide +kernel
theorem dX1_mostAtOnePlace_8 : decode cX1_mostAtOnePlace 8 = .ok (.iconst 0, 1) := by decide +kernel
theorem dX1_mostAtOnePlace_9 : decode cX1_mostAtOnePlace 9 = .ok (.istore_n 3, 1) := by decide +kernel
theorem dX1_mostAtOnePlace_10 : decode cX1_mostAtOnePlace 10 = .ok (.iconst 0, 1) := by decide +kernel
theorem dX1_mostAtOnePlace_11 : decode cX1_mostAtOnePlace 11 = .ok (.istore 4, 2) := by decide +kernel
theorem dX1_mostAtOnePlace_13 : decode cX1_mostAtOnePlace 13 = .ok (.iload 4, 2) := by decide +kernel
theorem dX1_mostAtOnePlace_15 : decode cX1_mostAtOnePlace 15 = .ok (.aload_n 0, 1) := by decide +kernel
theorem dX1_mostAtOnePlace_16 : decode cX1_mostAtOnePlace 16 = .ok (.getfield 44, 3) := by decide +kernel
theorem dX1_mostAtOnePlace_19 : decode cX1_mostAtOnePlace 19 = .ok (.if_icmp .ge 71, 3) := by decide +kernel
theorem dX1_mostAtOnePlace_22 : decode cX1_mostAtOnePlace 22 = .ok (.aload_n 0, 1) := by decide +kernel
theorem dX1_mostAtOnePlace_23 : decode cX1_mostAtOnePlace 23 = .ok (.getfield 30, 3) := by decide +kernel
theorem dX1_mostAtOnePlace_26 : decode cX1_mostAtOnePlace 26 = .ok (.aload_n 0, 1) := by decide +kernel
theorem dX1_mostAtOnePlace_27 : decode cX1_mostAtOnePlace 27 = .ok (.getfield 21, 3) := by decide +kernel
theorem dX1_mostAtOnePlace_30 : decode cX1_mostAtOnePlace 30 = .ok (.iload 4, 2) := by decide +kernel
theorem dX1_mostAtOnePlace_32 : decode cX1_mostAtOnePlace 32 = .ok (.iaload, 1) := by decide +kernel
theorem dX1_mostAtOnePlace_33 : decode cX1_mostAtOnePlace 33 = .ok (.putfield 51, 3) := by decide +kernel
theorem dX1_mostAtOnePlace_36 : decode cX1_mostAtOnePlace 36 = .ok (.aload_n 0, 1) := by decide +kernel
theorem dX1_mostAtOnePlace_37 : decode cX1_mostAtOnePlace 37 = .ok (.getfield 30, 3) := by decide +kernel
theorem dX1_mostAtOnePlace_40 : decode cX1_mostAtOnePlace 40 = .ok (.aload_n 0, 1) := by decide +kernel
theorem dX1_mostAtOnePlace_41 : decode cX1_mostAtOnePlace 41 = .ok (.getfield 24, 3) := by decide +kernel
theorem dX1_mostAtOnePlace_44 : decode cX1_mostAtOnePlace 44 = .ok (.iload 4, 2) := by decide +kernel
theorem dX1_mostAtOnePlace_46 : decode cX1_mostAtOnePlace 46 = .ok (.iaload, 1) := by decide +kernel
theorem dX1_mostAtOnePlace_47 : decode cX1_mostAtOnePlace 47 = .ok (.putfield 54, 3) := by decide +kernel
theorem dX1_mostAtOnePlace_50 : decode cX1_mostAtOnePlace 50 = .ok (.aload_n 0, 1) := by decide +kernel
theorem dX1_mostAtOnePlace_51 : decode cX1_mostAtOnePlace 51 = .ok (.getfield 30, 3) := by decide +kernel
theorem dX1_mostAtOnePlace_54 : decode cX1_mostAtOnePlace 54 = .ok (.iload_n 1, 1) := by decide +kernel
theorem dX1_mostAtOnePlace_55 : decode cX1_mostAtOnePlace 55 = .ok (.iload_n 2, 1) := by decide +kernel
theorem dX1_mostAtOnePlace_56 : decode cX1_mostAtOnePlace 56 = .ok (.invokevirtual 57, 3) := by decide +kernel
theorem dX1_mostAtOnePlace_59 : decode cX1_mostAtOnePlace 59 = .ok (.istore 5, 2) := by decide +kernel
theorem dX1_mostAtOnePlace_61 : decode cX1_mostAtOnePlace 61 = .ok (.aload_n 0, 1) := by decide +kernel
theorem dX1_mostAtOnePlace_62 : decode cX1_mostAtOnePlace 62 = .ok (.getfield 27, 3) := by decide +kernel
theorem dX1_mostAtOnePlace_65 : decode cX1_mostAtOnePlace 65 = .ok (.iload 5, 2) := by decide +kernel
theorem dX1_mostAtOnePlace_67 : decode cX1_mostAtOnePlace 67 = .ok (.dup2, 1) := by decide +kernel
theorem dX1_mostAtOnePlace_68 : decode cX1_mostAtOnePlace 68 = .ok (.iaload, 1) := by decide +kernel
theorem dX1_mostAtOnePlace_69 : decode cX1_mostAtOnePlace 69 = .ok (.iconst 1, 1) := by decide +kernel
theorem dX1_mostAtOnePlace_70 : decode cX1_mostAtOnePlace 70 = .ok (.iadd, 1) := by decide +kernel
theorem dX1_mostAtOnePlace_71 : decode cX1_mostAtOnePlace 71 = .ok (.iastore, 1) := by decide +kernel
theorem dX1_mostAtOnePlace_72 : decode cX1_mostAtOnePlace 72 = .ok (.iload_n 3, 1) := by decide +kernel
theorem dX1_mostAtOnePlace_73 : decode cX1_mostAtOnePlace 73 = .ok (.aload_n 0, 1) := by decide +kernel
theorem dX1_mostAtOnePlace_74 : decode cX1_mostAtOnePlace 74 = .ok (.getfield 27, 3) := by decide +kernel
theorem dX1_mostAtOnePlace_77 : decode cX1_mostAtOnePlace 77 = .ok (.iload 5, 2) := by decide +kernel
theorem dX1_mostAtOnePlace_79 : decode cX1_mostAtOnePlace 79 = .ok (.iaload, 1) := by decide +kernel
theorem dX1_mostAtOnePlace_80 : decode cX1_mostAtOnePlace 80 = .ok (.invokestatic 70, 3) := by decide +kernel
theorem dX1_mostAtOnePlace_83 : decode cX1_mostAtOnePlace 83 = .ok (.istore_n 3, 1) := by decide +kernel
theorem dX1_mostAtOnePlace_84 : decode cX1_mostAtOnePlace 84 = .ok (.iinc 4 1, 3) := by decide +kernel
theorem dX1_mostAtOnePlace_87 : decode cX1_mostAtOnePlace 87 = .ok (.goto (-74), 3) := by decide +kernel
theorem dX1_mostAtOnePlace_90 : decode cX1_mostAtOnePlace 90 = .ok (.iload_n 3, 1) := by decide +kernel
theorem dX1_mostAtOnePlace_91 : decode cX1_mostAtOnePlace 91 = .ok (.ireturn, 1) := by decide +kernel
set_option maxRecDepth 20000 in
theorem ggX2_init_X4_init : GoodIn wsX2_init wsX4_init := goodIn_r _ [9, 10, 2, 3, 11, 12, 16, 17, 18, 19] (by decide +kernel) (by decide +kernel)
set_option maxRecDepth 20000 in
theorem gX2_init_X4_init_n17 : GoodIn wsX2_init (wsX4_init) := ggX2_init_X4_init
theorem dX2_init_0 : decode cX2_init 0 = .ok (.aload_n 0, 1) := by decide +kernel
theorem dX2_init_1 : decode cX2_init 1 = .ok (.invokespecial 3, 3) := by decide +kernel
theorem dX2_init_4 : decode cX2_init 4 = .ok (.aload_n 0, 1) := by decide +kernel
theorem dX2_init_5 : decode cX2_init 5 = .ok (.bipush 10, 2) := by decide +kernel
theorem dX2_init_7 : decode cX2_init 7 = .ok (.anewarray 9, 3) := by decide +kernel
theorem dX2_init_10 : decode cX2_init 10 = .ok (.putfield 11, 3) := by decide +kernel
theorem dX2_init_13 : decode cX2_init 13 = .ok (.iconst 0, 1) := by decide +kernel
theorem dX2_init_14 : decode cX2_init 14 = .ok (.istore_n 1, 1) := by decide +kernel
theorem dX2_init_15 : decode cX2_init 15 = .ok (.iload_n 1, 1) := by decide +kernel
theorem dX2_init_16 : decode cX2_init 16 = .ok (.bipush 10, 2) := by decide +kernel
theorem dX2_init_18 : decode cX2_init 18 = .ok (.if_icmp .ge 22, 3) := by decide +kernel
theorem dX2_init_21 : decode cX2_init 21 = .ok (.aload_n 0, 1) := by decide +kernel
theorem dX2_init_22 : decode cX2_init 22 = .ok (.getfield 11, 3) := by decide +kernel
theorem dX2_init_25 : decode cX2_init 25 = .ok (.iload_n 1, 1) := by decide +kernel
theorem dX2_init_26 : decode cX2_init 26 = .ok (.new 9, 3) := by decide +kernel
theorem dX2_init_29 : decode cX2_init 29 = .ok (.dup, 1) := by decide +kernel
theorem dX2_init_30 : decode cX2_init 30 = .ok (.invokespecial 17, 3) := by decide +kernel
theorem dX2_init_33 : decode cX2_init 33 = .ok (.aastore, 1) := by decide +kernel
theorem dX2_init_34 : decode cX2_init 34 = .ok (.iinc 1 1, 3) := by decide +kernel
theorem dX2_init_37 : decode cX2_init 37 = .ok (.goto (-22), 3) := by decide +kernel
theorem dX2_init_40 : decode cX2_init 40 = .ok (.return_, 1) := by decide +kernel
set_option maxRecDepth 20000 in
theorem ggX2_remember_X4_copy : GoodIn wsX2_remember wsX4_copy := goodIn_r _ [12, 13, 14, 15, 16, 17, 18, 19, 20, 24, 25, 26, 27] (by decide +kernel) (by decide +kernel)
set_option maxRecDepth 20000 in
theorem gX2_remember_X4_copy : GoodIn wsX2_remember (wsV RX2 22 RX4 yX4_copy wsX4_copy) := goodIn_app (goodIn_of _ (by decide +kernel)) ggX2_remember_X4_copy
theorem dX2_remember_0 : decode cX2_remember 0 = .ok (.aload_n 0, 1) := by decide +kernel
theorem dX2_remember_1 : decode cX2_remember 1 = .ok (.getfield 11, 3) := by decide +kernel
theorem dX2_remember_4 : decode cX2_remember 4 = .ok (.aload_n 0, 1) := by decide +kernel
theorem dX2_remember_5 : decode cX2_remember 5 = .ok (.getfield 18, 3) := by decide +kernel
theorem dX2_remember_8 : decode cX2_remember 8 = .ok (.aaload, 1) := by decide +kernel
theorem dX2_remember_9 : decode cX2_remember 9 = .ok (.aload_n 1, 1) := by decide +kernel
theorem dX2_remember_10 : decode cX2_remember 10 = .ok (.invokevirtual 22, 3) := by decide +kernel
theorem dX2_remember_13 : decode cX2_remember 13 = .ok (.aload_n 0, 1) := by decide +kernel
theorem dX2_remember_14 : decode cX2_remember 14 = .ok (.aload_n 0, 1) := by decide +kernel
theorem dX2_remember_15 : decode cX2_remember 15 = .ok (.getfield 18, 3) := by decide +kernel
theorem dX2_remember_18 : decode cX2_remember 18 = .ok (.iconst 1, 1) := by decide +kernel
theorem dX2_remember_19 : decode cX2_remember 19 = .ok (.iadd, 1) := by decide +kernel
theorem dX2_remember_20 : decode cX2_remember 20 = .ok (.bipush 10, 2) := by decide +kernel
theorem dX2_remember_22 : decode cX2_remember 22 = .ok (.irem, 1) := by decide +kernel
theorem dX2_remember_23 : decode cX2_remember 23 = .ok (.putfield 18, 3) := by decide +kernel
theorem dX2_remember_26 : decode cX2_remember 26 = .ok (.aload_n 0, 1) := by decide +kernel
theorem dX2_remember_27 : decode cX2_remember 27 = .ok (.bipush 10, 2) := by decide +kernel
theorem dX2_remember_29 : decode cX2_remember 29 = .ok (.aload_n 0, 1) := by decide +kernel
theorem dX2_remember_30 : decode cX2_remember 30 = .ok (.getfield 26, 3) := by decide +kernel
theorem dX2_remember_33 : decode cX2_remember 33 = .ok (.iconst 1, 1) := by decide +kernel
theorem dX2_remember_34 : decode cX2_remember 34 = .ok (.iadd, 1) := by decide +kernel
theorem dX2_remember_35 : decode cX2_remember 35 = .ok (.invokestatic 29, 3) := by decide +kernel
theorem dX2_remember_38 : decode cX2_remember 38 = .ok (.putfield 26, 3) := by decide +kernel
theorem dX2_remember_41 : decode cX2_remember 41 = .ok (.return_, 1) := by decide +kernel
set_option maxRecDepth 20000 in
theorem ggX2_restore_X4_copy : GoodIn wsX2_restore wsX4_copy := goodIn_r _ [8, 9, 10, 11, 12, 13, 14, 15, 16, 20, 21, 22, 23] (by decide +kernel) (by decide +kernel)
set_option maxRecDepth 20000 in
theorem gX2_restore_X4_copy : GoodIn wsX2_restore (wsV RX2 22 RX4 yX4_copy wsX4_copy) := goodIn_app (goodIn_of _ (by decide +kernel)) ggX2_restore_X4_copy
theorem dX2_restore_0 : decode cX2_restore 0 = .ok (.aload_n 0, 1) := by decide +kernel
theorem dX2_restore_1 : decode cX2_restore 1 = .ok (.getfield 26, 3) := by decide +kernel
theorem dX2_restore_4 : decode cX2_restore 4 = .ok (.ifCond .ne 5, 3) := by decide +kernel
theorem dX2_restore_7 : decode cX2_restore 7 = .ok (.iconst 0, 1) := by decide +kernel
theorem dX2_restore_8 : decode cX2_restore 8 = .ok (.ireturn, 1) := by decide +kernel
theorem dX2_restore_9 : decode cX2_restore 9 = .ok (.aload_n 0, 1) := by decide +kernel
theorem dX2_restore_10 : decode cX2_restore 10 = .ok (.aload_n 0, 1) := by decide +kernel
theorem dX2_restore_11 : decode cX2_restore 11 = .ok (.getfield 18, 3) := by decide +kernel
theorem dX2_restore_14 : decode cX2_restore 14 = .ok (.bipush 10, 2) := by decide +kernel
theorem dX2_restore_16 : decode cX2_restore 16 = .ok (.iadd, 1) := by decide +kernel
theorem dX2_restore_17 : decode cX2_restore 17 = .ok (.iconst 1, 1) := by decide +kernel
theorem dX2_restore_18 : decode cX2_restore 18 = .ok (.isub, 1) := by decide +kernel
theorem dX2_restore_19 : decode cX2_restore 19 = .ok (.bipush 10, 2) := by decide +kernel
theorem dX2_restore_21 : decode cX2_restore 21 = .ok (.irem, 1) := by decide +kernel
theorem dX2_restore_22 : decode cX2_restore 22 = .ok (.putfield 18, 3) := by decide +kernel
theorem dX2_restore_25 : decode cX2_restore 25 = .ok (.aload_n 1, 1) := by decide +kernel
theorem dX2_restore_26 : decode cX2_restore 26 = .ok (.aload_n 0, 1) := by decide +kernel
theorem dX2_restore_27 : decode cX2_restore 27 = .ok (.getfield 11, 3) := by decide +kernel
theorem dX2_restore_30 : decode cX2_restore 30 = .ok (.aload_n 0, 1) := by decide +kernel
theorem dX2_restore_31 : decode cX2_restore 31 = .ok (.getfield 18, 3) := by decide +kernel
theorem dX2_restore_34 : decode cX2_restore 34 = .ok (.aaload, 1) := by decide +kernel
theorem dX2_restore_35 : decode cX2_restore 35 = .ok (.invokevirtual 22, 3) := by decide +kernel
theorem dX2_restore_38 : decode cX2_restore 38 = .ok (.aload_n 0, 1) := by decide +kernel
theorem dX2_restore_39 : decode cX2_restore 39 = .ok (.dup, 1) := by decide +kernel
theorem dX2_restore_40 : decode cX2_restore 40 = .ok (.getfield 26, 3) := by decide +kernel
theorem dX2_restore_43 : decode cX2_restore 43 = .ok (.iconst 1, 1) := by decide +kernel
theorem dX2_restore_44 : decode cX2_restore 44 = .ok (.isub, 1) := by decide +kernel
theorem dX2_restore_45 : decode cX2_restore 45 = .ok (.putfield 26, 3) := by decide +kernel
theorem dX2_restore_48 : decode cX2_restore 48 = .ok (.iconst 1, 1) := by decide +kernel
theorem dX2_restore_49 : decode cX2_restore 49 = .ok (.ireturn, 1) := by decide +kernel
theorem dX3_init_0 : decode cX3_init 0 = .ok (.aload_n 0, 1) := by decide +kernel
theorem dX3_init_1 : decode cX3_init 1 = .ok (.invokespecial 3, 3) := by decide +kernel
theorem dX3_init_4 : decode cX3_init 4 = .ok (.aload_n 0, 1) := by decide +kernel
theorem dX3_init_5 : decode cX3_init 5 = .ok (.sipush 900, 3) := by decide +kernel
theorem dX3_init_8 : decode cX3_init 8 = .ok (.newarray .int, 2) := by decide +kernel
theorem dX3_init_10 : decode cX3_init 10 = .ok (.putfield 11, 3) := by decide +kernel
theorem dX3_init_13 : decode cX3_init 13 = .ok (.aload_n 0, 1) := by decide +kernel
theorem dX3_init_14 : decode cX3_init 14 = .ok (.aload_n 1, 1) := by decide +kernel
theorem dX3_init_15 : decode cX3_init 15 = .ok (.putfield 15, 3) := by decide +kernel
theorem dX3_init_18 : decode cX3_init 18 = .ok (.return_, 1) := by decide +kernel
set_option maxRecDepth 20000 in
theorem ggX3_from_X7_prepare : GoodIn wsX3_from wsX7_prepare := goodIn_r _ [9, 10, 11, 12, 13, 14, 15, 16, 17, 18, 19, 20, 74, 75, 76, 77, 78, 79, 80, 81, 82, 83, 84, 85, 86, 87, 88, 89, 90, 91, 92] (by decide +kernel) (by decide +kernel)
set_option maxRecDepth 20000 in
theorem gX3_from_X7_prepare : GoodIn wsX3_from (wsV RX3 19 RX7 yX7_prepare wsX7_prepare) := goodIn_app (goodIn_of _ (by decide +kernel)) ggX3_from_X7_prepare
set_option maxRecDepth 20000 in
theorem ggX3_from_J7_fill_53178 : GoodIn wsX3_from wsJ7_fill_53178 := goodIn_r _ [24] (by decide +kernel) (by decide +kernel)
set_option maxRecDepth 20000 in
theorem gX3_from_J7_fill_53178 : GoodIn wsX3_from (va_wsS RX3 25 yJ7_fill_53178 wsJ7_fill_53178) := goodIn_app (goodIn_of _ (by decide +kernel)) ggX3_from_J7_fill_53178
set_option maxRecDepth 20000 in
theorem ggX3_from_X3_fewest : GoodIn wsX3_from wsX3_fewest := goodIn_r _ [29, 1, 30, 2, 31, 32, 33, 34, 35, 36, 37, 38, 39, 40, 41, 42, 28, 43, 44, 45, 46, 47, 48, 49, 50, 51, 8, 52, 53, 54, 55, 56, 57, 58, 59, 60, 16, 18, 61, 20, 62, 63, 64, 65, 66, 67, 11, 68, 69, 25, 26, 27, 70, 71, 72, 73, 78, 79, 80, 81, 82, 83, 84, 85, 86, 87, 88, 89, 90, 91, 92] (by decide +kernel) (by decide +kernel)
set_option maxRecDepth 20000 in
theorem gX3_from_X3_fewest : GoodIn wsX3_from (wsV RX3 40 RX3 yX3_fewest wsX3_fewest) := goodIn_app (goodIn_of _ (by decide +kernel)) ggX3_from_X3_fewest
theorem dX3_from_0 : decode cX3_from 0 = .ok (.aload_n 0, 1) := by decide +kernel
theorem dX3_from_1 : decode cX3_from 1 = .ok (.getfield 15, 3) := by decide +kernel
theorem dX3_from_4 : decode cX3_from 4 = .ok (.aload_n 1, 1) := by decide +kernel
theorem dX3_from_5 : decode cX3_from 5 = .ok (.invokevirtual 19, 3) := by decide +kernel
theorem dX3_from_8 : decode cX3_from 8 = .ok (.aload_n 0, 1) := by decide +kernel
theorem dX3_from_9 : decode cX3_from 9 = .ok (.getfield 11, 3) := by decide +kernel
theorem dX3_from_12 : decode cX3_from 12 = .ok (.iconst (-1), 1) := by decide +kernel
theorem dX3_from_13 : decode cX3_from 13 = .ok (.invokestatic 25, 3) := by decide +kernel
theorem dX3_from_16 : decode cX3_from 16 = .ok (.aload_n 0, 1) := by decide +kernel
theorem dX3_from_17 : decode cX3_from 17 = .ok (.aload_n 1, 1) := by decide +kernel
theorem dX3_from_18 : decode cX3_from 18 = .ok (.getfield 31, 3) := by decide +kernel
theorem dX3_from_21 : decode cX3_from 21 = .ok (.aload_n 1, 1) := by decide +kernel
theorem dX3_from_22 : decode cX3_from 22 = .ok (.getfield 37, 3) := by decide +kernel
theorem dX3_from_25 : decode cX3_from 25 = .ok (.invokevirtual 40, 3) := by decide +kernel
theorem dX3_from_28 : decode cX3_from 28 = .ok (.ireturn, 1) := by decide +kernel
set_option maxRecDepth 20000 in
theorem ggX3_fewest_X5_has : GoodIn wsX3_fewest wsX5_has := goodIn_r _ [8, 9, 10, 11, 12, 64, 65, 66, 67, 68, 69, 70] (by decide +kernel) (by decide +kernel)
set_option maxRecDepth 20000 in
theorem gX3_fewest_X5_has : GoodIn wsX3_fewest (wsV RX3 48 RX5 yX5_has wsX5_has) := goodIn_app (goodIn_of _ (by decide +kernel)) ggX3_fewest_X5_has
set_option maxRecDepth 20000 in
theorem ggX3_fewest_X3_search : GoodIn wsX3_fewest wsX3_search := goodIn_r _ [17, 1, 18, 19, 20, 21, 11, 22, 23, 24, 25, 26, 27, 28, 29, 30, 31, 32, 33, 34, 35, 36, 37, 38, 39, 40, 5, 6, 7, 8, 9, 10, 12, 41, 42, 43, 44, 45, 46, 47, 48, 49, 50, 51, 16, 52, 53, 0, 2, 3, 4, 13, 14, 15, 54, 55, 56, 57, 58, 59, 60, 61, 62, 63, 64, 65, 66, 67, 68, 69, 70] (by decide +kernel) (by decide +kernel)
set_option maxRecDepth 20000 in
theorem gX3_fewest_X3_search : GoodIn wsX3_fewest (wsV RX3 54 RX3 yX3_search wsX3_search) := goodIn_app (goodIn_of _ (by decide +kernel)) ggX3_fewest_X3_search
theorem dX3_fewest_0 : decode cX3_fewest 0 = .ok (.aload_n 0, 1) := by decide +kernel
theorem dX3_fewest_1 : decode cX3_fewest 1 = .ok (.getfield 15, 3) := by decide +kernel
theorem dX3_fewest_4 : decode cX3_fewest 4 = .ok (.getfield 44, 3) := by decide +kernel
theorem dX3_fewest_7 : decode cX3_fewest 7 = .ok (.iload_n 1, 1) := by decide +kernel
theorem dX3_fewest_8 : decode cX3_fewest 8 = .ok (.invokevirtual 48, 3) := by decide +kernel
theorem dX3_fewest_11 : decode cX3_fewest 11 = .ok (.ifCond .ne 5, 3) := by decide +kernel
theorem dX3_fewest_14 : decode cX3_fewest 14 = .ok (.iconst 0, 1) := by decide +kernel
theorem dX3_fewest_15 : decode cX3_fewest 15 = .ok (.ireturn, 1) := by decide +kernel
theorem dX3_fewest_16 : decode cX3_fewest 16 = .ok (.iload_n 1, 1) := by decide +kernel
theorem dX3_fewest_17 : decode cX3_fewest 17 = .ok (.bipush 100, 2) := by decide +kernel
theorem dX3_fewest_19 : decode cX3_fewest 19 = .ok (.imul, 1) := by decide +kernel
theorem dX3_fewest_20 : decode cX3_fewest 20 = .ok (.iload_n 2, 1) := by decide +kernel
theorem dX3_fewest_21 : decode cX3_fewest 21 = .ok (.iadd, 1) := by decide +kernel
theorem dX3_fewest_22 : decode cX3_fewest 22 = .ok (.istore_n 3, 1) := by decide +kernel
theorem dX3_fewest_23 : decode cX3_fewest 23 = .ok (.aload_n 0, 1) := by decide +kernel
theorem dX3_fewest_24 : decode cX3_fewest 24 = .ok (.getfield 11, 3) := by decide +kernel
theorem dX3_fewest_27 : decode cX3_fewest 27 = .ok (.iload_n 3, 1) := by decide +kernel
theorem dX3_fewest_28 : decode cX3_fewest 28 = .ok (.iaload, 1) := by decide +kernel
theorem dX3_fewest_29 : decode cX3_fewest 29 = .ok (.iconst (-1), 1) := by decide +kernel
theorem dX3_fewest_30 : decode cX3_fewest 30 = .ok (.if_icmp .ne 15, 3) := by decide +kernel
theorem dX3_fewest_33 : decode cX3_fewest 33 = .ok (.aload_n 0, 1) := by decide +kernel
theorem dX3_fewest_34 : decode cX3_fewest 34 = .ok (.getfield 11, 3) := by decide +kernel
theorem dX3_fewest_37 : decode cX3_fewest 37 = .ok (.iload_n 3, 1) := by decide +kernel
theorem dX3_fewest_38 : decode cX3_fewest 38 = .ok (.aload_n 0, 1) := by decide +kernel
theorem dX3_fewest_39 : decode cX3_fewest 39 = .ok (.iload_n 1, 1) := by decide +kernel
theorem dX3_fewest_40 : decode cX3_fewest 40 = .ok (.iload_n 2, 1) := by decide +kernel
theorem dX3_fewest_41 : decode cX3_fewest 41 = .ok (.invokevirtual 54, 3) := by decide +kernel
theorem dX3_fewest_44 : decode cX3_fewest 44 = .ok (.iastore, 1) := by decide +kernel
theorem dX3_fewest_45 : decode cX3_fewest 45 = .ok (.aload_n 0, 1) := by decide +kernel
theorem dX3_fewest_46 : decode cX3_fewest 46 = .ok (.getfield 11, 3) := by decide +kernel
theorem dX3_fewest_49 : decode cX3_fewest 49 = .ok (.iload_n 3, 1) := by decide +kernel
theorem dX3_fewest_50 : decode cX3_fewest 50 = .ok (.iaload, 1) := by decide +kernel
theorem dX3_fewest_51 : decode cX3_fewest 51 = .ok (.ireturn, 1) := by decide +kernel
set_option maxRecDepth 20000 in
theorem ggX3_search_X8_asVigour : GoodIn wsX3_search wsX8_asVigour := goodIn_r _ [7] (by decide +kernel) (by decide +kernel)
set_option maxRecDepth 20000 in
theorem gX3_search_X8_asVigour_n57 : GoodIn wsX3_search (wsX8_asVigour) := ggX3_search_X8_asVigour
set_option maxRecDepth 20000 in
theorem ggX3_search_X7_stand : GoodIn wsX3_search wsX7_stand := goodIn_r _ [12, 13, 14, 15, 16, 56, 57, 58, 59, 60, 61, 62, 63] (by decide +kernel) (by decide +kernel)
set_option maxRecDepth 20000 in
theorem gX3_search_X7_stand : GoodIn wsX3_search (wsV RX3 64 RX7 yX7_stand wsX7_stand) := goodIn_app (goodIn_of _ (by decide +kernel)) ggX3_search_X7_stand
set_option maxRecDepth 20000 in
theorem ggX3_search_X7_turn : GoodIn wsX3_search wsX7_turn := goodIn_r _ [20, 21, 13, 15, 14, 22, 23, 24, 25, 26, 27, 28, 29, 30, 31, 6, 32, 5, 7, 33, 34, 35, 11, 36, 37, 38, 39, 40, 16, 56, 57, 58, 59, 60, 61, 62, 63, 64, 65, 66, 67, 68, 69, 70] (by decide +kernel) (by decide +kernel)
set_option maxRecDepth 20000 in
theorem gX3_search_X7_turn : GoodIn wsX3_search (wsV RX3 68 RX7 yX7_turn wsX7_turn) := goodIn_app (goodIn_of _ (by decide +kernel)) ggX3_search_X7_turn
set_option maxRecDepth 20000 in
theorem ggX3_search_X3_fewest : GoodIn wsX3_search wsX3_fewest := goodIn_r _ [47, 1, 48, 49, 50, 26, 27, 28, 29, 30, 31, 6, 32, 51, 52, 53, 44, 0, 2, 3, 4, 5, 7, 8, 9, 10, 11, 12, 13, 14, 15, 16, 17, 18, 19, 20, 21, 22, 23, 24, 25, 33, 34, 35, 36, 37, 38, 39, 40, 41, 42, 43, 45, 46, 54, 55, 56, 57, 58, 59, 60, 61, 62, 63, 64, 65, 66, 67, 68, 69, 70] (by decide +kernel) (by decide +kernel)
set_option maxRecDepth 20000 in
theorem gX3_search_X3_fewest : GoodIn wsX3_search (wsV RX3 40 RX3 yX3_fewest wsX3_fewest) := goodIn_app (goodIn_of _ (by decide +kernel)) ggX3_search_X3_fewest
set_option maxRecDepth 20000 in
theorem ggX3_search_X8_tenTimes : GoodIn wsX3_search wsX8_tenTimes := goodIn_r _ [46] (by decide +kernel) (by decide +kernel)
set_option maxRecDepth 20000 in
theorem gX3_search_X8_tenTimes_n73 : GoodIn wsX3_search (wsX8_tenTimes) := ggX3_search_X8_tenTimes
theorem dX3_search_0 : decode cX3_search 0 = .ok (.sipush 1000, 3) := by decide +kernel
theorem dX3_search_3 : decode cX3_search 3 = .ok (.istore_n 3, 1) := by decide +kernel
theorem dX3_search_4 : decode cX3_search 4 = .ok (.iconst 0, 1) := by decide +kernel
theorem dX3_search_5 : decode cX3_search 5 = .ok (.istore 4, 2) := by decide +kernel
theorem dX3_search_7 : decode cX3_search 7 = .ok (.iconst 0, 1) := by decide +kernel
theorem dX3_search_8 : decode cX3_search 8 = .ok (.istore 5, 2) := by decide +kernel
theorem dX3_search_10 : decode cX3_search 10 = .ok (.iload 5, 2) := by decide +kernel
theorem dX3_search_12 : decode cX3_search 12 = .ok (.bipush 9, 2) := by decide +kernel
theorem dX3_search_14 : decode cX3_search 14 = .ok (.if_icmp .gt 92, 3) := by decide +kernel
theorem dX3_search_17 : decode cX3_search 17 = .ok (.iload 5, 2) := by decide +kernel
theorem dX3_search_19 : decode cX3_search 19 = .ok (.iload_n 3, 1) := by decide +kernel
theorem dX3_search_20 : decode cX3_search 20 = .ok (.if_icmp .ge 86, 3) := by decide +kernel
theorem dX3_search_23 : decode cX3_search 23 = .ok (.iload_n 2, 1) := by decide +kernel
theorem dX3_search_24 : decode cX3_search 24 = .ok (.iload 5, 2) := by decide +kernel
theorem dX3_search_26 : decode cX3_search 26 = .ok (.iadd, 1) := by decide +kernel
theorem dX3_search_27 : decode cX3_search 27 = .ok (.invokestatic 57, 3) := by decide +kernel
theorem dX3_search_30 : decode cX3_search 30 = .ok (.istore 6, 2) := by decide +kernel
theorem dX3_search_32 : decode cX3_search 32 = .ok (.iload 6, 2) := by decide +kernel
theorem dX3_search_34 : decode cX3_search 34 = .ok (.aload_n 0, 1) := by decide +kernel
theorem dX3_search_35 : decode cX3_search 35 = .ok (.getfield 15, 3) := by decide +kernel
theorem dX3_search_38 : decode cX3_search 38 = .ok (.getfield 61, 3) := by decide +kernel
theorem dX3_search_41 : decode cX3_search 41 = .ok (.if_icmp .lt 59, 3) := by decide +kernel
theorem dX3_search_44 : decode cX3_search 44 = .ok (.aload_n 0, 1) := by decide +kernel
theorem dX3_search_45 : decode cX3_search 45 = .ok (.getfield 15, 3) := by decide +kernel
theorem dX3_search_48 : decode cX3_search 48 = .ok (.iload_n 1, 1) := by decide +kernel
theorem dX3_search_49 : decode cX3_search 49 = .ok (.iload 6, 2) := by decide +kernel
theorem dX3_search_51 : decode cX3_search 51 = .ok (.invokevirtual 64, 3) := by decide +kernel
theorem dX3_search_54 : decode cX3_search 54 = .ok (.aload_n 0, 1) := by decide +kernel
theorem dX3_search_55 : decode cX3_search 55 = .ok (.getfield 15, 3) := by decide +kernel
theorem dX3_search_58 : decode cX3_search 58 = .ok (.invokevirtual 68, 3) := by decide +kernel
theorem dX3_search_61 : decode cX3_search 61 = .ok (.iload 5, 2) := by decide +kernel
theorem dX3_search_63 : decode cX3_search 63 = .ok (.aload_n 0, 1) := by decide +kernel
theorem dX3_search_64 : decode cX3_search 64 = .ok (.aload_n 0, 1) := by decide +kernel
theorem dX3_search_65 : decode cX3_search 65 = .ok (.getfield 15, 3) := by decide +kernel
theorem dX3_search_68 : decode cX3_search 68 = .ok (.getfield 71, 3) := by decide +kernel
theorem dX3_search_71 : decode cX3_search 71 = .ok (.aload_n 0, 1) := by decide +kernel
theorem dX3_search_72 : decode cX3_search 72 = .ok (.getfield 15, 3) := by decide +kernel
theorem dX3_search_75 : decode cX3_search 75 = .ok (.getfield 72, 3) := by decide +kernel
theorem dX3_search_78 : decode cX3_search 78 = .ok (.invokevirtual 40, 3) := by decide +kernel
theorem dX3_search_81 : decode cX3_search 81 = .ok (.bipush 10, 2) := by decide +kernel
theorem dX3_search_83 : decode cX3_search 83 = .ok (.idiv, 1) := by decide +kernel
theorem dX3_search_84 : decode cX3_search 84 = .ok (.iadd, 1) := by decide +kernel
theorem dX3_search_85 : decode cX3_search 85 = .ok (.istore 7, 2) := by decide +kernel
theorem dX3_search_87 : decode cX3_search 87 = .ok (.iload 7, 2) := by decide +kernel
theorem dX3_search_89 : decode cX3_search 89 = .ok (.iload_n 3, 1) := by decide +kernel
theorem dX3_search_90 : decode cX3_search 90 = .ok (.if_icmp .ge 10, 3) := by decide +kernel
theorem dX3_search_93 : decode cX3_search 93 = .ok (.iload 7, 2) := by decide +kernel
theorem dX3_search_95 : decode cX3_search 95 = .ok (.istore_n 3, 1) := by decide +kernel
theorem dX3_search_96 : decode cX3_search 96 = .ok (.iload 5, 2) := by decide +kernel
theorem dX3_search_98 : decode cX3_search 98 = .ok (.istore 4, 2) := by decide +kernel
theorem dX3_search_100 : decode cX3_search 100 = .ok (.iinc 5 1, 3) := by decide +kernel
theorem dX3_search_103 : decode cX3_search 103 = .ok (.goto (-93), 3) := by decide +kernel
theorem dX3_search_106 : decode cX3_search 106 = .ok (.iload_n 3, 1) := by decide +kernel
theorem dX3_search_107 : decode cX3_search 107 = .ok (.iload 4, 2) := by decide +kernel
theorem dX3_search_109 : decode cX3_search 109 = .ok (.invokestatic 73, 3) := by decide +kernel
theorem dX3_search_112 : decode cX3_search 112 = .ok (.ireturn, 1) := by decide +kernel
theorem dX4_init_0 : decode cX4_init 0 = .ok (.aload_n 0, 1) := by decide +kernel
theorem dX4_init_1 : decode cX4_init 1 = .ok (.invokespecial 3, 3) := by decide +kernel
theorem dX4_init_4 : decode cX4_init 4 = .ok (.aload_n 0, 1) := by decide +kernel
theorem dX4_init_5 : decode cX4_init 5 = .ok (.bipush 9, 2) := by decide +kernel
theorem dX4_init_7 : decode cX4_init 7 = .ok (.newarray .int, 2) := by decide +kernel
theorem dX4_init_9 : decode cX4_init 9 = .ok (.putfield 9, 3) := by decide +kernel
theorem dX4_init_12 : decode cX4_init 12 = .ok (.return_, 1) := by decide +kernel
theorem dX4_begin_0 : decode cX4_begin 0 = .ok (.aload_n 1, 1) := by decide +kernel
theorem dX4_begin_1 : decode cX4_begin 1 = .ok (.getfield 15, 3) := by decide +kernel
theorem dX4_begin_4 : decode cX4_begin 4 = .ok (.iconst 0, 1) := by decide +kernel
theorem dX4_begin_5 : decode cX4_begin 5 = .ok (.aload_n 0, 1) := by decide +kernel
theorem dX4_begin_6 : decode cX4_begin 6 = .ok (.getfield 9, 3) := by decide +kernel
theorem dX4_begin_9 : decode cX4_begin 9 = .ok (.iconst 0, 1) := by decide +kernel
theorem dX4_begin_10 : decode cX4_begin 10 = .ok (.bipush 9, 2) := by decide +kernel
theorem dX4_begin_12 : decode cX4_begin 12 = .ok (.invokestatic 18, 3) := by decide +kernel
theorem dX4_begin_15 : decode cX4_begin 15 = .ok (.aload_n 0, 1) := by decide +kernel
theorem dX4_begin_16 : decode cX4_begin 16 = .ok (.iconst 0, 1) := by decide +kernel
theorem dX4_begin_17 : decode cX4_begin 17 = .ok (.putfield 24, 3) := by decide +kernel
theorem dX4_begin_20 : decode cX4_begin 20 = .ok (.aload_n 0, 1) := by decide +kernel
theorem dX4_begin_21 : decode cX4_begin 21 = .ok (.iconst 0, 1) := by decide +kernel
theorem dX4_begin_22 : decode cX4_begin 22 = .ok (.putfield 28, 3) := by decide +kernel
theorem dX4_begin_25 : decode cX4_begin 25 = .ok (.aload_n 0, 1) := by decide +kernel
theorem dX4_begin_26 : decode cX4_begin 26 = .ok (.iconst 0, 1) := by decide +kernel
theorem dX4_begin_27 : decode cX4_begin 27 = .ok (.putfield 31, 3) := by decide +kernel
theorem dX4_begin_30 : decode cX4_begin 30 = .ok (.return_, 1) := by decide +kernel
theorem dX4_copy_0 : decode cX4_copy 0 = .ok (.aload_n 1, 1) := by decide +kernel
theorem dX4_copy_1 : decode cX4_copy 1 = .ok (.getfield 9, 3) := by decide +kernel
theorem dX4_copy_4 : decode cX4_copy 4 = .ok (.iconst 0, 1) := by decide +kernel
theorem dX4_copy_5 : decode cX4_copy 5 = .ok (.aload_n 0, 1) := by decide +kernel
theorem dX4_copy_6 : decode cX4_copy 6 = .ok (.getfield 9, 3) := by decide +kernel
theorem dX4_copy_9 : decode cX4_copy 9 = .ok (.iconst 0, 1) := by decide +kernel
theorem dX4_copy_10 : decode cX4_copy 10 = .ok (.bipush 9, 2) := by decide +kernel
theorem dX4_copy_12 : decode cX4_copy 12 = .ok (.invokestatic 18, 3) := by decide +kernel
theorem dX4_copy_15 : decode cX4_copy 15 = .ok (.aload_n 0, 1) := by decide +kernel
theorem dX4_copy_16 : decode cX4_copy 16 = .ok (.aload_n 1, 1) := by decide +kernel
theorem dX4_copy_17 : decode cX4_copy 17 = .ok (.getfield 24, 3) := by decide +kernel
theorem dX4_copy_20 : decode cX4_copy 20 = .ok (.putfield 24, 3) := by decide +kernel
theorem dX4_copy_23 : decode cX4_copy 23 = .ok (.aload_n 0, 1) := by decide +kernel
theorem dX4_copy_24 : decode cX4_copy 24 = .ok (.aload_n 1, 1) := by decide +kernel
theorem dX4_copy_25 : decode cX4_copy 25 = .ok (.getfield 28, 3) := by decide +kernel
theorem dX4_copy_28 : decode cX4_copy 28 = .ok (.putfield 28, 3) := by decide +kernel
theorem dX4_copy_31 : decode cX4_copy 31 = .ok (.aload_n 0, 1) := by decide +kernel
theorem dX4_copy_32 : decode cX4_copy 32 = .ok (.aload_n 1, 1) := by decide +kernel
theorem dX4_copy_33 : decode cX4_copy 33 = .ok (.getfield 31, 3) := by decide +kernel
theorem dX4_copy_36 : decode cX4_copy 36 = .ok (.putfield 31, 3) := by decide +kernel
theorem dX4_copy_39 : decode cX4_copy 39 = .ok (.return_, 1) := by decide +kernel
set_option maxRecDepth 20000 in
theorem ggX5_init_X5_empty : GoodIn wsX5_init wsX5_empty := goodIn_r _ [12, 13, 14, 15, 16, 17, 18, 19, 20, 21, 22, 23] (by decide +kernel) (by decide +kernel)
set_option maxRecDepth 20000 in
theorem gX5_init_X5_empty : GoodIn wsX5_init (wsV RX5 21 RX5 yX5_empty wsX5_empty) := goodIn_app (goodIn_of _ (by decide +kernel)) ggX5_init_X5_empty
theorem dX5_init_0 : decode cX5_init 0 = .ok (.aload_n 0, 1) := by decide +kernel
theorem dX5_init_1 : decode cX5_init 1 = .ok (.invokespecial 3, 3) := by decide +kernel
theorem dX5_init_4 : decode cX5_init 4 = .ok (.aload_n 0, 1) := by decide +kernel
theorem dX5_init_5 : decode cX5_init 5 = .ok (.bipush 9, 2) := by decide +kernel
theorem dX5_init_7 : decode cX5_init 7 = .ok (.newarray .int, 2) := by decide +kernel
theorem dX5_init_9 : decode cX5_init 9 = .ok (.putfield 9, 3) := by decide +kernel
theorem dX5_init_12 : decode cX5_init 12 = .ok (.aload_n 0, 1) := by decide +kernel
theorem dX5_init_13 : decode cX5_init 13 = .ok (.bipush 9, 2) := by decide +kernel
theorem dX5_init_15 : decode cX5_init 15 = .ok (.newarray .int, 2) := by decide +kernel
theorem dX5_init_17 : decode cX5_init 17 = .ok (.putfield 15, 3) := by decide +kernel
theorem dX5_init_20 : decode cX5_init 20 = .ok (.aload_n 0, 1) := by decide +kernel
theorem dX5_init_21 : decode cX5_init 21 = .ok (.bipush 9, 2) := by decide +kernel
theorem dX5_init_23 : decode cX5_init 23 = .ok (.newarray .int, 2) := by decide +kernel
theorem dX5_init_25 : decode cX5_init 25 = .ok (.putfield 18, 3) := by decide +kernel
theorem dX5_init_28 : decode cX5_init 28 = .ok (.aload_n 0, 1) := by decide +kernel
theorem dX5_init_29 : decode cX5_init 29 = .ok (.invokevirtual 21, 3) := by decide +kernel
theorem dX5_init_32 : decode cX5_init 32 = .ok (.return_, 1) := by decide +kernel
theorem dX5_empty_0 : decode cX5_empty 0 = .ok (.aload_n 0, 1) := by decide +kernel
theorem dX5_empty_1 : decode cX5_empty 1 = .ok (.iconst 0, 1) := by decide +kernel
theorem dX5_empty_2 : decode cX5_empty 2 = .ok (.putfield 24, 3) := by decide +kernel
theorem dX5_empty_5 : decode cX5_empty 5 = .ok (.aload_n 0, 1) := by decide +kernel
theorem dX5_empty_6 : decode cX5_empty 6 = .ok (.iconst 4, 1) := by decide +kernel
theorem dX5_empty_7 : decode cX5_empty 7 = .ok (.putfield 28, 3) := by decide +kernel
theorem dX5_empty_10 : decode cX5_empty 10 = .ok (.aload_n 0, 1) := by decide +kernel
theorem dX5_empty_11 : decode cX5_empty 11 = .ok (.iconst 3, 1) := by decide +kernel
theorem dX5_empty_12 : decode cX5_empty 12 = .ok (.putfield 31, 3) := by decide +kernel
theorem dX5_empty_15 : decode cX5_empty 15 = .ok (.aload_n 0, 1) := by decide +kernel
theorem dX5_empty_16 : decode cX5_empty 16 = .ok (.iconst 1, 1) := by decide +kernel
theorem dX5_empty_17 : decode cX5_empty 17 = .ok (.putfield 34, 3) := by decide +kernel
theorem dX5_empty_20 : decode cX5_empty 20 = .ok (.return_, 1) := by decide +kernel
theorem dX5_copy_0 : decode cX5_copy 0 = .ok (.aload_n 1, 1) := by decide +kernel
theorem dX5_copy_1 : decode cX5_copy 1 = .ok (.getfield 9, 3) := by decide +kernel
theorem dX5_copy_4 : decode cX5_copy 4 = .ok (.iconst 0, 1) := by decide +kernel
theorem dX5_copy_5 : decode cX5_copy 5 = .ok (.aload_n 0, 1) := by decide +kernel
theorem dX5_copy_6 : decode cX5_copy 6 = .ok (.getfield 9, 3) := by decide +kernel
theorem dX5_copy_9 : decode cX5_copy 9 = .ok (.iconst 0, 1) := by decide +kernel
theorem dX5_copy_10 : decode cX5_copy 10 = .ok (.bipush 9, 2) := by decide +kernel
theorem dX5_copy_12 : decode cX5_copy 12 = .ok (.invokestatic 37, 3) := by decide +kernel
theorem dX5_copy_15 : decode cX5_copy 15 = .ok (.aload_n 1, 1) := by decide +kernel
theorem dX5_copy_16 : decode cX5_copy 16 = .ok (.getfield 15, 3) := by decide +kernel
theorem dX5_copy_19 : decode cX5_copy 19 = .ok (.iconst 0, 1) := by decide +kernel
theorem dX5_copy_20 : decode cX5_copy 20 = .ok (.aload_n 0, 1) := by decide +kernel
theorem dX5_copy_21 : decode cX5_copy 21 = .ok (.getfield 15, 3) := by decide +kernel
theorem dX5_copy_24 : decode cX5_copy 24 = .ok (.iconst 0, 1) := by decide +kernel
theorem dX5_copy_25 : decode cX5_copy 25 = .ok (.bipush 9, 2) := by decide +kernel
theorem dX5_copy_27 : decode cX5_copy 27 = .ok (.invokestatic 37, 3) := by decide +kernel
theorem dX5_copy_30 : decode cX5_copy 30 = .ok (.aload_n 1, 1) := by decide +kernel
theorem dX5_copy_31 : decode cX5_copy 31 = .ok (.getfield 18, 3) := by decide +kernel
theorem dX5_copy_34 : decode cX5_copy 34 = .ok (.iconst 0, 1) := by decide +kernel
theorem dX5_copy_35 : decode cX5_copy 35 = .ok (.aload_n 0, 1) := by decide +kernel
theorem dX5_copy_36 : decode cX5_copy 36 = .ok (.getfield 18, 3) := by decide +kernel
theorem dX5_copy_39 : decode cX5_copy 39 = .ok (.iconst 0, 1) := by decide +kernel
theorem dX5_copy_40 : decode cX5_copy 40 = .ok (.bipush 9, 2) := by decide +kernel
theorem dX5_copy_42 : decode cX5_copy 42 = .ok (.invokestatic 37, 3) := by decide +kernel
theorem dX5_copy_45 : decode cX5_copy 45 = .ok (.aload_n 0, 1) := by decide +kernel
theorem dX5_copy_46 : decode cX5_copy 46 = .ok (.aload_n 1, 1) := by decide +kernel
theorem dX5_copy_47 : decode cX5_copy 47 = .ok (.getfield 24, 3) := by decide +kernel
theorem dX5_copy_50 : decode cX5_copy 50 = .ok (.putfield 24, 3) := by decide +kernel
theorem dX5_copy_53 : decode cX5_copy 53 = .ok (.aload_n 0, 1) := by decide +kernel
theorem dX5_copy_54 : decode cX5_copy 54 = .ok (.aload_n 1, 1) := by decide +kernel
theorem dX5_copy_55 : decode cX5_copy 55 = .ok (.getfield 28, 3) := by decide +kernel
theorem dX5_copy_58 : decode cX5_copy 58 = .ok (.putfield 28, 3) := by decide +kernel
theorem dX5_copy_61 : decode cX5_copy 61 = .ok (.aload_n 0, 1) := by decide +kernel
theorem dX5_copy_62 : decode cX5_copy 62 = .ok (.aload_n 1, 1) := by decide +kernel
theorem dX5_copy_63 : decode cX5_copy 63 = .ok (.getfield 31, 3) := by decide +kernel
theorem dX5_copy_66 : decode cX5_copy 66 = .ok (.putfield 31, 3) := by decide +kernel
theorem dX5_copy_69 : decode cX5_copy 69 = .ok (.aload_n 0, 1) := by decide +kernel
theorem dX5_copy_70 : decode cX5_copy 70 = .ok (.aload_n 1, 1) := by decide +kernel
theorem dX5_copy_71 : decode cX5_copy 71 = .ok (.getfield 34, 3) := by decide +kernel
theorem dX5_copy_74 : decode cX5_copy 74 = .ok (.putfield 34, 3) := by decide +kernel
theorem dX5_copy_77 : decode cX5_copy 77 = .ok (.return_, 1) := by decide +kernel
theorem dX5_addStep_0 : decode cX5_addStep 0 = .ok (.aload_n 0, 1) := by decide +kernel
theorem dX5_addStep_1 : decode cX5_addStep 1 = .ok (.getfield 24, 3) := by decide +kernel
theorem dX5_addStep_4 : decode cX5_addStep 4 = .ok (.bipush 9, 2) := by decide +kernel
theorem dX5_addStep_6 : decode cX5_addStep 6 = .ok (.if_icmp .ge 43, 3) := by decide +kernel
theorem dX5_addStep_9 : decode cX5_addStep 9 = .ok (.aload_n 0, 1) := by decide +kernel
theorem dX5_addStep_10 : decode cX5_addStep 10 = .ok (.getfield 9, 3) := by decide +kernel
theorem dX5_addStep_13 : decode cX5_addStep 13 = .ok (.aload_n 0, 1) := by decide +kernel
theorem dX5_addStep_14 : decode cX5_addStep 14 = .ok (.getfield 24, 3) := by decide +kernel
theorem dX5_addStep_17 : decode cX5_addStep 17 = .ok (.iload_n 1, 1) := by decide +kernel
theorem dX5_addStep_18 : decode cX5_addStep 18 = .ok (.iastore, 1) := by decide +kernel
theorem dX5_addStep_19 : decode cX5_addStep 19 = .ok (.aload_n 0, 1) := by decide +kernel
theorem dX5_addStep_20 : decode cX5_addStep 20 = .ok (.getfield 15, 3) := by decide +kernel
theorem dX5_addStep_23 : decode cX5_addStep 23 = .ok (.aload_n 0, 1) := by decide +kernel
theorem dX5_addStep_24 : decode cX5_addStep 24 = .ok (.getfield 24, 3) := by decide +kernel
theorem dX5_addStep_27 : decode cX5_addStep 27 = .ok (.iload_n 2, 1) := by decide +kernel
theorem dX5_addStep_28 : decode cX5_addStep 28 = .ok (.iastore, 1) := by decide +kernel
theorem dX5_addStep_29 : decode cX5_addStep 29 = .ok (.aload_n 0, 1) := by decide +kernel
theorem dX5_addStep_30 : decode cX5_addStep 30 = .ok (.getfield 18, 3) := by decide +kernel
theorem dX5_addStep_33 : decode cX5_addStep 33 = .ok (.aload_n 0, 1) := by decide +kernel
theorem dX5_addStep_34 : decode cX5_addStep 34 = .ok (.getfield 24, 3) := by decide +kernel
theorem dX5_addStep_37 : decode cX5_addStep 37 = .ok (.iload_n 3, 1) := by decide +kernel
theorem dX5_addStep_38 : decode cX5_addStep 38 = .ok (.iastore, 1) := by decide +kernel
theorem dX5_addStep_39 : decode cX5_addStep 39 = .ok (.aload_n 0, 1) := by decide +kernel
theorem dX5_addStep_40 : decode cX5_addStep 40 = .ok (.dup, 1) := by decide +kernel
theorem dX5_addStep_41 : decode cX5_addStep 41 = .ok (.getfield 24, 3) := by decide +kernel
theorem dX5_addStep_44 : decode cX5_addStep 44 = .ok (.iconst 1, 1) := by decide +kernel
theorem dX5_addStep_45 : decode cX5_addStep 45 = .ok (.iadd, 1) := by decide +kernel
theorem dX5_addStep_46 : decode cX5_addStep 46 = .ok (.putfield 24, 3) := by decide +kernel
theorem dX5_addStep_49 : decode cX5_addStep 49 = .ok (.return_, 1) := by decide +kernel
set_option maxRecDepth 20000 in
theorem ggX5_has_X8_within : GoodIn wsX5_has wsX8_within := goodIn_r _ [4] (by decide +kernel) (by decide +kernel)
