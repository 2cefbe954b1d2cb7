theorem dX0_init_0 : decode cX0_init 0 = .ok (.aload_n 0, 1) := by decide +kernel
theorem dX0_init_1 : decode cX0_init 1 = .ok (.invokespecial 3, 3) := by decide +kernel
theorem dX0_init_4 : decode cX0_init 4 = .ok (.aload_n 0, 1) := by decide +kernel
theorem dX0_init_5 : decode cX0_init 5 = .ok (.bipush 9, 2) := by decide +kernel
theorem dX0_init_7 : decode cX0_init 7 = .ok (.newarray .int, 2) := by decide +kernel
theorem dX0_init_9 : decode cX0_init 9 = .ok (.putfield 9, 3) := by decide +kernel
theorem dX0_init_12 : decode cX0_init 12 = .ok (.aload_n 0, 1) := by decide +kernel
theorem dX0_init_13 : decode cX0_init 13 = .ok (.aload_n 1, 1) := by decide +kernel
theorem dX0_init_14 : decode cX0_init 14 = .ok (.putfield 15, 3) := by decide +kernel
theorem dX0_init_17 : decode cX0_init 17 = .ok (.return_, 1) := by decide +kernel
theorem dX0_weigh_0 : decode cX0_weigh 0 = .ok (.aload_n 0, 1) := by decide +kernel
theorem dX0_weigh_1 : decode cX0_weigh 1 = .ok (.getfield 15, 3) := by decide +kernel
theorem dX0_weigh_4 : decode cX0_weigh 4 = .ok (.aload_n 1, 1) := by decide +kernel
theorem dX0_weigh_5 : decode cX0_weigh 5 = .ok (.invokevirtual 19, 3) := by decide +kernel
theorem dX0_weigh_8 : decode cX0_weigh 8 = .ok (.aload_n 0, 1) := by decide +kernel
theorem dX0_weigh_9 : decode cX0_weigh 9 = .ok (.aload_n 1, 1) := by decide +kernel
theorem dX0_weigh_10 : decode cX0_weigh 10 = .ok (.invokevirtual 25, 3) := by decide +kernel
theorem dX0_weigh_13 : decode cX0_weigh 13 = .ok (.aload_n 0, 1) := by decide +kernel
theorem dX0_weigh_14 : decode cX0_weigh 14 = .ok (.lconst 0, 1) := by decide +kernel
theorem dX0_weigh_15 : decode cX0_weigh 15 = .ok (.putfield 28, 3) := by decide +kernel
theorem dX0_weigh_18 : decode cX0_weigh 18 = .ok (.aload_n 0, 1) := by decide +kernel
theorem dX0_weigh_19 : decode cX0_weigh 19 = .ok (.lconst 1, 1) := by decide +kernel
theorem dX0_weigh_20 : decode cX0_weigh 20 = .ok (.putfield 32, 3) := by decide +kernel
theorem dX0_weigh_23 : decode cX0_weigh 23 = .ok (.iconst 0, 1) := by decide +kernel
theorem dX0_weigh_24 : decode cX0_weigh 24 = .ok (.istore_n 3, 1) := by decide +kernel
theorem dX0_weigh_25 : decode cX0_weigh 25 = .ok (.iload_n 3, 1) := by decide +kernel
theorem dX0_weigh_26 : decode cX0_weigh 26 = .ok (.aload_n 0, 1) := by decide +kernel
theorem dX0_weigh_27 : decode cX0_weigh 27 = .ok (.getfield 35, 3) := by decide +kernel
theorem dX0_weigh_30 : decode cX0_weigh 30 = .ok (.if_icmp .ge 21, 3) := by decide +kernel
theorem dX0_weigh_33 : decode cX0_weigh 33 = .ok (.aload_n 0, 1) := by decide +kernel
theorem dX0_weigh_34 : decode cX0_weigh 34 = .ok (.dup, 1) := by decide +kernel
theorem dX0_weigh_35 : decode cX0_weigh 35 = .ok (.getfield 32, 3) := by decide +kernel
theorem dX0_weigh_38 : decode cX0_weigh 38 = .ok (.ldc2_w 39, 3) := by decide +kernel
theorem dX0_weigh_41 : decode cX0_weigh 41 = .ok (.lmul, 1) := by decide +kernel
theorem dX0_weigh_42 : decode cX0_weigh 42 = .ok (.putfield 32, 3) := by decide +kernel
theorem dX0_weigh_45 : decode cX0_weigh 45 = .ok (.iinc 3 1, 3) := by decide +kernel
theorem dX0_weigh_48 : decode cX0_weigh 48 = .ok (.goto (-23), 3) := by decide +kernel
theorem dX0_weigh_51 : decode cX0_weigh 51 = .ok (.iconst 0, 1) := by decide +kernel
theorem dX0_weigh_52 : decode cX0_weigh 52 = .ok (.istore_n 3, 1) := by decide +kernel
theorem dX0_weigh_53 : decode cX0_weigh 53 = .ok (.iload_n 3, 1) := by decide +kernel
theorem dX0_weigh_54 : decode cX0_weigh 54 = .ok (.iconst 1, 1) := by decide +kernel
theorem dX0_weigh_55 : decode cX0_weigh 55 = .ok (.aload_n 0, 1) := by decide +kernel
theorem dX0_weigh_56 : decode cX0_weigh 56 = .ok (.getfield 35, 3) := by decide +kernel
theorem dX0_weigh_59 : decode cX0_weigh 59 = .ok (.ishl, 1) := by decide +kernel
theorem dX0_weigh_60 : decode cX0_weigh 60 = .ok (.if_icmp .ge 44, 3) := by decide +kernel
theorem dX0_weigh_63 : decode cX0_weigh 63 = .ok (.aload_n 0, 1) := by decide +kernel
theorem dX0_weigh_64 : decode cX0_weigh 64 = .ok (.iload_n 3, 1) := by decide +kernel
theorem dX0_weigh_65 : decode cX0_weigh 65 = .ok (.iload_n 2, 1) := by decide +kernel
theorem dX0_weigh_66 : decode cX0_weigh 66 = .ok (.invokevirtual 41, 3) := by decide +kernel
theorem dX0_weigh_69 : decode cX0_weigh 69 = .ok (.lstore 4, 2) := by decide +kernel
theorem dX0_weigh_71 : decode cX0_weigh 71 = .ok (.lload 4, 2) := by decide +kernel
theorem dX0_weigh_73 : decode cX0_weigh 73 = .ok (.lconst 0, 1) := by decide +kernel
theorem dX0_weigh_74 : decode cX0_weigh 74 = .ok (.lcmp, 1) := by decide +kernel
theorem dX0_weigh_75 : decode cX0_weigh 75 = .ok (.ifCond .le 23, 3) := by decide +kernel
theorem dX0_weigh_78 : decode cX0_weigh 78 = .ok (.aload_n 0, 1) := by decide +kernel
theorem dX0_weigh_79 : decode cX0_weigh 79 = .ok (.aload_n 1, 1) := by decide +kernel
theorem dX0_weigh_80 : decode cX0_weigh 80 = .ok (.iload_n 3, 1) := by decide +kernel
theorem dX0_weigh_81 : decode cX0_weigh 81 = .ok (.invokevirtual 45, 3) := by decide +kernel
theorem dX0_weigh_84 : decode cX0_weigh 84 = .ok (.ifCond .eq 14, 3) := by decide +kernel
theorem dX0_weigh_87 : decode cX0_weigh 87 = .ok (.aload_n 0, 1) := by decide +kernel
theorem dX0_weigh_88 : decode cX0_weigh 88 = .ok (.dup, 1) := by decide +kernel
theorem dX0_weigh_89 : decode cX0_weigh 89 = .ok (.getfield 28, 3) := by decide +kernel
theorem dX0_weigh_92 : decode cX0_weigh 92 = .ok (.lload 4, 2) := by decide +kernel
theorem dX0_weigh_94 : decode cX0_weigh 94 = .ok (.ladd, 1) := by decide +kernel
theorem dX0_weigh_95 : decode cX0_weigh 95 = .ok (.putfield 28, 3) := by decide +kernel
theorem dX0_weigh_98 : decode cX0_weigh 98 = .ok (.iinc 3 1, 3) := by decide +kernel
theorem dX0_weigh_101 : decode cX0_weigh 101 = .ok (.goto (-48), 3) := by decide +kernel
theorem dX0_weigh_104 : decode cX0_weigh 104 = .ok (.aload_n 0, 1) := by decide +kernel
theorem dX0_weigh_105 : decode cX0_weigh 105 = .ok (.invokevirtual 49, 3) := by decide +kernel
theorem dX0_weigh_108 : decode cX0_weigh 108 = .ok (.return_, 1) := by decide +kernel
theorem dX0_listMats_0 : decode cX0_listMats 0 = .ok (.aload_n 0, 1) := by decide +kernel
theorem dX0_listMats_1 : decode cX0_listMats 1 = .ok (.iconst 0, 1) := by decide +kernel
theorem dX0_listMats_2 : decode cX0_listMats 2 = .ok (.putfield 35, 3) := by decide +kernel
theorem dX0_listMats_5 : decode cX0_listMats 5 = .ok (.aload_n 1, 1) := by decide +kernel
theorem dX0_listMats_6 : decode cX0_listMats 6 = .ok (.getfield 52, 3) := by decide +kernel
theorem dX0_listMats_9 : decode cX0_listMats 9 = .ok (.iconst 1, 1) := by decide +kernel
theorem dX0_listMats_10 : decode cX0_listMats 10 = .ok (.iadd, 1) := by decide +kernel
theorem dX0_listMats_11 : decode cX0_listMats 11 = .ok (.istore_n 2, 1) := by decide +kernel
theorem dX0_listMats_12 : decode cX0_listMats 12 = .ok (.iload_n 2, 1) := by decide +kernel
theorem dX0_listMats_13 : decode cX0_listMats 13 = .ok (.aload_n 0, 1) := by decide +kernel
theorem dX0_listMats_14 : decode cX0_listMats 14 = .ok (.getfield 15, 3) := by decide +kernel
theorem dX0_listMats_17 : decode cX0_listMats 17 = .ok (.getfield 57, 3) := by decide +kernel
theorem dX0_listMats_20 : decode cX0_listMats 20 = .ok (.getfield 61, 3) := by decide +kernel
theorem dX0_listMats_23 : decode cX0_listMats 23 = .ok (.if_icmp .ge 38, 3) := by decide +kernel
theorem dX0_listMats_26 : decode cX0_listMats 26 = .ok (.aload_n 1, 1) := by decide +kernel
theorem dX0_listMats_27 : decode cX0_listMats 27 = .ok (.getfield 66, 3) := by decide +kernel
theorem dX0_listMats_30 : decode cX0_listMats 30 = .ok (.iload_n 2, 1) := by decide +kernel
theorem dX0_listMats_31 : decode cX0_listMats 31 = .ok (.iaload, 1) := by decide +kernel
theorem dX0_listMats_32 : decode cX0_listMats 32 = .ok (.ifCond .le 23, 3) := by decide +kernel
theorem dX0_listMats_35 : decode cX0_listMats 35 = .ok (.aload_n 0, 1) := by decide +kernel
theorem dX0_listMats_36 : decode cX0_listMats 36 = .ok (.getfield 9, 3) := by decide +kernel
theorem dX0_listMats_39 : decode cX0_listMats 39 = .ok (.aload_n 0, 1) := by decide +kernel
theorem dX0_listMats_40 : decode cX0_listMats 40 = .ok (.getfield 35, 3) := by decide +kernel
theorem dX0_listMats_43 : decode cX0_listMats 43 = .ok (.iload_n 2, 1) := by decide +kernel
theorem dX0_listMats_44 : decode cX0_listMats 44 = .ok (.iastore, 1) := by decide +kernel
theorem dX0_listMats_45 : decode cX0_listMats 45 = .ok (.aload_n 0, 1) := by decide +kernel
theorem dX0_listMats_46 : decode cX0_listMats 46 = .ok (.dup, 1) := by decide +kernel
theorem dX0_listMats_47 : decode cX0_listMats 47 = .ok (.getfield 35, 3) := by decide +kernel
theorem dX0_listMats_50 : decode cX0_listMats 50 = .ok (.iconst 1, 1) := by decide +kernel
theorem dX0_listMats_51 : decode cX0_listMats 51 = .ok (.iadd, 1) := by decide +kernel
theorem dX0_listMats_52 : decode cX0_listMats 52 = .ok (.putfield 35, 3) := by decide +kernel
theorem dX0_listMats_55 : decode cX0_listMats 55 = .ok (.iinc 2 1, 3) := by decide +kernel
theorem dX0_listMats_58 : decode cX0_listMats 58 = .ok (.goto (-46), 3) := by decide +kernel
theorem dX0_listMats_61 : decode cX0_listMats 61 = .ok (.return_, 1) := by decide +kernel
theorem dX0_weightOf_0 : decode cX0_weightOf 0 = .ok (.lconst 1, 1) := by decide +kernel
theorem dX0_weightOf_1 : decode cX0_weightOf 1 = .ok (.lstore_n 3, 1) := by decide +kernel
theorem dX0_weightOf_2 : decode cX0_weightOf 2 = .ok (.iconst 0, 1) := by decide +kernel
theorem dX0_weightOf_3 : decode cX0_weightOf 3 = .ok (.istore 5, 2) := by decide +kernel
theorem dX0_weightOf_5 : decode cX0_weightOf 5 = .ok (.iload 5, 2) := by decide +kernel
theorem dX0_weightOf_7 : decode cX0_weightOf 7 = .ok (.aload_n 0, 1) := by decide +kernel
theorem dX0_weightOf_8 : decode cX0_weightOf 8 = .ok (.getfield 35, 3) := by decide +kernel
theorem dX0_weightOf_11 : decode cX0_weightOf 11 = .ok (.if_icmp .ge 32, 3) := by decide +kernel
theorem dX0_weightOf_14 : decode cX0_weightOf 14 = .ok (.lload_n 3, 1) := by decide +kernel
theorem dX0_weightOf_15 : decode cX0_weightOf 15 = .ok (.iload_n 1, 1) := by decide +kernel
theorem dX0_weightOf_16 : decode cX0_weightOf 16 = .ok (.iload 5, 2) := by decide +kernel
theorem dX0_weightOf_18 : decode cX0_weightOf 18 = .ok (.ishr, 1) := by decide +kernel
theorem dX0_weightOf_19 : decode cX0_weightOf 19 = .ok (.iconst 1, 1) := by decide +kernel
theorem dX0_weightOf_20 : decode cX0_weightOf 20 = .ok (.iand, 1) := by decide +kernel
theorem dX0_weightOf_21 : decode cX0_weightOf 21 = .ok (.iconst 1, 1) := by decide +kernel
theorem dX0_weightOf_22 : decode cX0_weightOf 22 = .ok (.if_icmp .ne 8, 3) := by decide +kernel
theorem dX0_weightOf_25 : decode cX0_weightOf 25 = .ok (.iload_n 2, 1) := by decide +kernel
theorem dX0_weightOf_26 : decode cX0_weightOf 26 = .ok (.i2l, 1) := by decide +kernel
theorem dX0_weightOf_27 : decode cX0_weightOf 27 = .ok (.goto 8, 3) := by decide +kernel
theorem dX0_weightOf_30 : decode cX0_weightOf 30 = .ok (.bipush 10, 2) := by decide +kernel
theorem dX0_weightOf_32 : decode cX0_weightOf 32 = .ok (.iload_n 2, 1) := by decide +kernel
theorem dX0_weightOf_33 : decode cX0_weightOf 33 = .ok (.isub, 1) := by decide +kernel
theorem dX0_weightOf_34 : decode cX0_weightOf 34 = .ok (.i2l, 1) := by decide +kernel
theorem dX0_weightOf_35 : decode cX0_weightOf 35 = .ok (.lmul, 1) := by decide +kernel
theorem dX0_weightOf_36 : decode cX0_weightOf 36 = .ok (.lstore_n 3, 1) := by decide +kernel
theorem dX0_weightOf_37 : decode cX0_weightOf 37 = .ok (.iinc 5 1, 3) := by decide +kernel
theorem dX0_weightOf_40 : decode cX0_weightOf 40 = .ok (.goto (-35), 3) := by decide +kernel
theorem dX0_weightOf_43 : decode cX0_weightOf 43 = .ok (.lload_n 3, 1) := by decide +kernel
theorem dX0_weightOf_44 : decode cX0_weightOf 44 = .ok (.lreturn, 1) := by decide +kernel
theorem dX0_reachesFloor_0 : decode cX0_reachesFloor 0 = .ok (.iconst 0, 1) := by decide +kernel
theorem dX0_reachesFloor_1 : decode cX0_reachesFloor 1 = .ok (.istore_n 3, 1) := by decide +kernel
theorem dX0_reachesFloor_2 : decode cX0_reachesFloor 2 = .ok (.iload_n 3, 1) := by decide +kernel
theorem dX0_reachesFloor_3 : decode cX0_reachesFloor 3 = .ok (.aload_n 0, 1) := by decide +kernel
theorem dX0_reachesFloor_4 : decode cX0_reachesFloor 4 = .ok (.getfield 35, 3) := by decide +kernel
theorem dX0_reachesFloor_7 : decode cX0_reachesFloor 7 = .ok (.if_icmp .ge 47, 3) := by decide +kernel
theorem dX0_reachesFloor_10 : decode cX0_reachesFloor 10 = .ok (.aload_n 0, 1) := by decide +kernel
theorem dX0_reachesFloor_11 : decode cX0_reachesFloor 11 = .ok (.getfield 9, 3) := by decide +kernel
theorem dX0_reachesFloor_14 : decode cX0_reachesFloor 14 = .ok (.iload_n 3, 1) := by decide +kernel
theorem dX0_reachesFloor_15 : decode cX0_reachesFloor 15 = .ok (.iaload, 1) := by decide +kernel
theorem dX0_reachesFloor_16 : decode cX0_reachesFloor 16 = .ok (.istore 4, 2) := by decide +kernel
theorem dX0_reachesFloor_18 : decode cX0_reachesFloor 18 = .ok (.aload_n 0, 1) := by decide +kernel
theorem dX0_reachesFloor_19 : decode cX0_reachesFloor 19 = .ok (.getfield 15, 3) := by decide +kernel
theorem dX0_reachesFloor_22 : decode cX0_reachesFloor 22 = .ok (.getfield 68, 3) := by decide +kernel
theorem dX0_reachesFloor_25 : decode cX0_reachesFloor 25 = .ok (.iload 4, 2) := by decide +kernel
theorem dX0_reachesFloor_27 : decode cX0_reachesFloor 27 = .ok (.iload_n 2, 1) := by decide +kernel
theorem dX0_reachesFloor_28 : decode cX0_reachesFloor 28 = .ok (.iload_n 3, 1) := by decide +kernel
theorem dX0_reachesFloor_29 : decode cX0_reachesFloor 29 = .ok (.ishr, 1) := by decide +kernel
theorem dX0_reachesFloor_30 : decode cX0_reachesFloor 30 = .ok (.iconst 1, 1) := by decide +kernel
theorem dX0_reachesFloor_31 : decode cX0_reachesFloor 31 = .ok (.iand, 1) := by decide +kernel
theorem dX0_reachesFloor_32 : decode cX0_reachesFloor 32 = .ok (.iconst 1, 1) := by decide +kernel
theorem dX0_reachesFloor_33 : decode cX0_reachesFloor 33 = .ok (.if_icmp .ne 7, 3) := by decide +kernel
theorem dX0_reachesFloor_36 : decode cX0_reachesFloor 36 = .ok (.iconst 0, 1) := by decide +kernel
theorem dX0_reachesFloor_37 : decode cX0_reachesFloor 37 = .ok (.goto 10, 3) := by decide +kernel
theorem dX0_reachesFloor_40 : decode cX0_reachesFloor 40 = .ok (.aload_n 1, 1) := by decide +kernel
theorem dX0_reachesFloor_41 : decode cX0_reachesFloor 41 = .ok (.getfield 66, 3) := by decide +kernel
theorem dX0_reachesFloor_44 : decode cX0_reachesFloor 44 = .ok (.iload 4, 2) := by decide +kernel
theorem dX0_reachesFloor_46 : decode cX0_reachesFloor 46 = .ok (.iaload, 1) := by decide +kernel
theorem dX0_reachesFloor_47 : decode cX0_reachesFloor 47 = .ok (.iastore, 1) := by decide +kernel
theorem dX0_reachesFloor_48 : decode cX0_reachesFloor 48 = .ok (.iinc 3 1, 3) := by decide +kernel
theorem dX0_reachesFloor_51 : decode cX0_reachesFloor 51 = .ok (.goto (-49), 3) := by decide +kernel
theorem dX0_reachesFloor_54 : decode cX0_reachesFloor 54 = .ok (.aload_n 0, 1) := by decide +kernel
theorem dX0_reachesFloor_55 : decode cX0_reachesFloor 55 = .ok (.getfield 15, 3) := by decide +kernel
theorem dX0_reachesFloor_58 : decode cX0_reachesFloor 58 = .ok (.getfield 57, 3) := by decide +kernel
theorem dX0_reachesFloor_61 : decode cX0_reachesFloor 61 = .ok (.aload_n 0, 1) := by decide +kernel
theorem dX0_reachesFloor_62 : decode cX0_reachesFloor 62 = .ok (.getfield 15, 3) := by decide +kernel
theorem dX0_reachesFloor_65 : decode cX0_reachesFloor 65 = .ok (.aload_n 1, 1) := by decide +kernel
theorem dX0_reachesFloor_66 : decode cX0_reachesFloor 66 = .ok (.getfield 52, 3) := by decide +kernel
theorem dX0_reachesFloor_69 : decode cX0_reachesFloor 69 = .ok (.aload_n 1, 1) := by decide +kernel
theorem dX0_reachesFloor_70 : decode cX0_reachesFloor 70 = .ok (.getfield 69, 3) := by decide +kernel
theorem dX0_reachesFloor_73 : decode cX0_reachesFloor 73 = .ok (.invokevirtual 72, 3) := by decide +kernel
theorem dX0_reachesFloor_76 : decode cX0_reachesFloor 76 = .ok (.invokevirtual 76, 3) := by decide +kernel
theorem dX0_reachesFloor_79 : decode cX0_reachesFloor 79 = .ok (.ifCond .ne 7, 3) := by decide +kernel
theorem dX0_reachesFloor_82 : decode cX0_reachesFloor 82 = .ok (.iconst 1, 1) := by decide +kernel
theorem dX0_reachesFloor_83 : decode cX0_reachesFloor 83 = .ok (.goto 4, 3) := by decide +kernel
theorem dX0_reachesFloor_86 : decode cX0_reachesFloor 86 = .ok (.iconst 0, 1) := by decide +kernel
theorem dX0_reachesFloor_87 : decode cX0_reachesFloor 87 = .ok (.ireturn, 1) := by decide +kernel
theorem dX0_reduce_0 : decode cX0_reduce 0 = .ok (.aload_n 0, 1) := by decide +kernel
theorem dX0_reduce_1 : decode cX0_reduce 1 = .ok (.getfield 32, 3) := by decide +kernel
theorem dX0_reduce_4 : decode cX0_reduce 4 = .ok (.lstore_n 1, 1) := by decide +kernel
theorem dX0_reduce_5 : decode cX0_reduce 5 = .ok (.aload_n 0, 1) := by decide +kernel
theorem dX0_reduce_6 : decode cX0_reduce 6 = .ok (.getfield 28, 3) := by decide +kernel
theorem dX0_reduce_9 : decode cX0_reduce 9 = .ok (.lstore_n 3, 1) := by decide +kernel
theorem dX0_reduce_10 : decode cX0_reduce 10 = .ok (.iconst 0, 1) := by decide +kernel
theorem dX0_reduce_11 : decode cX0_reduce 11 = .ok (.istore 5, 2) := by decide +kernel
theorem dX0_reduce_13 : decode cX0_reduce 13 = .ok (.iload 5, 2) := by decide +kernel
theorem dX0_reduce_15 : decode cX0_reduce 15 = .ok (.sipush 1000, 3) := by decide +kernel
theorem dX0_reduce_18 : decode cX0_reduce 18 = .ok (.if_icmp .ge 25, 3) := by decide +kernel
theorem dX0_reduce_21 : decode cX0_reduce 21 = .ok (.lload_n 3, 1) := by decide +kernel
theorem dX0_reduce_22 : decode cX0_reduce 22 = .ok (.lconst 0, 1) := by decide +kernel
theorem dX0_reduce_23 : decode cX0_reduce 23 = .ok (.lcmp, 1) := by decide +kernel
theorem dX0_reduce_24 : decode cX0_reduce 24 = .ok (.ifCond .eq 19, 3) := by decide +kernel
theorem dX0_reduce_27 : decode cX0_reduce 27 = .ok (.lload_n 1, 1) := by decide +kernel
theorem dX0_reduce_28 : decode cX0_reduce 28 = .ok (.lload_n 3, 1) := by decide +kernel
theorem dX0_reduce_29 : decode cX0_reduce 29 = .ok (.lrem, 1) := by decide +kernel
theorem dX0_reduce_30 : decode cX0_reduce 30 = .ok (.lstore 6, 2) := by decide +kernel
theorem dX0_reduce_32 : decode cX0_reduce 32 = .ok (.lload_n 3, 1) := by decide +kernel
theorem dX0_reduce_33 : decode cX0_reduce 33 = .ok (.lstore_n 1, 1) := by decide +kernel
theorem dX0_reduce_34 : decode cX0_reduce 34 = .ok (.lload 6, 2) := by decide +kernel
theorem dX0_reduce_36 : decode cX0_reduce 36 = .ok (.lstore_n 3, 1) := by decide +kernel
theorem dX0_reduce_37 : decode cX0_reduce 37 = .ok (.iinc 5 1, 3) := by decide +kernel
theorem dX0_reduce_40 : decode cX0_reduce 40 = .ok (.goto (-27), 3) := by decide +kernel
theorem dX0_reduce_43 : decode cX0_reduce 43 = .ok (.lload_n 1, 1) := by decide +kernel
theorem dX0_reduce_44 : decode cX0_reduce 44 = .ok (.lconst 0, 1) := by decide +kernel
theorem dX0_reduce_45 : decode cX0_reduce 45 = .ok (.lcmp, 1) := by decide +kernel
theorem dX0_reduce_46 : decode cX0_reduce 46 = .ok (.ifCond .le 23, 3) := by decide +kernel
theorem dX0_reduce_49 : decode cX0_reduce 49 = .ok (.aload_n 0, 1) := by decide +kernel
theorem dX0_reduce_50 : decode cX0_reduce 50 = .ok (.dup, 1) := by decide +kernel
theorem dX0_reduce_51 : decode cX0_reduce 51 = .ok (.getfield 28, 3) := by decide +kernel
theorem dX0_reduce_54 : decode cX0_reduce 54 = .ok (.lload_n 1, 1) := by decide +kernel
theorem dX0_reduce_55 : decode cX0_reduce 55 = .ok (.ldiv, 1) := by decide +kernel
theorem dX0_reduce_56 : decode cX0_reduce 56 = .ok (.putfield 28, 3) := by decide +kernel
theorem dX0_reduce_59 : decode cX0_reduce 59 = .ok (.aload_n 0, 1) := by decide +kernel
theorem dX0_reduce_60 : decode cX0_reduce 60 = .ok (.dup, 1) := by decide +kernel
theorem dX0_reduce_61 : decode cX0_reduce 61 = .ok (.getfield 32, 3) := by decide +kernel
theorem dX0_reduce_64 : decode cX0_reduce 64 = .ok (.lload_n 1, 1) := by decide +kernel
theorem dX0_reduce_65 : decode cX0_reduce 65 = .ok (.ldiv, 1) := by decide +kernel
theorem dX0_reduce_66 : decode cX0_reduce 66 = .ok (.putfield 32, 3) := by decide +kernel
theorem dX0_reduce_69 : decode cX0_reduce 69 = .ok (.return_, 1) := by decide +kernel
theorem dX1_init_0 : decode cX1_init 0 = .ok (.aload_n 0, 1) := by decide +kernel
theorem dX1_init_1 : decode cX1_init 1 = .ok (.invokespecial 3, 3) := by decide +kernel
theorem dX1_init_4 : decode cX1_init 4 = .ok (.aload_n 0, 1) := by decide +kernel
theorem dX1_init_5 : decode cX1_init 5 = .ok (.bipush 6, 2) := by decide +kernel
theorem dX1_init_7 : decode cX1_init 7 = .ok (.newarray .int, 2) := by decide +kernel
theorem dX1_init_9 : decode cX1_init 9 = .ok (.putfield 9, 3) := by decide +kernel
theorem dX1_init_12 : decode cX1_init 12 = .ok (.aload_n 0, 1) := by decide +kernel
theorem dX1_init_13 : decode cX1_init 13 = .ok (.bipush 6, 2) := by decide +kernel
theorem dX1_init_15 : decode cX1_init 15 = .ok (.newarray .int, 2) := by decide +kernel
theorem dX1_init_17 : decode cX1_init 17 = .ok (.putfield 15, 3) := by decide +kernel
theorem dX1_init_20 : decode cX1_init 20 = .ok (.aload_n 0, 1) := by decide +kernel
theorem dX1_init_21 : decode cX1_init 21 = .ok (.bipush 6, 2) := by decide +kernel
theorem dX1_init_23 : decode cX1_init 23 = .ok (.newarray .int, 2) := by decide +kernel
theorem dX1_init_25 : decode cX1_init 25 = .ok (.putfield 18, 3) := by decide +kernel
theorem dX1_init_28 : decode cX1_init 28 = .ok (.aload_n 0, 1) := by decide +kernel
theorem dX1_init_29 : decode cX1_init 29 = .ok (.bipush 36, 2) := by decide +kernel
theorem dX1_init_31 : decode cX1_init 31 = .ok (.newarray .int, 2) := by decide +kernel
theorem dX1_init_33 : decode cX1_init 33 = .ok (.putfield 21, 3) := by decide +kernel
theorem dX1_init_36 : decode cX1_init 36 = .ok (.aload_n 0, 1) := by decide +kernel
theorem dX1_init_37 : decode cX1_init 37 = .ok (.bipush 36, 2) := by decide +kernel
theorem dX1_init_39 : decode cX1_init 39 = .ok (.newarray .int, 2) := by decide +kernel
theorem dX1_init_41 : decode cX1_init 41 = .ok (.putfield 24, 3) := by decide +kernel
theorem dX1_init_44 : decode cX1_init 44 = .ok (.aload_n 0, 1) := by decide +kernel
theorem dX1_init_45 : decode cX1_init 45 = .ok (.bipush 10, 2) := by decide +kernel
theorem dX1_init_47 : decode cX1_init 47 = .ok (.newarray .int, 2) := by decide +kernel
theorem dX1_init_49 : decode cX1_init 49 = .ok (.putfield 27, 3) := by decide +kernel
theorem dX1_init_52 : decode cX1_init 52 = .ok (.aload_n 0, 1) := by decide +kernel
theorem dX1_init_53 : decode cX1_init 53 = .ok (.aload_n 1, 1) := by decide +kernel
theorem dX1_init_54 : decode cX1_init 54 = .ok (.putfield 30, 3) := by decide +kernel
theorem dX1_init_57 : decode cX1_init 57 = .ok (.return_, 1) := by decide +kernel
theorem dX1_add_0 : decode cX1_add 0 = .ok (.aload_n 0, 1) := by decide +kernel
theorem dX1_add_1 : decode cX1_add 1 = .ok (.getfield 34, 3) := by decide +kernel
theorem dX1_add_4 : decode cX1_add 4 = .ok (.bipush 6, 2) := by decide +kernel
theorem dX1_add_6 : decode cX1_add 6 = .ok (.if_icmp .lt 5, 3) := by decide +kernel
theorem dX1_add_9 : decode cX1_add 9 = .ok (.iconst 0, 1) := by decide +kernel
theorem dX1_add_10 : decode cX1_add 10 = .ok (.ireturn, 1) := by decide +kernel
theorem dX1_add_11 : decode cX1_add 11 = .ok (.aload_n 0, 1) := by decide +kernel
theorem dX1_add_12 : decode cX1_add 12 = .ok (.getfield 9, 3) := by decide +kernel
theorem dX1_add_15 : decode cX1_add 15 = .ok (.aload_n 0, 1) := by decide +kernel
theorem dX1_add_16 : decode cX1_add 16 = .ok (.getfield 34, 3) := by decide +kernel
theorem dX1_add_19 : decode cX1_add 19 = .ok (.iload_n 1, 1) := by decide +kernel
theorem dX1_add_20 : decode cX1_add 20 = .ok (.iastore, 1) := by decide +kernel
theorem dX1_add_21 : decode cX1_add 21 = .ok (.aload_n 0, 1) := by decide +kernel
theorem dX1_add_22 : decode cX1_add 22 = .ok (.getfield 15, 3) := by decide +kernel
theorem dX1_add_25 : decode cX1_add 25 = .ok (.aload_n 0, 1) := by decide +kernel
theorem dX1_add_26 : decode cX1_add 26 = .ok (.getfield 34, 3) := by decide +kernel
theorem dX1_add_29 : decode cX1_add 29 = .ok (.iload_n 2, 1) := by decide +kernel
theorem dX1_add_30 : decode cX1_add 30 = .ok (.iastore, 1) := by decide +kernel
theorem dX1_add_31 : decode cX1_add 31 = .ok (.aload_n 0, 1) := by decide +kernel
theorem dX1_add_32 : decode cX1_add 32 = .ok (.getfield 18, 3) := by decide +kernel
theorem dX1_add_35 : decode cX1_add 35 = .ok (.aload_n 0, 1) := by decide +kernel
theorem dX1_add_36 : decode cX1_add 36 = .ok (.getfield 34, 3) := by decide +kernel
theorem dX1_add_39 : decode cX1_add 39 = .ok (.iload_n 3, 1) := by decide +kernel
theorem dX1_add_40 : decode cX1_add 40 = .ok (.iastore, 1) := by decide +kernel
theorem dX1_add_41 : decode cX1_add 41 = .ok (.aload_n 0, 1) := by decide +kernel
theorem dX1_add_42 : decode cX1_add 42 = .ok (.dup, 1) := by decide +kernel
theorem dX1_add_43 : decode cX1_add 43 = .ok (.getfield 34, 3) := by decide +kernel
theorem dX1_add_46 : decode cX1_add 46 = .ok (.iconst 1, 1) := by decide +kernel
theorem dX1_add_47 : decode cX1_add 47 = .ok (.iadd, 1) := by decide +kernel
theorem dX1_add_48 : decode cX1_add 48 = .ok (.putfield 34, 3) := by decide +kernel
theorem dX1_add_51 : decode cX1_add 51 = .ok (.iconst 1, 1) := by decide +kernel
theorem dX1_add_52 : decode cX1_add 52 = .ok (.ireturn, 1) := by decide +kernel
theorem dX1_findPossible_0 : decode cX1_findPossible 0 = .ok (.aload_n 0, 1) := by decide +kernel
theorem dX1_findPossible_1 : decode cX1_findPossible 1 = .ok (.getfield 30, 3) := by decide +kernel
theorem dX1_findPossible_4 : decode cX1_findPossible 4 = .ok (.aload_n 1, 1) := by decide +kernel
theorem dX1_findPossible_5 : decode cX1_findPossible 5 = .ok (.invokevirtual 38, 3) := by decide +kernel
theorem dX1_findPossible_8 : decode cX1_findPossible 8 = .ok (.aload_n 0, 1) := by decide +kernel
theorem dX1_findPossible_9 : decode cX1_findPossible 9 = .ok (.iconst 0, 1) := by decide +kernel
theorem dX1_findPossible_10 : decode cX1_findPossible 10 = .ok (.putfield 44, 3) := by decide +kernel
theorem dX1_findPossible_13 : decode cX1_findPossible 13 = .ok (.iconst 1, 1) := by decide +kernel
theorem dX1_findPossible_14 : decode cX1_findPossible 14 = .ok (.istore_n 2, 1) := by decide +kernel
theorem dX1_findPossible_15 : decode cX1_findPossible 15 = .ok (.iload_n 2, 1) := by decide +kernel
theorem dX1_findPossible_16 : decode cX1_findPossible 16 = .ok (.bipush 9, 2) := by decide +kernel
theorem dX1_findPossible_18 : decode cX1_findPossible 18 = .ok (.if_icmp .gt 61, 3) := by decide +kernel
theorem dX1_findPossible_21 : decode cX1_findPossible 21 = .ok (.iconst 0, 1) := by decide +kernel
theorem dX1_findPossible_22 : decode cX1_findPossible 22 = .ok (.istore_n 3, 1) := by decide +kernel
theorem dX1_findPossible_23 : decode cX1_findPossible 23 = .ok (.iload_n 3, 1) := by decide +kernel
theorem dX1_findPossible_24 : decode cX1_findPossible 24 = .ok (.iconst 3, 1) := by decide +kernel
theorem dX1_findPossible_25 : decode cX1_findPossible 25 = .ok (.if_icmp .gt 48, 3) := by decide +kernel
theorem dX1_findPossible_28 : decode cX1_findPossible 28 = .ok (.aload_n 0, 1) := by decide +kernel
theorem dX1_findPossible_29 : decode cX1_findPossible 29 = .ok (.iload_n 2, 1) := by decide +kernel
theorem dX1_findPossible_30 : decode cX1_findPossible 30 = .ok (.iload_n 3, 1) := by decide +kernel
theorem dX1_findPossible_31 : decode cX1_findPossible 31 = .ok (.invokevirtual 47, 3) := by decide +kernel
theorem dX1_findPossible_34 : decode cX1_findPossible 34 = .ok (.ifCond .eq 33, 3) := by decide +kernel
theorem dX1_findPossible_37 : decode cX1_findPossible 37 = .ok (.aload_n 0, 1) := by decide +kernel
theorem dX1_findPossible_38 : decode cX1_findPossible 38 = .ok (.getfield 21, 3) := by decide +kernel
theorem dX1_findPossible_41 : decode cX1_findPossible 41 = .ok (.aload_n 0, 1) := by decide +kernel
theorem dX1_findPossible_42 : decode cX1_findPossible 42 = .ok (.getfield 44, 3) := by decide +kernel
theorem dX1_findPossible_45 : decode cX1_findPossible 45 = .ok (.iload_n 2, 1) := by decide +kernel
theorem dX1_findPossible_46 : decode cX1_findPossible 46 = .ok (.iastore, 1) := by decide +kernel
theorem dX1_findPossible_47 : decode cX1_findPossible 47 = .ok (.aload_n 0, 1) := by decide +kernel
theorem dX1_findPossible_48 : decode cX1_findPossible 48 = .ok (.getfield 24, 3) := by decide +kernel
theorem dX1_findPossible_51 : decode cX1_findPossible 51 = .ok (.aload_n 0, 1) := by decide +kernel
theorem dX1_findPossible_52 : decode cX1_findPossible 52 = .ok (.getfield 44, 3) := by decide +kernel
theorem dX1_findPossible_55 : decode cX1_findPossible 55 = .ok (.iload_n 3, 1) := by decide +kernel
theorem dX1_findPossible_56 : decode cX1_findPossible 56 = .ok (.iastore, 1) := by decide +kernel
theorem dX1_findPossible_57 : decode cX1_findPossible 57 = .ok (.aload_n 0, 1) := by decide +kernel
theorem dX1_findPossible_58 : decode cX1_findPossible 58 = .ok (.dup, 1) := by decide +kernel
theorem dX1_findPossible_59 : decode cX1_findPossible 59 = .ok (.getfield 44, 3) := by decide +kernel
theorem dX1_findPossible_62 : decode cX1_findPossible 62 = .ok (.iconst 1, 1) := by decide +kernel
theorem dX1_findPossible_63 : decode cX1_findPossible 63 = .ok (.iadd, 1) := by decide +kernel
theorem dX1_findPossible_64 : decode cX1_findPossible 64 = .ok (.putfield 44, 3) := by decide +kernel
theorem dX1_findPossible_67 : decode cX1_findPossible 67 = .ok (.iinc 3 1, 3) := by decide +kernel
theorem dX1_findPossible_70 : decode cX1_findPossible 70 = .ok (.goto (-47), 3) := by decide +kernel
theorem dX1_findPossible_73 : decode cX1_findPossible 73 = .ok (.iinc 2 1, 3) := by decide +kernel
theorem dX1_findPossible_76 : decode cX1_findPossible 76 = .ok (.goto (-61), 3) := by decide +kernel
theorem dX1_findPossible_79 : decode cX1_findPossible 79 = .ok (.return_, 1) := by decide +kernel
theorem dX1_explains_0 : decode cX1_explains 0 = .ok (.aload_n 0, 1) := by decide +kernel
theorem dX1_explains_1 : decode cX1_explains 1 = .ok (.getfield 30, 3) := by decide +kernel
theorem dX1_explains_4 : decode cX1_explains 4 = .ok (.iload_n 1, 1) := by decide +kernel
theorem dX1_explains_5 : decode cX1_explains 5 = .ok (.putfield 51, 3) := by decide +kernel
theorem dX1_explains_8 : decode cX1_explains 8 = .ok (.aload_n 0, 1) := by decide +kernel
theorem dX1_explains_9 : decode cX1_explains 9 = .ok (.getfield 30, 3) := by decide +kernel
theorem dX1_explains_12 : decode cX1_explains 12 = .ok (.iload_n 2, 1) := by decide +kernel
theorem dX1_explains_13 : decode cX1_explains 13 = .ok (.putfield 54, 3) := by decide +kernel
theorem dX1_explains_16 : decode cX1_explains 16 = .ok (.iconst 0, 1) := by decide +kernel
theorem dX1_explains_17 : decode cX1_explains 17 = .ok (.istore_n 3, 1) := by decide +kernel
theorem dX1_explains_18 : decode cX1_explains 18 = .ok (.iload_n 3, 1) := by decide +kernel
theorem dX1_explains_19 : decode cX1_explains 19 = .ok (.aload_n 0, 1) := by decide +kernel
theorem dX1_explains_20 : decode cX1_explains 20 = .ok (.getfield 34, 3) := by decide +kernel
theorem dX1_explains_23 : decode cX1_explains 23 = .ok (.if_icmp .ge 39, 3) := by decide +kernel
theorem dX1_explains_26 : decode cX1_explains 26 = .ok (.aload_n 0, 1) := by decide +kernel
theorem dX1_explains_27 : decode cX1_explains 27 = .ok (.getfield 30, 3) := by decide +kernel
theorem dX1_explains_30 : decode cX1_explains 30 = .ok (.aload_n 0, 1) := by decide +kernel
theorem dX1_explains_31 : decode cX1_explains 31 = .ok (.getfield 9, 3) := by decide +kernel
theorem dX1_explains_34 : decode cX1_explains 34 = .ok (.iload_n 3, 1) := by decide +kernel
theorem dX1_explains_35 : decode cX1_explains 35 = .ok (.iaload, 1) := by decide +kernel
theorem dX1_explains_36 : decode cX1_explains 36 = .ok (.aload_n 0, 1) := by decide +kernel
theorem dX1_explains_37 : decode cX1_explains 37 = .ok (.getfield 15, 3) := by decide +kernel
theorem dX1_explains_40 : decode cX1_explains 40 = .ok (.iload_n 3, 1) := by decide +kernel
theorem dX1_explains_41 : decode cX1_explains 41 = .ok (.iaload, 1) := by decide +kernel
theorem dX1_explains_42 : decode cX1_explains 42 = .ok (.invokevirtual 57, 3) := by decide +kernel
theorem dX1_explains_45 : decode cX1_explains 45 = .ok (.aload_n 0, 1) := by decide +kernel
theorem dX1_explains_46 : decode cX1_explains 46 = .ok (.getfield 18, 3) := by decide +kernel
theorem dX1_explains_49 : decode cX1_explains 49 = .ok (.iload_n 3, 1) := by decide +kernel
theorem dX1_explains_50 : decode cX1_explains 50 = .ok (.iaload, 1) := by decide +kernel
theorem dX1_explains_51 : decode cX1_explains 51 = .ok (.if_icmp .eq 5, 3) := by decide +kernel
theorem dX1_explains_54 : decode cX1_explains 54 = .ok (.iconst 0, 1) := by decide +kernel
theorem dX1_explains_55 : decode cX1_explains 55 = .ok (.ireturn, 1) := by decide +kernel
theorem dX1_explains_56 : decode cX1_explains 56 = .ok (.iinc 3 1, 3) := by decide +kernel
theorem dX1_explains_59 : decode cX1_explains 59 = .ok (.goto (-41), 3) := by decide +kernel
theorem dX1_explains_62 : decode cX1_explains 62 = .ok (.iconst 1, 1) := by decide +kernel
theorem dX1_explains_63 : decode cX1_explains 63 = .ok (.ireturn, 1) := by decide +kernel
theorem dX1_bestTry_0 : decode cX1_bestTry 0 = .ok (.aload_n 0, 1) := by decide +kernel
theorem dX1_bestTry_1 : decode cX1_bestTry 1 = .ok (.getfield 44, 3) := by decide +kernel
theorem dX1_bestTry_4 : decode cX1_bestTry 4 = .ok (.iconst 1, 1) := by decide +kernel
theorem dX1_bestTry_5 : decode cX1_bestTry 5 = .ok (.if_icmp .gt 6, 3) := by decide +kernel
theorem dX1_bestTry_8 : decode cX1_bestTry 8 = .ok (.bipush (-9), 2) := by decide +kernel
theorem dX1_bestTry_10 : decode cX1_bestTry 10 = .ok (.ireturn, 1) := by decide +kernel
theorem dX1_bestTry_11 : decode cX1_bestTry 11 = .ok (.bipush (-9), 2) := by decide +kernel
theorem dX1_bestTry_13 : decode cX1_bestTry 13 = .ok (.istore_n 2, 1) := by decide +kernel
theorem dX1_bestTry_14 : decode cX1_bestTry 14 = .ok (.aload_n 0, 1) := by decide +kernel
theorem dX1_bestTry_15 : decode cX1_bestTry 15 = .ok (.getfield 44, 3) := by decide +kernel
theorem dX1_bestTry_18 : decode cX1_bestTry 18 = .ok (.iconst 1, 1) := by decide +kernel
theorem dX1_bestTry_19 : decode cX1_bestTry 19 = .ok (.iadd, 1) := by decide +kernel
theorem dX1_bestTry_20 : decode cX1_bestTry 20 = .ok (.istore_n 3, 1) := by decide +kernel
theorem dX1_bestTry_21 : decode cX1_bestTry 21 = .ok (.iconst 1, 1) := by decide +kernel
theorem dX1_bestTry_22 : decode cX1_bestTry 22 = .ok (.istore 4, 2) := by decide +kernel
theorem dX1_bestTry_24 : decode cX1_bestTry 24 = .ok (.iload 4, 2) := by decide +kernel
theorem dX1_bestTry_26 : decode cX1_bestTry 26 = .ok (.bipush 60, 2) := by decide +kernel
theorem dX1_bestTry_28 : decode cX1_bestTry 28 = .ok (.if_icmp .gt 30, 3) := by decide +kernel
theorem dX1_bestTry_31 : decode cX1_bestTry 31 = .ok (.aload_n 0, 1) := by decide +kernel
theorem dX1_bestTry_32 : decode cX1_bestTry 32 = .ok (.iload_n 1, 1) := by decide +kernel
theorem dX1_bestTry_33 : decode cX1_bestTry 33 = .ok (.iload 4, 2) := by decide +kernel
theorem dX1_bestTry_35 : decode cX1_bestTry 35 = .ok (.invokevirtual 61, 3) := by decide +kernel
theorem dX1_bestTry_38 : decode cX1_bestTry 38 = .ok (.istore 5, 2) := by decide +kernel
theorem dX1_bestTry_40 : decode cX1_bestTry 40 = .ok (.iload 5, 2) := by decide +kernel
theorem dX1_bestTry_42 : decode cX1_bestTry 42 = .ok (.iload_n 3, 1) := by decide +kernel
theorem dX1_bestTry_43 : decode cX1_bestTry 43 = .ok (.if_icmp .ge 9, 3) := by decide +kernel
theorem dX1_bestTry_46 : decode cX1_bestTry 46 = .ok (.iload 5, 2) := by decide +kernel
theorem dX1_bestTry_48 : decode cX1_bestTry 48 = .ok (.istore_n 3, 1) := by decide +kernel
theorem dX1_bestTry_49 : decode cX1_bestTry 49 = .ok (.iload 4, 2) := by decide +kernel
theorem dX1_bestTry_51 : decode cX1_bestTry 51 = .ok (.istore_n 2, 1) := by decide +kernel
theorem dX1_bestTry_52 : decode cX1_bestTry 52 = .ok (.iinc 4 1, 3) := by decide +kernel
theorem dX1_bestTry_55 : decode cX1_bestTry 55 = .ok (.goto (-31), 3) := by decide +kernel
theorem dX1_bestTry_58 : decode cX1_bestTry 58 = .ok (.iload_n 2, 1) := by decide +kernel
theorem dX1_bestTry_59 : decode cX1_bestTry 59 = .ok (.ireturn, 1) := by decide +kernel
theorem dX1_mostAtOnePlace_0 : decode cX1_mostAtOnePlace 0 = .ok (.aload_n 0, 1) := by decide +kernel
theorem dX1_mostAtOnePlace_1 : decode cX1_mostAtOnePlace 1 = .ok (.getfield 27, 3) := by decide +kernel
theorem dX1_mostAtOnePlace_4 : decode cX1_mostAtOnePlace 4 = .ok (.iconst 0, 1) := by decide +kernel
theorem dX1_mostAtOnePlace_5 : decode cX1_mostAtOnePlace 5 = .ok (.invokestatic 64, 3) := by decide +kernel
theorem dX1_mostAtOnePlace_8 : decode cX1_mostAtOnePlace 8 = .ok (.iconst 0, 1) := by decide +kernel
theorem dX1_mostAtOnePlace_9 : decode cX1_mostAtOnePlace 9 = .ok (.istore_n 3, 1) := by decide +kernel
theorem dX1_mostAtOnePlace_10 : decode cX1_mostAtOnePlace 10 = .ok (.iconst 0, 1) := by decide +kernel
theorem dX1_mostAtOnePlace_11 : decode cX1_mostAtOnePlace 11 = .ok (.istore 4, 2) := by decide +kernel
theorem dX1_mostAtOnePlace_13 : decode cX1_mostAtOnePlace 13 = .ok (.iload 4, 2) := by decide +kernel
theorem dX1_mostAtOnePlace_15 : decode cX1_mostAtOnePlace 15 = .ok (.aload_n 0, 1) := by decide +kernel
theorem dX1_mostAtOnePlace_16 : decode cX1_mostAtOnePlace 16 = .ok (.getfield 44, 3) := by decide +kernel
theorem dX1_mostAtOnePlace_19 : decode cX1_mostAtOnePlace 19 = .ok (.if_icmp .ge 71, 3) := by decide +kernel
theorem dX1_mostAtOnePlace_22 : decode cX1_mostAtOnePlace 22 = .ok (.aload_n 0, 1) := by decide +kernel
theorem dX1_mostAtOnePlace_23 : decode cX1_mostAtOnePlace 23 = .ok (.getfield 30, 3) := by decide +kernel
theorem dX1_mostAtOnePlace_26 : decode cX1_mostAtOnePlace 26 = .ok (.aload_n 0, 1) := by decide +kernel
theorem dX1_mostAtOnePlace_27 : decode cX1_mostAtOnePlace 27 = .ok (.getfield 21, 3) := by decide +kernel
theorem dX1_mostAtOnePlace_30 : decode cX1_mostAtOnePlace 30 = .ok (.iload 4, 2) := by decide +kernel
theorem dX1_mostAtOnePlace_32 : decode cX1_mostAtOnePlace 32 = .ok (.iaload, 1) := by decide +kernel
theorem dX1_mostAtOnePlace_33 : decode cX1_mostAtOnePlace 33 = .ok (.putfield 51, 3) := by decide +kernel
theorem dX1_mostAtOnePlace_36 : decode cX1_mostAtOnePlace 36 = .ok (.aload_n 0, 1) := by decide +kernel
theorem dX1_mostAtOnePlace_37 : decode cX1_mostAtOnePlace 37 = .ok (.getfield 30, 3) := by decide +kernel
theorem dX1_mostAtOnePlace_40 : decode cX1_mostAtOnePlace 40 = .ok (.aload_n 0, 1) := by decide +kernel
theorem dX1_mostAtOnePlace_41 : decode cX1_mostAtOnePlace 41 = .ok (.getfield 24, 3) := by decide +kernel
theorem dX1_mostAtOnePlace_44 : decode cX1_mostAtOnePlace 44 = .ok (.iload 4, 2) := by decide +kernel
theorem dX1_mostAtOnePlace_46 : decode cX1_mostAtOnePlace 46 = .ok (.iaload, 1) := by decide +kernel
theorem dX1_mostAtOnePlace_47 : decode cX1_mostAtOnePlace 47 = .ok (.putfield 54, 3) := by decide +kernel
theorem dX1_mostAtOnePlace_50 : decode cX1_mostAtOnePlace 50 = .ok (.aload_n 0, 1) := by decide +kernel
theorem dX1_mostAtOnePlace_51 : decode cX1_mostAtOnePlace 51 = .ok (.getfield 30, 3) := by decide +kernel
theorem dX1_mostAtOnePlace_54 : decode cX1_mostAtOnePlace 54 = .ok (.iload_n 1, 1) := by decide +kernel
theorem dX1_mostAtOnePlace_55 : decode cX1_mostAtOnePlace 55 = .ok (.iload_n 2, 1) := by decide +kernel
theorem dX1_mostAtOnePlace_56 : decode cX1_mostAtOnePlace 56 = .ok (.invokevirtual 57, 3) := by decide +kernel
theorem dX1_mostAtOnePlace_59 : decode cX1_mostAtOnePlace 59 = .ok (.istore 5, 2) := by decide +kernel
theorem dX1_mostAtOnePlace_61 : decode cX1_mostAtOnePlace 61 = .ok (.aload_n 0, 1) := by decide +kernel
theorem dX1_mostAtOnePlace_62 : decode cX1_mostAtOnePlace 62 = .ok (.getfield 27, 3) := by decide +kernel
theorem dX1_mostAtOnePlace_65 : decode cX1_mostAtOnePlace 65 = .ok (.iload 5, 2) := by decide +kernel
theorem dX1_mostAtOnePlace_67 : decode cX1_mostAtOnePlace 67 = .ok (.dup2, 1) := by decide +kernel
theorem dX1_mostAtOnePlace_68 : decode cX1_mostAtOnePlace 68 = .ok (.iaload, 1) := by decide +kernel
theorem dX1_mostAtOnePlace_69 : decode cX1_mostAtOnePlace 69 = .ok (.iconst 1, 1) := by decide +kernel
theorem dX1_mostAtOnePlace_70 : decode cX1_mostAtOnePlace 70 = .ok (.iadd, 1) := by decide +kernel
theorem dX1_mostAtOnePlace_71 : decode cX1_mostAtOnePlace 71 = .ok (.iastore, 1) := by decide +kernel
theorem dX1_mostAtOnePlace_72 : decode cX1_mostAtOnePlace 72 = .ok (.iload_n 3, 1) := by decide +kernel
theorem dX1_mostAtOnePlace_73 : decode cX1_mostAtOnePlace 73 = .ok (.aload_n 0, 1) := by decide +kernel
theorem dX1_mostAtOnePlace_74 : decode cX1_mostAtOnePlace 74 = .ok (.getfield 27, 3) := by decide +kernel
theorem dX1_mostAtOnePlace_77 : decode cX1_mostAtOnePlace 77 = .ok (.iload 5, 2) := by decide +kernel
theorem dX1_mostAtOnePlace_79 : decode cX1_mostAtOnePlace 79 = .ok (.iaload, 1) := by decide +kernel
theorem dX1_mostAtOnePlace_80 : decode cX1_mostAtOnePlace 80 = .ok (.invokestatic 70, 3) := by decide +kernel
theorem dX1_mostAtOnePlace_83 : decode cX1_mostAtOnePlace 83 = .ok (.istore_n 3, 1) := by decide +kernel
theorem dX1_mostAtOnePlace_84 : decode cX1_mostAtOnePlace 84 = .ok (.iinc 4 1, 3) := by decide +kernel
theorem dX1_mostAtOnePlace_87 : decode cX1_mostAtOnePlace 87 = .ok (.goto (-74), 3) := by decide +kernel
theorem dX1_mostAtOnePlace_90 : decode cX1_mostAtOnePlace 90 = .ok (.iload_n 3, 1) := by decide +kernel
theorem dX1_mostAtOnePlace_91 : decode cX1_mostAtOnePlace 91 = .ok (.ireturn, 1) := by decide +kernel
theorem dX2_init_0 : decode cX2_init 0 = .ok (.aload_n 0, 1) := by decide +kernel
theorem dX2_init_1 : decode cX2_init 1 = .ok (.invokespecial 3, 3) := by decide +kernel
theorem dX2_init_4 : decode cX2_init 4 = .ok (.aload_n 0, 1) := by decide +kernel
theorem dX2_init_5 : decode cX2_init 5 = .ok (.bipush 10, 2) := by decide +kernel
theorem dX2_init_7 : decode cX2_init 7 = .ok (.anewarray 9, 3) := by decide +kernel
theorem dX2_init_10 : decode cX2_init 10 = .ok (.putfield 11, 3) := by decide +kernel
theorem dX2_init_13 : decode cX2_init 13 = .ok (.iconst 0, 1) := by decide +kernel
theorem dX2_init_14 : decode cX2_init 14 = .ok (.istore_n 1, 1) := by decide +kernel
theorem dX2_init_15 : decode cX2_init 15 = .ok (.iload_n 1, 1) := by decide +kernel
theorem dX2_init_16 : decode cX2_init 16 = .ok (.bipush 10, 2) := by decide +kernel
theorem dX2_init_18 : decode cX2_init 18 = .ok (.if_icmp .ge 22, 3) := by decide +kernel
theorem dX2_init_21 : decode cX2_init 21 = .ok (.aload_n 0, 1) := by decide +kernel
theorem dX2_init_22 : decode cX2_init 22 = .ok (.getfield 11, 3) := by decide +kernel
theorem dX2_init_25 : decode cX2_init 25 = .ok (.iload_n 1, 1) := by decide +kernel
theorem dX2_init_26 : decode cX2_init 26 = .ok (.new 9, 3) := by decide +kernel
theorem dX2_init_29 : decode cX2_init 29 = .ok (.dup, 1) := by decide +kernel
theorem dX2_init_30 : decode cX2_init 30 = .ok (.invokespecial 17, 3) := by decide +kernel
theorem dX2_init_33 : decode cX2_init 33 = .ok (.aastore, 1) := by decide +kernel
theorem dX2_init_34 : decode cX2_init 34 = .ok (.iinc 1 1, 3) := by decide +kernel
theorem dX2_init_37 : decode cX2_init 37 = .ok (.goto (-22), 3) := by decide +kernel
theorem dX2_init_40 : decode cX2_init 40 = .ok (.return_, 1) := by decide +kernel
theorem dX2_remember_0 : decode cX2_remember 0 = .ok (.aload_n 0, 1) := by decide +kernel
theorem dX2_remember_1 : decode cX2_remember 1 = .ok (.getfield 11, 3) := by decide +kernel
theorem dX2_remember_4 : decode cX2_remember 4 = .ok (.aload_n 0, 1) := by decide +kernel
theorem dX2_remember_5 : decode cX2_remember 5 = .ok (.getfield 18, 3) := by decide +kernel
theorem dX2_remember_8 : decode cX2_remember 8 = .ok (.aaload, 1) := by decide +kernel
theorem dX2_remember_9 : decode cX2_remember 9 = .ok (.aload_n 1, 1) := by decide +kernel
theorem dX2_remember_10 : decode cX2_remember 10 = .ok (.invokevirtual 22, 3) := by decide +kernel
theorem dX2_remember_13 : decode cX2_remember 13 = .ok (.aload_n 0, 1) := by decide +kernel
theorem dX2_remember_14 : decode cX2_remember 14 = .ok (.aload_n 0, 1) := by decide +kernel
theorem dX2_remember_15 : decode cX2_remember 15 = .ok (.getfield 18, 3) := by decide +kernel
theorem dX2_remember_18 : decode cX2_remember 18 = .ok (.iconst 1, 1) := by decide +kernel
theorem dX2_remember_19 : decode cX2_remember 19 = .ok (.iadd, 1) := by decide +kernel
theorem dX2_remember_20 : decode cX2_remember 20 = .ok (.bipush 10, 2) := by decide +kernel
theorem dX2_remember_22 : decode cX2_remember 22 = .ok (.irem, 1) := by decide +kernel
theorem dX2_remember_23 : decode cX2_remember 23 = .ok (.putfield 18, 3) := by decide +kernel
theorem dX2_remember_26 : decode cX2_remember 26 = .ok (.aload_n 0, 1) := by decide +kernel
theorem dX2_remember_27 : decode cX2_remember 27 = .ok (.bipush 10, 2) := by decide +kernel
theorem dX2_remember_29 : decode cX2_remember 29 = .ok (.aload_n 0, 1) := by decide +kernel
theorem dX2_remember_30 : decode cX2_remember 30 = .ok (.getfield 26, 3) := by decide +kernel
theorem dX2_remember_33 : decode cX2_remember 33 = .ok (.iconst 1, 1) := by decide +kernel
theorem dX2_remember_34 : decode cX2_remember 34 = .ok (.iadd, 1) := by decide +kernel
theorem dX2_remember_35 : decode cX2_remember 35 = .ok (.invokestatic 29, 3) := by decide +kernel
theorem dX2_remember_38 : decode cX2_remember 38 = .ok (.putfield 26, 3) := by decide +kernel
theorem dX2_remember_41 : decode cX2_remember 41 = .ok (.return_, 1) := by decide +kernel
theorem dX2_restore_0 : decode cX2_restore 0 = .ok (.aload_n 0, 1) := by decide +kernel
theorem dX2_restore_1 : decode cX2_restore 1 = .ok (.getfield 26, 3) := by decide +kernel
theorem dX2_restore_4 : decode cX2_restore 4 = .ok (.ifCond .ne 5, 3) := by decide +kernel
theorem dX2_restore_7 : decode cX2_restore 7 = .ok (.iconst 0, 1) := by decide +kernel
theorem dX2_restore_8 : decode cX2_restore 8 = .ok (.ireturn, 1) := by decide +kernel
theorem dX2_restore_9 : decode cX2_restore 9 = .ok (.aload_n 0, 1) := by decide +kernel
theorem dX2_restore_10 : decode cX2_restore 10 = .ok (.aload_n 0, 1) := by decide +kernel
theorem dX2_restore_11 : decode cX2_restore 11 = .ok (.getfield 18, 3) := by decide +kernel
theorem dX2_restore_14 : decode cX2_restore 14 = .ok (.bipush 10, 2) := by decide +kernel
theorem dX2_restore_16 : decode cX2_restore 16 = .ok (.iadd, 1) := by decide +kernel
theorem dX2_restore_17 : decode cX2_restore 17 = .ok (.iconst 1, 1) := by decide +kernel
theorem dX2_restore_18 : decode cX2_restore 18 = .ok (.isub, 1) := by decide +kernel
theorem dX2_restore_19 : decode cX2_restore 19 = .ok (.bipush 10, 2) := by decide +kernel
theorem dX2_restore_21 : decode cX2_restore 21 = .ok (.irem, 1) := by decide +kernel
theorem dX2_restore_22 : decode cX2_restore 22 = .ok (.putfield 18, 3) := by decide +kernel
theorem dX2_restore_25 : decode cX2_restore 25 = .ok (.aload_n 1, 1) := by decide +kernel
theorem dX2_restore_26 : decode cX2_restore 26 = .ok (.aload_n 0, 1) := by decide +kernel
theorem dX2_restore_27 : decode cX2_restore 27 = .ok (.getfield 11, 3) := by decide +kernel
theorem dX2_restore_30 : decode cX2_restore 30 = .ok (.aload_n 0, 1) := by decide +kernel
theorem dX2_restore_31 : decode cX2_restore 31 = .ok (.getfield 18, 3) := by decide +kernel
theorem dX2_restore_34 : decode cX2_restore 34 = .ok (.aaload, 1) := by decide +kernel
theorem dX2_restore_35 : decode cX2_restore 35 = .ok (.invokevirtual 22, 3) := by decide +kernel
theorem dX2_restore_38 : decode cX2_restore 38 = .ok (.aload_n 0, 1) := by decide +kernel
theorem dX2_restore_39 : decode cX2_restore 39 = .ok (.dup, 1) := by decide +kernel
theorem dX2_restore_40 : decode cX2_restore 40 = .ok (.getfield 26, 3) := by decide +kernel
theorem dX2_restore_43 : decode cX2_restore 43 = .ok (.iconst 1, 1) := by decide +kernel
theorem dX2_restore_44 : decode cX2_restore 44 = .ok (.isub, 1) := by decide +kernel
theorem dX2_restore_45 : decode cX2_restore 45 = .ok (.putfield 26, 3) := by decide +kernel
theorem dX2_restore_48 : decode cX2_restore 48 = .ok (.iconst 1, 1) := by decide +kernel
theorem dX2_restore_49 : decode cX2_restore 49 = .ok (.ireturn, 1) := by decide +kernel
theorem dX3_init_0 : decode cX3_init 0 = .ok (.aload_n 0, 1) := by decide +kernel
theorem dX3_init_1 : decode cX3_init 1 = .ok (.invokespecial 3, 3) := by decide +kernel
theorem dX3_init_4 : decode cX3_init 4 = .ok (.aload_n 0, 1) := by decide +kernel
theorem dX3_init_5 : decode cX3_init 5 = .ok (.sipush 900, 3) := by decide +kernel
theorem dX3_init_8 : decode cX3_init 8 = .ok (.newarray .int, 2) := by decide +kernel
theorem dX3_init_10 : decode cX3_init 10 = .ok (.putfield 11, 3) := by decide +kernel
theorem dX3_init_13 : decode cX3_init 13 = .ok (.aload_n 0, 1) := by decide +kernel
theorem dX3_init_14 : decode cX3_init 14 = .ok (.aload_n 1, 1) := by decide +kernel
theorem dX3_init_15 : decode cX3_init 15 = .ok (.putfield 15, 3) := by decide +kernel
theorem dX3_init_18 : decode cX3_init 18 = .ok (.return_, 1) := by decide +kernel
theorem dX3_from_0 : decode cX3_from 0 = .ok (.aload_n 0, 1) := by decide +kernel
theorem dX3_from_1 : decode cX3_from 1 = .ok (.getfield 15, 3) := by decide +kernel
theorem dX3_from_4 : decode cX3_from 4 = .ok (.aload_n 1, 1) := by decide +kernel
theorem dX3_from_5 : decode cX3_from 5 = .ok (.invokevirtual 19, 3) := by decide +kernel
theorem dX3_from_8 : decode cX3_from 8 = .ok (.aload_n 0, 1) := by decide +kernel
theorem dX3_from_9 : decode cX3_from 9 = .ok (.getfield 11, 3) := by decide +kernel
theorem dX3_from_12 : decode cX3_from 12 = .ok (.iconst (-1), 1) := by decide +kernel
theorem dX3_from_13 : decode cX3_from 13 = .ok (.invokestatic 25, 3) := by decide +kernel
theorem dX3_from_16 : decode cX3_from 16 = .ok (.aload_n 0, 1) := by decide +kernel
theorem dX3_from_17 : decode cX3_from 17 = .ok (.aload_n 1, 1) := by decide +kernel
theorem dX3_from_18 : decode cX3_from 18 = .ok (.getfield 31, 3) := by decide +kernel
theorem dX3_from_21 : decode cX3_from 21 = .ok (.aload_n 1, 1) := by decide +kernel
theorem dX3_from_22 : decode cX3_from 22 = .ok (.getfield 37, 3) := by decide +kernel
theorem dX3_from_25 : decode cX3_from 25 = .ok (.invokevirtual 40, 3) := by decide +kernel
theorem dX3_from_28 : decode cX3_from 28 = .ok (.ireturn, 1) := by decide +kernel
theorem dX3_fewest_0 : decode cX3_fewest 0 = .ok (.aload_n 0, 1) := by decide +kernel
theorem dX3_fewest_1 : decode cX3_fewest 1 = .ok (.getfield 15, 3) := by decide +kernel
theorem dX3_fewest_4 : decode cX3_fewest 4 = .ok (.getfield 44, 3) := by decide +kernel
theorem dX3_fewest_7 : decode cX3_fewest 7 = .ok (.iload_n 1, 1) := by decide +kernel
theorem dX3_fewest_8 : decode cX3_fewest 8 = .ok (.invokevirtual 48, 3) := by decide +kernel
theorem dX3_fewest_11 : decode cX3_fewest 11 = .ok (.ifCond .ne 5, 3) := by decide +kernel
theorem dX3_fewest_14 : decode cX3_fewest 14 = .ok (.iconst 0, 1) := by decide +kernel
theorem dX3_fewest_15 : decode cX3_fewest 15 = .ok (.ireturn, 1) := by decide +kernel
theorem dX3_fewest_16 : decode cX3_fewest 16 = .ok (.iload_n 1, 1) := by decide +kernel
theorem dX3_fewest_17 : decode cX3_fewest 17 = .ok (.bipush 100, 2) := by decide +kernel
theorem dX3_fewest_19 : decode cX3_fewest 19 = .ok (.imul, 1) := by decide +kernel
theorem dX3_fewest_20 : decode cX3_fewest 20 = .ok (.iload_n 2, 1) := by decide +kernel
theorem dX3_fewest_21 : decode cX3_fewest 21 = .ok (.iadd, 1) := by decide +kernel
theorem dX3_fewest_22 : decode cX3_fewest 22 = .ok (.istore_n 3, 1) := by decide +kernel
theorem dX3_fewest_23 : decode cX3_fewest 23 = .ok (.aload_n 0, 1) := by decide +kernel
theorem dX3_fewest_24 : decode cX3_fewest 24 = .ok (.getfield 11, 3) := by decide +kernel
theorem dX3_fewest_27 : decode cX3_fewest 27 = .ok (.iload_n 3, 1) := by decide +kernel
theorem dX3_fewest_28 : decode cX3_fewest 28 = .ok (.iaload, 1) := by decide +kernel
theorem dX3_fewest_29 : decode cX3_fewest 29 = .ok (.iconst (-1), 1) := by decide +kernel
theorem dX3_fewest_30 : decode cX3_fewest 30 = .ok (.if_icmp .ne 15, 3) := by decide +kernel
theorem dX3_fewest_33 : decode cX3_fewest 33 = .ok (.aload_n 0, 1) := by decide +kernel
theorem dX3_fewest_34 : decode cX3_fewest 34 = .ok (.getfield 11, 3) := by decide +kernel
theorem dX3_fewest_37 : decode cX3_fewest 37 = .ok (.iload_n 3, 1) := by decide +kernel
theorem dX3_fewest_38 : decode cX3_fewest 38 = .ok (.aload_n 0, 1) := by decide +kernel
theorem dX3_fewest_39 : decode cX3_fewest 39 = .ok (.iload_n 1, 1) := by decide +kernel
theorem dX3_fewest_40 : decode cX3_fewest 40 = .ok (.iload_n 2, 1) := by decide +kernel
theorem dX3_fewest_41 : decode cX3_fewest 41 = .ok (.invokevirtual 54, 3) := by decide +kernel
theorem dX3_fewest_44 : decode cX3_fewest 44 = .ok (.iastore, 1) := by decide +kernel
theorem dX3_fewest_45 : decode cX3_fewest 45 = .ok (.aload_n 0, 1) := by decide +kernel
theorem dX3_fewest_46 : decode cX3_fewest 46 = .ok (.getfield 11, 3) := by decide +kernel
theorem dX3_fewest_49 : decode cX3_fewest 49 = .ok (.iload_n 3, 1) := by decide +kernel
theorem dX3_fewest_50 : decode cX3_fewest 50 = .ok (.iaload, 1) := by decide +kernel
theorem dX3_fewest_51 : decode cX3_fewest 51 = .ok (.ireturn, 1) := by decide +kernel
theorem dX3_search_0 : decode cX3_search 0 = .ok (.sipush 1000, 3) := by decide +kernel
theorem dX3_search_3 : decode cX3_search 3 = .ok (.istore_n 3, 1) := by decide +kernel
theorem dX3_search_4 : decode cX3_search 4 = .ok (.iconst 0, 1) := by decide +kernel
theorem dX3_search_5 : decode cX3_search 5 = .ok (.istore 4, 2) := by decide +kernel
theorem dX3_search_7 : decode cX3_search 7 = .ok (.iconst 0, 1) := by decide +kernel
theorem dX3_search_8 : decode cX3_search 8 = .ok (.istore 5, 2) := by decide +kernel
theorem dX3_search_10 : decode cX3_search 10 = .ok (.iload 5, 2) := by decide +kernel
theorem dX3_search_12 : decode cX3_search 12 = .ok (.bipush 9, 2) := by decide +kernel
theorem dX3_search_14 : decode cX3_search 14 = .ok (.if_icmp .gt 92, 3) := by decide +kernel
theorem dX3_search_17 : decode cX3_search 17 = .ok (.iload 5, 2) := by decide +kernel
theorem dX3_search_19 : decode cX3_search 19 = .ok (.iload_n 3, 1) := by decide +kernel
theorem dX3_search_20 : decode cX3_search 20 = .ok (.if_icmp .ge 86, 3) := by decide +kernel
theorem dX3_search_23 : decode cX3_search 23 = .ok (.iload_n 2, 1) := by decide +kernel
theorem dX3_search_24 : decode cX3_search 24 = .ok (.iload 5, 2) := by decide +kernel
theorem dX3_search_26 : decode cX3_search 26 = .ok (.iadd, 1) := by decide +kernel
theorem dX3_search_27 : decode cX3_search 27 = .ok (.invokestatic 57, 3) := by decide +kernel
theorem dX3_search_30 : decode cX3_search 30 = .ok (.istore 6, 2) := by decide +kernel
theorem dX3_search_32 : decode cX3_search 32 = .ok (.iload 6, 2) := by decide +kernel
theorem dX3_search_34 : decode cX3_search 34 = .ok (.aload_n 0, 1) := by decide +kernel
theorem dX3_search_35 : decode cX3_search 35 = .ok (.getfield 15, 3) := by decide +kernel
theorem dX3_search_38 : decode cX3_search 38 = .ok (.getfield 61, 3) := by decide +kernel
theorem dX3_search_41 : decode cX3_search 41 = .ok (.if_icmp .lt 59, 3) := by decide +kernel
theorem dX3_search_44 : decode cX3_search 44 = .ok (.aload_n 0, 1) := by decide +kernel
theorem dX3_search_45 : decode cX3_search 45 = .ok (.getfield 15, 3) := by decide +kernel
theorem dX3_search_48 : decode cX3_search 48 = .ok (.iload_n 1, 1) := by decide +kernel
theorem dX3_search_49 : decode cX3_search 49 = .ok (.iload 6, 2) := by decide +kernel
theorem dX3_search_51 : decode cX3_search 51 = .ok (.invokevirtual 64, 3) := by decide +kernel
theorem dX3_search_54 : decode cX3_search 54 = .ok (.aload_n 0, 1) := by decide +kernel
theorem dX3_search_55 : decode cX3_search 55 = .ok (.getfield 15, 3) := by decide +kernel
theorem dX3_search_58 : decode cX3_search 58 = .ok (.invokevirtual 68, 3) := by decide +kernel
theorem dX3_search_61 : decode cX3_search 61 = .ok (.iload 5, 2) := by decide +kernel
theorem dX3_search_63 : decode cX3_search 63 = .ok (.aload_n 0, 1) := by decide +kernel
theorem dX3_search_64 : decode cX3_search 64 = .ok (.aload_n 0, 1) := by decide +kernel
theorem dX3_search_65 : decode cX3_search 65 = .ok (.getfield 15, 3) := by decide +kernel
theorem dX3_search_68 : decode cX3_search 68 = .ok (.getfield 71, 3) := by decide +kernel
theorem dX3_search_71 : decode cX3_search 71 = .ok (.aload_n 0, 1) := by decide +kernel
theorem dX3_search_72 : decode cX3_search 72 = .ok (.getfield 15, 3) := by decide +kernel
theorem dX3_search_75 : decode cX3_search 75 = .ok (.getfield 72, 3) := by decide +kernel
theorem dX3_search_78 : decode cX3_search 78 = .ok (.invokevirtual 40, 3) := by decide +kernel
theorem dX3_search_81 : decode cX3_search 81 = .ok (.bipush 10, 2) := by decide +kernel
theorem dX3_search_83 : decode cX3_search 83 = .ok (.idiv, 1) := by decide +kernel
theorem dX3_search_84 : decode cX3_search 84 = .ok (.iadd, 1) := by decide +kernel
theorem dX3_search_85 : decode cX3_search 85 = .ok (.istore 7, 2) := by decide +kernel
theorem dX3_search_87 : decode cX3_search 87 = .ok (.iload 7, 2) := by decide +kernel
theorem dX3_search_89 : decode cX3_search 89 = .ok (.iload_n 3, 1) := by decide +kernel
theorem dX3_search_90 : decode cX3_search 90 = .ok (.if_icmp .ge 10, 3) := by decide +kernel
theorem dX3_search_93 : decode cX3_search 93 = .ok (.iload 7, 2) := by decide +kernel
theorem dX3_search_95 : decode cX3_search 95 = .ok (.istore_n 3, 1) := by decide +kernel
theorem dX3_search_96 : decode cX3_search 96 = .ok (.iload 5, 2) := by decide +kernel
theorem dX3_search_98 : decode cX3_search 98 = .ok (.istore 4, 2) := by decide +kernel
theorem dX3_search_100 : decode cX3_search 100 = .ok (.iinc 5 1, 3) := by decide +kernel
theorem dX3_search_103 : decode cX3_search 103 = .ok (.goto (-93), 3) := by decide +kernel
theorem dX3_search_106 : decode cX3_search 106 = .ok (.iload_n 3, 1) := by decide +kernel
theorem dX3_search_107 : decode cX3_search 107 = .ok (.iload 4, 2) := by decide +kernel
theorem dX3_search_109 : decode cX3_search 109 = .ok (.invokestatic 73, 3) := by decide +kernel
theorem dX3_search_112 : decode cX3_search 112 = .ok (.ireturn, 1) := by decide +kernel
theorem dX4_init_0 : decode cX4_init 0 = .ok (.aload_n 0, 1) := by decide +kernel
theorem dX4_init_1 : decode cX4_init 1 = .ok (.invokespecial 3, 3) := by decide +kernel
theorem dX4_init_4 : decode cX4_init 4 = .ok (.aload_n 0, 1) := by decide +kernel
theorem dX4_init_5 : decode cX4_init 5 = .ok (.bipush 9, 2) := by decide +kernel
theorem dX4_init_7 : decode cX4_init 7 = .ok (.newarray .int, 2) := by decide +kernel
theorem dX4_init_9 : decode cX4_init 9 = .ok (.putfield 9, 3) := by decide +kernel
theorem dX4_init_12 : decode cX4_init 12 = .ok (.return_, 1) := by decide +kernel
theorem dX4_begin_0 : decode cX4_begin 0 = .ok (.aload_n 1, 1) := by decide +kernel
theorem dX4_begin_1 : decode cX4_begin 1 = .ok (.getfield 15, 3) := by decide +kernel
theorem dX4_begin_4 : decode cX4_begin 4 = .ok (.iconst 0, 1) := by decide +kernel
theorem dX4_begin_5 : decode cX4_begin 5 = .ok (.aload_n 0, 1) := by decide +kernel
theorem dX4_begin_6 : decode cX4_begin 6 = .ok (.getfield 9, 3) := by decide +kernel
theorem dX4_begin_9 : decode cX4_begin 9 = .ok (.iconst 0, 1) := by decide +kernel
theorem dX4_begin_10 : decode cX4_begin 10 = .ok (.bipush 9, 2) := by decide +kernel
theorem dX4_begin_12 : decode cX4_begin 12 = .ok (.invokestatic 18, 3) := by decide +kernel
theorem dX4_begin_15 : decode cX4_begin 15 = .ok (.aload_n 0, 1) := by decide +kernel
theorem dX4_begin_16 : decode cX4_begin 16 = .ok (.iconst 0, 1) := by decide +kernel
theorem dX4_begin_17 : decode cX4_begin 17 = .ok (.putfield 24, 3) := by decide +kernel
theorem dX4_begin_20 : decode cX4_begin 20 = .ok (.aload_n 0, 1) := by decide +kernel
theorem dX4_begin_21 : decode cX4_begin 21 = .ok (.iconst 0, 1) := by decide +kernel
theorem dX4_begin_22 : decode cX4_begin 22 = .ok (.putfield 28, 3) := by decide +kernel
theorem dX4_begin_25 : decode cX4_begin 25 = .ok (.aload_n 0, 1) := by decide +kernel
theorem dX4_begin_26 : decode cX4_begin 26 = .ok (.iconst 0, 1) := by decide +kernel
theorem dX4_begin_27 : decode cX4_begin 27 = .ok (.putfield 31, 3) := by decide +kernel
theorem dX4_begin_30 : decode cX4_begin 30 = .ok (.return_, 1) := by decide +kernel
theorem dX4_copy_0 : decode cX4_copy 0 = .ok (.aload_n 1, 1) := by decide +kernel
theorem dX4_copy_1 : decode cX4_copy 1 = .ok (.getfield 9, 3) := by decide +kernel
theorem dX4_copy_4 : decode cX4_copy 4 = .ok (.iconst 0, 1) := by decide +kernel
theorem dX4_copy_5 : decode cX4_copy 5 = .ok (.aload_n 0, 1) := by decide +kernel
theorem dX4_copy_6 : decode cX4_copy 6 = .ok (.getfield 9, 3) := by decide +kernel
theorem dX4_copy_9 : decode cX4_copy 9 = .ok (.iconst 0, 1) := by decide +kernel
theorem dX4_copy_10 : decode cX4_copy 10 = .ok (.bipush 9, 2) := by decide +kernel
theorem dX4_copy_12 : decode cX4_copy 12 = .ok (.invokestatic 18, 3) := by decide +kernel
theorem dX4_copy_15 : decode cX4_copy 15 = .ok (.aload_n 0, 1) := by decide +kernel
theorem dX4_copy_16 : decode cX4_copy 16 = .ok (.aload_n 1, 1) := by decide +kernel
theorem dX4_copy_17 : decode cX4_copy 17 = .ok (.getfield 24, 3) := by decide +kernel
theorem dX4_copy_20 : decode cX4_copy 20 = .ok (.putfield 24, 3) := by decide +kernel
theorem dX4_copy_23 : decode cX4_copy 23 = .ok (.aload_n 0, 1) := by decide +kernel
theorem dX4_copy_24 : decode cX4_copy 24 = .ok (.aload_n 1, 1) := by decide +kernel
theorem dX4_copy_25 : decode cX4_copy 25 = .ok (.getfield 28, 3) := by decide +kernel
theorem dX4_copy_28 : decode cX4_copy 28 = .ok (.putfield 28, 3) := by decide +kernel
theorem dX4_copy_31 : decode cX4_copy 31 = .ok (.aload_n 0, 1) := by decide +kernel
theorem dX4_copy_32 : decode cX4_copy 32 = .ok (.aload_n 1, 1) := by decide +kernel
theorem dX4_copy_33 : decode cX4_copy 33 = .ok (.getfield 31, 3) := by decide +kernel
theorem dX4_copy_36 : decode cX4_copy 36 = .ok (.putfield 31, 3) := by decide +kernel
theorem dX4_copy_39 : decode cX4_copy 39 = .ok (.return_, 1) := by decide +kernel
theorem dX5_init_0 : decode cX5_init 0 = .ok (.aload_n 0, 1) := by decide +kernel
theorem dX5_init_1 : decode cX5_init 1 = .ok (.invokespecial 3, 3) := by decide +kernel
theorem dX5_init_4 : decode cX5_init 4 = .ok (.aload_n 0, 1) := by decide +kernel
theorem dX5_init_5 : decode cX5_init 5 = .ok (.bipush 9, 2) := by decide +kernel
theorem dX5_init_7 : decode cX5_init 7 = .ok (.newarray .int, 2) := by decide +kernel
theorem dX5_init_9 : decode cX5_init 9 = .ok (.putfield 9, 3) := by decide +kernel
theorem dX5_init_12 : decode cX5_init 12 = .ok (.aload_n 0, 1) := by decide +kernel
theorem dX5_init_13 : decode cX5_init 13 = .ok (.bipush 9, 2) := by decide +kernel
theorem dX5_init_15 : decode cX5_init 15 = .ok (.newarray .int, 2) := by decide +kernel
theorem dX5_init_17 : decode cX5_init 17 = .ok (.putfield 15, 3) := by decide +kernel
theorem dX5_init_20 : decode cX5_init 20 = .ok (.aload_n 0, 1) := by decide +kernel
theorem dX5_init_21 : decode cX5_init 21 = .ok (.bipush 9, 2) := by decide +kernel
theorem dX5_init_23 : decode cX5_init 23 = .ok (.newarray .int, 2) := by decide +kernel
theorem dX5_init_25 : decode cX5_init 25 = .ok (.putfield 18, 3) := by decide +kernel
theorem dX5_init_28 : decode cX5_init 28 = .ok (.aload_n 0, 1) := by decide +kernel
theorem dX5_init_29 : decode cX5_init 29 = .ok (.invokevirtual 21, 3) := by decide +kernel
theorem dX5_init_32 : decode cX5_init 32 = .ok (.return_, 1) := by decide +kernel
theorem dX5_empty_0 : decode cX5_empty 0 = .ok (.aload_n 0, 1) := by decide +kernel
theorem dX5_empty_1 : decode cX5_empty 1 = .ok (.iconst 0, 1) := by decide +kernel
theorem dX5_empty_2 : decode cX5_empty 2 = .ok (.putfield 24, 3) := by decide +kernel
theorem dX5_empty_5 : decode cX5_empty 5 = .ok (.aload_n 0, 1) := by decide +kernel
theorem dX5_empty_6 : decode cX5_empty 6 = .ok (.iconst 4, 1) := by decide +kernel
theorem dX5_empty_7 : decode cX5_empty 7 = .ok (.putfield 28, 3) := by decide +kernel
theorem dX5_empty_10 : decode cX5_empty 10 = .ok (.aload_n 0, 1) := by decide +kernel
theorem dX5_empty_11 : decode cX5_empty 11 = .ok (.iconst 3, 1) := by decide +kernel
theorem dX5_empty_12 : decode cX5_empty 12 = .ok (.putfield 31, 3) := by decide +kernel
theorem dX5_empty_15 : decode cX5_empty 15 = .ok (.aload_n 0, 1) := by decide +kernel
theorem dX5_empty_16 : decode cX5_empty 16 = .ok (.iconst 1, 1) := by decide +kernel
theorem dX5_empty_17 : decode cX5_empty 17 = .ok (.putfield 34, 3) := by decide +kernel
theorem dX5_empty_20 : decode cX5_empty 20 = .ok (.return_, 1) := by decide +kernel
theorem dX5_copy_0 : decode cX5_copy 0 = .ok (.aload_n 1, 1) := by decide +kernel
theorem dX5_copy_1 : decode cX5_copy 1 = .ok (.getfield 9, 3) := by decide +kernel
theorem dX5_copy_4 : decode cX5_copy 4 = .ok (.iconst 0, 1) := by decide +kernel
theorem dX5_copy_5 : decode cX5_copy 5 = .ok (.aload_n 0, 1) := by decide +kernel
theorem dX5_copy_6 : decode cX5_copy 6 = .ok (.getfield 9, 3) := by decide +kernel
theorem dX5_copy_9 : decode cX5_copy 9 = .ok (.iconst 0, 1) := by decide +kernel
theorem dX5_copy_10 : decode cX5_copy 10 = .ok (.bipush 9, 2) := by decide +kernel
theorem dX5_copy_12 : decode cX5_copy 12 = .ok (.invokestatic 37, 3) := by decide +kernel
theorem dX5_copy_15 : decode cX5_copy 15 = .ok (.aload_n 1, 1) := by decide +kernel
theorem dX5_copy_16 : decode cX5_copy 16 = .ok (.getfield 15, 3) := by decide +kernel
theorem dX5_copy_19 : decode cX5_copy 19 = .ok (.iconst 0, 1) := by decide +kernel
theorem dX5_copy_20 : decode cX5_copy 20 = .ok (.aload_n 0, 1) := by decide +kernel
theorem dX5_copy_21 : decode cX5_copy 21 = .ok (.getfield 15, 3) := by decide +kernel
theorem dX5_copy_24 : decode cX5_copy 24 = .ok (.iconst 0, 1) := by decide +kernel
theorem dX5_copy_25 : decode cX5_copy 25 = .ok (.bipush 9, 2) := by decide +kernel
theorem dX5_copy_27 : decode cX5_copy 27 = .ok (.invokestatic 37, 3) := by decide +kernel
theorem dX5_copy_30 : decode cX5_copy 30 = .ok (.aload_n 1, 1) := by decide +kernel
theorem dX5_copy_31 : decode cX5_copy 31 = .ok (.getfield 18, 3) := by decide +kernel
theorem dX5_copy_34 : decode cX5_copy 34 = .ok (.iconst 0, 1) := by decide +kernel
theorem dX5_copy_35 : decode cX5_copy 35 = .ok (.aload_n 0, 1) := by decide +kernel
theorem dX5_copy_36 : decode cX5_copy 36 = .ok (.getfield 18, 3) := by decide +kernel
theorem dX5_copy_39 : decode cX5_copy 39 = .ok (.iconst 0, 1) := by decide +kernel
theorem dX5_copy_40 : decode cX5_copy 40 = .ok (.bipush 9, 2) := by decide +kernel
theorem dX5_copy_42 : decode cX5_copy 42 = .ok (.invokestatic 37, 3) := by decide +kernel
theorem dX5_copy_45 : decode cX5_copy 45 = .ok (.aload_n 0, 1) := by decide +kernel
theorem dX5_copy_46 : decode cX5_copy 46 = .ok (.aload_n 1, 1) := by decide +kernel
theorem dX5_copy_47 : decode cX5_copy 47 = .ok (.getfield 24, 3) := by decide +kernel
theorem dX5_copy_50 : decode cX5_copy 50 = .ok (.putfield 24, 3) := by decide +kernel
theorem dX5_copy_53 : decode cX5_copy 53 = .ok (.aload_n 0, 1) := by decide +kernel
theorem dX5_copy_54 : decode cX5_copy 54 = .ok (.aload_n 1, 1) := by decide +kernel
theorem dX5_copy_55 : decode cX5_copy 55 = .ok (.getfield 28, 3) := by decide +kernel
theorem dX5_copy_58 : decode cX5_copy 58 = .ok (.putfield 28, 3) := by decide +kernel
theorem dX5_copy_61 : decode cX5_copy 61 = .ok (.aload_n 0, 1) := by decide +kernel
theorem dX5_copy_62 : decode cX5_copy 62 = .ok (.aload_n 1, 1) := by decide +kernel
theorem dX5_copy_63 : decode cX5_copy 63 = .ok (.getfield 31, 3) := by decide +kernel
theorem dX5_copy_66 : decode cX5_copy 66 = .ok (.putfield 31, 3) := by decide +kernel
theorem dX5_copy_69 : decode cX5_copy 69 = .ok (.aload_n 0, 1) := by decide +kernel
theorem dX5_copy_70 : decode cX5_copy 70 = .ok (.aload_n 1, 1) := by decide +kernel
theorem dX5_copy_71 : decode cX5_copy 71 = .ok (.getfield 34, 3) := by decide +kernel
theorem dX5_copy_74 : decode cX5_copy 74 = .ok (.putfield 34, 3) := by decide +kernel
theorem dX5_copy_77 : decode cX5_copy 77 = .ok (.return_, 1) := by decide +kernel
theorem dX5_addStep_0 : decode cX5_addStep 0 = .ok (.aload_n 0, 1) := by decide +kernel
theorem dX5_addStep_1 : decode cX5_addStep 1 = .ok (.getfield 24, 3) := by decide +kernel
theorem dX5_addStep_4 : decode cX5_addStep 4 = .ok (.bipush 9, 2) := by decide +kernel
theorem dX5_addStep_6 : decode cX5_addStep 6 = .ok (.if_icmp .ge 43, 3) := by decide +kernel
theorem dX5_addStep_9 : decode cX5_addStep 9 = .ok (.aload_n 0, 1) := by decide +kernel
theorem dX5_addStep_10 : decode cX5_addStep 10 = .ok (.getfield 9, 3) := by decide +kernel
theorem dX5_addStep_13 : decode cX5_addStep 13 = .ok (.aload_n 0, 1) := by decide +kernel
theorem dX5_addStep_14 : decode cX5_addStep 14 = .ok (.getfield 24, 3) := by decide +kernel
theorem dX5_addStep_17 : decode cX5_addStep 17 = .ok (.iload_n 1, 1) := by decide +kernel
theorem dX5_addStep_18 : decode cX5_addStep 18 = .ok (.iastore, 1) := by decide +kernel
theorem dX5_addStep_19 : decode cX5_addStep 19 = .ok (.aload_n 0, 1) := by decide +kernel
theorem dX5_addStep_20 : decode cX5_addStep 20 = .ok (.getfield 15, 3) := by decide +kernel
theorem dX5_addStep_23 : decode cX5_addStep 23 = .ok (.aload_n 0, 1) := by decide +kernel
theorem dX5_addStep_24 : decode cX5_addStep 24 = .ok (.getfield 24, 3) := by decide +kernel
theorem dX5_addStep_27 : decode cX5_addStep 27 = .ok (.iload_n 2, 1) := by decide +kernel
theorem dX5_addStep_28 : decode cX5_addStep 28 = .ok (.iastore, 1) := by decide +kernel
theorem dX5_addStep_29 : decode cX5_addStep 29 = .ok (.aload_n 0, 1) := by decide +kernel
theorem dX5_addStep_30 : decode cX5_addStep 30 = .ok (.getfield 18, 3) := by decide +kernel
theorem dX5_addStep_33 : decode cX5_addStep 33 = .ok (.aload_n 0, 1) := by decide +kernel
theorem dX5_addStep_34 : decode cX5_addStep 34 = .ok (.getfield 24, 3) := by decide +kernel
theorem dX5_addStep_37 : decode cX5_addStep 37 = .ok (.iload_n 3, 1) := by decide +kernel
theorem dX5_addStep_38 : decode cX5_addStep 38 = .ok (.iastore, 1) := by decide +kernel
theorem dX5_addStep_39 : decode cX5_addStep 39 = .ok (.aload_n 0, 1) := by decide +kernel
theorem dX5_addStep_40 : decode cX5_addStep 40 = .ok (.dup, 1) := by decide +kernel
theorem dX5_addStep_41 : decode cX5_addStep 41 = .ok (.getfield 24, 3) := by decide +kernel
theorem dX5_addStep_44 : decode cX5_addStep 44 = .ok (.iconst 1, 1) := by decide +kernel
theorem dX5_addStep_45 : decode cX5_addStep 45 = .ok (.iadd, 1) := by decide +kernel
theorem dX5_addStep_46 : decode cX5_addStep 46 = .ok (.putfield 24, 3) := by decide +kernel
theorem dX5_addStep_49 : decode cX5_addStep 49 = .ok (.return_, 1) := by decide +kernel
theorem dX5_has_0 : decode cX5_has 0 = .ok (.iload_n 1, 1) := by decide +kernel
theorem dX5_has_1 : decode cX5_has 1 = .ok (.iconst 0, 1) := by decide +kernel
theorem dX5_has_2 : decode cX5_has 2 = .ok (.aload_n 0, 1) := by decide +kernel
theorem dX5_has_3 : decode cX5_has 3 = .ok (.getfield 24, 3) := by decide +kernel
theorem dX5_has_6 : decode cX5_has 6 = .ok (.iconst 1, 1) := by decide +kernel
theorem dX5_has_7 : decode cX5_has 7 = .ok (.isub, 1) := by decide +kernel
theorem dX5_has_8 : decode cX5_has 8 = .ok (.invokestatic 43, 3) := by decide +kernel
theorem dX5_has_11 : decode cX5_has 11 = .ok (.ireturn, 1) := by decide +kernel
theorem dX5_hasPlace_0 : decode cX5_hasPlace 0 = .ok (.iload_n 1, 1) := by decide +kernel
theorem dX5_hasPlace_1 : decode cX5_hasPlace 1 = .ok (.iconst 0, 1) := by decide +kernel
theorem dX5_hasPlace_2 : decode cX5_hasPlace 2 = .ok (.aload_n 0, 1) := by decide +kernel
theorem dX5_hasPlace_3 : decode cX5_hasPlace 3 = .ok (.getfield 24, 3) := by decide +kernel
theorem dX5_hasPlace_6 : decode cX5_hasPlace 6 = .ok (.invokestatic 43, 3) := by decide +kernel
theorem dX5_hasPlace_9 : decode cX5_hasPlace 9 = .ok (.ireturn, 1) := by decide +kernel
theorem dX6_init_0 : decode cX6_init 0 = .ok (.aload_n 0, 1) := by decide +kernel
theorem dX6_init_1 : decode cX6_init 1 = .ok (.invokespecial 3, 3) := by decide +kernel
theorem dX6_init_4 : decode cX6_init 4 = .ok (.aload_n 0, 1) := by decide +kernel
theorem dX6_init_5 : decode cX6_init 5 = .ok (.bipush 100, 2) := by decide +kernel
theorem dX6_init_7 : decode cX6_init 7 = .ok (.newarray .char, 2) := by decide +kernel
theorem dX6_init_9 : decode cX6_init 9 = .ok (.putfield 9, 3) := by decide +kernel
theorem dX6_init_12 : decode cX6_init 12 = .ok (.aload_n 0, 1) := by decide +kernel
theorem dX6_init_13 : decode cX6_init 13 = .ok (.new 15, 3) := by decide +kernel
theorem dX6_init_16 : decode cX6_init 16 = .ok (.dup, 1) := by decide +kernel
theorem dX6_init_17 : decode cX6_init 17 = .ok (.invokespecial 17, 3) := by decide +kernel
theorem dX6_init_20 : decode cX6_init 20 = .ok (.putfield 18, 3) := by decide +kernel
theorem dX6_init_23 : decode cX6_init 23 = .ok (.return_, 1) := by decide +kernel
theorem dX6_take_0 : decode cX6_take 0 = .ok (.aload_n 0, 1) := by decide +kernel
theorem dX6_take_1 : decode cX6_take 1 = .ok (.getfield 22, 3) := by decide +kernel
theorem dX6_take_4 : decode cX6_take 4 = .ok (.bipush 100, 2) := by decide +kernel
theorem dX6_take_6 : decode cX6_take 6 = .ok (.if_icmp .lt 5, 3) := by decide +kernel
theorem dX6_take_9 : decode cX6_take 9 = .ok (.iconst 0, 1) := by decide +kernel
theorem dX6_take_10 : decode cX6_take 10 = .ok (.ireturn, 1) := by decide +kernel
theorem dX6_take_11 : decode cX6_take 11 = .ok (.aload_n 0, 1) := by decide +kernel
theorem dX6_take_12 : decode cX6_take 12 = .ok (.getfield 9, 3) := by decide +kernel
theorem dX6_take_15 : decode cX6_take 15 = .ok (.aload_n 0, 1) := by decide +kernel
theorem dX6_take_16 : decode cX6_take 16 = .ok (.getfield 22, 3) := by decide +kernel
theorem dX6_take_19 : decode cX6_take 19 = .ok (.iload_n 1, 1) := by decide +kernel
theorem dX6_take_20 : decode cX6_take 20 = .ok (.castore, 1) := by decide +kernel
theorem dX6_take_21 : decode cX6_take 21 = .ok (.aload_n 0, 1) := by decide +kernel
theorem dX6_take_22 : decode cX6_take 22 = .ok (.dup, 1) := by decide +kernel
theorem dX6_take_23 : decode cX6_take 23 = .ok (.getfield 22, 3) := by decide +kernel
theorem dX6_take_26 : decode cX6_take 26 = .ok (.iconst 1, 1) := by decide +kernel
theorem dX6_take_27 : decode cX6_take 27 = .ok (.iadd, 1) := by decide +kernel
theorem dX6_take_28 : decode cX6_take 28 = .ok (.putfield 22, 3) := by decide +kernel
theorem dX6_take_31 : decode cX6_take 31 = .ok (.iconst 1, 1) := by decide +kernel
theorem dX6_take_32 : decode cX6_take 32 = .ok (.ireturn, 1) := by decide +kernel
theorem dX6_read_0 : decode cX6_read 0 = .ok (.aload_n 0, 1) := by decide +kernel
theorem dX6_read_1 : decode cX6_read 1 = .ok (.getfield 18, 3) := by decide +kernel
theorem dX6_read_4 : decode cX6_read 4 = .ok (.invokevirtual 26, 3) := by decide +kernel
theorem dX6_read_7 : decode cX6_read 7 = .ok (.aload_n 0, 1) := by decide +kernel
theorem dX6_read_8 : decode cX6_read 8 = .ok (.iconst 0, 1) := by decide +kernel
theorem dX6_read_9 : decode cX6_read 9 = .ok (.putfield 29, 3) := by decide +kernel
theorem dX6_read_12 : decode cX6_read 12 = .ok (.aload_n 0, 1) := by decide +kernel
theorem dX6_read_13 : decode cX6_read 13 = .ok (.iconst 0, 1) := by decide +kernel
theorem dX6_read_14 : decode cX6_read 14 = .ok (.putfield 32, 3) := by decide +kernel
theorem dX6_read_17 : decode cX6_read 17 = .ok (.aload_n 0, 1) := by decide +kernel
theorem dX6_read_18 : decode cX6_read 18 = .ok (.iconst (-1), 1) := by decide +kernel
theorem dX6_read_19 : decode cX6_read 19 = .ok (.putfield 35, 3) := by decide +kernel
theorem dX6_read_22 : decode cX6_read 22 = .ok (.aload_n 0, 1) := by decide +kernel
theorem dX6_read_23 : decode cX6_read 23 = .ok (.iconst 0, 1) := by decide +kernel
theorem dX6_read_24 : decode cX6_read 24 = .ok (.putfield 38, 3) := by decide +kernel
theorem dX6_read_27 : decode cX6_read 27 = .ok (.aload_n 0, 1) := by decide +kernel
theorem dX6_read_28 : decode cX6_read 28 = .ok (.iconst 0, 1) := by decide +kernel
theorem dX6_read_29 : decode cX6_read 29 = .ok (.putfield 42, 3) := by decide +kernel
theorem dX6_read_32 : decode cX6_read 32 = .ok (.aload_n 0, 1) := by decide +kernel
theorem dX6_read_33 : decode cX6_read 33 = .ok (.iconst 0, 1) := by decide +kernel
theorem dX6_read_34 : decode cX6_read 34 = .ok (.putfield 45, 3) := by decide +kernel
theorem dX6_read_37 : decode cX6_read 37 = .ok (.iconst 0, 1) := by decide +kernel
theorem dX6_read_38 : decode cX6_read 38 = .ok (.istore_n 1, 1) := by decide +kernel
theorem dX6_read_39 : decode cX6_read 39 = .ok (.iload_n 1, 1) := by decide +kernel
theorem dX6_read_40 : decode cX6_read 40 = .ok (.bipush 100, 2) := by decide +kernel
theorem dX6_read_42 : decode cX6_read 42 = .ok (.if_icmp .ge 28, 3) := by decide +kernel
theorem dX6_read_45 : decode cX6_read 45 = .ok (.aload_n 0, 1) := by decide +kernel
theorem dX6_read_46 : decode cX6_read 46 = .ok (.getfield 35, 3) := by decide +kernel
theorem dX6_read_49 : decode cX6_read 49 = .ok (.iconst (-1), 1) := by decide +kernel
theorem dX6_read_50 : decode cX6_read 50 = .ok (.if_icmp .ne 20, 3) := by decide +kernel
theorem dX6_read_53 : decode cX6_read 53 = .ok (.aload_n 0, 1) := by decide +kernel
theorem dX6_read_54 : decode cX6_read 54 = .ok (.invokevirtual 48, 3) := by decide +kernel
theorem dX6_read_57 : decode cX6_read 57 = .ok (.ifCond .eq 13, 3) := by decide +kernel
theorem dX6_read_60 : decode cX6_read 60 = .ok (.aload_n 0, 1) := by decide +kernel
theorem dX6_read_61 : decode cX6_read 61 = .ok (.invokevirtual 52, 3) := by decide +kernel
theorem dX6_read_64 : decode cX6_read 64 = .ok (.iinc 1 1, 3) := by decide +kernel
theorem dX6_read_67 : decode cX6_read 67 = .ok (.goto (-28), 3) := by decide +kernel
theorem dX6_read_70 : decode cX6_read 70 = .ok (.aload_n 0, 1) := by decide +kernel
theorem dX6_read_71 : decode cX6_read 71 = .ok (.getfield 35, 3) := by decide +kernel
theorem dX6_read_74 : decode cX6_read 74 = .ok (.iconst (-1), 1) := by decide +kernel
theorem dX6_read_75 : decode cX6_read 75 = .ok (.if_icmp .ne 7, 3) := by decide +kernel
theorem dX6_read_78 : decode cX6_read 78 = .ok (.iconst 1, 1) := by decide +kernel
theorem dX6_read_79 : decode cX6_read 79 = .ok (.goto 4, 3) := by decide +kernel
theorem dX6_read_82 : decode cX6_read 82 = .ok (.iconst 0, 1) := by decide +kernel
theorem dX6_read_83 : decode cX6_read 83 = .ok (.ireturn, 1) := by decide +kernel
theorem dX6_findToken_0 : decode cX6_findToken 0 = .ok (.aload_n 0, 1) := by decide +kernel
theorem dX6_findToken_1 : decode cX6_findToken 1 = .ok (.getfield 29, 3) := by decide +kernel
theorem dX6_findToken_4 : decode cX6_findToken 4 = .ok (.aload_n 0, 1) := by decide +kernel
theorem dX6_findToken_5 : decode cX6_findToken 5 = .ok (.getfield 22, 3) := by decide +kernel
theorem dX6_findToken_8 : decode cX6_findToken 8 = .ok (.if_icmp .ge 30, 3) := by decide +kernel
theorem dX6_findToken_11 : decode cX6_findToken 11 = .ok (.aload_n 0, 1) := by decide +kernel
theorem dX6_findToken_12 : decode cX6_findToken 12 = .ok (.getfield 9, 3) := by decide +kernel
theorem dX6_findToken_15 : decode cX6_findToken 15 = .ok (.aload_n 0, 1) := by decide +kernel
theorem dX6_findToken_16 : decode cX6_findToken 16 = .ok (.getfield 29, 3) := by decide +kernel
theorem dX6_findToken_19 : decode cX6_findToken 19 = .ok (.caload, 1) := by decide +kernel
theorem dX6_findToken_20 : decode cX6_findToken 20 = .ok (.bipush 32, 2) := by decide +kernel
theorem dX6_findToken_22 : decode cX6_findToken 22 = .ok (.if_icmp .ne 16, 3) := by decide +kernel
theorem dX6_findToken_25 : decode cX6_findToken 25 = .ok (.aload_n 0, 1) := by decide +kernel
theorem dX6_findToken_26 : decode cX6_findToken 26 = .ok (.dup, 1) := by decide +kernel
theorem dX6_findToken_27 : decode cX6_findToken 27 = .ok (.getfield 29, 3) := by decide +kernel
theorem dX6_findToken_30 : decode cX6_findToken 30 = .ok (.iconst 1, 1) := by decide +kernel
theorem dX6_findToken_31 : decode cX6_findToken 31 = .ok (.iadd, 1) := by decide +kernel
theorem dX6_findToken_32 : decode cX6_findToken 32 = .ok (.putfield 29, 3) := by decide +kernel
theorem dX6_findToken_35 : decode cX6_findToken 35 = .ok (.goto (-35), 3) := by decide +kernel
theorem dX6_findToken_38 : decode cX6_findToken 38 = .ok (.aload_n 0, 1) := by decide +kernel
theorem dX6_findToken_39 : decode cX6_findToken 39 = .ok (.getfield 29, 3) := by decide +kernel
theorem dX6_findToken_42 : decode cX6_findToken 42 = .ok (.aload_n 0, 1) := by decide +kernel
theorem dX6_findToken_43 : decode cX6_findToken 43 = .ok (.getfield 22, 3) := by decide +kernel
theorem dX6_findToken_46 : decode cX6_findToken 46 = .ok (.if_icmp .ge 7, 3) := by decide +kernel
theorem dX6_findToken_49 : decode cX6_findToken 49 = .ok (.iconst 1, 1) := by decide +kernel
theorem dX6_findToken_50 : decode cX6_findToken 50 = .ok (.goto 4, 3) := by decide +kernel
theorem dX6_findToken_53 : decode cX6_findToken 53 = .ok (.iconst 0, 1) := by decide +kernel
theorem dX6_findToken_54 : decode cX6_findToken 54 = .ok (.ireturn, 1) := by decide +kernel
theorem dX6_readItem_0 : decode cX6_readItem 0 = .ok (.aload_n 0, 1) := by decide +kernel
theorem dX6_readItem_1 : decode cX6_readItem 1 = .ok (.getfield 9, 3) := by decide +kernel
theorem dX6_readItem_4 : decode cX6_readItem 4 = .ok (.aload_n 0, 1) := by decide +kernel
theorem dX6_readItem_5 : decode cX6_readItem 5 = .ok (.getfield 29, 3) := by decide +kernel
theorem dX6_readItem_8 : decode cX6_readItem 8 = .ok (.caload, 1) := by decide +kernel
theorem dX6_readItem_9 : decode cX6_readItem 9 = .ok (.istore_n 1, 1) := by decide +kernel
theorem dX6_readItem_10 : decode cX6_readItem 10 = .ok (.aload_n 0, 1) := by decide +kernel
theorem dX6_readItem_11 : decode cX6_readItem 11 = .ok (.iload_n 1, 1) := by decide +kernel
theorem dX6_readItem_12 : decode cX6_readItem 12 = .ok (.invokevirtual 55, 3) := by decide +kernel
theorem dX6_readItem_15 : decode cX6_readItem 15 = .ok (.ifCond .ne 12, 3) := by decide +kernel
theorem dX6_readItem_18 : decode cX6_readItem 18 = .ok (.aload_n 0, 1) := by decide +kernel
theorem dX6_readItem_19 : decode cX6_readItem 19 = .ok (.aload_n 0, 1) := by decide +kernel
theorem dX6_readItem_20 : decode cX6_readItem 20 = .ok (.getfield 29, 3) := by decide +kernel
theorem dX6_readItem_23 : decode cX6_readItem 23 = .ok (.putfield 35, 3) := by decide +kernel
theorem dX6_readItem_26 : decode cX6_readItem 26 = .ok (.return_, 1) := by decide +kernel
theorem dX6_readItem_27 : decode cX6_readItem 27 = .ok (.aload_n 0, 1) := by decide +kernel
theorem dX6_readItem_28 : decode cX6_readItem 28 = .ok (.dup, 1) := by decide +kernel
theorem dX6_readItem_29 : decode cX6_readItem 29 = .ok (.getfield 29, 3) := by decide +kernel
theorem dX6_readItem_32 : decode cX6_readItem 32 = .ok (.iconst 1, 1) := by decide +kernel
theorem dX6_readItem_33 : decode cX6_readItem 33 = .ok (.iadd, 1) := by decide +kernel
theorem dX6_readItem_34 : decode cX6_readItem 34 = .ok (.putfield 29, 3) := by decide +kernel
theorem dX6_readItem_37 : decode cX6_readItem 37 = .ok (.iload_n 1, 1) := by decide +kernel
theorem dX6_readItem_38 : decode cX6_readItem 38 = .ok (.lookupswitch 85 #[(102, 63), (108, 41), (115, 34)], 34) := by decide +kernel
theorem dX6_readItem_72 : decode cX6_readItem 72 = .ok (.aload_n 0, 1) := by decide +kernel
theorem dX6_readItem_73 : decode cX6_readItem 73 = .ok (.invokevirtual 59, 3) := by decide +kernel
theorem dX6_readItem_76 : decode cX6_readItem 76 = .ok (.goto 65, 3) := by decide +kernel
theorem dX6_readItem_79 : decode cX6_readItem 79 = .ok (.aload_n 0, 1) := by decide +kernel
theorem dX6_readItem_80 : decode cX6_readItem 80 = .ok (.getfield 18, 3) := by decide +kernel
theorem dX6_readItem_83 : decode cX6_readItem 83 = .ok (.aload_n 0, 1) := by decide +kernel
theorem dX6_readItem_84 : decode cX6_readItem 84 = .ok (.iconst 0, 1) := by decide +kernel
theorem dX6_readItem_85 : decode cX6_readItem 85 = .ok (.bipush 9, 2) := by decide +kernel
theorem dX6_readItem_87 : decode cX6_readItem 87 = .ok (.invokevirtual 62, 3) := by decide +kernel
theorem dX6_readItem_90 : decode cX6_readItem 90 = .ok (.putfield 66, 3) := by decide +kernel
theorem dX6_readItem_93 : decode cX6_readItem 93 = .ok (.aload_n 0, 1) := by decide +kernel
theorem dX6_readItem_94 : decode cX6_readItem 94 = .ok (.iconst 1, 1) := by decide +kernel
theorem dX6_readItem_95 : decode cX6_readItem 95 = .ok (.putfield 38, 3) := by decide +kernel
theorem dX6_readItem_98 : decode cX6_readItem 98 = .ok (.goto 43, 3) := by decide +kernel
theorem dX6_readItem_101 : decode cX6_readItem 101 = .ok (.aload_n 0, 1) := by decide +kernel
theorem dX6_readItem_102 : decode cX6_readItem 102 = .ok (.getfield 18, 3) := by decide +kernel
theorem dX6_readItem_105 : decode cX6_readItem 105 = .ok (.aload_n 0, 1) := by decide +kernel
theorem dX6_readItem_106 : decode cX6_readItem 106 = .ok (.iconst 1, 1) := by decide +kernel
theorem dX6_readItem_107 : decode cX6_readItem 107 = .ok (.bipush 9, 2) := by decide +kernel
theorem dX6_readItem_109 : decode cX6_readItem 109 = .ok (.invokevirtual 62, 3) := by decide +kernel
theorem dX6_readItem_112 : decode cX6_readItem 112 = .ok (.putfield 69, 3) := by decide +kernel
theorem dX6_readItem_115 : decode cX6_readItem 115 = .ok (.aload_n 0, 1) := by decide +kernel
theorem dX6_readItem_116 : decode cX6_readItem 116 = .ok (.iconst 1, 1) := by decide +kernel
theorem dX6_readItem_117 : decode cX6_readItem 117 = .ok (.putfield 42, 3) := by decide +kernel
theorem dX6_readItem_120 : decode cX6_readItem 120 = .ok (.goto 21, 3) := by decide +kernel
theorem dX6_readItem_123 : decode cX6_readItem 123 = .ok (.aload_n 0, 1) := by decide +kernel
theorem dX6_readItem_124 : decode cX6_readItem 124 = .ok (.getfield 18, 3) := by decide +kernel
theorem dX6_readItem_127 : decode cX6_readItem 127 = .ok (.aload_n 0, 1) := by decide +kernel
theorem dX6_readItem_128 : decode cX6_readItem 128 = .ok (.iconst 0, 1) := by decide +kernel
theorem dX6_readItem_129 : decode cX6_readItem 129 = .ok (.iconst 3, 1) := by decide +kernel
theorem dX6_readItem_130 : decode cX6_readItem 130 = .ok (.invokevirtual 62, 3) := by decide +kernel
theorem dX6_readItem_133 : decode cX6_readItem 133 = .ok (.putfield 72, 3) := by decide +kernel
theorem dX6_readItem_136 : decode cX6_readItem 136 = .ok (.aload_n 0, 1) := by decide +kernel
theorem dX6_readItem_137 : decode cX6_readItem 137 = .ok (.iconst 1, 1) := by decide +kernel
theorem dX6_readItem_138 : decode cX6_readItem 138 = .ok (.putfield 45, 3) := by decide +kernel
theorem dX6_readItem_141 : decode cX6_readItem 141 = .ok (.aload_n 0, 1) := by decide +kernel
theorem dX6_readItem_142 : decode cX6_readItem 142 = .ok (.invokevirtual 75, 3) := by decide +kernel
theorem dX6_readItem_145 : decode cX6_readItem 145 = .ok (.return_, 1) := by decide +kernel
theorem dX6_mayBegin_0 : decode cX6_mayBegin 0 = .ok (.iload_n 1, 1) := by decide +kernel
theorem dX6_mayBegin_1 : decode cX6_mayBegin 1 = .ok (.lookupswitch 100 #[(100, 87), (102, 74), (108, 61), (115, 43)], 43) := by decide +kernel
theorem dX6_mayBegin_44 : decode cX6_mayBegin 44 = .ok (.aload_n 0, 1) := by decide +kernel
theorem dX6_mayBegin_45 : decode cX6_mayBegin 45 = .ok (.getfield 18, 3) := by decide +kernel
theorem dX6_mayBegin_48 : decode cX6_mayBegin 48 = .ok (.getfield 78, 3) := by decide +kernel
theorem dX6_mayBegin_51 : decode cX6_mayBegin 51 = .ok (.bipush 9, 2) := by decide +kernel
theorem dX6_mayBegin_53 : decode cX6_mayBegin 53 = .ok (.if_icmp .ge 7, 3) := by decide +kernel
theorem dX6_mayBegin_56 : decode cX6_mayBegin 56 = .ok (.iconst 1, 1) := by decide +kernel
theorem dX6_mayBegin_57 : decode cX6_mayBegin 57 = .ok (.goto 4, 3) := by decide +kernel
theorem dX6_mayBegin_60 : decode cX6_mayBegin 60 = .ok (.iconst 0, 1) := by decide +kernel
theorem dX6_mayBegin_61 : decode cX6_mayBegin 61 = .ok (.ireturn, 1) := by decide +kernel
theorem dX6_mayBegin_62 : decode cX6_mayBegin 62 = .ok (.aload_n 0, 1) := by decide +kernel
theorem dX6_mayBegin_63 : decode cX6_mayBegin 63 = .ok (.getfield 38, 3) := by decide +kernel
theorem dX6_mayBegin_66 : decode cX6_mayBegin 66 = .ok (.ifCond .ne 7, 3) := by decide +kernel
theorem dX6_mayBegin_69 : decode cX6_mayBegin 69 = .ok (.iconst 1, 1) := by decide +kernel
theorem dX6_mayBegin_70 : decode cX6_mayBegin 70 = .ok (.goto 4, 3) := by decide +kernel
theorem dX6_mayBegin_73 : decode cX6_mayBegin 73 = .ok (.iconst 0, 1) := by decide +kernel
theorem dX6_mayBegin_74 : decode cX6_mayBegin 74 = .ok (.ireturn, 1) := by decide +kernel
theorem dX6_mayBegin_75 : decode cX6_mayBegin 75 = .ok (.aload_n 0, 1) := by decide +kernel
theorem dX6_mayBegin_76 : decode cX6_mayBegin 76 = .ok (.getfield 42, 3) := by decide +kernel
theorem dX6_mayBegin_79 : decode cX6_mayBegin 79 = .ok (.ifCond .ne 7, 3) := by decide +kernel
theorem dX6_mayBegin_82 : decode cX6_mayBegin 82 = .ok (.iconst 1, 1) := by decide +kernel
theorem dX6_mayBegin_83 : decode cX6_mayBegin 83 = .ok (.goto 4, 3) := by decide +kernel
theorem dX6_mayBegin_86 : decode cX6_mayBegin 86 = .ok (.iconst 0, 1) := by decide +kernel
theorem dX6_mayBegin_87 : decode cX6_mayBegin 87 = .ok (.ireturn, 1) := by decide +kernel
theorem dX6_mayBegin_88 : decode cX6_mayBegin 88 = .ok (.aload_n 0, 1) := by decide +kernel
theorem dX6_mayBegin_89 : decode cX6_mayBegin 89 = .ok (.getfield 45, 3) := by decide +kernel
theorem dX6_mayBegin_92 : decode cX6_mayBegin 92 = .ok (.ifCond .ne 7, 3) := by decide +kernel
theorem dX6_mayBegin_95 : decode cX6_mayBegin 95 = .ok (.iconst 1, 1) := by decide +kernel
theorem dX6_mayBegin_96 : decode cX6_mayBegin 96 = .ok (.goto 4, 3) := by decide +kernel
theorem dX6_mayBegin_99 : decode cX6_mayBegin 99 = .ok (.iconst 0, 1) := by decide +kernel
theorem dX6_mayBegin_100 : decode cX6_mayBegin 100 = .ok (.ireturn, 1) := by decide +kernel
theorem dX6_mayBegin_101 : decode cX6_mayBegin 101 = .ok (.iconst 0, 1) := by decide +kernel
theorem dX6_mayBegin_102 : decode cX6_mayBegin 102 = .ok (.ireturn, 1) := by decide +kernel
theorem dX6_readStep_0 : decode cX6_readStep 0 = .ok (.aload_n 0, 1) := by decide +kernel
theorem dX6_readStep_1 : decode cX6_readStep 1 = .ok (.iconst 1, 1) := by decide +kernel
theorem dX6_readStep_2 : decode cX6_readStep 2 = .ok (.bipush 9, 2) := by decide +kernel
theorem dX6_readStep_4 : decode cX6_readStep 4 = .ok (.invokevirtual 62, 3) := by decide +kernel
theorem dX6_readStep_7 : decode cX6_readStep 7 = .ok (.istore_n 1, 1) := by decide +kernel
theorem dX6_readStep_8 : decode cX6_readStep 8 = .ok (.aload_n 0, 1) := by decide +kernel
theorem dX6_readStep_9 : decode cX6_readStep 9 = .ok (.iconst 1, 1) := by decide +kernel
theorem dX6_readStep_10 : decode cX6_readStep 10 = .ok (.bipush 9, 2) := by decide +kernel
theorem dX6_readStep_12 : decode cX6_readStep 12 = .ok (.invokevirtual 62, 3) := by decide +kernel
theorem dX6_readStep_15 : decode cX6_readStep 15 = .ok (.istore_n 2, 1) := by decide +kernel
theorem dX6_readStep_16 : decode cX6_readStep 16 = .ok (.aload_n 0, 1) := by decide +kernel
theorem dX6_readStep_17 : decode cX6_readStep 17 = .ok (.iconst 0, 1) := by decide +kernel
theorem dX6_readStep_18 : decode cX6_readStep 18 = .ok (.iconst 5, 1) := by decide +kernel
theorem dX6_readStep_19 : decode cX6_readStep 19 = .ok (.invokevirtual 62, 3) := by decide +kernel
theorem dX6_readStep_22 : decode cX6_readStep 22 = .ok (.istore_n 3, 1) := by decide +kernel
theorem dX6_readStep_23 : decode cX6_readStep 23 = .ok (.aload_n 0, 1) := by decide +kernel
theorem dX6_readStep_24 : decode cX6_readStep 24 = .ok (.getfield 35, 3) := by decide +kernel
theorem dX6_readStep_27 : decode cX6_readStep 27 = .ok (.iconst (-1), 1) := by decide +kernel
theorem dX6_readStep_28 : decode cX6_readStep 28 = .ok (.if_icmp .ne 13, 3) := by decide +kernel
theorem dX6_readStep_31 : decode cX6_readStep 31 = .ok (.aload_n 0, 1) := by decide +kernel
theorem dX6_readStep_32 : decode cX6_readStep 32 = .ok (.getfield 18, 3) := by decide +kernel
theorem dX6_readStep_35 : decode cX6_readStep 35 = .ok (.iload_n 1, 1) := by decide +kernel
theorem dX6_readStep_36 : decode cX6_readStep 36 = .ok (.iload_n 2, 1) := by decide +kernel
theorem dX6_readStep_37 : decode cX6_readStep 37 = .ok (.iload_n 3, 1) := by decide +kernel
theorem dX6_readStep_38 : decode cX6_readStep 38 = .ok (.invokevirtual 81, 3) := by decide +kernel
theorem dX6_readStep_41 : decode cX6_readStep 41 = .ok (.return_, 1) := by decide +kernel
theorem dX6_number_0 : decode cX6_number 0 = .ok (.aload_n 0, 1) := by decide +kernel
theorem dX6_number_1 : decode cX6_number 1 = .ok (.getfield 35, 3) := by decide +kernel
theorem dX6_number_4 : decode cX6_number 4 = .ok (.iconst (-1), 1) := by decide +kernel
theorem dX6_number_5 : decode cX6_number 5 = .ok (.if_icmp .eq 5, 3) := by decide +kernel
theorem dX6_number_8 : decode cX6_number 8 = .ok (.iload_n 1, 1) := by decide +kernel
theorem dX6_number_9 : decode cX6_number 9 = .ok (.ireturn, 1) := by decide +kernel
theorem dX6_number_10 : decode cX6_number 10 = .ok (.aload_n 0, 1) := by decide +kernel
theorem dX6_number_11 : decode cX6_number 11 = .ok (.invokevirtual 48, 3) := by decide +kernel
theorem dX6_number_14 : decode cX6_number 14 = .ok (.pop, 1) := by decide +kernel
theorem dX6_number_15 : decode cX6_number 15 = .ok (.aload_n 0, 1) := by decide +kernel
theorem dX6_number_16 : decode cX6_number 16 = .ok (.getfield 29, 3) := by decide +kernel
theorem dX6_number_19 : decode cX6_number 19 = .ok (.istore_n 3, 1) := by decide +kernel
theorem dX6_number_20 : decode cX6_number 20 = .ok (.iconst 0, 1) := by decide +kernel
theorem dX6_number_21 : decode cX6_number 21 = .ok (.istore 4, 2) := by decide +kernel
theorem dX6_number_23 : decode cX6_number 23 = .ok (.aload_n 0, 1) := by decide +kernel
theorem dX6_number_24 : decode cX6_number 24 = .ok (.getfield 29, 3) := by decide +kernel
theorem dX6_number_27 : decode cX6_number 27 = .ok (.aload_n 0, 1) := by decide +kernel
theorem dX6_number_28 : decode cX6_number 28 = .ok (.getfield 22, 3) := by decide +kernel
theorem dX6_number_31 : decode cX6_number 31 = .ok (.if_icmp .ge 60, 3) := by decide +kernel
theorem dX6_number_34 : decode cX6_number 34 = .ok (.aload_n 0, 1) := by decide +kernel
theorem dX6_number_35 : decode cX6_number 35 = .ok (.getfield 9, 3) := by decide +kernel
theorem dX6_number_38 : decode cX6_number 38 = .ok (.aload_n 0, 1) := by decide +kernel
theorem dX6_number_39 : decode cX6_number 39 = .ok (.getfield 29, 3) := by decide +kernel
theorem dX6_number_42 : decode cX6_number 42 = .ok (.caload, 1) := by decide +kernel
theorem dX6_number_43 : decode cX6_number 43 = .ok (.bipush 48, 2) := by decide +kernel
theorem dX6_number_45 : decode cX6_number 45 = .ok (.bipush 57, 2) := by decide +kernel
theorem dX6_number_47 : decode cX6_number 47 = .ok (.invokestatic 85, 3) := by decide +kernel
theorem dX6_number_50 : decode cX6_number 50 = .ok (.ifCond .eq 41, 3) := by decide +kernel
theorem dX6_number_53 : decode cX6_number 53 = .ok (.bipush 100, 2) := by decide +kernel
theorem dX6_number_55 : decode cX6_number 55 = .ok (.iload 4, 2) := by decide +kernel
theorem dX6_number_57 : decode cX6_number 57 = .ok (.bipush 10, 2) := by decide +kernel
theorem dX6_number_59 : decode cX6_number 59 = .ok (.imul, 1) := by decide +kernel
theorem dX6_number_60 : decode cX6_number 60 = .ok (.aload_n 0, 1) := by decide +kernel
theorem dX6_number_61 : decode cX6_number 61 = .ok (.getfield 9, 3) := by decide +kernel
theorem dX6_number_64 : decode cX6_number 64 = .ok (.aload_n 0, 1) := by decide +kernel
theorem dX6_number_65 : decode cX6_number 65 = .ok (.getfield 29, 3) := by decide +kernel
theorem dX6_number_68 : decode cX6_number 68 = .ok (.caload, 1) := by decide +kernel
theorem dX6_number_69 : decode cX6_number 69 = .ok (.bipush 48, 2) := by decide +kernel
theorem dX6_number_71 : decode cX6_number 71 = .ok (.isub, 1) := by decide +kernel
theorem dX6_number_72 : decode cX6_number 72 = .ok (.iadd, 1) := by decide +kernel
theorem dX6_number_73 : decode cX6_number 73 = .ok (.invokestatic 89, 3) := by decide +kernel
theorem dX6_number_76 : decode cX6_number 76 = .ok (.istore 4, 2) := by decide +kernel
theorem dX6_number_78 : decode cX6_number 78 = .ok (.aload_n 0, 1) := by decide +kernel
theorem dX6_number_79 : decode cX6_number 79 = .ok (.dup, 1) := by decide +kernel
theorem dX6_number_80 : decode cX6_number 80 = .ok (.getfield 29, 3) := by decide +kernel
theorem dX6_number_83 : decode cX6_number 83 = .ok (.iconst 1, 1) := by decide +kernel
theorem dX6_number_84 : decode cX6_number 84 = .ok (.iadd, 1) := by decide +kernel
theorem dX6_number_85 : decode cX6_number 85 = .ok (.putfield 29, 3) := by decide +kernel
theorem dX6_number_88 : decode cX6_number 88 = .ok (.goto (-65), 3) := by decide +kernel
theorem dX6_number_91 : decode cX6_number 91 = .ok (.aload_n 0, 1) := by decide +kernel
theorem dX6_number_92 : decode cX6_number 92 = .ok (.getfield 29, 3) := by decide +kernel
theorem dX6_number_95 : decode cX6_number 95 = .ok (.iload_n 3, 1) := by decide +kernel
theorem dX6_number_96 : decode cX6_number 96 = .ok (.iconst 1, 1) := by decide +kernel
theorem dX6_number_97 : decode cX6_number 97 = .ok (.iadd, 1) := by decide +kernel
theorem dX6_number_98 : decode cX6_number 98 = .ok (.if_icmp .eq 22, 3) := by decide +kernel
theorem dX6_number_101 : decode cX6_number 101 = .ok (.aload_n 0, 1) := by decide +kernel
theorem dX6_number_102 : decode cX6_number 102 = .ok (.getfield 29, 3) := by decide +kernel
theorem dX6_number_105 : decode cX6_number 105 = .ok (.iload_n 3, 1) := by decide +kernel
theorem dX6_number_106 : decode cX6_number 106 = .ok (.if_icmp .le 18, 3) := by decide +kernel
theorem dX6_number_109 : decode cX6_number 109 = .ok (.aload_n 0, 1) := by decide +kernel
theorem dX6_number_110 : decode cX6_number 110 = .ok (.getfield 9, 3) := by decide +kernel
theorem dX6_number_113 : decode cX6_number 113 = .ok (.iload_n 3, 1) := by decide +kernel
theorem dX6_number_114 : decode cX6_number 114 = .ok (.caload, 1) := by decide +kernel
theorem dX6_number_115 : decode cX6_number 115 = .ok (.bipush 48, 2) := by decide +kernel
theorem dX6_number_117 : decode cX6_number 117 = .ok (.if_icmp .eq 7, 3) := by decide +kernel
theorem dX6_number_120 : decode cX6_number 120 = .ok (.iconst 1, 1) := by decide +kernel
theorem dX6_number_121 : decode cX6_number 121 = .ok (.goto 4, 3) := by decide +kernel
theorem dX6_number_124 : decode cX6_number 124 = .ok (.iconst 0, 1) := by decide +kernel
theorem dX6_number_125 : decode cX6_number 125 = .ok (.istore 5, 2) := by decide +kernel
theorem dX6_number_127 : decode cX6_number 127 = .ok (.iload 5, 2) := by decide +kernel
theorem dX6_number_129 : decode cX6_number 129 = .ok (.ifCond .eq 13, 3) := by decide +kernel
theorem dX6_number_132 : decode cX6_number 132 = .ok (.iload 4, 2) := by decide +kernel
theorem dX6_number_134 : decode cX6_number 134 = .ok (.iload_n 1, 1) := by decide +kernel
theorem dX6_number_135 : decode cX6_number 135 = .ok (.iload_n 2, 1) := by decide +kernel
theorem dX6_number_136 : decode cX6_number 136 = .ok (.invokestatic 85, 3) := by decide +kernel
theorem dX6_number_139 : decode cX6_number 139 = .ok (.ifCond .ne 8, 3) := by decide +kernel
theorem dX6_number_142 : decode cX6_number 142 = .ok (.aload_n 0, 1) := by decide +kernel
theorem dX6_number_143 : decode cX6_number 143 = .ok (.iload_n 3, 1) := by decide +kernel
theorem dX6_number_144 : decode cX6_number 144 = .ok (.putfield 35, 3) := by decide +kernel
theorem dX6_number_147 : decode cX6_number 147 = .ok (.iload 4, 2) := by decide +kernel
theorem dX6_number_149 : decode cX6_number 149 = .ok (.ireturn, 1) := by decide +kernel
theorem dX6_endItem_0 : decode cX6_endItem 0 = .ok (.aload_n 0, 1) := by decide +kernel
theorem dX6_endItem_1 : decode cX6_endItem 1 = .ok (.getfield 35, 3) := by decide +kernel
theorem dX6_endItem_4 : decode cX6_endItem 4 = .ok (.iconst (-1), 1) := by decide +kernel
theorem dX6_endItem_5 : decode cX6_endItem 5 = .ok (.if_icmp .eq 4, 3) := by decide +kernel
theorem dX6_endItem_8 : decode cX6_endItem 8 = .ok (.return_, 1) := by decide +kernel
theorem dX6_endItem_9 : decode cX6_endItem 9 = .ok (.aload_n 0, 1) := by decide +kernel
theorem dX6_endItem_10 : decode cX6_endItem 10 = .ok (.invokevirtual 48, 3) := by decide +kernel
theorem dX6_endItem_13 : decode cX6_endItem 13 = .ok (.ifCond .eq 40, 3) := by decide +kernel
theorem dX6_endItem_16 : decode cX6_endItem 16 = .ok (.aload_n 0, 1) := by decide +kernel
theorem dX6_endItem_17 : decode cX6_endItem 17 = .ok (.getfield 9, 3) := by decide +kernel
theorem dX6_endItem_20 : decode cX6_endItem 20 = .ok (.aload_n 0, 1) := by decide +kernel
theorem dX6_endItem_21 : decode cX6_endItem 21 = .ok (.getfield 29, 3) := by decide +kernel
theorem dX6_endItem_24 : decode cX6_endItem 24 = .ok (.caload, 1) := by decide +kernel
theorem dX6_endItem_25 : decode cX6_endItem 25 = .ok (.bipush 59, 2) := by decide +kernel
theorem dX6_endItem_27 : decode cX6_endItem 27 = .ok (.if_icmp .ne 26, 3) := by decide +kernel
theorem dX6_endItem_30 : decode cX6_endItem 30 = .ok (.aload_n 0, 1) := by decide +kernel
theorem dX6_endItem_31 : decode cX6_endItem 31 = .ok (.dup, 1) := by decide +kernel
theorem dX6_endItem_32 : decode cX6_endItem 32 = .ok (.getfield 29, 3) := by decide +kernel
theorem dX6_endItem_35 : decode cX6_endItem 35 = .ok (.iconst 1, 1) := by decide +kernel
theorem dX6_endItem_36 : decode cX6_endItem 36 = .ok (.iadd, 1) := by decide +kernel
theorem dX6_endItem_37 : decode cX6_endItem 37 = .ok (.putfield 29, 3) := by decide +kernel
theorem dX6_endItem_40 : decode cX6_endItem 40 = .ok (.aload_n 0, 1) := by decide +kernel
theorem dX6_endItem_41 : decode cX6_endItem 41 = .ok (.dup, 1) := by decide +kernel
theorem dX6_endItem_42 : decode cX6_endItem 42 = .ok (.getfield 32, 3) := by decide +kernel
theorem dX6_endItem_45 : decode cX6_endItem 45 = .ok (.iconst 1, 1) := by decide +kernel
theorem dX6_endItem_46 : decode cX6_endItem 46 = .ok (.iadd, 1) := by decide +kernel
theorem dX6_endItem_47 : decode cX6_endItem 47 = .ok (.putfield 32, 3) := by decide +kernel
theorem dX6_endItem_50 : decode cX6_endItem 50 = .ok (.goto 11, 3) := by decide +kernel
theorem dX6_endItem_53 : decode cX6_endItem 53 = .ok (.aload_n 0, 1) := by decide +kernel
theorem dX6_endItem_54 : decode cX6_endItem 54 = .ok (.aload_n 0, 1) := by decide +kernel
theorem dX6_endItem_55 : decode cX6_endItem 55 = .ok (.getfield 29, 3) := by decide +kernel
theorem dX6_endItem_58 : decode cX6_endItem 58 = .ok (.putfield 35, 3) := by decide +kernel
theorem dX6_endItem_61 : decode cX6_endItem 61 = .ok (.return_, 1) := by decide +kernel
theorem dX7_init_0 : decode cX7_init 0 = .ok (.aload_n 0, 1) := by decide +kernel
theorem dX7_init_1 : decode cX7_init 1 = .ok (.invokespecial 3, 3) := by decide +kernel
theorem dX7_init_4 : decode cX7_init 4 = .ok (.aload_n 0, 1) := by decide +kernel
theorem dX7_init_5 : decode cX7_init 5 = .ok (.bipush 9, 2) := by decide +kernel
theorem dX7_init_7 : decode cX7_init 7 = .ok (.newarray .int, 2) := by decide +kernel
theorem dX7_init_9 : decode cX7_init 9 = .ok (.putfield 9, 3) := by decide +kernel
theorem dX7_init_12 : decode cX7_init 12 = .ok (.aload_n 0, 1) := by decide +kernel
theorem dX7_init_13 : decode cX7_init 13 = .ok (.aload_n 1, 1) := by decide +kernel
theorem dX7_init_14 : decode cX7_init 14 = .ok (.putfield 15, 3) := by decide +kernel
theorem dX7_init_17 : decode cX7_init 17 = .ok (.return_, 1) := by decide +kernel
theorem dX7_prepare_0 : decode cX7_prepare 0 = .ok (.aload_n 1, 1) := by decide +kernel
theorem dX7_prepare_1 : decode cX7_prepare 1 = .ok (.getfield 19, 3) := by decide +kernel
theorem dX7_prepare_4 : decode cX7_prepare 4 = .ok (.iconst 0, 1) := by decide +kernel
theorem dX7_prepare_5 : decode cX7_prepare 5 = .ok (.aload_n 0, 1) := by decide +kernel
theorem dX7_prepare_6 : decode cX7_prepare 6 = .ok (.getfield 9, 3) := by decide +kernel
theorem dX7_prepare_9 : decode cX7_prepare 9 = .ok (.iconst 0, 1) := by decide +kernel
theorem dX7_prepare_10 : decode cX7_prepare 10 = .ok (.bipush 9, 2) := by decide +kernel
theorem dX7_prepare_12 : decode cX7_prepare 12 = .ok (.invokestatic 22, 3) := by decide +kernel
theorem dX7_prepare_15 : decode cX7_prepare 15 = .ok (.aload_n 0, 1) := by decide +kernel
theorem dX7_prepare_16 : decode cX7_prepare 16 = .ok (.aload_n 0, 1) := by decide +kernel
theorem dX7_prepare_17 : decode cX7_prepare 17 = .ok (.getfield 15, 3) := by decide +kernel
theorem dX7_prepare_20 : decode cX7_prepare 20 = .ok (.getfield 28, 3) := by decide +kernel
theorem dX7_prepare_23 : decode cX7_prepare 23 = .ok (.putfield 34, 3) := by decide +kernel
theorem dX7_prepare_26 : decode cX7_prepare 26 = .ok (.aload_n 0, 1) := by decide +kernel
theorem dX7_prepare_27 : decode cX7_prepare 27 = .ok (.aload_n 0, 1) := by decide +kernel
theorem dX7_prepare_28 : decode cX7_prepare 28 = .ok (.getfield 15, 3) := by decide +kernel
theorem dX7_prepare_31 : decode cX7_prepare 31 = .ok (.getfield 35, 3) := by decide +kernel
theorem dX7_prepare_34 : decode cX7_prepare 34 = .ok (.putfield 38, 3) := by decide +kernel
theorem dX7_prepare_37 : decode cX7_prepare 37 = .ok (.return_, 1) := by decide +kernel
theorem dX7_stand_0 : decode cX7_stand 0 = .ok (.aload_n 0, 1) := by decide +kernel
theorem dX7_stand_1 : decode cX7_stand 1 = .ok (.iload_n 1, 1) := by decide +kernel
theorem dX7_stand_2 : decode cX7_stand 2 = .ok (.putfield 39, 3) := by decide +kernel
theorem dX7_stand_5 : decode cX7_stand 5 = .ok (.aload_n 0, 1) := by decide +kernel
theorem dX7_stand_6 : decode cX7_stand 6 = .ok (.iload_n 2, 1) := by decide +kernel
theorem dX7_stand_7 : decode cX7_stand 7 = .ok (.putfield 42, 3) := by decide +kernel
theorem dX7_stand_10 : decode cX7_stand 10 = .ok (.aload_n 0, 1) := by decide +kernel
theorem dX7_stand_11 : decode cX7_stand 11 = .ok (.iconst 0, 1) := by decide +kernel
theorem dX7_stand_12 : decode cX7_stand 12 = .ok (.putfield 45, 3) := by decide +kernel
theorem dX7_stand_15 : decode cX7_stand 15 = .ok (.aload_n 0, 1) := by decide +kernel
theorem dX7_stand_16 : decode cX7_stand 16 = .ok (.iconst 0, 1) := by decide +kernel
theorem dX7_stand_17 : decode cX7_stand 17 = .ok (.putfield 48, 3) := by decide +kernel
theorem dX7_stand_20 : decode cX7_stand 20 = .ok (.return_, 1) := by decide +kernel
theorem dX7_turn_0 : decode cX7_turn 0 = .ok (.aload_n 0, 1) := by decide +kernel
theorem dX7_turn_1 : decode cX7_turn 1 = .ok (.getfield 15, 3) := by decide +kernel
theorem dX7_turn_4 : decode cX7_turn 4 = .ok (.aload_n 0, 1) := by decide +kernel
theorem dX7_turn_5 : decode cX7_turn 5 = .ok (.getfield 39, 3) := by decide +kernel
theorem dX7_turn_8 : decode cX7_turn 8 = .ok (.invokevirtual 51, 3) := by decide +kernel
theorem dX7_turn_11 : decode cX7_turn 11 = .ok (.ifCond .ne 4, 3) := by decide +kernel
theorem dX7_turn_14 : decode cX7_turn 14 = .ok (.return_, 1) := by decide +kernel
theorem dX7_turn_15 : decode cX7_turn 15 = .ok (.aload_n 0, 1) := by decide +kernel
theorem dX7_turn_16 : decode cX7_turn 16 = .ok (.dup, 1) := by decide +kernel
theorem dX7_turn_17 : decode cX7_turn 17 = .ok (.getfield 45, 3) := by decide +kernel
theorem dX7_turn_20 : decode cX7_turn 20 = .ok (.iconst 1, 1) := by decide +kernel
theorem dX7_turn_21 : decode cX7_turn 21 = .ok (.iadd, 1) := by decide +kernel
theorem dX7_turn_22 : decode cX7_turn 22 = .ok (.putfield 45, 3) := by decide +kernel
theorem dX7_turn_25 : decode cX7_turn 25 = .ok (.aload_n 0, 1) := by decide +kernel
theorem dX7_turn_26 : decode cX7_turn 26 = .ok (.getfield 42, 3) := by decide +kernel
theorem dX7_turn_29 : decode cX7_turn 29 = .ok (.aload_n 0, 1) := by decide +kernel
theorem dX7_turn_30 : decode cX7_turn 30 = .ok (.getfield 34, 3) := by decide +kernel
theorem dX7_turn_33 : decode cX7_turn 33 = .ok (.if_icmp .ge 9, 3) := by decide +kernel
theorem dX7_turn_36 : decode cX7_turn 36 = .ok (.aload_n 0, 1) := by decide +kernel
theorem dX7_turn_37 : decode cX7_turn 37 = .ok (.iconst 0, 1) := by decide +kernel
theorem dX7_turn_38 : decode cX7_turn 38 = .ok (.putfield 42, 3) := by decide +kernel
theorem dX7_turn_41 : decode cX7_turn 41 = .ok (.return_, 1) := by decide +kernel
theorem dX7_turn_42 : decode cX7_turn 42 = .ok (.aload_n 0, 1) := by decide +kernel
theorem dX7_turn_43 : decode cX7_turn 43 = .ok (.aload_n 0, 1) := by decide +kernel
theorem dX7_turn_44 : decode cX7_turn 44 = .ok (.getfield 42, 3) := by decide +kernel
theorem dX7_turn_47 : decode cX7_turn 47 = .ok (.aload_n 0, 1) := by decide +kernel
theorem dX7_turn_48 : decode cX7_turn 48 = .ok (.getfield 34, 3) := by decide +kernel
theorem dX7_turn_51 : decode cX7_turn 51 = .ok (.isub, 1) := by decide +kernel
theorem dX7_turn_52 : decode cX7_turn 52 = .ok (.aload_n 0, 1) := by decide +kernel
theorem dX7_turn_53 : decode cX7_turn 53 = .ok (.getfield 15, 3) := by decide +kernel
theorem dX7_turn_56 : decode cX7_turn 56 = .ok (.getfield 55, 3) := by decide +kernel
theorem dX7_turn_59 : decode cX7_turn 59 = .ok (.aload_n 0, 1) := by decide +kernel
theorem dX7_turn_60 : decode cX7_turn 60 = .ok (.getfield 39, 3) := by decide +kernel
theorem dX7_turn_63 : decode cX7_turn 63 = .ok (.iaload, 1) := by decide +kernel
theorem dX7_turn_64 : decode cX7_turn 64 = .ok (.iadd, 1) := by decide +kernel
theorem dX7_turn_65 : decode cX7_turn 65 = .ok (.aload_n 0, 1) := by decide +kernel
theorem dX7_turn_66 : decode cX7_turn 66 = .ok (.getfield 38, 3) := by decide +kernel
theorem dX7_turn_69 : decode cX7_turn 69 = .ok (.isub, 1) := by decide +kernel
theorem dX7_turn_70 : decode cX7_turn 70 = .ok (.invokestatic 58, 3) := by decide +kernel
theorem dX7_turn_73 : decode cX7_turn 73 = .ok (.putfield 42, 3) := by decide +kernel
theorem dX7_turn_76 : decode cX7_turn 76 = .ok (.aload_n 0, 1) := by decide +kernel
theorem dX7_turn_77 : decode cX7_turn 77 = .ok (.dup, 1) := by decide +kernel
theorem dX7_turn_78 : decode cX7_turn 78 = .ok (.getfield 39, 3) := by decide +kernel
theorem dX7_turn_81 : decode cX7_turn 81 = .ok (.iconst 1, 1) := by decide +kernel
theorem dX7_turn_82 : decode cX7_turn 82 = .ok (.iadd, 1) := by decide +kernel
theorem dX7_turn_83 : decode cX7_turn 83 = .ok (.putfield 39, 3) := by decide +kernel
theorem dX7_turn_86 : decode cX7_turn 86 = .ok (.aload_n 0, 1) := by decide +kernel
theorem dX7_turn_87 : decode cX7_turn 87 = .ok (.invokevirtual 62, 3) := by decide +kernel
theorem dX7_turn_90 : decode cX7_turn 90 = .ok (.return_, 1) := by decide +kernel
theorem dX7_land_0 : decode cX7_land 0 = .ok (.aload_n 0, 1) := by decide +kernel
theorem dX7_land_1 : decode cX7_land 1 = .ok (.getfield 39, 3) := by decide +kernel
theorem dX7_land_4 : decode cX7_land 4 = .ok (.istore_n 1, 1) := by decide +kernel
theorem dX7_land_5 : decode cX7_land 5 = .ok (.iload_n 1, 1) := by decide +kernel
theorem dX7_land_6 : decode cX7_land 6 = .ok (.aload_n 0, 1) := by decide +kernel
theorem dX7_land_7 : decode cX7_land 7 = .ok (.getfield 15, 3) := by decide +kernel
theorem dX7_land_10 : decode cX7_land 10 = .ok (.getfield 65, 3) := by decide +kernel
theorem dX7_land_13 : decode cX7_land 13 = .ok (.if_icmp .ge 101, 3) := by decide +kernel
theorem dX7_land_16 : decode cX7_land 16 = .ok (.aload_n 0, 1) := by decide +kernel
theorem dX7_land_17 : decode cX7_land 17 = .ok (.aload_n 0, 1) := by decide +kernel
theorem dX7_land_18 : decode cX7_land 18 = .ok (.getfield 42, 3) := by decide +kernel
theorem dX7_land_21 : decode cX7_land 21 = .ok (.aload_n 0, 1) := by decide +kernel
theorem dX7_land_22 : decode cX7_land 22 = .ok (.getfield 9, 3) := by decide +kernel
theorem dX7_land_25 : decode cX7_land 25 = .ok (.iload_n 1, 1) := by decide +kernel
theorem dX7_land_26 : decode cX7_land 26 = .ok (.iaload, 1) := by decide +kernel
theorem dX7_land_27 : decode cX7_land 27 = .ok (.isub, 1) := by decide +kernel
theorem dX7_land_28 : decode cX7_land 28 = .ok (.invokestatic 58, 3) := by decide +kernel
theorem dX7_land_31 : decode cX7_land 31 = .ok (.putfield 42, 3) := by decide +kernel
theorem dX7_land_34 : decode cX7_land 34 = .ok (.aload_n 0, 1) := by decide +kernel
theorem dX7_land_35 : decode cX7_land 35 = .ok (.getfield 42, 3) := by decide +kernel
theorem dX7_land_38 : decode cX7_land 38 = .ok (.aload_n 0, 1) := by decide +kernel
theorem dX7_land_39 : decode cX7_land 39 = .ok (.getfield 15, 3) := by decide +kernel
theorem dX7_land_42 : decode cX7_land 42 = .ok (.getfield 68, 3) := by decide +kernel
theorem dX7_land_45 : decode cX7_land 45 = .ok (.aload_n 0, 1) := by decide +kernel
theorem dX7_land_46 : decode cX7_land 46 = .ok (.getfield 15, 3) := by decide +kernel
theorem dX7_land_49 : decode cX7_land 49 = .ok (.getfield 71, 3) := by decide +kernel
theorem dX7_land_52 : decode cX7_land 52 = .ok (.iload_n 1, 1) := by decide +kernel
theorem dX7_land_53 : decode cX7_land 53 = .ok (.iaload, 1) := by decide +kernel
theorem dX7_land_54 : decode cX7_land 54 = .ok (.iadd, 1) := by decide +kernel
theorem dX7_land_55 : decode cX7_land 55 = .ok (.if_icmp .gt 4, 3) := by decide +kernel
theorem dX7_land_58 : decode cX7_land 58 = .ok (.return_, 1) := by decide +kernel
theorem dX7_land_59 : decode cX7_land 59 = .ok (.aload_n 0, 1) := by decide +kernel
theorem dX7_land_60 : decode cX7_land 60 = .ok (.dup, 1) := by decide +kernel
theorem dX7_land_61 : decode cX7_land 61 = .ok (.getfield 48, 3) := by decide +kernel
theorem dX7_land_64 : decode cX7_land 64 = .ok (.iconst 1, 1) := by decide +kernel
theorem dX7_land_65 : decode cX7_land 65 = .ok (.iload_n 1, 1) := by decide +kernel
theorem dX7_land_66 : decode cX7_land 66 = .ok (.ishl, 1) := by decide +kernel
theorem dX7_land_67 : decode cX7_land 67 = .ok (.ior, 1) := by decide +kernel
theorem dX7_land_68 : decode cX7_land 68 = .ok (.putfield 48, 3) := by decide +kernel
theorem dX7_land_71 : decode cX7_land 71 = .ok (.aload_n 0, 1) := by decide +kernel
theorem dX7_land_72 : decode cX7_land 72 = .ok (.aload_n 0, 1) := by decide +kernel
theorem dX7_land_73 : decode cX7_land 73 = .ok (.getfield 42, 3) := by decide +kernel
theorem dX7_land_76 : decode cX7_land 76 = .ok (.aload_n 0, 1) := by decide +kernel
theorem dX7_land_77 : decode cX7_land 77 = .ok (.getfield 15, 3) := by decide +kernel
theorem dX7_land_80 : decode cX7_land 80 = .ok (.getfield 55, 3) := by decide +kernel
theorem dX7_land_83 : decode cX7_land 83 = .ok (.iload_n 1, 1) := by decide +kernel
theorem dX7_land_84 : decode cX7_land 84 = .ok (.iaload, 1) := by decide +kernel
theorem dX7_land_85 : decode cX7_land 85 = .ok (.iadd, 1) := by decide +kernel
theorem dX7_land_86 : decode cX7_land 86 = .ok (.iconst 2, 1) := by decide +kernel
theorem dX7_land_87 : decode cX7_land 87 = .ok (.aload_n 0, 1) := by decide +kernel
theorem dX7_land_88 : decode cX7_land 88 = .ok (.getfield 38, 3) := by decide +kernel
theorem dX7_land_91 : decode cX7_land 91 = .ok (.imul, 1) := by decide +kernel
theorem dX7_land_92 : decode cX7_land 92 = .ok (.isub, 1) := by decide +kernel
theorem dX7_land_93 : decode cX7_land 93 = .ok (.iconst 1, 1) := by decide +kernel
theorem dX7_land_94 : decode cX7_land 94 = .ok (.isub, 1) := by decide +kernel
theorem dX7_land_95 : decode cX7_land 95 = .ok (.invokestatic 58, 3) := by decide +kernel
theorem dX7_land_98 : decode cX7_land 98 = .ok (.putfield 42, 3) := by decide +kernel
theorem dX7_land_101 : decode cX7_land 101 = .ok (.aload_n 0, 1) := by decide +kernel
theorem dX7_land_102 : decode cX7_land 102 = .ok (.iload_n 1, 1) := by decide +kernel
theorem dX7_land_103 : decode cX7_land 103 = .ok (.iconst 1, 1) := by decide +kernel
theorem dX7_land_104 : decode cX7_land 104 = .ok (.iadd, 1) := by decide +kernel
theorem dX7_land_105 : decode cX7_land 105 = .ok (.putfield 39, 3) := by decide +kernel
theorem dX7_land_108 : decode cX7_land 108 = .ok (.iinc 1 1, 3) := by decide +kernel
theorem dX7_land_111 : decode cX7_land 111 = .ok (.goto (-106), 3) := by decide +kernel
theorem dX7_land_114 : decode cX7_land 114 = .ok (.aload_n 0, 1) := by decide +kernel
theorem dX7_land_115 : decode cX7_land 115 = .ok (.iconst 0, 1) := by decide +kernel
theorem dX7_land_116 : decode cX7_land 116 = .ok (.putfield 42, 3) := by decide +kernel
theorem dX7_land_119 : decode cX7_land 119 = .ok (.return_, 1) := by decide +kernel
theorem dX7_run_0 : decode cX7_run 0 = .ok (.aload_n 0, 1) := by decide +kernel
theorem dX7_run_1 : decode cX7_run 1 = .ok (.iload_n 1, 1) := by decide +kernel
theorem dX7_run_2 : decode cX7_run 2 = .ok (.iload_n 2, 1) := by decide +kernel
theorem dX7_run_3 : decode cX7_run 3 = .ok (.invokevirtual 74, 3) := by decide +kernel
theorem dX7_run_6 : decode cX7_run 6 = .ok (.iconst 0, 1) := by decide +kernel
theorem dX7_run_7 : decode cX7_run 7 = .ok (.istore_n 3, 1) := by decide +kernel
theorem dX7_run_8 : decode cX7_run 8 = .ok (.iload_n 3, 1) := by decide +kernel
theorem dX7_run_9 : decode cX7_run 9 = .ok (.bipush 9, 2) := by decide +kernel
theorem dX7_run_11 : decode cX7_run 11 = .ok (.if_icmp .ge 34, 3) := by decide +kernel
theorem dX7_run_14 : decode cX7_run 14 = .ok (.aload_n 0, 1) := by decide +kernel
theorem dX7_run_15 : decode cX7_run 15 = .ok (.getfield 42, 3) := by decide +kernel
theorem dX7_run_18 : decode cX7_run 18 = .ok (.ifCond .le 27, 3) := by decide +kernel
theorem dX7_run_21 : decode cX7_run 21 = .ok (.aload_n 0, 1) := by decide +kernel
theorem dX7_run_22 : decode cX7_run 22 = .ok (.getfield 15, 3) := by decide +kernel
theorem dX7_run_25 : decode cX7_run 25 = .ok (.aload_n 0, 1) := by decide +kernel
theorem dX7_run_26 : decode cX7_run 26 = .ok (.getfield 39, 3) := by decide +kernel
theorem dX7_run_29 : decode cX7_run 29 = .ok (.invokevirtual 51, 3) := by decide +kernel
theorem dX7_run_32 : decode cX7_run 32 = .ok (.ifCond .eq 13, 3) := by decide +kernel
theorem dX7_run_35 : decode cX7_run 35 = .ok (.aload_n 0, 1) := by decide +kernel
theorem dX7_run_36 : decode cX7_run 36 = .ok (.invokevirtual 78, 3) := by decide +kernel
theorem dX7_run_39 : decode cX7_run 39 = .ok (.iinc 3 1, 3) := by decide +kernel
theorem dX7_run_42 : decode cX7_run 42 = .ok (.goto (-34), 3) := by decide +kernel
theorem dX7_run_45 : decode cX7_run 45 = .ok (.aload_n 0, 1) := by decide +kernel
theorem dX7_run_46 : decode cX7_run 46 = .ok (.getfield 39, 3) := by decide +kernel
theorem dX7_run_49 : decode cX7_run 49 = .ok (.ireturn, 1) := by decide +kernel
theorem dX8_init_0 : decode cX8_init 0 = .ok (.aload_n 0, 1) := by decide +kernel
theorem dX8_init_1 : decode cX8_init 1 = .ok (.invokespecial 3, 3) := by decide +kernel
theorem dX8_init_4 : decode cX8_init 4 = .ok (.aload_n 0, 1) := by decide +kernel
theorem dX8_init_5 : decode cX8_init 5 = .ok (.new 9, 3) := by decide +kernel
theorem dX8_init_8 : decode cX8_init 8 = .ok (.dup, 1) := by decide +kernel
theorem dX8_init_9 : decode cX8_init 9 = .ok (.invokespecial 11, 3) := by decide +kernel
theorem dX8_init_12 : decode cX8_init 12 = .ok (.putfield 12, 3) := by decide +kernel
theorem dX8_init_15 : decode cX8_init 15 = .ok (.aload_n 0, 1) := by decide +kernel
theorem dX8_init_16 : decode cX8_init 16 = .ok (.new 16, 3) := by decide +kernel
theorem dX8_init_19 : decode cX8_init 19 = .ok (.dup, 1) := by decide +kernel
theorem dX8_init_20 : decode cX8_init 20 = .ok (.invokespecial 18, 3) := by decide +kernel
theorem dX8_init_23 : decode cX8_init 23 = .ok (.putfield 19, 3) := by decide +kernel
theorem dX8_init_26 : decode cX8_init 26 = .ok (.aload_n 0, 1) := by decide +kernel
theorem dX8_init_27 : decode cX8_init 27 = .ok (.new 23, 3) := by decide +kernel
theorem dX8_init_30 : decode cX8_init 30 = .ok (.dup, 1) := by decide +kernel
theorem dX8_init_31 : decode cX8_init 31 = .ok (.invokespecial 25, 3) := by decide +kernel
theorem dX8_init_34 : decode cX8_init 34 = .ok (.putfield 26, 3) := by decide +kernel
theorem dX8_init_37 : decode cX8_init 37 = .ok (.aload_n 0, 1) := by decide +kernel
theorem dX8_init_38 : decode cX8_init 38 = .ok (.new 30, 3) := by decide +kernel
theorem dX8_init_41 : decode cX8_init 41 = .ok (.dup, 1) := by decide +kernel
theorem dX8_init_42 : decode cX8_init 42 = .ok (.invokespecial 32, 3) := by decide +kernel
theorem dX8_init_45 : decode cX8_init 45 = .ok (.putfield 33, 3) := by decide +kernel
theorem dX8_init_48 : decode cX8_init 48 = .ok (.aload_n 0, 1) := by decide +kernel
theorem dX8_init_49 : decode cX8_init 49 = .ok (.iconst 2, 1) := by decide +kernel
theorem dX8_init_50 : decode cX8_init 50 = .ok (.anewarray 23, 3) := by decide +kernel
theorem dX8_init_53 : decode cX8_init 53 = .ok (.putfield 37, 3) := by decide +kernel
theorem dX8_init_56 : decode cX8_init 56 = .ok (.iconst 0, 1) := by decide +kernel
theorem dX8_init_57 : decode cX8_init 57 = .ok (.istore_n 1, 1) := by decide +kernel
theorem dX8_init_58 : decode cX8_init 58 = .ok (.iload_n 1, 1) := by decide +kernel
theorem dX8_init_59 : decode cX8_init 59 = .ok (.iconst 2, 1) := by decide +kernel
theorem dX8_init_60 : decode cX8_init 60 = .ok (.if_icmp .ge 22, 3) := by decide +kernel
theorem dX8_init_63 : decode cX8_init 63 = .ok (.aload_n 0, 1) := by decide +kernel
theorem dX8_init_64 : decode cX8_init 64 = .ok (.getfield 37, 3) := by decide +kernel
theorem dX8_init_67 : decode cX8_init 67 = .ok (.iload_n 1, 1) := by decide +kernel
theorem dX8_init_68 : decode cX8_init 68 = .ok (.new 23, 3) := by decide +kernel
theorem dX8_init_71 : decode cX8_init 71 = .ok (.dup, 1) := by decide +kernel
theorem dX8_init_72 : decode cX8_init 72 = .ok (.invokespecial 25, 3) := by decide +kernel
theorem dX8_init_75 : decode cX8_init 75 = .ok (.aastore, 1) := by decide +kernel
theorem dX8_init_76 : decode cX8_init 76 = .ok (.iinc 1 1, 3) := by decide +kernel
theorem dX8_init_79 : decode cX8_init 79 = .ok (.goto (-21), 3) := by decide +kernel
theorem dX8_init_82 : decode cX8_init 82 = .ok (.aload_n 0, 1) := by decide +kernel
theorem dX8_init_83 : decode cX8_init 83 = .ok (.iconst 2, 1) := by decide +kernel
theorem dX8_init_84 : decode cX8_init 84 = .ok (.newarray .boolean, 2) := by decide +kernel
theorem dX8_init_86 : decode cX8_init 86 = .ok (.putfield 41, 3) := by decide +kernel
theorem dX8_init_89 : decode cX8_init 89 = .ok (.aload_n 0, 1) := by decide +kernel
theorem dX8_init_90 : decode cX8_init 90 = .ok (.new 45, 3) := by decide +kernel
theorem dX8_init_93 : decode cX8_init 93 = .ok (.dup, 1) := by decide +kernel
theorem dX8_init_94 : decode cX8_init 94 = .ok (.aload_n 0, 1) := by decide +kernel
theorem dX8_init_95 : decode cX8_init 95 = .ok (.getfield 12, 3) := by decide +kernel
theorem dX8_init_98 : decode cX8_init 98 = .ok (.invokespecial 47, 3) := by decide +kernel
theorem dX8_init_101 : decode cX8_init 101 = .ok (.putfield 50, 3) := by decide +kernel
theorem dX8_init_104 : decode cX8_init 104 = .ok (.aload_n 0, 1) := by decide +kernel
theorem dX8_init_105 : decode cX8_init 105 = .ok (.new 54, 3) := by decide +kernel
theorem dX8_init_108 : decode cX8_init 108 = .ok (.dup, 1) := by decide +kernel
theorem dX8_init_109 : decode cX8_init 109 = .ok (.aload_n 0, 1) := by decide +kernel
theorem dX8_init_110 : decode cX8_init 110 = .ok (.getfield 50, 3) := by decide +kernel
theorem dX8_init_113 : decode cX8_init 113 = .ok (.invokespecial 56, 3) := by decide +kernel
theorem dX8_init_116 : decode cX8_init 116 = .ok (.putfield 59, 3) := by decide +kernel
theorem dX8_init_119 : decode cX8_init 119 = .ok (.aload_n 0, 1) := by decide +kernel
theorem dX8_init_120 : decode cX8_init 120 = .ok (.new 63, 3) := by decide +kernel
theorem dX8_init_123 : decode cX8_init 123 = .ok (.dup, 1) := by decide +kernel
theorem dX8_init_124 : decode cX8_init 124 = .ok (.aload_n 0, 1) := by decide +kernel
theorem dX8_init_125 : decode cX8_init 125 = .ok (.getfield 50, 3) := by decide +kernel
theorem dX8_init_128 : decode cX8_init 128 = .ok (.invokespecial 65, 3) := by decide +kernel
theorem dX8_init_131 : decode cX8_init 131 = .ok (.putfield 66, 3) := by decide +kernel
theorem dX8_init_134 : decode cX8_init 134 = .ok (.aload_n 0, 1) := by decide +kernel
theorem dX8_init_135 : decode cX8_init 135 = .ok (.new 70, 3) := by decide +kernel
theorem dX8_init_138 : decode cX8_init 138 = .ok (.dup, 1) := by decide +kernel
theorem dX8_init_139 : decode cX8_init 139 = .ok (.aload_n 0, 1) := by decide +kernel
theorem dX8_init_140 : decode cX8_init 140 = .ok (.getfield 50, 3) := by decide +kernel
theorem dX8_init_143 : decode cX8_init 143 = .ok (.invokespecial 72, 3) := by decide +kernel
theorem dX8_init_146 : decode cX8_init 146 = .ok (.putfield 73, 3) := by decide +kernel
theorem dX8_init_149 : decode cX8_init 149 = .ok (.aload_n 0, 1) := by decide +kernel
theorem dX8_init_150 : decode cX8_init 150 = .ok (.lconst 0, 1) := by decide +kernel
theorem dX8_init_151 : decode cX8_init 151 = .ok (.putfield 77, 3) := by decide +kernel
theorem dX8_init_154 : decode cX8_init 154 = .ok (.return_, 1) := by decide +kernel
theorem dX8_type_0 : decode cX8_type 0 = .ok (.iload_n 1, 1) := by decide +kernel
theorem dX8_type_1 : decode cX8_type 1 = .ok (.iconst 0, 1) := by decide +kernel
theorem dX8_type_2 : decode cX8_type 2 = .ok (.sipush 255, 3) := by decide +kernel
theorem dX8_type_5 : decode cX8_type 5 = .ok (.invokestatic 81, 3) := by decide +kernel
theorem dX8_type_8 : decode cX8_type 8 = .ok (.ifCond .ne 5, 3) := by decide +kernel
theorem dX8_type_11 : decode cX8_type 11 = .ok (.iconst (-1), 1) := by decide +kernel
theorem dX8_type_12 : decode cX8_type 12 = .ok (.ireturn, 1) := by decide +kernel
theorem dX8_type_13 : decode cX8_type 13 = .ok (.aload_n 0, 1) := by decide +kernel
theorem dX8_type_14 : decode cX8_type 14 = .ok (.getfield 19, 3) := by decide +kernel
theorem dX8_type_17 : decode cX8_type 17 = .ok (.iload_n 1, 1) := by decide +kernel
theorem dX8_type_18 : decode cX8_type 18 = .ok (.i2c, 1) := by decide +kernel
theorem dX8_type_19 : decode cX8_type 19 = .ok (.invokevirtual 85, 3) := by decide +kernel
theorem dX8_type_22 : decode cX8_type 22 = .ok (.ifCond .eq 13, 3) := by decide +kernel
theorem dX8_type_25 : decode cX8_type 25 = .ok (.aload_n 0, 1) := by decide +kernel
theorem dX8_type_26 : decode cX8_type 26 = .ok (.getfield 19, 3) := by decide +kernel
theorem dX8_type_29 : decode cX8_type 29 = .ok (.getfield 89, 3) := by decide +kernel
theorem dX8_type_32 : decode cX8_type 32 = .ok (.goto 5, 3) := by decide +kernel
theorem dX8_type_35 : decode cX8_type 35 = .ok (.bipush (-3), 2) := by decide +kernel
theorem dX8_type_37 : decode cX8_type 37 = .ok (.ireturn, 1) := by decide +kernel
theorem dX8_clear_0 : decode cX8_clear 0 = .ok (.aload_n 0, 1) := by decide +kernel
theorem dX8_clear_1 : decode cX8_clear 1 = .ok (.getfield 19, 3) := by decide +kernel
theorem dX8_clear_4 : decode cX8_clear 4 = .ok (.getfield 89, 3) := by decide +kernel
theorem dX8_clear_7 : decode cX8_clear 7 = .ok (.istore_n 1, 1) := by decide +kernel
theorem dX8_clear_8 : decode cX8_clear 8 = .ok (.aload_n 0, 1) := by decide +kernel
theorem dX8_clear_9 : decode cX8_clear 9 = .ok (.getfield 19, 3) := by decide +kernel
theorem dX8_clear_12 : decode cX8_clear 12 = .ok (.iconst 0, 1) := by decide +kernel
theorem dX8_clear_13 : decode cX8_clear 13 = .ok (.putfield 89, 3) := by decide +kernel
theorem dX8_clear_16 : decode cX8_clear 16 = .ok (.iload_n 1, 1) := by decide +kernel
theorem dX8_clear_17 : decode cX8_clear 17 = .ok (.ireturn, 1) := by decide +kernel
theorem dX8_stairs_0 : decode cX8_stairs 0 = .ok (.aload_n 0, 1) := by decide +kernel
theorem dX8_stairs_1 : decode cX8_stairs 1 = .ok (.getfield 19, 3) := by decide +kernel
theorem dX8_stairs_4 : decode cX8_stairs 4 = .ok (.invokevirtual 93, 3) := by decide +kernel
theorem dX8_stairs_7 : decode cX8_stairs 7 = .ok (.ifCond .ne 14, 3) := by decide +kernel
theorem dX8_stairs_10 : decode cX8_stairs 10 = .ok (.bipush (-10), 2) := by decide +kernel
theorem dX8_stairs_12 : decode cX8_stairs 12 = .ok (.aload_n 0, 1) := by decide +kernel
theorem dX8_stairs_13 : decode cX8_stairs 13 = .ok (.getfield 19, 3) := by decide +kernel
theorem dX8_stairs_16 : decode cX8_stairs 16 = .ok (.getfield 97, 3) := by decide +kernel
theorem dX8_stairs_19 : decode cX8_stairs 19 = .ok (.isub, 1) := by decide +kernel
theorem dX8_stairs_20 : decode cX8_stairs 20 = .ok (.ireturn, 1) := by decide +kernel
theorem dX8_stairs_21 : decode cX8_stairs 21 = .ok (.aload_n 0, 1) := by decide +kernel
theorem dX8_stairs_22 : decode cX8_stairs 22 = .ok (.getfield 12, 3) := by decide +kernel
theorem dX8_stairs_25 : decode cX8_stairs 25 = .ok (.aload_n 0, 1) := by decide +kernel
theorem dX8_stairs_26 : decode cX8_stairs 26 = .ok (.getfield 19, 3) := by decide +kernel
theorem dX8_stairs_29 : decode cX8_stairs 29 = .ok (.getfield 100, 3) := by decide +kernel
theorem dX8_stairs_32 : decode cX8_stairs 32 = .ok (.invokevirtual 103, 3) := by decide +kernel
theorem dX8_stairs_35 : decode cX8_stairs 35 = .ok (.aload_n 0, 1) := by decide +kernel
theorem dX8_stairs_36 : decode cX8_stairs 36 = .ok (.getfield 26, 3) := by decide +kernel
theorem dX8_stairs_39 : decode cX8_stairs 39 = .ok (.aload_n 0, 1) := by decide +kernel
theorem dX8_stairs_40 : decode cX8_stairs 40 = .ok (.getfield 12, 3) := by decide +kernel
theorem dX8_stairs_43 : decode cX8_stairs 43 = .ok (.invokevirtual 106, 3) := by decide +kernel
theorem dX8_stairs_46 : decode cX8_stairs 46 = .ok (.aload_n 0, 1) := by decide +kernel
theorem dX8_stairs_47 : decode cX8_stairs 47 = .ok (.getfield 33, 3) := by decide +kernel
theorem dX8_stairs_50 : decode cX8_stairs 50 = .ok (.iconst 0, 1) := by decide +kernel
theorem dX8_stairs_51 : decode cX8_stairs 51 = .ok (.putfield 109, 3) := by decide +kernel
theorem dX8_stairs_54 : decode cX8_stairs 54 = .ok (.aload_n 0, 1) := by decide +kernel
theorem dX8_stairs_55 : decode cX8_stairs 55 = .ok (.getfield 66, 3) := by decide +kernel
theorem dX8_stairs_58 : decode cX8_stairs 58 = .ok (.iconst 0, 1) := by decide +kernel
theorem dX8_stairs_59 : decode cX8_stairs 59 = .ok (.putfield 112, 3) := by decide +kernel
theorem dX8_stairs_62 : decode cX8_stairs 62 = .ok (.iconst 0, 1) := by decide +kernel
theorem dX8_stairs_63 : decode cX8_stairs 63 = .ok (.istore_n 1, 1) := by decide +kernel
theorem dX8_stairs_64 : decode cX8_stairs 64 = .ok (.iload_n 1, 1) := by decide +kernel
theorem dX8_stairs_65 : decode cX8_stairs 65 = .ok (.iconst 2, 1) := by decide +kernel
theorem dX8_stairs_66 : decode cX8_stairs 66 = .ok (.if_icmp .ge 16, 3) := by decide +kernel
theorem dX8_stairs_69 : decode cX8_stairs 69 = .ok (.aload_n 0, 1) := by decide +kernel
theorem dX8_stairs_70 : decode cX8_stairs 70 = .ok (.getfield 41, 3) := by decide +kernel
theorem dX8_stairs_73 : decode cX8_stairs 73 = .ok (.iload_n 1, 1) := by decide +kernel
theorem dX8_stairs_74 : decode cX8_stairs 74 = .ok (.iconst 0, 1) := by decide +kernel
theorem dX8_stairs_75 : decode cX8_stairs 75 = .ok (.bastore, 1) := by decide +kernel
theorem dX8_stairs_76 : decode cX8_stairs 76 = .ok (.iinc 1 1, 3) := by decide +kernel
theorem dX8_stairs_79 : decode cX8_stairs 79 = .ok (.goto (-15), 3) := by decide +kernel
theorem dX8_stairs_82 : decode cX8_stairs 82 = .ok (.aload_n 0, 1) := by decide +kernel
theorem dX8_stairs_83 : decode cX8_stairs 83 = .ok (.getfield 19, 3) := by decide +kernel
theorem dX8_stairs_86 : decode cX8_stairs 86 = .ok (.iconst 0, 1) := by decide +kernel
theorem dX8_stairs_87 : decode cX8_stairs 87 = .ok (.putfield 89, 3) := by decide +kernel
theorem dX8_stairs_90 : decode cX8_stairs 90 = .ok (.aload_n 0, 1) := by decide +kernel
theorem dX8_stairs_91 : decode cX8_stairs 91 = .ok (.getfield 19, 3) := by decide +kernel
theorem dX8_stairs_94 : decode cX8_stairs 94 = .ok (.getfield 115, 3) := by decide +kernel
theorem dX8_stairs_97 : decode cX8_stairs 97 = .ok (.ireturn, 1) := by decide +kernel
theorem dX8_step_0 : decode cX8_step 0 = .ok (.aload_n 0, 1) := by decide +kernel
theorem dX8_step_1 : decode cX8_step 1 = .ok (.getfield 12, 3) := by decide +kernel
theorem dX8_step_4 : decode cX8_step 4 = .ok (.iload_n 1, 1) := by decide +kernel
theorem dX8_step_5 : decode cX8_step 5 = .ok (.invokevirtual 118, 3) := by decide +kernel
theorem dX8_step_8 : decode cX8_step 8 = .ok (.ifCond .ne 5, 3) := by decide +kernel
theorem dX8_step_11 : decode cX8_step 11 = .ok (.iconst (-1), 1) := by decide +kernel
theorem dX8_step_12 : decode cX8_step 12 = .ok (.ireturn, 1) := by decide +kernel
theorem dX8_step_13 : decode cX8_step 13 = .ok (.iload_n 2, 1) := by decide +kernel
theorem dX8_step_14 : decode cX8_step 14 = .ok (.tableswitch 56 0 2 #[26, 36, 46], 26) := by decide +kernel
theorem dX8_step_40 : decode cX8_step 40 = .ok (.aload_n 0, 1) := by decide +kernel
theorem dX8_step_41 : decode cX8_step 41 = .ok (.getfield 12, 3) := by decide +kernel
theorem dX8_step_44 : decode cX8_step 44 = .ok (.getfield 122, 3) := by decide +kernel
theorem dX8_step_47 : decode cX8_step 47 = .ok (.iload_n 1, 1) := by decide +kernel
theorem dX8_step_48 : decode cX8_step 48 = .ok (.iaload, 1) := by decide +kernel
theorem dX8_step_49 : decode cX8_step 49 = .ok (.ireturn, 1) := by decide +kernel
theorem dX8_step_50 : decode cX8_step 50 = .ok (.aload_n 0, 1) := by decide +kernel
theorem dX8_step_51 : decode cX8_step 51 = .ok (.getfield 12, 3) := by decide +kernel
theorem dX8_step_54 : decode cX8_step 54 = .ok (.getfield 126, 3) := by decide +kernel
theorem dX8_step_57 : decode cX8_step 57 = .ok (.iload_n 1, 1) := by decide +kernel
theorem dX8_step_58 : decode cX8_step 58 = .ok (.iaload, 1) := by decide +kernel
theorem dX8_step_59 : decode cX8_step 59 = .ok (.ireturn, 1) := by decide +kernel
theorem dX8_step_60 : decode cX8_step 60 = .ok (.aload_n 0, 1) := by decide +kernel
theorem dX8_step_61 : decode cX8_step 61 = .ok (.getfield 26, 3) := by decide +kernel
theorem dX8_step_64 : decode cX8_step 64 = .ok (.getfield 129, 3) := by decide +kernel
theorem dX8_step_67 : decode cX8_step 67 = .ok (.iload_n 1, 1) := by decide +kernel
theorem dX8_step_68 : decode cX8_step 68 = .ok (.iaload, 1) := by decide +kernel
theorem dX8_step_69 : decode cX8_step 69 = .ok (.ireturn, 1) := by decide +kernel
theorem dX8_step_70 : decode cX8_step 70 = .ok (.iconst (-1), 1) := by decide +kernel
theorem dX8_step_71 : decode cX8_step 71 = .ok (.ireturn, 1) := by decide +kernel
theorem dX8_now_0 : decode cX8_now 0 = .ok (.iload_n 1, 1) := by decide +kernel
theorem dX8_now_1 : decode cX8_now 1 = .ok (.tableswitch 165 0 8 #[51, 59, 67, 75, 87, 107, 127, 142, 157], 51) := by decide +kernel
theorem dX8_now_52 : decode cX8_now 52 = .ok (.aload_n 0, 1) := by decide +kernel
theorem dX8_now_53 : decode cX8_now 53 = .ok (.getfield 26, 3) := by decide +kernel
theorem dX8_now_56 : decode cX8_now 56 = .ok (.getfield 132, 3) := by decide +kernel
theorem dX8_now_59 : decode cX8_now 59 = .ok (.ireturn, 1) := by decide +kernel
theorem dX8_now_60 : decode cX8_now 60 = .ok (.aload_n 0, 1) := by decide +kernel
theorem dX8_now_61 : decode cX8_now 61 = .ok (.getfield 26, 3) := by decide +kernel
theorem dX8_now_64 : decode cX8_now 64 = .ok (.getfield 135, 3) := by decide +kernel
theorem dX8_now_67 : decode cX8_now 67 = .ok (.ireturn, 1) := by decide +kernel
theorem dX8_now_68 : decode cX8_now 68 = .ok (.aload_n 0, 1) := by decide +kernel
theorem dX8_now_69 : decode cX8_now 69 = .ok (.getfield 26, 3) := by decide +kernel
