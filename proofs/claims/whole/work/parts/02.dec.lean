theorem dX0_init_0 : decode cX0_init 0 = .ok (.aload_n 0, 1) := by decide +kernel
theorem dX0_init_1 : decode cX0_init 1 = .ok (.invokespecial 3, 3) := by decide +kernel
theorem dX0_init_4 : decode cX0_init 4 = .ok (.aload_n 0, 1) := by decide +kernel
theorem dX0_init_5 : decode cX0_init 5 = .ok (.bipush 120, 2) := by decide +kernel
theorem dX0_init_7 : decode cX0_init 7 = .ok (.newarray .int, 2) := by decide +kernel
theorem dX0_init_9 : decode cX0_init 9 = .ok (.putfield 9, 3) := by decide +kernel
theorem dX0_init_12 : decode cX0_init 12 = .ok (.aload_n 0, 1) := by decide +kernel
theorem dX0_init_13 : decode cX0_init 13 = .ok (.bipush 120, 2) := by decide +kernel
theorem dX0_init_15 : decode cX0_init 15 = .ok (.newarray .int, 2) := by decide +kernel
theorem dX0_init_17 : decode cX0_init 17 = .ok (.putfield 15, 3) := by decide +kernel
theorem dX0_init_20 : decode cX0_init 20 = .ok (.aload_n 0, 1) := by decide +kernel
theorem dX0_init_21 : decode cX0_init 21 = .ok (.bipush 120, 2) := by decide +kernel
theorem dX0_init_23 : decode cX0_init 23 = .ok (.newarray .int, 2) := by decide +kernel
theorem dX0_init_25 : decode cX0_init 25 = .ok (.putfield 18, 3) := by decide +kernel
theorem dX0_init_28 : decode cX0_init 28 = .ok (.aload_n 0, 1) := by decide +kernel
theorem dX0_init_29 : decode cX0_init 29 = .ok (.bipush 120, 2) := by decide +kernel
theorem dX0_init_31 : decode cX0_init 31 = .ok (.newarray .boolean, 2) := by decide +kernel
theorem dX0_init_33 : decode cX0_init 33 = .ok (.putfield 21, 3) := by decide +kernel
theorem dX0_init_36 : decode cX0_init 36 = .ok (.aload_n 0, 1) := by decide +kernel
theorem dX0_init_37 : decode cX0_init 37 = .ok (.bipush 120, 2) := by decide +kernel
theorem dX0_init_39 : decode cX0_init 39 = .ok (.newarray .int, 2) := by decide +kernel
theorem dX0_init_41 : decode cX0_init 41 = .ok (.putfield 25, 3) := by decide +kernel
theorem dX0_init_44 : decode cX0_init 44 = .ok (.return_, 1) := by decide +kernel
theorem dX0_has_0 : decode cX0_has 0 = .ok (.iload_n 1, 1) := by decide +kernel
theorem dX0_has_1 : decode cX0_has 1 = .ok (.ifCond .lt 15, 3) := by decide +kernel
theorem dX0_has_4 : decode cX0_has 4 = .ok (.iload_n 1, 1) := by decide +kernel
theorem dX0_has_5 : decode cX0_has 5 = .ok (.aload_n 0, 1) := by decide +kernel
theorem dX0_has_6 : decode cX0_has 6 = .ok (.getfield 28, 3) := by decide +kernel
theorem dX0_has_9 : decode cX0_has 9 = .ok (.if_icmp .ge 7, 3) := by decide +kernel
theorem dX0_has_12 : decode cX0_has 12 = .ok (.iconst 1, 1) := by decide +kernel
theorem dX0_has_13 : decode cX0_has 13 = .ok (.goto 4, 3) := by decide +kernel
theorem dX0_has_16 : decode cX0_has 16 = .ok (.iconst 0, 1) := by decide +kernel
theorem dX0_has_17 : decode cX0_has 17 = .ok (.ireturn, 1) := by decide +kernel
theorem dX0_add_0 : decode cX0_add 0 = .ok (.aload_n 0, 1) := by decide +kernel
theorem dX0_add_1 : decode cX0_add 1 = .ok (.getfield 28, 3) := by decide +kernel
theorem dX0_add_4 : decode cX0_add 4 = .ok (.bipush 120, 2) := by decide +kernel
theorem dX0_add_6 : decode cX0_add 6 = .ok (.if_icmp .lt 7, 3) := by decide +kernel
theorem dX0_add_9 : decode cX0_add 9 = .ok (.sipush (-1004), 3) := by decide +kernel
theorem dX0_add_12 : decode cX0_add 12 = .ok (.ireturn, 1) := by decide +kernel
theorem dX0_add_13 : decode cX0_add 13 = .ok (.aload_n 0, 1) := by decide +kernel
theorem dX0_add_14 : decode cX0_add 14 = .ok (.getfield 28, 3) := by decide +kernel
theorem dX0_add_17 : decode cX0_add 17 = .ok (.istore 4, 2) := by decide +kernel
theorem dX0_add_19 : decode cX0_add 19 = .ok (.aload_n 0, 1) := by decide +kernel
theorem dX0_add_20 : decode cX0_add 20 = .ok (.getfield 9, 3) := by decide +kernel
theorem dX0_add_23 : decode cX0_add 23 = .ok (.iload 4, 2) := by decide +kernel
theorem dX0_add_25 : decode cX0_add 25 = .ok (.iload_n 1, 1) := by decide +kernel
theorem dX0_add_26 : decode cX0_add 26 = .ok (.iastore, 1) := by decide +kernel
theorem dX0_add_27 : decode cX0_add 27 = .ok (.aload_n 0, 1) := by decide +kernel
theorem dX0_add_28 : decode cX0_add 28 = .ok (.getfield 15, 3) := by decide +kernel
theorem dX0_add_31 : decode cX0_add 31 = .ok (.iload 4, 2) := by decide +kernel
theorem dX0_add_33 : decode cX0_add 33 = .ok (.iload_n 2, 1) := by decide +kernel
theorem dX0_add_34 : decode cX0_add 34 = .ok (.iastore, 1) := by decide +kernel
theorem dX0_add_35 : decode cX0_add 35 = .ok (.aload_n 0, 1) := by decide +kernel
theorem dX0_add_36 : decode cX0_add 36 = .ok (.getfield 18, 3) := by decide +kernel
theorem dX0_add_39 : decode cX0_add 39 = .ok (.iload 4, 2) := by decide +kernel
theorem dX0_add_41 : decode cX0_add 41 = .ok (.iload_n 3, 1) := by decide +kernel
theorem dX0_add_42 : decode cX0_add 42 = .ok (.iastore, 1) := by decide +kernel
theorem dX0_add_43 : decode cX0_add 43 = .ok (.iload 4, 2) := by decide +kernel
theorem dX0_add_45 : decode cX0_add 45 = .ok (.istore 5, 2) := by decide +kernel
theorem dX0_add_47 : decode cX0_add 47 = .ok (.iload 5, 2) := by decide +kernel
theorem dX0_add_49 : decode cX0_add 49 = .ok (.ifCond .le 43, 3) := by decide +kernel
theorem dX0_add_52 : decode cX0_add 52 = .ok (.aload_n 0, 1) := by decide +kernel
theorem dX0_add_53 : decode cX0_add 53 = .ok (.getfield 9, 3) := by decide +kernel
theorem dX0_add_56 : decode cX0_add 56 = .ok (.aload_n 0, 1) := by decide +kernel
theorem dX0_add_57 : decode cX0_add 57 = .ok (.getfield 25, 3) := by decide +kernel
theorem dX0_add_60 : decode cX0_add 60 = .ok (.iload 5, 2) := by decide +kernel
theorem dX0_add_62 : decode cX0_add 62 = .ok (.iconst 1, 1) := by decide +kernel
theorem dX0_add_63 : decode cX0_add 63 = .ok (.isub, 1) := by decide +kernel
theorem dX0_add_64 : decode cX0_add 64 = .ok (.iaload, 1) := by decide +kernel
theorem dX0_add_65 : decode cX0_add 65 = .ok (.iaload, 1) := by decide +kernel
theorem dX0_add_66 : decode cX0_add 66 = .ok (.iload_n 1, 1) := by decide +kernel
theorem dX0_add_67 : decode cX0_add 67 = .ok (.if_icmp .le 25, 3) := by decide +kernel
theorem dX0_add_70 : decode cX0_add 70 = .ok (.aload_n 0, 1) := by decide +kernel
theorem dX0_add_71 : decode cX0_add 71 = .ok (.getfield 25, 3) := by decide +kernel
theorem dX0_add_74 : decode cX0_add 74 = .ok (.iload 5, 2) := by decide +kernel
theorem dX0_add_76 : decode cX0_add 76 = .ok (.aload_n 0, 1) := by decide +kernel
theorem dX0_add_77 : decode cX0_add 77 = .ok (.getfield 25, 3) := by decide +kernel
theorem dX0_add_80 : decode cX0_add 80 = .ok (.iload 5, 2) := by decide +kernel
theorem dX0_add_82 : decode cX0_add 82 = .ok (.iconst 1, 1) := by decide +kernel
theorem dX0_add_83 : decode cX0_add 83 = .ok (.isub, 1) := by decide +kernel
theorem dX0_add_84 : decode cX0_add 84 = .ok (.iaload, 1) := by decide +kernel
theorem dX0_add_85 : decode cX0_add 85 = .ok (.iastore, 1) := by decide +kernel
theorem dX0_add_86 : decode cX0_add 86 = .ok (.iinc 5 (-1), 3) := by decide +kernel
theorem dX0_add_89 : decode cX0_add 89 = .ok (.goto (-42), 3) := by decide +kernel
theorem dX0_add_92 : decode cX0_add 92 = .ok (.aload_n 0, 1) := by decide +kernel
theorem dX0_add_93 : decode cX0_add 93 = .ok (.getfield 25, 3) := by decide +kernel
theorem dX0_add_96 : decode cX0_add 96 = .ok (.iload 5, 2) := by decide +kernel
theorem dX0_add_98 : decode cX0_add 98 = .ok (.iload 4, 2) := by decide +kernel
theorem dX0_add_100 : decode cX0_add 100 = .ok (.iastore, 1) := by decide +kernel
theorem dX0_add_101 : decode cX0_add 101 = .ok (.aload_n 0, 1) := by decide +kernel
theorem dX0_add_102 : decode cX0_add 102 = .ok (.dup, 1) := by decide +kernel
theorem dX0_add_103 : decode cX0_add 103 = .ok (.getfield 28, 3) := by decide +kernel
theorem dX0_add_106 : decode cX0_add 106 = .ok (.iconst 1, 1) := by decide +kernel
theorem dX0_add_107 : decode cX0_add 107 = .ok (.iadd, 1) := by decide +kernel
theorem dX0_add_108 : decode cX0_add 108 = .ok (.putfield 28, 3) := by decide +kernel
theorem dX0_add_111 : decode cX0_add 111 = .ok (.iload 4, 2) := by decide +kernel
theorem dX0_add_113 : decode cX0_add 113 = .ok (.ireturn, 1) := by decide +kernel
theorem dX1_init_0 : decode cX1_init 0 = .ok (.aload_n 0, 1) := by decide +kernel
theorem dX1_init_1 : decode cX1_init 1 = .ok (.invokespecial 3, 3) := by decide +kernel
theorem dX1_init_4 : decode cX1_init 4 = .ok (.aload_n 0, 1) := by decide +kernel
theorem dX1_init_5 : decode cX1_init 5 = .ok (.iconst 4, 1) := by decide +kernel
theorem dX1_init_6 : decode cX1_init 6 = .ok (.newarray .int, 2) := by decide +kernel
theorem dX1_init_8 : decode cX1_init 8 = .ok (.putfield 9, 3) := by decide +kernel
theorem dX1_init_11 : decode cX1_init 11 = .ok (.return_, 1) := by decide +kernel
theorem dX1_open_0 : decode cX1_open 0 = .ok (.aload_n 0, 1) := by decide +kernel
theorem dX1_open_1 : decode cX1_open 1 = .ok (.iload_n 1, 1) := by decide +kernel
theorem dX1_open_2 : decode cX1_open 2 = .ok (.putfield 15, 3) := by decide +kernel
theorem dX1_open_5 : decode cX1_open 5 = .ok (.aload_n 0, 1) := by decide +kernel
theorem dX1_open_6 : decode cX1_open 6 = .ok (.iload_n 2, 1) := by decide +kernel
theorem dX1_open_7 : decode cX1_open 7 = .ok (.putfield 19, 3) := by decide +kernel
theorem dX1_open_10 : decode cX1_open 10 = .ok (.aload_n 0, 1) := by decide +kernel
theorem dX1_open_11 : decode cX1_open 11 = .ok (.iload_n 3, 1) := by decide +kernel
theorem dX1_open_12 : decode cX1_open 12 = .ok (.putfield 23, 3) := by decide +kernel
theorem dX1_open_15 : decode cX1_open 15 = .ok (.aload_n 0, 1) := by decide +kernel
theorem dX1_open_16 : decode cX1_open 16 = .ok (.iconst 0, 1) := by decide +kernel
theorem dX1_open_17 : decode cX1_open 17 = .ok (.putfield 26, 3) := by decide +kernel
theorem dX1_open_20 : decode cX1_open 20 = .ok (.return_, 1) := by decide +kernel
theorem dX1_taking_0 : decode cX1_taking 0 = .ok (.iconst 0, 1) := by decide +kernel
theorem dX1_taking_1 : decode cX1_taking 1 = .ok (.istore_n 3, 1) := by decide +kernel
theorem dX1_taking_2 : decode cX1_taking 2 = .ok (.iconst 0, 1) := by decide +kernel
theorem dX1_taking_3 : decode cX1_taking 3 = .ok (.istore 4, 2) := by decide +kernel
theorem dX1_taking_5 : decode cX1_taking 5 = .ok (.iload 4, 2) := by decide +kernel
theorem dX1_taking_7 : decode cX1_taking 7 = .ok (.aload_n 0, 1) := by decide +kernel
theorem dX1_taking_8 : decode cX1_taking 8 = .ok (.getfield 26, 3) := by decide +kernel
theorem dX1_taking_11 : decode cX1_taking 11 = .ok (.if_icmp .ge 56, 3) := by decide +kernel
theorem dX1_taking_14 : decode cX1_taking 14 = .ok (.aload_n 0, 1) := by decide +kernel
theorem dX1_taking_15 : decode cX1_taking 15 = .ok (.getfield 9, 3) := by decide +kernel
theorem dX1_taking_18 : decode cX1_taking 18 = .ok (.iload 4, 2) := by decide +kernel
theorem dX1_taking_20 : decode cX1_taking 20 = .ok (.iaload, 1) := by decide +kernel
theorem dX1_taking_21 : decode cX1_taking 21 = .ok (.iload_n 2, 1) := by decide +kernel
theorem dX1_taking_22 : decode cX1_taking 22 = .ok (.if_icmp .ne 39, 3) := by decide +kernel
theorem dX1_taking_25 : decode cX1_taking 25 = .ok (.aload_n 0, 1) := by decide +kernel
theorem dX1_taking_26 : decode cX1_taking 26 = .ok (.getfield 15, 3) := by decide +kernel
theorem dX1_taking_29 : decode cX1_taking 29 = .ok (.ifCond .eq 12, 3) := by decide +kernel
theorem dX1_taking_32 : decode cX1_taking 32 = .ok (.getstatic 29, 3) := by decide +kernel
theorem dX1_taking_35 : decode cX1_taking 35 = .ok (.iload 4, 2) := by decide +kernel
theorem dX1_taking_37 : decode cX1_taking 37 = .ok (.iaload, 1) := by decide +kernel
theorem dX1_taking_38 : decode cX1_taking 38 = .ok (.goto 9, 3) := by decide +kernel
theorem dX1_taking_41 : decode cX1_taking 41 = .ok (.getstatic 32, 3) := by decide +kernel
theorem dX1_taking_44 : decode cX1_taking 44 = .ok (.iload 4, 2) := by decide +kernel
theorem dX1_taking_46 : decode cX1_taking 46 = .ok (.iaload, 1) := by decide +kernel
theorem dX1_taking_47 : decode cX1_taking 47 = .ok (.istore 5, 2) := by decide +kernel
theorem dX1_taking_49 : decode cX1_taking 49 = .ok (.iload_n 3, 1) := by decide +kernel
theorem dX1_taking_50 : decode cX1_taking 50 = .ok (.iload_n 1, 1) := by decide +kernel
theorem dX1_taking_51 : decode cX1_taking 51 = .ok (.iload 5, 2) := by decide +kernel
theorem dX1_taking_53 : decode cX1_taking 53 = .ok (.iand, 1) := by decide +kernel
theorem dX1_taking_54 : decode cX1_taking 54 = .ok (.iconst 1, 1) := by decide +kernel
theorem dX1_taking_55 : decode cX1_taking 55 = .ok (.iload 4, 2) := by decide +kernel
theorem dX1_taking_57 : decode cX1_taking 57 = .ok (.ishl, 1) := by decide +kernel
theorem dX1_taking_58 : decode cX1_taking 58 = .ok (.ishl, 1) := by decide +kernel
theorem dX1_taking_59 : decode cX1_taking 59 = .ok (.ior, 1) := by decide +kernel
theorem dX1_taking_60 : decode cX1_taking 60 = .ok (.istore_n 3, 1) := by decide +kernel
theorem dX1_taking_61 : decode cX1_taking 61 = .ok (.iinc 4 1, 3) := by decide +kernel
theorem dX1_taking_64 : decode cX1_taking 64 = .ok (.goto (-59), 3) := by decide +kernel
theorem dX1_taking_67 : decode cX1_taking 67 = .ok (.iload_n 3, 1) := by decide +kernel
theorem dX1_taking_68 : decode cX1_taking 68 = .ok (.ireturn, 1) := by decide +kernel
theorem dX1_depthOf_0 : decode cX1_depthOf 0 = .ok (.aload_n 0, 1) := by decide +kernel
theorem dX1_depthOf_1 : decode cX1_depthOf 1 = .ok (.getfield 26, 3) := by decide +kernel
theorem dX1_depthOf_4 : decode cX1_depthOf 4 = .ok (.istore_n 2, 1) := by decide +kernel
theorem dX1_depthOf_5 : decode cX1_depthOf 5 = .ok (.iload_n 2, 1) := by decide +kernel
theorem dX1_depthOf_6 : decode cX1_depthOf 6 = .ok (.ifCond .le 23, 3) := by decide +kernel
theorem dX1_depthOf_9 : decode cX1_depthOf 9 = .ok (.iload_n 1, 1) := by decide +kernel
theorem dX1_depthOf_10 : decode cX1_depthOf 10 = .ok (.ifCond .eq 19, 3) := by decide +kernel
theorem dX1_depthOf_13 : decode cX1_depthOf 13 = .ok (.iload_n 2, 1) := by decide +kernel
theorem dX1_depthOf_14 : decode cX1_depthOf 14 = .ok (.iload_n 1, 1) := by decide +kernel
theorem dX1_depthOf_15 : decode cX1_depthOf 15 = .ok (.invokestatic 35, 3) := by decide +kernel
theorem dX1_depthOf_18 : decode cX1_depthOf 18 = .ok (.ifCond .eq 5, 3) := by decide +kernel
theorem dX1_depthOf_21 : decode cX1_depthOf 21 = .ok (.iload_n 2, 1) := by decide +kernel
theorem dX1_depthOf_22 : decode cX1_depthOf 22 = .ok (.ireturn, 1) := by decide +kernel
theorem dX1_depthOf_23 : decode cX1_depthOf 23 = .ok (.iinc 2 (-1), 3) := by decide +kernel
theorem dX1_depthOf_26 : decode cX1_depthOf 26 = .ok (.goto (-21), 3) := by decide +kernel
theorem dX1_depthOf_29 : decode cX1_depthOf 29 = .ok (.iconst 0, 1) := by decide +kernel
theorem dX1_depthOf_30 : decode cX1_depthOf 30 = .ok (.ireturn, 1) := by decide +kernel
theorem dX1_hasFirst_0 : decode cX1_hasFirst 0 = .ok (.iload_n 1, 1) := by decide +kernel
theorem dX1_hasFirst_1 : decode cX1_hasFirst 1 = .ok (.iconst 1, 1) := by decide +kernel
theorem dX1_hasFirst_2 : decode cX1_hasFirst 2 = .ok (.iload_n 0, 1) := by decide +kernel
theorem dX1_hasFirst_3 : decode cX1_hasFirst 3 = .ok (.ishl, 1) := by decide +kernel
theorem dX1_hasFirst_4 : decode cX1_hasFirst 4 = .ok (.iconst 1, 1) := by decide +kernel
theorem dX1_hasFirst_5 : decode cX1_hasFirst 5 = .ok (.isub, 1) := by decide +kernel
theorem dX1_hasFirst_6 : decode cX1_hasFirst 6 = .ok (.ishr, 1) := by decide +kernel
theorem dX1_hasFirst_7 : decode cX1_hasFirst 7 = .ok (.iconst 1, 1) := by decide +kernel
theorem dX1_hasFirst_8 : decode cX1_hasFirst 8 = .ok (.iand, 1) := by decide +kernel
theorem dX1_hasFirst_9 : decode cX1_hasFirst 9 = .ok (.iconst 1, 1) := by decide +kernel
theorem dX1_hasFirst_10 : decode cX1_hasFirst 10 = .ok (.if_icmp .ne 7, 3) := by decide +kernel
theorem dX1_hasFirst_13 : decode cX1_hasFirst 13 = .ok (.iconst 1, 1) := by decide +kernel
theorem dX1_hasFirst_14 : decode cX1_hasFirst 14 = .ok (.goto 4, 3) := by decide +kernel
theorem dX1_hasFirst_17 : decode cX1_hasFirst 17 = .ok (.iconst 0, 1) := by decide +kernel
theorem dX1_hasFirst_18 : decode cX1_hasFirst 18 = .ok (.ireturn, 1) := by decide +kernel
theorem dX2_init_0 : decode cX2_init 0 = .ok (.aload_n 0, 1) := by decide +kernel
theorem dX2_init_1 : decode cX2_init 1 = .ok (.invokespecial 3, 3) := by decide +kernel
theorem dX2_init_4 : decode cX2_init 4 = .ok (.aload_n 0, 1) := by decide +kernel
theorem dX2_init_5 : decode cX2_init 5 = .ok (.bipush 120, 2) := by decide +kernel
theorem dX2_init_7 : decode cX2_init 7 = .ok (.newarray .int, 2) := by decide +kernel
theorem dX2_init_9 : decode cX2_init 9 = .ok (.putfield 9, 3) := by decide +kernel
theorem dX2_init_12 : decode cX2_init 12 = .ok (.aload_n 0, 1) := by decide +kernel
theorem dX2_init_13 : decode cX2_init 13 = .ok (.aload_n 1, 1) := by decide +kernel
theorem dX2_init_14 : decode cX2_init 14 = .ok (.putfield 15, 3) := by decide +kernel
theorem dX2_init_17 : decode cX2_init 17 = .ok (.return_, 1) := by decide +kernel
theorem dX2_has_0 : decode cX2_has 0 = .ok (.iload_n 1, 1) := by decide +kernel
theorem dX2_has_1 : decode cX2_has 1 = .ok (.ifCond .lt 15, 3) := by decide +kernel
theorem dX2_has_4 : decode cX2_has 4 = .ok (.iload_n 1, 1) := by decide +kernel
theorem dX2_has_5 : decode cX2_has 5 = .ok (.aload_n 0, 1) := by decide +kernel
theorem dX2_has_6 : decode cX2_has 6 = .ok (.getfield 19, 3) := by decide +kernel
theorem dX2_has_9 : decode cX2_has 9 = .ok (.if_icmp .ge 7, 3) := by decide +kernel
theorem dX2_has_12 : decode cX2_has 12 = .ok (.iconst 1, 1) := by decide +kernel
theorem dX2_has_13 : decode cX2_has 13 = .ok (.goto 4, 3) := by decide +kernel
theorem dX2_has_16 : decode cX2_has 16 = .ok (.iconst 0, 1) := by decide +kernel
theorem dX2_has_17 : decode cX2_has 17 = .ok (.ireturn, 1) := by decide +kernel
theorem dX2_timeAt_0 : decode cX2_timeAt 0 = .ok (.aload_n 0, 1) := by decide +kernel
theorem dX2_timeAt_1 : decode cX2_timeAt 1 = .ok (.iload_n 1, 1) := by decide +kernel
theorem dX2_timeAt_2 : decode cX2_timeAt 2 = .ok (.invokevirtual 23, 3) := by decide +kernel
theorem dX2_timeAt_5 : decode cX2_timeAt 5 = .ok (.ifCond .eq 20, 3) := by decide +kernel
theorem dX2_timeAt_8 : decode cX2_timeAt 8 = .ok (.aload_n 0, 1) := by decide +kernel
theorem dX2_timeAt_9 : decode cX2_timeAt 9 = .ok (.getfield 15, 3) := by decide +kernel
theorem dX2_timeAt_12 : decode cX2_timeAt 12 = .ok (.getfield 27, 3) := by decide +kernel
theorem dX2_timeAt_15 : decode cX2_timeAt 15 = .ok (.aload_n 0, 1) := by decide +kernel
theorem dX2_timeAt_16 : decode cX2_timeAt 16 = .ok (.getfield 9, 3) := by decide +kernel
theorem dX2_timeAt_19 : decode cX2_timeAt 19 = .ok (.iload_n 1, 1) := by decide +kernel
theorem dX2_timeAt_20 : decode cX2_timeAt 20 = .ok (.iaload, 1) := by decide +kernel
theorem dX2_timeAt_21 : decode cX2_timeAt 21 = .ok (.iaload, 1) := by decide +kernel
theorem dX2_timeAt_22 : decode cX2_timeAt 22 = .ok (.goto 4, 3) := by decide +kernel
theorem dX2_timeAt_25 : decode cX2_timeAt 25 = .ok (.iconst (-1), 1) := by decide +kernel
theorem dX2_timeAt_26 : decode cX2_timeAt 26 = .ok (.ireturn, 1) := by decide +kernel
theorem dX2_sortAt_0 : decode cX2_sortAt 0 = .ok (.aload_n 0, 1) := by decide +kernel
theorem dX2_sortAt_1 : decode cX2_sortAt 1 = .ok (.iload_n 1, 1) := by decide +kernel
theorem dX2_sortAt_2 : decode cX2_sortAt 2 = .ok (.invokevirtual 23, 3) := by decide +kernel
theorem dX2_sortAt_5 : decode cX2_sortAt 5 = .ok (.ifCond .eq 20, 3) := by decide +kernel
theorem dX2_sortAt_8 : decode cX2_sortAt 8 = .ok (.aload_n 0, 1) := by decide +kernel
theorem dX2_sortAt_9 : decode cX2_sortAt 9 = .ok (.getfield 15, 3) := by decide +kernel
theorem dX2_sortAt_12 : decode cX2_sortAt 12 = .ok (.getfield 32, 3) := by decide +kernel
theorem dX2_sortAt_15 : decode cX2_sortAt 15 = .ok (.aload_n 0, 1) := by decide +kernel
theorem dX2_sortAt_16 : decode cX2_sortAt 16 = .ok (.getfield 9, 3) := by decide +kernel
theorem dX2_sortAt_19 : decode cX2_sortAt 19 = .ok (.iload_n 1, 1) := by decide +kernel
theorem dX2_sortAt_20 : decode cX2_sortAt 20 = .ok (.iaload, 1) := by decide +kernel
theorem dX2_sortAt_21 : decode cX2_sortAt 21 = .ok (.iaload, 1) := by decide +kernel
theorem dX2_sortAt_22 : decode cX2_sortAt 22 = .ok (.goto 4, 3) := by decide +kernel
theorem dX2_sortAt_25 : decode cX2_sortAt 25 = .ok (.iconst (-1), 1) := by decide +kernel
theorem dX2_sortAt_26 : decode cX2_sortAt 26 = .ok (.ireturn, 1) := by decide +kernel
theorem dX2_empty_0 : decode cX2_empty 0 = .ok (.aload_n 0, 1) := by decide +kernel
theorem dX2_empty_1 : decode cX2_empty 1 = .ok (.iconst 0, 1) := by decide +kernel
theorem dX2_empty_2 : decode cX2_empty 2 = .ok (.putfield 19, 3) := by decide +kernel
theorem dX2_empty_5 : decode cX2_empty 5 = .ok (.aload_n 0, 1) := by decide +kernel
theorem dX2_empty_6 : decode cX2_empty 6 = .ok (.iconst 0, 1) := by decide +kernel
theorem dX2_empty_7 : decode cX2_empty 7 = .ok (.putfield 35, 3) := by decide +kernel
theorem dX2_empty_10 : decode cX2_empty 10 = .ok (.aload_n 0, 1) := by decide +kernel
theorem dX2_empty_11 : decode cX2_empty 11 = .ok (.iconst 0, 1) := by decide +kernel
theorem dX2_empty_12 : decode cX2_empty 12 = .ok (.putfield 38, 3) := by decide +kernel
theorem dX2_empty_15 : decode cX2_empty 15 = .ok (.aload_n 0, 1) := by decide +kernel
theorem dX2_empty_16 : decode cX2_empty 16 = .ok (.iconst 0, 1) := by decide +kernel
theorem dX2_empty_17 : decode cX2_empty 17 = .ok (.putfield 42, 3) := by decide +kernel
theorem dX2_empty_20 : decode cX2_empty 20 = .ok (.return_, 1) := by decide +kernel
theorem dX2_take_0 : decode cX2_take 0 = .ok (.aload_n 0, 1) := by decide +kernel
theorem dX2_take_1 : decode cX2_take 1 = .ok (.dup, 1) := by decide +kernel
theorem dX2_take_2 : decode cX2_take 2 = .ok (.getfield 35, 3) := by decide +kernel
theorem dX2_take_5 : decode cX2_take 5 = .ok (.iconst 1, 1) := by decide +kernel
theorem dX2_take_6 : decode cX2_take 6 = .ok (.iadd, 1) := by decide +kernel
theorem dX2_take_7 : decode cX2_take 7 = .ok (.putfield 35, 3) := by decide +kernel
theorem dX2_take_10 : decode cX2_take 10 = .ok (.aload_n 0, 1) := by decide +kernel
theorem dX2_take_11 : decode cX2_take 11 = .ok (.getfield 15, 3) := by decide +kernel
theorem dX2_take_14 : decode cX2_take 14 = .ok (.getfield 45, 3) := by decide +kernel
theorem dX2_take_17 : decode cX2_take 17 = .ok (.iload_n 1, 1) := by decide +kernel
theorem dX2_take_18 : decode cX2_take 18 = .ok (.baload, 1) := by decide +kernel
theorem dX2_take_19 : decode cX2_take 19 = .ok (.ifCond .ne 32, 3) := by decide +kernel
theorem dX2_take_22 : decode cX2_take 22 = .ok (.aload_n 0, 1) := by decide +kernel
theorem dX2_take_23 : decode cX2_take 23 = .ok (.getfield 19, 3) := by decide +kernel
theorem dX2_take_26 : decode cX2_take 26 = .ok (.bipush 120, 2) := by decide +kernel
theorem dX2_take_28 : decode cX2_take 28 = .ok (.if_icmp .ge 23, 3) := by decide +kernel
theorem dX2_take_31 : decode cX2_take 31 = .ok (.aload_n 0, 1) := by decide +kernel
theorem dX2_take_32 : decode cX2_take 32 = .ok (.getfield 9, 3) := by decide +kernel
theorem dX2_take_35 : decode cX2_take 35 = .ok (.aload_n 0, 1) := by decide +kernel
theorem dX2_take_36 : decode cX2_take 36 = .ok (.getfield 19, 3) := by decide +kernel
theorem dX2_take_39 : decode cX2_take 39 = .ok (.iload_n 1, 1) := by decide +kernel
theorem dX2_take_40 : decode cX2_take 40 = .ok (.iastore, 1) := by decide +kernel
theorem dX2_take_41 : decode cX2_take 41 = .ok (.aload_n 0, 1) := by decide +kernel
theorem dX2_take_42 : decode cX2_take 42 = .ok (.dup, 1) := by decide +kernel
theorem dX2_take_43 : decode cX2_take 43 = .ok (.getfield 19, 3) := by decide +kernel
theorem dX2_take_46 : decode cX2_take 46 = .ok (.iconst 1, 1) := by decide +kernel
theorem dX2_take_47 : decode cX2_take 47 = .ok (.iadd, 1) := by decide +kernel
theorem dX2_take_48 : decode cX2_take 48 = .ok (.putfield 19, 3) := by decide +kernel
theorem dX2_take_51 : decode cX2_take 51 = .ok (.return_, 1) := by decide +kernel
theorem dX2_dropIfQuick_0 : decode cX2_dropIfQuick 0 = .ok (.aload_n 0, 1) := by decide +kernel
theorem dX2_dropIfQuick_1 : decode cX2_dropIfQuick 1 = .ok (.aload_n 0, 1) := by decide +kernel
theorem dX2_dropIfQuick_2 : decode cX2_dropIfQuick 2 = .ok (.iload_n 1, 1) := by decide +kernel
theorem dX2_dropIfQuick_3 : decode cX2_dropIfQuick 3 = .ok (.iload_n 2, 1) := by decide +kernel
theorem dX2_dropIfQuick_4 : decode cX2_dropIfQuick 4 = .ok (.invokevirtual 49, 3) := by decide +kernel
theorem dX2_dropIfQuick_7 : decode cX2_dropIfQuick 7 = .ok (.putfield 38, 3) := by decide +kernel
theorem dX2_dropIfQuick_10 : decode cX2_dropIfQuick 10 = .ok (.aload_n 0, 1) := by decide +kernel
theorem dX2_dropIfQuick_11 : decode cX2_dropIfQuick 11 = .ok (.getfield 38, 3) := by decide +kernel
theorem dX2_dropIfQuick_14 : decode cX2_dropIfQuick 14 = .ok (.ifCond .eq 8, 3) := by decide +kernel
theorem dX2_dropIfQuick_17 : decode cX2_dropIfQuick 17 = .ok (.aload_n 0, 1) := by decide +kernel
theorem dX2_dropIfQuick_18 : decode cX2_dropIfQuick 18 = .ok (.iconst 0, 1) := by decide +kernel
theorem dX2_dropIfQuick_19 : decode cX2_dropIfQuick 19 = .ok (.putfield 19, 3) := by decide +kernel
theorem dX2_dropIfQuick_22 : decode cX2_dropIfQuick 22 = .ok (.return_, 1) := by decide +kernel
theorem dX2_isQuick_0 : decode cX2_isQuick 0 = .ok (.iload_n 1, 1) := by decide +kernel
theorem dX2_isQuick_1 : decode cX2_isQuick 1 = .ok (.ifCond .gt 5, 3) := by decide +kernel
theorem dX2_isQuick_4 : decode cX2_isQuick 4 = .ok (.iconst 0, 1) := by decide +kernel
theorem dX2_isQuick_5 : decode cX2_isQuick 5 = .ok (.ireturn, 1) := by decide +kernel
theorem dX2_isQuick_6 : decode cX2_isQuick 6 = .ok (.iload_n 1, 1) := by decide +kernel
theorem dX2_isQuick_7 : decode cX2_isQuick 7 = .ok (.istore_n 3, 1) := by decide +kernel
theorem dX2_isQuick_8 : decode cX2_isQuick 8 = .ok (.iload_n 3, 1) := by decide +kernel
theorem dX2_isQuick_9 : decode cX2_isQuick 9 = .ok (.aload_n 0, 1) := by decide +kernel
theorem dX2_isQuick_10 : decode cX2_isQuick 10 = .ok (.getfield 19, 3) := by decide +kernel
theorem dX2_isQuick_13 : decode cX2_isQuick 13 = .ok (.if_icmp .ge 28, 3) := by decide +kernel
theorem dX2_isQuick_16 : decode cX2_isQuick 16 = .ok (.aload_n 0, 1) := by decide +kernel
theorem dX2_isQuick_17 : decode cX2_isQuick 17 = .ok (.iload_n 3, 1) := by decide +kernel
theorem dX2_isQuick_18 : decode cX2_isQuick 18 = .ok (.invokevirtual 53, 3) := by decide +kernel
theorem dX2_isQuick_21 : decode cX2_isQuick 21 = .ok (.aload_n 0, 1) := by decide +kernel
theorem dX2_isQuick_22 : decode cX2_isQuick 22 = .ok (.iload_n 3, 1) := by decide +kernel
theorem dX2_isQuick_23 : decode cX2_isQuick 23 = .ok (.iload_n 1, 1) := by decide +kernel
theorem dX2_isQuick_24 : decode cX2_isQuick 24 = .ok (.isub, 1) := by decide +kernel
theorem dX2_isQuick_25 : decode cX2_isQuick 25 = .ok (.invokevirtual 53, 3) := by decide +kernel
theorem dX2_isQuick_28 : decode cX2_isQuick 28 = .ok (.isub, 1) := by decide +kernel
theorem dX2_isQuick_29 : decode cX2_isQuick 29 = .ok (.iload_n 2, 1) := by decide +kernel
theorem dX2_isQuick_30 : decode cX2_isQuick 30 = .ok (.if_icmp .ge 5, 3) := by decide +kernel
theorem dX2_isQuick_33 : decode cX2_isQuick 33 = .ok (.iconst 1, 1) := by decide +kernel
theorem dX2_isQuick_34 : decode cX2_isQuick 34 = .ok (.ireturn, 1) := by decide +kernel
theorem dX2_isQuick_35 : decode cX2_isQuick 35 = .ok (.iinc 3 1, 3) := by decide +kernel
theorem dX2_isQuick_38 : decode cX2_isQuick 38 = .ok (.goto (-30), 3) := by decide +kernel
theorem dX2_isQuick_41 : decode cX2_isQuick 41 = .ok (.iconst 0, 1) := by decide +kernel
theorem dX2_isQuick_42 : decode cX2_isQuick 42 = .ok (.ireturn, 1) := by decide +kernel
theorem dX2_birth_0 : decode cX2_birth 0 = .ok (.iconst 0, 1) := by decide +kernel
theorem dX2_birth_1 : decode cX2_birth 1 = .ok (.istore_n 2, 1) := by decide +kernel
theorem dX2_birth_2 : decode cX2_birth 2 = .ok (.iload_n 2, 1) := by decide +kernel
theorem dX2_birth_3 : decode cX2_birth 3 = .ok (.aload_n 0, 1) := by decide +kernel
theorem dX2_birth_4 : decode cX2_birth 4 = .ok (.getfield 19, 3) := by decide +kernel
theorem dX2_birth_7 : decode cX2_birth 7 = .ok (.if_icmp .ge 28, 3) := by decide +kernel
theorem dX2_birth_10 : decode cX2_birth 10 = .ok (.aload_n 0, 1) := by decide +kernel
theorem dX2_birth_11 : decode cX2_birth 11 = .ok (.iload_n 2, 1) := by decide +kernel
theorem dX2_birth_12 : decode cX2_birth 12 = .ok (.invokevirtual 57, 3) := by decide +kernel
theorem dX2_birth_15 : decode cX2_birth 15 = .ok (.iload_n 1, 1) := by decide +kernel
theorem dX2_birth_16 : decode cX2_birth 16 = .ok (.if_icmp .ne 13, 3) := by decide +kernel
theorem dX2_birth_19 : decode cX2_birth 19 = .ok (.aload_n 0, 1) := by decide +kernel
theorem dX2_birth_20 : decode cX2_birth 20 = .ok (.iload_n 2, 1) := by decide +kernel
theorem dX2_birth_21 : decode cX2_birth 21 = .ok (.invokevirtual 53, 3) := by decide +kernel
theorem dX2_birth_24 : decode cX2_birth 24 = .ok (.sipush 10080, 3) := by decide +kernel
theorem dX2_birth_27 : decode cX2_birth 27 = .ok (.idiv, 1) := by decide +kernel
theorem dX2_birth_28 : decode cX2_birth 28 = .ok (.ireturn, 1) := by decide +kernel
theorem dX2_birth_29 : decode cX2_birth 29 = .ok (.iinc 2 1, 3) := by decide +kernel
theorem dX2_birth_32 : decode cX2_birth 32 = .ok (.goto (-30), 3) := by decide +kernel
theorem dX2_birth_35 : decode cX2_birth 35 = .ok (.iconst (-1), 1) := by decide +kernel
theorem dX2_birth_36 : decode cX2_birth 36 = .ok (.ireturn, 1) := by decide +kernel
theorem dX2_isIn_0 : decode cX2_isIn 0 = .ok (.iconst 0, 1) := by decide +kernel
theorem dX2_isIn_1 : decode cX2_isIn 1 = .ok (.istore_n 2, 1) := by decide +kernel
theorem dX2_isIn_2 : decode cX2_isIn 2 = .ok (.iload_n 2, 1) := by decide +kernel
theorem dX2_isIn_3 : decode cX2_isIn 3 = .ok (.aload_n 0, 1) := by decide +kernel
theorem dX2_isIn_4 : decode cX2_isIn 4 = .ok (.getfield 19, 3) := by decide +kernel
theorem dX2_isIn_7 : decode cX2_isIn 7 = .ok (.if_icmp .ge 24, 3) := by decide +kernel
theorem dX2_isIn_10 : decode cX2_isIn 10 = .ok (.aload_n 0, 1) := by decide +kernel
theorem dX2_isIn_11 : decode cX2_isIn 11 = .ok (.iload_n 2, 1) := by decide +kernel
theorem dX2_isIn_12 : decode cX2_isIn 12 = .ok (.invokevirtual 53, 3) := by decide +kernel
theorem dX2_isIn_15 : decode cX2_isIn 15 = .ok (.sipush 10080, 3) := by decide +kernel
theorem dX2_isIn_18 : decode cX2_isIn 18 = .ok (.idiv, 1) := by decide +kernel
theorem dX2_isIn_19 : decode cX2_isIn 19 = .ok (.iload_n 1, 1) := by decide +kernel
theorem dX2_isIn_20 : decode cX2_isIn 20 = .ok (.if_icmp .ne 5, 3) := by decide +kernel
theorem dX2_isIn_23 : decode cX2_isIn 23 = .ok (.iconst 1, 1) := by decide +kernel
theorem dX2_isIn_24 : decode cX2_isIn 24 = .ok (.ireturn, 1) := by decide +kernel
theorem dX2_isIn_25 : decode cX2_isIn 25 = .ok (.iinc 2 1, 3) := by decide +kernel
theorem dX2_isIn_28 : decode cX2_isIn 28 = .ok (.goto (-26), 3) := by decide +kernel
theorem dX2_isIn_31 : decode cX2_isIn 31 = .ok (.iconst 0, 1) := by decide +kernel
theorem dX2_isIn_32 : decode cX2_isIn 32 = .ok (.ireturn, 1) := by decide +kernel
theorem dX3_init_0 : decode cX3_init 0 = .ok (.aload_n 0, 1) := by decide +kernel
theorem dX3_init_1 : decode cX3_init 1 = .ok (.invokespecial 3, 3) := by decide +kernel
theorem dX3_init_4 : decode cX3_init 4 = .ok (.aload_n 0, 1) := by decide +kernel
theorem dX3_init_5 : decode cX3_init 5 = .ok (.bipush 120, 2) := by decide +kernel
theorem dX3_init_7 : decode cX3_init 7 = .ok (.newarray .int, 2) := by decide +kernel
theorem dX3_init_9 : decode cX3_init 9 = .ok (.putfield 9, 3) := by decide +kernel
theorem dX3_init_12 : decode cX3_init 12 = .ok (.aload_n 0, 1) := by decide +kernel
theorem dX3_init_13 : decode cX3_init 13 = .ok (.bipush 120, 2) := by decide +kernel
theorem dX3_init_15 : decode cX3_init 15 = .ok (.newarray .int, 2) := by decide +kernel
theorem dX3_init_17 : decode cX3_init 17 = .ok (.putfield 15, 3) := by decide +kernel
theorem dX3_init_20 : decode cX3_init 20 = .ok (.return_, 1) := by decide +kernel
theorem dX3_tellWays_0 : decode cX3_tellWays 0 = .ok (.iconst 0, 1) := by decide +kernel
theorem dX3_tellWays_1 : decode cX3_tellWays 1 = .ok (.istore_n 3, 1) := by decide +kernel
theorem dX3_tellWays_2 : decode cX3_tellWays 2 = .ok (.iconst (-1), 1) := by decide +kernel
theorem dX3_tellWays_3 : decode cX3_tellWays 3 = .ok (.istore 4, 2) := by decide +kernel
theorem dX3_tellWays_5 : decode cX3_tellWays 5 = .ok (.iconst 0, 1) := by decide +kernel
theorem dX3_tellWays_6 : decode cX3_tellWays 6 = .ok (.istore 5, 2) := by decide +kernel
theorem dX3_tellWays_8 : decode cX3_tellWays 8 = .ok (.iload 5, 2) := by decide +kernel
theorem dX3_tellWays_10 : decode cX3_tellWays 10 = .ok (.aload_n 2, 1) := by decide +kernel
theorem dX3_tellWays_11 : decode cX3_tellWays 11 = .ok (.getfield 18, 3) := by decide +kernel
theorem dX3_tellWays_14 : decode cX3_tellWays 14 = .ok (.if_icmp .ge 76, 3) := by decide +kernel
theorem dX3_tellWays_17 : decode cX3_tellWays 17 = .ok (.aload_n 2, 1) := by decide +kernel
theorem dX3_tellWays_18 : decode cX3_tellWays 18 = .ok (.iload 5, 2) := by decide +kernel
theorem dX3_tellWays_20 : decode cX3_tellWays 20 = .ok (.invokevirtual 24, 3) := by decide +kernel
theorem dX3_tellWays_23 : decode cX3_tellWays 23 = .ok (.iload 4, 2) := by decide +kernel
theorem dX3_tellWays_25 : decode cX3_tellWays 25 = .ok (.if_icmp .le 59, 3) := by decide +kernel
theorem dX3_tellWays_28 : decode cX3_tellWays 28 = .ok (.aload_n 0, 1) := by decide +kernel
theorem dX3_tellWays_29 : decode cX3_tellWays 29 = .ok (.iload 5, 2) := by decide +kernel
theorem dX3_tellWays_31 : decode cX3_tellWays 31 = .ok (.aload_n 1, 1) := by decide +kernel
theorem dX3_tellWays_32 : decode cX3_tellWays 32 = .ok (.aload_n 2, 1) := by decide +kernel
theorem dX3_tellWays_33 : decode cX3_tellWays 33 = .ok (.invokevirtual 28, 3) := by decide +kernel
theorem dX3_tellWays_36 : decode cX3_tellWays 36 = .ok (.aload_n 0, 1) := by decide +kernel
theorem dX3_tellWays_37 : decode cX3_tellWays 37 = .ok (.getfield 32, 3) := by decide +kernel
theorem dX3_tellWays_40 : decode cX3_tellWays 40 = .ok (.iconst (-1), 1) := by decide +kernel
theorem dX3_tellWays_41 : decode cX3_tellWays 41 = .ok (.if_icmp .eq 43, 3) := by decide +kernel
theorem dX3_tellWays_44 : decode cX3_tellWays 44 = .ok (.iload_n 3, 1) := by decide +kernel
theorem dX3_tellWays_45 : decode cX3_tellWays 45 = .ok (.bipush 120, 2) := by decide +kernel
theorem dX3_tellWays_47 : decode cX3_tellWays 47 = .ok (.if_icmp .ge 37, 3) := by decide +kernel
theorem dX3_tellWays_50 : decode cX3_tellWays 50 = .ok (.aload_n 0, 1) := by decide +kernel
theorem dX3_tellWays_51 : decode cX3_tellWays 51 = .ok (.getfield 9, 3) := by decide +kernel
theorem dX3_tellWays_54 : decode cX3_tellWays 54 = .ok (.iload_n 3, 1) := by decide +kernel
theorem dX3_tellWays_55 : decode cX3_tellWays 55 = .ok (.iload 5, 2) := by decide +kernel
theorem dX3_tellWays_57 : decode cX3_tellWays 57 = .ok (.iastore, 1) := by decide +kernel
theorem dX3_tellWays_58 : decode cX3_tellWays 58 = .ok (.aload_n 0, 1) := by decide +kernel
theorem dX3_tellWays_59 : decode cX3_tellWays 59 = .ok (.getfield 15, 3) := by decide +kernel
theorem dX3_tellWays_62 : decode cX3_tellWays 62 = .ok (.iload_n 3, 1) := by decide +kernel
theorem dX3_tellWays_63 : decode cX3_tellWays 63 = .ok (.aload_n 0, 1) := by decide +kernel
theorem dX3_tellWays_64 : decode cX3_tellWays 64 = .ok (.getfield 32, 3) := by decide +kernel
theorem dX3_tellWays_67 : decode cX3_tellWays 67 = .ok (.iastore, 1) := by decide +kernel
theorem dX3_tellWays_68 : decode cX3_tellWays 68 = .ok (.iinc 3 1, 3) := by decide +kernel
theorem dX3_tellWays_71 : decode cX3_tellWays 71 = .ok (.aload_n 2, 1) := by decide +kernel
theorem dX3_tellWays_72 : decode cX3_tellWays 72 = .ok (.iload 5, 2) := by decide +kernel
theorem dX3_tellWays_74 : decode cX3_tellWays 74 = .ok (.invokevirtual 24, 3) := by decide +kernel
theorem dX3_tellWays_77 : decode cX3_tellWays 77 = .ok (.aload_n 1, 1) := by decide +kernel
theorem dX3_tellWays_78 : decode cX3_tellWays 78 = .ok (.getfield 35, 3) := by decide +kernel
theorem dX3_tellWays_81 : decode cX3_tellWays 81 = .ok (.iadd, 1) := by decide +kernel
theorem dX3_tellWays_82 : decode cX3_tellWays 82 = .ok (.istore 4, 2) := by decide +kernel
theorem dX3_tellWays_84 : decode cX3_tellWays 84 = .ok (.iinc 5 1, 3) := by decide +kernel
theorem dX3_tellWays_87 : decode cX3_tellWays 87 = .ok (.goto (-79), 3) := by decide +kernel
theorem dX3_tellWays_90 : decode cX3_tellWays 90 = .ok (.iload_n 3, 1) := by decide +kernel
theorem dX3_tellWays_91 : decode cX3_tellWays 91 = .ok (.ireturn, 1) := by decide +kernel
theorem dX3_farthest_0 : decode cX3_farthest 0 = .ok (.iconst 0, 1) := by decide +kernel
theorem dX3_farthest_1 : decode cX3_farthest 1 = .ok (.istore_n 3, 1) := by decide +kernel
theorem dX3_farthest_2 : decode cX3_farthest 2 = .ok (.iconst 0, 1) := by decide +kernel
theorem dX3_farthest_3 : decode cX3_farthest 3 = .ok (.istore 4, 2) := by decide +kernel
theorem dX3_farthest_5 : decode cX3_farthest 5 = .ok (.iload 4, 2) := by decide +kernel
theorem dX3_farthest_7 : decode cX3_farthest 7 = .ok (.aload_n 2, 1) := by decide +kernel
theorem dX3_farthest_8 : decode cX3_farthest 8 = .ok (.getfield 18, 3) := by decide +kernel
theorem dX3_farthest_11 : decode cX3_farthest 11 = .ok (.if_icmp .ge 34, 3) := by decide +kernel
theorem dX3_farthest_14 : decode cX3_farthest 14 = .ok (.iload_n 3, 1) := by decide +kernel
theorem dX3_farthest_15 : decode cX3_farthest 15 = .ok (.aload_n 1, 1) := by decide +kernel
theorem dX3_farthest_16 : decode cX3_farthest 16 = .ok (.getfield 40, 3) := by decide +kernel
theorem dX3_farthest_19 : decode cX3_farthest 19 = .ok (.if_icmp .ge 26, 3) := by decide +kernel
theorem dX3_farthest_22 : decode cX3_farthest 22 = .ok (.aload_n 0, 1) := by decide +kernel
theorem dX3_farthest_23 : decode cX3_farthest 23 = .ok (.iload 4, 2) := by decide +kernel
theorem dX3_farthest_25 : decode cX3_farthest 25 = .ok (.aload_n 1, 1) := by decide +kernel
theorem dX3_farthest_26 : decode cX3_farthest 26 = .ok (.aload_n 2, 1) := by decide +kernel
theorem dX3_farthest_27 : decode cX3_farthest 27 = .ok (.invokevirtual 28, 3) := by decide +kernel
theorem dX3_farthest_30 : decode cX3_farthest 30 = .ok (.iload_n 3, 1) := by decide +kernel
theorem dX3_farthest_31 : decode cX3_farthest 31 = .ok (.aload_n 0, 1) := by decide +kernel
theorem dX3_farthest_32 : decode cX3_farthest 32 = .ok (.getfield 41, 3) := by decide +kernel
theorem dX3_farthest_35 : decode cX3_farthest 35 = .ok (.invokestatic 44, 3) := by decide +kernel
theorem dX3_farthest_38 : decode cX3_farthest 38 = .ok (.istore_n 3, 1) := by decide +kernel
theorem dX3_farthest_39 : decode cX3_farthest 39 = .ok (.iinc 4 1, 3) := by decide +kernel
theorem dX3_farthest_42 : decode cX3_farthest 42 = .ok (.goto (-37), 3) := by decide +kernel
theorem dX3_farthest_45 : decode cX3_farthest 45 = .ok (.iload_n 3, 1) := by decide +kernel
theorem dX3_farthest_46 : decode cX3_farthest 46 = .ok (.ireturn, 1) := by decide +kernel
theorem dX3_seekFrom_0 : decode cX3_seekFrom 0 = .ok (.aload_n 0, 1) := by decide +kernel
theorem dX3_seekFrom_1 : decode cX3_seekFrom 1 = .ok (.iconst 0, 1) := by decide +kernel
theorem dX3_seekFrom_2 : decode cX3_seekFrom 2 = .ok (.putfield 41, 3) := by decide +kernel
theorem dX3_seekFrom_5 : decode cX3_seekFrom 5 = .ok (.aload_n 0, 1) := by decide +kernel
theorem dX3_seekFrom_6 : decode cX3_seekFrom 6 = .ok (.iconst (-1), 1) := by decide +kernel
theorem dX3_seekFrom_7 : decode cX3_seekFrom 7 = .ok (.putfield 32, 3) := by decide +kernel
theorem dX3_seekFrom_10 : decode cX3_seekFrom 10 = .ok (.iconst 1, 1) := by decide +kernel
theorem dX3_seekFrom_11 : decode cX3_seekFrom 11 = .ok (.istore 4, 2) := by decide +kernel
theorem dX3_seekFrom_13 : decode cX3_seekFrom 13 = .ok (.aload_n 3, 1) := by decide +kernel
theorem dX3_seekFrom_14 : decode cX3_seekFrom 14 = .ok (.iload_n 1, 1) := by decide +kernel
theorem dX3_seekFrom_15 : decode cX3_seekFrom 15 = .ok (.invokevirtual 24, 3) := by decide +kernel
theorem dX3_seekFrom_18 : decode cX3_seekFrom 18 = .ok (.aload_n 2, 1) := by decide +kernel
theorem dX3_seekFrom_19 : decode cX3_seekFrom 19 = .ok (.getfield 35, 3) := by decide +kernel
theorem dX3_seekFrom_22 : decode cX3_seekFrom 22 = .ok (.iadd, 1) := by decide +kernel
theorem dX3_seekFrom_23 : decode cX3_seekFrom 23 = .ok (.istore 5, 2) := by decide +kernel
theorem dX3_seekFrom_25 : decode cX3_seekFrom 25 = .ok (.iload_n 1, 1) := by decide +kernel
theorem dX3_seekFrom_26 : decode cX3_seekFrom 26 = .ok (.istore 6, 2) := by decide +kernel
theorem dX3_seekFrom_28 : decode cX3_seekFrom 28 = .ok (.iload 6, 2) := by decide +kernel
theorem dX3_seekFrom_30 : decode cX3_seekFrom 30 = .ok (.aload_n 3, 1) := by decide +kernel
theorem dX3_seekFrom_31 : decode cX3_seekFrom 31 = .ok (.getfield 18, 3) := by decide +kernel
theorem dX3_seekFrom_34 : decode cX3_seekFrom 34 = .ok (.if_icmp .ge 125, 3) := by decide +kernel
theorem dX3_seekFrom_37 : decode cX3_seekFrom 37 = .ok (.aload_n 3, 1) := by decide +kernel
theorem dX3_seekFrom_38 : decode cX3_seekFrom 38 = .ok (.iload 6, 2) := by decide +kernel
theorem dX3_seekFrom_40 : decode cX3_seekFrom 40 = .ok (.invokevirtual 24, 3) := by decide +kernel
theorem dX3_seekFrom_43 : decode cX3_seekFrom 43 = .ok (.iload 5, 2) := by decide +kernel
theorem dX3_seekFrom_45 : decode cX3_seekFrom 45 = .ok (.if_icmp .gt 114, 3) := by decide +kernel
theorem dX3_seekFrom_48 : decode cX3_seekFrom 48 = .ok (.aload_n 3, 1) := by decide +kernel
theorem dX3_seekFrom_49 : decode cX3_seekFrom 49 = .ok (.iload 6, 2) := by decide +kernel
theorem dX3_seekFrom_51 : decode cX3_seekFrom 51 = .ok (.invokevirtual 50, 3) := by decide +kernel
theorem dX3_seekFrom_54 : decode cX3_seekFrom 54 = .ok (.istore 7, 2) := by decide +kernel
theorem dX3_seekFrom_56 : decode cX3_seekFrom 56 = .ok (.aload_n 2, 1) := by decide +kernel
theorem dX3_seekFrom_57 : decode cX3_seekFrom 57 = .ok (.iload 4, 2) := by decide +kernel
theorem dX3_seekFrom_59 : decode cX3_seekFrom 59 = .ok (.iload 7, 2) := by decide +kernel
theorem dX3_seekFrom_61 : decode cX3_seekFrom 61 = .ok (.invokevirtual 53, 3) := by decide +kernel
theorem dX3_seekFrom_64 : decode cX3_seekFrom 64 = .ok (.istore 8, 2) := by decide +kernel
theorem dX3_seekFrom_66 : decode cX3_seekFrom 66 = .ok (.aload_n 0, 1) := by decide +kernel
theorem dX3_seekFrom_67 : decode cX3_seekFrom 67 = .ok (.aload_n 0, 1) := by decide +kernel
theorem dX3_seekFrom_68 : decode cX3_seekFrom 68 = .ok (.getfield 41, 3) := by decide +kernel
theorem dX3_seekFrom_71 : decode cX3_seekFrom 71 = .ok (.aload_n 2, 1) := by decide +kernel
theorem dX3_seekFrom_72 : decode cX3_seekFrom 72 = .ok (.iload 8, 2) := by decide +kernel
theorem dX3_seekFrom_74 : decode cX3_seekFrom 74 = .ok (.invokevirtual 56, 3) := by decide +kernel
theorem dX3_seekFrom_77 : decode cX3_seekFrom 77 = .ok (.invokestatic 44, 3) := by decide +kernel
theorem dX3_seekFrom_80 : decode cX3_seekFrom 80 = .ok (.putfield 41, 3) := by decide +kernel
theorem dX3_seekFrom_83 : decode cX3_seekFrom 83 = .ok (.aload_n 0, 1) := by decide +kernel
theorem dX3_seekFrom_84 : decode cX3_seekFrom 84 = .ok (.getfield 41, 3) := by decide +kernel
theorem dX3_seekFrom_87 : decode cX3_seekFrom 87 = .ok (.ifCond .le 21, 3) := by decide +kernel
theorem dX3_seekFrom_90 : decode cX3_seekFrom 90 = .ok (.aload_n 0, 1) := by decide +kernel
theorem dX3_seekFrom_91 : decode cX3_seekFrom 91 = .ok (.getfield 41, 3) := by decide +kernel
theorem dX3_seekFrom_94 : decode cX3_seekFrom 94 = .ok (.aload_n 2, 1) := by decide +kernel
theorem dX3_seekFrom_95 : decode cX3_seekFrom 95 = .ok (.getfield 40, 3) := by decide +kernel
theorem dX3_seekFrom_98 : decode cX3_seekFrom 98 = .ok (.if_icmp .ne 10, 3) := by decide +kernel
theorem dX3_seekFrom_101 : decode cX3_seekFrom 101 = .ok (.aload_n 0, 1) := by decide +kernel
theorem dX3_seekFrom_102 : decode cX3_seekFrom 102 = .ok (.iload 6, 2) := by decide +kernel
theorem dX3_seekFrom_104 : decode cX3_seekFrom 104 = .ok (.putfield 32, 3) := by decide +kernel
theorem dX3_seekFrom_107 : decode cX3_seekFrom 107 = .ok (.return_, 1) := by decide +kernel
theorem dX3_seekFrom_108 : decode cX3_seekFrom 108 = .ok (.iload 6, 2) := by decide +kernel
theorem dX3_seekFrom_110 : decode cX3_seekFrom 110 = .ok (.iload_n 1, 1) := by decide +kernel
theorem dX3_seekFrom_111 : decode cX3_seekFrom 111 = .ok (.if_icmp .eq 12, 3) := by decide +kernel
theorem dX3_seekFrom_114 : decode cX3_seekFrom 114 = .ok (.iload 7, 2) := by decide +kernel
theorem dX3_seekFrom_116 : decode cX3_seekFrom 116 = .ok (.aload_n 2, 1) := by decide +kernel
theorem dX3_seekFrom_117 : decode cX3_seekFrom 117 = .ok (.getfield 59, 3) := by decide +kernel
theorem dX3_seekFrom_120 : decode cX3_seekFrom 120 = .ok (.if_icmp .ne 7, 3) := by decide +kernel
theorem dX3_seekFrom_123 : decode cX3_seekFrom 123 = .ok (.iconst 1, 1) := by decide +kernel
theorem dX3_seekFrom_124 : decode cX3_seekFrom 124 = .ok (.goto 4, 3) := by decide +kernel
theorem dX3_seekFrom_127 : decode cX3_seekFrom 127 = .ok (.iconst 0, 1) := by decide +kernel
theorem dX3_seekFrom_128 : decode cX3_seekFrom 128 = .ok (.istore 9, 2) := by decide +kernel
theorem dX3_seekFrom_130 : decode cX3_seekFrom 130 = .ok (.iload 9, 2) := by decide +kernel
theorem dX3_seekFrom_132 : decode cX3_seekFrom 132 = .ok (.ifCond .eq 8, 3) := by decide +kernel
theorem dX3_seekFrom_135 : decode cX3_seekFrom 135 = .ok (.iload 8, 2) := by decide +kernel
theorem dX3_seekFrom_137 : decode cX3_seekFrom 137 = .ok (.goto 8, 3) := by decide +kernel
theorem dX3_seekFrom_140 : decode cX3_seekFrom 140 = .ok (.iload 4, 2) := by decide +kernel
theorem dX3_seekFrom_142 : decode cX3_seekFrom 142 = .ok (.iload 8, 2) := by decide +kernel
theorem dX3_seekFrom_144 : decode cX3_seekFrom 144 = .ok (.ior, 1) := by decide +kernel
theorem dX3_seekFrom_145 : decode cX3_seekFrom 145 = .ok (.istore 4, 2) := by decide +kernel
theorem dX3_seekFrom_147 : decode cX3_seekFrom 147 = .ok (.iload 4, 2) := by decide +kernel
theorem dX3_seekFrom_149 : decode cX3_seekFrom 149 = .ok (.ifCond .ne 4, 3) := by decide +kernel
theorem dX3_seekFrom_152 : decode cX3_seekFrom 152 = .ok (.return_, 1) := by decide +kernel
theorem dX3_seekFrom_153 : decode cX3_seekFrom 153 = .ok (.iinc 6 1, 3) := by decide +kernel
theorem dX3_seekFrom_156 : decode cX3_seekFrom 156 = .ok (.goto (-128), 3) := by decide +kernel
theorem dX3_seekFrom_159 : decode cX3_seekFrom 159 = .ok (.return_, 1) := by decide +kernel
theorem dX4_init_0 : decode cX4_init 0 = .ok (.aload_n 0, 1) := by decide +kernel
theorem dX4_init_1 : decode cX4_init 1 = .ok (.invokespecial 1, 3) := by decide +kernel
theorem dX4_init_4 : decode cX4_init 4 = .ok (.aload_n 0, 1) := by decide +kernel
theorem dX4_init_5 : decode cX4_init 5 = .ok (.new 7, 3) := by decide +kernel
theorem dX4_init_8 : decode cX4_init 8 = .ok (.dup, 1) := by decide +kernel
theorem dX4_init_9 : decode cX4_init 9 = .ok (.invokespecial 9, 3) := by decide +kernel
theorem dX4_init_12 : decode cX4_init 12 = .ok (.putfield 10, 3) := by decide +kernel
theorem dX4_init_15 : decode cX4_init 15 = .ok (.aload_n 0, 1) := by decide +kernel
theorem dX4_init_16 : decode cX4_init 16 = .ok (.bipush 24, 2) := by decide +kernel
theorem dX4_init_18 : decode cX4_init 18 = .ok (.newarray .int, 2) := by decide +kernel
theorem dX4_init_20 : decode cX4_init 20 = .ok (.putfield 16, 3) := by decide +kernel
theorem dX4_init_23 : decode cX4_init 23 = .ok (.aload_n 0, 1) := by decide +kernel
theorem dX4_init_24 : decode cX4_init 24 = .ok (.bipush 24, 2) := by decide +kernel
theorem dX4_init_26 : decode cX4_init 26 = .ok (.anewarray 20, 3) := by decide +kernel
theorem dX4_init_29 : decode cX4_init 29 = .ok (.putfield 22, 3) := by decide +kernel
theorem dX4_init_32 : decode cX4_init 32 = .ok (.iconst 0, 1) := by decide +kernel
theorem dX4_init_33 : decode cX4_init 33 = .ok (.istore_n 1, 1) := by decide +kernel
theorem dX4_init_34 : decode cX4_init 34 = .ok (.iload_n 1, 1) := by decide +kernel
theorem dX4_init_35 : decode cX4_init 35 = .ok (.bipush 24, 2) := by decide +kernel
theorem dX4_init_37 : decode cX4_init 37 = .ok (.if_icmp .ge 33, 3) := by decide +kernel
theorem dX4_init_40 : decode cX4_init 40 = .ok (.aload_n 0, 1) := by decide +kernel
theorem dX4_init_41 : decode cX4_init 41 = .ok (.getfield 16, 3) := by decide +kernel
theorem dX4_init_44 : decode cX4_init 44 = .ok (.iload_n 1, 1) := by decide +kernel
theorem dX4_init_45 : decode cX4_init 45 = .ok (.iload_n 1, 1) := by decide +kernel
theorem dX4_init_46 : decode cX4_init 46 = .ok (.iastore, 1) := by decide +kernel
theorem dX4_init_47 : decode cX4_init 47 = .ok (.aload_n 0, 1) := by decide +kernel
theorem dX4_init_48 : decode cX4_init 48 = .ok (.getfield 22, 3) := by decide +kernel
theorem dX4_init_51 : decode cX4_init 51 = .ok (.iload_n 1, 1) := by decide +kernel
theorem dX4_init_52 : decode cX4_init 52 = .ok (.new 20, 3) := by decide +kernel
theorem dX4_init_55 : decode cX4_init 55 = .ok (.dup, 1) := by decide +kernel
theorem dX4_init_56 : decode cX4_init 56 = .ok (.aload_n 0, 1) := by decide +kernel
theorem dX4_init_57 : decode cX4_init 57 = .ok (.getfield 10, 3) := by decide +kernel
theorem dX4_init_60 : decode cX4_init 60 = .ok (.invokespecial 26, 3) := by decide +kernel
theorem dX4_init_63 : decode cX4_init 63 = .ok (.aastore, 1) := by decide +kernel
theorem dX4_init_64 : decode cX4_init 64 = .ok (.iinc 1 1, 3) := by decide +kernel
theorem dX4_init_67 : decode cX4_init 67 = .ok (.goto (-33), 3) := by decide +kernel
theorem dX4_init_70 : decode cX4_init 70 = .ok (.aload_n 0, 1) := by decide +kernel
theorem dX4_init_71 : decode cX4_init 71 = .ok (.bipush 6, 2) := by decide +kernel
theorem dX4_init_73 : decode cX4_init 73 = .ok (.newarray .int, 2) := by decide +kernel
theorem dX4_init_75 : decode cX4_init 75 = .ok (.putfield 29, 3) := by decide +kernel
theorem dX4_init_78 : decode cX4_init 78 = .ok (.aload_n 0, 1) := by decide +kernel
theorem dX4_init_79 : decode cX4_init 79 = .ok (.getfield 29, 3) := by decide +kernel
theorem dX4_init_82 : decode cX4_init 82 = .ok (.iconst 0, 1) := by decide +kernel
theorem dX4_init_83 : decode cX4_init 83 = .ok (.bipush 30, 2) := by decide +kernel
theorem dX4_init_85 : decode cX4_init 85 = .ok (.iastore, 1) := by decide +kernel
theorem dX4_init_86 : decode cX4_init 86 = .ok (.aload_n 0, 1) := by decide +kernel
theorem dX4_init_87 : decode cX4_init 87 = .ok (.getfield 29, 3) := by decide +kernel
theorem dX4_init_90 : decode cX4_init 90 = .ok (.iconst 2, 1) := by decide +kernel
theorem dX4_init_91 : decode cX4_init 91 = .ok (.iconst (-1), 1) := by decide +kernel
theorem dX4_init_92 : decode cX4_init 92 = .ok (.iastore, 1) := by decide +kernel
theorem dX4_init_93 : decode cX4_init 93 = .ok (.aload_n 0, 1) := by decide +kernel
theorem dX4_init_94 : decode cX4_init 94 = .ok (.getfield 29, 3) := by decide +kernel
theorem dX4_init_97 : decode cX4_init 97 = .ok (.iconst 4, 1) := by decide +kernel
theorem dX4_init_98 : decode cX4_init 98 = .ok (.iconst 1, 1) := by decide +kernel
theorem dX4_init_99 : decode cX4_init 99 = .ok (.iastore, 1) := by decide +kernel
theorem dX4_init_100 : decode cX4_init 100 = .ok (.aload_n 0, 1) := by decide +kernel
theorem dX4_init_101 : decode cX4_init 101 = .ok (.bipush 120, 2) := by decide +kernel
theorem dX4_init_103 : decode cX4_init 103 = .ok (.newarray .int, 2) := by decide +kernel
theorem dX4_init_105 : decode cX4_init 105 = .ok (.putfield 32, 3) := by decide +kernel
theorem dX4_init_108 : decode cX4_init 108 = .ok (.aload_n 0, 1) := by decide +kernel
theorem dX4_init_109 : decode cX4_init 109 = .ok (.bipush 120, 2) := by decide +kernel
theorem dX4_init_111 : decode cX4_init 111 = .ok (.newarray .int, 2) := by decide +kernel
theorem dX4_init_113 : decode cX4_init 113 = .ok (.putfield 35, 3) := by decide +kernel
theorem dX4_init_116 : decode cX4_init 116 = .ok (.aload_n 0, 1) := by decide +kernel
theorem dX4_init_117 : decode cX4_init 117 = .ok (.bipush 6, 2) := by decide +kernel
theorem dX4_init_119 : decode cX4_init 119 = .ok (.anewarray 38, 3) := by decide +kernel
theorem dX4_init_122 : decode cX4_init 122 = .ok (.putfield 40, 3) := by decide +kernel
theorem dX4_init_125 : decode cX4_init 125 = .ok (.iconst 0, 1) := by decide +kernel
theorem dX4_init_126 : decode cX4_init 126 = .ok (.istore_n 1, 1) := by decide +kernel
theorem dX4_init_127 : decode cX4_init 127 = .ok (.iload_n 1, 1) := by decide +kernel
theorem dX4_init_128 : decode cX4_init 128 = .ok (.bipush 6, 2) := by decide +kernel
theorem dX4_init_130 : decode cX4_init 130 = .ok (.if_icmp .ge 22, 3) := by decide +kernel
theorem dX4_init_133 : decode cX4_init 133 = .ok (.aload_n 0, 1) := by decide +kernel
theorem dX4_init_134 : decode cX4_init 134 = .ok (.getfield 40, 3) := by decide +kernel
theorem dX4_init_137 : decode cX4_init 137 = .ok (.iload_n 1, 1) := by decide +kernel
theorem dX4_init_138 : decode cX4_init 138 = .ok (.new 38, 3) := by decide +kernel
theorem dX4_init_141 : decode cX4_init 141 = .ok (.dup, 1) := by decide +kernel
theorem dX4_init_142 : decode cX4_init 142 = .ok (.invokespecial 44, 3) := by decide +kernel
theorem dX4_init_145 : decode cX4_init 145 = .ok (.aastore, 1) := by decide +kernel
theorem dX4_init_146 : decode cX4_init 146 = .ok (.iinc 1 1, 3) := by decide +kernel
theorem dX4_init_149 : decode cX4_init 149 = .ok (.goto (-22), 3) := by decide +kernel
theorem dX4_init_152 : decode cX4_init 152 = .ok (.aload_n 0, 1) := by decide +kernel
theorem dX4_init_153 : decode cX4_init 153 = .ok (.iconst 0, 1) := by decide +kernel
theorem dX4_init_154 : decode cX4_init 154 = .ok (.putfield 45, 3) := by decide +kernel
theorem dX4_init_157 : decode cX4_init 157 = .ok (.aload_n 0, 1) := by decide +kernel
theorem dX4_init_158 : decode cX4_init 158 = .ok (.new 49, 3) := by decide +kernel
theorem dX4_init_161 : decode cX4_init 161 = .ok (.dup, 1) := by decide +kernel
theorem dX4_init_162 : decode cX4_init 162 = .ok (.invokespecial 51, 3) := by decide +kernel
theorem dX4_init_165 : decode cX4_init 165 = .ok (.putfield 52, 3) := by decide +kernel
theorem dX4_init_168 : decode cX4_init 168 = .ok (.return_, 1) := by decide +kernel
theorem dX4_click_0 : decode cX4_click 0 = .ok (.iload_n 2, 1) := by decide +kernel
theorem dX4_click_1 : decode cX4_click 1 = .ok (.invokestatic 56, 3) := by decide +kernel
theorem dX4_click_4 : decode cX4_click 4 = .ok (.ifCond .ne 7, 3) := by decide +kernel
theorem dX4_click_7 : decode cX4_click 7 = .ok (.sipush (-1001), 3) := by decide +kernel
theorem dX4_click_10 : decode cX4_click 10 = .ok (.ireturn, 1) := by decide +kernel
theorem dX4_click_11 : decode cX4_click 11 = .ok (.iload_n 1, 1) := by decide +kernel
theorem dX4_click_12 : decode cX4_click 12 = .ok (.ifCond .lt 16, 3) := by decide +kernel
theorem dX4_click_15 : decode cX4_click 15 = .ok (.iload_n 1, 1) := by decide +kernel
theorem dX4_click_16 : decode cX4_click 16 = .ok (.ldc 60, 2) := by decide +kernel
theorem dX4_click_18 : decode cX4_click 18 = .ok (.if_icmp .gt 10, 3) := by decide +kernel
theorem dX4_click_21 : decode cX4_click 21 = .ok (.iload_n 3, 1) := by decide +kernel
theorem dX4_click_22 : decode cX4_click 22 = .ok (.invokestatic 61, 3) := by decide +kernel
theorem dX4_click_25 : decode cX4_click 25 = .ok (.ifCond .ne 7, 3) := by decide +kernel
theorem dX4_click_28 : decode cX4_click 28 = .ok (.sipush (-1002), 3) := by decide +kernel
theorem dX4_click_31 : decode cX4_click 31 = .ok (.ireturn, 1) := by decide +kernel
theorem dX4_click_32 : decode cX4_click 32 = .ok (.aload_n 0, 1) := by decide +kernel
theorem dX4_click_33 : decode cX4_click 33 = .ok (.getfield 10, 3) := by decide +kernel
theorem dX4_click_36 : decode cX4_click 36 = .ok (.iload_n 1, 1) := by decide +kernel
theorem dX4_click_37 : decode cX4_click 37 = .ok (.iload_n 2, 1) := by decide +kernel
theorem dX4_click_38 : decode cX4_click 38 = .ok (.iload_n 3, 1) := by decide +kernel
theorem dX4_click_39 : decode cX4_click 39 = .ok (.invokevirtual 64, 3) := by decide +kernel
theorem dX4_click_42 : decode cX4_click 42 = .ok (.istore 4, 2) := by decide +kernel
theorem dX4_click_44 : decode cX4_click 44 = .ok (.iload 4, 2) := by decide +kernel
theorem dX4_click_46 : decode cX4_click 46 = .ok (.sipush (-1004), 3) := by decide +kernel
theorem dX4_click_49 : decode cX4_click 49 = .ok (.if_icmp .eq 7, 3) := by decide +kernel
theorem dX4_click_52 : decode cX4_click 52 = .ok (.aload_n 0, 1) := by decide +kernel
theorem dX4_click_53 : decode cX4_click 53 = .ok (.invokevirtual 68, 3) := by decide +kernel
theorem dX4_click_56 : decode cX4_click 56 = .ok (.iload 4, 2) := by decide +kernel
theorem dX4_click_58 : decode cX4_click 58 = .ok (.ireturn, 1) := by decide +kernel
theorem dX4_strike_0 : decode cX4_strike 0 = .ok (.aload_n 0, 1) := by decide +kernel
theorem dX4_strike_1 : decode cX4_strike 1 = .ok (.getfield 10, 3) := by decide +kernel
theorem dX4_strike_4 : decode cX4_strike 4 = .ok (.iload_n 1, 1) := by decide +kernel
theorem dX4_strike_5 : decode cX4_strike 5 = .ok (.invokevirtual 71, 3) := by decide +kernel
theorem dX4_strike_8 : decode cX4_strike 8 = .ok (.ifCond .ne 7, 3) := by decide +kernel
theorem dX4_strike_11 : decode cX4_strike 11 = .ok (.sipush (-1001), 3) := by decide +kernel
theorem dX4_strike_14 : decode cX4_strike 14 = .ok (.ireturn, 1) := by decide +kernel
theorem dX4_strike_15 : decode cX4_strike 15 = .ok (.aload_n 0, 1) := by decide +kernel
theorem dX4_strike_16 : decode cX4_strike 16 = .ok (.getfield 10, 3) := by decide +kernel
theorem dX4_strike_19 : decode cX4_strike 19 = .ok (.getfield 74, 3) := by decide +kernel
theorem dX4_strike_22 : decode cX4_strike 22 = .ok (.iload_n 1, 1) := by decide +kernel
theorem dX4_strike_23 : decode cX4_strike 23 = .ok (.baload, 1) := by decide +kernel
theorem dX4_strike_24 : decode cX4_strike 24 = .ok (.invokestatic 78, 3) := by decide +kernel
theorem dX4_strike_27 : decode cX4_strike 27 = .ok (.istore_n 3, 1) := by decide +kernel
theorem dX4_strike_28 : decode cX4_strike 28 = .ok (.aload_n 0, 1) := by decide +kernel
theorem dX4_strike_29 : decode cX4_strike 29 = .ok (.getfield 10, 3) := by decide +kernel
theorem dX4_strike_32 : decode cX4_strike 32 = .ok (.getfield 74, 3) := by decide +kernel
theorem dX4_strike_35 : decode cX4_strike 35 = .ok (.iload_n 1, 1) := by decide +kernel
theorem dX4_strike_36 : decode cX4_strike 36 = .ok (.iload_n 2, 1) := by decide +kernel
theorem dX4_strike_37 : decode cX4_strike 37 = .ok (.bastore, 1) := by decide +kernel
theorem dX4_strike_38 : decode cX4_strike 38 = .ok (.aload_n 0, 1) := by decide +kernel
theorem dX4_strike_39 : decode cX4_strike 39 = .ok (.invokevirtual 68, 3) := by decide +kernel
theorem dX4_strike_42 : decode cX4_strike 42 = .ok (.iload_n 3, 1) := by decide +kernel
theorem dX4_strike_43 : decode cX4_strike 43 = .ok (.ireturn, 1) := by decide +kernel
theorem dX4_join_0 : decode cX4_join 0 = .ok (.iload_n 1, 1) := by decide +kernel
theorem dX4_join_1 : decode cX4_join 1 = .ok (.invokestatic 56, 3) := by decide +kernel
theorem dX4_join_4 : decode cX4_join 4 = .ok (.ifCond .eq 17, 3) := by decide +kernel
theorem dX4_join_7 : decode cX4_join 7 = .ok (.iload_n 1, 1) := by decide +kernel
theorem dX4_join_8 : decode cX4_join 8 = .ok (.invokestatic 82, 3) := by decide +kernel
theorem dX4_join_11 : decode cX4_join 11 = .ok (.ifCond .ne 10, 3) := by decide +kernel
theorem dX4_join_14 : decode cX4_join 14 = .ok (.iload_n 2, 1) := by decide +kernel
theorem dX4_join_15 : decode cX4_join 15 = .ok (.invokestatic 82, 3) := by decide +kernel
theorem dX4_join_18 : decode cX4_join 18 = .ok (.ifCond .ne 7, 3) := by decide +kernel
theorem dX4_join_21 : decode cX4_join 21 = .ok (.sipush (-1001), 3) := by decide +kernel
theorem dX4_join_24 : decode cX4_join 24 = .ok (.ireturn, 1) := by decide +kernel
theorem dX4_join_25 : decode cX4_join 25 = .ok (.aload_n 0, 1) := by decide +kernel
theorem dX4_join_26 : decode cX4_join 26 = .ok (.iload_n 1, 1) := by decide +kernel
theorem dX4_join_27 : decode cX4_join 27 = .ok (.invokevirtual 85, 3) := by decide +kernel
theorem dX4_join_30 : decode cX4_join 30 = .ok (.ifCond .eq 7, 3) := by decide +kernel
theorem dX4_join_33 : decode cX4_join 33 = .ok (.sipush (-1003), 3) := by decide +kernel
theorem dX4_join_36 : decode cX4_join 36 = .ok (.ireturn, 1) := by decide +kernel
theorem dX4_join_37 : decode cX4_join 37 = .ok (.aload_n 0, 1) := by decide +kernel
theorem dX4_join_38 : decode cX4_join 38 = .ok (.getfield 22, 3) := by decide +kernel
theorem dX4_join_41 : decode cX4_join 41 = .ok (.iload_n 1, 1) := by decide +kernel
theorem dX4_join_42 : decode cX4_join 42 = .ok (.aaload, 1) := by decide +kernel
theorem dX4_join_43 : decode cX4_join 43 = .ok (.getfield 88, 3) := by decide +kernel
theorem dX4_join_46 : decode cX4_join 46 = .ok (.istore_n 3, 1) := by decide +kernel
theorem dX4_join_47 : decode cX4_join 47 = .ok (.aload_n 0, 1) := by decide +kernel
theorem dX4_join_48 : decode cX4_join 48 = .ok (.getfield 16, 3) := by decide +kernel
theorem dX4_join_51 : decode cX4_join 51 = .ok (.iload_n 1, 1) := by decide +kernel
theorem dX4_join_52 : decode cX4_join 52 = .ok (.iload_n 2, 1) := by decide +kernel
theorem dX4_join_53 : decode cX4_join 53 = .ok (.iastore, 1) := by decide +kernel
theorem dX4_join_54 : decode cX4_join 54 = .ok (.aload_n 0, 1) := by decide +kernel
theorem dX4_join_55 : decode cX4_join 55 = .ok (.invokevirtual 68, 3) := by decide +kernel
theorem dX4_join_58 : decode cX4_join 58 = .ok (.iload_n 3, 1) := by decide +kernel
theorem dX4_join_59 : decode cX4_join 59 = .ok (.ireturn, 1) := by decide +kernel
theorem dX4_rule_0 : decode cX4_rule 0 = .ok (.iload_n 1, 1) := by decide +kernel
theorem dX4_rule_1 : decode cX4_rule 1 = .ok (.ifCond .lt 27, 3) := by decide +kernel
theorem dX4_rule_4 : decode cX4_rule 4 = .ok (.iload_n 1, 1) := by decide +kernel
theorem dX4_rule_5 : decode cX4_rule 5 = .ok (.bipush 6, 2) := by decide +kernel
theorem dX4_rule_7 : decode cX4_rule 7 = .ok (.if_icmp .ge 21, 3) := by decide +kernel
theorem dX4_rule_10 : decode cX4_rule 10 = .ok (.iload_n 2, 1) := by decide +kernel
theorem dX4_rule_11 : decode cX4_rule 11 = .ok (.getstatic 91, 3) := by decide +kernel
theorem dX4_rule_14 : decode cX4_rule 14 = .ok (.iload_n 1, 1) := by decide +kernel
theorem dX4_rule_15 : decode cX4_rule 15 = .ok (.iaload, 1) := by decide +kernel
theorem dX4_rule_16 : decode cX4_rule 16 = .ok (.if_icmp .lt 12, 3) := by decide +kernel
theorem dX4_rule_19 : decode cX4_rule 19 = .ok (.iload_n 2, 1) := by decide +kernel
theorem dX4_rule_20 : decode cX4_rule 20 = .ok (.getstatic 94, 3) := by decide +kernel
theorem dX4_rule_23 : decode cX4_rule 23 = .ok (.iload_n 1, 1) := by decide +kernel
theorem dX4_rule_24 : decode cX4_rule 24 = .ok (.iaload, 1) := by decide +kernel
theorem dX4_rule_25 : decode cX4_rule 25 = .ok (.if_icmp .le 7, 3) := by decide +kernel
theorem dX4_rule_28 : decode cX4_rule 28 = .ok (.sipush (-1002), 3) := by decide +kernel
theorem dX4_rule_31 : decode cX4_rule 31 = .ok (.ireturn, 1) := by decide +kernel
theorem dX4_rule_32 : decode cX4_rule 32 = .ok (.aload_n 0, 1) := by decide +kernel
theorem dX4_rule_33 : decode cX4_rule 33 = .ok (.getfield 29, 3) := by decide +kernel
theorem dX4_rule_36 : decode cX4_rule 36 = .ok (.iload_n 1, 1) := by decide +kernel
theorem dX4_rule_37 : decode cX4_rule 37 = .ok (.iaload, 1) := by decide +kernel
theorem dX4_rule_38 : decode cX4_rule 38 = .ok (.istore_n 3, 1) := by decide +kernel
theorem dX4_rule_39 : decode cX4_rule 39 = .ok (.aload_n 0, 1) := by decide +kernel
theorem dX4_rule_40 : decode cX4_rule 40 = .ok (.getfield 29, 3) := by decide +kernel
theorem dX4_rule_43 : decode cX4_rule 43 = .ok (.iload_n 1, 1) := by decide +kernel
theorem dX4_rule_44 : decode cX4_rule 44 = .ok (.iload_n 2, 1) := by decide +kernel
theorem dX4_rule_45 : decode cX4_rule 45 = .ok (.iastore, 1) := by decide +kernel
theorem dX4_rule_46 : decode cX4_rule 46 = .ok (.aload_n 0, 1) := by decide +kernel
theorem dX4_rule_47 : decode cX4_rule 47 = .ok (.invokevirtual 68, 3) := by decide +kernel
theorem dX4_rule_50 : decode cX4_rule 50 = .ok (.iload_n 3, 1) := by decide +kernel
theorem dX4_rule_51 : decode cX4_rule 51 = .ok (.ireturn, 1) := by decide +kernel
theorem dX4_told_0 : decode cX4_told 0 = .ok (.aload_n 0, 1) := by decide +kernel
theorem dX4_told_1 : decode cX4_told 1 = .ok (.getfield 10, 3) := by decide +kernel
theorem dX4_told_4 : decode cX4_told 4 = .ok (.iload_n 1, 1) := by decide +kernel
theorem dX4_told_5 : decode cX4_told 5 = .ok (.invokevirtual 71, 3) := by decide +kernel
theorem dX4_told_8 : decode cX4_told 8 = .ok (.ifCond .ne 7, 3) := by decide +kernel
theorem dX4_told_11 : decode cX4_told 11 = .ok (.sipush (-1001), 3) := by decide +kernel
theorem dX4_told_14 : decode cX4_told 14 = .ok (.ireturn, 1) := by decide +kernel
theorem dX4_told_15 : decode cX4_told 15 = .ok (.iload_n 2, 1) := by decide +kernel
theorem dX4_told_16 : decode cX4_told 16 = .ok (.tableswitch 122 0 6 #[44, 54, 64, 74, 89, 108, 115], 44) := by decide +kernel
theorem dX4_told_60 : decode cX4_told 60 = .ok (.aload_n 0, 1) := by decide +kernel
theorem dX4_told_61 : decode cX4_told 61 = .ok (.getfield 10, 3) := by decide +kernel
theorem dX4_told_64 : decode cX4_told 64 = .ok (.getfield 97, 3) := by decide +kernel
theorem dX4_told_67 : decode cX4_told 67 = .ok (.iload_n 1, 1) := by decide +kernel
theorem dX4_told_68 : decode cX4_told 68 = .ok (.iaload, 1) := by decide +kernel
theorem dX4_told_69 : decode cX4_told 69 = .ok (.ireturn, 1) := by decide +kernel
theorem dX4_told_70 : decode cX4_told 70 = .ok (.aload_n 0, 1) := by decide +kernel
theorem dX4_told_71 : decode cX4_told 71 = .ok (.getfield 10, 3) := by decide +kernel
theorem dX4_told_74 : decode cX4_told 74 = .ok (.getfield 100, 3) := by decide +kernel
theorem dX4_told_77 : decode cX4_told 77 = .ok (.iload_n 1, 1) := by decide +kernel
theorem dX4_told_78 : decode cX4_told 78 = .ok (.iaload, 1) := by decide +kernel
theorem dX4_told_79 : decode cX4_told 79 = .ok (.ireturn, 1) := by decide +kernel
theorem dX4_told_80 : decode cX4_told 80 = .ok (.aload_n 0, 1) := by decide +kernel
theorem dX4_told_81 : decode cX4_told 81 = .ok (.getfield 10, 3) := by decide +kernel
theorem dX4_told_84 : decode cX4_told 84 = .ok (.getfield 103, 3) := by decide +kernel
theorem dX4_told_87 : decode cX4_told 87 = .ok (.iload_n 1, 1) := by decide +kernel
theorem dX4_told_88 : decode cX4_told 88 = .ok (.iaload, 1) := by decide +kernel
theorem dX4_told_89 : decode cX4_told 89 = .ok (.ireturn, 1) := by decide +kernel
theorem dX4_told_90 : decode cX4_told 90 = .ok (.aload_n 0, 1) := by decide +kernel
theorem dX4_told_91 : decode cX4_told 91 = .ok (.getfield 16, 3) := by decide +kernel
theorem dX4_told_94 : decode cX4_told 94 = .ok (.aload_n 0, 1) := by decide +kernel
theorem dX4_told_95 : decode cX4_told 95 = .ok (.getfield 10, 3) := by decide +kernel
theorem dX4_told_98 : decode cX4_told 98 = .ok (.getfield 100, 3) := by decide +kernel
theorem dX4_told_101 : decode cX4_told 101 = .ok (.iload_n 1, 1) := by decide +kernel
theorem dX4_told_102 : decode cX4_told 102 = .ok (.iaload, 1) := by decide +kernel
theorem dX4_told_103 : decode cX4_told 103 = .ok (.iaload, 1) := by decide +kernel
theorem dX4_told_104 : decode cX4_told 104 = .ok (.ireturn, 1) := by decide +kernel
theorem dX4_told_105 : decode cX4_told 105 = .ok (.aload_n 0, 1) := by decide +kernel
theorem dX4_told_106 : decode cX4_told 106 = .ok (.getfield 32, 3) := by decide +kernel
theorem dX4_told_109 : decode cX4_told 109 = .ok (.iload_n 1, 1) := by decide +kernel
theorem dX4_told_110 : decode cX4_told 110 = .ok (.iaload, 1) := by decide +kernel
theorem dX4_told_111 : decode cX4_told 111 = .ok (.iconst (-1), 1) := by decide +kernel
theorem dX4_told_112 : decode cX4_told 112 = .ok (.if_icmp .eq 7, 3) := by decide +kernel
theorem dX4_told_115 : decode cX4_told 115 = .ok (.iconst 1, 1) := by decide +kernel
theorem dX4_told_116 : decode cX4_told 116 = .ok (.goto 4, 3) := by decide +kernel
theorem dX4_told_119 : decode cX4_told 119 = .ok (.iconst 0, 1) := by decide +kernel
theorem dX4_told_120 : decode cX4_told 120 = .ok (.invokestatic 78, 3) := by decide +kernel
theorem dX4_told_123 : decode cX4_told 123 = .ok (.ireturn, 1) := by decide +kernel
theorem dX4_told_124 : decode cX4_told 124 = .ok (.aload_n 0, 1) := by decide +kernel
theorem dX4_told_125 : decode cX4_told 125 = .ok (.getfield 35, 3) := by decide +kernel
theorem dX4_told_128 : decode cX4_told 128 = .ok (.iload_n 1, 1) := by decide +kernel
theorem dX4_told_129 : decode cX4_told 129 = .ok (.iaload, 1) := by decide +kernel
theorem dX4_told_130 : decode cX4_told 130 = .ok (.ireturn, 1) := by decide +kernel
theorem dX4_told_131 : decode cX4_told 131 = .ok (.aload_n 0, 1) := by decide +kernel
theorem dX4_told_132 : decode cX4_told 132 = .ok (.getfield 32, 3) := by decide +kernel
theorem dX4_told_135 : decode cX4_told 135 = .ok (.iload_n 1, 1) := by decide +kernel
theorem dX4_told_136 : decode cX4_told 136 = .ok (.iaload, 1) := by decide +kernel
theorem dX4_told_137 : decode cX4_told 137 = .ok (.ireturn, 1) := by decide +kernel
theorem dX4_told_138 : decode cX4_told 138 = .ok (.sipush (-1002), 3) := by decide +kernel
theorem dX4_told_141 : decode cX4_told 141 = .ok (.ireturn, 1) := by decide +kernel
theorem dX4_person_0 : decode cX4_person 0 = .ok (.iload_n 1, 1) := by decide +kernel
theorem dX4_person_1 : decode cX4_person 1 = .ok (.invokestatic 56, 3) := by decide +kernel
theorem dX4_person_4 : decode cX4_person 4 = .ok (.ifCond .ne 7, 3) := by decide +kernel
theorem dX4_person_7 : decode cX4_person 7 = .ok (.sipush (-1001), 3) := by decide +kernel
theorem dX4_person_10 : decode cX4_person 10 = .ok (.ireturn, 1) := by decide +kernel
theorem dX4_person_11 : decode cX4_person 11 = .ok (.aload_n 0, 1) := by decide +kernel
theorem dX4_person_12 : decode cX4_person 12 = .ok (.getfield 22, 3) := by decide +kernel
theorem dX4_person_15 : decode cX4_person 15 = .ok (.aload_n 0, 1) := by decide +kernel
theorem dX4_person_16 : decode cX4_person 16 = .ok (.getfield 16, 3) := by decide +kernel
theorem dX4_person_19 : decode cX4_person 19 = .ok (.iload_n 1, 1) := by decide +kernel
theorem dX4_person_20 : decode cX4_person 20 = .ok (.iaload, 1) := by decide +kernel
theorem dX4_person_21 : decode cX4_person 21 = .ok (.aaload, 1) := by decide +kernel
theorem dX4_person_22 : decode cX4_person 22 = .ok (.astore_n 3, 1) := by decide +kernel
theorem dX4_person_23 : decode cX4_person 23 = .ok (.iload_n 2, 1) := by decide +kernel
theorem dX4_person_24 : decode cX4_person 24 = .ok (.tableswitch 81 0 5 #[40, 47, 52, 57, 65, 70], 40) := by decide +kernel
theorem dX4_person_64 : decode cX4_person 64 = .ok (.aload_n 0, 1) := by decide +kernel
theorem dX4_person_65 : decode cX4_person 65 = .ok (.getfield 16, 3) := by decide +kernel
theorem dX4_person_68 : decode cX4_person 68 = .ok (.iload_n 1, 1) := by decide +kernel
theorem dX4_person_69 : decode cX4_person 69 = .ok (.iaload, 1) := by decide +kernel
theorem dX4_person_70 : decode cX4_person 70 = .ok (.ireturn, 1) := by decide +kernel
theorem dX4_person_71 : decode cX4_person 71 = .ok (.aload_n 3, 1) := by decide +kernel
theorem dX4_person_72 : decode cX4_person 72 = .ok (.getfield 88, 3) := by decide +kernel
theorem dX4_person_75 : decode cX4_person 75 = .ok (.ireturn, 1) := by decide +kernel
theorem dX4_person_76 : decode cX4_person 76 = .ok (.aload_n 3, 1) := by decide +kernel
theorem dX4_person_77 : decode cX4_person 77 = .ok (.getfield 106, 3) := by decide +kernel
theorem dX4_person_80 : decode cX4_person 80 = .ok (.ireturn, 1) := by decide +kernel
theorem dX4_person_81 : decode cX4_person 81 = .ok (.aload_n 3, 1) := by decide +kernel
theorem dX4_person_82 : decode cX4_person 82 = .ok (.getfield 109, 3) := by decide +kernel
theorem dX4_person_85 : decode cX4_person 85 = .ok (.invokestatic 78, 3) := by decide +kernel
theorem dX4_person_88 : decode cX4_person 88 = .ok (.ireturn, 1) := by decide +kernel
theorem dX4_person_89 : decode cX4_person 89 = .ok (.aload_n 3, 1) := by decide +kernel
theorem dX4_person_90 : decode cX4_person 90 = .ok (.getfield 113, 3) := by decide +kernel
theorem dX4_person_93 : decode cX4_person 93 = .ok (.ireturn, 1) := by decide +kernel
theorem dX4_person_94 : decode cX4_person 94 = .ok (.aload_n 3, 1) := by decide +kernel
theorem dX4_person_95 : decode cX4_person 95 = .ok (.aload_n 0, 1) := by decide +kernel
theorem dX4_person_96 : decode cX4_person 96 = .ok (.getfield 29, 3) := by decide +kernel
theorem dX4_person_99 : decode cX4_person 99 = .ok (.iconst 5, 1) := by decide +kernel
theorem dX4_person_100 : decode cX4_person 100 = .ok (.iaload, 1) := by decide +kernel
theorem dX4_person_101 : decode cX4_person 101 = .ok (.invokevirtual 116, 3) := by decide +kernel
theorem dX4_person_104 : decode cX4_person 104 = .ok (.ireturn, 1) := by decide +kernel
theorem dX4_person_105 : decode cX4_person 105 = .ok (.sipush (-1002), 3) := by decide +kernel
theorem dX4_person_108 : decode cX4_person 108 = .ok (.ireturn, 1) := by decide +kernel
theorem dX4_row_0 : decode cX4_row 0 = .ok (.iload_n 1, 1) := by decide +kernel
theorem dX4_row_1 : decode cX4_row 1 = .ok (.invokestatic 56, 3) := by decide +kernel
theorem dX4_row_4 : decode cX4_row 4 = .ok (.ifCond .ne 7, 3) := by decide +kernel
theorem dX4_row_7 : decode cX4_row 7 = .ok (.sipush (-1001), 3) := by decide +kernel
theorem dX4_row_10 : decode cX4_row 10 = .ok (.ireturn, 1) := by decide +kernel
theorem dX4_row_11 : decode cX4_row 11 = .ok (.aload_n 0, 1) := by decide +kernel
theorem dX4_row_12 : decode cX4_row 12 = .ok (.getfield 22, 3) := by decide +kernel
theorem dX4_row_15 : decode cX4_row 15 = .ok (.aload_n 0, 1) := by decide +kernel
theorem dX4_row_16 : decode cX4_row 16 = .ok (.getfield 16, 3) := by decide +kernel
theorem dX4_row_19 : decode cX4_row 19 = .ok (.iload_n 1, 1) := by decide +kernel
theorem dX4_row_20 : decode cX4_row 20 = .ok (.iaload, 1) := by decide +kernel
theorem dX4_row_21 : decode cX4_row 21 = .ok (.aaload, 1) := by decide +kernel
theorem dX4_row_22 : decode cX4_row 22 = .ok (.astore_n 3, 1) := by decide +kernel
theorem dX4_row_23 : decode cX4_row 23 = .ok (.aload_n 3, 1) := by decide +kernel
theorem dX4_row_24 : decode cX4_row 24 = .ok (.iload_n 2, 1) := by decide +kernel
theorem dX4_row_25 : decode cX4_row 25 = .ok (.invokevirtual 120, 3) := by decide +kernel
theorem dX4_row_28 : decode cX4_row 28 = .ok (.ifCond .eq 12, 3) := by decide +kernel
theorem dX4_row_31 : decode cX4_row 31 = .ok (.aload_n 3, 1) := by decide +kernel
theorem dX4_row_32 : decode cX4_row 32 = .ok (.getfield 121, 3) := by decide +kernel
theorem dX4_row_35 : decode cX4_row 35 = .ok (.iload_n 2, 1) := by decide +kernel
theorem dX4_row_36 : decode cX4_row 36 = .ok (.iaload, 1) := by decide +kernel
theorem dX4_row_37 : decode cX4_row 37 = .ok (.goto 4, 3) := by decide +kernel
theorem dX4_row_40 : decode cX4_row 40 = .ok (.iconst (-1), 1) := by decide +kernel
theorem dX4_row_41 : decode cX4_row 41 = .ok (.ireturn, 1) := by decide +kernel
theorem dX4_sitting_0 : decode cX4_sitting 0 = .ok (.iload_n 1, 1) := by decide +kernel
theorem dX4_sitting_1 : decode cX4_sitting 1 = .ok (.invokestatic 56, 3) := by decide +kernel
theorem dX4_sitting_4 : decode cX4_sitting 4 = .ok (.ifCond .ne 7, 3) := by decide +kernel
theorem dX4_sitting_7 : decode cX4_sitting 7 = .ok (.sipush (-1001), 3) := by decide +kernel
theorem dX4_sitting_10 : decode cX4_sitting 10 = .ok (.ireturn, 1) := by decide +kernel
theorem dX4_sitting_11 : decode cX4_sitting 11 = .ok (.aload_n 0, 1) := by decide +kernel
theorem dX4_sitting_12 : decode cX4_sitting 12 = .ok (.getfield 22, 3) := by decide +kernel
theorem dX4_sitting_15 : decode cX4_sitting 15 = .ok (.aload_n 0, 1) := by decide +kernel
theorem dX4_sitting_16 : decode cX4_sitting 16 = .ok (.getfield 16, 3) := by decide +kernel
theorem dX4_sitting_19 : decode cX4_sitting 19 = .ok (.iload_n 1, 1) := by decide +kernel
theorem dX4_sitting_20 : decode cX4_sitting 20 = .ok (.iaload, 1) := by decide +kernel
theorem dX4_sitting_21 : decode cX4_sitting 21 = .ok (.aaload, 1) := by decide +kernel
theorem dX4_sitting_22 : decode cX4_sitting 22 = .ok (.astore 4, 2) := by decide +kernel
theorem dX4_sitting_24 : decode cX4_sitting 24 = .ok (.iconst (-1), 1) := by decide +kernel
theorem dX4_sitting_25 : decode cX4_sitting 25 = .ok (.istore 5, 2) := by decide +kernel
theorem dX4_sitting_27 : decode cX4_sitting 27 = .ok (.iconst (-1), 1) := by decide +kernel
theorem dX4_sitting_28 : decode cX4_sitting 28 = .ok (.istore 6, 2) := by decide +kernel
theorem dX4_sitting_30 : decode cX4_sitting 30 = .ok (.iconst 0, 1) := by decide +kernel
theorem dX4_sitting_31 : decode cX4_sitting 31 = .ok (.istore 7, 2) := by decide +kernel
theorem dX4_sitting_33 : decode cX4_sitting 33 = .ok (.iconst 0, 1) := by decide +kernel
theorem dX4_sitting_34 : decode cX4_sitting 34 = .ok (.istore 8, 2) := by decide +kernel
theorem dX4_sitting_36 : decode cX4_sitting 36 = .ok (.iload 8, 2) := by decide +kernel
theorem dX4_sitting_38 : decode cX4_sitting 38 = .ok (.aload 4, 2) := by decide +kernel
theorem dX4_sitting_40 : decode cX4_sitting 40 = .ok (.getfield 106, 3) := by decide +kernel
theorem dX4_sitting_43 : decode cX4_sitting 43 = .ok (.if_icmp .ge 51, 3) := by decide +kernel
theorem dX4_sitting_46 : decode cX4_sitting 46 = .ok (.aload 4, 2) := by decide +kernel
theorem dX4_sitting_48 : decode cX4_sitting 48 = .ok (.getfield 121, 3) := by decide +kernel
theorem dX4_sitting_51 : decode cX4_sitting 51 = .ok (.iload 8, 2) := by decide +kernel
theorem dX4_sitting_53 : decode cX4_sitting 53 = .ok (.iaload, 1) := by decide +kernel
theorem dX4_sitting_54 : decode cX4_sitting 54 = .ok (.istore 9, 2) := by decide +kernel
theorem dX4_sitting_56 : decode cX4_sitting 56 = .ok (.aload_n 0, 1) := by decide +kernel
theorem dX4_sitting_57 : decode cX4_sitting 57 = .ok (.getfield 35, 3) := by decide +kernel
theorem dX4_sitting_60 : decode cX4_sitting 60 = .ok (.iload 9, 2) := by decide +kernel
theorem dX4_sitting_62 : decode cX4_sitting 62 = .ok (.iaload, 1) := by decide +kernel
theorem dX4_sitting_63 : decode cX4_sitting 63 = .ok (.iload_n 2, 1) := by decide +kernel
theorem dX4_sitting_64 : decode cX4_sitting 64 = .ok (.if_icmp .ne 24, 3) := by decide +kernel
theorem dX4_sitting_67 : decode cX4_sitting 67 = .ok (.iload 7, 2) := by decide +kernel
theorem dX4_sitting_69 : decode cX4_sitting 69 = .ok (.ifCond .ne 8, 3) := by decide +kernel
theorem dX4_sitting_72 : decode cX4_sitting 72 = .ok (.iload 9, 2) := by decide +kernel
theorem dX4_sitting_74 : decode cX4_sitting 74 = .ok (.goto 5, 3) := by decide +kernel
theorem dX4_sitting_77 : decode cX4_sitting 77 = .ok (.iload 5, 2) := by decide +kernel
theorem dX4_sitting_79 : decode cX4_sitting 79 = .ok (.istore 5, 2) := by decide +kernel
theorem dX4_sitting_81 : decode cX4_sitting 81 = .ok (.iload 9, 2) := by decide +kernel
theorem dX4_sitting_83 : decode cX4_sitting 83 = .ok (.istore 6, 2) := by decide +kernel
theorem dX4_sitting_85 : decode cX4_sitting 85 = .ok (.iinc 7 1, 3) := by decide +kernel
theorem dX4_sitting_88 : decode cX4_sitting 88 = .ok (.iinc 8 1, 3) := by decide +kernel
theorem dX4_sitting_91 : decode cX4_sitting 91 = .ok (.goto (-55), 3) := by decide +kernel
theorem dX4_sitting_94 : decode cX4_sitting 94 = .ok (.iload 7, 2) := by decide +kernel
theorem dX4_sitting_96 : decode cX4_sitting 96 = .ok (.ifCond .ne 7, 3) := by decide +kernel
theorem dX4_sitting_99 : decode cX4_sitting 99 = .ok (.sipush (-1001), 3) := by decide +kernel
theorem dX4_sitting_102 : decode cX4_sitting 102 = .ok (.ireturn, 1) := by decide +kernel
theorem dX4_sitting_103 : decode cX4_sitting 103 = .ok (.iload_n 3, 1) := by decide +kernel
theorem dX4_sitting_104 : decode cX4_sitting 104 = .ok (.tableswitch 63 0 3 #[32, 35, 38, 41], 32) := by decide +kernel
theorem dX4_sitting_136 : decode cX4_sitting 136 = .ok (.iload 5, 2) := by decide +kernel
theorem dX4_sitting_138 : decode cX4_sitting 138 = .ok (.ireturn, 1) := by decide +kernel
theorem dX4_sitting_139 : decode cX4_sitting 139 = .ok (.iload 6, 2) := by decide +kernel
theorem dX4_sitting_141 : decode cX4_sitting 141 = .ok (.ireturn, 1) := by decide +kernel
theorem dX4_sitting_142 : decode cX4_sitting 142 = .ok (.iload 7, 2) := by decide +kernel
theorem dX4_sitting_144 : decode cX4_sitting 144 = .ok (.ireturn, 1) := by decide +kernel
theorem dX4_sitting_145 : decode cX4_sitting 145 = .ok (.aload_n 0, 1) := by decide +kernel
theorem dX4_sitting_146 : decode cX4_sitting 146 = .ok (.getfield 10, 3) := by decide +kernel
theorem dX4_sitting_149 : decode cX4_sitting 149 = .ok (.getfield 97, 3) := by decide +kernel
theorem dX4_sitting_152 : decode cX4_sitting 152 = .ok (.iload 6, 2) := by decide +kernel
theorem dX4_sitting_154 : decode cX4_sitting 154 = .ok (.iaload, 1) := by decide +kernel
theorem dX4_sitting_155 : decode cX4_sitting 155 = .ok (.aload_n 0, 1) := by decide +kernel
theorem dX4_sitting_156 : decode cX4_sitting 156 = .ok (.getfield 10, 3) := by decide +kernel
theorem dX4_sitting_159 : decode cX4_sitting 159 = .ok (.getfield 97, 3) := by decide +kernel
theorem dX4_sitting_162 : decode cX4_sitting 162 = .ok (.iload 5, 2) := by decide +kernel
theorem dX4_sitting_164 : decode cX4_sitting 164 = .ok (.iaload, 1) := by decide +kernel
theorem dX4_sitting_165 : decode cX4_sitting 165 = .ok (.isub, 1) := by decide +kernel
theorem dX4_sitting_166 : decode cX4_sitting 166 = .ok (.ireturn, 1) := by decide +kernel
theorem dX4_sitting_167 : decode cX4_sitting 167 = .ok (.sipush (-1002), 3) := by decide +kernel
theorem dX4_sitting_170 : decode cX4_sitting 170 = .ok (.ireturn, 1) := by decide +kernel
theorem dX4_count_0 : decode cX4_count 0 = .ok (.iload_n 1, 1) := by decide +kernel
theorem dX4_count_1 : decode cX4_count 1 = .ok (.tableswitch 81 0 6 #[43, 51, 56, 61, 66, 71, 76], 43) := by decide +kernel
theorem dX4_count_44 : decode cX4_count 44 = .ok (.aload_n 0, 1) := by decide +kernel
theorem dX4_count_45 : decode cX4_count 45 = .ok (.getfield 10, 3) := by decide +kernel
theorem dX4_count_48 : decode cX4_count 48 = .ok (.getfield 123, 3) := by decide +kernel
theorem dX4_count_51 : decode cX4_count 51 = .ok (.ireturn, 1) := by decide +kernel
theorem dX4_count_52 : decode cX4_count 52 = .ok (.aload_n 0, 1) := by decide +kernel
theorem dX4_count_53 : decode cX4_count 53 = .ok (.invokevirtual 124, 3) := by decide +kernel
theorem dX4_count_56 : decode cX4_count 56 = .ok (.ireturn, 1) := by decide +kernel
theorem dX4_count_57 : decode cX4_count 57 = .ok (.aload_n 0, 1) := by decide +kernel
theorem dX4_count_58 : decode cX4_count 58 = .ok (.invokevirtual 128, 3) := by decide +kernel
theorem dX4_count_61 : decode cX4_count 61 = .ok (.ireturn, 1) := by decide +kernel
theorem dX4_count_62 : decode cX4_count 62 = .ok (.aload_n 0, 1) := by decide +kernel
theorem dX4_count_63 : decode cX4_count 63 = .ok (.invokevirtual 131, 3) := by decide +kernel
theorem dX4_count_66 : decode cX4_count 66 = .ok (.ireturn, 1) := by decide +kernel
theorem dX4_count_67 : decode cX4_count 67 = .ok (.aload_n 0, 1) := by decide +kernel
theorem dX4_count_68 : decode cX4_count 68 = .ok (.invokevirtual 134, 3) := by decide +kernel
theorem dX4_count_71 : decode cX4_count 71 = .ok (.ireturn, 1) := by decide +kernel
theorem dX4_count_72 : decode cX4_count 72 = .ok (.aload_n 0, 1) := by decide +kernel
theorem dX4_count_73 : decode cX4_count 73 = .ok (.invokevirtual 137, 3) := by decide +kernel
theorem dX4_count_76 : decode cX4_count 76 = .ok (.ireturn, 1) := by decide +kernel
theorem dX4_count_77 : decode cX4_count 77 = .ok (.aload_n 0, 1) := by decide +kernel
theorem dX4_count_78 : decode cX4_count 78 = .ok (.getfield 45, 3) := by decide +kernel
theorem dX4_count_81 : decode cX4_count 81 = .ok (.ireturn, 1) := by decide +kernel
theorem dX4_count_82 : decode cX4_count 82 = .ok (.sipush (-1002), 3) := by decide +kernel
theorem dX4_count_85 : decode cX4_count 85 = .ok (.ireturn, 1) := by decide +kernel
theorem dX4_funnel_0 : decode cX4_funnel 0 = .ok (.iload_n 2, 1) := by decide +kernel
theorem dX4_funnel_1 : decode cX4_funnel 1 = .ok (.ifCond .lt 21, 3) := by decide +kernel
theorem dX4_funnel_4 : decode cX4_funnel 4 = .ok (.iload_n 2, 1) := by decide +kernel
theorem dX4_funnel_5 : decode cX4_funnel 5 = .ok (.ldc 140, 2) := by decide +kernel
theorem dX4_funnel_7 : decode cX4_funnel 7 = .ok (.if_icmp .gt 15, 3) := by decide +kernel
theorem dX4_funnel_10 : decode cX4_funnel 10 = .ok (.iload_n 3, 1) := by decide +kernel
theorem dX4_funnel_11 : decode cX4_funnel 11 = .ok (.iconst (-1), 1) := by decide +kernel
theorem dX4_funnel_12 : decode cX4_funnel 12 = .ok (.if_icmp .eq 14, 3) := by decide +kernel
theorem dX4_funnel_15 : decode cX4_funnel 15 = .ok (.iload_n 3, 1) := by decide +kernel
theorem dX4_funnel_16 : decode cX4_funnel 16 = .ok (.invokestatic 61, 3) := by decide +kernel
theorem dX4_funnel_19 : decode cX4_funnel 19 = .ok (.ifCond .ne 7, 3) := by decide +kernel
theorem dX4_funnel_22 : decode cX4_funnel 22 = .ok (.sipush (-1002), 3) := by decide +kernel
theorem dX4_funnel_25 : decode cX4_funnel 25 = .ok (.ireturn, 1) := by decide +kernel
theorem dX4_funnel_26 : decode cX4_funnel 26 = .ok (.aload_n 0, 1) := by decide +kernel
theorem dX4_funnel_27 : decode cX4_funnel 27 = .ok (.getfield 45, 3) := by decide +kernel
theorem dX4_funnel_30 : decode cX4_funnel 30 = .ok (.bipush 6, 2) := by decide +kernel
theorem dX4_funnel_32 : decode cX4_funnel 32 = .ok (.if_icmp .lt 7, 3) := by decide +kernel
theorem dX4_funnel_35 : decode cX4_funnel 35 = .ok (.sipush (-1004), 3) := by decide +kernel
theorem dX4_funnel_38 : decode cX4_funnel 38 = .ok (.ireturn, 1) := by decide +kernel
theorem dX4_funnel_39 : decode cX4_funnel 39 = .ok (.aload_n 0, 1) := by decide +kernel
theorem dX4_funnel_40 : decode cX4_funnel 40 = .ok (.getfield 40, 3) := by decide +kernel
theorem dX4_funnel_43 : decode cX4_funnel 43 = .ok (.aload_n 0, 1) := by decide +kernel
theorem dX4_funnel_44 : decode cX4_funnel 44 = .ok (.getfield 45, 3) := by decide +kernel
theorem dX4_funnel_47 : decode cX4_funnel 47 = .ok (.aaload, 1) := by decide +kernel
theorem dX4_funnel_48 : decode cX4_funnel 48 = .ok (.iload_n 1, 1) := by decide +kernel
theorem dX4_funnel_49 : decode cX4_funnel 49 = .ok (.iload_n 2, 1) := by decide +kernel
theorem dX4_funnel_50 : decode cX4_funnel 50 = .ok (.iload_n 3, 1) := by decide +kernel
theorem dX4_funnel_51 : decode cX4_funnel 51 = .ok (.invokevirtual 141, 3) := by decide +kernel
theorem dX4_funnel_54 : decode cX4_funnel 54 = .ok (.aload_n 0, 1) := by decide +kernel
theorem dX4_funnel_55 : decode cX4_funnel 55 = .ok (.dup, 1) := by decide +kernel
theorem dX4_funnel_56 : decode cX4_funnel 56 = .ok (.getfield 45, 3) := by decide +kernel
theorem dX4_funnel_59 : decode cX4_funnel 59 = .ok (.iconst 1, 1) := by decide +kernel
theorem dX4_funnel_60 : decode cX4_funnel 60 = .ok (.iadd, 1) := by decide +kernel
theorem dX4_funnel_61 : decode cX4_funnel 61 = .ok (.putfield 45, 3) := by decide +kernel
theorem dX4_funnel_64 : decode cX4_funnel 64 = .ok (.aload_n 0, 1) := by decide +kernel
theorem dX4_funnel_65 : decode cX4_funnel 65 = .ok (.getfield 45, 3) := by decide +kernel
theorem dX4_funnel_68 : decode cX4_funnel 68 = .ok (.iconst 1, 1) := by decide +kernel
theorem dX4_funnel_69 : decode cX4_funnel 69 = .ok (.isub, 1) := by decide +kernel
theorem dX4_funnel_70 : decode cX4_funnel 70 = .ok (.ireturn, 1) := by decide +kernel
theorem dX4_step_0 : decode cX4_step 0 = .ok (.aload_n 0, 1) := by decide +kernel
theorem dX4_step_1 : decode cX4_step 1 = .ok (.iload_n 1, 1) := by decide +kernel
theorem dX4_step_2 : decode cX4_step 2 = .ok (.invokevirtual 145, 3) := by decide +kernel
theorem dX4_step_5 : decode cX4_step 5 = .ok (.ifCond .ne 7, 3) := by decide +kernel
theorem dX4_step_8 : decode cX4_step 8 = .ok (.sipush (-1001), 3) := by decide +kernel
theorem dX4_step_11 : decode cX4_step 11 = .ok (.ireturn, 1) := by decide +kernel
theorem dX4_step_12 : decode cX4_step 12 = .ok (.iload_n 2, 1) := by decide +kernel
theorem dX4_step_13 : decode cX4_step 13 = .ok (.invokestatic 61, 3) := by decide +kernel
theorem dX4_step_16 : decode cX4_step 16 = .ok (.ifCond .ne 7, 3) := by decide +kernel
theorem dX4_step_19 : decode cX4_step 19 = .ok (.sipush (-1002), 3) := by decide +kernel
theorem dX4_step_22 : decode cX4_step 22 = .ok (.ireturn, 1) := by decide +kernel
theorem dX4_step_23 : decode cX4_step 23 = .ok (.aload_n 0, 1) := by decide +kernel
theorem dX4_step_24 : decode cX4_step 24 = .ok (.getfield 40, 3) := by decide +kernel
theorem dX4_step_27 : decode cX4_step 27 = .ok (.iload_n 1, 1) := by decide +kernel
theorem dX4_step_28 : decode cX4_step 28 = .ok (.aaload, 1) := by decide +kernel
theorem dX4_step_29 : decode cX4_step 29 = .ok (.astore_n 3, 1) := by decide +kernel
theorem dX4_step_30 : decode cX4_step 30 = .ok (.aload_n 3, 1) := by decide +kernel
theorem dX4_step_31 : decode cX4_step 31 = .ok (.getfield 148, 3) := by decide +kernel
theorem dX4_step_34 : decode cX4_step 34 = .ok (.iconst 4, 1) := by decide +kernel
theorem dX4_step_35 : decode cX4_step 35 = .ok (.if_icmp .lt 7, 3) := by decide +kernel
theorem dX4_step_38 : decode cX4_step 38 = .ok (.sipush (-1004), 3) := by decide +kernel
theorem dX4_step_41 : decode cX4_step 41 = .ok (.ireturn, 1) := by decide +kernel
theorem dX4_step_42 : decode cX4_step 42 = .ok (.aload_n 3, 1) := by decide +kernel
theorem dX4_step_43 : decode cX4_step 43 = .ok (.getfield 149, 3) := by decide +kernel
theorem dX4_step_46 : decode cX4_step 46 = .ok (.aload_n 3, 1) := by decide +kernel
theorem dX4_step_47 : decode cX4_step 47 = .ok (.getfield 148, 3) := by decide +kernel
theorem dX4_step_50 : decode cX4_step 50 = .ok (.iload_n 2, 1) := by decide +kernel
theorem dX4_step_51 : decode cX4_step 51 = .ok (.iastore, 1) := by decide +kernel
theorem dX4_step_52 : decode cX4_step 52 = .ok (.aload_n 3, 1) := by decide +kernel
theorem dX4_step_53 : decode cX4_step 53 = .ok (.dup, 1) := by decide +kernel
theorem dX4_step_54 : decode cX4_step 54 = .ok (.getfield 148, 3) := by decide +kernel
theorem dX4_step_57 : decode cX4_step 57 = .ok (.iconst 1, 1) := by decide +kernel
theorem dX4_step_58 : decode cX4_step 58 = .ok (.iadd, 1) := by decide +kernel
theorem dX4_step_59 : decode cX4_step 59 = .ok (.putfield 148, 3) := by decide +kernel
theorem dX4_step_62 : decode cX4_step 62 = .ok (.aload_n 3, 1) := by decide +kernel
theorem dX4_step_63 : decode cX4_step 63 = .ok (.getfield 148, 3) := by decide +kernel
theorem dX4_step_66 : decode cX4_step 66 = .ok (.ireturn, 1) := by decide +kernel
theorem dX4_ways_0 : decode cX4_ways 0 = .ok (.aload_n 0, 1) := by decide +kernel
theorem dX4_ways_1 : decode cX4_ways 1 = .ok (.iload_n 1, 1) := by decide +kernel
theorem dX4_ways_2 : decode cX4_ways 2 = .ok (.invokevirtual 145, 3) := by decide +kernel
theorem dX4_ways_5 : decode cX4_ways 5 = .ok (.ifCond .eq 15, 3) := by decide +kernel
theorem dX4_ways_8 : decode cX4_ways 8 = .ok (.iload_n 2, 1) := by decide +kernel
theorem dX4_ways_9 : decode cX4_ways 9 = .ok (.iconst (-1), 1) := by decide +kernel
theorem dX4_ways_10 : decode cX4_ways 10 = .ok (.if_icmp .eq 14, 3) := by decide +kernel
theorem dX4_ways_13 : decode cX4_ways 13 = .ok (.iload_n 2, 1) := by decide +kernel
theorem dX4_ways_14 : decode cX4_ways 14 = .ok (.invokestatic 56, 3) := by decide +kernel
theorem dX4_ways_17 : decode cX4_ways 17 = .ok (.ifCond .ne 7, 3) := by decide +kernel
theorem dX4_ways_20 : decode cX4_ways 20 = .ok (.sipush (-1001), 3) := by decide +kernel
theorem dX4_ways_23 : decode cX4_ways 23 = .ok (.ireturn, 1) := by decide +kernel
theorem dX4_ways_24 : decode cX4_ways 24 = .ok (.iload_n 2, 1) := by decide +kernel
theorem dX4_ways_25 : decode cX4_ways 25 = .ok (.iconst (-1), 1) := by decide +kernel
theorem dX4_ways_26 : decode cX4_ways 26 = .ok (.if_icmp .eq 28, 3) := by decide +kernel
theorem dX4_ways_29 : decode cX4_ways 29 = .ok (.aload_n 0, 1) := by decide +kernel
theorem dX4_ways_30 : decode cX4_ways 30 = .ok (.getfield 52, 3) := by decide +kernel
theorem dX4_ways_33 : decode cX4_ways 33 = .ok (.aload_n 0, 1) := by decide +kernel
theorem dX4_ways_34 : decode cX4_ways 34 = .ok (.getfield 40, 3) := by decide +kernel
theorem dX4_ways_37 : decode cX4_ways 37 = .ok (.iload_n 1, 1) := by decide +kernel
theorem dX4_ways_38 : decode cX4_ways 38 = .ok (.aaload, 1) := by decide +kernel
theorem dX4_ways_39 : decode cX4_ways 39 = .ok (.aload_n 0, 1) := by decide +kernel
theorem dX4_ways_40 : decode cX4_ways 40 = .ok (.getfield 22, 3) := by decide +kernel
theorem dX4_ways_43 : decode cX4_ways 43 = .ok (.aload_n 0, 1) := by decide +kernel
theorem dX4_ways_44 : decode cX4_ways 44 = .ok (.getfield 16, 3) := by decide +kernel
theorem dX4_ways_47 : decode cX4_ways 47 = .ok (.iload_n 2, 1) := by decide +kernel
theorem dX4_ways_48 : decode cX4_ways 48 = .ok (.iaload, 1) := by decide +kernel
theorem dX4_ways_49 : decode cX4_ways 49 = .ok (.aaload, 1) := by decide +kernel
theorem dX4_ways_50 : decode cX4_ways 50 = .ok (.invokevirtual 152, 3) := by decide +kernel
theorem dX4_ways_53 : decode cX4_ways 53 = .ok (.ireturn, 1) := by decide +kernel
theorem dX4_ways_54 : decode cX4_ways 54 = .ok (.iconst 0, 1) := by decide +kernel
theorem dX4_ways_55 : decode cX4_ways 55 = .ok (.istore_n 3, 1) := by decide +kernel
theorem dX4_ways_56 : decode cX4_ways 56 = .ok (.iconst 0, 1) := by decide +kernel
theorem dX4_ways_57 : decode cX4_ways 57 = .ok (.istore 4, 2) := by decide +kernel
theorem dX4_ways_59 : decode cX4_ways 59 = .ok (.iload 4, 2) := by decide +kernel
theorem dX4_ways_61 : decode cX4_ways 61 = .ok (.bipush 24, 2) := by decide +kernel
theorem dX4_ways_63 : decode cX4_ways 63 = .ok (.if_icmp .ge 32, 3) := by decide +kernel
theorem dX4_ways_66 : decode cX4_ways 66 = .ok (.iload_n 3, 1) := by decide +kernel
theorem dX4_ways_67 : decode cX4_ways 67 = .ok (.aload_n 0, 1) := by decide +kernel
theorem dX4_ways_68 : decode cX4_ways 68 = .ok (.getfield 52, 3) := by decide +kernel
theorem dX4_ways_71 : decode cX4_ways 71 = .ok (.aload_n 0, 1) := by decide +kernel
theorem dX4_ways_72 : decode cX4_ways 72 = .ok (.getfield 40, 3) := by decide +kernel
theorem dX4_ways_75 : decode cX4_ways 75 = .ok (.iload_n 1, 1) := by decide +kernel
theorem dX4_ways_76 : decode cX4_ways 76 = .ok (.aaload, 1) := by decide +kernel
theorem dX4_ways_77 : decode cX4_ways 77 = .ok (.aload_n 0, 1) := by decide +kernel
theorem dX4_ways_78 : decode cX4_ways 78 = .ok (.getfield 22, 3) := by decide +kernel
theorem dX4_ways_81 : decode cX4_ways 81 = .ok (.iload 4, 2) := by decide +kernel
theorem dX4_ways_83 : decode cX4_ways 83 = .ok (.aaload, 1) := by decide +kernel
theorem dX4_ways_84 : decode cX4_ways 84 = .ok (.invokevirtual 152, 3) := by decide +kernel
theorem dX4_ways_87 : decode cX4_ways 87 = .ok (.iadd, 1) := by decide +kernel
theorem dX4_ways_88 : decode cX4_ways 88 = .ok (.istore_n 3, 1) := by decide +kernel
theorem dX4_ways_89 : decode cX4_ways 89 = .ok (.iinc 4 1, 3) := by decide +kernel
theorem dX4_ways_92 : decode cX4_ways 92 = .ok (.goto (-33), 3) := by decide +kernel
theorem dX4_ways_95 : decode cX4_ways 95 = .ok (.iload_n 3, 1) := by decide +kernel
theorem dX4_ways_96 : decode cX4_ways 96 = .ok (.ireturn, 1) := by decide +kernel
theorem dX4_way_0 : decode cX4_way 0 = .ok (.aload_n 0, 1) := by decide +kernel
theorem dX4_way_1 : decode cX4_way 1 = .ok (.iload_n 1, 1) := by decide +kernel
theorem dX4_way_2 : decode cX4_way 2 = .ok (.invokevirtual 145, 3) := by decide +kernel
theorem dX4_way_5 : decode cX4_way 5 = .ok (.ifCond .eq 10, 3) := by decide +kernel
theorem dX4_way_8 : decode cX4_way 8 = .ok (.iload_n 2, 1) := by decide +kernel
theorem dX4_way_9 : decode cX4_way 9 = .ok (.invokestatic 56, 3) := by decide +kernel
theorem dX4_way_12 : decode cX4_way 12 = .ok (.ifCond .ne 7, 3) := by decide +kernel
theorem dX4_way_15 : decode cX4_way 15 = .ok (.sipush (-1001), 3) := by decide +kernel
theorem dX4_way_18 : decode cX4_way 18 = .ok (.ireturn, 1) := by decide +kernel
theorem dX4_way_19 : decode cX4_way 19 = .ok (.aload_n 0, 1) := by decide +kernel
theorem dX4_way_20 : decode cX4_way 20 = .ok (.getfield 22, 3) := by decide +kernel
theorem dX4_way_23 : decode cX4_way 23 = .ok (.aload_n 0, 1) := by decide +kernel
theorem dX4_way_24 : decode cX4_way 24 = .ok (.getfield 16, 3) := by decide +kernel
theorem dX4_way_27 : decode cX4_way 27 = .ok (.iload_n 2, 1) := by decide +kernel
theorem dX4_way_28 : decode cX4_way 28 = .ok (.iaload, 1) := by decide +kernel
theorem dX4_way_29 : decode cX4_way 29 = .ok (.aaload, 1) := by decide +kernel
theorem dX4_way_30 : decode cX4_way 30 = .ok (.astore 5, 2) := by decide +kernel
theorem dX4_way_32 : decode cX4_way 32 = .ok (.aload_n 0, 1) := by decide +kernel
theorem dX4_way_33 : decode cX4_way 33 = .ok (.getfield 52, 3) := by decide +kernel
theorem dX4_way_36 : decode cX4_way 36 = .ok (.aload_n 0, 1) := by decide +kernel
theorem dX4_way_37 : decode cX4_way 37 = .ok (.getfield 40, 3) := by decide +kernel
theorem dX4_way_40 : decode cX4_way 40 = .ok (.iload_n 1, 1) := by decide +kernel
theorem dX4_way_41 : decode cX4_way 41 = .ok (.aaload, 1) := by decide +kernel
theorem dX4_way_42 : decode cX4_way 42 = .ok (.aload 5, 2) := by decide +kernel
theorem dX4_way_44 : decode cX4_way 44 = .ok (.invokevirtual 152, 3) := by decide +kernel
theorem dX4_way_47 : decode cX4_way 47 = .ok (.istore 6, 2) := by decide +kernel
theorem dX4_way_49 : decode cX4_way 49 = .ok (.iload_n 3, 1) := by decide +kernel
theorem dX4_way_50 : decode cX4_way 50 = .ok (.ifCond .lt 9, 3) := by decide +kernel
theorem dX4_way_53 : decode cX4_way 53 = .ok (.iload_n 3, 1) := by decide +kernel
theorem dX4_way_54 : decode cX4_way 54 = .ok (.iload 6, 2) := by decide +kernel
theorem dX4_way_56 : decode cX4_way 56 = .ok (.if_icmp .lt 7, 3) := by decide +kernel
theorem dX4_way_59 : decode cX4_way 59 = .ok (.sipush (-1001), 3) := by decide +kernel
theorem dX4_way_62 : decode cX4_way 62 = .ok (.ireturn, 1) := by decide +kernel
theorem dX4_way_63 : decode cX4_way 63 = .ok (.iload 4, 2) := by decide +kernel
theorem dX4_way_65 : decode cX4_way 65 = .ok (.lookupswitch 59 #[(0, 27), (1, 43)], 27) := by decide +kernel
theorem dX4_way_92 : decode cX4_way 92 = .ok (.aload 5, 2) := by decide +kernel
theorem dX4_way_94 : decode cX4_way 94 = .ok (.getfield 121, 3) := by decide +kernel
theorem dX4_way_97 : decode cX4_way 97 = .ok (.aload_n 0, 1) := by decide +kernel
theorem dX4_way_98 : decode cX4_way 98 = .ok (.getfield 52, 3) := by decide +kernel
theorem dX4_way_101 : decode cX4_way 101 = .ok (.getfield 156, 3) := by decide +kernel
theorem dX4_way_104 : decode cX4_way 104 = .ok (.iload_n 3, 1) := by decide +kernel
theorem dX4_way_105 : decode cX4_way 105 = .ok (.iaload, 1) := by decide +kernel
theorem dX4_way_106 : decode cX4_way 106 = .ok (.iaload, 1) := by decide +kernel
theorem dX4_way_107 : decode cX4_way 107 = .ok (.ireturn, 1) := by decide +kernel
theorem dX4_way_108 : decode cX4_way 108 = .ok (.aload 5, 2) := by decide +kernel
theorem dX4_way_110 : decode cX4_way 110 = .ok (.getfield 121, 3) := by decide +kernel
theorem dX4_way_113 : decode cX4_way 113 = .ok (.aload_n 0, 1) := by decide +kernel
theorem dX4_way_114 : decode cX4_way 114 = .ok (.getfield 52, 3) := by decide +kernel
theorem dX4_way_117 : decode cX4_way 117 = .ok (.getfield 159, 3) := by decide +kernel
theorem dX4_way_120 : decode cX4_way 120 = .ok (.iload_n 3, 1) := by decide +kernel
theorem dX4_way_121 : decode cX4_way 121 = .ok (.iaload, 1) := by decide +kernel
theorem dX4_way_122 : decode cX4_way 122 = .ok (.iaload, 1) := by decide +kernel
theorem dX4_way_123 : decode cX4_way 123 = .ok (.ireturn, 1) := by decide +kernel
theorem dX4_way_124 : decode cX4_way 124 = .ok (.sipush (-1002), 3) := by decide +kernel
theorem dX4_way_127 : decode cX4_way 127 = .ok (.ireturn, 1) := by decide +kernel
theorem dX4_reach_0 : decode cX4_reach 0 = .ok (.aload_n 0, 1) := by decide +kernel
theorem dX4_reach_1 : decode cX4_reach 1 = .ok (.iload_n 1, 1) := by decide +kernel
theorem dX4_reach_2 : decode cX4_reach 2 = .ok (.invokevirtual 145, 3) := by decide +kernel
theorem dX4_reach_5 : decode cX4_reach 5 = .ok (.ifCond .eq 10, 3) := by decide +kernel
theorem dX4_reach_8 : decode cX4_reach 8 = .ok (.iload_n 2, 1) := by decide +kernel
theorem dX4_reach_9 : decode cX4_reach 9 = .ok (.invokestatic 56, 3) := by decide +kernel
theorem dX4_reach_12 : decode cX4_reach 12 = .ok (.ifCond .ne 7, 3) := by decide +kernel
theorem dX4_reach_15 : decode cX4_reach 15 = .ok (.sipush (-1001), 3) := by decide +kernel
theorem dX4_reach_18 : decode cX4_reach 18 = .ok (.ireturn, 1) := by decide +kernel
theorem dX4_reach_19 : decode cX4_reach 19 = .ok (.aload_n 0, 1) := by decide +kernel
theorem dX4_reach_20 : decode cX4_reach 20 = .ok (.getfield 52, 3) := by decide +kernel
theorem dX4_reach_23 : decode cX4_reach 23 = .ok (.aload_n 0, 1) := by decide +kernel
theorem dX4_reach_24 : decode cX4_reach 24 = .ok (.getfield 40, 3) := by decide +kernel
theorem dX4_reach_27 : decode cX4_reach 27 = .ok (.iload_n 1, 1) := by decide +kernel
theorem dX4_reach_28 : decode cX4_reach 28 = .ok (.aaload, 1) := by decide +kernel
theorem dX4_reach_29 : decode cX4_reach 29 = .ok (.aload_n 0, 1) := by decide +kernel
theorem dX4_reach_30 : decode cX4_reach 30 = .ok (.getfield 22, 3) := by decide +kernel
theorem dX4_reach_33 : decode cX4_reach 33 = .ok (.aload_n 0, 1) := by decide +kernel
theorem dX4_reach_34 : decode cX4_reach 34 = .ok (.getfield 16, 3) := by decide +kernel
theorem dX4_reach_37 : decode cX4_reach 37 = .ok (.iload_n 2, 1) := by decide +kernel
theorem dX4_reach_38 : decode cX4_reach 38 = .ok (.iaload, 1) := by decide +kernel
theorem dX4_reach_39 : decode cX4_reach 39 = .ok (.aaload, 1) := by decide +kernel
theorem dX4_reach_40 : decode cX4_reach 40 = .ok (.invokevirtual 162, 3) := by decide +kernel
theorem dX4_reach_43 : decode cX4_reach 43 = .ok (.ireturn, 1) := by decide +kernel
theorem dX4_reached_0 : decode cX4_reached 0 = .ok (.aload_n 0, 1) := by decide +kernel
theorem dX4_reached_1 : decode cX4_reached 1 = .ok (.iload_n 1, 1) := by decide +kernel
theorem dX4_reached_2 : decode cX4_reached 2 = .ok (.invokevirtual 145, 3) := by decide +kernel
theorem dX4_reached_5 : decode cX4_reached 5 = .ok (.ifCond .ne 7, 3) := by decide +kernel
theorem dX4_reached_8 : decode cX4_reached 8 = .ok (.sipush (-1001), 3) := by decide +kernel
theorem dX4_reached_11 : decode cX4_reached 11 = .ok (.ireturn, 1) := by decide +kernel
theorem dX4_reached_12 : decode cX4_reached 12 = .ok (.iload_n 2, 1) := by decide +kernel
theorem dX4_reached_13 : decode cX4_reached 13 = .ok (.ifCond .lt 8, 3) := by decide +kernel
theorem dX4_reached_16 : decode cX4_reached 16 = .ok (.iload_n 2, 1) := by decide +kernel
theorem dX4_reached_17 : decode cX4_reached 17 = .ok (.iconst 4, 1) := by decide +kernel
theorem dX4_reached_18 : decode cX4_reached 18 = .ok (.if_icmp .le 7, 3) := by decide +kernel
theorem dX4_reached_21 : decode cX4_reached 21 = .ok (.sipush (-1002), 3) := by decide +kernel
theorem dX4_reached_24 : decode cX4_reached 24 = .ok (.ireturn, 1) := by decide +kernel
theorem dX4_reached_25 : decode cX4_reached 25 = .ok (.iconst 0, 1) := by decide +kernel
theorem dX4_reached_26 : decode cX4_reached 26 = .ok (.istore_n 3, 1) := by decide +kernel
theorem dX4_reached_27 : decode cX4_reached 27 = .ok (.iconst 0, 1) := by decide +kernel
theorem dX4_reached_28 : decode cX4_reached 28 = .ok (.istore 4, 2) := by decide +kernel
theorem dX4_reached_30 : decode cX4_reached 30 = .ok (.iload 4, 2) := by decide +kernel
theorem dX4_reached_32 : decode cX4_reached 32 = .ok (.bipush 24, 2) := by decide +kernel
theorem dX4_reached_34 : decode cX4_reached 34 = .ok (.if_icmp .ge 49, 3) := by decide +kernel
theorem dX4_reached_37 : decode cX4_reached 37 = .ok (.aload_n 0, 1) := by decide +kernel
theorem dX4_reached_38 : decode cX4_reached 38 = .ok (.getfield 22, 3) := by decide +kernel
theorem dX4_reached_41 : decode cX4_reached 41 = .ok (.iload 4, 2) := by decide +kernel
theorem dX4_reached_43 : decode cX4_reached 43 = .ok (.aaload, 1) := by decide +kernel
theorem dX4_reached_44 : decode cX4_reached 44 = .ok (.getfield 106, 3) := by decide +kernel
theorem dX4_reached_47 : decode cX4_reached 47 = .ok (.ifCond .le 30, 3) := by decide +kernel
theorem dX4_reached_50 : decode cX4_reached 50 = .ok (.aload_n 0, 1) := by decide +kernel
theorem dX4_reached_51 : decode cX4_reached 51 = .ok (.getfield 52, 3) := by decide +kernel
theorem dX4_reached_54 : decode cX4_reached 54 = .ok (.aload_n 0, 1) := by decide +kernel
theorem dX4_reached_55 : decode cX4_reached 55 = .ok (.getfield 40, 3) := by decide +kernel
theorem dX4_reached_58 : decode cX4_reached 58 = .ok (.iload_n 1, 1) := by decide +kernel
theorem dX4_reached_59 : decode cX4_reached 59 = .ok (.aaload, 1) := by decide +kernel
theorem dX4_reached_60 : decode cX4_reached 60 = .ok (.aload_n 0, 1) := by decide +kernel
theorem dX4_reached_61 : decode cX4_reached 61 = .ok (.getfield 22, 3) := by decide +kernel
theorem dX4_reached_64 : decode cX4_reached 64 = .ok (.iload 4, 2) := by decide +kernel
theorem dX4_reached_66 : decode cX4_reached 66 = .ok (.aaload, 1) := by decide +kernel
theorem dX4_reached_67 : decode cX4_reached 67 = .ok (.invokevirtual 162, 3) := by decide +kernel
theorem dX4_reached_70 : decode cX4_reached 70 = .ok (.iload_n 2, 1) := by decide +kernel
theorem dX4_reached_71 : decode cX4_reached 71 = .ok (.if_icmp .lt 6, 3) := by decide +kernel
theorem dX4_reached_74 : decode cX4_reached 74 = .ok (.iinc 3 1, 3) := by decide +kernel
theorem dX4_reached_77 : decode cX4_reached 77 = .ok (.iinc 4 1, 3) := by decide +kernel
theorem dX4_reached_80 : decode cX4_reached 80 = .ok (.goto (-50), 3) := by decide +kernel
theorem dX4_reached_83 : decode cX4_reached 83 = .ok (.iload_n 3, 1) := by decide +kernel
theorem dX4_reached_84 : decode cX4_reached 84 = .ok (.ireturn, 1) := by decide +kernel
theorem dX4_born_0 : decode cX4_born 0 = .ok (.iload_n 1, 1) := by decide +kernel
theorem dX4_born_1 : decode cX4_born 1 = .ok (.invokestatic 165, 3) := by decide +kernel
theorem dX4_born_4 : decode cX4_born 4 = .ok (.ifCond .ne 7, 3) := by decide +kernel
theorem dX4_born_7 : decode cX4_born 7 = .ok (.sipush (-1002), 3) := by decide +kernel
theorem dX4_born_10 : decode cX4_born 10 = .ok (.ireturn, 1) := by decide +kernel
theorem dX4_born_11 : decode cX4_born 11 = .ok (.iconst 0, 1) := by decide +kernel
theorem dX4_born_12 : decode cX4_born 12 = .ok (.istore_n 2, 1) := by decide +kernel
theorem dX4_born_13 : decode cX4_born 13 = .ok (.iconst 0, 1) := by decide +kernel
theorem dX4_born_14 : decode cX4_born 14 = .ok (.istore_n 3, 1) := by decide +kernel
theorem dX4_born_15 : decode cX4_born 15 = .ok (.iload_n 3, 1) := by decide +kernel
theorem dX4_born_16 : decode cX4_born 16 = .ok (.bipush 24, 2) := by decide +kernel
theorem dX4_born_18 : decode cX4_born 18 = .ok (.if_icmp .ge 31, 3) := by decide +kernel
theorem dX4_born_21 : decode cX4_born 21 = .ok (.aload_n 0, 1) := by decide +kernel
theorem dX4_born_22 : decode cX4_born 22 = .ok (.getfield 22, 3) := by decide +kernel
theorem dX4_born_25 : decode cX4_born 25 = .ok (.iload_n 3, 1) := by decide +kernel
theorem dX4_born_26 : decode cX4_born 26 = .ok (.aaload, 1) := by decide +kernel
theorem dX4_born_27 : decode cX4_born 27 = .ok (.aload_n 0, 1) := by decide +kernel
theorem dX4_born_28 : decode cX4_born 28 = .ok (.getfield 29, 3) := by decide +kernel
theorem dX4_born_31 : decode cX4_born 31 = .ok (.iconst 5, 1) := by decide +kernel
theorem dX4_born_32 : decode cX4_born 32 = .ok (.iaload, 1) := by decide +kernel
theorem dX4_born_33 : decode cX4_born 33 = .ok (.invokevirtual 116, 3) := by decide +kernel
theorem dX4_born_36 : decode cX4_born 36 = .ok (.iload_n 1, 1) := by decide +kernel
theorem dX4_born_37 : decode cX4_born 37 = .ok (.if_icmp .ne 6, 3) := by decide +kernel
theorem dX4_born_40 : decode cX4_born 40 = .ok (.iinc 2 1, 3) := by decide +kernel
theorem dX4_born_43 : decode cX4_born 43 = .ok (.iinc 3 1, 3) := by decide +kernel
theorem dX4_born_46 : decode cX4_born 46 = .ok (.goto (-31), 3) := by decide +kernel
theorem dX4_born_49 : decode cX4_born 49 = .ok (.iload_n 2, 1) := by decide +kernel
theorem dX4_born_50 : decode cX4_born 50 = .ok (.ireturn, 1) := by decide +kernel
theorem dX4_came_0 : decode cX4_came 0 = .ok (.iload_n 1, 1) := by decide +kernel
theorem dX4_came_1 : decode cX4_came 1 = .ok (.invokestatic 165, 3) := by decide +kernel
theorem dX4_came_4 : decode cX4_came 4 = .ok (.ifCond .eq 10, 3) := by decide +kernel
theorem dX4_came_7 : decode cX4_came 7 = .ok (.iload_n 2, 1) := by decide +kernel
theorem dX4_came_8 : decode cX4_came 8 = .ok (.invokestatic 165, 3) := by decide +kernel
theorem dX4_came_11 : decode cX4_came 11 = .ok (.ifCond .ne 7, 3) := by decide +kernel
theorem dX4_came_14 : decode cX4_came 14 = .ok (.sipush (-1002), 3) := by decide +kernel
theorem dX4_came_17 : decode cX4_came 17 = .ok (.ireturn, 1) := by decide +kernel
theorem dX4_came_18 : decode cX4_came 18 = .ok (.iconst 0, 1) := by decide +kernel
theorem dX4_came_19 : decode cX4_came 19 = .ok (.istore_n 3, 1) := by decide +kernel
theorem dX4_came_20 : decode cX4_came 20 = .ok (.iconst 0, 1) := by decide +kernel
theorem dX4_came_21 : decode cX4_came 21 = .ok (.istore 4, 2) := by decide +kernel
theorem dX4_came_23 : decode cX4_came 23 = .ok (.iload 4, 2) := by decide +kernel
theorem dX4_came_25 : decode cX4_came 25 = .ok (.bipush 24, 2) := by decide +kernel
theorem dX4_came_27 : decode cX4_came 27 = .ok (.if_icmp .ge 48, 3) := by decide +kernel
theorem dX4_came_30 : decode cX4_came 30 = .ok (.aload_n 0, 1) := by decide +kernel
theorem dX4_came_31 : decode cX4_came 31 = .ok (.getfield 22, 3) := by decide +kernel
theorem dX4_came_34 : decode cX4_came 34 = .ok (.iload 4, 2) := by decide +kernel
theorem dX4_came_36 : decode cX4_came 36 = .ok (.aaload, 1) := by decide +kernel
theorem dX4_came_37 : decode cX4_came 37 = .ok (.aload_n 0, 1) := by decide +kernel
theorem dX4_came_38 : decode cX4_came 38 = .ok (.getfield 29, 3) := by decide +kernel
theorem dX4_came_41 : decode cX4_came 41 = .ok (.iconst 5, 1) := by decide +kernel
theorem dX4_came_42 : decode cX4_came 42 = .ok (.iaload, 1) := by decide +kernel
theorem dX4_came_43 : decode cX4_came 43 = .ok (.invokevirtual 116, 3) := by decide +kernel
theorem dX4_came_46 : decode cX4_came 46 = .ok (.iload_n 1, 1) := by decide +kernel
theorem dX4_came_47 : decode cX4_came 47 = .ok (.if_icmp .ne 22, 3) := by decide +kernel
theorem dX4_came_50 : decode cX4_came 50 = .ok (.aload_n 0, 1) := by decide +kernel
theorem dX4_came_51 : decode cX4_came 51 = .ok (.getfield 22, 3) := by decide +kernel
theorem dX4_came_54 : decode cX4_came 54 = .ok (.iload 4, 2) := by decide +kernel
theorem dX4_came_56 : decode cX4_came 56 = .ok (.aaload, 1) := by decide +kernel
theorem dX4_came_57 : decode cX4_came 57 = .ok (.iload_n 1, 1) := by decide +kernel
theorem dX4_came_58 : decode cX4_came 58 = .ok (.iload_n 2, 1) := by decide +kernel
theorem dX4_came_59 : decode cX4_came 59 = .ok (.iadd, 1) := by decide +kernel
theorem dX4_came_60 : decode cX4_came 60 = .ok (.invokevirtual 168, 3) := by decide +kernel
theorem dX4_came_63 : decode cX4_came 63 = .ok (.ifCond .eq 6, 3) := by decide +kernel
theorem dX4_came_66 : decode cX4_came 66 = .ok (.iinc 3 1, 3) := by decide +kernel
theorem dX4_came_69 : decode cX4_came 69 = .ok (.iinc 4 1, 3) := by decide +kernel
theorem dX4_came_72 : decode cX4_came 72 = .ok (.goto (-49), 3) := by decide +kernel
theorem dX4_came_75 : decode cX4_came 75 = .ok (.iload_n 3, 1) := by decide +kernel
theorem dX4_came_76 : decode cX4_came 76 = .ok (.ireturn, 1) := by decide +kernel
theorem dX4_digest_0 : decode cX4_digest 0 = .ok (.bipush 7, 2) := by decide +kernel
theorem dX4_digest_2 : decode cX4_digest 2 = .ok (.istore_n 1, 1) := by decide +kernel
theorem dX4_digest_3 : decode cX4_digest 3 = .ok (.iconst 0, 1) := by decide +kernel
theorem dX4_digest_4 : decode cX4_digest 4 = .ok (.istore_n 2, 1) := by decide +kernel
theorem dX4_digest_5 : decode cX4_digest 5 = .ok (.iload_n 2, 1) := by decide +kernel
theorem dX4_digest_6 : decode cX4_digest 6 = .ok (.bipush 24, 2) := by decide +kernel
theorem dX4_digest_8 : decode cX4_digest 8 = .ok (.if_icmp .ge 29, 3) := by decide +kernel
theorem dX4_digest_11 : decode cX4_digest 11 = .ok (.aload_n 0, 1) := by decide +kernel
theorem dX4_digest_12 : decode cX4_digest 12 = .ok (.iload_n 2, 1) := by decide +kernel
theorem dX4_digest_13 : decode cX4_digest 13 = .ok (.invokevirtual 85, 3) := by decide +kernel
theorem dX4_digest_16 : decode cX4_digest 16 = .ok (.ifCond .ne 15, 3) := by decide +kernel
theorem dX4_digest_19 : decode cX4_digest 19 = .ok (.aload_n 0, 1) := by decide +kernel
theorem dX4_digest_20 : decode cX4_digest 20 = .ok (.iload_n 1, 1) := by decide +kernel
theorem dX4_digest_21 : decode cX4_digest 21 = .ok (.aload_n 0, 1) := by decide +kernel
theorem dX4_digest_22 : decode cX4_digest 22 = .ok (.getfield 22, 3) := by decide +kernel
theorem dX4_digest_25 : decode cX4_digest 25 = .ok (.iload_n 2, 1) := by decide +kernel
theorem dX4_digest_26 : decode cX4_digest 26 = .ok (.aaload, 1) := by decide +kernel
theorem dX4_digest_27 : decode cX4_digest 27 = .ok (.invokevirtual 171, 3) := by decide +kernel
theorem dX4_digest_30 : decode cX4_digest 30 = .ok (.istore_n 1, 1) := by decide +kernel
theorem dX4_digest_31 : decode cX4_digest 31 = .ok (.iinc 2 1, 3) := by decide +kernel
theorem dX4_digest_34 : decode cX4_digest 34 = .ok (.goto (-29), 3) := by decide +kernel
theorem dX4_digest_37 : decode cX4_digest 37 = .ok (.iload_n 1, 1) := by decide +kernel
theorem dX4_digest_38 : decode cX4_digest 38 = .ok (.ireturn, 1) := by decide +kernel
theorem dX4_digestWith_0 : decode cX4_digestWith 0 = .ok (.iload_n 1, 1) := by decide +kernel
theorem dX4_digestWith_1 : decode cX4_digestWith 1 = .ok (.istore_n 3, 1) := by decide +kernel
theorem dX4_digestWith_2 : decode cX4_digestWith 2 = .ok (.iconst 0, 1) := by decide +kernel
theorem dX4_digestWith_3 : decode cX4_digestWith 3 = .ok (.istore 4, 2) := by decide +kernel
theorem dX4_digestWith_5 : decode cX4_digestWith 5 = .ok (.iload 4, 2) := by decide +kernel
theorem dX4_digestWith_7 : decode cX4_digestWith 7 = .ok (.aload_n 2, 1) := by decide +kernel
theorem dX4_digestWith_8 : decode cX4_digestWith 8 = .ok (.getfield 106, 3) := by decide +kernel
theorem dX4_digestWith_11 : decode cX4_digestWith 11 = .ok (.if_icmp .ge 39, 3) := by decide +kernel
theorem dX4_digestWith_14 : decode cX4_digestWith 14 = .ok (.aload_n 2, 1) := by decide +kernel
theorem dX4_digestWith_15 : decode cX4_digestWith 15 = .ok (.getfield 121, 3) := by decide +kernel
theorem dX4_digestWith_18 : decode cX4_digestWith 18 = .ok (.iload 4, 2) := by decide +kernel
theorem dX4_digestWith_20 : decode cX4_digestWith 20 = .ok (.iaload, 1) := by decide +kernel
theorem dX4_digestWith_21 : decode cX4_digestWith 21 = .ok (.istore 5, 2) := by decide +kernel
theorem dX4_digestWith_23 : decode cX4_digestWith 23 = .ok (.bipush 31, 2) := by decide +kernel
theorem dX4_digestWith_25 : decode cX4_digestWith 25 = .ok (.iload_n 3, 1) := by decide +kernel
theorem dX4_digestWith_26 : decode cX4_digestWith 26 = .ok (.imul, 1) := by decide +kernel
theorem dX4_digestWith_27 : decode cX4_digestWith 27 = .ok (.iload 5, 2) := by decide +kernel
theorem dX4_digestWith_29 : decode cX4_digestWith 29 = .ok (.iadd, 1) := by decide +kernel
theorem dX4_digestWith_30 : decode cX4_digestWith 30 = .ok (.istore_n 3, 1) := by decide +kernel
theorem dX4_digestWith_31 : decode cX4_digestWith 31 = .ok (.bipush 31, 2) := by decide +kernel
theorem dX4_digestWith_33 : decode cX4_digestWith 33 = .ok (.iload_n 3, 1) := by decide +kernel
theorem dX4_digestWith_34 : decode cX4_digestWith 34 = .ok (.imul, 1) := by decide +kernel
theorem dX4_digestWith_35 : decode cX4_digestWith 35 = .ok (.aload_n 0, 1) := by decide +kernel
theorem dX4_digestWith_36 : decode cX4_digestWith 36 = .ok (.getfield 35, 3) := by decide +kernel
theorem dX4_digestWith_39 : decode cX4_digestWith 39 = .ok (.iload 5, 2) := by decide +kernel
theorem dX4_digestWith_41 : decode cX4_digestWith 41 = .ok (.iaload, 1) := by decide +kernel
theorem dX4_digestWith_42 : decode cX4_digestWith 42 = .ok (.iadd, 1) := by decide +kernel
theorem dX4_digestWith_43 : decode cX4_digestWith 43 = .ok (.istore_n 3, 1) := by decide +kernel
theorem dX4_digestWith_44 : decode cX4_digestWith 44 = .ok (.iinc 4 1, 3) := by decide +kernel
theorem dX4_digestWith_47 : decode cX4_digestWith 47 = .ok (.goto (-42), 3) := by decide +kernel
theorem dX4_digestWith_50 : decode cX4_digestWith 50 = .ok (.bipush 31, 2) := by decide +kernel
theorem dX4_digestWith_52 : decode cX4_digestWith 52 = .ok (.iload_n 3, 1) := by decide +kernel
theorem dX4_digestWith_53 : decode cX4_digestWith 53 = .ok (.imul, 1) := by decide +kernel
theorem dX4_digestWith_54 : decode cX4_digestWith 54 = .ok (.aload_n 2, 1) := by decide +kernel
theorem dX4_digestWith_55 : decode cX4_digestWith 55 = .ok (.aload_n 0, 1) := by decide +kernel
theorem dX4_digestWith_56 : decode cX4_digestWith 56 = .ok (.getfield 29, 3) := by decide +kernel
theorem dX4_digestWith_59 : decode cX4_digestWith 59 = .ok (.iconst 5, 1) := by decide +kernel
theorem dX4_digestWith_60 : decode cX4_digestWith 60 = .ok (.iaload, 1) := by decide +kernel
theorem dX4_digestWith_61 : decode cX4_digestWith 61 = .ok (.invokevirtual 116, 3) := by decide +kernel
theorem dX4_digestWith_64 : decode cX4_digestWith 64 = .ok (.iadd, 1) := by decide +kernel
theorem dX4_digestWith_65 : decode cX4_digestWith 65 = .ok (.ireturn, 1) := by decide +kernel
theorem dX4_isWho_0 : decode cX4_isWho 0 = .ok (.iload_n 0, 1) := by decide +kernel
theorem dX4_isWho_1 : decode cX4_isWho 1 = .ok (.ifCond .lt 13, 3) := by decide +kernel
theorem dX4_isWho_4 : decode cX4_isWho 4 = .ok (.iload_n 0, 1) := by decide +kernel
theorem dX4_isWho_5 : decode cX4_isWho 5 = .ok (.bipush 24, 2) := by decide +kernel
theorem dX4_isWho_7 : decode cX4_isWho 7 = .ok (.if_icmp .ge 7, 3) := by decide +kernel
theorem dX4_isWho_10 : decode cX4_isWho 10 = .ok (.iconst 1, 1) := by decide +kernel
theorem dX4_isWho_11 : decode cX4_isWho 11 = .ok (.goto 4, 3) := by decide +kernel
theorem dX4_isWho_14 : decode cX4_isWho 14 = .ok (.iconst 0, 1) := by decide +kernel
theorem dX4_isWho_15 : decode cX4_isWho 15 = .ok (.ireturn, 1) := by decide +kernel
theorem dX4_isName_0 : decode cX4_isName 0 = .ok (.iload_n 0, 1) := by decide +kernel
theorem dX4_isName_1 : decode cX4_isName 1 = .ok (.ifCond .lt 13, 3) := by decide +kernel
theorem dX4_isName_4 : decode cX4_isName 4 = .ok (.iload_n 0, 1) := by decide +kernel
theorem dX4_isName_5 : decode cX4_isName 5 = .ok (.bipush 12, 2) := by decide +kernel
theorem dX4_isName_7 : decode cX4_isName 7 = .ok (.if_icmp .ge 7, 3) := by decide +kernel
theorem dX4_isName_10 : decode cX4_isName 10 = .ok (.iconst 1, 1) := by decide +kernel
theorem dX4_isName_11 : decode cX4_isName 11 = .ok (.goto 4, 3) := by decide +kernel
theorem dX4_isName_14 : decode cX4_isName 14 = .ok (.iconst 0, 1) := by decide +kernel
theorem dX4_isName_15 : decode cX4_isName 15 = .ok (.ireturn, 1) := by decide +kernel
theorem dX4_isSort_0 : decode cX4_isSort 0 = .ok (.iload_n 0, 1) := by decide +kernel
theorem dX4_isSort_1 : decode cX4_isSort 1 = .ok (.ifCond .lt 13, 3) := by decide +kernel
theorem dX4_isSort_4 : decode cX4_isSort 4 = .ok (.iload_n 0, 1) := by decide +kernel
theorem dX4_isSort_5 : decode cX4_isSort 5 = .ok (.bipush 8, 2) := by decide +kernel
theorem dX4_isSort_7 : decode cX4_isSort 7 = .ok (.if_icmp .ge 7, 3) := by decide +kernel
theorem dX4_isSort_10 : decode cX4_isSort 10 = .ok (.iconst 1, 1) := by decide +kernel
theorem dX4_isSort_11 : decode cX4_isSort 11 = .ok (.goto 4, 3) := by decide +kernel
theorem dX4_isSort_14 : decode cX4_isSort 14 = .ok (.iconst 0, 1) := by decide +kernel
theorem dX4_isSort_15 : decode cX4_isSort 15 = .ok (.ireturn, 1) := by decide +kernel
theorem dX4_isWeek_0 : decode cX4_isWeek 0 = .ok (.iload_n 0, 1) := by decide +kernel
theorem dX4_isWeek_1 : decode cX4_isWeek 1 = .ok (.ifCond .lt 13, 3) := by decide +kernel
theorem dX4_isWeek_4 : decode cX4_isWeek 4 = .ok (.iload_n 0, 1) := by decide +kernel
theorem dX4_isWeek_5 : decode cX4_isWeek 5 = .ok (.bipush 20, 2) := by decide +kernel
theorem dX4_isWeek_7 : decode cX4_isWeek 7 = .ok (.if_icmp .ge 7, 3) := by decide +kernel
theorem dX4_isWeek_10 : decode cX4_isWeek 10 = .ok (.iconst 1, 1) := by decide +kernel
theorem dX4_isWeek_11 : decode cX4_isWeek 11 = .ok (.goto 4, 3) := by decide +kernel
theorem dX4_isWeek_14 : decode cX4_isWeek 14 = .ok (.iconst 0, 1) := by decide +kernel
theorem dX4_isWeek_15 : decode cX4_isWeek 15 = .ok (.ireturn, 1) := by decide +kernel
theorem dX4_isFunnel_0 : decode cX4_isFunnel 0 = .ok (.iload_n 1, 1) := by decide +kernel
theorem dX4_isFunnel_1 : decode cX4_isFunnel 1 = .ok (.ifCond .lt 15, 3) := by decide +kernel
theorem dX4_isFunnel_4 : decode cX4_isFunnel 4 = .ok (.iload_n 1, 1) := by decide +kernel
theorem dX4_isFunnel_5 : decode cX4_isFunnel 5 = .ok (.aload_n 0, 1) := by decide +kernel
theorem dX4_isFunnel_6 : decode cX4_isFunnel 6 = .ok (.getfield 45, 3) := by decide +kernel
theorem dX4_isFunnel_9 : decode cX4_isFunnel 9 = .ok (.if_icmp .ge 7, 3) := by decide +kernel
theorem dX4_isFunnel_12 : decode cX4_isFunnel 12 = .ok (.iconst 1, 1) := by decide +kernel
theorem dX4_isFunnel_13 : decode cX4_isFunnel 13 = .ok (.goto 4, 3) := by decide +kernel
theorem dX4_isFunnel_16 : decode cX4_isFunnel 16 = .ok (.iconst 0, 1) := by decide +kernel
theorem dX4_isFunnel_17 : decode cX4_isFunnel 17 = .ok (.ireturn, 1) := by decide +kernel
theorem dX4_isJoined_0 : decode cX4_isJoined 0 = .ok (.aload_n 0, 1) := by decide +kernel
theorem dX4_isJoined_1 : decode cX4_isJoined 1 = .ok (.getfield 16, 3) := by decide +kernel
theorem dX4_isJoined_4 : decode cX4_isJoined 4 = .ok (.iload_n 1, 1) := by decide +kernel
theorem dX4_isJoined_5 : decode cX4_isJoined 5 = .ok (.iaload, 1) := by decide +kernel
theorem dX4_isJoined_6 : decode cX4_isJoined 6 = .ok (.iload_n 1, 1) := by decide +kernel
theorem dX4_isJoined_7 : decode cX4_isJoined 7 = .ok (.if_icmp .eq 7, 3) := by decide +kernel
theorem dX4_isJoined_10 : decode cX4_isJoined 10 = .ok (.iconst 1, 1) := by decide +kernel
theorem dX4_isJoined_11 : decode cX4_isJoined 11 = .ok (.goto 4, 3) := by decide +kernel
theorem dX4_isJoined_14 : decode cX4_isJoined 14 = .ok (.iconst 0, 1) := by decide +kernel
theorem dX4_isJoined_15 : decode cX4_isJoined 15 = .ok (.ireturn, 1) := by decide +kernel
theorem dX4_bit_0 : decode cX4_bit 0 = .ok (.iload_n 0, 1) := by decide +kernel
theorem dX4_bit_1 : decode cX4_bit 1 = .ok (.ifCond .eq 7, 3) := by decide +kernel
theorem dX4_bit_4 : decode cX4_bit 4 = .ok (.iconst 1, 1) := by decide +kernel
theorem dX4_bit_5 : decode cX4_bit 5 = .ok (.goto 4, 3) := by decide +kernel
theorem dX4_bit_8 : decode cX4_bit 8 = .ok (.iconst 0, 1) := by decide +kernel
theorem dX4_bit_9 : decode cX4_bit 9 = .ok (.ireturn, 1) := by decide +kernel
theorem dX4_layRows_0 : decode cX4_layRows 0 = .ok (.iconst 0, 1) := by decide +kernel
theorem dX4_layRows_1 : decode cX4_layRows 1 = .ok (.istore_n 1, 1) := by decide +kernel
theorem dX4_layRows_2 : decode cX4_layRows 2 = .ok (.iload_n 1, 1) := by decide +kernel
theorem dX4_layRows_3 : decode cX4_layRows 3 = .ok (.bipush 24, 2) := by decide +kernel
theorem dX4_layRows_5 : decode cX4_layRows 5 = .ok (.if_icmp .ge 18, 3) := by decide +kernel
theorem dX4_layRows_8 : decode cX4_layRows 8 = .ok (.aload_n 0, 1) := by decide +kernel
theorem dX4_layRows_9 : decode cX4_layRows 9 = .ok (.getfield 22, 3) := by decide +kernel
theorem dX4_layRows_12 : decode cX4_layRows 12 = .ok (.iload_n 1, 1) := by decide +kernel
theorem dX4_layRows_13 : decode cX4_layRows 13 = .ok (.aaload, 1) := by decide +kernel
theorem dX4_layRows_14 : decode cX4_layRows 14 = .ok (.invokevirtual 175, 3) := by decide +kernel
theorem dX4_layRows_17 : decode cX4_layRows 17 = .ok (.iinc 1 1, 3) := by decide +kernel
theorem dX4_layRows_20 : decode cX4_layRows 20 = .ok (.goto (-18), 3) := by decide +kernel
theorem dX4_layRows_23 : decode cX4_layRows 23 = .ok (.iconst 0, 1) := by decide +kernel
theorem dX4_layRows_24 : decode cX4_layRows 24 = .ok (.istore_n 1, 1) := by decide +kernel
theorem dX4_layRows_25 : decode cX4_layRows 25 = .ok (.iload_n 1, 1) := by decide +kernel
theorem dX4_layRows_26 : decode cX4_layRows 26 = .ok (.aload_n 0, 1) := by decide +kernel
theorem dX4_layRows_27 : decode cX4_layRows 27 = .ok (.getfield 10, 3) := by decide +kernel
theorem dX4_layRows_30 : decode cX4_layRows 30 = .ok (.getfield 123, 3) := by decide +kernel
theorem dX4_layRows_33 : decode cX4_layRows 33 = .ok (.if_icmp .ge 56, 3) := by decide +kernel
theorem dX4_layRows_36 : decode cX4_layRows 36 = .ok (.aload_n 0, 1) := by decide +kernel
theorem dX4_layRows_37 : decode cX4_layRows 37 = .ok (.getfield 10, 3) := by decide +kernel
theorem dX4_layRows_40 : decode cX4_layRows 40 = .ok (.getfield 178, 3) := by decide +kernel
theorem dX4_layRows_43 : decode cX4_layRows 43 = .ok (.iload_n 1, 1) := by decide +kernel
theorem dX4_layRows_44 : decode cX4_layRows 44 = .ok (.iaload, 1) := by decide +kernel
theorem dX4_layRows_45 : decode cX4_layRows 45 = .ok (.istore_n 2, 1) := by decide +kernel
theorem dX4_layRows_46 : decode cX4_layRows 46 = .ok (.aload_n 0, 1) := by decide +kernel
theorem dX4_layRows_47 : decode cX4_layRows 47 = .ok (.getfield 32, 3) := by decide +kernel
theorem dX4_layRows_50 : decode cX4_layRows 50 = .ok (.iload_n 2, 1) := by decide +kernel
theorem dX4_layRows_51 : decode cX4_layRows 51 = .ok (.iconst (-1), 1) := by decide +kernel
theorem dX4_layRows_52 : decode cX4_layRows 52 = .ok (.iastore, 1) := by decide +kernel
theorem dX4_layRows_53 : decode cX4_layRows 53 = .ok (.aload_n 0, 1) := by decide +kernel
theorem dX4_layRows_54 : decode cX4_layRows 54 = .ok (.getfield 35, 3) := by decide +kernel
theorem dX4_layRows_57 : decode cX4_layRows 57 = .ok (.iload_n 2, 1) := by decide +kernel
theorem dX4_layRows_58 : decode cX4_layRows 58 = .ok (.iconst (-1), 1) := by decide +kernel
theorem dX4_layRows_59 : decode cX4_layRows 59 = .ok (.iastore, 1) := by decide +kernel
theorem dX4_layRows_60 : decode cX4_layRows 60 = .ok (.aload_n 0, 1) := by decide +kernel
theorem dX4_layRows_61 : decode cX4_layRows 61 = .ok (.getfield 22, 3) := by decide +kernel
theorem dX4_layRows_64 : decode cX4_layRows 64 = .ok (.aload_n 0, 1) := by decide +kernel
theorem dX4_layRows_65 : decode cX4_layRows 65 = .ok (.getfield 16, 3) := by decide +kernel
theorem dX4_layRows_68 : decode cX4_layRows 68 = .ok (.aload_n 0, 1) := by decide +kernel
theorem dX4_layRows_69 : decode cX4_layRows 69 = .ok (.getfield 10, 3) := by decide +kernel
theorem dX4_layRows_72 : decode cX4_layRows 72 = .ok (.getfield 100, 3) := by decide +kernel
theorem dX4_layRows_75 : decode cX4_layRows 75 = .ok (.iload_n 2, 1) := by decide +kernel
theorem dX4_layRows_76 : decode cX4_layRows 76 = .ok (.iaload, 1) := by decide +kernel
theorem dX4_layRows_77 : decode cX4_layRows 77 = .ok (.iaload, 1) := by decide +kernel
theorem dX4_layRows_78 : decode cX4_layRows 78 = .ok (.aaload, 1) := by decide +kernel
theorem dX4_layRows_79 : decode cX4_layRows 79 = .ok (.iload_n 2, 1) := by decide +kernel
theorem dX4_layRows_80 : decode cX4_layRows 80 = .ok (.invokevirtual 181, 3) := by decide +kernel
theorem dX4_layRows_83 : decode cX4_layRows 83 = .ok (.iinc 1 1, 3) := by decide +kernel
theorem dX4_layRows_86 : decode cX4_layRows 86 = .ok (.goto (-61), 3) := by decide +kernel
theorem dX4_layRows_89 : decode cX4_layRows 89 = .ok (.iconst 0, 1) := by decide +kernel
theorem dX4_layRows_90 : decode cX4_layRows 90 = .ok (.istore_n 1, 1) := by decide +kernel
theorem dX4_layRows_91 : decode cX4_layRows 91 = .ok (.iload_n 1, 1) := by decide +kernel
theorem dX4_layRows_92 : decode cX4_layRows 92 = .ok (.bipush 24, 2) := by decide +kernel
theorem dX4_layRows_94 : decode cX4_layRows 94 = .ok (.if_icmp .ge 40, 3) := by decide +kernel
theorem dX4_layRows_97 : decode cX4_layRows 97 = .ok (.aload_n 0, 1) := by decide +kernel
theorem dX4_layRows_98 : decode cX4_layRows 98 = .ok (.getfield 22, 3) := by decide +kernel
theorem dX4_layRows_101 : decode cX4_layRows 101 = .ok (.iload_n 1, 1) := by decide +kernel
theorem dX4_layRows_102 : decode cX4_layRows 102 = .ok (.aaload, 1) := by decide +kernel
theorem dX4_layRows_103 : decode cX4_layRows 103 = .ok (.aload_n 0, 1) := by decide +kernel
theorem dX4_layRows_104 : decode cX4_layRows 104 = .ok (.getfield 29, 3) := by decide +kernel
theorem dX4_layRows_107 : decode cX4_layRows 107 = .ok (.iconst 3, 1) := by decide +kernel
theorem dX4_layRows_108 : decode cX4_layRows 108 = .ok (.iaload, 1) := by decide +kernel
theorem dX4_layRows_109 : decode cX4_layRows 109 = .ok (.aload_n 0, 1) := by decide +kernel
theorem dX4_layRows_110 : decode cX4_layRows 110 = .ok (.getfield 29, 3) := by decide +kernel
theorem dX4_layRows_113 : decode cX4_layRows 113 = .ok (.iconst 4, 1) := by decide +kernel
theorem dX4_layRows_114 : decode cX4_layRows 114 = .ok (.iaload, 1) := by decide +kernel
theorem dX4_layRows_115 : decode cX4_layRows 115 = .ok (.invokevirtual 185, 3) := by decide +kernel
theorem dX4_layRows_118 : decode cX4_layRows 118 = .ok (.aload_n 0, 1) := by decide +kernel
theorem dX4_layRows_119 : decode cX4_layRows 119 = .ok (.aload_n 0, 1) := by decide +kernel
theorem dX4_layRows_120 : decode cX4_layRows 120 = .ok (.getfield 22, 3) := by decide +kernel
theorem dX4_layRows_123 : decode cX4_layRows 123 = .ok (.iload_n 1, 1) := by decide +kernel
theorem dX4_layRows_124 : decode cX4_layRows 124 = .ok (.aaload, 1) := by decide +kernel
theorem dX4_layRows_125 : decode cX4_layRows 125 = .ok (.invokevirtual 189, 3) := by decide +kernel
theorem dX4_layRows_128 : decode cX4_layRows 128 = .ok (.iinc 1 1, 3) := by decide +kernel
theorem dX4_layRows_131 : decode cX4_layRows 131 = .ok (.goto (-40), 3) := by decide +kernel
theorem dX4_layRows_134 : decode cX4_layRows 134 = .ok (.return_, 1) := by decide +kernel
theorem dX4_cutSittings_0 : decode cX4_cutSittings 0 = .ok (.iconst 0, 1) := by decide +kernel
theorem dX4_cutSittings_1 : decode cX4_cutSittings 1 = .ok (.istore_n 2, 1) := by decide +kernel
theorem dX4_cutSittings_2 : decode cX4_cutSittings 2 = .ok (.iconst 0, 1) := by decide +kernel
theorem dX4_cutSittings_3 : decode cX4_cutSittings 3 = .ok (.istore_n 3, 1) := by decide +kernel
theorem dX4_cutSittings_4 : decode cX4_cutSittings 4 = .ok (.iload_n 3, 1) := by decide +kernel
theorem dX4_cutSittings_5 : decode cX4_cutSittings 5 = .ok (.aload_n 1, 1) := by decide +kernel
theorem dX4_cutSittings_6 : decode cX4_cutSittings 6 = .ok (.getfield 106, 3) := by decide +kernel
theorem dX4_cutSittings_9 : decode cX4_cutSittings 9 = .ok (.if_icmp .ge 59, 3) := by decide +kernel
theorem dX4_cutSittings_12 : decode cX4_cutSittings 12 = .ok (.aload_n 1, 1) := by decide +kernel
theorem dX4_cutSittings_13 : decode cX4_cutSittings 13 = .ok (.getfield 121, 3) := by decide +kernel
theorem dX4_cutSittings_16 : decode cX4_cutSittings 16 = .ok (.iload_n 3, 1) := by decide +kernel
theorem dX4_cutSittings_17 : decode cX4_cutSittings 17 = .ok (.iaload, 1) := by decide +kernel
theorem dX4_cutSittings_18 : decode cX4_cutSittings 18 = .ok (.istore 4, 2) := by decide +kernel
theorem dX4_cutSittings_20 : decode cX4_cutSittings 20 = .ok (.iload_n 3, 1) := by decide +kernel
theorem dX4_cutSittings_21 : decode cX4_cutSittings 21 = .ok (.ifCond .eq 20, 3) := by decide +kernel
theorem dX4_cutSittings_24 : decode cX4_cutSittings 24 = .ok (.aload_n 0, 1) := by decide +kernel
theorem dX4_cutSittings_25 : decode cX4_cutSittings 25 = .ok (.aload_n 1, 1) := by decide +kernel
theorem dX4_cutSittings_26 : decode cX4_cutSittings 26 = .ok (.getfield 121, 3) := by decide +kernel
theorem dX4_cutSittings_29 : decode cX4_cutSittings 29 = .ok (.iload_n 3, 1) := by decide +kernel
theorem dX4_cutSittings_30 : decode cX4_cutSittings 30 = .ok (.iconst 1, 1) := by decide +kernel
theorem dX4_cutSittings_31 : decode cX4_cutSittings 31 = .ok (.isub, 1) := by decide +kernel
theorem dX4_cutSittings_32 : decode cX4_cutSittings 32 = .ok (.iaload, 1) := by decide +kernel
theorem dX4_cutSittings_33 : decode cX4_cutSittings 33 = .ok (.iload 4, 2) := by decide +kernel
theorem dX4_cutSittings_35 : decode cX4_cutSittings 35 = .ok (.invokevirtual 193, 3) := by decide +kernel
theorem dX4_cutSittings_38 : decode cX4_cutSittings 38 = .ok (.ifCond .eq 6, 3) := by decide +kernel
theorem dX4_cutSittings_41 : decode cX4_cutSittings 41 = .ok (.iinc 2 1, 3) := by decide +kernel
theorem dX4_cutSittings_44 : decode cX4_cutSittings 44 = .ok (.aload_n 0, 1) := by decide +kernel
theorem dX4_cutSittings_45 : decode cX4_cutSittings 45 = .ok (.getfield 32, 3) := by decide +kernel
theorem dX4_cutSittings_48 : decode cX4_cutSittings 48 = .ok (.iload 4, 2) := by decide +kernel
theorem dX4_cutSittings_50 : decode cX4_cutSittings 50 = .ok (.iload_n 3, 1) := by decide +kernel
theorem dX4_cutSittings_51 : decode cX4_cutSittings 51 = .ok (.iastore, 1) := by decide +kernel
theorem dX4_cutSittings_52 : decode cX4_cutSittings 52 = .ok (.aload_n 0, 1) := by decide +kernel
theorem dX4_cutSittings_53 : decode cX4_cutSittings 53 = .ok (.getfield 35, 3) := by decide +kernel
theorem dX4_cutSittings_56 : decode cX4_cutSittings 56 = .ok (.iload 4, 2) := by decide +kernel
theorem dX4_cutSittings_58 : decode cX4_cutSittings 58 = .ok (.iload_n 2, 1) := by decide +kernel
theorem dX4_cutSittings_59 : decode cX4_cutSittings 59 = .ok (.iconst 1, 1) := by decide +kernel
theorem dX4_cutSittings_60 : decode cX4_cutSittings 60 = .ok (.isub, 1) := by decide +kernel
theorem dX4_cutSittings_61 : decode cX4_cutSittings 61 = .ok (.iastore, 1) := by decide +kernel
theorem dX4_cutSittings_62 : decode cX4_cutSittings 62 = .ok (.iinc 3 1, 3) := by decide +kernel
theorem dX4_cutSittings_65 : decode cX4_cutSittings 65 = .ok (.goto (-61), 3) := by decide +kernel
theorem dX4_cutSittings_68 : decode cX4_cutSittings 68 = .ok (.aload_n 1, 1) := by decide +kernel
theorem dX4_cutSittings_69 : decode cX4_cutSittings 69 = .ok (.iload_n 2, 1) := by decide +kernel
theorem dX4_cutSittings_70 : decode cX4_cutSittings 70 = .ok (.putfield 113, 3) := by decide +kernel
theorem dX4_cutSittings_73 : decode cX4_cutSittings 73 = .ok (.return_, 1) := by decide +kernel
theorem dX4_isCut_0 : decode cX4_isCut 0 = .ok (.aload_n 0, 1) := by decide +kernel
theorem dX4_isCut_1 : decode cX4_isCut 1 = .ok (.getfield 10, 3) := by decide +kernel
theorem dX4_isCut_4 : decode cX4_isCut 4 = .ok (.getfield 97, 3) := by decide +kernel
theorem dX4_isCut_7 : decode cX4_isCut 7 = .ok (.iload_n 1, 1) := by decide +kernel
theorem dX4_isCut_8 : decode cX4_isCut 8 = .ok (.iaload, 1) := by decide +kernel
theorem dX4_isCut_9 : decode cX4_isCut 9 = .ok (.istore_n 3, 1) := by decide +kernel
theorem dX4_isCut_10 : decode cX4_isCut 10 = .ok (.aload_n 0, 1) := by decide +kernel
theorem dX4_isCut_11 : decode cX4_isCut 11 = .ok (.getfield 10, 3) := by decide +kernel
theorem dX4_isCut_14 : decode cX4_isCut 14 = .ok (.getfield 97, 3) := by decide +kernel
theorem dX4_isCut_17 : decode cX4_isCut 17 = .ok (.iload_n 2, 1) := by decide +kernel
theorem dX4_isCut_18 : decode cX4_isCut 18 = .ok (.iaload, 1) := by decide +kernel
theorem dX4_isCut_19 : decode cX4_isCut 19 = .ok (.istore 4, 2) := by decide +kernel
theorem dX4_isCut_21 : decode cX4_isCut 21 = .ok (.iload 4, 2) := by decide +kernel
theorem dX4_isCut_23 : decode cX4_isCut 23 = .ok (.iload_n 3, 1) := by decide +kernel
theorem dX4_isCut_24 : decode cX4_isCut 24 = .ok (.isub, 1) := by decide +kernel
theorem dX4_isCut_25 : decode cX4_isCut 25 = .ok (.aload_n 0, 1) := by decide +kernel
theorem dX4_isCut_26 : decode cX4_isCut 26 = .ok (.getfield 29, 3) := by decide +kernel
theorem dX4_isCut_29 : decode cX4_isCut 29 = .ok (.iconst 0, 1) := by decide +kernel
theorem dX4_isCut_30 : decode cX4_isCut 30 = .ok (.iaload, 1) := by decide +kernel
theorem dX4_isCut_31 : decode cX4_isCut 31 = .ok (.if_icmp .gt 45, 3) := by decide +kernel
theorem dX4_isCut_34 : decode cX4_isCut 34 = .ok (.aload_n 0, 1) := by decide +kernel
theorem dX4_isCut_35 : decode cX4_isCut 35 = .ok (.getfield 29, 3) := by decide +kernel
theorem dX4_isCut_38 : decode cX4_isCut 38 = .ok (.iconst 1, 1) := by decide +kernel
theorem dX4_isCut_39 : decode cX4_isCut 39 = .ok (.iaload, 1) := by decide +kernel
theorem dX4_isCut_40 : decode cX4_isCut 40 = .ok (.iconst 1, 1) := by decide +kernel
theorem dX4_isCut_41 : decode cX4_isCut 41 = .ok (.if_icmp .ne 17, 3) := by decide +kernel
theorem dX4_isCut_44 : decode cX4_isCut 44 = .ok (.iload 4, 2) := by decide +kernel
theorem dX4_isCut_46 : decode cX4_isCut 46 = .ok (.sipush 1440, 3) := by decide +kernel
theorem dX4_isCut_49 : decode cX4_isCut 49 = .ok (.idiv, 1) := by decide +kernel
theorem dX4_isCut_50 : decode cX4_isCut 50 = .ok (.iload_n 3, 1) := by decide +kernel
theorem dX4_isCut_51 : decode cX4_isCut 51 = .ok (.sipush 1440, 3) := by decide +kernel
theorem dX4_isCut_54 : decode cX4_isCut 54 = .ok (.idiv, 1) := by decide +kernel
theorem dX4_isCut_55 : decode cX4_isCut 55 = .ok (.if_icmp .ne 21, 3) := by decide +kernel
theorem dX4_isCut_58 : decode cX4_isCut 58 = .ok (.aload_n 0, 1) := by decide +kernel
theorem dX4_isCut_59 : decode cX4_isCut 59 = .ok (.getfield 10, 3) := by decide +kernel
theorem dX4_isCut_62 : decode cX4_isCut 62 = .ok (.getfield 103, 3) := by decide +kernel
theorem dX4_isCut_65 : decode cX4_isCut 65 = .ok (.iload_n 1, 1) := by decide +kernel
theorem dX4_isCut_66 : decode cX4_isCut 66 = .ok (.iaload, 1) := by decide +kernel
theorem dX4_isCut_67 : decode cX4_isCut 67 = .ok (.aload_n 0, 1) := by decide +kernel
theorem dX4_isCut_68 : decode cX4_isCut 68 = .ok (.getfield 29, 3) := by decide +kernel
theorem dX4_isCut_71 : decode cX4_isCut 71 = .ok (.iconst 2, 1) := by decide +kernel
theorem dX4_isCut_72 : decode cX4_isCut 72 = .ok (.iaload, 1) := by decide +kernel
theorem dX4_isCut_73 : decode cX4_isCut 73 = .ok (.if_icmp .ne 7, 3) := by decide +kernel
theorem dX4_isCut_76 : decode cX4_isCut 76 = .ok (.iconst 1, 1) := by decide +kernel
theorem dX4_isCut_77 : decode cX4_isCut 77 = .ok (.goto 4, 3) := by decide +kernel
theorem dX4_isCut_80 : decode cX4_isCut 80 = .ok (.iconst 0, 1) := by decide +kernel
theorem dX4_isCut_81 : decode cX4_isCut 81 = .ok (.ireturn, 1) := by decide +kernel
theorem dX4_countingClicks_0 : decode cX4_countingClicks 0 = .ok (.iconst 0, 1) := by decide +kernel
theorem dX4_countingClicks_1 : decode cX4_countingClicks 1 = .ok (.istore_n 1, 1) := by decide +kernel
theorem dX4_countingClicks_2 : decode cX4_countingClicks 2 = .ok (.iconst 0, 1) := by decide +kernel
theorem dX4_countingClicks_3 : decode cX4_countingClicks 3 = .ok (.istore_n 2, 1) := by decide +kernel
theorem dX4_countingClicks_4 : decode cX4_countingClicks 4 = .ok (.iload_n 2, 1) := by decide +kernel
theorem dX4_countingClicks_5 : decode cX4_countingClicks 5 = .ok (.bipush 24, 2) := by decide +kernel
theorem dX4_countingClicks_7 : decode cX4_countingClicks 7 = .ok (.if_icmp .ge 21, 3) := by decide +kernel
theorem dX4_countingClicks_10 : decode cX4_countingClicks 10 = .ok (.iload_n 1, 1) := by decide +kernel
theorem dX4_countingClicks_11 : decode cX4_countingClicks 11 = .ok (.aload_n 0, 1) := by decide +kernel
theorem dX4_countingClicks_12 : decode cX4_countingClicks 12 = .ok (.getfield 22, 3) := by decide +kernel
theorem dX4_countingClicks_15 : decode cX4_countingClicks 15 = .ok (.iload_n 2, 1) := by decide +kernel
theorem dX4_countingClicks_16 : decode cX4_countingClicks 16 = .ok (.aaload, 1) := by decide +kernel
theorem dX4_countingClicks_17 : decode cX4_countingClicks 17 = .ok (.getfield 106, 3) := by decide +kernel
theorem dX4_countingClicks_20 : decode cX4_countingClicks 20 = .ok (.iadd, 1) := by decide +kernel
theorem dX4_countingClicks_21 : decode cX4_countingClicks 21 = .ok (.istore_n 1, 1) := by decide +kernel
theorem dX4_countingClicks_22 : decode cX4_countingClicks 22 = .ok (.iinc 2 1, 3) := by decide +kernel
theorem dX4_countingClicks_25 : decode cX4_countingClicks 25 = .ok (.goto (-21), 3) := by decide +kernel
theorem dX4_countingClicks_28 : decode cX4_countingClicks 28 = .ok (.iload_n 1, 1) := by decide +kernel
theorem dX4_countingClicks_29 : decode cX4_countingClicks 29 = .ok (.ireturn, 1) := by decide +kernel
theorem dX4_allSittings_0 : decode cX4_allSittings 0 = .ok (.iconst 0, 1) := by decide +kernel
theorem dX4_allSittings_1 : decode cX4_allSittings 1 = .ok (.istore_n 1, 1) := by decide +kernel
theorem dX4_allSittings_2 : decode cX4_allSittings 2 = .ok (.iconst 0, 1) := by decide +kernel
theorem dX4_allSittings_3 : decode cX4_allSittings 3 = .ok (.istore_n 2, 1) := by decide +kernel
theorem dX4_allSittings_4 : decode cX4_allSittings 4 = .ok (.iload_n 2, 1) := by decide +kernel
theorem dX4_allSittings_5 : decode cX4_allSittings 5 = .ok (.bipush 24, 2) := by decide +kernel
theorem dX4_allSittings_7 : decode cX4_allSittings 7 = .ok (.if_icmp .ge 21, 3) := by decide +kernel
theorem dX4_allSittings_10 : decode cX4_allSittings 10 = .ok (.iload_n 1, 1) := by decide +kernel
theorem dX4_allSittings_11 : decode cX4_allSittings 11 = .ok (.aload_n 0, 1) := by decide +kernel
theorem dX4_allSittings_12 : decode cX4_allSittings 12 = .ok (.getfield 22, 3) := by decide +kernel
theorem dX4_allSittings_15 : decode cX4_allSittings 15 = .ok (.iload_n 2, 1) := by decide +kernel
theorem dX4_allSittings_16 : decode cX4_allSittings 16 = .ok (.aaload, 1) := by decide +kernel
theorem dX4_allSittings_17 : decode cX4_allSittings 17 = .ok (.getfield 113, 3) := by decide +kernel
theorem dX4_allSittings_20 : decode cX4_allSittings 20 = .ok (.iadd, 1) := by decide +kernel
theorem dX4_allSittings_21 : decode cX4_allSittings 21 = .ok (.istore_n 1, 1) := by decide +kernel
theorem dX4_allSittings_22 : decode cX4_allSittings 22 = .ok (.iinc 2 1, 3) := by decide +kernel
theorem dX4_allSittings_25 : decode cX4_allSittings 25 = .ok (.goto (-21), 3) := by decide +kernel
theorem dX4_allSittings_28 : decode cX4_allSittings 28 = .ok (.iload_n 1, 1) := by decide +kernel
theorem dX4_allSittings_29 : decode cX4_allSittings 29 = .ok (.ireturn, 1) := by decide +kernel
theorem dX4_presentPersons_0 : decode cX4_presentPersons 0 = .ok (.iconst 0, 1) := by decide +kernel
theorem dX4_presentPersons_1 : decode cX4_presentPersons 1 = .ok (.istore_n 1, 1) := by decide +kernel
theorem dX4_presentPersons_2 : decode cX4_presentPersons 2 = .ok (.iconst 0, 1) := by decide +kernel
theorem dX4_presentPersons_3 : decode cX4_presentPersons 3 = .ok (.istore_n 2, 1) := by decide +kernel
theorem dX4_presentPersons_4 : decode cX4_presentPersons 4 = .ok (.iload_n 2, 1) := by decide +kernel
theorem dX4_presentPersons_5 : decode cX4_presentPersons 5 = .ok (.bipush 24, 2) := by decide +kernel
theorem dX4_presentPersons_7 : decode cX4_presentPersons 7 = .ok (.if_icmp .ge 32, 3) := by decide +kernel
theorem dX4_presentPersons_10 : decode cX4_presentPersons 10 = .ok (.iload_n 1, 1) := by decide +kernel
theorem dX4_presentPersons_11 : decode cX4_presentPersons 11 = .ok (.aload_n 0, 1) := by decide +kernel
theorem dX4_presentPersons_12 : decode cX4_presentPersons 12 = .ok (.getfield 22, 3) := by decide +kernel
theorem dX4_presentPersons_15 : decode cX4_presentPersons 15 = .ok (.iload_n 2, 1) := by decide +kernel
theorem dX4_presentPersons_16 : decode cX4_presentPersons 16 = .ok (.aaload, 1) := by decide +kernel
theorem dX4_presentPersons_17 : decode cX4_presentPersons 17 = .ok (.getfield 106, 3) := by decide +kernel
theorem dX4_presentPersons_20 : decode cX4_presentPersons 20 = .ok (.ifCond .le 7, 3) := by decide +kernel
theorem dX4_presentPersons_23 : decode cX4_presentPersons 23 = .ok (.iconst 1, 1) := by decide +kernel
theorem dX4_presentPersons_24 : decode cX4_presentPersons 24 = .ok (.goto 4, 3) := by decide +kernel
theorem dX4_presentPersons_27 : decode cX4_presentPersons 27 = .ok (.iconst 0, 1) := by decide +kernel
theorem dX4_presentPersons_28 : decode cX4_presentPersons 28 = .ok (.invokestatic 78, 3) := by decide +kernel
theorem dX4_presentPersons_31 : decode cX4_presentPersons 31 = .ok (.iadd, 1) := by decide +kernel
theorem dX4_presentPersons_32 : decode cX4_presentPersons 32 = .ok (.istore_n 1, 1) := by decide +kernel
theorem dX4_presentPersons_33 : decode cX4_presentPersons 33 = .ok (.iinc 2 1, 3) := by decide +kernel
theorem dX4_presentPersons_36 : decode cX4_presentPersons 36 = .ok (.goto (-32), 3) := by decide +kernel
theorem dX4_presentPersons_39 : decode cX4_presentPersons 39 = .ok (.iload_n 1, 1) := by decide +kernel
theorem dX4_presentPersons_40 : decode cX4_presentPersons 40 = .ok (.ireturn, 1) := by decide +kernel
theorem dX4_quickPersons_0 : decode cX4_quickPersons 0 = .ok (.iconst 0, 1) := by decide +kernel
theorem dX4_quickPersons_1 : decode cX4_quickPersons 1 = .ok (.istore_n 1, 1) := by decide +kernel
theorem dX4_quickPersons_2 : decode cX4_quickPersons 2 = .ok (.iconst 0, 1) := by decide +kernel
theorem dX4_quickPersons_3 : decode cX4_quickPersons 3 = .ok (.istore_n 2, 1) := by decide +kernel
theorem dX4_quickPersons_4 : decode cX4_quickPersons 4 = .ok (.iload_n 2, 1) := by decide +kernel
theorem dX4_quickPersons_5 : decode cX4_quickPersons 5 = .ok (.bipush 24, 2) := by decide +kernel
theorem dX4_quickPersons_7 : decode cX4_quickPersons 7 = .ok (.if_icmp .ge 24, 3) := by decide +kernel
theorem dX4_quickPersons_10 : decode cX4_quickPersons 10 = .ok (.iload_n 1, 1) := by decide +kernel
theorem dX4_quickPersons_11 : decode cX4_quickPersons 11 = .ok (.aload_n 0, 1) := by decide +kernel
theorem dX4_quickPersons_12 : decode cX4_quickPersons 12 = .ok (.getfield 22, 3) := by decide +kernel
theorem dX4_quickPersons_15 : decode cX4_quickPersons 15 = .ok (.iload_n 2, 1) := by decide +kernel
theorem dX4_quickPersons_16 : decode cX4_quickPersons 16 = .ok (.aaload, 1) := by decide +kernel
theorem dX4_quickPersons_17 : decode cX4_quickPersons 17 = .ok (.getfield 109, 3) := by decide +kernel
theorem dX4_quickPersons_20 : decode cX4_quickPersons 20 = .ok (.invokestatic 78, 3) := by decide +kernel
theorem dX4_quickPersons_23 : decode cX4_quickPersons 23 = .ok (.iadd, 1) := by decide +kernel
theorem dX4_quickPersons_24 : decode cX4_quickPersons 24 = .ok (.istore_n 1, 1) := by decide +kernel
theorem dX4_quickPersons_25 : decode cX4_quickPersons 25 = .ok (.iinc 2 1, 3) := by decide +kernel
theorem dX4_quickPersons_28 : decode cX4_quickPersons 28 = .ok (.goto (-24), 3) := by decide +kernel
theorem dX4_quickPersons_31 : decode cX4_quickPersons 31 = .ok (.iload_n 1, 1) := by decide +kernel
theorem dX4_quickPersons_32 : decode cX4_quickPersons 32 = .ok (.ireturn, 1) := by decide +kernel
theorem dX4_joinedMarks_0 : decode cX4_joinedMarks 0 = .ok (.iconst 0, 1) := by decide +kernel
theorem dX4_joinedMarks_1 : decode cX4_joinedMarks 1 = .ok (.istore_n 1, 1) := by decide +kernel
theorem dX4_joinedMarks_2 : decode cX4_joinedMarks 2 = .ok (.iconst 0, 1) := by decide +kernel
theorem dX4_joinedMarks_3 : decode cX4_joinedMarks 3 = .ok (.istore_n 2, 1) := by decide +kernel
theorem dX4_joinedMarks_4 : decode cX4_joinedMarks 4 = .ok (.iload_n 2, 1) := by decide +kernel
theorem dX4_joinedMarks_5 : decode cX4_joinedMarks 5 = .ok (.bipush 24, 2) := by decide +kernel
theorem dX4_joinedMarks_7 : decode cX4_joinedMarks 7 = .ok (.if_icmp .ge 20, 3) := by decide +kernel
theorem dX4_joinedMarks_10 : decode cX4_joinedMarks 10 = .ok (.iload_n 1, 1) := by decide +kernel
theorem dX4_joinedMarks_11 : decode cX4_joinedMarks 11 = .ok (.aload_n 0, 1) := by decide +kernel
theorem dX4_joinedMarks_12 : decode cX4_joinedMarks 12 = .ok (.iload_n 2, 1) := by decide +kernel
theorem dX4_joinedMarks_13 : decode cX4_joinedMarks 13 = .ok (.invokevirtual 85, 3) := by decide +kernel
theorem dX4_joinedMarks_16 : decode cX4_joinedMarks 16 = .ok (.invokestatic 78, 3) := by decide +kernel
theorem dX4_joinedMarks_19 : decode cX4_joinedMarks 19 = .ok (.iadd, 1) := by decide +kernel
theorem dX4_joinedMarks_20 : decode cX4_joinedMarks 20 = .ok (.istore_n 1, 1) := by decide +kernel
theorem dX4_joinedMarks_21 : decode cX4_joinedMarks 21 = .ok (.iinc 2 1, 3) := by decide +kernel
theorem dX4_joinedMarks_24 : decode cX4_joinedMarks 24 = .ok (.goto (-20), 3) := by decide +kernel
theorem dX4_joinedMarks_27 : decode cX4_joinedMarks 27 = .ok (.iload_n 1, 1) := by decide +kernel
theorem dX4_joinedMarks_28 : decode cX4_joinedMarks 28 = .ok (.ireturn, 1) := by decide +kernel
