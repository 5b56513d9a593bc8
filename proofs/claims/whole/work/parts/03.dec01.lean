theorem dX2_inOrder_43 : decode cX2_inOrder 43 = .ok (.iconst (-1), 1) := by decide +kernel
theorem dX2_inOrder_44 : decode cX2_inOrder 44 = .ok (.if_icmp .ne 5, 3) := by decide +kernel
theorem dX2_inOrder_47 : decode cX2_inOrder 47 = .ok (.iconst (-1), 1) := by decide +kernel
theorem dX2_inOrder_48 : decode cX2_inOrder 48 = .ok (.ireturn, 1) := by decide +kernel
theorem dX2_inOrder_49 : decode cX2_inOrder 49 = .ok (.iload_n 3, 1) := by decide +kernel
theorem dX2_inOrder_50 : decode cX2_inOrder 50 = .ok (.iconst 1, 1) := by decide +kernel
theorem dX2_inOrder_51 : decode cX2_inOrder 51 = .ok (.iload 4, 2) := by decide +kernel
theorem dX2_inOrder_53 : decode cX2_inOrder 53 = .ok (.ishl, 1) := by decide +kernel
theorem dX2_inOrder_54 : decode cX2_inOrder 54 = .ok (.ior, 1) := by decide +kernel
theorem dX2_inOrder_55 : decode cX2_inOrder 55 = .ok (.istore_n 3, 1) := by decide +kernel
theorem dX2_inOrder_56 : decode cX2_inOrder 56 = .ok (.iinc 5 1, 3) := by decide +kernel
theorem dX2_inOrder_59 : decode cX2_inOrder 59 = .ok (.goto (-32), 3) := by decide +kernel
theorem dX2_inOrder_62 : decode cX2_inOrder 62 = .ok (.iload 4, 2) := by decide +kernel
theorem dX2_inOrder_64 : decode cX2_inOrder 64 = .ok (.ireturn, 1) := by decide +kernel
theorem dX2_firstThatLeavesARow_0 : decode cX2_firstThatLeavesARow 0 = .ok (.iconst 0, 1) := by decide +kernel
theorem dX2_firstThatLeavesARow_1 : decode cX2_firstThatLeavesARow 1 = .ok (.istore_n 3, 1) := by decide +kernel
theorem dX2_firstThatLeavesARow_2 : decode cX2_firstThatLeavesARow 2 = .ok (.iload_n 3, 1) := by decide +kernel
theorem dX2_firstThatLeavesARow_3 : decode cX2_firstThatLeavesARow 3 = .ok (.aload_n 0, 1) := by decide +kernel
theorem dX2_firstThatLeavesARow_4 : decode cX2_firstThatLeavesARow 4 = .ok (.getfield 15, 3) := by decide +kernel
theorem dX2_firstThatLeavesARow_7 : decode cX2_firstThatLeavesARow 7 = .ok (.getfield 33, 3) := by decide +kernel
theorem dX2_firstThatLeavesARow_10 : decode cX2_firstThatLeavesARow 10 = .ok (.if_icmp .ge 53, 3) := by decide +kernel
theorem dX2_firstThatLeavesARow_13 : decode cX2_firstThatLeavesARow 13 = .ok (.iload_n 1, 1) := by decide +kernel
theorem dX2_firstThatLeavesARow_14 : decode cX2_firstThatLeavesARow 14 = .ok (.iload_n 2, 1) := by decide +kernel
theorem dX2_firstThatLeavesARow_15 : decode cX2_firstThatLeavesARow 15 = .ok (.iconst (-1), 1) := by decide +kernel
theorem dX2_firstThatLeavesARow_16 : decode cX2_firstThatLeavesARow 16 = .ok (.ixor, 1) := by decide +kernel
theorem dX2_firstThatLeavesARow_17 : decode cX2_firstThatLeavesARow 17 = .ok (.iand, 1) := by decide +kernel
theorem dX2_firstThatLeavesARow_18 : decode cX2_firstThatLeavesARow 18 = .ok (.iload_n 3, 1) := by decide +kernel
theorem dX2_firstThatLeavesARow_19 : decode cX2_firstThatLeavesARow 19 = .ok (.invokestatic 53, 3) := by decide +kernel
theorem dX2_firstThatLeavesARow_22 : decode cX2_firstThatLeavesARow 22 = .ok (.ifCond .eq 35, 3) := by decide +kernel
theorem dX2_firstThatLeavesARow_25 : decode cX2_firstThatLeavesARow 25 = .ok (.aload_n 0, 1) := by decide +kernel
theorem dX2_firstThatLeavesARow_26 : decode cX2_firstThatLeavesARow 26 = .ok (.aload_n 0, 1) := by decide +kernel
theorem dX2_firstThatLeavesARow_27 : decode cX2_firstThatLeavesARow 27 = .ok (.getfield 15, 3) := by decide +kernel
theorem dX2_firstThatLeavesARow_30 : decode cX2_firstThatLeavesARow 30 = .ok (.getfield 39, 3) := by decide +kernel
theorem dX2_firstThatLeavesARow_33 : decode cX2_firstThatLeavesARow 33 = .ok (.iload_n 3, 1) := by decide +kernel
theorem dX2_firstThatLeavesARow_34 : decode cX2_firstThatLeavesARow 34 = .ok (.aaload, 1) := by decide +kernel
theorem dX2_firstThatLeavesARow_35 : decode cX2_firstThatLeavesARow 35 = .ok (.iload_n 2, 1) := by decide +kernel
theorem dX2_firstThatLeavesARow_36 : decode cX2_firstThatLeavesARow 36 = .ok (.invokevirtual 29, 3) := by decide +kernel
theorem dX2_firstThatLeavesARow_39 : decode cX2_firstThatLeavesARow 39 = .ok (.ifCond .eq 18, 3) := by decide +kernel
theorem dX2_firstThatLeavesARow_42 : decode cX2_firstThatLeavesARow 42 = .ok (.aload_n 0, 1) := by decide +kernel
theorem dX2_firstThatLeavesARow_43 : decode cX2_firstThatLeavesARow 43 = .ok (.iload_n 1, 1) := by decide +kernel
theorem dX2_firstThatLeavesARow_44 : decode cX2_firstThatLeavesARow 44 = .ok (.iload_n 2, 1) := by decide +kernel
theorem dX2_firstThatLeavesARow_45 : decode cX2_firstThatLeavesARow 45 = .ok (.iconst 1, 1) := by decide +kernel
theorem dX2_firstThatLeavesARow_46 : decode cX2_firstThatLeavesARow 46 = .ok (.iload_n 3, 1) := by decide +kernel
theorem dX2_firstThatLeavesARow_47 : decode cX2_firstThatLeavesARow 47 = .ok (.ishl, 1) := by decide +kernel
theorem dX2_firstThatLeavesARow_48 : decode cX2_firstThatLeavesARow 48 = .ok (.ior, 1) := by decide +kernel
theorem dX2_firstThatLeavesARow_49 : decode cX2_firstThatLeavesARow 49 = .ok (.invokevirtual 87, 3) := by decide +kernel
theorem dX2_firstThatLeavesARow_52 : decode cX2_firstThatLeavesARow 52 = .ok (.ifCond .eq 5, 3) := by decide +kernel
theorem dX2_firstThatLeavesARow_55 : decode cX2_firstThatLeavesARow 55 = .ok (.iload_n 3, 1) := by decide +kernel
theorem dX2_firstThatLeavesARow_56 : decode cX2_firstThatLeavesARow 56 = .ok (.ireturn, 1) := by decide +kernel
theorem dX2_firstThatLeavesARow_57 : decode cX2_firstThatLeavesARow 57 = .ok (.iinc 3 1, 3) := by decide +kernel
theorem dX2_firstThatLeavesARow_60 : decode cX2_firstThatLeavesARow 60 = .ok (.goto (-58), 3) := by decide +kernel
theorem dX2_firstThatLeavesARow_63 : decode cX2_firstThatLeavesARow 63 = .ok (.iconst (-1), 1) := by decide +kernel
theorem dX2_firstThatLeavesARow_64 : decode cX2_firstThatLeavesARow 64 = .ok (.ireturn, 1) := by decide +kernel
theorem dX2_canFollow_0 : decode cX2_canFollow 0 = .ok (.iload_n 1, 1) := by decide +kernel
theorem dX2_canFollow_1 : decode cX2_canFollow 1 = .ok (.iload_n 2, 1) := by decide +kernel
theorem dX2_canFollow_2 : decode cX2_canFollow 2 = .ok (.iconst (-1), 1) := by decide +kernel
theorem dX2_canFollow_3 : decode cX2_canFollow 3 = .ok (.ixor, 1) := by decide +kernel
theorem dX2_canFollow_4 : decode cX2_canFollow 4 = .ok (.iand, 1) := by decide +kernel
theorem dX2_canFollow_5 : decode cX2_canFollow 5 = .ok (.istore_n 3, 1) := by decide +kernel
theorem dX2_canFollow_6 : decode cX2_canFollow 6 = .ok (.iconst 0, 1) := by decide +kernel
theorem dX2_canFollow_7 : decode cX2_canFollow 7 = .ok (.istore 4, 2) := by decide +kernel
theorem dX2_canFollow_9 : decode cX2_canFollow 9 = .ok (.iload 4, 2) := by decide +kernel
theorem dX2_canFollow_11 : decode cX2_canFollow 11 = .ok (.bipush 9, 2) := by decide +kernel
theorem dX2_canFollow_13 : decode cX2_canFollow 13 = .ok (.if_icmp .ge 94, 3) := by decide +kernel
theorem dX2_canFollow_16 : decode cX2_canFollow 16 = .ok (.iload_n 3, 1) := by decide +kernel
theorem dX2_canFollow_17 : decode cX2_canFollow 17 = .ok (.ifCond .eq 90, 3) := by decide +kernel
theorem dX2_canFollow_20 : decode cX2_canFollow 20 = .ok (.iload_n 3, 1) := by decide +kernel
theorem dX2_canFollow_21 : decode cX2_canFollow 21 = .ok (.istore 5, 2) := by decide +kernel
theorem dX2_canFollow_23 : decode cX2_canFollow 23 = .ok (.iconst 0, 1) := by decide +kernel
theorem dX2_canFollow_24 : decode cX2_canFollow 24 = .ok (.istore 6, 2) := by decide +kernel
theorem dX2_canFollow_26 : decode cX2_canFollow 26 = .ok (.iload 6, 2) := by decide +kernel
theorem dX2_canFollow_28 : decode cX2_canFollow 28 = .ok (.aload_n 0, 1) := by decide +kernel
theorem dX2_canFollow_29 : decode cX2_canFollow 29 = .ok (.getfield 15, 3) := by decide +kernel
theorem dX2_canFollow_32 : decode cX2_canFollow 32 = .ok (.getfield 33, 3) := by decide +kernel
theorem dX2_canFollow_35 : decode cX2_canFollow 35 = .ok (.if_icmp .ge 58, 3) := by decide +kernel
theorem dX2_canFollow_38 : decode cX2_canFollow 38 = .ok (.iload_n 2, 1) := by decide +kernel
theorem dX2_canFollow_39 : decode cX2_canFollow 39 = .ok (.iload_n 3, 1) := by decide +kernel
theorem dX2_canFollow_40 : decode cX2_canFollow 40 = .ok (.ior, 1) := by decide +kernel
theorem dX2_canFollow_41 : decode cX2_canFollow 41 = .ok (.iconst 1, 1) := by decide +kernel
theorem dX2_canFollow_42 : decode cX2_canFollow 42 = .ok (.iload 6, 2) := by decide +kernel
theorem dX2_canFollow_44 : decode cX2_canFollow 44 = .ok (.ishl, 1) := by decide +kernel
theorem dX2_canFollow_45 : decode cX2_canFollow 45 = .ok (.iconst (-1), 1) := by decide +kernel
theorem dX2_canFollow_46 : decode cX2_canFollow 46 = .ok (.ixor, 1) := by decide +kernel
theorem dX2_canFollow_47 : decode cX2_canFollow 47 = .ok (.iand, 1) := by decide +kernel
theorem dX2_canFollow_48 : decode cX2_canFollow 48 = .ok (.istore 7, 2) := by decide +kernel
theorem dX2_canFollow_50 : decode cX2_canFollow 50 = .ok (.iload_n 3, 1) := by decide +kernel
theorem dX2_canFollow_51 : decode cX2_canFollow 51 = .ok (.iload 6, 2) := by decide +kernel
theorem dX2_canFollow_53 : decode cX2_canFollow 53 = .ok (.invokestatic 53, 3) := by decide +kernel
theorem dX2_canFollow_56 : decode cX2_canFollow 56 = .ok (.ifCond .eq 31, 3) := by decide +kernel
theorem dX2_canFollow_59 : decode cX2_canFollow 59 = .ok (.aload_n 0, 1) := by decide +kernel
theorem dX2_canFollow_60 : decode cX2_canFollow 60 = .ok (.aload_n 0, 1) := by decide +kernel
theorem dX2_canFollow_61 : decode cX2_canFollow 61 = .ok (.getfield 15, 3) := by decide +kernel
theorem dX2_canFollow_64 : decode cX2_canFollow 64 = .ok (.getfield 39, 3) := by decide +kernel
theorem dX2_canFollow_67 : decode cX2_canFollow 67 = .ok (.iload 6, 2) := by decide +kernel
theorem dX2_canFollow_69 : decode cX2_canFollow 69 = .ok (.aaload, 1) := by decide +kernel
theorem dX2_canFollow_70 : decode cX2_canFollow 70 = .ok (.iload 7, 2) := by decide +kernel
theorem dX2_canFollow_72 : decode cX2_canFollow 72 = .ok (.invokevirtual 29, 3) := by decide +kernel
theorem dX2_canFollow_75 : decode cX2_canFollow 75 = .ok (.ifCond .eq 12, 3) := by decide +kernel
theorem dX2_canFollow_78 : decode cX2_canFollow 78 = .ok (.iload_n 3, 1) := by decide +kernel
theorem dX2_canFollow_79 : decode cX2_canFollow 79 = .ok (.iconst 1, 1) := by decide +kernel
theorem dX2_canFollow_80 : decode cX2_canFollow 80 = .ok (.iload 6, 2) := by decide +kernel
theorem dX2_canFollow_82 : decode cX2_canFollow 82 = .ok (.ishl, 1) := by decide +kernel
theorem dX2_canFollow_83 : decode cX2_canFollow 83 = .ok (.iconst (-1), 1) := by decide +kernel
theorem dX2_canFollow_84 : decode cX2_canFollow 84 = .ok (.ixor, 1) := by decide +kernel
theorem dX2_canFollow_85 : decode cX2_canFollow 85 = .ok (.iand, 1) := by decide +kernel
theorem dX2_canFollow_86 : decode cX2_canFollow 86 = .ok (.istore_n 3, 1) := by decide +kernel
theorem dX2_canFollow_87 : decode cX2_canFollow 87 = .ok (.iinc 6 1, 3) := by decide +kernel
theorem dX2_canFollow_90 : decode cX2_canFollow 90 = .ok (.goto (-64), 3) := by decide +kernel
theorem dX2_canFollow_93 : decode cX2_canFollow 93 = .ok (.iload_n 3, 1) := by decide +kernel
theorem dX2_canFollow_94 : decode cX2_canFollow 94 = .ok (.iload 5, 2) := by decide +kernel
theorem dX2_canFollow_96 : decode cX2_canFollow 96 = .ok (.if_icmp .ne 5, 3) := by decide +kernel
theorem dX2_canFollow_99 : decode cX2_canFollow 99 = .ok (.iconst 0, 1) := by decide +kernel
theorem dX2_canFollow_100 : decode cX2_canFollow 100 = .ok (.ireturn, 1) := by decide +kernel
theorem dX2_canFollow_101 : decode cX2_canFollow 101 = .ok (.iinc 4 1, 3) := by decide +kernel
theorem dX2_canFollow_104 : decode cX2_canFollow 104 = .ok (.goto (-95), 3) := by decide +kernel
theorem dX2_canFollow_107 : decode cX2_canFollow 107 = .ok (.iload_n 3, 1) := by decide +kernel
theorem dX2_canFollow_108 : decode cX2_canFollow 108 = .ok (.ifCond .ne 7, 3) := by decide +kernel
theorem dX2_canFollow_111 : decode cX2_canFollow 111 = .ok (.iconst 1, 1) := by decide +kernel
theorem dX2_canFollow_112 : decode cX2_canFollow 112 = .ok (.goto 4, 3) := by decide +kernel
theorem dX2_canFollow_115 : decode cX2_canFollow 115 = .ok (.iconst 0, 1) := by decide +kernel
theorem dX2_canFollow_116 : decode cX2_canFollow 116 = .ok (.ireturn, 1) := by decide +kernel
theorem dX3_init_0 : decode cX3_init 0 = .ok (.aload_n 0, 1) := by decide +kernel
theorem dX3_init_1 : decode cX3_init 1 = .ok (.invokespecial 3, 3) := by decide +kernel
theorem dX3_init_4 : decode cX3_init 4 = .ok (.aload_n 0, 1) := by decide +kernel
theorem dX3_init_5 : decode cX3_init 5 = .ok (.bipush 12, 2) := by decide +kernel
theorem dX3_init_7 : decode cX3_init 7 = .ok (.newarray .int, 2) := by decide +kernel
theorem dX3_init_9 : decode cX3_init 9 = .ok (.putfield 11, 3) := by decide +kernel
theorem dX3_init_12 : decode cX3_init 12 = .ok (.aload_n 0, 1) := by decide +kernel
theorem dX3_init_13 : decode cX3_init 13 = .ok (.bipush 12, 2) := by decide +kernel
theorem dX3_init_15 : decode cX3_init 15 = .ok (.newarray .int, 2) := by decide +kernel
theorem dX3_init_17 : decode cX3_init 17 = .ok (.putfield 15, 3) := by decide +kernel
theorem dX3_init_20 : decode cX3_init 20 = .ok (.aload_n 0, 1) := by decide +kernel
theorem dX3_init_21 : decode cX3_init 21 = .ok (.bipush 108, 2) := by decide +kernel
theorem dX3_init_23 : decode cX3_init 23 = .ok (.newarray .int, 2) := by decide +kernel
theorem dX3_init_25 : decode cX3_init 25 = .ok (.putfield 20, 3) := by decide +kernel
theorem dX3_init_28 : decode cX3_init 28 = .ok (.aload_n 0, 1) := by decide +kernel
theorem dX3_init_29 : decode cX3_init 29 = .ok (.bipush 108, 2) := by decide +kernel
theorem dX3_init_31 : decode cX3_init 31 = .ok (.newarray .int, 2) := by decide +kernel
theorem dX3_init_33 : decode cX3_init 33 = .ok (.putfield 23, 3) := by decide +kernel
theorem dX3_init_36 : decode cX3_init 36 = .ok (.iconst 0, 1) := by decide +kernel
theorem dX3_init_37 : decode cX3_init 37 = .ok (.istore_n 1, 1) := by decide +kernel
theorem dX3_init_38 : decode cX3_init 38 = .ok (.iload_n 1, 1) := by decide +kernel
theorem dX3_init_39 : decode cX3_init 39 = .ok (.aload_n 0, 1) := by decide +kernel
theorem dX3_init_40 : decode cX3_init 40 = .ok (.getfield 20, 3) := by decide +kernel
theorem dX3_init_43 : decode cX3_init 43 = .ok (.arraylength, 1) := by decide +kernel
theorem dX3_init_44 : decode cX3_init 44 = .ok (.if_icmp .ge 16, 3) := by decide +kernel
theorem dX3_init_47 : decode cX3_init 47 = .ok (.aload_n 0, 1) := by decide +kernel
theorem dX3_init_48 : decode cX3_init 48 = .ok (.getfield 20, 3) := by decide +kernel
theorem dX3_init_51 : decode cX3_init 51 = .ok (.iload_n 1, 1) := by decide +kernel
theorem dX3_init_52 : decode cX3_init 52 = .ok (.iconst (-1), 1) := by decide +kernel
theorem dX3_init_53 : decode cX3_init 53 = .ok (.iastore, 1) := by decide +kernel
theorem dX3_init_54 : decode cX3_init 54 = .ok (.iinc 1 1, 3) := by decide +kernel
theorem dX3_init_57 : decode cX3_init 57 = .ok (.goto (-19), 3) := by decide +kernel
theorem dX3_init_60 : decode cX3_init 60 = .ok (.return_, 1) := by decide +kernel
theorem dX3_has_0 : decode cX3_has 0 = .ok (.iload_n 1, 1) := by decide +kernel
theorem dX3_has_1 : decode cX3_has 1 = .ok (.ifCond .lt 15, 3) := by decide +kernel
theorem dX3_has_4 : decode cX3_has 4 = .ok (.iload_n 1, 1) := by decide +kernel
theorem dX3_has_5 : decode cX3_has 5 = .ok (.aload_n 0, 1) := by decide +kernel
theorem dX3_has_6 : decode cX3_has 6 = .ok (.getfield 26, 3) := by decide +kernel
theorem dX3_has_9 : decode cX3_has 9 = .ok (.if_icmp .ge 7, 3) := by decide +kernel
theorem dX3_has_12 : decode cX3_has 12 = .ok (.iconst 1, 1) := by decide +kernel
theorem dX3_has_13 : decode cX3_has 13 = .ok (.goto 4, 3) := by decide +kernel
theorem dX3_has_16 : decode cX3_has 16 = .ok (.iconst 0, 1) := by decide +kernel
theorem dX3_has_17 : decode cX3_has 17 = .ok (.ireturn, 1) := by decide +kernel
theorem dX3_add_0 : decode cX3_add 0 = .ok (.aload_n 0, 1) := by decide +kernel
theorem dX3_add_1 : decode cX3_add 1 = .ok (.getfield 11, 3) := by decide +kernel
theorem dX3_add_4 : decode cX3_add 4 = .ok (.aload_n 0, 1) := by decide +kernel
theorem dX3_add_5 : decode cX3_add 5 = .ok (.getfield 26, 3) := by decide +kernel
theorem dX3_add_8 : decode cX3_add 8 = .ok (.iload_n 1, 1) := by decide +kernel
theorem dX3_add_9 : decode cX3_add 9 = .ok (.iastore, 1) := by decide +kernel
theorem dX3_add_10 : decode cX3_add 10 = .ok (.aload_n 0, 1) := by decide +kernel
theorem dX3_add_11 : decode cX3_add 11 = .ok (.getfield 15, 3) := by decide +kernel
theorem dX3_add_14 : decode cX3_add 14 = .ok (.aload_n 0, 1) := by decide +kernel
theorem dX3_add_15 : decode cX3_add 15 = .ok (.getfield 26, 3) := by decide +kernel
theorem dX3_add_18 : decode cX3_add 18 = .ok (.iload_n 2, 1) := by decide +kernel
theorem dX3_add_19 : decode cX3_add 19 = .ok (.iastore, 1) := by decide +kernel
theorem dX3_add_20 : decode cX3_add 20 = .ok (.aload_n 0, 1) := by decide +kernel
theorem dX3_add_21 : decode cX3_add 21 = .ok (.dup, 1) := by decide +kernel
theorem dX3_add_22 : decode cX3_add 22 = .ok (.getfield 26, 3) := by decide +kernel
theorem dX3_add_25 : decode cX3_add 25 = .ok (.iconst 1, 1) := by decide +kernel
theorem dX3_add_26 : decode cX3_add 26 = .ok (.iadd, 1) := by decide +kernel
theorem dX3_add_27 : decode cX3_add 27 = .ok (.putfield 26, 3) := by decide +kernel
theorem dX3_add_30 : decode cX3_add 30 = .ok (.aload_n 0, 1) := by decide +kernel
theorem dX3_add_31 : decode cX3_add 31 = .ok (.getfield 26, 3) := by decide +kernel
theorem dX3_add_34 : decode cX3_add 34 = .ok (.iconst 1, 1) := by decide +kernel
theorem dX3_add_35 : decode cX3_add 35 = .ok (.isub, 1) := by decide +kernel
theorem dX3_add_36 : decode cX3_add 36 = .ok (.ireturn, 1) := by decide +kernel
theorem dX3_mayJudge_0 : decode cX3_mayJudge 0 = .ok (.aload_n 0, 1) := by decide +kernel
theorem dX3_mayJudge_1 : decode cX3_mayJudge 1 = .ok (.getfield 11, 3) := by decide +kernel
theorem dX3_mayJudge_4 : decode cX3_mayJudge 4 = .ok (.iload_n 1, 1) := by decide +kernel
theorem dX3_mayJudge_5 : decode cX3_mayJudge 5 = .ok (.iaload, 1) := by decide +kernel
theorem dX3_mayJudge_6 : decode cX3_mayJudge 6 = .ok (.aload_n 2, 1) := by decide +kernel
theorem dX3_mayJudge_7 : decode cX3_mayJudge 7 = .ok (.getfield 30, 3) := by decide +kernel
theorem dX3_mayJudge_10 : decode cX3_mayJudge 10 = .ok (.if_icmp .eq 20, 3) := by decide +kernel
theorem dX3_mayJudge_13 : decode cX3_mayJudge 13 = .ok (.aload_n 0, 1) := by decide +kernel
theorem dX3_mayJudge_14 : decode cX3_mayJudge 14 = .ok (.getfield 15, 3) := by decide +kernel
theorem dX3_mayJudge_17 : decode cX3_mayJudge 17 = .ok (.iload_n 1, 1) := by decide +kernel
theorem dX3_mayJudge_18 : decode cX3_mayJudge 18 = .ok (.iaload, 1) := by decide +kernel
theorem dX3_mayJudge_19 : decode cX3_mayJudge 19 = .ok (.aload_n 2, 1) := by decide +kernel
theorem dX3_mayJudge_20 : decode cX3_mayJudge 20 = .ok (.getfield 35, 3) := by decide +kernel
theorem dX3_mayJudge_23 : decode cX3_mayJudge 23 = .ok (.if_icmp .ne 7, 3) := by decide +kernel
theorem dX3_mayJudge_26 : decode cX3_mayJudge 26 = .ok (.iconst 1, 1) := by decide +kernel
theorem dX3_mayJudge_27 : decode cX3_mayJudge 27 = .ok (.goto 4, 3) := by decide +kernel
theorem dX3_mayJudge_30 : decode cX3_mayJudge 30 = .ok (.iconst 0, 1) := by decide +kernel
theorem dX3_mayJudge_31 : decode cX3_mayJudge 31 = .ok (.ireturn, 1) := by decide +kernel
theorem dX3_slot_0 : decode cX3_slot 0 = .ok (.iload_n 0, 1) := by decide +kernel
theorem dX3_slot_1 : decode cX3_slot 1 = .ok (.bipush 9, 2) := by decide +kernel
theorem dX3_slot_3 : decode cX3_slot 3 = .ok (.imul, 1) := by decide +kernel
theorem dX3_slot_4 : decode cX3_slot 4 = .ok (.iload_n 1, 1) := by decide +kernel
theorem dX3_slot_5 : decode cX3_slot 5 = .ok (.iadd, 1) := by decide +kernel
theorem dX3_slot_6 : decode cX3_slot 6 = .ok (.ireturn, 1) := by decide +kernel
theorem dX3_give_0 : decode cX3_give 0 = .ok (.aload_n 0, 1) := by decide +kernel
theorem dX3_give_1 : decode cX3_give 1 = .ok (.getfield 20, 3) := by decide +kernel
theorem dX3_give_4 : decode cX3_give 4 = .ok (.iload_n 1, 1) := by decide +kernel
theorem dX3_give_5 : decode cX3_give 5 = .ok (.iload_n 2, 1) := by decide +kernel
theorem dX3_give_6 : decode cX3_give 6 = .ok (.invokestatic 38, 3) := by decide +kernel
theorem dX3_give_9 : decode cX3_give 9 = .ok (.iaload, 1) := by decide +kernel
theorem dX3_give_10 : decode cX3_give 10 = .ok (.istore 5, 2) := by decide +kernel
theorem dX3_give_12 : decode cX3_give 12 = .ok (.aload_n 0, 1) := by decide +kernel
theorem dX3_give_13 : decode cX3_give 13 = .ok (.getfield 20, 3) := by decide +kernel
theorem dX3_give_16 : decode cX3_give 16 = .ok (.iload_n 1, 1) := by decide +kernel
theorem dX3_give_17 : decode cX3_give 17 = .ok (.iload_n 2, 1) := by decide +kernel
theorem dX3_give_18 : decode cX3_give 18 = .ok (.invokestatic 38, 3) := by decide +kernel
theorem dX3_give_21 : decode cX3_give 21 = .ok (.iload_n 3, 1) := by decide +kernel
theorem dX3_give_22 : decode cX3_give 22 = .ok (.iastore, 1) := by decide +kernel
theorem dX3_give_23 : decode cX3_give 23 = .ok (.aload_n 0, 1) := by decide +kernel
theorem dX3_give_24 : decode cX3_give 24 = .ok (.getfield 23, 3) := by decide +kernel
theorem dX3_give_27 : decode cX3_give 27 = .ok (.iload_n 1, 1) := by decide +kernel
theorem dX3_give_28 : decode cX3_give 28 = .ok (.iload_n 2, 1) := by decide +kernel
theorem dX3_give_29 : decode cX3_give 29 = .ok (.invokestatic 38, 3) := by decide +kernel
theorem dX3_give_32 : decode cX3_give 32 = .ok (.iload 4, 2) := by decide +kernel
theorem dX3_give_34 : decode cX3_give 34 = .ok (.iastore, 1) := by decide +kernel
theorem dX3_give_35 : decode cX3_give 35 = .ok (.iload 5, 2) := by decide +kernel
theorem dX3_give_37 : decode cX3_give 37 = .ok (.ireturn, 1) := by decide +kernel
theorem dX3_marksOf_0 : decode cX3_marksOf 0 = .ok (.iconst 0, 1) := by decide +kernel
theorem dX3_marksOf_1 : decode cX3_marksOf 1 = .ok (.istore_n 2, 1) := by decide +kernel
theorem dX3_marksOf_2 : decode cX3_marksOf 2 = .ok (.iconst 0, 1) := by decide +kernel
theorem dX3_marksOf_3 : decode cX3_marksOf 3 = .ok (.istore_n 3, 1) := by decide +kernel
theorem dX3_marksOf_4 : decode cX3_marksOf 4 = .ok (.iload_n 3, 1) := by decide +kernel
theorem dX3_marksOf_5 : decode cX3_marksOf 5 = .ok (.aload_n 0, 1) := by decide +kernel
theorem dX3_marksOf_6 : decode cX3_marksOf 6 = .ok (.getfield 26, 3) := by decide +kernel
theorem dX3_marksOf_9 : decode cX3_marksOf 9 = .ok (.if_icmp .ge 31, 3) := by decide +kernel
theorem dX3_marksOf_12 : decode cX3_marksOf 12 = .ok (.iload_n 2, 1) := by decide +kernel
theorem dX3_marksOf_13 : decode cX3_marksOf 13 = .ok (.aload_n 0, 1) := by decide +kernel
theorem dX3_marksOf_14 : decode cX3_marksOf 14 = .ok (.getfield 20, 3) := by decide +kernel
theorem dX3_marksOf_17 : decode cX3_marksOf 17 = .ok (.iload_n 3, 1) := by decide +kernel
theorem dX3_marksOf_18 : decode cX3_marksOf 18 = .ok (.iload_n 1, 1) := by decide +kernel
theorem dX3_marksOf_19 : decode cX3_marksOf 19 = .ok (.invokestatic 38, 3) := by decide +kernel
theorem dX3_marksOf_22 : decode cX3_marksOf 22 = .ok (.iaload, 1) := by decide +kernel
theorem dX3_marksOf_23 : decode cX3_marksOf 23 = .ok (.iconst (-1), 1) := by decide +kernel
theorem dX3_marksOf_24 : decode cX3_marksOf 24 = .ok (.if_icmp .eq 7, 3) := by decide +kernel
theorem dX3_marksOf_27 : decode cX3_marksOf 27 = .ok (.iconst 1, 1) := by decide +kernel
theorem dX3_marksOf_28 : decode cX3_marksOf 28 = .ok (.goto 4, 3) := by decide +kernel
theorem dX3_marksOf_31 : decode cX3_marksOf 31 = .ok (.iconst 0, 1) := by decide +kernel
theorem dX3_marksOf_32 : decode cX3_marksOf 32 = .ok (.iadd, 1) := by decide +kernel
theorem dX3_marksOf_33 : decode cX3_marksOf 33 = .ok (.istore_n 2, 1) := by decide +kernel
theorem dX3_marksOf_34 : decode cX3_marksOf 34 = .ok (.iinc 3 1, 3) := by decide +kernel
theorem dX3_marksOf_37 : decode cX3_marksOf 37 = .ok (.goto (-33), 3) := by decide +kernel
theorem dX3_marksOf_40 : decode cX3_marksOf 40 = .ok (.iload_n 2, 1) := by decide +kernel
theorem dX3_marksOf_41 : decode cX3_marksOf 41 = .ok (.ireturn, 1) := by decide +kernel
theorem dX3_allMarks_0 : decode cX3_allMarks 0 = .ok (.iconst 0, 1) := by decide +kernel
theorem dX3_allMarks_1 : decode cX3_allMarks 1 = .ok (.istore_n 1, 1) := by decide +kernel
theorem dX3_allMarks_2 : decode cX3_allMarks 2 = .ok (.iconst 0, 1) := by decide +kernel
theorem dX3_allMarks_3 : decode cX3_allMarks 3 = .ok (.istore_n 2, 1) := by decide +kernel
theorem dX3_allMarks_4 : decode cX3_allMarks 4 = .ok (.iload_n 2, 1) := by decide +kernel
theorem dX3_allMarks_5 : decode cX3_allMarks 5 = .ok (.bipush 9, 2) := by decide +kernel
theorem dX3_allMarks_7 : decode cX3_allMarks 7 = .ok (.if_icmp .ge 17, 3) := by decide +kernel
theorem dX3_allMarks_10 : decode cX3_allMarks 10 = .ok (.iload_n 1, 1) := by decide +kernel
theorem dX3_allMarks_11 : decode cX3_allMarks 11 = .ok (.aload_n 0, 1) := by decide +kernel
theorem dX3_allMarks_12 : decode cX3_allMarks 12 = .ok (.iload_n 2, 1) := by decide +kernel
theorem dX3_allMarks_13 : decode cX3_allMarks 13 = .ok (.invokevirtual 42, 3) := by decide +kernel
theorem dX3_allMarks_16 : decode cX3_allMarks 16 = .ok (.iadd, 1) := by decide +kernel
theorem dX3_allMarks_17 : decode cX3_allMarks 17 = .ok (.istore_n 1, 1) := by decide +kernel
theorem dX3_allMarks_18 : decode cX3_allMarks 18 = .ok (.iinc 2 1, 3) := by decide +kernel
theorem dX3_allMarks_21 : decode cX3_allMarks 21 = .ok (.goto (-17), 3) := by decide +kernel
theorem dX3_allMarks_24 : decode cX3_allMarks 24 = .ok (.iload_n 1, 1) := by decide +kernel
theorem dX3_allMarks_25 : decode cX3_allMarks 25 = .ok (.ireturn, 1) := by decide +kernel
theorem dX3_average_0 : decode cX3_average 0 = .ok (.iconst 0, 1) := by decide +kernel
theorem dX3_average_1 : decode cX3_average 1 = .ok (.istore_n 3, 1) := by decide +kernel
theorem dX3_average_2 : decode cX3_average 2 = .ok (.iconst 0, 1) := by decide +kernel
theorem dX3_average_3 : decode cX3_average 3 = .ok (.istore 4, 2) := by decide +kernel
theorem dX3_average_5 : decode cX3_average 5 = .ok (.iconst 0, 1) := by decide +kernel
theorem dX3_average_6 : decode cX3_average 6 = .ok (.istore 5, 2) := by decide +kernel
theorem dX3_average_8 : decode cX3_average 8 = .ok (.iload 5, 2) := by decide +kernel
theorem dX3_average_10 : decode cX3_average 10 = .ok (.aload_n 0, 1) := by decide +kernel
theorem dX3_average_11 : decode cX3_average 11 = .ok (.getfield 26, 3) := by decide +kernel
theorem dX3_average_14 : decode cX3_average 14 = .ok (.if_icmp .ge 52, 3) := by decide +kernel
theorem dX3_average_17 : decode cX3_average 17 = .ok (.iload 5, 2) := by decide +kernel
theorem dX3_average_19 : decode cX3_average 19 = .ok (.iload_n 1, 1) := by decide +kernel
theorem dX3_average_20 : decode cX3_average 20 = .ok (.invokestatic 38, 3) := by decide +kernel
theorem dX3_average_23 : decode cX3_average 23 = .ok (.istore 6, 2) := by decide +kernel
theorem dX3_average_25 : decode cX3_average 25 = .ok (.aload_n 0, 1) := by decide +kernel
theorem dX3_average_26 : decode cX3_average 26 = .ok (.getfield 20, 3) := by decide +kernel
theorem dX3_average_29 : decode cX3_average 29 = .ok (.iload 6, 2) := by decide +kernel
theorem dX3_average_31 : decode cX3_average 31 = .ok (.iaload, 1) := by decide +kernel
theorem dX3_average_32 : decode cX3_average 32 = .ok (.iconst (-1), 1) := by decide +kernel
theorem dX3_average_33 : decode cX3_average 33 = .ok (.if_icmp .eq 27, 3) := by decide +kernel
theorem dX3_average_36 : decode cX3_average 36 = .ok (.aload_n 0, 1) := by decide +kernel
theorem dX3_average_37 : decode cX3_average 37 = .ok (.getfield 23, 3) := by decide +kernel
theorem dX3_average_40 : decode cX3_average 40 = .ok (.iload 6, 2) := by decide +kernel
theorem dX3_average_42 : decode cX3_average 42 = .ok (.iaload, 1) := by decide +kernel
theorem dX3_average_43 : decode cX3_average 43 = .ok (.iload_n 2, 1) := by decide +kernel
theorem dX3_average_44 : decode cX3_average 44 = .ok (.if_icmp .gt 16, 3) := by decide +kernel
theorem dX3_average_47 : decode cX3_average 47 = .ok (.iload_n 3, 1) := by decide +kernel
theorem dX3_average_48 : decode cX3_average 48 = .ok (.aload_n 0, 1) := by decide +kernel
theorem dX3_average_49 : decode cX3_average 49 = .ok (.getfield 20, 3) := by decide +kernel
theorem dX3_average_52 : decode cX3_average 52 = .ok (.iload 6, 2) := by decide +kernel
theorem dX3_average_54 : decode cX3_average 54 = .ok (.iaload, 1) := by decide +kernel
theorem dX3_average_55 : decode cX3_average 55 = .ok (.iadd, 1) := by decide +kernel
theorem dX3_average_56 : decode cX3_average 56 = .ok (.istore_n 3, 1) := by decide +kernel
theorem dX3_average_57 : decode cX3_average 57 = .ok (.iinc 4 1, 3) := by decide +kernel
theorem dX3_average_60 : decode cX3_average 60 = .ok (.iinc 5 1, 3) := by decide +kernel
theorem dX3_average_63 : decode cX3_average 63 = .ok (.goto (-55), 3) := by decide +kernel
theorem dX3_average_66 : decode cX3_average 66 = .ok (.iload 4, 2) := by decide +kernel
theorem dX3_average_68 : decode cX3_average 68 = .ok (.iconst 2, 1) := by decide +kernel
theorem dX3_average_69 : decode cX3_average 69 = .ok (.if_icmp .ge 7, 3) := by decide +kernel
theorem dX3_average_72 : decode cX3_average 72 = .ok (.iconst (-1), 1) := by decide +kernel
theorem dX3_average_73 : decode cX3_average 73 = .ok (.goto 7, 3) := by decide +kernel
theorem dX3_average_76 : decode cX3_average 76 = .ok (.iload_n 3, 1) := by decide +kernel
theorem dX3_average_77 : decode cX3_average 77 = .ok (.iload 4, 2) := by decide +kernel
theorem dX3_average_79 : decode cX3_average 79 = .ok (.idiv, 1) := by decide +kernel
theorem dX3_average_80 : decode cX3_average 80 = .ok (.ireturn, 1) := by decide +kernel
theorem dX4_init_0 : decode cX4_init 0 = .ok (.aload_n 0, 1) := by decide +kernel
theorem dX4_init_1 : decode cX4_init 1 = .ok (.invokespecial 1, 3) := by decide +kernel
theorem dX4_init_4 : decode cX4_init 4 = .ok (.return_, 1) := by decide +kernel
theorem dX4_isBehindLatest_0 : decode cX4_isBehindLatest 0 = .ok (.aload_n 0, 1) := by decide +kernel
theorem dX4_isBehindLatest_1 : decode cX4_isBehindLatest 1 = .ok (.getfield 7, 3) := by decide +kernel
theorem dX4_isBehindLatest_4 : decode cX4_isBehindLatest 4 = .ok (.ifCond .eq 11, 3) := by decide +kernel
theorem dX4_isBehindLatest_7 : decode cX4_isBehindLatest 7 = .ok (.iload_n 1, 1) := by decide +kernel
theorem dX4_isBehindLatest_8 : decode cX4_isBehindLatest 8 = .ok (.aload_n 0, 1) := by decide +kernel
theorem dX4_isBehindLatest_9 : decode cX4_isBehindLatest 9 = .ok (.getfield 13, 3) := by decide +kernel
theorem dX4_isBehindLatest_12 : decode cX4_isBehindLatest 12 = .ok (.if_icmp .le 7, 3) := by decide +kernel
theorem dX4_isBehindLatest_15 : decode cX4_isBehindLatest 15 = .ok (.iconst 1, 1) := by decide +kernel
theorem dX4_isBehindLatest_16 : decode cX4_isBehindLatest 16 = .ok (.goto 4, 3) := by decide +kernel
theorem dX4_isBehindLatest_19 : decode cX4_isBehindLatest 19 = .ok (.iconst 0, 1) := by decide +kernel
theorem dX4_isBehindLatest_20 : decode cX4_isBehindLatest 20 = .ok (.ireturn, 1) := by decide +kernel
theorem dX4_add_0 : decode cX4_add 0 = .ok (.aload_n 0, 1) := by decide +kernel
theorem dX4_add_1 : decode cX4_add 1 = .ok (.iload_n 1, 1) := by decide +kernel
theorem dX4_add_2 : decode cX4_add 2 = .ok (.putfield 16, 3) := by decide +kernel
theorem dX4_add_5 : decode cX4_add 5 = .ok (.aload_n 0, 1) := by decide +kernel
theorem dX4_add_6 : decode cX4_add 6 = .ok (.iload_n 2, 1) := by decide +kernel
theorem dX4_add_7 : decode cX4_add 7 = .ok (.putfield 13, 3) := by decide +kernel
theorem dX4_add_10 : decode cX4_add 10 = .ok (.aload_n 0, 1) := by decide +kernel
theorem dX4_add_11 : decode cX4_add 11 = .ok (.dup, 1) := by decide +kernel
theorem dX4_add_12 : decode cX4_add 12 = .ok (.getfield 7, 3) := by decide +kernel
theorem dX4_add_15 : decode cX4_add 15 = .ok (.iconst 1, 1) := by decide +kernel
theorem dX4_add_16 : decode cX4_add 16 = .ok (.iadd, 1) := by decide +kernel
theorem dX4_add_17 : decode cX4_add 17 = .ok (.putfield 7, 3) := by decide +kernel
theorem dX4_add_20 : decode cX4_add 20 = .ok (.aload_n 0, 1) := by decide +kernel
theorem dX4_add_21 : decode cX4_add 21 = .ok (.getfield 7, 3) := by decide +kernel
theorem dX4_add_24 : decode cX4_add 24 = .ok (.ireturn, 1) := by decide +kernel
theorem dX4_forget_0 : decode cX4_forget 0 = .ok (.aload_n 0, 1) := by decide +kernel
theorem dX4_forget_1 : decode cX4_forget 1 = .ok (.getfield 7, 3) := by decide +kernel
theorem dX4_forget_4 : decode cX4_forget 4 = .ok (.istore_n 1, 1) := by decide +kernel
theorem dX4_forget_5 : decode cX4_forget 5 = .ok (.aload_n 0, 1) := by decide +kernel
theorem dX4_forget_6 : decode cX4_forget 6 = .ok (.iconst 0, 1) := by decide +kernel
theorem dX4_forget_7 : decode cX4_forget 7 = .ok (.putfield 7, 3) := by decide +kernel
theorem dX4_forget_10 : decode cX4_forget 10 = .ok (.iload_n 1, 1) := by decide +kernel
theorem dX4_forget_11 : decode cX4_forget 11 = .ok (.ireturn, 1) := by decide +kernel
theorem dX5_init_0 : decode cX5_init 0 = .ok (.aload_n 0, 1) := by decide +kernel
theorem dX5_init_1 : decode cX5_init 1 = .ok (.invokespecial 3, 3) := by decide +kernel
theorem dX5_init_4 : decode cX5_init 4 = .ok (.aload_n 0, 1) := by decide +kernel
theorem dX5_init_5 : decode cX5_init 5 = .ok (.aload_n 1, 1) := by decide +kernel
theorem dX5_init_6 : decode cX5_init 6 = .ok (.putfield 9, 3) := by decide +kernel
theorem dX5_init_9 : decode cX5_init 9 = .ok (.aload_n 0, 1) := by decide +kernel
theorem dX5_init_10 : decode cX5_init 10 = .ok (.bipush 9, 2) := by decide +kernel
theorem dX5_init_12 : decode cX5_init 12 = .ok (.anewarray 15, 3) := by decide +kernel
theorem dX5_init_15 : decode cX5_init 15 = .ok (.putfield 17, 3) := by decide +kernel
theorem dX5_init_18 : decode cX5_init 18 = .ok (.aload_n 0, 1) := by decide +kernel
theorem dX5_init_19 : decode cX5_init 19 = .ok (.iconst 1, 1) := by decide +kernel
theorem dX5_init_20 : decode cX5_init 20 = .ok (.putfield 21, 3) := by decide +kernel
theorem dX5_init_23 : decode cX5_init 23 = .ok (.return_, 1) := by decide +kernel
theorem dX5_find_0 : decode cX5_find 0 = .ok (.iload_n 1, 1) := by decide +kernel
theorem dX5_find_1 : decode cX5_find 1 = .ok (.ifCond .lt 20, 3) := by decide +kernel
theorem dX5_find_4 : decode cX5_find 4 = .ok (.iload_n 1, 1) := by decide +kernel
theorem dX5_find_5 : decode cX5_find 5 = .ok (.aload_n 0, 1) := by decide +kernel
theorem dX5_find_6 : decode cX5_find 6 = .ok (.getfield 25, 3) := by decide +kernel
theorem dX5_find_9 : decode cX5_find 9 = .ok (.if_icmp .ge 12, 3) := by decide +kernel
theorem dX5_find_12 : decode cX5_find 12 = .ok (.aload_n 0, 1) := by decide +kernel
theorem dX5_find_13 : decode cX5_find 13 = .ok (.getfield 17, 3) := by decide +kernel
theorem dX5_find_16 : decode cX5_find 16 = .ok (.iload_n 1, 1) := by decide +kernel
theorem dX5_find_17 : decode cX5_find 17 = .ok (.aaload, 1) := by decide +kernel
theorem dX5_find_18 : decode cX5_find 18 = .ok (.goto 4, 3) := by decide +kernel
theorem dX5_find_21 : decode cX5_find 21 = .ok (.aconst_null, 1) := by decide +kernel
theorem dX5_find_22 : decode cX5_find 22 = .ok (.areturn, 1) := by decide +kernel
theorem dX5_add_0 : decode cX5_add 0 = .ok (.aload_n 0, 1) := by decide +kernel
theorem dX5_add_1 : decode cX5_add 1 = .ok (.getfield 17, 3) := by decide +kernel
theorem dX5_add_4 : decode cX5_add 4 = .ok (.aload_n 0, 1) := by decide +kernel
theorem dX5_add_5 : decode cX5_add 5 = .ok (.getfield 25, 3) := by decide +kernel
theorem dX5_add_8 : decode cX5_add 8 = .ok (.aload_n 1, 1) := by decide +kernel
theorem dX5_add_9 : decode cX5_add 9 = .ok (.aastore, 1) := by decide +kernel
theorem dX5_add_10 : decode cX5_add 10 = .ok (.aload_n 0, 1) := by decide +kernel
theorem dX5_add_11 : decode cX5_add 11 = .ok (.dup, 1) := by decide +kernel
theorem dX5_add_12 : decode cX5_add 12 = .ok (.getfield 25, 3) := by decide +kernel
theorem dX5_add_15 : decode cX5_add 15 = .ok (.iconst 1, 1) := by decide +kernel
theorem dX5_add_16 : decode cX5_add 16 = .ok (.iadd, 1) := by decide +kernel
theorem dX5_add_17 : decode cX5_add 17 = .ok (.putfield 25, 3) := by decide +kernel
theorem dX5_add_20 : decode cX5_add 20 = .ok (.aload_n 0, 1) := by decide +kernel
theorem dX5_add_21 : decode cX5_add 21 = .ok (.getfield 25, 3) := by decide +kernel
theorem dX5_add_24 : decode cX5_add 24 = .ok (.iconst 1, 1) := by decide +kernel
theorem dX5_add_25 : decode cX5_add 25 = .ok (.isub, 1) := by decide +kernel
theorem dX5_add_26 : decode cX5_add 26 = .ok (.ireturn, 1) := by decide +kernel
theorem dX5_put_0 : decode cX5_put 0 = .ok (.aload_n 1, 1) := by decide +kernel
theorem dX5_put_1 : decode cX5_put 1 = .ok (.iload_n 2, 1) := by decide +kernel
theorem dX5_put_2 : decode cX5_put 2 = .ok (.putfield 28, 3) := by decide +kernel
theorem dX5_put_5 : decode cX5_put 5 = .ok (.aload_n 1, 1) := by decide +kernel
theorem dX5_put_6 : decode cX5_put 6 = .ok (.aload_n 0, 1) := by decide +kernel
theorem dX5_put_7 : decode cX5_put 7 = .ok (.getfield 9, 3) := by decide +kernel
theorem dX5_put_10 : decode cX5_put 10 = .ok (.iload_n 2, 1) := by decide +kernel
theorem dX5_put_11 : decode cX5_put 11 = .ok (.aload_n 1, 1) := by decide +kernel
theorem dX5_put_12 : decode cX5_put 12 = .ok (.getfield 31, 3) := by decide +kernel
theorem dX5_put_15 : decode cX5_put 15 = .ok (.aload_n 1, 1) := by decide +kernel
theorem dX5_put_16 : decode cX5_put 16 = .ok (.getfield 34, 3) := by decide +kernel
theorem dX5_put_19 : decode cX5_put 19 = .ok (.invokevirtual 37, 3) := by decide +kernel
theorem dX5_put_22 : decode cX5_put 22 = .ok (.putfield 43, 3) := by decide +kernel
theorem dX5_put_25 : decode cX5_put 25 = .ok (.return_, 1) := by decide +kernel
theorem dX5_laidOnes_0 : decode cX5_laidOnes 0 = .ok (.iconst 0, 1) := by decide +kernel
theorem dX5_laidOnes_1 : decode cX5_laidOnes 1 = .ok (.istore_n 1, 1) := by decide +kernel
theorem dX5_laidOnes_2 : decode cX5_laidOnes 2 = .ok (.iconst 0, 1) := by decide +kernel
theorem dX5_laidOnes_3 : decode cX5_laidOnes 3 = .ok (.istore_n 2, 1) := by decide +kernel
theorem dX5_laidOnes_4 : decode cX5_laidOnes 4 = .ok (.iload_n 2, 1) := by decide +kernel
theorem dX5_laidOnes_5 : decode cX5_laidOnes 5 = .ok (.aload_n 0, 1) := by decide +kernel
theorem dX5_laidOnes_6 : decode cX5_laidOnes 6 = .ok (.getfield 25, 3) := by decide +kernel
theorem dX5_laidOnes_9 : decode cX5_laidOnes 9 = .ok (.if_icmp .ge 29, 3) := by decide +kernel
theorem dX5_laidOnes_12 : decode cX5_laidOnes 12 = .ok (.iload_n 1, 1) := by decide +kernel
theorem dX5_laidOnes_13 : decode cX5_laidOnes 13 = .ok (.aload_n 0, 1) := by decide +kernel
theorem dX5_laidOnes_14 : decode cX5_laidOnes 14 = .ok (.getfield 17, 3) := by decide +kernel
theorem dX5_laidOnes_17 : decode cX5_laidOnes 17 = .ok (.iload_n 2, 1) := by decide +kernel
theorem dX5_laidOnes_18 : decode cX5_laidOnes 18 = .ok (.aaload, 1) := by decide +kernel
theorem dX5_laidOnes_19 : decode cX5_laidOnes 19 = .ok (.invokevirtual 47, 3) := by decide +kernel
theorem dX5_laidOnes_22 : decode cX5_laidOnes 22 = .ok (.ifCond .eq 7, 3) := by decide +kernel
theorem dX5_laidOnes_25 : decode cX5_laidOnes 25 = .ok (.iconst 1, 1) := by decide +kernel
theorem dX5_laidOnes_26 : decode cX5_laidOnes 26 = .ok (.goto 4, 3) := by decide +kernel
theorem dX5_laidOnes_29 : decode cX5_laidOnes 29 = .ok (.iconst 0, 1) := by decide +kernel
theorem dX5_laidOnes_30 : decode cX5_laidOnes 30 = .ok (.iadd, 1) := by decide +kernel
theorem dX5_laidOnes_31 : decode cX5_laidOnes 31 = .ok (.istore_n 1, 1) := by decide +kernel
theorem dX5_laidOnes_32 : decode cX5_laidOnes 32 = .ok (.iinc 2 1, 3) := by decide +kernel
theorem dX5_laidOnes_35 : decode cX5_laidOnes 35 = .ok (.goto (-31), 3) := by decide +kernel
theorem dX5_laidOnes_38 : decode cX5_laidOnes 38 = .ok (.iload_n 1, 1) := by decide +kernel
theorem dX5_laidOnes_39 : decode cX5_laidOnes 39 = .ok (.ireturn, 1) := by decide +kernel
theorem dX5_withGoods_0 : decode cX5_withGoods 0 = .ok (.iconst 0, 1) := by decide +kernel
theorem dX5_withGoods_1 : decode cX5_withGoods 1 = .ok (.istore_n 1, 1) := by decide +kernel
theorem dX5_withGoods_2 : decode cX5_withGoods 2 = .ok (.iconst 0, 1) := by decide +kernel
theorem dX5_withGoods_3 : decode cX5_withGoods 3 = .ok (.istore_n 2, 1) := by decide +kernel
theorem dX5_withGoods_4 : decode cX5_withGoods 4 = .ok (.iload_n 2, 1) := by decide +kernel
theorem dX5_withGoods_5 : decode cX5_withGoods 5 = .ok (.aload_n 0, 1) := by decide +kernel
theorem dX5_withGoods_6 : decode cX5_withGoods 6 = .ok (.getfield 25, 3) := by decide +kernel
theorem dX5_withGoods_9 : decode cX5_withGoods 9 = .ok (.if_icmp .ge 29, 3) := by decide +kernel
theorem dX5_withGoods_12 : decode cX5_withGoods 12 = .ok (.iload_n 1, 1) := by decide +kernel
theorem dX5_withGoods_13 : decode cX5_withGoods 13 = .ok (.aload_n 0, 1) := by decide +kernel
theorem dX5_withGoods_14 : decode cX5_withGoods 14 = .ok (.getfield 17, 3) := by decide +kernel
theorem dX5_withGoods_17 : decode cX5_withGoods 17 = .ok (.iload_n 2, 1) := by decide +kernel
theorem dX5_withGoods_18 : decode cX5_withGoods 18 = .ok (.aaload, 1) := by decide +kernel
theorem dX5_withGoods_19 : decode cX5_withGoods 19 = .ok (.getfield 51, 3) := by decide +kernel
theorem dX5_withGoods_22 : decode cX5_withGoods 22 = .ok (.ifCond .eq 7, 3) := by decide +kernel
theorem dX5_withGoods_25 : decode cX5_withGoods 25 = .ok (.iconst 1, 1) := by decide +kernel
theorem dX5_withGoods_26 : decode cX5_withGoods 26 = .ok (.goto 4, 3) := by decide +kernel
theorem dX5_withGoods_29 : decode cX5_withGoods 29 = .ok (.iconst 0, 1) := by decide +kernel
theorem dX5_withGoods_30 : decode cX5_withGoods 30 = .ok (.iadd, 1) := by decide +kernel
theorem dX5_withGoods_31 : decode cX5_withGoods 31 = .ok (.istore_n 1, 1) := by decide +kernel
theorem dX5_withGoods_32 : decode cX5_withGoods 32 = .ok (.iinc 2 1, 3) := by decide +kernel
theorem dX5_withGoods_35 : decode cX5_withGoods 35 = .ok (.goto (-31), 3) := by decide +kernel
theorem dX5_withGoods_38 : decode cX5_withGoods 38 = .ok (.iload_n 1, 1) := by decide +kernel
theorem dX5_withGoods_39 : decode cX5_withGoods 39 = .ok (.ireturn, 1) := by decide +kernel
theorem dX5_handedOver_0 : decode cX5_handedOver 0 = .ok (.iconst 0, 1) := by decide +kernel
theorem dX5_handedOver_1 : decode cX5_handedOver 1 = .ok (.istore_n 1, 1) := by decide +kernel
theorem dX5_handedOver_2 : decode cX5_handedOver 2 = .ok (.iconst 0, 1) := by decide +kernel
theorem dX5_handedOver_3 : decode cX5_handedOver 3 = .ok (.istore_n 2, 1) := by decide +kernel
theorem dX5_handedOver_4 : decode cX5_handedOver 4 = .ok (.iload_n 2, 1) := by decide +kernel
theorem dX5_handedOver_5 : decode cX5_handedOver 5 = .ok (.aload_n 0, 1) := by decide +kernel
theorem dX5_handedOver_6 : decode cX5_handedOver 6 = .ok (.getfield 25, 3) := by decide +kernel
theorem dX5_handedOver_9 : decode cX5_handedOver 9 = .ok (.if_icmp .ge 29, 3) := by decide +kernel
theorem dX5_handedOver_12 : decode cX5_handedOver 12 = .ok (.iload_n 1, 1) := by decide +kernel
theorem dX5_handedOver_13 : decode cX5_handedOver 13 = .ok (.aload_n 0, 1) := by decide +kernel
theorem dX5_handedOver_14 : decode cX5_handedOver 14 = .ok (.getfield 17, 3) := by decide +kernel
theorem dX5_handedOver_17 : decode cX5_handedOver 17 = .ok (.iload_n 2, 1) := by decide +kernel
theorem dX5_handedOver_18 : decode cX5_handedOver 18 = .ok (.aaload, 1) := by decide +kernel
theorem dX5_handedOver_19 : decode cX5_handedOver 19 = .ok (.getfield 55, 3) := by decide +kernel
theorem dX5_handedOver_22 : decode cX5_handedOver 22 = .ok (.ifCond .eq 7, 3) := by decide +kernel
theorem dX5_handedOver_25 : decode cX5_handedOver 25 = .ok (.iconst 1, 1) := by decide +kernel
theorem dX5_handedOver_26 : decode cX5_handedOver 26 = .ok (.goto 4, 3) := by decide +kernel
theorem dX5_handedOver_29 : decode cX5_handedOver 29 = .ok (.iconst 0, 1) := by decide +kernel
theorem dX5_handedOver_30 : decode cX5_handedOver 30 = .ok (.iadd, 1) := by decide +kernel
theorem dX5_handedOver_31 : decode cX5_handedOver 31 = .ok (.istore_n 1, 1) := by decide +kernel
theorem dX5_handedOver_32 : decode cX5_handedOver 32 = .ok (.iinc 2 1, 3) := by decide +kernel
theorem dX5_handedOver_35 : decode cX5_handedOver 35 = .ok (.goto (-31), 3) := by decide +kernel
theorem dX5_handedOver_38 : decode cX5_handedOver 38 = .ok (.iload_n 1, 1) := by decide +kernel
theorem dX5_handedOver_39 : decode cX5_handedOver 39 = .ok (.ireturn, 1) := by decide +kernel
theorem dX5_emptyAll_0 : decode cX5_emptyAll 0 = .ok (.aload_n 0, 1) := by decide +kernel
theorem dX5_emptyAll_1 : decode cX5_emptyAll 1 = .ok (.invokevirtual 58, 3) := by decide +kernel
theorem dX5_emptyAll_4 : decode cX5_emptyAll 4 = .ok (.istore_n 1, 1) := by decide +kernel
theorem dX5_emptyAll_5 : decode cX5_emptyAll 5 = .ok (.iconst 0, 1) := by decide +kernel
theorem dX5_emptyAll_6 : decode cX5_emptyAll 6 = .ok (.istore_n 2, 1) := by decide +kernel
theorem dX5_emptyAll_7 : decode cX5_emptyAll 7 = .ok (.iload_n 2, 1) := by decide +kernel
theorem dX5_emptyAll_8 : decode cX5_emptyAll 8 = .ok (.aload_n 0, 1) := by decide +kernel
theorem dX5_emptyAll_9 : decode cX5_emptyAll 9 = .ok (.getfield 25, 3) := by decide +kernel
theorem dX5_emptyAll_12 : decode cX5_emptyAll 12 = .ok (.if_icmp .ge 19, 3) := by decide +kernel
theorem dX5_emptyAll_15 : decode cX5_emptyAll 15 = .ok (.aload_n 0, 1) := by decide +kernel
theorem dX5_emptyAll_16 : decode cX5_emptyAll 16 = .ok (.getfield 17, 3) := by decide +kernel
theorem dX5_emptyAll_19 : decode cX5_emptyAll 19 = .ok (.iload_n 2, 1) := by decide +kernel
theorem dX5_emptyAll_20 : decode cX5_emptyAll 20 = .ok (.aaload, 1) := by decide +kernel
theorem dX5_emptyAll_21 : decode cX5_emptyAll 21 = .ok (.iconst 0, 1) := by decide +kernel
theorem dX5_emptyAll_22 : decode cX5_emptyAll 22 = .ok (.putfield 51, 3) := by decide +kernel
theorem dX5_emptyAll_25 : decode cX5_emptyAll 25 = .ok (.iinc 2 1, 3) := by decide +kernel
theorem dX5_emptyAll_28 : decode cX5_emptyAll 28 = .ok (.goto (-21), 3) := by decide +kernel
theorem dX5_emptyAll_31 : decode cX5_emptyAll 31 = .ok (.iload_n 1, 1) := by decide +kernel
theorem dX5_emptyAll_32 : decode cX5_emptyAll 32 = .ok (.ireturn, 1) := by decide +kernel
theorem dX5_standOn_0 : decode cX5_standOn 0 = .ok (.iconst 0, 1) := by decide +kernel
theorem dX5_standOn_1 : decode cX5_standOn 1 = .ok (.istore_n 2, 1) := by decide +kernel
theorem dX5_standOn_2 : decode cX5_standOn 2 = .ok (.iload_n 2, 1) := by decide +kernel
theorem dX5_standOn_3 : decode cX5_standOn 3 = .ok (.aload_n 0, 1) := by decide +kernel
theorem dX5_standOn_4 : decode cX5_standOn 4 = .ok (.getfield 25, 3) := by decide +kernel
theorem dX5_standOn_7 : decode cX5_standOn 7 = .ok (.if_icmp .ge 30, 3) := by decide +kernel
theorem dX5_standOn_10 : decode cX5_standOn 10 = .ok (.aload_n 0, 1) := by decide +kernel
theorem dX5_standOn_11 : decode cX5_standOn 11 = .ok (.getfield 17, 3) := by decide +kernel
theorem dX5_standOn_14 : decode cX5_standOn 14 = .ok (.iload_n 2, 1) := by decide +kernel
theorem dX5_standOn_15 : decode cX5_standOn 15 = .ok (.aaload, 1) := by decide +kernel
theorem dX5_standOn_16 : decode cX5_standOn 16 = .ok (.getfield 43, 3) := by decide +kernel
theorem dX5_standOn_19 : decode cX5_standOn 19 = .ok (.iload_n 1, 1) := by decide +kernel
theorem dX5_standOn_20 : decode cX5_standOn 20 = .ok (.invokestatic 62, 3) := by decide +kernel
theorem dX5_standOn_23 : decode cX5_standOn 23 = .ok (.land, 1) := by decide +kernel
theorem dX5_standOn_24 : decode cX5_standOn 24 = .ok (.lconst 0, 1) := by decide +kernel
theorem dX5_standOn_25 : decode cX5_standOn 25 = .ok (.lcmp, 1) := by decide +kernel
theorem dX5_standOn_26 : decode cX5_standOn 26 = .ok (.ifCond .eq 5, 3) := by decide +kernel
theorem dX5_standOn_29 : decode cX5_standOn 29 = .ok (.iload_n 2, 1) := by decide +kernel
theorem dX5_standOn_30 : decode cX5_standOn 30 = .ok (.ireturn, 1) := by decide +kernel
theorem dX5_standOn_31 : decode cX5_standOn 31 = .ok (.iinc 2 1, 3) := by decide +kernel
theorem dX5_standOn_34 : decode cX5_standOn 34 = .ok (.goto (-32), 3) := by decide +kernel
theorem dX5_standOn_37 : decode cX5_standOn 37 = .ok (.iconst (-1), 1) := by decide +kernel
theorem dX5_standOn_38 : decode cX5_standOn 38 = .ok (.ireturn, 1) := by decide +kernel
theorem dX5_covered_0 : decode cX5_covered 0 = .ok (.lconst 0, 1) := by decide +kernel
theorem dX5_covered_1 : decode cX5_covered 1 = .ok (.lstore_n 2, 1) := by decide +kernel
theorem dX5_covered_2 : decode cX5_covered 2 = .ok (.iconst 0, 1) := by decide +kernel
theorem dX5_covered_3 : decode cX5_covered 3 = .ok (.istore 4, 2) := by decide +kernel
theorem dX5_covered_5 : decode cX5_covered 5 = .ok (.iload 4, 2) := by decide +kernel
theorem dX5_covered_7 : decode cX5_covered 7 = .ok (.aload_n 0, 1) := by decide +kernel
theorem dX5_covered_8 : decode cX5_covered 8 = .ok (.getfield 25, 3) := by decide +kernel
theorem dX5_covered_11 : decode cX5_covered 11 = .ok (.if_icmp .ge 37, 3) := by decide +kernel
theorem dX5_covered_14 : decode cX5_covered 14 = .ok (.lload_n 2, 1) := by decide +kernel
theorem dX5_covered_15 : decode cX5_covered 15 = .ok (.aload_n 0, 1) := by decide +kernel
theorem dX5_covered_16 : decode cX5_covered 16 = .ok (.getfield 17, 3) := by decide +kernel
theorem dX5_covered_19 : decode cX5_covered 19 = .ok (.iload 4, 2) := by decide +kernel
theorem dX5_covered_21 : decode cX5_covered 21 = .ok (.aaload, 1) := by decide +kernel
theorem dX5_covered_22 : decode cX5_covered 22 = .ok (.aload_n 1, 1) := by decide +kernel
theorem dX5_covered_23 : decode cX5_covered 23 = .ok (.if_acmp .eq 16, 3) := by decide +kernel
theorem dX5_covered_26 : decode cX5_covered 26 = .ok (.aload_n 0, 1) := by decide +kernel
theorem dX5_covered_27 : decode cX5_covered 27 = .ok (.getfield 17, 3) := by decide +kernel
theorem dX5_covered_30 : decode cX5_covered 30 = .ok (.iload 4, 2) := by decide +kernel
theorem dX5_covered_32 : decode cX5_covered 32 = .ok (.aaload, 1) := by decide +kernel
theorem dX5_covered_33 : decode cX5_covered 33 = .ok (.getfield 43, 3) := by decide +kernel
theorem dX5_covered_36 : decode cX5_covered 36 = .ok (.goto 4, 3) := by decide +kernel
theorem dX5_covered_39 : decode cX5_covered 39 = .ok (.lconst 0, 1) := by decide +kernel
theorem dX5_covered_40 : decode cX5_covered 40 = .ok (.lor, 1) := by decide +kernel
theorem dX5_covered_41 : decode cX5_covered 41 = .ok (.lstore_n 2, 1) := by decide +kernel
theorem dX5_covered_42 : decode cX5_covered 42 = .ok (.iinc 4 1, 3) := by decide +kernel
theorem dX5_covered_45 : decode cX5_covered 45 = .ok (.goto (-40), 3) := by decide +kernel
theorem dX5_covered_48 : decode cX5_covered 48 = .ok (.lload_n 2, 1) := by decide +kernel
theorem dX5_covered_49 : decode cX5_covered 49 = .ok (.lreturn, 1) := by decide +kernel
theorem dX5_hindrance_0 : decode cX5_hindrance 0 = .ok (.aload_n 0, 1) := by decide +kernel
theorem dX5_hindrance_1 : decode cX5_hindrance 1 = .ok (.getfield 9, 3) := by decide +kernel
theorem dX5_hindrance_4 : decode cX5_hindrance 4 = .ok (.iload_n 2, 1) := by decide +kernel
theorem dX5_hindrance_5 : decode cX5_hindrance 5 = .ok (.aload_n 1, 1) := by decide +kernel
theorem dX5_hindrance_6 : decode cX5_hindrance 6 = .ok (.getfield 31, 3) := by decide +kernel
theorem dX5_hindrance_9 : decode cX5_hindrance 9 = .ok (.aload_n 1, 1) := by decide +kernel
theorem dX5_hindrance_10 : decode cX5_hindrance 10 = .ok (.getfield 34, 3) := by decide +kernel
theorem dX5_hindrance_13 : decode cX5_hindrance 13 = .ok (.invokevirtual 37, 3) := by decide +kernel
theorem dX5_hindrance_16 : decode cX5_hindrance 16 = .ok (.lstore_n 3, 1) := by decide +kernel
theorem dX5_hindrance_17 : decode cX5_hindrance 17 = .ok (.lload_n 3, 1) := by decide +kernel
theorem dX5_hindrance_18 : decode cX5_hindrance 18 = .ok (.lconst 0, 1) := by decide +kernel
theorem dX5_hindrance_19 : decode cX5_hindrance 19 = .ok (.lcmp, 1) := by decide +kernel
theorem dX5_hindrance_20 : decode cX5_hindrance 20 = .ok (.ifCond .ne 5, 3) := by decide +kernel
theorem dX5_hindrance_23 : decode cX5_hindrance 23 = .ok (.iconst 1, 1) := by decide +kernel
theorem dX5_hindrance_24 : decode cX5_hindrance 24 = .ok (.ireturn, 1) := by decide +kernel
theorem dX5_hindrance_25 : decode cX5_hindrance 25 = .ok (.lload_n 3, 1) := by decide +kernel
theorem dX5_hindrance_26 : decode cX5_hindrance 26 = .ok (.aload_n 0, 1) := by decide +kernel
theorem dX5_hindrance_27 : decode cX5_hindrance 27 = .ok (.getfield 9, 3) := by decide +kernel
theorem dX5_hindrance_30 : decode cX5_hindrance 30 = .ok (.getfield 66, 3) := by decide +kernel
theorem dX5_hindrance_33 : decode cX5_hindrance 33 = .ok (.iconst 0, 1) := by decide +kernel
theorem dX5_hindrance_34 : decode cX5_hindrance 34 = .ok (.laload, 1) := by decide +kernel
theorem dX5_hindrance_35 : decode cX5_hindrance 35 = .ok (.ldc2_w 70, 3) := by decide +kernel
theorem dX5_hindrance_38 : decode cX5_hindrance 38 = .ok (.lxor, 1) := by decide +kernel
theorem dX5_hindrance_39 : decode cX5_hindrance 39 = .ok (.land, 1) := by decide +kernel
theorem dX5_hindrance_40 : decode cX5_hindrance 40 = .ok (.lconst 0, 1) := by decide +kernel
theorem dX5_hindrance_41 : decode cX5_hindrance 41 = .ok (.lcmp, 1) := by decide +kernel
theorem dX5_hindrance_42 : decode cX5_hindrance 42 = .ok (.ifCond .eq 5, 3) := by decide +kernel
theorem dX5_hindrance_45 : decode cX5_hindrance 45 = .ok (.iconst 2, 1) := by decide +kernel
theorem dX5_hindrance_46 : decode cX5_hindrance 46 = .ok (.ireturn, 1) := by decide +kernel
theorem dX5_hindrance_47 : decode cX5_hindrance 47 = .ok (.lload_n 3, 1) := by decide +kernel
theorem dX5_hindrance_48 : decode cX5_hindrance 48 = .ok (.aload_n 0, 1) := by decide +kernel
theorem dX5_hindrance_49 : decode cX5_hindrance 49 = .ok (.aload_n 1, 1) := by decide +kernel
theorem dX5_hindrance_50 : decode cX5_hindrance 50 = .ok (.invokevirtual 72, 3) := by decide +kernel
theorem dX5_hindrance_53 : decode cX5_hindrance 53 = .ok (.land, 1) := by decide +kernel
theorem dX5_hindrance_54 : decode cX5_hindrance 54 = .ok (.lconst 0, 1) := by decide +kernel
theorem dX5_hindrance_55 : decode cX5_hindrance 55 = .ok (.lcmp, 1) := by decide +kernel
theorem dX5_hindrance_56 : decode cX5_hindrance 56 = .ok (.ifCond .eq 5, 3) := by decide +kernel
theorem dX5_hindrance_59 : decode cX5_hindrance 59 = .ok (.iconst 3, 1) := by decide +kernel
theorem dX5_hindrance_60 : decode cX5_hindrance 60 = .ok (.ireturn, 1) := by decide +kernel
theorem dX5_hindrance_61 : decode cX5_hindrance 61 = .ok (.aload_n 0, 1) := by decide +kernel
theorem dX5_hindrance_62 : decode cX5_hindrance 62 = .ok (.aload_n 1, 1) := by decide +kernel
theorem dX5_hindrance_63 : decode cX5_hindrance 63 = .ok (.iload_n 2, 1) := by decide +kernel
