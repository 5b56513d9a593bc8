theorem dX7_readDays_96 : decode cX7_readDays 96 = .ok (.iload_n 2, 1) := by decide +kernel
theorem dX7_readDays_97 : decode cX7_readDays 97 = .ok (.invokevirtual 40, 3) := by decide +kernel
theorem dX7_readDays_100 : decode cX7_readDays 100 = .ok (.iload_n 2, 1) := by decide +kernel
theorem dX7_readDays_101 : decode cX7_readDays 101 = .ok (.iconst (-1), 1) := by decide +kernel
theorem dX7_readDays_102 : decode cX7_readDays 102 = .ok (.if_icmp .eq 14, 3) := by decide +kernel
theorem dX7_readDays_105 : decode cX7_readDays 105 = .ok (.aload_n 0, 1) := by decide +kernel
theorem dX7_readDays_106 : decode cX7_readDays 106 = .ok (.invokevirtual 46, 3) := by decide +kernel
theorem dX7_readDays_109 : decode cX7_readDays 109 = .ok (.ifCond .eq 7, 3) := by decide +kernel
theorem dX7_readDays_112 : decode cX7_readDays 112 = .ok (.iconst 1, 1) := by decide +kernel
theorem dX7_readDays_113 : decode cX7_readDays 113 = .ok (.goto 4, 3) := by decide +kernel
theorem dX7_readDays_116 : decode cX7_readDays 116 = .ok (.iconst 0, 1) := by decide +kernel
theorem dX7_readDays_117 : decode cX7_readDays 117 = .ok (.ireturn, 1) := by decide +kernel
theorem dX7_nameOf_0 : decode cX7_nameOf 0 = .ok (.iload_n 0, 1) := by decide +kernel
theorem dX7_nameOf_1 : decode cX7_nameOf 1 = .ok (.lookupswitch 33 #[(2, 30), (3, 27)], 27) := by decide +kernel
theorem dX7_nameOf_28 : decode cX7_nameOf 28 = .ok (.ldc 59, 2) := by decide +kernel
theorem dX7_nameOf_30 : decode cX7_nameOf 30 = .ok (.areturn, 1) := by decide +kernel
theorem dX7_nameOf_31 : decode cX7_nameOf 31 = .ok (.ldc 61, 2) := by decide +kernel
theorem dX7_nameOf_33 : decode cX7_nameOf 33 = .ok (.areturn, 1) := by decide +kernel
theorem dX7_nameOf_34 : decode cX7_nameOf 34 = .ok (.ldc 63, 2) := by decide +kernel
theorem dX7_nameOf_36 : decode cX7_nameOf 36 = .ok (.areturn, 1) := by decide +kernel
theorem dX7_medalBegunHere_0 : decode cX7_medalBegunHere 0 = .ok (.iload_n 1, 1) := by decide +kernel
theorem dX7_medalBegunHere_1 : decode cX7_medalBegunHere 1 = .ok (.istore_n 2, 1) := by decide +kernel
theorem dX7_medalBegunHere_2 : decode cX7_medalBegunHere 2 = .ok (.iload_n 2, 1) := by decide +kernel
theorem dX7_medalBegunHere_3 : decode cX7_medalBegunHere 3 = .ok (.ifCond .le 38, 3) := by decide +kernel
theorem dX7_medalBegunHere_6 : decode cX7_medalBegunHere 6 = .ok (.aload_n 0, 1) := by decide +kernel
theorem dX7_medalBegunHere_7 : decode cX7_medalBegunHere 7 = .ok (.invokevirtual 46, 3) := by decide +kernel
theorem dX7_medalBegunHere_10 : decode cX7_medalBegunHere 10 = .ok (.ifCond .ne 25, 3) := by decide +kernel
theorem dX7_medalBegunHere_13 : decode cX7_medalBegunHere 13 = .ok (.aload_n 0, 1) := by decide +kernel
theorem dX7_medalBegunHere_14 : decode cX7_medalBegunHere 14 = .ok (.getfield 11, 3) := by decide +kernel
theorem dX7_medalBegunHere_17 : decode cX7_medalBegunHere 17 = .ok (.aload_n 0, 1) := by decide +kernel
theorem dX7_medalBegunHere_18 : decode cX7_medalBegunHere 18 = .ok (.getfield 19, 3) := by decide +kernel
theorem dX7_medalBegunHere_21 : decode cX7_medalBegunHere 21 = .ok (.baload, 1) := by decide +kernel
theorem dX7_medalBegunHere_22 : decode cX7_medalBegunHere 22 = .ok (.iload_n 2, 1) := by decide +kernel
theorem dX7_medalBegunHere_23 : decode cX7_medalBegunHere 23 = .ok (.invokestatic 26, 3) := by decide +kernel
theorem dX7_medalBegunHere_26 : decode cX7_medalBegunHere 26 = .ok (.iconst 0, 1) := by decide +kernel
theorem dX7_medalBegunHere_27 : decode cX7_medalBegunHere 27 = .ok (.invokevirtual 65, 3) := by decide +kernel
theorem dX7_medalBegunHere_30 : decode cX7_medalBegunHere 30 = .ok (.if_icmp .ne 5, 3) := by decide +kernel
theorem dX7_medalBegunHere_33 : decode cX7_medalBegunHere 33 = .ok (.iload_n 2, 1) := by decide +kernel
theorem dX7_medalBegunHere_34 : decode cX7_medalBegunHere 34 = .ok (.ireturn, 1) := by decide +kernel
theorem dX7_medalBegunHere_35 : decode cX7_medalBegunHere 35 = .ok (.iinc 2 (-1), 3) := by decide +kernel
theorem dX7_medalBegunHere_38 : decode cX7_medalBegunHere 38 = .ok (.goto (-36), 3) := by decide +kernel
theorem dX7_medalBegunHere_41 : decode cX7_medalBegunHere 41 = .ok (.iconst 0, 1) := by decide +kernel
theorem dX7_medalBegunHere_42 : decode cX7_medalBegunHere 42 = .ok (.ireturn, 1) := by decide +kernel
theorem dX7_isAtEnd_0 : decode cX7_isAtEnd 0 = .ok (.aload_n 0, 1) := by decide +kernel
theorem dX7_isAtEnd_1 : decode cX7_isAtEnd 1 = .ok (.getfield 19, 3) := by decide +kernel
theorem dX7_isAtEnd_4 : decode cX7_isAtEnd 4 = .ok (.aload_n 0, 1) := by decide +kernel
theorem dX7_isAtEnd_5 : decode cX7_isAtEnd 5 = .ok (.getfield 15, 3) := by decide +kernel
theorem dX7_isAtEnd_8 : decode cX7_isAtEnd 8 = .ok (.if_icmp .lt 7, 3) := by decide +kernel
theorem dX7_isAtEnd_11 : decode cX7_isAtEnd 11 = .ok (.iconst 1, 1) := by decide +kernel
theorem dX7_isAtEnd_12 : decode cX7_isAtEnd 12 = .ok (.goto 4, 3) := by decide +kernel
theorem dX7_isAtEnd_15 : decode cX7_isAtEnd 15 = .ok (.iconst 0, 1) := by decide +kernel
theorem dX7_isAtEnd_16 : decode cX7_isAtEnd 16 = .ok (.ireturn, 1) := by decide +kernel
theorem dX7_reads_0 : decode cX7_reads 0 = .ok (.iconst 0, 1) := by decide +kernel
theorem dX7_reads_1 : decode cX7_reads 1 = .ok (.istore_n 2, 1) := by decide +kernel
theorem dX7_reads_2 : decode cX7_reads 2 = .ok (.iload_n 2, 1) := by decide +kernel
theorem dX7_reads_3 : decode cX7_reads 3 = .ok (.aload_n 1, 1) := by decide +kernel
theorem dX7_reads_4 : decode cX7_reads 4 = .ok (.invokevirtual 71, 3) := by decide +kernel
theorem dX7_reads_7 : decode cX7_reads 7 = .ok (.if_icmp .ge 45, 3) := by decide +kernel
theorem dX7_reads_10 : decode cX7_reads 10 = .ok (.aload_n 0, 1) := by decide +kernel
theorem dX7_reads_11 : decode cX7_reads 11 = .ok (.invokevirtual 46, 3) := by decide +kernel
theorem dX7_reads_14 : decode cX7_reads 14 = .ok (.ifCond .ne 20, 3) := by decide +kernel
theorem dX7_reads_17 : decode cX7_reads 17 = .ok (.aload_n 0, 1) := by decide +kernel
theorem dX7_reads_18 : decode cX7_reads 18 = .ok (.getfield 11, 3) := by decide +kernel
theorem dX7_reads_21 : decode cX7_reads 21 = .ok (.aload_n 0, 1) := by decide +kernel
theorem dX7_reads_22 : decode cX7_reads 22 = .ok (.getfield 19, 3) := by decide +kernel
theorem dX7_reads_25 : decode cX7_reads 25 = .ok (.baload, 1) := by decide +kernel
theorem dX7_reads_26 : decode cX7_reads 26 = .ok (.aload_n 1, 1) := by decide +kernel
theorem dX7_reads_27 : decode cX7_reads 27 = .ok (.iload_n 2, 1) := by decide +kernel
theorem dX7_reads_28 : decode cX7_reads 28 = .ok (.invokevirtual 65, 3) := by decide +kernel
theorem dX7_reads_31 : decode cX7_reads 31 = .ok (.if_icmp .eq 5, 3) := by decide +kernel
theorem dX7_reads_34 : decode cX7_reads 34 = .ok (.iconst 0, 1) := by decide +kernel
theorem dX7_reads_35 : decode cX7_reads 35 = .ok (.ireturn, 1) := by decide +kernel
theorem dX7_reads_36 : decode cX7_reads 36 = .ok (.aload_n 0, 1) := by decide +kernel
theorem dX7_reads_37 : decode cX7_reads 37 = .ok (.dup, 1) := by decide +kernel
theorem dX7_reads_38 : decode cX7_reads 38 = .ok (.getfield 19, 3) := by decide +kernel
theorem dX7_reads_41 : decode cX7_reads 41 = .ok (.iconst 1, 1) := by decide +kernel
theorem dX7_reads_42 : decode cX7_reads 42 = .ok (.iadd, 1) := by decide +kernel
theorem dX7_reads_43 : decode cX7_reads 43 = .ok (.putfield 19, 3) := by decide +kernel
theorem dX7_reads_46 : decode cX7_reads 46 = .ok (.iinc 2 1, 3) := by decide +kernel
theorem dX7_reads_49 : decode cX7_reads 49 = .ok (.goto (-47), 3) := by decide +kernel
theorem dX7_reads_52 : decode cX7_reads 52 = .ok (.iconst 1, 1) := by decide +kernel
theorem dX7_reads_53 : decode cX7_reads 53 = .ok (.ireturn, 1) := by decide +kernel
theorem dX7_isDigitHere_0 : decode cX7_isDigitHere 0 = .ok (.aload_n 0, 1) := by decide +kernel
theorem dX7_isDigitHere_1 : decode cX7_isDigitHere 1 = .ok (.invokevirtual 46, 3) := by decide +kernel
theorem dX7_isDigitHere_4 : decode cX7_isDigitHere 4 = .ok (.ifCond .ne 34, 3) := by decide +kernel
theorem dX7_isDigitHere_7 : decode cX7_isDigitHere 7 = .ok (.aload_n 0, 1) := by decide +kernel
theorem dX7_isDigitHere_8 : decode cX7_isDigitHere 8 = .ok (.getfield 11, 3) := by decide +kernel
theorem dX7_isDigitHere_11 : decode cX7_isDigitHere 11 = .ok (.aload_n 0, 1) := by decide +kernel
theorem dX7_isDigitHere_12 : decode cX7_isDigitHere 12 = .ok (.getfield 19, 3) := by decide +kernel
theorem dX7_isDigitHere_15 : decode cX7_isDigitHere 15 = .ok (.baload, 1) := by decide +kernel
theorem dX7_isDigitHere_16 : decode cX7_isDigitHere 16 = .ok (.bipush 48, 2) := by decide +kernel
theorem dX7_isDigitHere_18 : decode cX7_isDigitHere 18 = .ok (.if_icmp .lt 20, 3) := by decide +kernel
theorem dX7_isDigitHere_21 : decode cX7_isDigitHere 21 = .ok (.aload_n 0, 1) := by decide +kernel
theorem dX7_isDigitHere_22 : decode cX7_isDigitHere 22 = .ok (.getfield 11, 3) := by decide +kernel
theorem dX7_isDigitHere_25 : decode cX7_isDigitHere 25 = .ok (.aload_n 0, 1) := by decide +kernel
theorem dX7_isDigitHere_26 : decode cX7_isDigitHere 26 = .ok (.getfield 19, 3) := by decide +kernel
theorem dX7_isDigitHere_29 : decode cX7_isDigitHere 29 = .ok (.baload, 1) := by decide +kernel
theorem dX7_isDigitHere_30 : decode cX7_isDigitHere 30 = .ok (.iload_n 1, 1) := by decide +kernel
theorem dX7_isDigitHere_31 : decode cX7_isDigitHere 31 = .ok (.if_icmp .gt 7, 3) := by decide +kernel
theorem dX7_isDigitHere_34 : decode cX7_isDigitHere 34 = .ok (.iconst 1, 1) := by decide +kernel
theorem dX7_isDigitHere_35 : decode cX7_isDigitHere 35 = .ok (.goto 4, 3) := by decide +kernel
theorem dX7_isDigitHere_38 : decode cX7_isDigitHere 38 = .ok (.iconst 0, 1) := by decide +kernel
theorem dX7_isDigitHere_39 : decode cX7_isDigitHere 39 = .ok (.ireturn, 1) := by decide +kernel
theorem dX7_readNumber_0 : decode cX7_readNumber 0 = .ok (.iconst (-1), 1) := by decide +kernel
theorem dX7_readNumber_1 : decode cX7_readNumber 1 = .ok (.istore_n 1, 1) := by decide +kernel
theorem dX7_readNumber_2 : decode cX7_readNumber 2 = .ok (.iconst 0, 1) := by decide +kernel
theorem dX7_readNumber_3 : decode cX7_readNumber 3 = .ok (.istore_n 2, 1) := by decide +kernel
theorem dX7_readNumber_4 : decode cX7_readNumber 4 = .ok (.iload_n 2, 1) := by decide +kernel
theorem dX7_readNumber_5 : decode cX7_readNumber 5 = .ok (.iconst 3, 1) := by decide +kernel
theorem dX7_readNumber_6 : decode cX7_readNumber 6 = .ok (.if_icmp .ge 50, 3) := by decide +kernel
theorem dX7_readNumber_9 : decode cX7_readNumber 9 = .ok (.aload_n 0, 1) := by decide +kernel
theorem dX7_readNumber_10 : decode cX7_readNumber 10 = .ok (.bipush 57, 2) := by decide +kernel
theorem dX7_readNumber_12 : decode cX7_readNumber 12 = .ok (.invokevirtual 74, 3) := by decide +kernel
theorem dX7_readNumber_15 : decode cX7_readNumber 15 = .ok (.ifCond .eq 41, 3) := by decide +kernel
theorem dX7_readNumber_18 : decode cX7_readNumber 18 = .ok (.iload_n 1, 1) := by decide +kernel
theorem dX7_readNumber_19 : decode cX7_readNumber 19 = .ok (.iconst 0, 1) := by decide +kernel
theorem dX7_readNumber_20 : decode cX7_readNumber 20 = .ok (.invokestatic 78, 3) := by decide +kernel
theorem dX7_readNumber_23 : decode cX7_readNumber 23 = .ok (.bipush 10, 2) := by decide +kernel
theorem dX7_readNumber_25 : decode cX7_readNumber 25 = .ok (.imul, 1) := by decide +kernel
theorem dX7_readNumber_26 : decode cX7_readNumber 26 = .ok (.aload_n 0, 1) := by decide +kernel
theorem dX7_readNumber_27 : decode cX7_readNumber 27 = .ok (.getfield 11, 3) := by decide +kernel
theorem dX7_readNumber_30 : decode cX7_readNumber 30 = .ok (.aload_n 0, 1) := by decide +kernel
theorem dX7_readNumber_31 : decode cX7_readNumber 31 = .ok (.getfield 19, 3) := by decide +kernel
theorem dX7_readNumber_34 : decode cX7_readNumber 34 = .ok (.baload, 1) := by decide +kernel
theorem dX7_readNumber_35 : decode cX7_readNumber 35 = .ok (.iadd, 1) := by decide +kernel
theorem dX7_readNumber_36 : decode cX7_readNumber 36 = .ok (.bipush 48, 2) := by decide +kernel
theorem dX7_readNumber_38 : decode cX7_readNumber 38 = .ok (.isub, 1) := by decide +kernel
theorem dX7_readNumber_39 : decode cX7_readNumber 39 = .ok (.istore_n 1, 1) := by decide +kernel
theorem dX7_readNumber_40 : decode cX7_readNumber 40 = .ok (.aload_n 0, 1) := by decide +kernel
theorem dX7_readNumber_41 : decode cX7_readNumber 41 = .ok (.dup, 1) := by decide +kernel
theorem dX7_readNumber_42 : decode cX7_readNumber 42 = .ok (.getfield 19, 3) := by decide +kernel
theorem dX7_readNumber_45 : decode cX7_readNumber 45 = .ok (.iconst 1, 1) := by decide +kernel
theorem dX7_readNumber_46 : decode cX7_readNumber 46 = .ok (.iadd, 1) := by decide +kernel
theorem dX7_readNumber_47 : decode cX7_readNumber 47 = .ok (.putfield 19, 3) := by decide +kernel
theorem dX7_readNumber_50 : decode cX7_readNumber 50 = .ok (.iinc 2 1, 3) := by decide +kernel
theorem dX7_readNumber_53 : decode cX7_readNumber 53 = .ok (.goto (-49), 3) := by decide +kernel
theorem dX7_readNumber_56 : decode cX7_readNumber 56 = .ok (.iload_n 1, 1) := by decide +kernel
theorem dX7_readNumber_57 : decode cX7_readNumber 57 = .ok (.ireturn, 1) := by decide +kernel
theorem dX7_readWeekday_0 : decode cX7_readWeekday 0 = .ok (.aload_n 0, 1) := by decide +kernel
theorem dX7_readWeekday_1 : decode cX7_readWeekday 1 = .ok (.bipush 54, 2) := by decide +kernel
theorem dX7_readWeekday_3 : decode cX7_readWeekday 3 = .ok (.invokevirtual 74, 3) := by decide +kernel
theorem dX7_readWeekday_6 : decode cX7_readWeekday 6 = .ok (.ifCond .ne 5, 3) := by decide +kernel
theorem dX7_readWeekday_9 : decode cX7_readWeekday 9 = .ok (.iconst (-1), 1) := by decide +kernel
theorem dX7_readWeekday_10 : decode cX7_readWeekday 10 = .ok (.ireturn, 1) := by decide +kernel
theorem dX7_readWeekday_11 : decode cX7_readWeekday 11 = .ok (.aload_n 0, 1) := by decide +kernel
theorem dX7_readWeekday_12 : decode cX7_readWeekday 12 = .ok (.dup, 1) := by decide +kernel
theorem dX7_readWeekday_13 : decode cX7_readWeekday 13 = .ok (.getfield 19, 3) := by decide +kernel
theorem dX7_readWeekday_16 : decode cX7_readWeekday 16 = .ok (.iconst 1, 1) := by decide +kernel
theorem dX7_readWeekday_17 : decode cX7_readWeekday 17 = .ok (.iadd, 1) := by decide +kernel
theorem dX7_readWeekday_18 : decode cX7_readWeekday 18 = .ok (.putfield 19, 3) := by decide +kernel
theorem dX7_readWeekday_21 : decode cX7_readWeekday 21 = .ok (.aload_n 0, 1) := by decide +kernel
theorem dX7_readWeekday_22 : decode cX7_readWeekday 22 = .ok (.getfield 11, 3) := by decide +kernel
theorem dX7_readWeekday_25 : decode cX7_readWeekday 25 = .ok (.aload_n 0, 1) := by decide +kernel
theorem dX7_readWeekday_26 : decode cX7_readWeekday 26 = .ok (.getfield 19, 3) := by decide +kernel
theorem dX7_readWeekday_29 : decode cX7_readWeekday 29 = .ok (.iconst 1, 1) := by decide +kernel
theorem dX7_readWeekday_30 : decode cX7_readWeekday 30 = .ok (.isub, 1) := by decide +kernel
theorem dX7_readWeekday_31 : decode cX7_readWeekday 31 = .ok (.baload, 1) := by decide +kernel
theorem dX7_readWeekday_32 : decode cX7_readWeekday 32 = .ok (.bipush 48, 2) := by decide +kernel
theorem dX7_readWeekday_34 : decode cX7_readWeekday 34 = .ok (.isub, 1) := by decide +kernel
theorem dX7_readWeekday_35 : decode cX7_readWeekday 35 = .ok (.ireturn, 1) := by decide +kernel
theorem dX8_init_0 : decode cX8_init 0 = .ok (.aload_n 0, 1) := by decide +kernel
theorem dX8_init_1 : decode cX8_init 1 = .ok (.invokespecial 1, 3) := by decide +kernel
theorem dX8_init_4 : decode cX8_init 4 = .ok (.aload_n 0, 1) := by decide +kernel
theorem dX8_init_5 : decode cX8_init 5 = .ok (.iconst 5, 1) := by decide +kernel
theorem dX8_init_6 : decode cX8_init 6 = .ok (.newarray .int, 2) := by decide +kernel
theorem dX8_init_8 : decode cX8_init 8 = .ok (.putfield 9, 3) := by decide +kernel
theorem dX8_init_11 : decode cX8_init 11 = .ok (.aload_n 0, 1) := by decide +kernel
theorem dX8_init_12 : decode cX8_init 12 = .ok (.iconst 5, 1) := by decide +kernel
theorem dX8_init_13 : decode cX8_init 13 = .ok (.newarray .int, 2) := by decide +kernel
theorem dX8_init_15 : decode cX8_init 15 = .ok (.putfield 13, 3) := by decide +kernel
theorem dX8_init_18 : decode cX8_init 18 = .ok (.return_, 1) := by decide +kernel
theorem dX8_begin_0 : decode cX8_begin 0 = .ok (.aload_n 0, 1) := by decide +kernel
theorem dX8_begin_1 : decode cX8_begin 1 = .ok (.iload_n 1, 1) := by decide +kernel
theorem dX8_begin_2 : decode cX8_begin 2 = .ok (.putfield 16, 3) := by decide +kernel
theorem dX8_begin_5 : decode cX8_begin 5 = .ok (.aload_n 0, 1) := by decide +kernel
theorem dX8_begin_6 : decode cX8_begin 6 = .ok (.iconst 0, 1) := by decide +kernel
theorem dX8_begin_7 : decode cX8_begin 7 = .ok (.putfield 20, 3) := by decide +kernel
theorem dX8_begin_10 : decode cX8_begin 10 = .ok (.return_, 1) := by decide +kernel
theorem dX8_add_0 : decode cX8_add 0 = .ok (.aload_n 0, 1) := by decide +kernel
theorem dX8_add_1 : decode cX8_add 1 = .ok (.getfield 20, 3) := by decide +kernel
theorem dX8_add_4 : decode cX8_add 4 = .ok (.iconst 5, 1) := by decide +kernel
theorem dX8_add_5 : decode cX8_add 5 = .ok (.if_icmp .ge 33, 3) := by decide +kernel
theorem dX8_add_8 : decode cX8_add 8 = .ok (.aload_n 0, 1) := by decide +kernel
theorem dX8_add_9 : decode cX8_add 9 = .ok (.getfield 9, 3) := by decide +kernel
theorem dX8_add_12 : decode cX8_add 12 = .ok (.aload_n 0, 1) := by decide +kernel
theorem dX8_add_13 : decode cX8_add 13 = .ok (.getfield 20, 3) := by decide +kernel
theorem dX8_add_16 : decode cX8_add 16 = .ok (.iload_n 1, 1) := by decide +kernel
theorem dX8_add_17 : decode cX8_add 17 = .ok (.iastore, 1) := by decide +kernel
theorem dX8_add_18 : decode cX8_add 18 = .ok (.aload_n 0, 1) := by decide +kernel
theorem dX8_add_19 : decode cX8_add 19 = .ok (.getfield 13, 3) := by decide +kernel
theorem dX8_add_22 : decode cX8_add 22 = .ok (.aload_n 0, 1) := by decide +kernel
theorem dX8_add_23 : decode cX8_add 23 = .ok (.getfield 20, 3) := by decide +kernel
theorem dX8_add_26 : decode cX8_add 26 = .ok (.iload_n 2, 1) := by decide +kernel
theorem dX8_add_27 : decode cX8_add 27 = .ok (.iastore, 1) := by decide +kernel
theorem dX8_add_28 : decode cX8_add 28 = .ok (.aload_n 0, 1) := by decide +kernel
theorem dX8_add_29 : decode cX8_add 29 = .ok (.dup, 1) := by decide +kernel
theorem dX8_add_30 : decode cX8_add 30 = .ok (.getfield 20, 3) := by decide +kernel
theorem dX8_add_33 : decode cX8_add 33 = .ok (.iconst 1, 1) := by decide +kernel
theorem dX8_add_34 : decode cX8_add 34 = .ok (.iadd, 1) := by decide +kernel
theorem dX8_add_35 : decode cX8_add 35 = .ok (.putfield 20, 3) := by decide +kernel
theorem dX8_add_38 : decode cX8_add 38 = .ok (.return_, 1) := by decide +kernel
theorem dX8_medalFor_0 : decode cX8_medalFor 0 = .ok (.iconst 0, 1) := by decide +kernel
theorem dX8_medalFor_1 : decode cX8_medalFor 1 = .ok (.istore_n 2, 1) := by decide +kernel
theorem dX8_medalFor_2 : decode cX8_medalFor 2 = .ok (.iload_n 2, 1) := by decide +kernel
theorem dX8_medalFor_3 : decode cX8_medalFor 3 = .ok (.aload_n 0, 1) := by decide +kernel
theorem dX8_medalFor_4 : decode cX8_medalFor 4 = .ok (.getfield 20, 3) := by decide +kernel
theorem dX8_medalFor_7 : decode cX8_medalFor 7 = .ok (.if_icmp .ge 26, 3) := by decide +kernel
theorem dX8_medalFor_10 : decode cX8_medalFor 10 = .ok (.iload_n 1, 1) := by decide +kernel
theorem dX8_medalFor_11 : decode cX8_medalFor 11 = .ok (.aload_n 0, 1) := by decide +kernel
theorem dX8_medalFor_12 : decode cX8_medalFor 12 = .ok (.getfield 13, 3) := by decide +kernel
theorem dX8_medalFor_15 : decode cX8_medalFor 15 = .ok (.iload_n 2, 1) := by decide +kernel
theorem dX8_medalFor_16 : decode cX8_medalFor 16 = .ok (.iaload, 1) := by decide +kernel
theorem dX8_medalFor_17 : decode cX8_medalFor 17 = .ok (.if_icmp .lt 10, 3) := by decide +kernel
theorem dX8_medalFor_20 : decode cX8_medalFor 20 = .ok (.aload_n 0, 1) := by decide +kernel
theorem dX8_medalFor_21 : decode cX8_medalFor 21 = .ok (.getfield 9, 3) := by decide +kernel
theorem dX8_medalFor_24 : decode cX8_medalFor 24 = .ok (.iload_n 2, 1) := by decide +kernel
theorem dX8_medalFor_25 : decode cX8_medalFor 25 = .ok (.iaload, 1) := by decide +kernel
theorem dX8_medalFor_26 : decode cX8_medalFor 26 = .ok (.ireturn, 1) := by decide +kernel
theorem dX8_medalFor_27 : decode cX8_medalFor 27 = .ok (.iinc 2 1, 3) := by decide +kernel
theorem dX8_medalFor_30 : decode cX8_medalFor 30 = .ok (.goto (-28), 3) := by decide +kernel
theorem dX8_medalFor_33 : decode cX8_medalFor 33 = .ok (.iconst 0, 1) := by decide +kernel
theorem dX8_medalFor_34 : decode cX8_medalFor 34 = .ok (.ireturn, 1) := by decide +kernel
theorem dX8_priceOf_0 : decode cX8_priceOf 0 = .ok (.iload_n 1, 1) := by decide +kernel
theorem dX8_priceOf_1 : decode cX8_priceOf 1 = .ok (.bipush 7, 2) := by decide +kernel
theorem dX8_priceOf_3 : decode cX8_priceOf 3 = .ok (.invokestatic 23, 3) := by decide +kernel
theorem dX8_priceOf_6 : decode cX8_priceOf 6 = .ok (.istore_n 2, 1) := by decide +kernel
theorem dX8_priceOf_7 : decode cX8_priceOf 7 = .ok (.iconst 0, 1) := by decide +kernel
theorem dX8_priceOf_8 : decode cX8_priceOf 8 = .ok (.istore_n 3, 1) := by decide +kernel
theorem dX8_priceOf_9 : decode cX8_priceOf 9 = .ok (.iload_n 3, 1) := by decide +kernel
theorem dX8_priceOf_10 : decode cX8_priceOf 10 = .ok (.aload_n 0, 1) := by decide +kernel
theorem dX8_priceOf_11 : decode cX8_priceOf 11 = .ok (.getfield 20, 3) := by decide +kernel
theorem dX8_priceOf_14 : decode cX8_priceOf 14 = .ok (.if_icmp .ge 36, 3) := by decide +kernel
theorem dX8_priceOf_17 : decode cX8_priceOf 17 = .ok (.aload_n 0, 1) := by decide +kernel
theorem dX8_priceOf_18 : decode cX8_priceOf 18 = .ok (.getfield 9, 3) := by decide +kernel
theorem dX8_priceOf_21 : decode cX8_priceOf 21 = .ok (.iload_n 3, 1) := by decide +kernel
theorem dX8_priceOf_22 : decode cX8_priceOf 22 = .ok (.iaload, 1) := by decide +kernel
theorem dX8_priceOf_23 : decode cX8_priceOf 23 = .ok (.iload_n 2, 1) := by decide +kernel
theorem dX8_priceOf_24 : decode cX8_priceOf 24 = .ok (.if_icmp .eq 13, 3) := by decide +kernel
theorem dX8_priceOf_27 : decode cX8_priceOf 27 = .ok (.aload_n 0, 1) := by decide +kernel
theorem dX8_priceOf_28 : decode cX8_priceOf 28 = .ok (.getfield 9, 3) := by decide +kernel
theorem dX8_priceOf_31 : decode cX8_priceOf 31 = .ok (.iload_n 3, 1) := by decide +kernel
theorem dX8_priceOf_32 : decode cX8_priceOf 32 = .ok (.iaload, 1) := by decide +kernel
theorem dX8_priceOf_33 : decode cX8_priceOf 33 = .ok (.iconst (-1), 1) := by decide +kernel
theorem dX8_priceOf_34 : decode cX8_priceOf 34 = .ok (.if_icmp .ne 10, 3) := by decide +kernel
theorem dX8_priceOf_37 : decode cX8_priceOf 37 = .ok (.aload_n 0, 1) := by decide +kernel
theorem dX8_priceOf_38 : decode cX8_priceOf 38 = .ok (.getfield 13, 3) := by decide +kernel
theorem dX8_priceOf_41 : decode cX8_priceOf 41 = .ok (.iload_n 3, 1) := by decide +kernel
theorem dX8_priceOf_42 : decode cX8_priceOf 42 = .ok (.iaload, 1) := by decide +kernel
theorem dX8_priceOf_43 : decode cX8_priceOf 43 = .ok (.ireturn, 1) := by decide +kernel
theorem dX8_priceOf_44 : decode cX8_priceOf 44 = .ok (.iinc 3 1, 3) := by decide +kernel
theorem dX8_priceOf_47 : decode cX8_priceOf 47 = .ok (.goto (-38), 3) := by decide +kernel
theorem dX8_priceOf_50 : decode cX8_priceOf 50 = .ok (.iconst 0, 1) := by decide +kernel
theorem dX8_priceOf_51 : decode cX8_priceOf 51 = .ok (.ireturn, 1) := by decide +kernel
theorem dX9_init_0 : decode cX9_init 0 = .ok (.aload_n 0, 1) := by decide +kernel
theorem dX9_init_1 : decode cX9_init 1 = .ok (.invokespecial 1, 3) := by decide +kernel
theorem dX9_init_4 : decode cX9_init 4 = .ok (.aload_n 0, 1) := by decide +kernel
theorem dX9_init_5 : decode cX9_init 5 = .ok (.bipush 6, 2) := by decide +kernel
theorem dX9_init_7 : decode cX9_init 7 = .ok (.anewarray 9, 3) := by decide +kernel
theorem dX9_init_10 : decode cX9_init 10 = .ok (.putfield 11, 3) := by decide +kernel
theorem dX9_init_13 : decode cX9_init 13 = .ok (.iconst 0, 1) := by decide +kernel
theorem dX9_init_14 : decode cX9_init 14 = .ok (.istore_n 1, 1) := by decide +kernel
theorem dX9_init_15 : decode cX9_init 15 = .ok (.iload_n 1, 1) := by decide +kernel
theorem dX9_init_16 : decode cX9_init 16 = .ok (.bipush 6, 2) := by decide +kernel
theorem dX9_init_18 : decode cX9_init 18 = .ok (.if_icmp .ge 22, 3) := by decide +kernel
theorem dX9_init_21 : decode cX9_init 21 = .ok (.aload_n 0, 1) := by decide +kernel
theorem dX9_init_22 : decode cX9_init 22 = .ok (.getfield 11, 3) := by decide +kernel
theorem dX9_init_25 : decode cX9_init 25 = .ok (.iload_n 1, 1) := by decide +kernel
theorem dX9_init_26 : decode cX9_init 26 = .ok (.new 9, 3) := by decide +kernel
theorem dX9_init_29 : decode cX9_init 29 = .ok (.dup, 1) := by decide +kernel
theorem dX9_init_30 : decode cX9_init 30 = .ok (.invokespecial 15, 3) := by decide +kernel
theorem dX9_init_33 : decode cX9_init 33 = .ok (.aastore, 1) := by decide +kernel
theorem dX9_init_34 : decode cX9_init 34 = .ok (.iinc 1 1, 3) := by decide +kernel
theorem dX9_init_37 : decode cX9_init 37 = .ok (.goto (-22), 3) := by decide +kernel
theorem dX9_init_40 : decode cX9_init 40 = .ok (.return_, 1) := by decide +kernel
theorem dX9_next_0 : decode cX9_next 0 = .ok (.aload_n 0, 1) := by decide +kernel
theorem dX9_next_1 : decode cX9_next 1 = .ok (.getfield 16, 3) := by decide +kernel
theorem dX9_next_4 : decode cX9_next 4 = .ok (.bipush 6, 2) := by decide +kernel
theorem dX9_next_6 : decode cX9_next 6 = .ok (.if_icmp .ge 15, 3) := by decide +kernel
theorem dX9_next_9 : decode cX9_next 9 = .ok (.aload_n 0, 1) := by decide +kernel
theorem dX9_next_10 : decode cX9_next 10 = .ok (.getfield 11, 3) := by decide +kernel
theorem dX9_next_13 : decode cX9_next 13 = .ok (.aload_n 0, 1) := by decide +kernel
theorem dX9_next_14 : decode cX9_next 14 = .ok (.getfield 16, 3) := by decide +kernel
theorem dX9_next_17 : decode cX9_next 17 = .ok (.aaload, 1) := by decide +kernel
theorem dX9_next_18 : decode cX9_next 18 = .ok (.goto 4, 3) := by decide +kernel
theorem dX9_next_21 : decode cX9_next 21 = .ok (.aconst_null, 1) := by decide +kernel
theorem dX9_next_22 : decode cX9_next 22 = .ok (.areturn, 1) := by decide +kernel
theorem dX9_keepNext_0 : decode cX9_keepNext 0 = .ok (.aload_n 0, 1) := by decide +kernel
theorem dX9_keepNext_1 : decode cX9_keepNext 1 = .ok (.dup, 1) := by decide +kernel
theorem dX9_keepNext_2 : decode cX9_keepNext 2 = .ok (.getfield 16, 3) := by decide +kernel
theorem dX9_keepNext_5 : decode cX9_keepNext 5 = .ok (.iconst 1, 1) := by decide +kernel
theorem dX9_keepNext_6 : decode cX9_keepNext 6 = .ok (.iadd, 1) := by decide +kernel
theorem dX9_keepNext_7 : decode cX9_keepNext 7 = .ok (.putfield 16, 3) := by decide +kernel
theorem dX9_keepNext_10 : decode cX9_keepNext 10 = .ok (.aload_n 0, 1) := by decide +kernel
theorem dX9_keepNext_11 : decode cX9_keepNext 11 = .ok (.getfield 16, 3) := by decide +kernel
theorem dX9_keepNext_14 : decode cX9_keepNext 14 = .ok (.ireturn, 1) := by decide +kernel
theorem dX9_inForce_0 : decode cX9_inForce 0 = .ok (.aconst_null, 1) := by decide +kernel
theorem dX9_inForce_1 : decode cX9_inForce 1 = .ok (.astore_n 2, 1) := by decide +kernel
theorem dX9_inForce_2 : decode cX9_inForce 2 = .ok (.iconst 0, 1) := by decide +kernel
theorem dX9_inForce_3 : decode cX9_inForce 3 = .ok (.istore_n 3, 1) := by decide +kernel
theorem dX9_inForce_4 : decode cX9_inForce 4 = .ok (.iload_n 3, 1) := by decide +kernel
theorem dX9_inForce_5 : decode cX9_inForce 5 = .ok (.aload_n 0, 1) := by decide +kernel
theorem dX9_inForce_6 : decode cX9_inForce 6 = .ok (.getfield 16, 3) := by decide +kernel
theorem dX9_inForce_9 : decode cX9_inForce 9 = .ok (.if_icmp .ge 49, 3) := by decide +kernel
theorem dX9_inForce_12 : decode cX9_inForce 12 = .ok (.aload_n 0, 1) := by decide +kernel
theorem dX9_inForce_13 : decode cX9_inForce 13 = .ok (.getfield 11, 3) := by decide +kernel
theorem dX9_inForce_16 : decode cX9_inForce 16 = .ok (.iload_n 3, 1) := by decide +kernel
theorem dX9_inForce_17 : decode cX9_inForce 17 = .ok (.aaload, 1) := by decide +kernel
theorem dX9_inForce_18 : decode cX9_inForce 18 = .ok (.getfield 20, 3) := by decide +kernel
theorem dX9_inForce_21 : decode cX9_inForce 21 = .ok (.iload_n 1, 1) := by decide +kernel
theorem dX9_inForce_22 : decode cX9_inForce 22 = .ok (.if_icmp .gt 30, 3) := by decide +kernel
theorem dX9_inForce_25 : decode cX9_inForce 25 = .ok (.aload_n 2, 1) := by decide +kernel
theorem dX9_inForce_26 : decode cX9_inForce 26 = .ok (.ifnull 19, 3) := by decide +kernel
theorem dX9_inForce_29 : decode cX9_inForce 29 = .ok (.aload_n 0, 1) := by decide +kernel
theorem dX9_inForce_30 : decode cX9_inForce 30 = .ok (.getfield 11, 3) := by decide +kernel
theorem dX9_inForce_33 : decode cX9_inForce 33 = .ok (.iload_n 3, 1) := by decide +kernel
theorem dX9_inForce_34 : decode cX9_inForce 34 = .ok (.aaload, 1) := by decide +kernel
theorem dX9_inForce_35 : decode cX9_inForce 35 = .ok (.getfield 20, 3) := by decide +kernel
theorem dX9_inForce_38 : decode cX9_inForce 38 = .ok (.aload_n 2, 1) := by decide +kernel
theorem dX9_inForce_39 : decode cX9_inForce 39 = .ok (.getfield 20, 3) := by decide +kernel
theorem dX9_inForce_42 : decode cX9_inForce 42 = .ok (.if_icmp .lt 10, 3) := by decide +kernel
theorem dX9_inForce_45 : decode cX9_inForce 45 = .ok (.aload_n 0, 1) := by decide +kernel
theorem dX9_inForce_46 : decode cX9_inForce 46 = .ok (.getfield 11, 3) := by decide +kernel
theorem dX9_inForce_49 : decode cX9_inForce 49 = .ok (.iload_n 3, 1) := by decide +kernel
theorem dX9_inForce_50 : decode cX9_inForce 50 = .ok (.aaload, 1) := by decide +kernel
theorem dX9_inForce_51 : decode cX9_inForce 51 = .ok (.astore_n 2, 1) := by decide +kernel
theorem dX9_inForce_52 : decode cX9_inForce 52 = .ok (.iinc 3 1, 3) := by decide +kernel
theorem dX9_inForce_55 : decode cX9_inForce 55 = .ok (.goto (-51), 3) := by decide +kernel
theorem dX9_inForce_58 : decode cX9_inForce 58 = .ok (.aload_n 2, 1) := by decide +kernel
theorem dX9_inForce_59 : decode cX9_inForce 59 = .ok (.areturn, 1) := by decide +kernel
theorem dX10_init_0 : decode cX10_init 0 = .ok (.aload_n 0, 1) := by decide +kernel
theorem dX10_init_1 : decode cX10_init 1 = .ok (.invokespecial 1, 3) := by decide +kernel
theorem dX10_init_4 : decode cX10_init 4 = .ok (.aload_n 0, 1) := by decide +kernel
theorem dX10_init_5 : decode cX10_init 5 = .ok (.new 7, 3) := by decide +kernel
theorem dX10_init_8 : decode cX10_init 8 = .ok (.dup, 1) := by decide +kernel
theorem dX10_init_9 : decode cX10_init 9 = .ok (.iconst 3, 1) := by decide +kernel
theorem dX10_init_10 : decode cX10_init 10 = .ok (.iload_n 1, 1) := by decide +kernel
theorem dX10_init_11 : decode cX10_init 11 = .ok (.bipush 6, 2) := by decide +kernel
theorem dX10_init_13 : decode cX10_init 13 = .ok (.invokestatic 9, 3) := by decide +kernel
theorem dX10_init_16 : decode cX10_init 16 = .ok (.iadd, 1) := by decide +kernel
theorem dX10_init_17 : decode cX10_init 17 = .ok (.iconst 3, 1) := by decide +kernel
theorem dX10_init_18 : decode cX10_init 18 = .ok (.iload_n 2, 1) := by decide +kernel
theorem dX10_init_19 : decode cX10_init 19 = .ok (.bipush 6, 2) := by decide +kernel
theorem dX10_init_21 : decode cX10_init 21 = .ok (.invokestatic 9, 3) := by decide +kernel
theorem dX10_init_24 : decode cX10_init 24 = .ok (.iadd, 1) := by decide +kernel
theorem dX10_init_25 : decode cX10_init 25 = .ok (.invokespecial 15, 3) := by decide +kernel
theorem dX10_init_28 : decode cX10_init 28 = .ok (.putfield 18, 3) := by decide +kernel
theorem dX10_init_31 : decode cX10_init 31 = .ok (.aload_n 0, 1) := by decide +kernel
theorem dX10_init_32 : decode cX10_init 32 = .ok (.new 24, 3) := by decide +kernel
theorem dX10_init_35 : decode cX10_init 35 = .ok (.dup, 1) := by decide +kernel
theorem dX10_init_36 : decode cX10_init 36 = .ok (.aload_n 0, 1) := by decide +kernel
theorem dX10_init_37 : decode cX10_init 37 = .ok (.getfield 18, 3) := by decide +kernel
theorem dX10_init_40 : decode cX10_init 40 = .ok (.invokespecial 26, 3) := by decide +kernel
theorem dX10_init_43 : decode cX10_init 43 = .ok (.putfield 29, 3) := by decide +kernel
theorem dX10_init_46 : decode cX10_init 46 = .ok (.aload_n 0, 1) := by decide +kernel
theorem dX10_init_47 : decode cX10_init 47 = .ok (.new 33, 3) := by decide +kernel
theorem dX10_init_50 : decode cX10_init 50 = .ok (.dup, 1) := by decide +kernel
theorem dX10_init_51 : decode cX10_init 51 = .ok (.aload_n 0, 1) := by decide +kernel
theorem dX10_init_52 : decode cX10_init 52 = .ok (.getfield 18, 3) := by decide +kernel
theorem dX10_init_55 : decode cX10_init 55 = .ok (.aload_n 0, 1) := by decide +kernel
theorem dX10_init_56 : decode cX10_init 56 = .ok (.getfield 29, 3) := by decide +kernel
theorem dX10_init_59 : decode cX10_init 59 = .ok (.invokespecial 35, 3) := by decide +kernel
theorem dX10_init_62 : decode cX10_init 62 = .ok (.putfield 38, 3) := by decide +kernel
theorem dX10_init_65 : decode cX10_init 65 = .ok (.aload_n 0, 1) := by decide +kernel
theorem dX10_init_66 : decode cX10_init 66 = .ok (.new 42, 3) := by decide +kernel
theorem dX10_init_69 : decode cX10_init 69 = .ok (.dup, 1) := by decide +kernel
theorem dX10_init_70 : decode cX10_init 70 = .ok (.invokespecial 44, 3) := by decide +kernel
theorem dX10_init_73 : decode cX10_init 73 = .ok (.putfield 45, 3) := by decide +kernel
theorem dX10_init_76 : decode cX10_init 76 = .ok (.aload_n 0, 1) := by decide +kernel
theorem dX10_init_77 : decode cX10_init 77 = .ok (.new 49, 3) := by decide +kernel
theorem dX10_init_80 : decode cX10_init 80 = .ok (.dup, 1) := by decide +kernel
theorem dX10_init_81 : decode cX10_init 81 = .ok (.invokespecial 51, 3) := by decide +kernel
theorem dX10_init_84 : decode cX10_init 84 = .ok (.putfield 52, 3) := by decide +kernel
theorem dX10_init_87 : decode cX10_init 87 = .ok (.aload_n 0, 1) := by decide +kernel
theorem dX10_init_88 : decode cX10_init 88 = .ok (.new 49, 3) := by decide +kernel
theorem dX10_init_91 : decode cX10_init 91 = .ok (.dup, 1) := by decide +kernel
theorem dX10_init_92 : decode cX10_init 92 = .ok (.invokespecial 51, 3) := by decide +kernel
theorem dX10_init_95 : decode cX10_init 95 = .ok (.putfield 56, 3) := by decide +kernel
theorem dX10_init_98 : decode cX10_init 98 = .ok (.aload_n 0, 1) := by decide +kernel
theorem dX10_init_99 : decode cX10_init 99 = .ok (.new 59, 3) := by decide +kernel
theorem dX10_init_102 : decode cX10_init 102 = .ok (.dup, 1) := by decide +kernel
theorem dX10_init_103 : decode cX10_init 103 = .ok (.invokespecial 61, 3) := by decide +kernel
theorem dX10_init_106 : decode cX10_init 106 = .ok (.putfield 62, 3) := by decide +kernel
theorem dX10_init_109 : decode cX10_init 109 = .ok (.aload_n 0, 1) := by decide +kernel
theorem dX10_init_110 : decode cX10_init 110 = .ok (.new 66, 3) := by decide +kernel
theorem dX10_init_113 : decode cX10_init 113 = .ok (.dup, 1) := by decide +kernel
theorem dX10_init_114 : decode cX10_init 114 = .ok (.invokespecial 68, 3) := by decide +kernel
theorem dX10_init_117 : decode cX10_init 117 = .ok (.putfield 69, 3) := by decide +kernel
theorem dX10_init_120 : decode cX10_init 120 = .ok (.aload_n 0, 1) := by decide +kernel
theorem dX10_init_121 : decode cX10_init 121 = .ok (.new 73, 3) := by decide +kernel
theorem dX10_init_124 : decode cX10_init 124 = .ok (.dup, 1) := by decide +kernel
theorem dX10_init_125 : decode cX10_init 125 = .ok (.invokespecial 75, 3) := by decide +kernel
theorem dX10_init_128 : decode cX10_init 128 = .ok (.putfield 76, 3) := by decide +kernel
theorem dX10_init_131 : decode cX10_init 131 = .ok (.aload_n 0, 1) := by decide +kernel
theorem dX10_init_132 : decode cX10_init 132 = .ok (.sipush 180, 3) := by decide +kernel
theorem dX10_init_135 : decode cX10_init 135 = .ok (.putfield 80, 3) := by decide +kernel
theorem dX10_init_138 : decode cX10_init 138 = .ok (.return_, 1) := by decide +kernel
theorem dX10_cell_0 : decode cX10_cell 0 = .ok (.aload_n 0, 1) := by decide +kernel
theorem dX10_cell_1 : decode cX10_cell 1 = .ok (.getfield 18, 3) := by decide +kernel
theorem dX10_cell_4 : decode cX10_cell 4 = .ok (.iload_n 1, 1) := by decide +kernel
theorem dX10_cell_5 : decode cX10_cell 5 = .ok (.invokevirtual 84, 3) := by decide +kernel
theorem dX10_cell_8 : decode cX10_cell 8 = .ok (.ifCond .ne 5, 3) := by decide +kernel
theorem dX10_cell_11 : decode cX10_cell 11 = .ok (.iconst (-1), 1) := by decide +kernel
theorem dX10_cell_12 : decode cX10_cell 12 = .ok (.ireturn, 1) := by decide +kernel
theorem dX10_cell_13 : decode cX10_cell 13 = .ok (.iload_n 2, 1) := by decide +kernel
theorem dX10_cell_14 : decode cX10_cell 14 = .ok (.iconst 0, 1) := by decide +kernel
theorem dX10_cell_15 : decode cX10_cell 15 = .ok (.iconst 3, 1) := by decide +kernel
theorem dX10_cell_16 : decode cX10_cell 16 = .ok (.invokestatic 88, 3) := by decide +kernel
theorem dX10_cell_19 : decode cX10_cell 19 = .ok (.ifCond .eq 19, 3) := by decide +kernel
theorem dX10_cell_22 : decode cX10_cell 22 = .ok (.iload_n 2, 1) := by decide +kernel
theorem dX10_cell_23 : decode cX10_cell 23 = .ok (.iconst 1, 1) := by decide +kernel
theorem dX10_cell_24 : decode cX10_cell 24 = .ok (.if_icmp .ne 17, 3) := by decide +kernel
theorem dX10_cell_27 : decode cX10_cell 27 = .ok (.aload_n 0, 1) := by decide +kernel
theorem dX10_cell_28 : decode cX10_cell 28 = .ok (.getfield 18, 3) := by decide +kernel
theorem dX10_cell_31 : decode cX10_cell 31 = .ok (.iload_n 1, 1) := by decide +kernel
theorem dX10_cell_32 : decode cX10_cell 32 = .ok (.invokevirtual 92, 3) := by decide +kernel
theorem dX10_cell_35 : decode cX10_cell 35 = .ok (.ifCond .ne 6, 3) := by decide +kernel
theorem dX10_cell_38 : decode cX10_cell 38 = .ok (.bipush (-2), 2) := by decide +kernel
theorem dX10_cell_40 : decode cX10_cell 40 = .ok (.ireturn, 1) := by decide +kernel
theorem dX10_cell_41 : decode cX10_cell 41 = .ok (.aload_n 0, 1) := by decide +kernel
theorem dX10_cell_42 : decode cX10_cell 42 = .ok (.getfield 29, 3) := by decide +kernel
theorem dX10_cell_45 : decode cX10_cell 45 = .ok (.invokevirtual 95, 3) := by decide +kernel
theorem dX10_cell_48 : decode cX10_cell 48 = .ok (.ifCond .le 6, 3) := by decide +kernel
theorem dX10_cell_51 : decode cX10_cell 51 = .ok (.bipush (-3), 2) := by decide +kernel
theorem dX10_cell_53 : decode cX10_cell 53 = .ok (.ireturn, 1) := by decide +kernel
theorem dX10_cell_54 : decode cX10_cell 54 = .ok (.aload_n 0, 1) := by decide +kernel
theorem dX10_cell_55 : decode cX10_cell 55 = .ok (.getfield 18, 3) := by decide +kernel
theorem dX10_cell_58 : decode cX10_cell 58 = .ok (.iload_n 1, 1) := by decide +kernel
theorem dX10_cell_59 : decode cX10_cell 59 = .ok (.invokevirtual 99, 3) := by decide +kernel
theorem dX10_cell_62 : decode cX10_cell 62 = .ok (.istore_n 3, 1) := by decide +kernel
theorem dX10_cell_63 : decode cX10_cell 63 = .ok (.aload_n 0, 1) := by decide +kernel
theorem dX10_cell_64 : decode cX10_cell 64 = .ok (.getfield 18, 3) := by decide +kernel
theorem dX10_cell_67 : decode cX10_cell 67 = .ok (.iload_n 1, 1) := by decide +kernel
theorem dX10_cell_68 : decode cX10_cell 68 = .ok (.iload_n 2, 1) := by decide +kernel
theorem dX10_cell_69 : decode cX10_cell 69 = .ok (.invokevirtual 103, 3) := by decide +kernel
theorem dX10_cell_72 : decode cX10_cell 72 = .ok (.iload_n 3, 1) := by decide +kernel
theorem dX10_cell_73 : decode cX10_cell 73 = .ok (.ireturn, 1) := by decide +kernel
theorem dX10_bears_0 : decode cX10_bears 0 = .ok (.aload_n 0, 1) := by decide +kernel
theorem dX10_bears_1 : decode cX10_bears 1 = .ok (.getfield 18, 3) := by decide +kernel
theorem dX10_bears_4 : decode cX10_bears 4 = .ok (.iload_n 1, 1) := by decide +kernel
theorem dX10_bears_5 : decode cX10_bears 5 = .ok (.invokevirtual 84, 3) := by decide +kernel
theorem dX10_bears_8 : decode cX10_bears 8 = .ok (.ifCond .ne 5, 3) := by decide +kernel
theorem dX10_bears_11 : decode cX10_bears 11 = .ok (.iconst (-1), 1) := by decide +kernel
theorem dX10_bears_12 : decode cX10_bears 12 = .ok (.ireturn, 1) := by decide +kernel
theorem dX10_bears_13 : decode cX10_bears 13 = .ok (.iload_n 2, 1) := by decide +kernel
theorem dX10_bears_14 : decode cX10_bears 14 = .ok (.iconst 0, 1) := by decide +kernel
theorem dX10_bears_15 : decode cX10_bears 15 = .ok (.bipush 99, 2) := by decide +kernel
theorem dX10_bears_17 : decode cX10_bears 17 = .ok (.invokestatic 88, 3) := by decide +kernel
theorem dX10_bears_20 : decode cX10_bears 20 = .ok (.ifCond .ne 6, 3) := by decide +kernel
theorem dX10_bears_23 : decode cX10_bears 23 = .ok (.bipush (-2), 2) := by decide +kernel
theorem dX10_bears_25 : decode cX10_bears 25 = .ok (.ireturn, 1) := by decide +kernel
theorem dX10_bears_26 : decode cX10_bears 26 = .ok (.aload_n 0, 1) := by decide +kernel
theorem dX10_bears_27 : decode cX10_bears 27 = .ok (.getfield 29, 3) := by decide +kernel
theorem dX10_bears_30 : decode cX10_bears 30 = .ok (.invokevirtual 95, 3) := by decide +kernel
theorem dX10_bears_33 : decode cX10_bears 33 = .ok (.ifCond .le 6, 3) := by decide +kernel
theorem dX10_bears_36 : decode cX10_bears 36 = .ok (.bipush (-3), 2) := by decide +kernel
theorem dX10_bears_38 : decode cX10_bears 38 = .ok (.ireturn, 1) := by decide +kernel
theorem dX10_bears_39 : decode cX10_bears 39 = .ok (.aload_n 0, 1) := by decide +kernel
theorem dX10_bears_40 : decode cX10_bears 40 = .ok (.getfield 18, 3) := by decide +kernel
theorem dX10_bears_43 : decode cX10_bears 43 = .ok (.getfield 106, 3) := by decide +kernel
theorem dX10_bears_46 : decode cX10_bears 46 = .ok (.iload_n 1, 1) := by decide +kernel
theorem dX10_bears_47 : decode cX10_bears 47 = .ok (.iaload, 1) := by decide +kernel
theorem dX10_bears_48 : decode cX10_bears 48 = .ok (.istore_n 3, 1) := by decide +kernel
theorem dX10_bears_49 : decode cX10_bears 49 = .ok (.aload_n 0, 1) := by decide +kernel
theorem dX10_bears_50 : decode cX10_bears 50 = .ok (.getfield 18, 3) := by decide +kernel
theorem dX10_bears_53 : decode cX10_bears 53 = .ok (.getfield 106, 3) := by decide +kernel
theorem dX10_bears_56 : decode cX10_bears 56 = .ok (.iload_n 1, 1) := by decide +kernel
theorem dX10_bears_57 : decode cX10_bears 57 = .ok (.iload_n 2, 1) := by decide +kernel
theorem dX10_bears_58 : decode cX10_bears 58 = .ok (.iastore, 1) := by decide +kernel
theorem dX10_bears_59 : decode cX10_bears 59 = .ok (.iload_n 3, 1) := by decide +kernel
theorem dX10_bears_60 : decode cX10_bears 60 = .ok (.ireturn, 1) := by decide +kernel
theorem dX10_aisle_0 : decode cX10_aisle 0 = .ok (.iload_n 1, 1) := by decide +kernel
theorem dX10_aisle_1 : decode cX10_aisle 1 = .ok (.iconst 0, 1) := by decide +kernel
theorem dX10_aisle_2 : decode cX10_aisle 2 = .ok (.iconst 3, 1) := by decide +kernel
theorem dX10_aisle_3 : decode cX10_aisle 3 = .ok (.invokestatic 88, 3) := by decide +kernel
theorem dX10_aisle_6 : decode cX10_aisle 6 = .ok (.ifCond .ne 6, 3) := by decide +kernel
theorem dX10_aisle_9 : decode cX10_aisle 9 = .ok (.bipush (-2), 2) := by decide +kernel
theorem dX10_aisle_11 : decode cX10_aisle 11 = .ok (.ireturn, 1) := by decide +kernel
theorem dX10_aisle_12 : decode cX10_aisle 12 = .ok (.aload_n 0, 1) := by decide +kernel
theorem dX10_aisle_13 : decode cX10_aisle 13 = .ok (.getfield 29, 3) := by decide +kernel
theorem dX10_aisle_16 : decode cX10_aisle 16 = .ok (.invokevirtual 95, 3) := by decide +kernel
theorem dX10_aisle_19 : decode cX10_aisle 19 = .ok (.ifCond .le 6, 3) := by decide +kernel
theorem dX10_aisle_22 : decode cX10_aisle 22 = .ok (.bipush (-3), 2) := by decide +kernel
theorem dX10_aisle_24 : decode cX10_aisle 24 = .ok (.ireturn, 1) := by decide +kernel
theorem dX10_aisle_25 : decode cX10_aisle 25 = .ok (.aload_n 0, 1) := by decide +kernel
theorem dX10_aisle_26 : decode cX10_aisle 26 = .ok (.getfield 29, 3) := by decide +kernel
theorem dX10_aisle_29 : decode cX10_aisle 29 = .ok (.getfield 110, 3) := by decide +kernel
theorem dX10_aisle_32 : decode cX10_aisle 32 = .ok (.istore_n 2, 1) := by decide +kernel
theorem dX10_aisle_33 : decode cX10_aisle 33 = .ok (.aload_n 0, 1) := by decide +kernel
theorem dX10_aisle_34 : decode cX10_aisle 34 = .ok (.getfield 29, 3) := by decide +kernel
theorem dX10_aisle_37 : decode cX10_aisle 37 = .ok (.iload_n 1, 1) := by decide +kernel
theorem dX10_aisle_38 : decode cX10_aisle 38 = .ok (.putfield 110, 3) := by decide +kernel
theorem dX10_aisle_41 : decode cX10_aisle 41 = .ok (.iload_n 2, 1) := by decide +kernel
theorem dX10_aisle_42 : decode cX10_aisle 42 = .ok (.ireturn, 1) := by decide +kernel
theorem dX10_stand_0 : decode cX10_stand 0 = .ok (.iload_n 1, 1) := by decide +kernel
theorem dX10_stand_1 : decode cX10_stand 1 = .ok (.iconst 0, 1) := by decide +kernel
theorem dX10_stand_2 : decode cX10_stand 2 = .ok (.iconst 4, 1) := by decide +kernel
theorem dX10_stand_3 : decode cX10_stand 3 = .ok (.invokestatic 88, 3) := by decide +kernel
theorem dX10_stand_6 : decode cX10_stand 6 = .ok (.ifCond .eq 48, 3) := by decide +kernel
theorem dX10_stand_9 : decode cX10_stand 9 = .ok (.iload_n 2, 1) := by decide +kernel
theorem dX10_stand_10 : decode cX10_stand 10 = .ok (.invokestatic 115, 3) := by decide +kernel
theorem dX10_stand_13 : decode cX10_stand 13 = .ok (.ifCond .eq 41, 3) := by decide +kernel
theorem dX10_stand_16 : decode cX10_stand 16 = .ok (.iload_n 3, 1) := by decide +kernel
theorem dX10_stand_17 : decode cX10_stand 17 = .ok (.invokestatic 118, 3) := by decide +kernel
theorem dX10_stand_20 : decode cX10_stand 20 = .ok (.ifCond .eq 34, 3) := by decide +kernel
theorem dX10_stand_23 : decode cX10_stand 23 = .ok (.iload 4, 2) := by decide +kernel
theorem dX10_stand_25 : decode cX10_stand 25 = .ok (.iconst 1, 1) := by decide +kernel
theorem dX10_stand_26 : decode cX10_stand 26 = .ok (.iconst 4, 1) := by decide +kernel
theorem dX10_stand_27 : decode cX10_stand 27 = .ok (.invokestatic 88, 3) := by decide +kernel
theorem dX10_stand_30 : decode cX10_stand 30 = .ok (.ifCond .eq 24, 3) := by decide +kernel
theorem dX10_stand_33 : decode cX10_stand 33 = .ok (.iload 5, 2) := by decide +kernel
theorem dX10_stand_35 : decode cX10_stand 35 = .ok (.iconst 1, 1) := by decide +kernel
theorem dX10_stand_36 : decode cX10_stand 36 = .ok (.iconst 4, 1) := by decide +kernel
theorem dX10_stand_37 : decode cX10_stand 37 = .ok (.invokestatic 88, 3) := by decide +kernel
theorem dX10_stand_40 : decode cX10_stand 40 = .ok (.ifCond .eq 14, 3) := by decide +kernel
theorem dX10_stand_43 : decode cX10_stand 43 = .ok (.iload 6, 2) := by decide +kernel
theorem dX10_stand_45 : decode cX10_stand 45 = .ok (.iconst 0, 1) := by decide +kernel
theorem dX10_stand_46 : decode cX10_stand 46 = .ok (.bipush 99, 2) := by decide +kernel
theorem dX10_stand_48 : decode cX10_stand 48 = .ok (.invokestatic 88, 3) := by decide +kernel
theorem dX10_stand_51 : decode cX10_stand 51 = .ok (.ifCond .ne 6, 3) := by decide +kernel
theorem dX10_stand_54 : decode cX10_stand 54 = .ok (.bipush (-2), 2) := by decide +kernel
theorem dX10_stand_56 : decode cX10_stand 56 = .ok (.ireturn, 1) := by decide +kernel
theorem dX10_stand_57 : decode cX10_stand 57 = .ok (.aload_n 0, 1) := by decide +kernel
theorem dX10_stand_58 : decode cX10_stand 58 = .ok (.getfield 29, 3) := by decide +kernel
theorem dX10_stand_61 : decode cX10_stand 61 = .ok (.getfield 121, 3) := by decide +kernel
theorem dX10_stand_64 : decode cX10_stand 64 = .ok (.bipush 9, 2) := by decide +kernel
theorem dX10_stand_66 : decode cX10_stand 66 = .ok (.if_icmp .lt 6, 3) := by decide +kernel
theorem dX10_stand_69 : decode cX10_stand 69 = .ok (.bipush (-4), 2) := by decide +kernel
theorem dX10_stand_71 : decode cX10_stand 71 = .ok (.ireturn, 1) := by decide +kernel
theorem dX10_stand_72 : decode cX10_stand 72 = .ok (.aload_n 0, 1) := by decide +kernel
theorem dX10_stand_73 : decode cX10_stand 73 = .ok (.getfield 29, 3) := by decide +kernel
theorem dX10_stand_76 : decode cX10_stand 76 = .ok (.new 113, 3) := by decide +kernel
theorem dX10_stand_79 : decode cX10_stand 79 = .ok (.dup, 1) := by decide +kernel
theorem dX10_stand_80 : decode cX10_stand 80 = .ok (.iload_n 1, 1) := by decide +kernel
theorem dX10_stand_81 : decode cX10_stand 81 = .ok (.iload_n 2, 1) := by decide +kernel
theorem dX10_stand_82 : decode cX10_stand 82 = .ok (.iload_n 3, 1) := by decide +kernel
theorem dX10_stand_83 : decode cX10_stand 83 = .ok (.iload 4, 2) := by decide +kernel
theorem dX10_stand_85 : decode cX10_stand 85 = .ok (.iload 5, 2) := by decide +kernel
theorem dX10_stand_87 : decode cX10_stand 87 = .ok (.iload 6, 2) := by decide +kernel
theorem dX10_stand_89 : decode cX10_stand 89 = .ok (.invokespecial 124, 3) := by decide +kernel
theorem dX10_stand_92 : decode cX10_stand 92 = .ok (.invokevirtual 127, 3) := by decide +kernel
theorem dX10_stand_95 : decode cX10_stand 95 = .ok (.ireturn, 1) := by decide +kernel
theorem dX10_hinders_0 : decode cX10_hinders 0 = .ok (.aload_n 0, 1) := by decide +kernel
theorem dX10_hinders_1 : decode cX10_hinders 1 = .ok (.getfield 29, 3) := by decide +kernel
theorem dX10_hinders_4 : decode cX10_hinders 4 = .ok (.iload_n 1, 1) := by decide +kernel
theorem dX10_hinders_5 : decode cX10_hinders 5 = .ok (.invokevirtual 131, 3) := by decide +kernel
theorem dX10_hinders_8 : decode cX10_hinders 8 = .ok (.astore_n 3, 1) := by decide +kernel
theorem dX10_hinders_9 : decode cX10_hinders 9 = .ok (.aload_n 3, 1) := by decide +kernel
theorem dX10_hinders_10 : decode cX10_hinders 10 = .ok (.ifnull 14, 3) := by decide +kernel
theorem dX10_hinders_13 : decode cX10_hinders 13 = .ok (.aload_n 0, 1) := by decide +kernel
theorem dX10_hinders_14 : decode cX10_hinders 14 = .ok (.getfield 18, 3) := by decide +kernel
theorem dX10_hinders_17 : decode cX10_hinders 17 = .ok (.iload_n 2, 1) := by decide +kernel
theorem dX10_hinders_18 : decode cX10_hinders 18 = .ok (.invokevirtual 84, 3) := by decide +kernel
theorem dX10_hinders_21 : decode cX10_hinders 21 = .ok (.ifCond .ne 5, 3) := by decide +kernel
theorem dX10_hinders_24 : decode cX10_hinders 24 = .ok (.iconst (-1), 1) := by decide +kernel
theorem dX10_hinders_25 : decode cX10_hinders 25 = .ok (.ireturn, 1) := by decide +kernel
theorem dX10_hinders_26 : decode cX10_hinders 26 = .ok (.aload_n 0, 1) := by decide +kernel
theorem dX10_hinders_27 : decode cX10_hinders 27 = .ok (.getfield 29, 3) := by decide +kernel
theorem dX10_hinders_30 : decode cX10_hinders 30 = .ok (.aload_n 3, 1) := by decide +kernel
theorem dX10_hinders_31 : decode cX10_hinders 31 = .ok (.iload_n 2, 1) := by decide +kernel
theorem dX10_hinders_32 : decode cX10_hinders 32 = .ok (.invokevirtual 135, 3) := by decide +kernel
theorem dX10_hinders_35 : decode cX10_hinders 35 = .ok (.ireturn, 1) := by decide +kernel
theorem dX10_lay_0 : decode cX10_lay 0 = .ok (.aload_n 0, 1) := by decide +kernel
theorem dX10_lay_1 : decode cX10_lay 1 = .ok (.getfield 29, 3) := by decide +kernel
theorem dX10_lay_4 : decode cX10_lay 4 = .ok (.iload_n 1, 1) := by decide +kernel
theorem dX10_lay_5 : decode cX10_lay 5 = .ok (.invokevirtual 131, 3) := by decide +kernel
theorem dX10_lay_8 : decode cX10_lay 8 = .ok (.astore_n 3, 1) := by decide +kernel
theorem dX10_lay_9 : decode cX10_lay 9 = .ok (.aload_n 3, 1) := by decide +kernel
theorem dX10_lay_10 : decode cX10_lay 10 = .ok (.ifnull 14, 3) := by decide +kernel
theorem dX10_lay_13 : decode cX10_lay 13 = .ok (.aload_n 0, 1) := by decide +kernel
theorem dX10_lay_14 : decode cX10_lay 14 = .ok (.getfield 18, 3) := by decide +kernel
theorem dX10_lay_17 : decode cX10_lay 17 = .ok (.iload_n 2, 1) := by decide +kernel
theorem dX10_lay_18 : decode cX10_lay 18 = .ok (.invokevirtual 84, 3) := by decide +kernel
theorem dX10_lay_21 : decode cX10_lay 21 = .ok (.ifCond .ne 5, 3) := by decide +kernel
theorem dX10_lay_24 : decode cX10_lay 24 = .ok (.iconst (-1), 1) := by decide +kernel
theorem dX10_lay_25 : decode cX10_lay 25 = .ok (.ireturn, 1) := by decide +kernel
theorem dX10_lay_26 : decode cX10_lay 26 = .ok (.aload_n 3, 1) := by decide +kernel
theorem dX10_lay_27 : decode cX10_lay 27 = .ok (.getfield 139, 3) := by decide +kernel
theorem dX10_lay_30 : decode cX10_lay 30 = .ok (.ifCond .eq 6, 3) := by decide +kernel
theorem dX10_lay_33 : decode cX10_lay 33 = .ok (.bipush (-3), 2) := by decide +kernel
theorem dX10_lay_35 : decode cX10_lay 35 = .ok (.ireturn, 1) := by decide +kernel
theorem dX10_lay_36 : decode cX10_lay 36 = .ok (.aload_n 0, 1) := by decide +kernel
theorem dX10_lay_37 : decode cX10_lay 37 = .ok (.getfield 29, 3) := by decide +kernel
theorem dX10_lay_40 : decode cX10_lay 40 = .ok (.aload_n 3, 1) := by decide +kernel
theorem dX10_lay_41 : decode cX10_lay 41 = .ok (.iload_n 2, 1) := by decide +kernel
theorem dX10_lay_42 : decode cX10_lay 42 = .ok (.invokevirtual 135, 3) := by decide +kernel
theorem dX10_lay_45 : decode cX10_lay 45 = .ok (.istore 4, 2) := by decide +kernel
theorem dX10_lay_47 : decode cX10_lay 47 = .ok (.iload 4, 2) := by decide +kernel
theorem dX10_lay_49 : decode cX10_lay 49 = .ok (.ifCond .ne 12, 3) := by decide +kernel
theorem dX10_lay_52 : decode cX10_lay 52 = .ok (.aload_n 0, 1) := by decide +kernel
theorem dX10_lay_53 : decode cX10_lay 53 = .ok (.getfield 29, 3) := by decide +kernel
theorem dX10_lay_56 : decode cX10_lay 56 = .ok (.aload_n 3, 1) := by decide +kernel
theorem dX10_lay_57 : decode cX10_lay 57 = .ok (.iload_n 2, 1) := by decide +kernel
theorem dX10_lay_58 : decode cX10_lay 58 = .ok (.invokevirtual 143, 3) := by decide +kernel
theorem dX10_lay_61 : decode cX10_lay 61 = .ok (.iload 4, 2) := by decide +kernel
theorem dX10_lay_63 : decode cX10_lay 63 = .ok (.ireturn, 1) := by decide +kernel
theorem dX10_take_0 : decode cX10_take 0 = .ok (.aload_n 0, 1) := by decide +kernel
theorem dX10_take_1 : decode cX10_take 1 = .ok (.getfield 29, 3) := by decide +kernel
theorem dX10_take_4 : decode cX10_take 4 = .ok (.iload_n 1, 1) := by decide +kernel
theorem dX10_take_5 : decode cX10_take 5 = .ok (.invokevirtual 131, 3) := by decide +kernel
theorem dX10_take_8 : decode cX10_take 8 = .ok (.astore_n 2, 1) := by decide +kernel
