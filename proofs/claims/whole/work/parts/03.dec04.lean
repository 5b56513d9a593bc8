theorem dX10_take_9 : decode cX10_take 9 = .ok (.aload_n 2, 1) := by decide +kernel
theorem dX10_take_10 : decode cX10_take 10 = .ok (.ifnull 10, 3) := by decide +kernel
theorem dX10_take_13 : decode cX10_take 13 = .ok (.aload_n 2, 1) := by decide +kernel
theorem dX10_take_14 : decode cX10_take 14 = .ok (.invokevirtual 147, 3) := by decide +kernel
theorem dX10_take_17 : decode cX10_take 17 = .ok (.ifCond .ne 5, 3) := by decide +kernel
theorem dX10_take_20 : decode cX10_take 20 = .ok (.iconst (-1), 1) := by decide +kernel
theorem dX10_take_21 : decode cX10_take 21 = .ok (.ireturn, 1) := by decide +kernel
theorem dX10_take_22 : decode cX10_take 22 = .ok (.aload_n 2, 1) := by decide +kernel
theorem dX10_take_23 : decode cX10_take 23 = .ok (.getfield 139, 3) := by decide +kernel
theorem dX10_take_26 : decode cX10_take 26 = .ok (.ifCond .eq 6, 3) := by decide +kernel
theorem dX10_take_29 : decode cX10_take 29 = .ok (.bipush (-3), 2) := by decide +kernel
theorem dX10_take_31 : decode cX10_take 31 = .ok (.ireturn, 1) := by decide +kernel
theorem dX10_take_32 : decode cX10_take 32 = .ok (.aload_n 2, 1) := by decide +kernel
theorem dX10_take_33 : decode cX10_take 33 = .ok (.getfield 151, 3) := by decide +kernel
theorem dX10_take_36 : decode cX10_take 36 = .ok (.istore_n 3, 1) := by decide +kernel
theorem dX10_take_37 : decode cX10_take 37 = .ok (.aload_n 2, 1) := by decide +kernel
theorem dX10_take_38 : decode cX10_take 38 = .ok (.invokevirtual 154, 3) := by decide +kernel
theorem dX10_take_41 : decode cX10_take 41 = .ok (.iload_n 3, 1) := by decide +kernel
theorem dX10_take_42 : decode cX10_take 42 = .ok (.ireturn, 1) := by decide +kernel
theorem dX10_about_0 : decode cX10_about 0 = .ok (.aload_n 0, 1) := by decide +kernel
theorem dX10_about_1 : decode cX10_about 1 = .ok (.getfield 29, 3) := by decide +kernel
theorem dX10_about_4 : decode cX10_about 4 = .ok (.iload_n 1, 1) := by decide +kernel
theorem dX10_about_5 : decode cX10_about 5 = .ok (.invokevirtual 131, 3) := by decide +kernel
theorem dX10_about_8 : decode cX10_about 8 = .ok (.astore_n 3, 1) := by decide +kernel
theorem dX10_about_9 : decode cX10_about 9 = .ok (.aload_n 3, 1) := by decide +kernel
theorem dX10_about_10 : decode cX10_about 10 = .ok (.ifnonnull 5, 3) := by decide +kernel
theorem dX10_about_13 : decode cX10_about 13 = .ok (.iconst (-1), 1) := by decide +kernel
theorem dX10_about_14 : decode cX10_about 14 = .ok (.ireturn, 1) := by decide +kernel
theorem dX10_about_15 : decode cX10_about 15 = .ok (.iload_n 2, 1) := by decide +kernel
theorem dX10_about_16 : decode cX10_about 16 = .ok (.tableswitch 91 0 6 #[44, 49, 54, 59, 64, 77, 82], 44) := by decide +kernel
theorem dX10_about_60 : decode cX10_about 60 = .ok (.aload_n 3, 1) := by decide +kernel
theorem dX10_about_61 : decode cX10_about 61 = .ok (.getfield 157, 3) := by decide +kernel
theorem dX10_about_64 : decode cX10_about 64 = .ok (.ireturn, 1) := by decide +kernel
theorem dX10_about_65 : decode cX10_about 65 = .ok (.aload_n 3, 1) := by decide +kernel
theorem dX10_about_66 : decode cX10_about 66 = .ok (.getfield 160, 3) := by decide +kernel
theorem dX10_about_69 : decode cX10_about 69 = .ok (.ireturn, 1) := by decide +kernel
theorem dX10_about_70 : decode cX10_about 70 = .ok (.aload_n 3, 1) := by decide +kernel
theorem dX10_about_71 : decode cX10_about 71 = .ok (.getfield 163, 3) := by decide +kernel
theorem dX10_about_74 : decode cX10_about 74 = .ok (.ireturn, 1) := by decide +kernel
theorem dX10_about_75 : decode cX10_about 75 = .ok (.aload_n 3, 1) := by decide +kernel
theorem dX10_about_76 : decode cX10_about 76 = .ok (.getfield 151, 3) := by decide +kernel
theorem dX10_about_79 : decode cX10_about 79 = .ok (.ireturn, 1) := by decide +kernel
theorem dX10_about_80 : decode cX10_about 80 = .ok (.aload_n 3, 1) := by decide +kernel
theorem dX10_about_81 : decode cX10_about 81 = .ok (.getfield 139, 3) := by decide +kernel
theorem dX10_about_84 : decode cX10_about 84 = .ok (.ifCond .eq 7, 3) := by decide +kernel
theorem dX10_about_87 : decode cX10_about 87 = .ok (.iconst 1, 1) := by decide +kernel
theorem dX10_about_88 : decode cX10_about 88 = .ok (.goto 4, 3) := by decide +kernel
theorem dX10_about_91 : decode cX10_about 91 = .ok (.iconst 0, 1) := by decide +kernel
theorem dX10_about_92 : decode cX10_about 92 = .ok (.ireturn, 1) := by decide +kernel
theorem dX10_about_93 : decode cX10_about 93 = .ok (.aload_n 3, 1) := by decide +kernel
theorem dX10_about_94 : decode cX10_about 94 = .ok (.getfield 166, 3) := by decide +kernel
theorem dX10_about_97 : decode cX10_about 97 = .ok (.ireturn, 1) := by decide +kernel
theorem dX10_about_98 : decode cX10_about 98 = .ok (.aload_n 0, 1) := by decide +kernel
theorem dX10_about_99 : decode cX10_about 99 = .ok (.getfield 62, 3) := by decide +kernel
theorem dX10_about_102 : decode cX10_about 102 = .ok (.iload_n 1, 1) := by decide +kernel
theorem dX10_about_103 : decode cX10_about 103 = .ok (.invokevirtual 169, 3) := by decide +kernel
theorem dX10_about_106 : decode cX10_about 106 = .ok (.ireturn, 1) := by decide +kernel
theorem dX10_about_107 : decode cX10_about 107 = .ok (.iconst (-1), 1) := by decide +kernel
theorem dX10_about_108 : decode cX10_about 108 = .ok (.ireturn, 1) := by decide +kernel
theorem dX10_at_0 : decode cX10_at 0 = .ok (.aload_n 0, 1) := by decide +kernel
theorem dX10_at_1 : decode cX10_at 1 = .ok (.getfield 18, 3) := by decide +kernel
theorem dX10_at_4 : decode cX10_at 4 = .ok (.iload_n 1, 1) := by decide +kernel
theorem dX10_at_5 : decode cX10_at 5 = .ok (.invokevirtual 84, 3) := by decide +kernel
theorem dX10_at_8 : decode cX10_at 8 = .ok (.ifCond .eq 14, 3) := by decide +kernel
theorem dX10_at_11 : decode cX10_at 11 = .ok (.aload_n 0, 1) := by decide +kernel
theorem dX10_at_12 : decode cX10_at 12 = .ok (.getfield 29, 3) := by decide +kernel
theorem dX10_at_15 : decode cX10_at 15 = .ok (.iload_n 1, 1) := by decide +kernel
theorem dX10_at_16 : decode cX10_at 16 = .ok (.invokevirtual 172, 3) := by decide +kernel
theorem dX10_at_19 : decode cX10_at 19 = .ok (.goto 4, 3) := by decide +kernel
theorem dX10_at_22 : decode cX10_at 22 = .ok (.iconst (-1), 1) := by decide +kernel
theorem dX10_at_23 : decode cX10_at 23 = .ok (.ireturn, 1) := by decide +kernel
theorem dX10_price_0 : decode cX10_price 0 = .ok (.aload_n 0, 1) := by decide +kernel
theorem dX10_price_1 : decode cX10_price 1 = .ok (.getfield 29, 3) := by decide +kernel
theorem dX10_price_4 : decode cX10_price 4 = .ok (.invokevirtual 175, 3) := by decide +kernel
theorem dX10_price_7 : decode cX10_price 7 = .ok (.ireturn, 1) := by decide +kernel
theorem dX10_better_0 : decode cX10_better 0 = .ok (.aload_n 0, 1) := by decide +kernel
theorem dX10_better_1 : decode cX10_better 1 = .ok (.getfield 29, 3) := by decide +kernel
theorem dX10_better_4 : decode cX10_better 4 = .ok (.invokevirtual 178, 3) := by decide +kernel
theorem dX10_better_7 : decode cX10_better 7 = .ok (.ifCond .le 6, 3) := by decide +kernel
theorem dX10_better_10 : decode cX10_better 10 = .ok (.bipush (-3), 2) := by decide +kernel
theorem dX10_better_12 : decode cX10_better 12 = .ok (.ireturn, 1) := by decide +kernel
theorem dX10_better_13 : decode cX10_better 13 = .ok (.iconst 0, 1) := by decide +kernel
theorem dX10_better_14 : decode cX10_better 14 = .ok (.istore_n 1, 1) := by decide +kernel
theorem dX10_better_15 : decode cX10_better 15 = .ok (.iload_n 1, 1) := by decide +kernel
theorem dX10_better_16 : decode cX10_better 16 = .ok (.bipush 50, 2) := by decide +kernel
theorem dX10_better_18 : decode cX10_better 18 = .ok (.if_icmp .ge 19, 3) := by decide +kernel
theorem dX10_better_21 : decode cX10_better 21 = .ok (.aload_n 0, 1) := by decide +kernel
theorem dX10_better_22 : decode cX10_better 22 = .ok (.getfield 29, 3) := by decide +kernel
theorem dX10_better_25 : decode cX10_better 25 = .ok (.invokevirtual 181, 3) := by decide +kernel
theorem dX10_better_28 : decode cX10_better 28 = .ok (.ifCond .eq 9, 3) := by decide +kernel
theorem dX10_better_31 : decode cX10_better 31 = .ok (.iinc 1 1, 3) := by decide +kernel
theorem dX10_better_34 : decode cX10_better 34 = .ok (.goto (-19), 3) := by decide +kernel
theorem dX10_better_37 : decode cX10_better 37 = .ok (.iload_n 1, 1) := by decide +kernel
theorem dX10_better_38 : decode cX10_better 38 = .ok (.ireturn, 1) := by decide +kernel
theorem dX10_can_0 : decode cX10_can 0 = .ok (.aload_n 0, 1) := by decide +kernel
theorem dX10_can_1 : decode cX10_can 1 = .ok (.getfield 29, 3) := by decide +kernel
theorem dX10_can_4 : decode cX10_can 4 = .ok (.iload_n 1, 1) := by decide +kernel
theorem dX10_can_5 : decode cX10_can 5 = .ok (.invokevirtual 131, 3) := by decide +kernel
theorem dX10_can_8 : decode cX10_can 8 = .ok (.astore_n 2, 1) := by decide +kernel
theorem dX10_can_9 : decode cX10_can 9 = .ok (.aload_n 2, 1) := by decide +kernel
theorem dX10_can_10 : decode cX10_can 10 = .ok (.ifnull 10, 3) := by decide +kernel
theorem dX10_can_13 : decode cX10_can 13 = .ok (.aload_n 2, 1) := by decide +kernel
theorem dX10_can_14 : decode cX10_can 14 = .ok (.invokevirtual 147, 3) := by decide +kernel
theorem dX10_can_17 : decode cX10_can 17 = .ok (.ifCond .ne 5, 3) := by decide +kernel
theorem dX10_can_20 : decode cX10_can 20 = .ok (.iconst (-1), 1) := by decide +kernel
theorem dX10_can_21 : decode cX10_can 21 = .ok (.ireturn, 1) := by decide +kernel
theorem dX10_can_22 : decode cX10_can 22 = .ok (.aload_n 0, 1) := by decide +kernel
theorem dX10_can_23 : decode cX10_can 23 = .ok (.getfield 38, 3) := by decide +kernel
theorem dX10_can_26 : decode cX10_can 26 = .ok (.aload_n 2, 1) := by decide +kernel
theorem dX10_can_27 : decode cX10_can 27 = .ok (.invokevirtual 184, 3) := by decide +kernel
theorem dX10_can_30 : decode cX10_can 30 = .ok (.ifCond .eq 7, 3) := by decide +kernel
theorem dX10_can_33 : decode cX10_can 33 = .ok (.iconst 1, 1) := by decide +kernel
theorem dX10_can_34 : decode cX10_can 34 = .ok (.goto 4, 3) := by decide +kernel
theorem dX10_can_37 : decode cX10_can 37 = .ok (.iconst 0, 1) := by decide +kernel
theorem dX10_can_38 : decode cX10_can 38 = .ok (.ireturn, 1) := by decide +kernel
theorem dX10_bring_0 : decode cX10_bring 0 = .ok (.aload_n 0, 1) := by decide +kernel
theorem dX10_bring_1 : decode cX10_bring 1 = .ok (.getfield 29, 3) := by decide +kernel
theorem dX10_bring_4 : decode cX10_bring 4 = .ok (.iload_n 1, 1) := by decide +kernel
theorem dX10_bring_5 : decode cX10_bring 5 = .ok (.invokevirtual 131, 3) := by decide +kernel
theorem dX10_bring_8 : decode cX10_bring 8 = .ok (.astore_n 2, 1) := by decide +kernel
theorem dX10_bring_9 : decode cX10_bring 9 = .ok (.aload_n 2, 1) := by decide +kernel
theorem dX10_bring_10 : decode cX10_bring 10 = .ok (.ifnull 10, 3) := by decide +kernel
theorem dX10_bring_13 : decode cX10_bring 13 = .ok (.aload_n 2, 1) := by decide +kernel
theorem dX10_bring_14 : decode cX10_bring 14 = .ok (.invokevirtual 147, 3) := by decide +kernel
theorem dX10_bring_17 : decode cX10_bring 17 = .ok (.ifCond .ne 5, 3) := by decide +kernel
theorem dX10_bring_20 : decode cX10_bring 20 = .ok (.iconst (-1), 1) := by decide +kernel
theorem dX10_bring_21 : decode cX10_bring 21 = .ok (.ireturn, 1) := by decide +kernel
theorem dX10_bring_22 : decode cX10_bring 22 = .ok (.aload_n 2, 1) := by decide +kernel
theorem dX10_bring_23 : decode cX10_bring 23 = .ok (.getfield 139, 3) := by decide +kernel
theorem dX10_bring_26 : decode cX10_bring 26 = .ok (.ifCond .eq 6, 3) := by decide +kernel
theorem dX10_bring_29 : decode cX10_bring 29 = .ok (.bipush (-3), 2) := by decide +kernel
theorem dX10_bring_31 : decode cX10_bring 31 = .ok (.ireturn, 1) := by decide +kernel
theorem dX10_bring_32 : decode cX10_bring 32 = .ok (.aload_n 2, 1) := by decide +kernel
theorem dX10_bring_33 : decode cX10_bring 33 = .ok (.aload_n 0, 1) := by decide +kernel
theorem dX10_bring_34 : decode cX10_bring 34 = .ok (.getfield 38, 3) := by decide +kernel
theorem dX10_bring_37 : decode cX10_bring 37 = .ok (.aload_n 2, 1) := by decide +kernel
theorem dX10_bring_38 : decode cX10_bring 38 = .ok (.invokevirtual 184, 3) := by decide +kernel
theorem dX10_bring_41 : decode cX10_bring 41 = .ok (.putfield 139, 3) := by decide +kernel
theorem dX10_bring_44 : decode cX10_bring 44 = .ok (.aload_n 2, 1) := by decide +kernel
theorem dX10_bring_45 : decode cX10_bring 45 = .ok (.getfield 139, 3) := by decide +kernel
theorem dX10_bring_48 : decode cX10_bring 48 = .ok (.ifCond .eq 7, 3) := by decide +kernel
theorem dX10_bring_51 : decode cX10_bring 51 = .ok (.iconst 1, 1) := by decide +kernel
theorem dX10_bring_52 : decode cX10_bring 52 = .ok (.goto 4, 3) := by decide +kernel
theorem dX10_bring_55 : decode cX10_bring 55 = .ok (.iconst 0, 1) := by decide +kernel
theorem dX10_bring_56 : decode cX10_bring 56 = .ok (.ireturn, 1) := by decide +kernel
theorem dX10_clear_0 : decode cX10_clear 0 = .ok (.aload_n 0, 1) := by decide +kernel
theorem dX10_clear_1 : decode cX10_clear 1 = .ok (.getfield 29, 3) := by decide +kernel
theorem dX10_clear_4 : decode cX10_clear 4 = .ok (.invokevirtual 188, 3) := by decide +kernel
theorem dX10_clear_7 : decode cX10_clear 7 = .ok (.ireturn, 1) := by decide +kernel
theorem dX10_row_0 : decode cX10_row 0 = .ok (.aload_n 0, 1) := by decide +kernel
theorem dX10_row_1 : decode cX10_row 1 = .ok (.getfield 38, 3) := by decide +kernel
theorem dX10_row_4 : decode cX10_row 4 = .ok (.iload_n 1, 1) := by decide +kernel
theorem dX10_row_5 : decode cX10_row 5 = .ok (.invokevirtual 191, 3) := by decide +kernel
theorem dX10_row_8 : decode cX10_row 8 = .ok (.ireturn, 1) := by decide +kernel
theorem dX10_feed_0 : decode cX10_feed 0 = .ok (.iload_n 3, 1) := by decide +kernel
theorem dX10_feed_1 : decode cX10_feed 1 = .ok (.iconst 1, 1) := by decide +kernel
theorem dX10_feed_2 : decode cX10_feed 2 = .ok (.bipush 8, 2) := by decide +kernel
theorem dX10_feed_4 : decode cX10_feed 4 = .ok (.invokestatic 88, 3) := by decide +kernel
theorem dX10_feed_7 : decode cX10_feed 7 = .ok (.ifCond .ne 6, 3) := by decide +kernel
theorem dX10_feed_10 : decode cX10_feed 10 = .ok (.bipush (-2), 2) := by decide +kernel
theorem dX10_feed_12 : decode cX10_feed 12 = .ok (.ireturn, 1) := by decide +kernel
theorem dX10_feed_13 : decode cX10_feed 13 = .ok (.aload_n 0, 1) := by decide +kernel
theorem dX10_feed_14 : decode cX10_feed 14 = .ok (.getfield 45, 3) := by decide +kernel
theorem dX10_feed_17 : decode cX10_feed 17 = .ok (.iload_n 3, 1) := by decide +kernel
theorem dX10_feed_18 : decode cX10_feed 18 = .ok (.invokevirtual 194, 3) := by decide +kernel
theorem dX10_feed_21 : decode cX10_feed 21 = .ok (.ifCond .ne 6, 3) := by decide +kernel
theorem dX10_feed_24 : decode cX10_feed 24 = .ok (.bipush (-4), 2) := by decide +kernel
theorem dX10_feed_26 : decode cX10_feed 26 = .ok (.ireturn, 1) := by decide +kernel
theorem dX10_feed_27 : decode cX10_feed 27 = .ok (.aload_n 0, 1) := by decide +kernel
theorem dX10_feed_28 : decode cX10_feed 28 = .ok (.getfield 45, 3) := by decide +kernel
theorem dX10_feed_31 : decode cX10_feed 31 = .ok (.lload_n 1, 1) := by decide +kernel
theorem dX10_feed_32 : decode cX10_feed 32 = .ok (.iload_n 3, 1) := by decide +kernel
theorem dX10_feed_33 : decode cX10_feed 33 = .ok (.invokevirtual 197, 3) := by decide +kernel
theorem dX10_feed_36 : decode cX10_feed 36 = .ok (.aload_n 0, 1) := by decide +kernel
theorem dX10_feed_37 : decode cX10_feed 37 = .ok (.getfield 45, 3) := by decide +kernel
theorem dX10_feed_40 : decode cX10_feed 40 = .ok (.getfield 200, 3) := by decide +kernel
theorem dX10_feed_43 : decode cX10_feed 43 = .ok (.ireturn, 1) := by decide +kernel
theorem dX10_text_0 : decode cX10_text 0 = .ok (.iload_n 1, 1) := by decide +kernel
theorem dX10_text_1 : decode cX10_text 1 = .ok (.iconst 0, 1) := by decide +kernel
theorem dX10_text_2 : decode cX10_text 2 = .ok (.iconst 1, 1) := by decide +kernel
theorem dX10_text_3 : decode cX10_text 3 = .ok (.invokestatic 88, 3) := by decide +kernel
theorem dX10_text_6 : decode cX10_text 6 = .ok (.ifCond .eq 10, 3) := by decide +kernel
theorem dX10_text_9 : decode cX10_text 9 = .ok (.iload_n 2, 1) := by decide +kernel
theorem dX10_text_10 : decode cX10_text 10 = .ok (.invokestatic 203, 3) := by decide +kernel
theorem dX10_text_13 : decode cX10_text 13 = .ok (.ifCond .ne 6, 3) := by decide +kernel
theorem dX10_text_16 : decode cX10_text 16 = .ok (.bipush (-2), 2) := by decide +kernel
theorem dX10_text_18 : decode cX10_text 18 = .ok (.ireturn, 1) := by decide +kernel
theorem dX10_text_19 : decode cX10_text 19 = .ok (.iload_n 1, 1) := by decide +kernel
theorem dX10_text_20 : decode cX10_text 20 = .ok (.ifCond .ne 10, 3) := by decide +kernel
theorem dX10_text_23 : decode cX10_text 23 = .ok (.aload_n 0, 1) := by decide +kernel
theorem dX10_text_24 : decode cX10_text 24 = .ok (.getfield 52, 3) := by decide +kernel
theorem dX10_text_27 : decode cX10_text 27 = .ok (.goto 7, 3) := by decide +kernel
theorem dX10_text_30 : decode cX10_text 30 = .ok (.aload_n 0, 1) := by decide +kernel
theorem dX10_text_31 : decode cX10_text 31 = .ok (.getfield 56, 3) := by decide +kernel
theorem dX10_text_34 : decode cX10_text 34 = .ok (.astore_n 3, 1) := by decide +kernel
theorem dX10_text_35 : decode cX10_text 35 = .ok (.aload_n 3, 1) := by decide +kernel
theorem dX10_text_36 : decode cX10_text 36 = .ok (.invokevirtual 206, 3) := by decide +kernel
theorem dX10_text_39 : decode cX10_text 39 = .ok (.astore 4, 2) := by decide +kernel
theorem dX10_text_41 : decode cX10_text 41 = .ok (.aload 4, 2) := by decide +kernel
theorem dX10_text_43 : decode cX10_text 43 = .ok (.ifnonnull 6, 3) := by decide +kernel
theorem dX10_text_46 : decode cX10_text 46 = .ok (.bipush (-4), 2) := by decide +kernel
theorem dX10_text_48 : decode cX10_text 48 = .ok (.ireturn, 1) := by decide +kernel
theorem dX10_text_49 : decode cX10_text 49 = .ok (.aload 4, 2) := by decide +kernel
theorem dX10_text_51 : decode cX10_text 51 = .ok (.iload_n 2, 1) := by decide +kernel
theorem dX10_text_52 : decode cX10_text 52 = .ok (.invokevirtual 210, 3) := by decide +kernel
theorem dX10_text_55 : decode cX10_text 55 = .ok (.iload_n 1, 1) := by decide +kernel
theorem dX10_text_56 : decode cX10_text 56 = .ok (.ifCond .ne 15, 3) := by decide +kernel
theorem dX10_text_59 : decode cX10_text 59 = .ok (.aload_n 0, 1) := by decide +kernel
theorem dX10_text_60 : decode cX10_text 60 = .ok (.getfield 45, 3) := by decide +kernel
theorem dX10_text_63 : decode cX10_text 63 = .ok (.aload 4, 2) := by decide +kernel
theorem dX10_text_65 : decode cX10_text 65 = .ok (.invokevirtual 216, 3) := by decide +kernel
theorem dX10_text_68 : decode cX10_text 68 = .ok (.goto 12, 3) := by decide +kernel
theorem dX10_text_71 : decode cX10_text 71 = .ok (.aload_n 0, 1) := by decide +kernel
theorem dX10_text_72 : decode cX10_text 72 = .ok (.getfield 45, 3) := by decide +kernel
theorem dX10_text_75 : decode cX10_text 75 = .ok (.aload 4, 2) := by decide +kernel
theorem dX10_text_77 : decode cX10_text 77 = .ok (.invokevirtual 220, 3) := by decide +kernel
theorem dX10_text_80 : decode cX10_text 80 = .ok (.istore 5, 2) := by decide +kernel
theorem dX10_text_82 : decode cX10_text 82 = .ok (.aload_n 0, 1) := by decide +kernel
theorem dX10_text_83 : decode cX10_text 83 = .ok (.getfield 45, 3) := by decide +kernel
theorem dX10_text_86 : decode cX10_text 86 = .ok (.getfield 223, 3) := by decide +kernel
theorem dX10_text_89 : decode cX10_text 89 = .ok (.istore 6, 2) := by decide +kernel
theorem dX10_text_91 : decode cX10_text 91 = .ok (.aload_n 0, 1) := by decide +kernel
theorem dX10_text_92 : decode cX10_text 92 = .ok (.getfield 45, 3) := by decide +kernel
theorem dX10_text_95 : decode cX10_text 95 = .ok (.invokevirtual 226, 3) := by decide +kernel
theorem dX10_text_98 : decode cX10_text 98 = .ok (.iload 5, 2) := by decide +kernel
theorem dX10_text_100 : decode cX10_text 100 = .ok (.ifCond .eq 10, 3) := by decide +kernel
theorem dX10_text_103 : decode cX10_text 103 = .ok (.aload_n 3, 1) := by decide +kernel
theorem dX10_text_104 : decode cX10_text 104 = .ok (.invokevirtual 229, 3) := by decide +kernel
theorem dX10_text_107 : decode cX10_text 107 = .ok (.goto 8, 3) := by decide +kernel
theorem dX10_text_110 : decode cX10_text 110 = .ok (.bipush (-10), 2) := by decide +kernel
theorem dX10_text_112 : decode cX10_text 112 = .ok (.iload 6, 2) := by decide +kernel
theorem dX10_text_114 : decode cX10_text 114 = .ok (.isub, 1) := by decide +kernel
theorem dX10_text_115 : decode cX10_text 115 = .ok (.ireturn, 1) := by decide +kernel
theorem dX10_juror_0 : decode cX10_juror 0 = .ok (.iload_n 1, 1) := by decide +kernel
theorem dX10_juror_1 : decode cX10_juror 1 = .ok (.invokestatic 115, 3) := by decide +kernel
theorem dX10_juror_4 : decode cX10_juror 4 = .ok (.ifCond .eq 10, 3) := by decide +kernel
theorem dX10_juror_7 : decode cX10_juror 7 = .ok (.iload_n 2, 1) := by decide +kernel
theorem dX10_juror_8 : decode cX10_juror 8 = .ok (.invokestatic 118, 3) := by decide +kernel
theorem dX10_juror_11 : decode cX10_juror 11 = .ok (.ifCond .ne 6, 3) := by decide +kernel
theorem dX10_juror_14 : decode cX10_juror 14 = .ok (.bipush (-2), 2) := by decide +kernel
theorem dX10_juror_16 : decode cX10_juror 16 = .ok (.ireturn, 1) := by decide +kernel
theorem dX10_juror_17 : decode cX10_juror 17 = .ok (.aload_n 0, 1) := by decide +kernel
theorem dX10_juror_18 : decode cX10_juror 18 = .ok (.getfield 62, 3) := by decide +kernel
theorem dX10_juror_21 : decode cX10_juror 21 = .ok (.getfield 232, 3) := by decide +kernel
theorem dX10_juror_24 : decode cX10_juror 24 = .ok (.bipush 12, 2) := by decide +kernel
theorem dX10_juror_26 : decode cX10_juror 26 = .ok (.if_icmp .lt 8, 3) := by decide +kernel
theorem dX10_juror_29 : decode cX10_juror 29 = .ok (.bipush (-4), 2) := by decide +kernel
theorem dX10_juror_31 : decode cX10_juror 31 = .ok (.goto 12, 3) := by decide +kernel
theorem dX10_juror_34 : decode cX10_juror 34 = .ok (.aload_n 0, 1) := by decide +kernel
theorem dX10_juror_35 : decode cX10_juror 35 = .ok (.getfield 62, 3) := by decide +kernel
theorem dX10_juror_38 : decode cX10_juror 38 = .ok (.iload_n 1, 1) := by decide +kernel
theorem dX10_juror_39 : decode cX10_juror 39 = .ok (.iload_n 2, 1) := by decide +kernel
theorem dX10_juror_40 : decode cX10_juror 40 = .ok (.invokevirtual 235, 3) := by decide +kernel
theorem dX10_juror_43 : decode cX10_juror 43 = .ok (.ireturn, 1) := by decide +kernel
theorem dX10_mark_0 : decode cX10_mark 0 = .ok (.aload_n 0, 1) := by decide +kernel
theorem dX10_mark_1 : decode cX10_mark 1 = .ok (.getfield 29, 3) := by decide +kernel
theorem dX10_mark_4 : decode cX10_mark 4 = .ok (.iload_n 2, 1) := by decide +kernel
theorem dX10_mark_5 : decode cX10_mark 5 = .ok (.invokevirtual 131, 3) := by decide +kernel
theorem dX10_mark_8 : decode cX10_mark 8 = .ok (.astore 5, 2) := by decide +kernel
theorem dX10_mark_10 : decode cX10_mark 10 = .ok (.aload 5, 2) := by decide +kernel
theorem dX10_mark_12 : decode cX10_mark 12 = .ok (.ifnull 14, 3) := by decide +kernel
theorem dX10_mark_15 : decode cX10_mark 15 = .ok (.aload_n 0, 1) := by decide +kernel
theorem dX10_mark_16 : decode cX10_mark 16 = .ok (.getfield 62, 3) := by decide +kernel
theorem dX10_mark_19 : decode cX10_mark 19 = .ok (.iload_n 1, 1) := by decide +kernel
theorem dX10_mark_20 : decode cX10_mark 20 = .ok (.invokevirtual 237, 3) := by decide +kernel
theorem dX10_mark_23 : decode cX10_mark 23 = .ok (.ifCond .ne 6, 3) := by decide +kernel
theorem dX10_mark_26 : decode cX10_mark 26 = .ok (.bipush (-5), 2) := by decide +kernel
theorem dX10_mark_28 : decode cX10_mark 28 = .ok (.ireturn, 1) := by decide +kernel
theorem dX10_mark_29 : decode cX10_mark 29 = .ok (.iload_n 3, 1) := by decide +kernel
theorem dX10_mark_30 : decode cX10_mark 30 = .ok (.iconst 0, 1) := by decide +kernel
theorem dX10_mark_31 : decode cX10_mark 31 = .ok (.bipush 100, 2) := by decide +kernel
theorem dX10_mark_33 : decode cX10_mark 33 = .ok (.invokestatic 88, 3) := by decide +kernel
theorem dX10_mark_36 : decode cX10_mark 36 = .ok (.ifCond .eq 11, 3) := by decide +kernel
theorem dX10_mark_39 : decode cX10_mark 39 = .ok (.iload 4, 2) := by decide +kernel
theorem dX10_mark_41 : decode cX10_mark 41 = .ok (.invokestatic 203, 3) := by decide +kernel
theorem dX10_mark_44 : decode cX10_mark 44 = .ok (.ifCond .ne 6, 3) := by decide +kernel
theorem dX10_mark_47 : decode cX10_mark 47 = .ok (.bipush (-2), 2) := by decide +kernel
theorem dX10_mark_49 : decode cX10_mark 49 = .ok (.ireturn, 1) := by decide +kernel
theorem dX10_mark_50 : decode cX10_mark 50 = .ok (.aload_n 0, 1) := by decide +kernel
theorem dX10_mark_51 : decode cX10_mark 51 = .ok (.getfield 62, 3) := by decide +kernel
theorem dX10_mark_54 : decode cX10_mark 54 = .ok (.iload_n 1, 1) := by decide +kernel
theorem dX10_mark_55 : decode cX10_mark 55 = .ok (.aload 5, 2) := by decide +kernel
theorem dX10_mark_57 : decode cX10_mark 57 = .ok (.invokevirtual 238, 3) := by decide +kernel
theorem dX10_mark_60 : decode cX10_mark 60 = .ok (.ifCond .ne 6, 3) := by decide +kernel
theorem dX10_mark_63 : decode cX10_mark 63 = .ok (.bipush (-3), 2) := by decide +kernel
theorem dX10_mark_65 : decode cX10_mark 65 = .ok (.ireturn, 1) := by decide +kernel
theorem dX10_mark_66 : decode cX10_mark 66 = .ok (.aload_n 0, 1) := by decide +kernel
theorem dX10_mark_67 : decode cX10_mark 67 = .ok (.getfield 62, 3) := by decide +kernel
theorem dX10_mark_70 : decode cX10_mark 70 = .ok (.iload_n 1, 1) := by decide +kernel
theorem dX10_mark_71 : decode cX10_mark 71 = .ok (.iload_n 2, 1) := by decide +kernel
theorem dX10_mark_72 : decode cX10_mark 72 = .ok (.iload_n 3, 1) := by decide +kernel
theorem dX10_mark_73 : decode cX10_mark 73 = .ok (.iload 4, 2) := by decide +kernel
theorem dX10_mark_75 : decode cX10_mark 75 = .ok (.invokevirtual 242, 3) := by decide +kernel
theorem dX10_mark_78 : decode cX10_mark 78 = .ok (.ireturn, 1) := by decide +kernel
theorem dX10_mean_0 : decode cX10_mean 0 = .ok (.aload_n 0, 1) := by decide +kernel
theorem dX10_mean_1 : decode cX10_mean 1 = .ok (.getfield 29, 3) := by decide +kernel
theorem dX10_mean_4 : decode cX10_mean 4 = .ok (.iload_n 1, 1) := by decide +kernel
theorem dX10_mean_5 : decode cX10_mean 5 = .ok (.invokevirtual 131, 3) := by decide +kernel
theorem dX10_mean_8 : decode cX10_mean 8 = .ok (.ifnonnull 7, 3) := by decide +kernel
theorem dX10_mean_11 : decode cX10_mean 11 = .ok (.iconst (-1), 1) := by decide +kernel
theorem dX10_mean_12 : decode cX10_mean 12 = .ok (.goto 12, 3) := by decide +kernel
theorem dX10_mean_15 : decode cX10_mean 15 = .ok (.aload_n 0, 1) := by decide +kernel
theorem dX10_mean_16 : decode cX10_mean 16 = .ok (.getfield 62, 3) := by decide +kernel
theorem dX10_mean_19 : decode cX10_mean 19 = .ok (.iload_n 1, 1) := by decide +kernel
theorem dX10_mean_20 : decode cX10_mean 20 = .ok (.iload_n 2, 1) := by decide +kernel
theorem dX10_mean_21 : decode cX10_mean 21 = .ok (.invokevirtual 246, 3) := by decide +kernel
theorem dX10_mean_24 : decode cX10_mean 24 = .ok (.ireturn, 1) := by decide +kernel
theorem dX10_medal_0 : decode cX10_medal 0 = .ok (.aload_n 0, 1) := by decide +kernel
theorem dX10_medal_1 : decode cX10_medal 1 = .ok (.getfield 29, 3) := by decide +kernel
theorem dX10_medal_4 : decode cX10_medal 4 = .ok (.iload_n 1, 1) := by decide +kernel
theorem dX10_medal_5 : decode cX10_medal 5 = .ok (.invokevirtual 131, 3) := by decide +kernel
theorem dX10_medal_8 : decode cX10_medal 8 = .ok (.ifnonnull 5, 3) := by decide +kernel
theorem dX10_medal_11 : decode cX10_medal 11 = .ok (.iconst (-1), 1) := by decide +kernel
theorem dX10_medal_12 : decode cX10_medal 12 = .ok (.ireturn, 1) := by decide +kernel
theorem dX10_medal_13 : decode cX10_medal 13 = .ok (.aload_n 0, 1) := by decide +kernel
theorem dX10_medal_14 : decode cX10_medal 14 = .ok (.getfield 62, 3) := by decide +kernel
theorem dX10_medal_17 : decode cX10_medal 17 = .ok (.iload_n 1, 1) := by decide +kernel
theorem dX10_medal_18 : decode cX10_medal 18 = .ok (.iload_n 2, 1) := by decide +kernel
theorem dX10_medal_19 : decode cX10_medal 19 = .ok (.invokevirtual 246, 3) := by decide +kernel
theorem dX10_medal_22 : decode cX10_medal 22 = .ok (.istore_n 3, 1) := by decide +kernel
theorem dX10_medal_23 : decode cX10_medal 23 = .ok (.aload_n 0, 1) := by decide +kernel
theorem dX10_medal_24 : decode cX10_medal 24 = .ok (.getfield 52, 3) := by decide +kernel
theorem dX10_medal_27 : decode cX10_medal 27 = .ok (.iload_n 2, 1) := by decide +kernel
theorem dX10_medal_28 : decode cX10_medal 28 = .ok (.invokevirtual 249, 3) := by decide +kernel
theorem dX10_medal_31 : decode cX10_medal 31 = .ok (.astore 4, 2) := by decide +kernel
theorem dX10_medal_33 : decode cX10_medal 33 = .ok (.iload_n 3, 1) := by decide +kernel
theorem dX10_medal_34 : decode cX10_medal 34 = .ok (.iconst (-1), 1) := by decide +kernel
theorem dX10_medal_35 : decode cX10_medal 35 = .ok (.if_icmp .eq 8, 3) := by decide +kernel
theorem dX10_medal_38 : decode cX10_medal 38 = .ok (.aload 4, 2) := by decide +kernel
theorem dX10_medal_40 : decode cX10_medal 40 = .ok (.ifnonnull 7, 3) := by decide +kernel
theorem dX10_medal_43 : decode cX10_medal 43 = .ok (.iconst 0, 1) := by decide +kernel
theorem dX10_medal_44 : decode cX10_medal 44 = .ok (.goto 9, 3) := by decide +kernel
theorem dX10_medal_47 : decode cX10_medal 47 = .ok (.aload 4, 2) := by decide +kernel
theorem dX10_medal_49 : decode cX10_medal 49 = .ok (.iload_n 3, 1) := by decide +kernel
theorem dX10_medal_50 : decode cX10_medal 50 = .ok (.invokevirtual 253, 3) := by decide +kernel
theorem dX10_medal_53 : decode cX10_medal 53 = .ok (.ireturn, 1) := by decide +kernel
theorem dX10_cost_0 : decode cX10_cost 0 = .ok (.iload_n 1, 1) := by decide +kernel
theorem dX10_cost_1 : decode cX10_cost 1 = .ok (.ifCond .ge 7, 3) := by decide +kernel
theorem dX10_cost_4 : decode cX10_cost 4 = .ok (.iconst (-1), 1) := by decide +kernel
theorem dX10_cost_5 : decode cX10_cost 5 = .ok (.goto 8, 3) := by decide +kernel
theorem dX10_cost_8 : decode cX10_cost 8 = .ok (.aload_n 0, 1) := by decide +kernel
theorem dX10_cost_9 : decode cX10_cost 9 = .ok (.iload_n 1, 1) := by decide +kernel
theorem dX10_cost_10 : decode cX10_cost 10 = .ok (.invokevirtual 256, 3) := by decide +kernel
theorem dX10_cost_13 : decode cX10_cost 13 = .ok (.ireturn, 1) := by decide +kernel
theorem dX10_most_0 : decode cX10_most 0 = .ok (.iload_n 1, 1) := by decide +kernel
theorem dX10_most_1 : decode cX10_most 1 = .ok (.iconst 1, 1) := by decide +kernel
theorem dX10_most_2 : decode cX10_most 2 = .ok (.sipush 20000, 3) := by decide +kernel
theorem dX10_most_5 : decode cX10_most 5 = .ok (.invokestatic 88, 3) := by decide +kernel
theorem dX10_most_8 : decode cX10_most 8 = .ok (.ifCond .ne 6, 3) := by decide +kernel
theorem dX10_most_11 : decode cX10_most 11 = .ok (.bipush (-2), 2) := by decide +kernel
theorem dX10_most_13 : decode cX10_most 13 = .ok (.ireturn, 1) := by decide +kernel
theorem dX10_most_14 : decode cX10_most 14 = .ok (.aload_n 0, 1) := by decide +kernel
theorem dX10_most_15 : decode cX10_most 15 = .ok (.getfield 69, 3) := by decide +kernel
theorem dX10_most_18 : decode cX10_most 18 = .ok (.getfield 259, 3) := by decide +kernel
theorem dX10_most_21 : decode cX10_most 21 = .ok (.istore_n 2, 1) := by decide +kernel
theorem dX10_most_22 : decode cX10_most 22 = .ok (.aload_n 0, 1) := by decide +kernel
theorem dX10_most_23 : decode cX10_most 23 = .ok (.getfield 69, 3) := by decide +kernel
theorem dX10_most_26 : decode cX10_most 26 = .ok (.iload_n 1, 1) := by decide +kernel
theorem dX10_most_27 : decode cX10_most 27 = .ok (.putfield 259, 3) := by decide +kernel
theorem dX10_most_30 : decode cX10_most 30 = .ok (.iload_n 2, 1) := by decide +kernel
theorem dX10_most_31 : decode cX10_most 31 = .ok (.ireturn, 1) := by decide +kernel
theorem dX10_minute_0 : decode cX10_minute 0 = .ok (.iload_n 1, 1) := by decide +kernel
theorem dX10_minute_1 : decode cX10_minute 1 = .ok (.iconst 0, 1) := by decide +kernel
theorem dX10_minute_2 : decode cX10_minute 2 = .ok (.sipush 2000, 3) := by decide +kernel
theorem dX10_minute_5 : decode cX10_minute 5 = .ok (.invokestatic 88, 3) := by decide +kernel
theorem dX10_minute_8 : decode cX10_minute 8 = .ok (.ifCond .eq 14, 3) := by decide +kernel
theorem dX10_minute_11 : decode cX10_minute 11 = .ok (.iload_n 2, 1) := by decide +kernel
theorem dX10_minute_12 : decode cX10_minute 12 = .ok (.iconst 0, 1) := by decide +kernel
theorem dX10_minute_13 : decode cX10_minute 13 = .ok (.sipush 2000, 3) := by decide +kernel
theorem dX10_minute_16 : decode cX10_minute 16 = .ok (.invokestatic 88, 3) := by decide +kernel
theorem dX10_minute_19 : decode cX10_minute 19 = .ok (.ifCond .ne 6, 3) := by decide +kernel
theorem dX10_minute_22 : decode cX10_minute 22 = .ok (.bipush (-2), 2) := by decide +kernel
theorem dX10_minute_24 : decode cX10_minute 24 = .ok (.ireturn, 1) := by decide +kernel
theorem dX10_minute_25 : decode cX10_minute 25 = .ok (.aload_n 0, 1) := by decide +kernel
theorem dX10_minute_26 : decode cX10_minute 26 = .ok (.getfield 69, 3) := by decide +kernel
theorem dX10_minute_29 : decode cX10_minute 29 = .ok (.getfield 262, 3) := by decide +kernel
theorem dX10_minute_32 : decode cX10_minute 32 = .ok (.sipush 600, 3) := by decide +kernel
theorem dX10_minute_35 : decode cX10_minute 35 = .ok (.if_icmp .lt 6, 3) := by decide +kernel
theorem dX10_minute_38 : decode cX10_minute 38 = .ok (.bipush (-4), 2) := by decide +kernel
theorem dX10_minute_40 : decode cX10_minute 40 = .ok (.ireturn, 1) := by decide +kernel
theorem dX10_minute_41 : decode cX10_minute 41 = .ok (.aload_n 0, 1) := by decide +kernel
theorem dX10_minute_42 : decode cX10_minute 42 = .ok (.getfield 69, 3) := by decide +kernel
theorem dX10_minute_45 : decode cX10_minute 45 = .ok (.iload_n 1, 1) := by decide +kernel
theorem dX10_minute_46 : decode cX10_minute 46 = .ok (.iload_n 2, 1) := by decide +kernel
theorem dX10_minute_47 : decode cX10_minute 47 = .ok (.aload_n 0, 1) := by decide +kernel
theorem dX10_minute_48 : decode cX10_minute 48 = .ok (.aload_n 0, 1) := by decide +kernel
theorem dX10_minute_49 : decode cX10_minute 49 = .ok (.getfield 69, 3) := by decide +kernel
theorem dX10_minute_52 : decode cX10_minute 52 = .ok (.getfield 265, 3) := by decide +kernel
theorem dX10_minute_55 : decode cX10_minute 55 = .ok (.invokevirtual 256, 3) := by decide +kernel
theorem dX10_minute_58 : decode cX10_minute 58 = .ok (.invokevirtual 268, 3) := by decide +kernel
theorem dX10_minute_61 : decode cX10_minute 61 = .ok (.aload_n 0, 1) := by decide +kernel
theorem dX10_minute_62 : decode cX10_minute 62 = .ok (.getfield 69, 3) := by decide +kernel
theorem dX10_minute_65 : decode cX10_minute 65 = .ok (.getfield 272, 3) := by decide +kernel
theorem dX10_minute_68 : decode cX10_minute 68 = .ok (.ireturn, 1) := by decide +kernel
theorem dX10_bell_0 : decode cX10_bell 0 = .ok (.aload_n 0, 1) := by decide +kernel
theorem dX10_bell_1 : decode cX10_bell 1 = .ok (.getfield 69, 3) := by decide +kernel
theorem dX10_bell_4 : decode cX10_bell 4 = .ok (.getfield 265, 3) := by decide +kernel
theorem dX10_bell_7 : decode cX10_bell 7 = .ok (.sipush 999, 3) := by decide +kernel
theorem dX10_bell_10 : decode cX10_bell 10 = .ok (.if_icmp .lt 6, 3) := by decide +kernel
theorem dX10_bell_13 : decode cX10_bell 13 = .ok (.bipush (-4), 2) := by decide +kernel
theorem dX10_bell_15 : decode cX10_bell 15 = .ok (.ireturn, 1) := by decide +kernel
theorem dX10_bell_16 : decode cX10_bell 16 = .ok (.aload_n 0, 1) := by decide +kernel
theorem dX10_bell_17 : decode cX10_bell 17 = .ok (.getfield 69, 3) := by decide +kernel
theorem dX10_bell_20 : decode cX10_bell 20 = .ok (.invokevirtual 275, 3) := by decide +kernel
theorem dX10_bell_23 : decode cX10_bell 23 = .ok (.aload_n 0, 1) := by decide +kernel
theorem dX10_bell_24 : decode cX10_bell 24 = .ok (.getfield 69, 3) := by decide +kernel
theorem dX10_bell_27 : decode cX10_bell 27 = .ok (.getfield 265, 3) := by decide +kernel
theorem dX10_bell_30 : decode cX10_bell 30 = .ok (.ireturn, 1) := by decide +kernel
theorem dX10_sight_0 : decode cX10_sight 0 = .ok (.aload_n 0, 1) := by decide +kernel
theorem dX10_sight_1 : decode cX10_sight 1 = .ok (.getfield 18, 3) := by decide +kernel
theorem dX10_sight_4 : decode cX10_sight 4 = .ok (.iload_n 1, 1) := by decide +kernel
theorem dX10_sight_5 : decode cX10_sight 5 = .ok (.invokevirtual 84, 3) := by decide +kernel
theorem dX10_sight_8 : decode cX10_sight 8 = .ok (.ifCond .ne 5, 3) := by decide +kernel
theorem dX10_sight_11 : decode cX10_sight 11 = .ok (.iconst (-1), 1) := by decide +kernel
theorem dX10_sight_12 : decode cX10_sight 12 = .ok (.ireturn, 1) := by decide +kernel
theorem dX10_sight_13 : decode cX10_sight 13 = .ok (.iload_n 2, 1) := by decide +kernel
theorem dX10_sight_14 : decode cX10_sight 14 = .ok (.iconst 0, 1) := by decide +kernel
theorem dX10_sight_15 : decode cX10_sight 15 = .ok (.sipush 10000, 3) := by decide +kernel
theorem dX10_sight_18 : decode cX10_sight 18 = .ok (.invokestatic 88, 3) := by decide +kernel
theorem dX10_sight_21 : decode cX10_sight 21 = .ok (.ifCond .eq 25, 3) := by decide +kernel
theorem dX10_sight_24 : decode cX10_sight 24 = .ok (.aload_n 0, 1) := by decide +kernel
theorem dX10_sight_25 : decode cX10_sight 25 = .ok (.getfield 76, 3) := by decide +kernel
theorem dX10_sight_28 : decode cX10_sight 28 = .ok (.iload_n 2, 1) := by decide +kernel
theorem dX10_sight_29 : decode cX10_sight 29 = .ok (.invokevirtual 278, 3) := by decide +kernel
theorem dX10_sight_32 : decode cX10_sight 32 = .ok (.ifCond .eq 14, 3) := by decide +kernel
theorem dX10_sight_35 : decode cX10_sight 35 = .ok (.aload_n 0, 1) := by decide +kernel
theorem dX10_sight_36 : decode cX10_sight 36 = .ok (.getfield 18, 3) := by decide +kernel
theorem dX10_sight_39 : decode cX10_sight 39 = .ok (.iload_n 1, 1) := by decide +kernel
theorem dX10_sight_40 : decode cX10_sight 40 = .ok (.invokevirtual 281, 3) := by decide +kernel
theorem dX10_sight_43 : decode cX10_sight 43 = .ok (.ifCond .ne 6, 3) := by decide +kernel
theorem dX10_sight_46 : decode cX10_sight 46 = .ok (.bipush (-2), 2) := by decide +kernel
theorem dX10_sight_48 : decode cX10_sight 48 = .ok (.ireturn, 1) := by decide +kernel
theorem dX10_sight_49 : decode cX10_sight 49 = .ok (.aload_n 0, 1) := by decide +kernel
theorem dX10_sight_50 : decode cX10_sight 50 = .ok (.getfield 76, 3) := by decide +kernel
theorem dX10_sight_53 : decode cX10_sight 53 = .ok (.getfield 284, 3) := by decide +kernel
theorem dX10_sight_56 : decode cX10_sight 56 = .ok (.bipush 10, 2) := by decide +kernel
theorem dX10_sight_58 : decode cX10_sight 58 = .ok (.if_icmp .lt 8, 3) := by decide +kernel
theorem dX10_sight_61 : decode cX10_sight 61 = .ok (.bipush (-4), 2) := by decide +kernel
theorem dX10_sight_63 : decode cX10_sight 63 = .ok (.goto 12, 3) := by decide +kernel
theorem dX10_sight_66 : decode cX10_sight 66 = .ok (.aload_n 0, 1) := by decide +kernel
theorem dX10_sight_67 : decode cX10_sight 67 = .ok (.getfield 76, 3) := by decide +kernel
theorem dX10_sight_70 : decode cX10_sight 70 = .ok (.iload_n 1, 1) := by decide +kernel
theorem dX10_sight_71 : decode cX10_sight 71 = .ok (.iload_n 2, 1) := by decide +kernel
theorem dX10_sight_72 : decode cX10_sight 72 = .ok (.invokevirtual 287, 3) := by decide +kernel
theorem dX10_sight_75 : decode cX10_sight 75 = .ok (.ireturn, 1) := by decide +kernel
theorem dX10_canBe_0 : decode cX10_canBe 0 = .ok (.aload_n 0, 1) := by decide +kernel
theorem dX10_canBe_1 : decode cX10_canBe 1 = .ok (.getfield 18, 3) := by decide +kernel
theorem dX10_canBe_4 : decode cX10_canBe 4 = .ok (.iload_n 1, 1) := by decide +kernel
theorem dX10_canBe_5 : decode cX10_canBe 5 = .ok (.invokevirtual 84, 3) := by decide +kernel
theorem dX10_canBe_8 : decode cX10_canBe 8 = .ok (.ifCond .ne 5, 3) := by decide +kernel
theorem dX10_canBe_11 : decode cX10_canBe 11 = .ok (.iconst (-1), 1) := by decide +kernel
theorem dX10_canBe_12 : decode cX10_canBe 12 = .ok (.ireturn, 1) := by decide +kernel
theorem dX10_canBe_13 : decode cX10_canBe 13 = .ok (.aload_n 0, 1) := by decide +kernel
theorem dX10_canBe_14 : decode cX10_canBe 14 = .ok (.iload_n 2, 1) := by decide +kernel
theorem dX10_canBe_15 : decode cX10_canBe 15 = .ok (.invokevirtual 288, 3) := by decide +kernel
theorem dX10_canBe_18 : decode cX10_canBe 18 = .ok (.istore_n 3, 1) := by decide +kernel
theorem dX10_canBe_19 : decode cX10_canBe 19 = .ok (.iload_n 3, 1) := by decide +kernel
theorem dX10_canBe_20 : decode cX10_canBe 20 = .ok (.ifCond .eq 5, 3) := by decide +kernel
theorem dX10_canBe_23 : decode cX10_canBe 23 = .ok (.iload_n 3, 1) := by decide +kernel
theorem dX10_canBe_24 : decode cX10_canBe 24 = .ok (.ireturn, 1) := by decide +kernel
theorem dX10_canBe_25 : decode cX10_canBe 25 = .ok (.aload_n 0, 1) := by decide +kernel
theorem dX10_canBe_26 : decode cX10_canBe 26 = .ok (.iload_n 2, 1) := by decide +kernel
theorem dX10_canBe_27 : decode cX10_canBe 27 = .ok (.invokevirtual 291, 3) := by decide +kernel
theorem dX10_canBe_30 : decode cX10_canBe 30 = .ok (.iload_n 1, 1) := by decide +kernel
theorem dX10_canBe_31 : decode cX10_canBe 31 = .ok (.invokestatic 295, 3) := by decide +kernel
theorem dX10_canBe_34 : decode cX10_canBe 34 = .ok (.land, 1) := by decide +kernel
theorem dX10_canBe_35 : decode cX10_canBe 35 = .ok (.lconst 0, 1) := by decide +kernel
theorem dX10_canBe_36 : decode cX10_canBe 36 = .ok (.lcmp, 1) := by decide +kernel
theorem dX10_canBe_37 : decode cX10_canBe 37 = .ok (.ifCond .eq 7, 3) := by decide +kernel
theorem dX10_canBe_40 : decode cX10_canBe 40 = .ok (.iconst 1, 1) := by decide +kernel
theorem dX10_canBe_41 : decode cX10_canBe 41 = .ok (.goto 4, 3) := by decide +kernel
theorem dX10_canBe_44 : decode cX10_canBe 44 = .ok (.iconst 0, 1) := by decide +kernel
theorem dX10_canBe_45 : decode cX10_canBe 45 = .ok (.ireturn, 1) := by decide +kernel
theorem dX10_places_0 : decode cX10_places 0 = .ok (.aload_n 0, 1) := by decide +kernel
theorem dX10_places_1 : decode cX10_places 1 = .ok (.iload_n 1, 1) := by decide +kernel
theorem dX10_places_2 : decode cX10_places 2 = .ok (.invokevirtual 288, 3) := by decide +kernel
theorem dX10_places_5 : decode cX10_places 5 = .ok (.istore_n 2, 1) := by decide +kernel
theorem dX10_places_6 : decode cX10_places 6 = .ok (.iload_n 2, 1) := by decide +kernel
theorem dX10_places_7 : decode cX10_places 7 = .ok (.ifCond .eq 7, 3) := by decide +kernel
theorem dX10_places_10 : decode cX10_places 10 = .ok (.iload_n 2, 1) := by decide +kernel
theorem dX10_places_11 : decode cX10_places 11 = .ok (.goto 11, 3) := by decide +kernel
theorem dX10_places_14 : decode cX10_places 14 = .ok (.aload_n 0, 1) := by decide +kernel
theorem dX10_places_15 : decode cX10_places 15 = .ok (.iload_n 1, 1) := by decide +kernel
theorem dX10_places_16 : decode cX10_places 16 = .ok (.invokevirtual 291, 3) := by decide +kernel
theorem dX10_places_19 : decode cX10_places 19 = .ok (.invokestatic 298, 3) := by decide +kernel
theorem dX10_places_22 : decode cX10_places 22 = .ok (.ireturn, 1) := by decide +kernel
theorem dX10_found_0 : decode cX10_found 0 = .ok (.aload_n 0, 1) := by decide +kernel
theorem dX10_found_1 : decode cX10_found 1 = .ok (.getfield 76, 3) := by decide +kernel
theorem dX10_found_4 : decode cX10_found 4 = .ok (.invokevirtual 304, 3) := by decide +kernel
theorem dX10_found_7 : decode cX10_found 7 = .ok (.ireturn, 1) := by decide +kernel
theorem dX10_sell_0 : decode cX10_sell 0 = .ok (.aload_n 0, 1) := by decide +kernel
theorem dX10_sell_1 : decode cX10_sell 1 = .ok (.getfield 29, 3) := by decide +kernel
theorem dX10_sell_4 : decode cX10_sell 4 = .ok (.iload_n 1, 1) := by decide +kernel
theorem dX10_sell_5 : decode cX10_sell 5 = .ok (.invokevirtual 131, 3) := by decide +kernel
theorem dX10_sell_8 : decode cX10_sell 8 = .ok (.astore_n 3, 1) := by decide +kernel
theorem dX10_sell_9 : decode cX10_sell 9 = .ok (.aload_n 3, 1) := by decide +kernel
theorem dX10_sell_10 : decode cX10_sell 10 = .ok (.ifnonnull 5, 3) := by decide +kernel
theorem dX10_sell_13 : decode cX10_sell 13 = .ok (.iconst (-1), 1) := by decide +kernel
theorem dX10_sell_14 : decode cX10_sell 14 = .ok (.ireturn, 1) := by decide +kernel
theorem dX10_sell_15 : decode cX10_sell 15 = .ok (.iload_n 2, 1) := by decide +kernel
theorem dX10_sell_16 : decode cX10_sell 16 = .ok (.iconst 0, 1) := by decide +kernel
theorem dX10_sell_17 : decode cX10_sell 17 = .ok (.sipush 999, 3) := by decide +kernel
theorem dX10_sell_20 : decode cX10_sell 20 = .ok (.invokestatic 88, 3) := by decide +kernel
theorem dX10_sell_23 : decode cX10_sell 23 = .ok (.ifCond .ne 6, 3) := by decide +kernel
theorem dX10_sell_26 : decode cX10_sell 26 = .ok (.bipush (-2), 2) := by decide +kernel
theorem dX10_sell_28 : decode cX10_sell 28 = .ok (.ireturn, 1) := by decide +kernel
theorem dX10_sell_29 : decode cX10_sell 29 = .ok (.aload_n 3, 1) := by decide +kernel
theorem dX10_sell_30 : decode cX10_sell 30 = .ok (.invokevirtual 307, 3) := by decide +kernel
theorem dX10_sell_33 : decode cX10_sell 33 = .ok (.ifCond .ne 10, 3) := by decide +kernel
theorem dX10_sell_36 : decode cX10_sell 36 = .ok (.aload_n 3, 1) := by decide +kernel
theorem dX10_sell_37 : decode cX10_sell 37 = .ok (.getfield 139, 3) := by decide +kernel
theorem dX10_sell_40 : decode cX10_sell 40 = .ok (.ifCond .ne 6, 3) := by decide +kernel
theorem dX10_sell_43 : decode cX10_sell 43 = .ok (.bipush (-3), 2) := by decide +kernel
theorem dX10_sell_45 : decode cX10_sell 45 = .ok (.ireturn, 1) := by decide +kernel
theorem dX10_sell_46 : decode cX10_sell 46 = .ok (.aload_n 3, 1) := by decide +kernel
theorem dX10_sell_47 : decode cX10_sell 47 = .ok (.iload_n 2, 1) := by decide +kernel
theorem dX10_sell_48 : decode cX10_sell 48 = .ok (.putfield 166, 3) := by decide +kernel
theorem dX10_sell_51 : decode cX10_sell 51 = .ok (.iconst 0, 1) := by decide +kernel
theorem dX10_sell_52 : decode cX10_sell 52 = .ok (.ireturn, 1) := by decide +kernel
theorem dX10_hand_0 : decode cX10_hand 0 = .ok (.aload_n 0, 1) := by decide +kernel
theorem dX10_hand_1 : decode cX10_hand 1 = .ok (.getfield 29, 3) := by decide +kernel
theorem dX10_hand_4 : decode cX10_hand 4 = .ok (.iload_n 1, 1) := by decide +kernel
theorem dX10_hand_5 : decode cX10_hand 5 = .ok (.invokevirtual 131, 3) := by decide +kernel
theorem dX10_hand_8 : decode cX10_hand 8 = .ok (.astore_n 2, 1) := by decide +kernel
theorem dX10_hand_9 : decode cX10_hand 9 = .ok (.aload_n 2, 1) := by decide +kernel
theorem dX10_hand_10 : decode cX10_hand 10 = .ok (.ifnonnull 5, 3) := by decide +kernel
theorem dX10_hand_13 : decode cX10_hand 13 = .ok (.iconst (-1), 1) := by decide +kernel
theorem dX10_hand_14 : decode cX10_hand 14 = .ok (.ireturn, 1) := by decide +kernel
theorem dX10_hand_15 : decode cX10_hand 15 = .ok (.aload_n 2, 1) := by decide +kernel
theorem dX10_hand_16 : decode cX10_hand 16 = .ok (.invokevirtual 307, 3) := by decide +kernel
theorem dX10_hand_19 : decode cX10_hand 19 = .ok (.ifCond .eq 24, 3) := by decide +kernel
theorem dX10_hand_22 : decode cX10_hand 22 = .ok (.aload_n 2, 1) := by decide +kernel
theorem dX10_hand_23 : decode cX10_hand 23 = .ok (.getfield 310, 3) := by decide +kernel
theorem dX10_hand_26 : decode cX10_hand 26 = .ok (.ifCond .ne 17, 3) := by decide +kernel
theorem dX10_hand_29 : decode cX10_hand 29 = .ok (.aload_n 0, 1) := by decide +kernel
theorem dX10_hand_30 : decode cX10_hand 30 = .ok (.getfield 69, 3) := by decide +kernel
theorem dX10_hand_33 : decode cX10_hand 33 = .ok (.getfield 265, 3) := by decide +kernel
theorem dX10_hand_36 : decode cX10_hand 36 = .ok (.aload_n 0, 1) := by decide +kernel
theorem dX10_hand_37 : decode cX10_hand 37 = .ok (.getfield 80, 3) := by decide +kernel
theorem dX10_hand_40 : decode cX10_hand 40 = .ok (.if_icmp .ge 6, 3) := by decide +kernel
theorem dX10_hand_43 : decode cX10_hand 43 = .ok (.bipush (-3), 2) := by decide +kernel
theorem dX10_hand_45 : decode cX10_hand 45 = .ok (.ireturn, 1) := by decide +kernel
theorem dX10_hand_46 : decode cX10_hand 46 = .ok (.aload_n 2, 1) := by decide +kernel
theorem dX10_hand_47 : decode cX10_hand 47 = .ok (.iconst 1, 1) := by decide +kernel
theorem dX10_hand_48 : decode cX10_hand 48 = .ok (.putfield 310, 3) := by decide +kernel
theorem dX10_hand_51 : decode cX10_hand 51 = .ok (.aload_n 2, 1) := by decide +kernel
theorem dX10_hand_52 : decode cX10_hand 52 = .ok (.iconst 0, 1) := by decide +kernel
theorem dX10_hand_53 : decode cX10_hand 53 = .ok (.putfield 139, 3) := by decide +kernel
theorem dX10_hand_56 : decode cX10_hand 56 = .ok (.aload_n 2, 1) := by decide +kernel
theorem dX10_hand_57 : decode cX10_hand 57 = .ok (.invokevirtual 154, 3) := by decide +kernel
theorem dX10_hand_60 : decode cX10_hand 60 = .ok (.aload_n 2, 1) := by decide +kernel
theorem dX10_hand_61 : decode cX10_hand 61 = .ok (.getfield 166, 3) := by decide +kernel
theorem dX10_hand_64 : decode cX10_hand 64 = .ok (.ireturn, 1) := by decide +kernel
theorem dX10_end_0 : decode cX10_end 0 = .ok (.iload_n 1, 1) := by decide +kernel
theorem dX10_end_1 : decode cX10_end 1 = .ok (.invokestatic 203, 3) := by decide +kernel
theorem dX10_end_4 : decode cX10_end 4 = .ok (.ifCond .ne 6, 3) := by decide +kernel
theorem dX10_end_7 : decode cX10_end 7 = .ok (.bipush (-2), 2) := by decide +kernel
theorem dX10_end_9 : decode cX10_end 9 = .ok (.ireturn, 1) := by decide +kernel
theorem dX10_end_10 : decode cX10_end 10 = .ok (.aload_n 0, 1) := by decide +kernel
theorem dX10_end_11 : decode cX10_end 11 = .ok (.getfield 80, 3) := by decide +kernel
theorem dX10_end_14 : decode cX10_end 14 = .ok (.istore_n 2, 1) := by decide +kernel
theorem dX10_end_15 : decode cX10_end 15 = .ok (.aload_n 0, 1) := by decide +kernel
theorem dX10_end_16 : decode cX10_end 16 = .ok (.iload_n 1, 1) := by decide +kernel
theorem dX10_end_17 : decode cX10_end 17 = .ok (.putfield 80, 3) := by decide +kernel
theorem dX10_end_20 : decode cX10_end 20 = .ok (.iload_n 2, 1) := by decide +kernel
theorem dX10_end_21 : decode cX10_end 21 = .ok (.ireturn, 1) := by decide +kernel
theorem dX10_count_0 : decode cX10_count 0 = .ok (.iload_n 1, 1) := by decide +kernel
theorem dX10_count_1 : decode cX10_count 1 = .ok (.tableswitch 183 0 13 #[71, 79, 87, 95, 103, 111, 119, 127, 135, 143, 151, 159, 167, 175], 71) := by decide +kernel
theorem dX10_count_72 : decode cX10_count 72 = .ok (.aload_n 0, 1) := by decide +kernel
theorem dX10_count_73 : decode cX10_count 73 = .ok (.getfield 18, 3) := by decide +kernel
theorem dX10_count_76 : decode cX10_count 76 = .ok (.getfield 313, 3) := by decide +kernel
theorem dX10_count_79 : decode cX10_count 79 = .ok (.ireturn, 1) := by decide +kernel
theorem dX10_count_80 : decode cX10_count 80 = .ok (.aload_n 0, 1) := by decide +kernel
theorem dX10_count_81 : decode cX10_count 81 = .ok (.getfield 29, 3) := by decide +kernel
theorem dX10_count_84 : decode cX10_count 84 = .ok (.getfield 121, 3) := by decide +kernel
theorem dX10_count_87 : decode cX10_count 87 = .ok (.ireturn, 1) := by decide +kernel
theorem dX10_count_88 : decode cX10_count 88 = .ok (.aload_n 0, 1) := by decide +kernel
theorem dX10_count_89 : decode cX10_count 89 = .ok (.getfield 29, 3) := by decide +kernel
theorem dX10_count_92 : decode cX10_count 92 = .ok (.invokevirtual 95, 3) := by decide +kernel
theorem dX10_count_95 : decode cX10_count 95 = .ok (.ireturn, 1) := by decide +kernel
theorem dX10_count_96 : decode cX10_count 96 = .ok (.aload_n 0, 1) := by decide +kernel
theorem dX10_count_97 : decode cX10_count 97 = .ok (.getfield 29, 3) := by decide +kernel
theorem dX10_count_100 : decode cX10_count 100 = .ok (.invokevirtual 178, 3) := by decide +kernel
theorem dX10_count_103 : decode cX10_count 103 = .ok (.ireturn, 1) := by decide +kernel
theorem dX10_count_104 : decode cX10_count 104 = .ok (.aload_n 0, 1) := by decide +kernel
theorem dX10_count_105 : decode cX10_count 105 = .ok (.getfield 62, 3) := by decide +kernel
theorem dX10_count_108 : decode cX10_count 108 = .ok (.getfield 232, 3) := by decide +kernel
theorem dX10_count_111 : decode cX10_count 111 = .ok (.ireturn, 1) := by decide +kernel
theorem dX10_count_112 : decode cX10_count 112 = .ok (.aload_n 0, 1) := by decide +kernel
theorem dX10_count_113 : decode cX10_count 113 = .ok (.getfield 62, 3) := by decide +kernel
theorem dX10_count_116 : decode cX10_count 116 = .ok (.invokevirtual 314, 3) := by decide +kernel
theorem dX10_count_119 : decode cX10_count 119 = .ok (.ireturn, 1) := by decide +kernel
theorem dX10_count_120 : decode cX10_count 120 = .ok (.aload_n 0, 1) := by decide +kernel
theorem dX10_count_121 : decode cX10_count 121 = .ok (.getfield 69, 3) := by decide +kernel
theorem dX10_count_124 : decode cX10_count 124 = .ok (.getfield 265, 3) := by decide +kernel
theorem dX10_count_127 : decode cX10_count 127 = .ok (.ireturn, 1) := by decide +kernel
theorem dX10_count_128 : decode cX10_count 128 = .ok (.aload_n 0, 1) := by decide +kernel
theorem dX10_count_129 : decode cX10_count 129 = .ok (.getfield 69, 3) := by decide +kernel
theorem dX10_count_132 : decode cX10_count 132 = .ok (.getfield 262, 3) := by decide +kernel
theorem dX10_count_135 : decode cX10_count 135 = .ok (.ireturn, 1) := by decide +kernel
