theorem dX11_otherOn_32 : decode cX11_otherOn 32 = .ok (.iaload, 1) := by decide +kernel
theorem dX11_otherOn_33 : decode cX11_otherOn 33 = .ok (.iload_n 2, 1) := by decide +kernel
theorem dX11_otherOn_34 : decode cX11_otherOn 34 = .ok (.invokevirtual 138, 3) := by decide +kernel
theorem dX11_otherOn_37 : decode cX11_otherOn 37 = .ok (.ifCond .eq 5, 3) := by decide +kernel
theorem dX11_otherOn_40 : decode cX11_otherOn 40 = .ok (.iload_n 3, 1) := by decide +kernel
theorem dX11_otherOn_41 : decode cX11_otherOn 41 = .ok (.ireturn, 1) := by decide +kernel
theorem dX11_otherOn_42 : decode cX11_otherOn 42 = .ok (.iinc 3 1, 3) := by decide +kernel
theorem dX11_otherOn_45 : decode cX11_otherOn 45 = .ok (.goto (-43), 3) := by decide +kernel
theorem dX11_otherOn_48 : decode cX11_otherOn 48 = .ok (.iconst (-1), 1) := by decide +kernel
theorem dX11_otherOn_49 : decode cX11_otherOn 49 = .ok (.ireturn, 1) := by decide +kernel
theorem dX11_hinders_0 : decode cX11_hinders 0 = .ok (.aload_n 0, 1) := by decide +kernel
theorem dX11_hinders_1 : decode cX11_hinders 1 = .ok (.iload_n 1, 1) := by decide +kernel
theorem dX11_hinders_2 : decode cX11_hinders 2 = .ok (.invokevirtual 124, 3) := by decide +kernel
theorem dX11_hinders_5 : decode cX11_hinders 5 = .ok (.ifCond .eq 20, 3) := by decide +kernel
theorem dX11_hinders_8 : decode cX11_hinders 8 = .ok (.aload_n 0, 1) := by decide +kernel
theorem dX11_hinders_9 : decode cX11_hinders 9 = .ok (.iload_n 2, 1) := by decide +kernel
theorem dX11_hinders_10 : decode cX11_hinders 10 = .ok (.invokevirtual 128, 3) := by decide +kernel
theorem dX11_hinders_13 : decode cX11_hinders 13 = .ok (.ifCond .eq 12, 3) := by decide +kernel
theorem dX11_hinders_16 : decode cX11_hinders 16 = .ok (.aload_n 0, 1) := by decide +kernel
theorem dX11_hinders_17 : decode cX11_hinders 17 = .ok (.iload_n 1, 1) := by decide +kernel
theorem dX11_hinders_18 : decode cX11_hinders 18 = .ok (.iload_n 2, 1) := by decide +kernel
theorem dX11_hinders_19 : decode cX11_hinders 19 = .ok (.invokevirtual 163, 3) := by decide +kernel
theorem dX11_hinders_22 : decode cX11_hinders 22 = .ok (.goto 4, 3) := by decide +kernel
theorem dX11_hinders_25 : decode cX11_hinders 25 = .ok (.iconst (-1), 1) := by decide +kernel
theorem dX11_hinders_26 : decode cX11_hinders 26 = .ok (.ireturn, 1) := by decide +kernel
theorem dX11_lay_0 : decode cX11_lay 0 = .ok (.aload_n 0, 1) := by decide +kernel
theorem dX11_lay_1 : decode cX11_lay 1 = .ok (.iload_n 1, 1) := by decide +kernel
theorem dX11_lay_2 : decode cX11_lay 2 = .ok (.invokevirtual 124, 3) := by decide +kernel
theorem dX11_lay_5 : decode cX11_lay 5 = .ok (.ifCond .eq 11, 3) := by decide +kernel
theorem dX11_lay_8 : decode cX11_lay 8 = .ok (.aload_n 0, 1) := by decide +kernel
theorem dX11_lay_9 : decode cX11_lay 9 = .ok (.iload_n 2, 1) := by decide +kernel
theorem dX11_lay_10 : decode cX11_lay 10 = .ok (.invokevirtual 128, 3) := by decide +kernel
theorem dX11_lay_13 : decode cX11_lay 13 = .ok (.ifCond .ne 5, 3) := by decide +kernel
theorem dX11_lay_16 : decode cX11_lay 16 = .ok (.iconst (-1), 1) := by decide +kernel
theorem dX11_lay_17 : decode cX11_lay 17 = .ok (.ireturn, 1) := by decide +kernel
theorem dX11_lay_18 : decode cX11_lay 18 = .ok (.aload_n 0, 1) := by decide +kernel
theorem dX11_lay_19 : decode cX11_lay 19 = .ok (.getfield 44, 3) := by decide +kernel
theorem dX11_lay_22 : decode cX11_lay 22 = .ok (.iload_n 1, 1) := by decide +kernel
theorem dX11_lay_23 : decode cX11_lay 23 = .ok (.baload, 1) := by decide +kernel
theorem dX11_lay_24 : decode cX11_lay 24 = .ok (.ifCond .eq 6, 3) := by decide +kernel
theorem dX11_lay_27 : decode cX11_lay 27 = .ok (.bipush (-3), 2) := by decide +kernel
theorem dX11_lay_29 : decode cX11_lay 29 = .ok (.ireturn, 1) := by decide +kernel
theorem dX11_lay_30 : decode cX11_lay 30 = .ok (.aload_n 0, 1) := by decide +kernel
theorem dX11_lay_31 : decode cX11_lay 31 = .ok (.iload_n 1, 1) := by decide +kernel
theorem dX11_lay_32 : decode cX11_lay 32 = .ok (.iload_n 2, 1) := by decide +kernel
theorem dX11_lay_33 : decode cX11_lay 33 = .ok (.invokevirtual 163, 3) := by decide +kernel
theorem dX11_lay_36 : decode cX11_lay 36 = .ok (.istore_n 3, 1) := by decide +kernel
theorem dX11_lay_37 : decode cX11_lay 37 = .ok (.aload_n 0, 1) := by decide +kernel
theorem dX11_lay_38 : decode cX11_lay 38 = .ok (.getfield 38, 3) := by decide +kernel
theorem dX11_lay_41 : decode cX11_lay 41 = .ok (.iload_n 1, 1) := by decide +kernel
theorem dX11_lay_42 : decode cX11_lay 42 = .ok (.iload_n 3, 1) := by decide +kernel
theorem dX11_lay_43 : decode cX11_lay 43 = .ok (.ifCond .ne 7, 3) := by decide +kernel
theorem dX11_lay_46 : decode cX11_lay 46 = .ok (.iload_n 2, 1) := by decide +kernel
theorem dX11_lay_47 : decode cX11_lay 47 = .ok (.goto 9, 3) := by decide +kernel
theorem dX11_lay_50 : decode cX11_lay 50 = .ok (.aload_n 0, 1) := by decide +kernel
theorem dX11_lay_51 : decode cX11_lay 51 = .ok (.getfield 38, 3) := by decide +kernel
theorem dX11_lay_54 : decode cX11_lay 54 = .ok (.iload_n 1, 1) := by decide +kernel
theorem dX11_lay_55 : decode cX11_lay 55 = .ok (.iaload, 1) := by decide +kernel
theorem dX11_lay_56 : decode cX11_lay 56 = .ok (.iastore, 1) := by decide +kernel
theorem dX11_lay_57 : decode cX11_lay 57 = .ok (.iload_n 3, 1) := by decide +kernel
theorem dX11_lay_58 : decode cX11_lay 58 = .ok (.ireturn, 1) := by decide +kernel
theorem dX11_take_0 : decode cX11_take 0 = .ok (.aload_n 0, 1) := by decide +kernel
theorem dX11_take_1 : decode cX11_take 1 = .ok (.iload_n 1, 1) := by decide +kernel
theorem dX11_take_2 : decode cX11_take 2 = .ok (.invokevirtual 166, 3) := by decide +kernel
theorem dX11_take_5 : decode cX11_take 5 = .ok (.ifCond .ne 5, 3) := by decide +kernel
theorem dX11_take_8 : decode cX11_take 8 = .ok (.iconst (-1), 1) := by decide +kernel
theorem dX11_take_9 : decode cX11_take 9 = .ok (.ireturn, 1) := by decide +kernel
theorem dX11_take_10 : decode cX11_take 10 = .ok (.aload_n 0, 1) := by decide +kernel
theorem dX11_take_11 : decode cX11_take 11 = .ok (.getfield 44, 3) := by decide +kernel
theorem dX11_take_14 : decode cX11_take 14 = .ok (.iload_n 1, 1) := by decide +kernel
theorem dX11_take_15 : decode cX11_take 15 = .ok (.baload, 1) := by decide +kernel
theorem dX11_take_16 : decode cX11_take 16 = .ok (.ifCond .eq 6, 3) := by decide +kernel
theorem dX11_take_19 : decode cX11_take 19 = .ok (.bipush (-3), 2) := by decide +kernel
theorem dX11_take_21 : decode cX11_take 21 = .ok (.ireturn, 1) := by decide +kernel
theorem dX11_take_22 : decode cX11_take 22 = .ok (.aload_n 0, 1) := by decide +kernel
theorem dX11_take_23 : decode cX11_take 23 = .ok (.getfield 38, 3) := by decide +kernel
theorem dX11_take_26 : decode cX11_take 26 = .ok (.iload_n 1, 1) := by decide +kernel
theorem dX11_take_27 : decode cX11_take 27 = .ok (.iaload, 1) := by decide +kernel
theorem dX11_take_28 : decode cX11_take 28 = .ok (.istore_n 2, 1) := by decide +kernel
theorem dX11_take_29 : decode cX11_take 29 = .ok (.aload_n 0, 1) := by decide +kernel
theorem dX11_take_30 : decode cX11_take 30 = .ok (.getfield 38, 3) := by decide +kernel
theorem dX11_take_33 : decode cX11_take 33 = .ok (.iload_n 1, 1) := by decide +kernel
theorem dX11_take_34 : decode cX11_take 34 = .ok (.iconst (-1), 1) := by decide +kernel
theorem dX11_take_35 : decode cX11_take 35 = .ok (.iastore, 1) := by decide +kernel
theorem dX11_take_36 : decode cX11_take 36 = .ok (.iload_n 2, 1) := by decide +kernel
theorem dX11_take_37 : decode cX11_take 37 = .ok (.ireturn, 1) := by decide +kernel
theorem dX11_marksOf_0 : decode cX11_marksOf 0 = .ok (.iconst 0, 1) := by decide +kernel
theorem dX11_marksOf_1 : decode cX11_marksOf 1 = .ok (.istore_n 2, 1) := by decide +kernel
theorem dX11_marksOf_2 : decode cX11_marksOf 2 = .ok (.iconst 0, 1) := by decide +kernel
theorem dX11_marksOf_3 : decode cX11_marksOf 3 = .ok (.istore_n 3, 1) := by decide +kernel
theorem dX11_marksOf_4 : decode cX11_marksOf 4 = .ok (.iload_n 3, 1) := by decide +kernel
theorem dX11_marksOf_5 : decode cX11_marksOf 5 = .ok (.aload_n 0, 1) := by decide +kernel
theorem dX11_marksOf_6 : decode cX11_marksOf 6 = .ok (.getfield 169, 3) := by decide +kernel
theorem dX11_marksOf_9 : decode cX11_marksOf 9 = .ok (.if_icmp .ge 32, 3) := by decide +kernel
theorem dX11_marksOf_12 : decode cX11_marksOf 12 = .ok (.iload_n 2, 1) := by decide +kernel
theorem dX11_marksOf_13 : decode cX11_marksOf 13 = .ok (.aload_n 0, 1) := by decide +kernel
theorem dX11_marksOf_14 : decode cX11_marksOf 14 = .ok (.getfield 78, 3) := by decide +kernel
theorem dX11_marksOf_17 : decode cX11_marksOf 17 = .ok (.bipush 9, 2) := by decide +kernel
theorem dX11_marksOf_19 : decode cX11_marksOf 19 = .ok (.iload_n 3, 1) := by decide +kernel
theorem dX11_marksOf_20 : decode cX11_marksOf 20 = .ok (.imul, 1) := by decide +kernel
theorem dX11_marksOf_21 : decode cX11_marksOf 21 = .ok (.iload_n 1, 1) := by decide +kernel
theorem dX11_marksOf_22 : decode cX11_marksOf 22 = .ok (.iadd, 1) := by decide +kernel
theorem dX11_marksOf_23 : decode cX11_marksOf 23 = .ok (.iaload, 1) := by decide +kernel
theorem dX11_marksOf_24 : decode cX11_marksOf 24 = .ok (.iconst (-1), 1) := by decide +kernel
theorem dX11_marksOf_25 : decode cX11_marksOf 25 = .ok (.if_icmp .eq 7, 3) := by decide +kernel
theorem dX11_marksOf_28 : decode cX11_marksOf 28 = .ok (.iconst 1, 1) := by decide +kernel
theorem dX11_marksOf_29 : decode cX11_marksOf 29 = .ok (.goto 4, 3) := by decide +kernel
theorem dX11_marksOf_32 : decode cX11_marksOf 32 = .ok (.iconst 0, 1) := by decide +kernel
theorem dX11_marksOf_33 : decode cX11_marksOf 33 = .ok (.iadd, 1) := by decide +kernel
theorem dX11_marksOf_34 : decode cX11_marksOf 34 = .ok (.istore_n 2, 1) := by decide +kernel
theorem dX11_marksOf_35 : decode cX11_marksOf 35 = .ok (.iinc 3 1, 3) := by decide +kernel
theorem dX11_marksOf_38 : decode cX11_marksOf 38 = .ok (.goto (-34), 3) := by decide +kernel
theorem dX11_marksOf_41 : decode cX11_marksOf 41 = .ok (.iload_n 2, 1) := by decide +kernel
theorem dX11_marksOf_42 : decode cX11_marksOf 42 = .ok (.ireturn, 1) := by decide +kernel
theorem dX11_about_0 : decode cX11_about 0 = .ok (.aload_n 0, 1) := by decide +kernel
theorem dX11_about_1 : decode cX11_about 1 = .ok (.iload_n 1, 1) := by decide +kernel
theorem dX11_about_2 : decode cX11_about 2 = .ok (.invokevirtual 124, 3) := by decide +kernel
theorem dX11_about_5 : decode cX11_about 5 = .ok (.ifCond .ne 5, 3) := by decide +kernel
theorem dX11_about_8 : decode cX11_about 8 = .ok (.iconst (-1), 1) := by decide +kernel
theorem dX11_about_9 : decode cX11_about 9 = .ok (.ireturn, 1) := by decide +kernel
theorem dX11_about_10 : decode cX11_about 10 = .ok (.iload_n 2, 1) := by decide +kernel
theorem dX11_about_11 : decode cX11_about 11 = .ok (.tableswitch 97 0 6 #[41, 48, 55, 62, 69, 84, 91], 41) := by decide +kernel
theorem dX11_about_52 : decode cX11_about 52 = .ok (.aload_n 0, 1) := by decide +kernel
theorem dX11_about_53 : decode cX11_about 53 = .ok (.getfield 20, 3) := by decide +kernel
theorem dX11_about_56 : decode cX11_about 56 = .ok (.iload_n 1, 1) := by decide +kernel
theorem dX11_about_57 : decode cX11_about 57 = .ok (.iaload, 1) := by decide +kernel
theorem dX11_about_58 : decode cX11_about 58 = .ok (.ireturn, 1) := by decide +kernel
theorem dX11_about_59 : decode cX11_about 59 = .ok (.aload_n 0, 1) := by decide +kernel
theorem dX11_about_60 : decode cX11_about 60 = .ok (.getfield 23, 3) := by decide +kernel
theorem dX11_about_63 : decode cX11_about 63 = .ok (.iload_n 1, 1) := by decide +kernel
theorem dX11_about_64 : decode cX11_about 64 = .ok (.iaload, 1) := by decide +kernel
theorem dX11_about_65 : decode cX11_about 65 = .ok (.ireturn, 1) := by decide +kernel
theorem dX11_about_66 : decode cX11_about 66 = .ok (.aload_n 0, 1) := by decide +kernel
theorem dX11_about_67 : decode cX11_about 67 = .ok (.getfield 26, 3) := by decide +kernel
theorem dX11_about_70 : decode cX11_about 70 = .ok (.iload_n 1, 1) := by decide +kernel
theorem dX11_about_71 : decode cX11_about 71 = .ok (.iaload, 1) := by decide +kernel
theorem dX11_about_72 : decode cX11_about 72 = .ok (.ireturn, 1) := by decide +kernel
theorem dX11_about_73 : decode cX11_about 73 = .ok (.aload_n 0, 1) := by decide +kernel
theorem dX11_about_74 : decode cX11_about 74 = .ok (.getfield 38, 3) := by decide +kernel
theorem dX11_about_77 : decode cX11_about 77 = .ok (.iload_n 1, 1) := by decide +kernel
theorem dX11_about_78 : decode cX11_about 78 = .ok (.iaload, 1) := by decide +kernel
theorem dX11_about_79 : decode cX11_about 79 = .ok (.ireturn, 1) := by decide +kernel
theorem dX11_about_80 : decode cX11_about 80 = .ok (.aload_n 0, 1) := by decide +kernel
theorem dX11_about_81 : decode cX11_about 81 = .ok (.getfield 44, 3) := by decide +kernel
theorem dX11_about_84 : decode cX11_about 84 = .ok (.iload_n 1, 1) := by decide +kernel
theorem dX11_about_85 : decode cX11_about 85 = .ok (.baload, 1) := by decide +kernel
theorem dX11_about_86 : decode cX11_about 86 = .ok (.ifCond .eq 7, 3) := by decide +kernel
theorem dX11_about_89 : decode cX11_about 89 = .ok (.iconst 1, 1) := by decide +kernel
theorem dX11_about_90 : decode cX11_about 90 = .ok (.goto 4, 3) := by decide +kernel
theorem dX11_about_93 : decode cX11_about 93 = .ok (.iconst 0, 1) := by decide +kernel
theorem dX11_about_94 : decode cX11_about 94 = .ok (.ireturn, 1) := by decide +kernel
theorem dX11_about_95 : decode cX11_about 95 = .ok (.aload_n 0, 1) := by decide +kernel
theorem dX11_about_96 : decode cX11_about 96 = .ok (.getfield 41, 3) := by decide +kernel
theorem dX11_about_99 : decode cX11_about 99 = .ok (.iload_n 1, 1) := by decide +kernel
theorem dX11_about_100 : decode cX11_about 100 = .ok (.iaload, 1) := by decide +kernel
theorem dX11_about_101 : decode cX11_about 101 = .ok (.ireturn, 1) := by decide +kernel
theorem dX11_about_102 : decode cX11_about 102 = .ok (.aload_n 0, 1) := by decide +kernel
theorem dX11_about_103 : decode cX11_about 103 = .ok (.iload_n 1, 1) := by decide +kernel
theorem dX11_about_104 : decode cX11_about 104 = .ok (.invokevirtual 172, 3) := by decide +kernel
theorem dX11_about_107 : decode cX11_about 107 = .ok (.ireturn, 1) := by decide +kernel
theorem dX11_about_108 : decode cX11_about 108 = .ok (.iconst (-1), 1) := by decide +kernel
theorem dX11_about_109 : decode cX11_about 109 = .ok (.ireturn, 1) := by decide +kernel
theorem dX11_at_0 : decode cX11_at 0 = .ok (.aload_n 0, 1) := by decide +kernel
theorem dX11_at_1 : decode cX11_at 1 = .ok (.iload_n 1, 1) := by decide +kernel
theorem dX11_at_2 : decode cX11_at 2 = .ok (.invokevirtual 128, 3) := by decide +kernel
theorem dX11_at_5 : decode cX11_at 5 = .ok (.ifCond .eq 11, 3) := by decide +kernel
theorem dX11_at_8 : decode cX11_at 8 = .ok (.aload_n 0, 1) := by decide +kernel
theorem dX11_at_9 : decode cX11_at 9 = .ok (.iload_n 1, 1) := by decide +kernel
theorem dX11_at_10 : decode cX11_at 10 = .ok (.invokevirtual 176, 3) := by decide +kernel
theorem dX11_at_13 : decode cX11_at 13 = .ok (.goto 4, 3) := by decide +kernel
theorem dX11_at_16 : decode cX11_at 16 = .ok (.iconst (-1), 1) := by decide +kernel
theorem dX11_at_17 : decode cX11_at 17 = .ok (.ireturn, 1) := by decide +kernel
theorem dX11_apart_0 : decode cX11_apart 0 = .ok (.iload_n 0, 1) := by decide +kernel
theorem dX11_apart_1 : decode cX11_apart 1 = .ok (.iload_n 1, 1) := by decide +kernel
theorem dX11_apart_2 : decode cX11_apart 2 = .ok (.if_icmp .ge 9, 3) := by decide +kernel
theorem dX11_apart_5 : decode cX11_apart 5 = .ok (.iload_n 1, 1) := by decide +kernel
theorem dX11_apart_6 : decode cX11_apart 6 = .ok (.iload_n 0, 1) := by decide +kernel
theorem dX11_apart_7 : decode cX11_apart 7 = .ok (.isub, 1) := by decide +kernel
theorem dX11_apart_8 : decode cX11_apart 8 = .ok (.goto 6, 3) := by decide +kernel
theorem dX11_apart_11 : decode cX11_apart 11 = .ok (.iload_n 0, 1) := by decide +kernel
theorem dX11_apart_12 : decode cX11_apart 12 = .ok (.iload_n 1, 1) := by decide +kernel
theorem dX11_apart_13 : decode cX11_apart 13 = .ok (.isub, 1) := by decide +kernel
theorem dX11_apart_14 : decode cX11_apart 14 = .ok (.ireturn, 1) := by decide +kernel
theorem dX11_priced_0 : decode cX11_priced 0 = .ok (.iconst 0, 1) := by decide +kernel
theorem dX11_priced_1 : decode cX11_priced 1 = .ok (.istore_n 1, 1) := by decide +kernel
theorem dX11_priced_2 : decode cX11_priced 2 = .ok (.iconst 0, 1) := by decide +kernel
theorem dX11_priced_3 : decode cX11_priced 3 = .ok (.istore_n 2, 1) := by decide +kernel
theorem dX11_priced_4 : decode cX11_priced 4 = .ok (.iload_n 2, 1) := by decide +kernel
theorem dX11_priced_5 : decode cX11_priced 5 = .ok (.aload_n 0, 1) := by decide +kernel
theorem dX11_priced_6 : decode cX11_priced 6 = .ok (.getfield 121, 3) := by decide +kernel
theorem dX11_priced_9 : decode cX11_priced 9 = .ok (.if_icmp .ge 141, 3) := by decide +kernel
theorem dX11_priced_12 : decode cX11_priced 12 = .ok (.iconst 0, 1) := by decide +kernel
theorem dX11_priced_13 : decode cX11_priced 13 = .ok (.istore_n 3, 1) := by decide +kernel
theorem dX11_priced_14 : decode cX11_priced 14 = .ok (.iload_n 3, 1) := by decide +kernel
theorem dX11_priced_15 : decode cX11_priced 15 = .ok (.iload_n 2, 1) := by decide +kernel
theorem dX11_priced_16 : decode cX11_priced 16 = .ok (.if_icmp .ge 128, 3) := by decide +kernel
theorem dX11_priced_19 : decode cX11_priced 19 = .ok (.aload_n 0, 1) := by decide +kernel
theorem dX11_priced_20 : decode cX11_priced 20 = .ok (.getfield 38, 3) := by decide +kernel
theorem dX11_priced_23 : decode cX11_priced 23 = .ok (.iload_n 2, 1) := by decide +kernel
theorem dX11_priced_24 : decode cX11_priced 24 = .ok (.iaload, 1) := by decide +kernel
theorem dX11_priced_25 : decode cX11_priced 25 = .ok (.iconst (-1), 1) := by decide +kernel
theorem dX11_priced_26 : decode cX11_priced 26 = .ok (.if_icmp .eq 112, 3) := by decide +kernel
theorem dX11_priced_29 : decode cX11_priced 29 = .ok (.aload_n 0, 1) := by decide +kernel
theorem dX11_priced_30 : decode cX11_priced 30 = .ok (.getfield 38, 3) := by decide +kernel
theorem dX11_priced_33 : decode cX11_priced 33 = .ok (.iload_n 3, 1) := by decide +kernel
theorem dX11_priced_34 : decode cX11_priced 34 = .ok (.iaload, 1) := by decide +kernel
theorem dX11_priced_35 : decode cX11_priced 35 = .ok (.iconst (-1), 1) := by decide +kernel
theorem dX11_priced_36 : decode cX11_priced 36 = .ok (.if_icmp .eq 102, 3) := by decide +kernel
theorem dX11_priced_39 : decode cX11_priced 39 = .ok (.aload_n 0, 1) := by decide +kernel
theorem dX11_priced_40 : decode cX11_priced 40 = .ok (.getfield 38, 3) := by decide +kernel
theorem dX11_priced_43 : decode cX11_priced 43 = .ok (.iload_n 2, 1) := by decide +kernel
theorem dX11_priced_44 : decode cX11_priced 44 = .ok (.iaload, 1) := by decide +kernel
theorem dX11_priced_45 : decode cX11_priced 45 = .ok (.aload_n 0, 1) := by decide +kernel
theorem dX11_priced_46 : decode cX11_priced 46 = .ok (.getfield 111, 3) := by decide +kernel
theorem dX11_priced_49 : decode cX11_priced 49 = .ok (.irem, 1) := by decide +kernel
theorem dX11_priced_50 : decode cX11_priced 50 = .ok (.aload_n 0, 1) := by decide +kernel
theorem dX11_priced_51 : decode cX11_priced 51 = .ok (.getfield 38, 3) := by decide +kernel
theorem dX11_priced_54 : decode cX11_priced 54 = .ok (.iload_n 3, 1) := by decide +kernel
theorem dX11_priced_55 : decode cX11_priced 55 = .ok (.iaload, 1) := by decide +kernel
theorem dX11_priced_56 : decode cX11_priced 56 = .ok (.aload_n 0, 1) := by decide +kernel
theorem dX11_priced_57 : decode cX11_priced 57 = .ok (.getfield 111, 3) := by decide +kernel
theorem dX11_priced_60 : decode cX11_priced 60 = .ok (.irem, 1) := by decide +kernel
theorem dX11_priced_61 : decode cX11_priced 61 = .ok (.invokestatic 179, 3) := by decide +kernel
theorem dX11_priced_64 : decode cX11_priced 64 = .ok (.aload_n 0, 1) := by decide +kernel
theorem dX11_priced_65 : decode cX11_priced 65 = .ok (.getfield 38, 3) := by decide +kernel
theorem dX11_priced_68 : decode cX11_priced 68 = .ok (.iload_n 2, 1) := by decide +kernel
theorem dX11_priced_69 : decode cX11_priced 69 = .ok (.iaload, 1) := by decide +kernel
theorem dX11_priced_70 : decode cX11_priced 70 = .ok (.aload_n 0, 1) := by decide +kernel
theorem dX11_priced_71 : decode cX11_priced 71 = .ok (.getfield 111, 3) := by decide +kernel
theorem dX11_priced_74 : decode cX11_priced 74 = .ok (.idiv, 1) := by decide +kernel
theorem dX11_priced_75 : decode cX11_priced 75 = .ok (.aload_n 0, 1) := by decide +kernel
theorem dX11_priced_76 : decode cX11_priced 76 = .ok (.getfield 38, 3) := by decide +kernel
theorem dX11_priced_79 : decode cX11_priced 79 = .ok (.iload_n 3, 1) := by decide +kernel
theorem dX11_priced_80 : decode cX11_priced 80 = .ok (.iaload, 1) := by decide +kernel
theorem dX11_priced_81 : decode cX11_priced 81 = .ok (.aload_n 0, 1) := by decide +kernel
theorem dX11_priced_82 : decode cX11_priced 82 = .ok (.getfield 111, 3) := by decide +kernel
theorem dX11_priced_85 : decode cX11_priced 85 = .ok (.idiv, 1) := by decide +kernel
theorem dX11_priced_86 : decode cX11_priced 86 = .ok (.invokestatic 179, 3) := by decide +kernel
theorem dX11_priced_89 : decode cX11_priced 89 = .ok (.iadd, 1) := by decide +kernel
theorem dX11_priced_90 : decode cX11_priced 90 = .ok (.istore 4, 2) := by decide +kernel
theorem dX11_priced_92 : decode cX11_priced 92 = .ok (.iload_n 1, 1) := by decide +kernel
theorem dX11_priced_93 : decode cX11_priced 93 = .ok (.aload_n 0, 1) := by decide +kernel
theorem dX11_priced_94 : decode cX11_priced 94 = .ok (.getfield 26, 3) := by decide +kernel
theorem dX11_priced_97 : decode cX11_priced 97 = .ok (.iload_n 2, 1) := by decide +kernel
theorem dX11_priced_98 : decode cX11_priced 98 = .ok (.iaload, 1) := by decide +kernel
theorem dX11_priced_99 : decode cX11_priced 99 = .ok (.aload_n 0, 1) := by decide +kernel
theorem dX11_priced_100 : decode cX11_priced 100 = .ok (.getfield 26, 3) := by decide +kernel
theorem dX11_priced_103 : decode cX11_priced 103 = .ok (.iload_n 3, 1) := by decide +kernel
theorem dX11_priced_104 : decode cX11_priced 104 = .ok (.iaload, 1) := by decide +kernel
theorem dX11_priced_105 : decode cX11_priced 105 = .ok (.if_icmp .ne 8, 3) := by decide +kernel
theorem dX11_priced_108 : decode cX11_priced 108 = .ok (.iload 4, 2) := by decide +kernel
theorem dX11_priced_110 : decode cX11_priced 110 = .ok (.goto 4, 3) := by decide +kernel
theorem dX11_priced_113 : decode cX11_priced 113 = .ok (.iconst 0, 1) := by decide +kernel
theorem dX11_priced_114 : decode cX11_priced 114 = .ok (.aload_n 0, 1) := by decide +kernel
theorem dX11_priced_115 : decode cX11_priced 115 = .ok (.getfield 23, 3) := by decide +kernel
theorem dX11_priced_118 : decode cX11_priced 118 = .ok (.iload_n 2, 1) := by decide +kernel
theorem dX11_priced_119 : decode cX11_priced 119 = .ok (.iaload, 1) := by decide +kernel
theorem dX11_priced_120 : decode cX11_priced 120 = .ok (.aload_n 0, 1) := by decide +kernel
theorem dX11_priced_121 : decode cX11_priced 121 = .ok (.getfield 23, 3) := by decide +kernel
theorem dX11_priced_124 : decode cX11_priced 124 = .ok (.iload_n 3, 1) := by decide +kernel
theorem dX11_priced_125 : decode cX11_priced 125 = .ok (.iaload, 1) := by decide +kernel
theorem dX11_priced_126 : decode cX11_priced 126 = .ok (.if_icmp .ne 8, 3) := by decide +kernel
theorem dX11_priced_129 : decode cX11_priced 129 = .ok (.iload 4, 2) := by decide +kernel
theorem dX11_priced_131 : decode cX11_priced 131 = .ok (.goto 4, 3) := by decide +kernel
theorem dX11_priced_134 : decode cX11_priced 134 = .ok (.iconst 0, 1) := by decide +kernel
theorem dX11_priced_135 : decode cX11_priced 135 = .ok (.iadd, 1) := by decide +kernel
theorem dX11_priced_136 : decode cX11_priced 136 = .ok (.iadd, 1) := by decide +kernel
theorem dX11_priced_137 : decode cX11_priced 137 = .ok (.istore_n 1, 1) := by decide +kernel
theorem dX11_priced_138 : decode cX11_priced 138 = .ok (.iinc 3 1, 3) := by decide +kernel
theorem dX11_priced_141 : decode cX11_priced 141 = .ok (.goto (-127), 3) := by decide +kernel
theorem dX11_priced_144 : decode cX11_priced 144 = .ok (.iinc 2 1, 3) := by decide +kernel
theorem dX11_priced_147 : decode cX11_priced 147 = .ok (.goto (-143), 3) := by decide +kernel
theorem dX11_priced_150 : decode cX11_priced 150 = .ok (.iload_n 1, 1) := by decide +kernel
theorem dX11_priced_151 : decode cX11_priced 151 = .ok (.ireturn, 1) := by decide +kernel
theorem dX11_price_0 : decode cX11_price 0 = .ok (.aload_n 0, 1) := by decide +kernel
theorem dX11_price_1 : decode cX11_price 1 = .ok (.invokevirtual 182, 3) := by decide +kernel
theorem dX11_price_4 : decode cX11_price 4 = .ok (.ireturn, 1) := by decide +kernel
theorem dX11_betters_0 : decode cX11_betters 0 = .ok (.aload_n 0, 1) := by decide +kernel
theorem dX11_betters_1 : decode cX11_betters 1 = .ok (.invokevirtual 182, 3) := by decide +kernel
theorem dX11_betters_4 : decode cX11_betters 4 = .ok (.istore_n 1, 1) := by decide +kernel
theorem dX11_betters_5 : decode cX11_betters 5 = .ok (.iconst 0, 1) := by decide +kernel
theorem dX11_betters_6 : decode cX11_betters 6 = .ok (.istore_n 2, 1) := by decide +kernel
theorem dX11_betters_7 : decode cX11_betters 7 = .ok (.iload_n 2, 1) := by decide +kernel
theorem dX11_betters_8 : decode cX11_betters 8 = .ok (.aload_n 0, 1) := by decide +kernel
theorem dX11_betters_9 : decode cX11_betters 9 = .ok (.getfield 121, 3) := by decide +kernel
theorem dX11_betters_12 : decode cX11_betters 12 = .ok (.if_icmp .ge 85, 3) := by decide +kernel
theorem dX11_betters_15 : decode cX11_betters 15 = .ok (.aload_n 0, 1) := by decide +kernel
theorem dX11_betters_16 : decode cX11_betters 16 = .ok (.getfield 38, 3) := by decide +kernel
theorem dX11_betters_19 : decode cX11_betters 19 = .ok (.iload_n 2, 1) := by decide +kernel
theorem dX11_betters_20 : decode cX11_betters 20 = .ok (.iaload, 1) := by decide +kernel
theorem dX11_betters_21 : decode cX11_betters 21 = .ok (.istore_n 3, 1) := by decide +kernel
theorem dX11_betters_22 : decode cX11_betters 22 = .ok (.iconst 0, 1) := by decide +kernel
theorem dX11_betters_23 : decode cX11_betters 23 = .ok (.istore 4, 2) := by decide +kernel
theorem dX11_betters_25 : decode cX11_betters 25 = .ok (.iload 4, 2) := by decide +kernel
theorem dX11_betters_27 : decode cX11_betters 27 = .ok (.aload_n 0, 1) := by decide +kernel
theorem dX11_betters_28 : decode cX11_betters 28 = .ok (.getfield 111, 3) := by decide +kernel
theorem dX11_betters_31 : decode cX11_betters 31 = .ok (.aload_n 0, 1) := by decide +kernel
theorem dX11_betters_32 : decode cX11_betters 32 = .ok (.getfield 114, 3) := by decide +kernel
theorem dX11_betters_35 : decode cX11_betters 35 = .ok (.imul, 1) := by decide +kernel
theorem dX11_betters_36 : decode cX11_betters 36 = .ok (.if_icmp .ge 55, 3) := by decide +kernel
theorem dX11_betters_39 : decode cX11_betters 39 = .ok (.iload_n 3, 1) := by decide +kernel
theorem dX11_betters_40 : decode cX11_betters 40 = .ok (.iconst (-1), 1) := by decide +kernel
theorem dX11_betters_41 : decode cX11_betters 41 = .ok (.if_icmp .eq 50, 3) := by decide +kernel
theorem dX11_betters_44 : decode cX11_betters 44 = .ok (.iload 4, 2) := by decide +kernel
theorem dX11_betters_46 : decode cX11_betters 46 = .ok (.iload_n 3, 1) := by decide +kernel
theorem dX11_betters_47 : decode cX11_betters 47 = .ok (.if_icmp .eq 38, 3) := by decide +kernel
theorem dX11_betters_50 : decode cX11_betters 50 = .ok (.aload_n 0, 1) := by decide +kernel
theorem dX11_betters_51 : decode cX11_betters 51 = .ok (.iload_n 2, 1) := by decide +kernel
theorem dX11_betters_52 : decode cX11_betters 52 = .ok (.iload 4, 2) := by decide +kernel
theorem dX11_betters_54 : decode cX11_betters 54 = .ok (.invokevirtual 163, 3) := by decide +kernel
theorem dX11_betters_57 : decode cX11_betters 57 = .ok (.ifCond .ne 28, 3) := by decide +kernel
theorem dX11_betters_60 : decode cX11_betters 60 = .ok (.aload_n 0, 1) := by decide +kernel
theorem dX11_betters_61 : decode cX11_betters 61 = .ok (.getfield 38, 3) := by decide +kernel
theorem dX11_betters_64 : decode cX11_betters 64 = .ok (.iload_n 2, 1) := by decide +kernel
theorem dX11_betters_65 : decode cX11_betters 65 = .ok (.iload 4, 2) := by decide +kernel
theorem dX11_betters_67 : decode cX11_betters 67 = .ok (.iastore, 1) := by decide +kernel
theorem dX11_betters_68 : decode cX11_betters 68 = .ok (.aload_n 0, 1) := by decide +kernel
theorem dX11_betters_69 : decode cX11_betters 69 = .ok (.invokevirtual 182, 3) := by decide +kernel
theorem dX11_betters_72 : decode cX11_betters 72 = .ok (.iload_n 1, 1) := by decide +kernel
theorem dX11_betters_73 : decode cX11_betters 73 = .ok (.if_icmp .ge 5, 3) := by decide +kernel
theorem dX11_betters_76 : decode cX11_betters 76 = .ok (.iconst 1, 1) := by decide +kernel
theorem dX11_betters_77 : decode cX11_betters 77 = .ok (.ireturn, 1) := by decide +kernel
theorem dX11_betters_78 : decode cX11_betters 78 = .ok (.aload_n 0, 1) := by decide +kernel
theorem dX11_betters_79 : decode cX11_betters 79 = .ok (.getfield 38, 3) := by decide +kernel
theorem dX11_betters_82 : decode cX11_betters 82 = .ok (.iload_n 2, 1) := by decide +kernel
theorem dX11_betters_83 : decode cX11_betters 83 = .ok (.iload_n 3, 1) := by decide +kernel
theorem dX11_betters_84 : decode cX11_betters 84 = .ok (.iastore, 1) := by decide +kernel
theorem dX11_betters_85 : decode cX11_betters 85 = .ok (.iinc 4 1, 3) := by decide +kernel
theorem dX11_betters_88 : decode cX11_betters 88 = .ok (.goto (-63), 3) := by decide +kernel
theorem dX11_betters_91 : decode cX11_betters 91 = .ok (.iinc 2 1, 3) := by decide +kernel
theorem dX11_betters_94 : decode cX11_betters 94 = .ok (.goto (-87), 3) := by decide +kernel
theorem dX11_betters_97 : decode cX11_betters 97 = .ok (.iconst 0, 1) := by decide +kernel
theorem dX11_betters_98 : decode cX11_betters 98 = .ok (.ireturn, 1) := by decide +kernel
theorem dX11_better_0 : decode cX11_better 0 = .ok (.aload_n 0, 1) := by decide +kernel
theorem dX11_better_1 : decode cX11_better 1 = .ok (.invokevirtual 185, 3) := by decide +kernel
theorem dX11_better_4 : decode cX11_better 4 = .ok (.ifCond .le 6, 3) := by decide +kernel
theorem dX11_better_7 : decode cX11_better 7 = .ok (.bipush (-3), 2) := by decide +kernel
theorem dX11_better_9 : decode cX11_better 9 = .ok (.ireturn, 1) := by decide +kernel
theorem dX11_better_10 : decode cX11_better 10 = .ok (.iconst 0, 1) := by decide +kernel
theorem dX11_better_11 : decode cX11_better 11 = .ok (.istore_n 1, 1) := by decide +kernel
theorem dX11_better_12 : decode cX11_better 12 = .ok (.iload_n 1, 1) := by decide +kernel
theorem dX11_better_13 : decode cX11_better 13 = .ok (.bipush 50, 2) := by decide +kernel
theorem dX11_better_15 : decode cX11_better 15 = .ok (.if_icmp .ge 16, 3) := by decide +kernel
theorem dX11_better_18 : decode cX11_better 18 = .ok (.aload_n 0, 1) := by decide +kernel
theorem dX11_better_19 : decode cX11_better 19 = .ok (.invokevirtual 188, 3) := by decide +kernel
theorem dX11_better_22 : decode cX11_better 22 = .ok (.ifCond .eq 9, 3) := by decide +kernel
theorem dX11_better_25 : decode cX11_better 25 = .ok (.iinc 1 1, 3) := by decide +kernel
theorem dX11_better_28 : decode cX11_better 28 = .ok (.goto (-16), 3) := by decide +kernel
theorem dX11_better_31 : decode cX11_better 31 = .ok (.iload_n 1, 1) := by decide +kernel
theorem dX11_better_32 : decode cX11_better 32 = .ok (.ireturn, 1) := by decide +kernel
theorem dX11_reaches_0 : decode cX11_reaches 0 = .ok (.aload_n 0, 1) := by decide +kernel
theorem dX11_reaches_1 : decode cX11_reaches 1 = .ok (.iload_n 1, 1) := by decide +kernel
theorem dX11_reaches_2 : decode cX11_reaches 2 = .ok (.invokevirtual 176, 3) := by decide +kernel
theorem dX11_reaches_5 : decode cX11_reaches 5 = .ok (.istore_n 3, 1) := by decide +kernel
theorem dX11_reaches_6 : decode cX11_reaches 6 = .ok (.aload_n 0, 1) := by decide +kernel
theorem dX11_reaches_7 : decode cX11_reaches 7 = .ok (.getfield 93, 3) := by decide +kernel
theorem dX11_reaches_10 : decode cX11_reaches 10 = .ok (.iload_n 1, 1) := by decide +kernel
theorem dX11_reaches_11 : decode cX11_reaches 11 = .ok (.baload, 1) := by decide +kernel
theorem dX11_reaches_12 : decode cX11_reaches 12 = .ok (.ifCond .ne 37, 3) := by decide +kernel
theorem dX11_reaches_15 : decode cX11_reaches 15 = .ok (.aload_n 0, 1) := by decide +kernel
theorem dX11_reaches_16 : decode cX11_reaches 16 = .ok (.getfield 7, 3) := by decide +kernel
theorem dX11_reaches_19 : decode cX11_reaches 19 = .ok (.iload_n 1, 1) := by decide +kernel
theorem dX11_reaches_20 : decode cX11_reaches 20 = .ok (.iaload, 1) := by decide +kernel
theorem dX11_reaches_21 : decode cX11_reaches 21 = .ok (.iconst 2, 1) := by decide +kernel
theorem dX11_reaches_22 : decode cX11_reaches 22 = .ok (.if_icmp .eq 27, 3) := by decide +kernel
theorem dX11_reaches_25 : decode cX11_reaches 25 = .ok (.aload_n 0, 1) := by decide +kernel
theorem dX11_reaches_26 : decode cX11_reaches 26 = .ok (.getfield 7, 3) := by decide +kernel
theorem dX11_reaches_29 : decode cX11_reaches 29 = .ok (.iload_n 1, 1) := by decide +kernel
theorem dX11_reaches_30 : decode cX11_reaches 30 = .ok (.iaload, 1) := by decide +kernel
theorem dX11_reaches_31 : decode cX11_reaches 31 = .ok (.iconst 3, 1) := by decide +kernel
theorem dX11_reaches_32 : decode cX11_reaches 32 = .ok (.if_icmp .eq 17, 3) := by decide +kernel
theorem dX11_reaches_35 : decode cX11_reaches 35 = .ok (.iload_n 3, 1) := by decide +kernel
theorem dX11_reaches_36 : decode cX11_reaches 36 = .ok (.iconst (-1), 1) := by decide +kernel
theorem dX11_reaches_37 : decode cX11_reaches 37 = .ok (.if_icmp .eq 13, 3) := by decide +kernel
theorem dX11_reaches_40 : decode cX11_reaches 40 = .ok (.iload_n 2, 1) := by decide +kernel
theorem dX11_reaches_41 : decode cX11_reaches 41 = .ok (.iload_n 3, 1) := by decide +kernel
theorem dX11_reaches_42 : decode cX11_reaches 42 = .ok (.ishr, 1) := by decide +kernel
theorem dX11_reaches_43 : decode cX11_reaches 43 = .ok (.iconst 1, 1) := by decide +kernel
theorem dX11_reaches_44 : decode cX11_reaches 44 = .ok (.iand, 1) := by decide +kernel
theorem dX11_reaches_45 : decode cX11_reaches 45 = .ok (.iconst 1, 1) := by decide +kernel
theorem dX11_reaches_46 : decode cX11_reaches 46 = .ok (.if_icmp .ne 4, 3) := by decide +kernel
theorem dX11_reaches_49 : decode cX11_reaches 49 = .ok (.return_, 1) := by decide +kernel
theorem dX11_reaches_50 : decode cX11_reaches 50 = .ok (.aload_n 0, 1) := by decide +kernel
theorem dX11_reaches_51 : decode cX11_reaches 51 = .ok (.getfield 93, 3) := by decide +kernel
theorem dX11_reaches_54 : decode cX11_reaches 54 = .ok (.iload_n 1, 1) := by decide +kernel
theorem dX11_reaches_55 : decode cX11_reaches 55 = .ok (.iconst 1, 1) := by decide +kernel
theorem dX11_reaches_56 : decode cX11_reaches 56 = .ok (.bastore, 1) := by decide +kernel
theorem dX11_reaches_57 : decode cX11_reaches 57 = .ok (.aload_n 0, 1) := by decide +kernel
theorem dX11_reaches_58 : decode cX11_reaches 58 = .ok (.getfield 96, 3) := by decide +kernel
theorem dX11_reaches_61 : decode cX11_reaches 61 = .ok (.aload_n 0, 1) := by decide +kernel
theorem dX11_reaches_62 : decode cX11_reaches 62 = .ok (.getfield 192, 3) := by decide +kernel
theorem dX11_reaches_65 : decode cX11_reaches 65 = .ok (.iload_n 1, 1) := by decide +kernel
theorem dX11_reaches_66 : decode cX11_reaches 66 = .ok (.iastore, 1) := by decide +kernel
theorem dX11_reaches_67 : decode cX11_reaches 67 = .ok (.aload_n 0, 1) := by decide +kernel
theorem dX11_reaches_68 : decode cX11_reaches 68 = .ok (.dup, 1) := by decide +kernel
theorem dX11_reaches_69 : decode cX11_reaches 69 = .ok (.getfield 192, 3) := by decide +kernel
theorem dX11_reaches_72 : decode cX11_reaches 72 = .ok (.iconst 1, 1) := by decide +kernel
theorem dX11_reaches_73 : decode cX11_reaches 73 = .ok (.iadd, 1) := by decide +kernel
theorem dX11_reaches_74 : decode cX11_reaches 74 = .ok (.putfield 192, 3) := by decide +kernel
theorem dX11_reaches_77 : decode cX11_reaches 77 = .ok (.return_, 1) := by decide +kernel
theorem dX11_floods_0 : decode cX11_floods 0 = .ok (.aload_n 0, 1) := by decide +kernel
theorem dX11_floods_1 : decode cX11_floods 1 = .ok (.iconst 0, 1) := by decide +kernel
theorem dX11_floods_2 : decode cX11_floods 2 = .ok (.putfield 192, 3) := by decide +kernel
theorem dX11_floods_5 : decode cX11_floods 5 = .ok (.iconst 0, 1) := by decide +kernel
theorem dX11_floods_6 : decode cX11_floods 6 = .ok (.istore_n 2, 1) := by decide +kernel
theorem dX11_floods_7 : decode cX11_floods 7 = .ok (.iload_n 2, 1) := by decide +kernel
theorem dX11_floods_8 : decode cX11_floods 8 = .ok (.bipush 64, 2) := by decide +kernel
theorem dX11_floods_10 : decode cX11_floods 10 = .ok (.if_icmp .ge 16, 3) := by decide +kernel
theorem dX11_floods_13 : decode cX11_floods 13 = .ok (.aload_n 0, 1) := by decide +kernel
theorem dX11_floods_14 : decode cX11_floods 14 = .ok (.getfield 93, 3) := by decide +kernel
theorem dX11_floods_17 : decode cX11_floods 17 = .ok (.iload_n 2, 1) := by decide +kernel
theorem dX11_floods_18 : decode cX11_floods 18 = .ok (.iconst 0, 1) := by decide +kernel
theorem dX11_floods_19 : decode cX11_floods 19 = .ok (.bastore, 1) := by decide +kernel
theorem dX11_floods_20 : decode cX11_floods 20 = .ok (.iinc 2 1, 3) := by decide +kernel
theorem dX11_floods_23 : decode cX11_floods 23 = .ok (.goto (-16), 3) := by decide +kernel
theorem dX11_floods_26 : decode cX11_floods 26 = .ok (.iconst 0, 1) := by decide +kernel
theorem dX11_floods_27 : decode cX11_floods 27 = .ok (.istore_n 2, 1) := by decide +kernel
theorem dX11_floods_28 : decode cX11_floods 28 = .ok (.iload_n 2, 1) := by decide +kernel
theorem dX11_floods_29 : decode cX11_floods 29 = .ok (.aload_n 0, 1) := by decide +kernel
theorem dX11_floods_30 : decode cX11_floods 30 = .ok (.getfield 111, 3) := by decide +kernel
theorem dX11_floods_33 : decode cX11_floods 33 = .ok (.aload_n 0, 1) := by decide +kernel
theorem dX11_floods_34 : decode cX11_floods 34 = .ok (.getfield 114, 3) := by decide +kernel
theorem dX11_floods_37 : decode cX11_floods 37 = .ok (.imul, 1) := by decide +kernel
theorem dX11_floods_38 : decode cX11_floods 38 = .ok (.if_icmp .ge 25, 3) := by decide +kernel
theorem dX11_floods_41 : decode cX11_floods 41 = .ok (.aload_n 0, 1) := by decide +kernel
theorem dX11_floods_42 : decode cX11_floods 42 = .ok (.getfield 7, 3) := by decide +kernel
theorem dX11_floods_45 : decode cX11_floods 45 = .ok (.iload_n 2, 1) := by decide +kernel
theorem dX11_floods_46 : decode cX11_floods 46 = .ok (.iaload, 1) := by decide +kernel
theorem dX11_floods_47 : decode cX11_floods 47 = .ok (.iconst 1, 1) := by decide +kernel
theorem dX11_floods_48 : decode cX11_floods 48 = .ok (.if_icmp .ne 9, 3) := by decide +kernel
theorem dX11_floods_51 : decode cX11_floods 51 = .ok (.aload_n 0, 1) := by decide +kernel
theorem dX11_floods_52 : decode cX11_floods 52 = .ok (.iload_n 2, 1) := by decide +kernel
theorem dX11_floods_53 : decode cX11_floods 53 = .ok (.iload_n 1, 1) := by decide +kernel
theorem dX11_floods_54 : decode cX11_floods 54 = .ok (.invokevirtual 195, 3) := by decide +kernel
theorem dX11_floods_57 : decode cX11_floods 57 = .ok (.iinc 2 1, 3) := by decide +kernel
theorem dX11_floods_60 : decode cX11_floods 60 = .ok (.goto (-32), 3) := by decide +kernel
theorem dX11_floods_63 : decode cX11_floods 63 = .ok (.iconst 0, 1) := by decide +kernel
theorem dX11_floods_64 : decode cX11_floods 64 = .ok (.istore_n 2, 1) := by decide +kernel
theorem dX11_floods_65 : decode cX11_floods 65 = .ok (.iload_n 2, 1) := by decide +kernel
theorem dX11_floods_66 : decode cX11_floods 66 = .ok (.aload_n 0, 1) := by decide +kernel
theorem dX11_floods_67 : decode cX11_floods 67 = .ok (.getfield 192, 3) := by decide +kernel
theorem dX11_floods_70 : decode cX11_floods 70 = .ok (.if_icmp .ge 101, 3) := by decide +kernel
theorem dX11_floods_73 : decode cX11_floods 73 = .ok (.aload_n 0, 1) := by decide +kernel
theorem dX11_floods_74 : decode cX11_floods 74 = .ok (.getfield 96, 3) := by decide +kernel
theorem dX11_floods_77 : decode cX11_floods 77 = .ok (.iload_n 2, 1) := by decide +kernel
theorem dX11_floods_78 : decode cX11_floods 78 = .ok (.iaload, 1) := by decide +kernel
theorem dX11_floods_79 : decode cX11_floods 79 = .ok (.istore_n 3, 1) := by decide +kernel
theorem dX11_floods_80 : decode cX11_floods 80 = .ok (.iload_n 3, 1) := by decide +kernel
theorem dX11_floods_81 : decode cX11_floods 81 = .ok (.aload_n 0, 1) := by decide +kernel
theorem dX11_floods_82 : decode cX11_floods 82 = .ok (.getfield 111, 3) := by decide +kernel
theorem dX11_floods_85 : decode cX11_floods 85 = .ok (.irem, 1) := by decide +kernel
theorem dX11_floods_86 : decode cX11_floods 86 = .ok (.ifCond .le 11, 3) := by decide +kernel
theorem dX11_floods_89 : decode cX11_floods 89 = .ok (.aload_n 0, 1) := by decide +kernel
theorem dX11_floods_90 : decode cX11_floods 90 = .ok (.iload_n 3, 1) := by decide +kernel
theorem dX11_floods_91 : decode cX11_floods 91 = .ok (.iconst 1, 1) := by decide +kernel
theorem dX11_floods_92 : decode cX11_floods 92 = .ok (.isub, 1) := by decide +kernel
theorem dX11_floods_93 : decode cX11_floods 93 = .ok (.iload_n 1, 1) := by decide +kernel
theorem dX11_floods_94 : decode cX11_floods 94 = .ok (.invokevirtual 195, 3) := by decide +kernel
theorem dX11_floods_97 : decode cX11_floods 97 = .ok (.iload_n 3, 1) := by decide +kernel
theorem dX11_floods_98 : decode cX11_floods 98 = .ok (.aload_n 0, 1) := by decide +kernel
theorem dX11_floods_99 : decode cX11_floods 99 = .ok (.getfield 111, 3) := by decide +kernel
theorem dX11_floods_102 : decode cX11_floods 102 = .ok (.irem, 1) := by decide +kernel
theorem dX11_floods_103 : decode cX11_floods 103 = .ok (.aload_n 0, 1) := by decide +kernel
theorem dX11_floods_104 : decode cX11_floods 104 = .ok (.getfield 111, 3) := by decide +kernel
theorem dX11_floods_107 : decode cX11_floods 107 = .ok (.iconst 1, 1) := by decide +kernel
theorem dX11_floods_108 : decode cX11_floods 108 = .ok (.isub, 1) := by decide +kernel
theorem dX11_floods_109 : decode cX11_floods 109 = .ok (.if_icmp .ge 11, 3) := by decide +kernel
theorem dX11_floods_112 : decode cX11_floods 112 = .ok (.aload_n 0, 1) := by decide +kernel
theorem dX11_floods_113 : decode cX11_floods 113 = .ok (.iload_n 3, 1) := by decide +kernel
theorem dX11_floods_114 : decode cX11_floods 114 = .ok (.iconst 1, 1) := by decide +kernel
theorem dX11_floods_115 : decode cX11_floods 115 = .ok (.iadd, 1) := by decide +kernel
theorem dX11_floods_116 : decode cX11_floods 116 = .ok (.iload_n 1, 1) := by decide +kernel
theorem dX11_floods_117 : decode cX11_floods 117 = .ok (.invokevirtual 195, 3) := by decide +kernel
theorem dX11_floods_120 : decode cX11_floods 120 = .ok (.iload_n 3, 1) := by decide +kernel
theorem dX11_floods_121 : decode cX11_floods 121 = .ok (.aload_n 0, 1) := by decide +kernel
theorem dX11_floods_122 : decode cX11_floods 122 = .ok (.getfield 111, 3) := by decide +kernel
theorem dX11_floods_125 : decode cX11_floods 125 = .ok (.if_icmp .lt 14, 3) := by decide +kernel
theorem dX11_floods_128 : decode cX11_floods 128 = .ok (.aload_n 0, 1) := by decide +kernel
theorem dX11_floods_129 : decode cX11_floods 129 = .ok (.iload_n 3, 1) := by decide +kernel
theorem dX11_floods_130 : decode cX11_floods 130 = .ok (.aload_n 0, 1) := by decide +kernel
theorem dX11_floods_131 : decode cX11_floods 131 = .ok (.getfield 111, 3) := by decide +kernel
theorem dX11_floods_134 : decode cX11_floods 134 = .ok (.isub, 1) := by decide +kernel
theorem dX11_floods_135 : decode cX11_floods 135 = .ok (.iload_n 1, 1) := by decide +kernel
theorem dX11_floods_136 : decode cX11_floods 136 = .ok (.invokevirtual 195, 3) := by decide +kernel
theorem dX11_floods_139 : decode cX11_floods 139 = .ok (.iload_n 3, 1) := by decide +kernel
theorem dX11_floods_140 : decode cX11_floods 140 = .ok (.aload_n 0, 1) := by decide +kernel
theorem dX11_floods_141 : decode cX11_floods 141 = .ok (.getfield 111, 3) := by decide +kernel
theorem dX11_floods_144 : decode cX11_floods 144 = .ok (.aload_n 0, 1) := by decide +kernel
theorem dX11_floods_145 : decode cX11_floods 145 = .ok (.getfield 114, 3) := by decide +kernel
theorem dX11_floods_148 : decode cX11_floods 148 = .ok (.iconst 1, 1) := by decide +kernel
theorem dX11_floods_149 : decode cX11_floods 149 = .ok (.isub, 1) := by decide +kernel
theorem dX11_floods_150 : decode cX11_floods 150 = .ok (.imul, 1) := by decide +kernel
theorem dX11_floods_151 : decode cX11_floods 151 = .ok (.if_icmp .ge 14, 3) := by decide +kernel
theorem dX11_floods_154 : decode cX11_floods 154 = .ok (.aload_n 0, 1) := by decide +kernel
theorem dX11_floods_155 : decode cX11_floods 155 = .ok (.iload_n 3, 1) := by decide +kernel
theorem dX11_floods_156 : decode cX11_floods 156 = .ok (.aload_n 0, 1) := by decide +kernel
theorem dX11_floods_157 : decode cX11_floods 157 = .ok (.getfield 111, 3) := by decide +kernel
theorem dX11_floods_160 : decode cX11_floods 160 = .ok (.iadd, 1) := by decide +kernel
theorem dX11_floods_161 : decode cX11_floods 161 = .ok (.iload_n 1, 1) := by decide +kernel
theorem dX11_floods_162 : decode cX11_floods 162 = .ok (.invokevirtual 195, 3) := by decide +kernel
theorem dX11_floods_165 : decode cX11_floods 165 = .ok (.iinc 2 1, 3) := by decide +kernel
theorem dX11_floods_168 : decode cX11_floods 168 = .ok (.goto (-103), 3) := by decide +kernel
theorem dX11_floods_171 : decode cX11_floods 171 = .ok (.return_, 1) := by decide +kernel
theorem dX11_comeTo_0 : decode cX11_comeTo 0 = .ok (.aload_n 0, 1) := by decide +kernel
theorem dX11_comeTo_1 : decode cX11_comeTo 1 = .ok (.iload_n 1, 1) := by decide +kernel
theorem dX11_comeTo_2 : decode cX11_comeTo 2 = .ok (.invokevirtual 199, 3) := by decide +kernel
theorem dX11_comeTo_5 : decode cX11_comeTo 5 = .ok (.iconst 0, 1) := by decide +kernel
theorem dX11_comeTo_6 : decode cX11_comeTo 6 = .ok (.istore_n 2, 1) := by decide +kernel
theorem dX11_comeTo_7 : decode cX11_comeTo 7 = .ok (.iconst 0, 1) := by decide +kernel
theorem dX11_comeTo_8 : decode cX11_comeTo 8 = .ok (.istore_n 3, 1) := by decide +kernel
theorem dX11_comeTo_9 : decode cX11_comeTo 9 = .ok (.iload_n 3, 1) := by decide +kernel
theorem dX11_comeTo_10 : decode cX11_comeTo 10 = .ok (.aload_n 0, 1) := by decide +kernel
theorem dX11_comeTo_11 : decode cX11_comeTo 11 = .ok (.getfield 111, 3) := by decide +kernel
theorem dX11_comeTo_14 : decode cX11_comeTo 14 = .ok (.aload_n 0, 1) := by decide +kernel
theorem dX11_comeTo_15 : decode cX11_comeTo 15 = .ok (.getfield 114, 3) := by decide +kernel
theorem dX11_comeTo_18 : decode cX11_comeTo 18 = .ok (.imul, 1) := by decide +kernel
theorem dX11_comeTo_19 : decode cX11_comeTo 19 = .ok (.if_icmp .ge 42, 3) := by decide +kernel
theorem dX11_comeTo_22 : decode cX11_comeTo 22 = .ok (.aload_n 0, 1) := by decide +kernel
theorem dX11_comeTo_23 : decode cX11_comeTo 23 = .ok (.iload_n 3, 1) := by decide +kernel
theorem dX11_comeTo_24 : decode cX11_comeTo 24 = .ok (.invokevirtual 176, 3) := by decide +kernel
theorem dX11_comeTo_27 : decode cX11_comeTo 27 = .ok (.istore 4, 2) := by decide +kernel
theorem dX11_comeTo_29 : decode cX11_comeTo 29 = .ok (.iload_n 2, 1) := by decide +kernel
theorem dX11_comeTo_30 : decode cX11_comeTo 30 = .ok (.aload_n 0, 1) := by decide +kernel
theorem dX11_comeTo_31 : decode cX11_comeTo 31 = .ok (.getfield 93, 3) := by decide +kernel
theorem dX11_comeTo_34 : decode cX11_comeTo 34 = .ok (.iload_n 3, 1) := by decide +kernel
theorem dX11_comeTo_35 : decode cX11_comeTo 35 = .ok (.baload, 1) := by decide +kernel
theorem dX11_comeTo_36 : decode cX11_comeTo 36 = .ok (.ifCond .eq 16, 3) := by decide +kernel
theorem dX11_comeTo_39 : decode cX11_comeTo 39 = .ok (.iload 4, 2) := by decide +kernel
theorem dX11_comeTo_41 : decode cX11_comeTo 41 = .ok (.iconst (-1), 1) := by decide +kernel
theorem dX11_comeTo_42 : decode cX11_comeTo 42 = .ok (.if_icmp .eq 10, 3) := by decide +kernel
theorem dX11_comeTo_45 : decode cX11_comeTo 45 = .ok (.iconst 1, 1) := by decide +kernel
theorem dX11_comeTo_46 : decode cX11_comeTo 46 = .ok (.iload 4, 2) := by decide +kernel
theorem dX11_comeTo_48 : decode cX11_comeTo 48 = .ok (.ishl, 1) := by decide +kernel
theorem dX11_comeTo_49 : decode cX11_comeTo 49 = .ok (.goto 4, 3) := by decide +kernel
theorem dX11_comeTo_52 : decode cX11_comeTo 52 = .ok (.iconst 0, 1) := by decide +kernel
theorem dX11_comeTo_53 : decode cX11_comeTo 53 = .ok (.ior, 1) := by decide +kernel
theorem dX11_comeTo_54 : decode cX11_comeTo 54 = .ok (.istore_n 2, 1) := by decide +kernel
theorem dX11_comeTo_55 : decode cX11_comeTo 55 = .ok (.iinc 3 1, 3) := by decide +kernel
theorem dX11_comeTo_58 : decode cX11_comeTo 58 = .ok (.goto (-49), 3) := by decide +kernel
theorem dX11_comeTo_61 : decode cX11_comeTo 61 = .ok (.iload_n 2, 1) := by decide +kernel
theorem dX11_comeTo_62 : decode cX11_comeTo 62 = .ok (.ireturn, 1) := by decide +kernel
theorem dX11_setIn_0 : decode cX11_setIn 0 = .ok (.iconst 0, 1) := by decide +kernel
theorem dX11_setIn_1 : decode cX11_setIn 1 = .ok (.istore_n 2, 1) := by decide +kernel
theorem dX11_setIn_2 : decode cX11_setIn 2 = .ok (.iconst 0, 1) := by decide +kernel
theorem dX11_setIn_3 : decode cX11_setIn 3 = .ok (.istore_n 3, 1) := by decide +kernel
theorem dX11_setIn_4 : decode cX11_setIn 4 = .ok (.iload_n 3, 1) := by decide +kernel
theorem dX11_setIn_5 : decode cX11_setIn 5 = .ok (.aload_n 0, 1) := by decide +kernel
theorem dX11_setIn_6 : decode cX11_setIn 6 = .ok (.getfield 121, 3) := by decide +kernel
theorem dX11_setIn_9 : decode cX11_setIn 9 = .ok (.if_icmp .ge 33, 3) := by decide +kernel
theorem dX11_setIn_12 : decode cX11_setIn 12 = .ok (.iload_n 2, 1) := by decide +kernel
theorem dX11_setIn_13 : decode cX11_setIn 13 = .ok (.aload_n 0, 1) := by decide +kernel
theorem dX11_setIn_14 : decode cX11_setIn 14 = .ok (.getfield 44, 3) := by decide +kernel
theorem dX11_setIn_17 : decode cX11_setIn 17 = .ok (.iload_n 3, 1) := by decide +kernel
theorem dX11_setIn_18 : decode cX11_setIn 18 = .ok (.baload, 1) := by decide +kernel
theorem dX11_setIn_19 : decode cX11_setIn 19 = .ok (.ifCond .eq 14, 3) := by decide +kernel
theorem dX11_setIn_22 : decode cX11_setIn 22 = .ok (.iload_n 3, 1) := by decide +kernel
theorem dX11_setIn_23 : decode cX11_setIn 23 = .ok (.iload_n 1, 1) := by decide +kernel
theorem dX11_setIn_24 : decode cX11_setIn 24 = .ok (.if_icmp .eq 9, 3) := by decide +kernel
theorem dX11_setIn_27 : decode cX11_setIn 27 = .ok (.iconst 1, 1) := by decide +kernel
theorem dX11_setIn_28 : decode cX11_setIn 28 = .ok (.iload_n 3, 1) := by decide +kernel
theorem dX11_setIn_29 : decode cX11_setIn 29 = .ok (.ishl, 1) := by decide +kernel
theorem dX11_setIn_30 : decode cX11_setIn 30 = .ok (.goto 4, 3) := by decide +kernel
theorem dX11_setIn_33 : decode cX11_setIn 33 = .ok (.iconst 0, 1) := by decide +kernel
theorem dX11_setIn_34 : decode cX11_setIn 34 = .ok (.ior, 1) := by decide +kernel
theorem dX11_setIn_35 : decode cX11_setIn 35 = .ok (.istore_n 2, 1) := by decide +kernel
theorem dX11_setIn_36 : decode cX11_setIn 36 = .ok (.iinc 3 1, 3) := by decide +kernel
theorem dX11_setIn_39 : decode cX11_setIn 39 = .ok (.goto (-35), 3) := by decide +kernel
theorem dX11_setIn_42 : decode cX11_setIn 42 = .ok (.iload_n 2, 1) := by decide +kernel
theorem dX11_setIn_43 : decode cX11_setIn 43 = .ok (.ireturn, 1) := by decide +kernel
theorem dX11_canBring_0 : decode cX11_canBring 0 = .ok (.aload_n 0, 1) := by decide +kernel
theorem dX11_canBring_1 : decode cX11_canBring 1 = .ok (.aload_n 0, 1) := by decide +kernel
theorem dX11_canBring_2 : decode cX11_canBring 2 = .ok (.iload_n 1, 1) := by decide +kernel
theorem dX11_canBring_3 : decode cX11_canBring 3 = .ok (.invokevirtual 203, 3) := by decide +kernel
theorem dX11_canBring_6 : decode cX11_canBring 6 = .ok (.invokevirtual 206, 3) := by decide +kernel
theorem dX11_canBring_9 : decode cX11_canBring 9 = .ok (.iload_n 1, 1) := by decide +kernel
theorem dX11_canBring_10 : decode cX11_canBring 10 = .ok (.ishr, 1) := by decide +kernel
theorem dX11_canBring_11 : decode cX11_canBring 11 = .ok (.iconst 1, 1) := by decide +kernel
theorem dX11_canBring_12 : decode cX11_canBring 12 = .ok (.iand, 1) := by decide +kernel
theorem dX11_canBring_13 : decode cX11_canBring 13 = .ok (.iconst 1, 1) := by decide +kernel
theorem dX11_canBring_14 : decode cX11_canBring 14 = .ok (.if_icmp .ne 7, 3) := by decide +kernel
theorem dX11_canBring_17 : decode cX11_canBring 17 = .ok (.iconst 1, 1) := by decide +kernel
theorem dX11_canBring_18 : decode cX11_canBring 18 = .ok (.goto 4, 3) := by decide +kernel
theorem dX11_canBring_21 : decode cX11_canBring 21 = .ok (.iconst 0, 1) := by decide +kernel
theorem dX11_canBring_22 : decode cX11_canBring 22 = .ok (.ireturn, 1) := by decide +kernel
theorem dX11_can_0 : decode cX11_can 0 = .ok (.aload_n 0, 1) := by decide +kernel
theorem dX11_can_1 : decode cX11_can 1 = .ok (.iload_n 1, 1) := by decide +kernel
theorem dX11_can_2 : decode cX11_can 2 = .ok (.invokevirtual 166, 3) := by decide +kernel
theorem dX11_can_5 : decode cX11_can 5 = .ok (.ifCond .ne 5, 3) := by decide +kernel
theorem dX11_can_8 : decode cX11_can 8 = .ok (.iconst (-1), 1) := by decide +kernel
theorem dX11_can_9 : decode cX11_can 9 = .ok (.ireturn, 1) := by decide +kernel
theorem dX11_can_10 : decode cX11_can 10 = .ok (.aload_n 0, 1) := by decide +kernel
theorem dX11_can_11 : decode cX11_can 11 = .ok (.getfield 44, 3) := by decide +kernel
theorem dX11_can_14 : decode cX11_can 14 = .ok (.iload_n 1, 1) := by decide +kernel
theorem dX11_can_15 : decode cX11_can 15 = .ok (.baload, 1) := by decide +kernel
theorem dX11_can_16 : decode cX11_can 16 = .ok (.ifCond .ne 15, 3) := by decide +kernel
theorem dX11_can_19 : decode cX11_can 19 = .ok (.aload_n 0, 1) := by decide +kernel
theorem dX11_can_20 : decode cX11_can 20 = .ok (.iload_n 1, 1) := by decide +kernel
theorem dX11_can_21 : decode cX11_can 21 = .ok (.invokevirtual 209, 3) := by decide +kernel
theorem dX11_can_24 : decode cX11_can 24 = .ok (.ifCond .eq 7, 3) := by decide +kernel
theorem dX11_can_27 : decode cX11_can 27 = .ok (.iconst 1, 1) := by decide +kernel
