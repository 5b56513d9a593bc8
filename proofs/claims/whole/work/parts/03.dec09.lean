theorem dX11_text_14 : decode cX11_text 14 = .ok (.invokestatic 117, 3) := by decide +kernel
theorem dX11_text_17 : decode cX11_text 17 = .ok (.ifCond .ne 6, 3) := by decide +kernel
theorem dX11_text_20 : decode cX11_text 20 = .ok (.bipush (-2), 2) := by decide +kernel
theorem dX11_text_22 : decode cX11_text 22 = .ok (.ireturn, 1) := by decide +kernel
theorem dX11_text_23 : decode cX11_text 23 = .ok (.aload_n 0, 1) := by decide +kernel
theorem dX11_text_24 : decode cX11_text 24 = .ok (.getfield 54, 3) := by decide +kernel
theorem dX11_text_27 : decode cX11_text 27 = .ok (.iload_n 1, 1) := by decide +kernel
theorem dX11_text_28 : decode cX11_text 28 = .ok (.iaload, 1) := by decide +kernel
theorem dX11_text_29 : decode cX11_text 29 = .ok (.bipush 6, 2) := by decide +kernel
theorem dX11_text_31 : decode cX11_text 31 = .ok (.if_icmp .ne 6, 3) := by decide +kernel
theorem dX11_text_34 : decode cX11_text 34 = .ok (.bipush (-4), 2) := by decide +kernel
theorem dX11_text_36 : decode cX11_text 36 = .ok (.ireturn, 1) := by decide +kernel
theorem dX11_text_37 : decode cX11_text 37 = .ok (.aload_n 0, 1) := by decide +kernel
theorem dX11_text_38 : decode cX11_text 38 = .ok (.iconst 0, 1) := by decide +kernel
theorem dX11_text_39 : decode cX11_text 39 = .ok (.putfield 221, 3) := by decide +kernel
theorem dX11_text_42 : decode cX11_text 42 = .ok (.aload_n 0, 1) := by decide +kernel
theorem dX11_text_43 : decode cX11_text 43 = .ok (.iconst 0, 1) := by decide +kernel
theorem dX11_text_44 : decode cX11_text 44 = .ok (.putfield 217, 3) := by decide +kernel
theorem dX11_text_47 : decode cX11_text 47 = .ok (.bipush 6, 2) := by decide +kernel
theorem dX11_text_49 : decode cX11_text 49 = .ok (.iload_n 1, 1) := by decide +kernel
theorem dX11_text_50 : decode cX11_text 50 = .ok (.imul, 1) := by decide +kernel
theorem dX11_text_51 : decode cX11_text 51 = .ok (.aload_n 0, 1) := by decide +kernel
theorem dX11_text_52 : decode cX11_text 52 = .ok (.getfield 54, 3) := by decide +kernel
theorem dX11_text_55 : decode cX11_text 55 = .ok (.iload_n 1, 1) := by decide +kernel
theorem dX11_text_56 : decode cX11_text 56 = .ok (.iaload, 1) := by decide +kernel
theorem dX11_text_57 : decode cX11_text 57 = .ok (.iadd, 1) := by decide +kernel
theorem dX11_text_58 : decode cX11_text 58 = .ok (.istore_n 3, 1) := by decide +kernel
theorem dX11_text_59 : decode cX11_text 59 = .ok (.iload_n 1, 1) := by decide +kernel
theorem dX11_text_60 : decode cX11_text 60 = .ok (.ifCond .ne 11, 3) := by decide +kernel
theorem dX11_text_63 : decode cX11_text 63 = .ok (.aload_n 0, 1) := by decide +kernel
theorem dX11_text_64 : decode cX11_text 64 = .ok (.iload_n 3, 1) := by decide +kernel
theorem dX11_text_65 : decode cX11_text 65 = .ok (.invokevirtual 236, 3) := by decide +kernel
theorem dX11_text_68 : decode cX11_text 68 = .ok (.goto 8, 3) := by decide +kernel
theorem dX11_text_71 : decode cX11_text 71 = .ok (.aload_n 0, 1) := by decide +kernel
theorem dX11_text_72 : decode cX11_text 72 = .ok (.iload_n 3, 1) := by decide +kernel
theorem dX11_text_73 : decode cX11_text 73 = .ok (.invokevirtual 239, 3) := by decide +kernel
theorem dX11_text_76 : decode cX11_text 76 = .ok (.aload_n 0, 1) := by decide +kernel
theorem dX11_text_77 : decode cX11_text 77 = .ok (.getfield 217, 3) := by decide +kernel
theorem dX11_text_80 : decode cX11_text 80 = .ok (.ifCond .ne 18, 3) := by decide +kernel
theorem dX11_text_83 : decode cX11_text 83 = .ok (.aload_n 0, 1) := by decide +kernel
theorem dX11_text_84 : decode cX11_text 84 = .ok (.getfield 221, 3) := by decide +kernel
theorem dX11_text_87 : decode cX11_text 87 = .ok (.aload_n 0, 1) := by decide +kernel
theorem dX11_text_88 : decode cX11_text 88 = .ok (.getfield 212, 3) := by decide +kernel
theorem dX11_text_91 : decode cX11_text 91 = .ok (.if_icmp .ne 7, 3) := by decide +kernel
theorem dX11_text_94 : decode cX11_text 94 = .ok (.iconst 1, 1) := by decide +kernel
theorem dX11_text_95 : decode cX11_text 95 = .ok (.goto 4, 3) := by decide +kernel
theorem dX11_text_98 : decode cX11_text 98 = .ok (.iconst 0, 1) := by decide +kernel
theorem dX11_text_99 : decode cX11_text 99 = .ok (.istore 4, 2) := by decide +kernel
theorem dX11_text_101 : decode cX11_text 101 = .ok (.aload_n 0, 1) := by decide +kernel
theorem dX11_text_102 : decode cX11_text 102 = .ok (.iconst 0, 1) := by decide +kernel
theorem dX11_text_103 : decode cX11_text 103 = .ok (.putfield 212, 3) := by decide +kernel
theorem dX11_text_106 : decode cX11_text 106 = .ok (.iload 4, 2) := by decide +kernel
theorem dX11_text_108 : decode cX11_text 108 = .ok (.ifCond .ne 11, 3) := by decide +kernel
theorem dX11_text_111 : decode cX11_text 111 = .ok (.bipush (-10), 2) := by decide +kernel
theorem dX11_text_113 : decode cX11_text 113 = .ok (.aload_n 0, 1) := by decide +kernel
theorem dX11_text_114 : decode cX11_text 114 = .ok (.getfield 221, 3) := by decide +kernel
theorem dX11_text_117 : decode cX11_text 117 = .ok (.isub, 1) := by decide +kernel
theorem dX11_text_118 : decode cX11_text 118 = .ok (.ireturn, 1) := by decide +kernel
theorem dX11_text_119 : decode cX11_text 119 = .ok (.aload_n 0, 1) := by decide +kernel
theorem dX11_text_120 : decode cX11_text 120 = .ok (.getfield 57, 3) := by decide +kernel
theorem dX11_text_123 : decode cX11_text 123 = .ok (.iload_n 3, 1) := by decide +kernel
theorem dX11_text_124 : decode cX11_text 124 = .ok (.iload_n 2, 1) := by decide +kernel
theorem dX11_text_125 : decode cX11_text 125 = .ok (.iastore, 1) := by decide +kernel
theorem dX11_text_126 : decode cX11_text 126 = .ok (.aload_n 0, 1) := by decide +kernel
theorem dX11_text_127 : decode cX11_text 127 = .ok (.getfield 54, 3) := by decide +kernel
theorem dX11_text_130 : decode cX11_text 130 = .ok (.iload_n 1, 1) := by decide +kernel
theorem dX11_text_131 : decode cX11_text 131 = .ok (.dup2, 1) := by decide +kernel
theorem dX11_text_132 : decode cX11_text 132 = .ok (.iaload, 1) := by decide +kernel
theorem dX11_text_133 : decode cX11_text 133 = .ok (.iconst 1, 1) := by decide +kernel
theorem dX11_text_134 : decode cX11_text 134 = .ok (.iadd, 1) := by decide +kernel
theorem dX11_text_135 : decode cX11_text 135 = .ok (.iastore, 1) := by decide +kernel
theorem dX11_text_136 : decode cX11_text 136 = .ok (.aload_n 0, 1) := by decide +kernel
theorem dX11_text_137 : decode cX11_text 137 = .ok (.getfield 54, 3) := by decide +kernel
theorem dX11_text_140 : decode cX11_text 140 = .ok (.iload_n 1, 1) := by decide +kernel
theorem dX11_text_141 : decode cX11_text 141 = .ok (.iaload, 1) := by decide +kernel
theorem dX11_text_142 : decode cX11_text 142 = .ok (.ireturn, 1) := by decide +kernel
theorem dX11_inForce_0 : decode cX11_inForce 0 = .ok (.iconst (-1), 1) := by decide +kernel
theorem dX11_inForce_1 : decode cX11_inForce 1 = .ok (.istore_n 3, 1) := by decide +kernel
theorem dX11_inForce_2 : decode cX11_inForce 2 = .ok (.bipush 6, 2) := by decide +kernel
theorem dX11_inForce_4 : decode cX11_inForce 4 = .ok (.iload_n 1, 1) := by decide +kernel
theorem dX11_inForce_5 : decode cX11_inForce 5 = .ok (.imul, 1) := by decide +kernel
theorem dX11_inForce_6 : decode cX11_inForce 6 = .ok (.istore 4, 2) := by decide +kernel
theorem dX11_inForce_8 : decode cX11_inForce 8 = .ok (.iload 4, 2) := by decide +kernel
theorem dX11_inForce_10 : decode cX11_inForce 10 = .ok (.bipush 6, 2) := by decide +kernel
theorem dX11_inForce_12 : decode cX11_inForce 12 = .ok (.iload_n 1, 1) := by decide +kernel
theorem dX11_inForce_13 : decode cX11_inForce 13 = .ok (.imul, 1) := by decide +kernel
theorem dX11_inForce_14 : decode cX11_inForce 14 = .ok (.aload_n 0, 1) := by decide +kernel
theorem dX11_inForce_15 : decode cX11_inForce 15 = .ok (.getfield 54, 3) := by decide +kernel
theorem dX11_inForce_18 : decode cX11_inForce 18 = .ok (.iload_n 1, 1) := by decide +kernel
theorem dX11_inForce_19 : decode cX11_inForce 19 = .ok (.iaload, 1) := by decide +kernel
theorem dX11_inForce_20 : decode cX11_inForce 20 = .ok (.iadd, 1) := by decide +kernel
theorem dX11_inForce_21 : decode cX11_inForce 21 = .ok (.if_icmp .ge 44, 3) := by decide +kernel
theorem dX11_inForce_24 : decode cX11_inForce 24 = .ok (.aload_n 0, 1) := by decide +kernel
theorem dX11_inForce_25 : decode cX11_inForce 25 = .ok (.getfield 57, 3) := by decide +kernel
theorem dX11_inForce_28 : decode cX11_inForce 28 = .ok (.iload 4, 2) := by decide +kernel
theorem dX11_inForce_30 : decode cX11_inForce 30 = .ok (.iaload, 1) := by decide +kernel
theorem dX11_inForce_31 : decode cX11_inForce 31 = .ok (.iload_n 2, 1) := by decide +kernel
theorem dX11_inForce_32 : decode cX11_inForce 32 = .ok (.if_icmp .gt 27, 3) := by decide +kernel
theorem dX11_inForce_35 : decode cX11_inForce 35 = .ok (.iload_n 3, 1) := by decide +kernel
theorem dX11_inForce_36 : decode cX11_inForce 36 = .ok (.iconst (-1), 1) := by decide +kernel
theorem dX11_inForce_37 : decode cX11_inForce 37 = .ok (.if_icmp .eq 19, 3) := by decide +kernel
theorem dX11_inForce_40 : decode cX11_inForce 40 = .ok (.aload_n 0, 1) := by decide +kernel
theorem dX11_inForce_41 : decode cX11_inForce 41 = .ok (.getfield 57, 3) := by decide +kernel
theorem dX11_inForce_44 : decode cX11_inForce 44 = .ok (.iload 4, 2) := by decide +kernel
theorem dX11_inForce_46 : decode cX11_inForce 46 = .ok (.iaload, 1) := by decide +kernel
theorem dX11_inForce_47 : decode cX11_inForce 47 = .ok (.aload_n 0, 1) := by decide +kernel
theorem dX11_inForce_48 : decode cX11_inForce 48 = .ok (.getfield 57, 3) := by decide +kernel
theorem dX11_inForce_51 : decode cX11_inForce 51 = .ok (.iload_n 3, 1) := by decide +kernel
theorem dX11_inForce_52 : decode cX11_inForce 52 = .ok (.iaload, 1) := by decide +kernel
theorem dX11_inForce_53 : decode cX11_inForce 53 = .ok (.if_icmp .lt 6, 3) := by decide +kernel
theorem dX11_inForce_56 : decode cX11_inForce 56 = .ok (.iload 4, 2) := by decide +kernel
theorem dX11_inForce_58 : decode cX11_inForce 58 = .ok (.istore_n 3, 1) := by decide +kernel
theorem dX11_inForce_59 : decode cX11_inForce 59 = .ok (.iinc 4 1, 3) := by decide +kernel
theorem dX11_inForce_62 : decode cX11_inForce 62 = .ok (.goto (-54), 3) := by decide +kernel
theorem dX11_inForce_65 : decode cX11_inForce 65 = .ok (.iload_n 3, 1) := by decide +kernel
theorem dX11_inForce_66 : decode cX11_inForce 66 = .ok (.ireturn, 1) := by decide +kernel
theorem dX11_juror_0 : decode cX11_juror 0 = .ok (.iload_n 1, 1) := by decide +kernel
theorem dX11_juror_1 : decode cX11_juror 1 = .ok (.iconst 0, 1) := by decide +kernel
theorem dX11_juror_2 : decode cX11_juror 2 = .ok (.bipush 7, 2) := by decide +kernel
theorem dX11_juror_4 : decode cX11_juror 4 = .ok (.invokestatic 117, 3) := by decide +kernel
theorem dX11_juror_7 : decode cX11_juror 7 = .ok (.ifCond .eq 13, 3) := by decide +kernel
theorem dX11_juror_10 : decode cX11_juror 10 = .ok (.iload_n 2, 1) := by decide +kernel
theorem dX11_juror_11 : decode cX11_juror 11 = .ok (.iconst 0, 1) := by decide +kernel
theorem dX11_juror_12 : decode cX11_juror 12 = .ok (.bipush 9, 2) := by decide +kernel
theorem dX11_juror_14 : decode cX11_juror 14 = .ok (.invokestatic 117, 3) := by decide +kernel
theorem dX11_juror_17 : decode cX11_juror 17 = .ok (.ifCond .ne 6, 3) := by decide +kernel
theorem dX11_juror_20 : decode cX11_juror 20 = .ok (.bipush (-2), 2) := by decide +kernel
theorem dX11_juror_22 : decode cX11_juror 22 = .ok (.ireturn, 1) := by decide +kernel
theorem dX11_juror_23 : decode cX11_juror 23 = .ok (.aload_n 0, 1) := by decide +kernel
theorem dX11_juror_24 : decode cX11_juror 24 = .ok (.getfield 169, 3) := by decide +kernel
theorem dX11_juror_27 : decode cX11_juror 27 = .ok (.bipush 12, 2) := by decide +kernel
theorem dX11_juror_29 : decode cX11_juror 29 = .ok (.if_icmp .ne 6, 3) := by decide +kernel
theorem dX11_juror_32 : decode cX11_juror 32 = .ok (.bipush (-4), 2) := by decide +kernel
theorem dX11_juror_34 : decode cX11_juror 34 = .ok (.ireturn, 1) := by decide +kernel
theorem dX11_juror_35 : decode cX11_juror 35 = .ok (.aload_n 0, 1) := by decide +kernel
theorem dX11_juror_36 : decode cX11_juror 36 = .ok (.getfield 72, 3) := by decide +kernel
theorem dX11_juror_39 : decode cX11_juror 39 = .ok (.aload_n 0, 1) := by decide +kernel
theorem dX11_juror_40 : decode cX11_juror 40 = .ok (.getfield 169, 3) := by decide +kernel
theorem dX11_juror_43 : decode cX11_juror 43 = .ok (.iload_n 1, 1) := by decide +kernel
theorem dX11_juror_44 : decode cX11_juror 44 = .ok (.iastore, 1) := by decide +kernel
theorem dX11_juror_45 : decode cX11_juror 45 = .ok (.aload_n 0, 1) := by decide +kernel
theorem dX11_juror_46 : decode cX11_juror 46 = .ok (.getfield 75, 3) := by decide +kernel
theorem dX11_juror_49 : decode cX11_juror 49 = .ok (.aload_n 0, 1) := by decide +kernel
theorem dX11_juror_50 : decode cX11_juror 50 = .ok (.getfield 169, 3) := by decide +kernel
theorem dX11_juror_53 : decode cX11_juror 53 = .ok (.iload_n 2, 1) := by decide +kernel
theorem dX11_juror_54 : decode cX11_juror 54 = .ok (.iastore, 1) := by decide +kernel
theorem dX11_juror_55 : decode cX11_juror 55 = .ok (.aload_n 0, 1) := by decide +kernel
theorem dX11_juror_56 : decode cX11_juror 56 = .ok (.dup, 1) := by decide +kernel
theorem dX11_juror_57 : decode cX11_juror 57 = .ok (.getfield 169, 3) := by decide +kernel
theorem dX11_juror_60 : decode cX11_juror 60 = .ok (.iconst 1, 1) := by decide +kernel
theorem dX11_juror_61 : decode cX11_juror 61 = .ok (.iadd, 1) := by decide +kernel
theorem dX11_juror_62 : decode cX11_juror 62 = .ok (.putfield 169, 3) := by decide +kernel
theorem dX11_juror_65 : decode cX11_juror 65 = .ok (.aload_n 0, 1) := by decide +kernel
theorem dX11_juror_66 : decode cX11_juror 66 = .ok (.getfield 169, 3) := by decide +kernel
theorem dX11_juror_69 : decode cX11_juror 69 = .ok (.iconst 1, 1) := by decide +kernel
theorem dX11_juror_70 : decode cX11_juror 70 = .ok (.isub, 1) := by decide +kernel
theorem dX11_juror_71 : decode cX11_juror 71 = .ok (.ireturn, 1) := by decide +kernel
theorem dX11_mark_0 : decode cX11_mark 0 = .ok (.iload_n 1, 1) := by decide +kernel
theorem dX11_mark_1 : decode cX11_mark 1 = .ok (.iconst 0, 1) := by decide +kernel
theorem dX11_mark_2 : decode cX11_mark 2 = .ok (.aload_n 0, 1) := by decide +kernel
theorem dX11_mark_3 : decode cX11_mark 3 = .ok (.getfield 169, 3) := by decide +kernel
theorem dX11_mark_6 : decode cX11_mark 6 = .ok (.iconst 1, 1) := by decide +kernel
theorem dX11_mark_7 : decode cX11_mark 7 = .ok (.isub, 1) := by decide +kernel
theorem dX11_mark_8 : decode cX11_mark 8 = .ok (.invokestatic 117, 3) := by decide +kernel
theorem dX11_mark_11 : decode cX11_mark 11 = .ok (.ifCond .eq 11, 3) := by decide +kernel
theorem dX11_mark_14 : decode cX11_mark 14 = .ok (.aload_n 0, 1) := by decide +kernel
theorem dX11_mark_15 : decode cX11_mark 15 = .ok (.iload_n 2, 1) := by decide +kernel
theorem dX11_mark_16 : decode cX11_mark 16 = .ok (.invokevirtual 124, 3) := by decide +kernel
theorem dX11_mark_19 : decode cX11_mark 19 = .ok (.ifCond .ne 6, 3) := by decide +kernel
theorem dX11_mark_22 : decode cX11_mark 22 = .ok (.bipush (-5), 2) := by decide +kernel
theorem dX11_mark_24 : decode cX11_mark 24 = .ok (.ireturn, 1) := by decide +kernel
theorem dX11_mark_25 : decode cX11_mark 25 = .ok (.iload_n 3, 1) := by decide +kernel
theorem dX11_mark_26 : decode cX11_mark 26 = .ok (.iconst 0, 1) := by decide +kernel
theorem dX11_mark_27 : decode cX11_mark 27 = .ok (.bipush 100, 2) := by decide +kernel
theorem dX11_mark_29 : decode cX11_mark 29 = .ok (.invokestatic 117, 3) := by decide +kernel
theorem dX11_mark_32 : decode cX11_mark 32 = .ok (.ifCond .eq 15, 3) := by decide +kernel
theorem dX11_mark_35 : decode cX11_mark 35 = .ok (.iload 4, 2) := by decide +kernel
theorem dX11_mark_37 : decode cX11_mark 37 = .ok (.iconst 0, 1) := by decide +kernel
theorem dX11_mark_38 : decode cX11_mark 38 = .ok (.sipush 999, 3) := by decide +kernel
theorem dX11_mark_41 : decode cX11_mark 41 = .ok (.invokestatic 117, 3) := by decide +kernel
theorem dX11_mark_44 : decode cX11_mark 44 = .ok (.ifCond .ne 6, 3) := by decide +kernel
theorem dX11_mark_47 : decode cX11_mark 47 = .ok (.bipush (-2), 2) := by decide +kernel
theorem dX11_mark_49 : decode cX11_mark 49 = .ok (.ireturn, 1) := by decide +kernel
theorem dX11_mark_50 : decode cX11_mark 50 = .ok (.aload_n 0, 1) := by decide +kernel
theorem dX11_mark_51 : decode cX11_mark 51 = .ok (.getfield 72, 3) := by decide +kernel
theorem dX11_mark_54 : decode cX11_mark 54 = .ok (.iload_n 1, 1) := by decide +kernel
theorem dX11_mark_55 : decode cX11_mark 55 = .ok (.iaload, 1) := by decide +kernel
theorem dX11_mark_56 : decode cX11_mark 56 = .ok (.aload_n 0, 1) := by decide +kernel
theorem dX11_mark_57 : decode cX11_mark 57 = .ok (.getfield 23, 3) := by decide +kernel
theorem dX11_mark_60 : decode cX11_mark 60 = .ok (.iload_n 2, 1) := by decide +kernel
theorem dX11_mark_61 : decode cX11_mark 61 = .ok (.iaload, 1) := by decide +kernel
theorem dX11_mark_62 : decode cX11_mark 62 = .ok (.if_icmp .eq 18, 3) := by decide +kernel
theorem dX11_mark_65 : decode cX11_mark 65 = .ok (.aload_n 0, 1) := by decide +kernel
theorem dX11_mark_66 : decode cX11_mark 66 = .ok (.getfield 75, 3) := by decide +kernel
theorem dX11_mark_69 : decode cX11_mark 69 = .ok (.iload_n 1, 1) := by decide +kernel
theorem dX11_mark_70 : decode cX11_mark 70 = .ok (.iaload, 1) := by decide +kernel
theorem dX11_mark_71 : decode cX11_mark 71 = .ok (.aload_n 0, 1) := by decide +kernel
theorem dX11_mark_72 : decode cX11_mark 72 = .ok (.getfield 26, 3) := by decide +kernel
theorem dX11_mark_75 : decode cX11_mark 75 = .ok (.iload_n 2, 1) := by decide +kernel
theorem dX11_mark_76 : decode cX11_mark 76 = .ok (.iaload, 1) := by decide +kernel
theorem dX11_mark_77 : decode cX11_mark 77 = .ok (.if_icmp .eq 6, 3) := by decide +kernel
theorem dX11_mark_80 : decode cX11_mark 80 = .ok (.bipush (-3), 2) := by decide +kernel
theorem dX11_mark_82 : decode cX11_mark 82 = .ok (.ireturn, 1) := by decide +kernel
theorem dX11_mark_83 : decode cX11_mark 83 = .ok (.aload_n 0, 1) := by decide +kernel
theorem dX11_mark_84 : decode cX11_mark 84 = .ok (.getfield 78, 3) := by decide +kernel
theorem dX11_mark_87 : decode cX11_mark 87 = .ok (.bipush 9, 2) := by decide +kernel
theorem dX11_mark_89 : decode cX11_mark 89 = .ok (.iload_n 1, 1) := by decide +kernel
theorem dX11_mark_90 : decode cX11_mark 90 = .ok (.imul, 1) := by decide +kernel
theorem dX11_mark_91 : decode cX11_mark 91 = .ok (.iload_n 2, 1) := by decide +kernel
theorem dX11_mark_92 : decode cX11_mark 92 = .ok (.iadd, 1) := by decide +kernel
theorem dX11_mark_93 : decode cX11_mark 93 = .ok (.iaload, 1) := by decide +kernel
theorem dX11_mark_94 : decode cX11_mark 94 = .ok (.istore 5, 2) := by decide +kernel
theorem dX11_mark_96 : decode cX11_mark 96 = .ok (.aload_n 0, 1) := by decide +kernel
theorem dX11_mark_97 : decode cX11_mark 97 = .ok (.getfield 78, 3) := by decide +kernel
theorem dX11_mark_100 : decode cX11_mark 100 = .ok (.bipush 9, 2) := by decide +kernel
theorem dX11_mark_102 : decode cX11_mark 102 = .ok (.iload_n 1, 1) := by decide +kernel
theorem dX11_mark_103 : decode cX11_mark 103 = .ok (.imul, 1) := by decide +kernel
theorem dX11_mark_104 : decode cX11_mark 104 = .ok (.iload_n 2, 1) := by decide +kernel
theorem dX11_mark_105 : decode cX11_mark 105 = .ok (.iadd, 1) := by decide +kernel
theorem dX11_mark_106 : decode cX11_mark 106 = .ok (.iload_n 3, 1) := by decide +kernel
theorem dX11_mark_107 : decode cX11_mark 107 = .ok (.iastore, 1) := by decide +kernel
theorem dX11_mark_108 : decode cX11_mark 108 = .ok (.aload_n 0, 1) := by decide +kernel
theorem dX11_mark_109 : decode cX11_mark 109 = .ok (.getfield 81, 3) := by decide +kernel
theorem dX11_mark_112 : decode cX11_mark 112 = .ok (.bipush 9, 2) := by decide +kernel
theorem dX11_mark_114 : decode cX11_mark 114 = .ok (.iload_n 1, 1) := by decide +kernel
theorem dX11_mark_115 : decode cX11_mark 115 = .ok (.imul, 1) := by decide +kernel
theorem dX11_mark_116 : decode cX11_mark 116 = .ok (.iload_n 2, 1) := by decide +kernel
theorem dX11_mark_117 : decode cX11_mark 117 = .ok (.iadd, 1) := by decide +kernel
theorem dX11_mark_118 : decode cX11_mark 118 = .ok (.iload 4, 2) := by decide +kernel
theorem dX11_mark_120 : decode cX11_mark 120 = .ok (.iastore, 1) := by decide +kernel
theorem dX11_mark_121 : decode cX11_mark 121 = .ok (.iload 5, 2) := by decide +kernel
theorem dX11_mark_123 : decode cX11_mark 123 = .ok (.ireturn, 1) := by decide +kernel
theorem dX11_meanOf_0 : decode cX11_meanOf 0 = .ok (.iconst 0, 1) := by decide +kernel
theorem dX11_meanOf_1 : decode cX11_meanOf 1 = .ok (.istore_n 3, 1) := by decide +kernel
theorem dX11_meanOf_2 : decode cX11_meanOf 2 = .ok (.iconst 0, 1) := by decide +kernel
theorem dX11_meanOf_3 : decode cX11_meanOf 3 = .ok (.istore 4, 2) := by decide +kernel
theorem dX11_meanOf_5 : decode cX11_meanOf 5 = .ok (.iconst 0, 1) := by decide +kernel
theorem dX11_meanOf_6 : decode cX11_meanOf 6 = .ok (.istore 5, 2) := by decide +kernel
theorem dX11_meanOf_8 : decode cX11_meanOf 8 = .ok (.iload 5, 2) := by decide +kernel
theorem dX11_meanOf_10 : decode cX11_meanOf 10 = .ok (.aload_n 0, 1) := by decide +kernel
theorem dX11_meanOf_11 : decode cX11_meanOf 11 = .ok (.getfield 169, 3) := by decide +kernel
theorem dX11_meanOf_14 : decode cX11_meanOf 14 = .ok (.if_icmp .ge 55, 3) := by decide +kernel
theorem dX11_meanOf_17 : decode cX11_meanOf 17 = .ok (.bipush 9, 2) := by decide +kernel
theorem dX11_meanOf_19 : decode cX11_meanOf 19 = .ok (.iload 5, 2) := by decide +kernel
theorem dX11_meanOf_21 : decode cX11_meanOf 21 = .ok (.imul, 1) := by decide +kernel
theorem dX11_meanOf_22 : decode cX11_meanOf 22 = .ok (.iload_n 1, 1) := by decide +kernel
theorem dX11_meanOf_23 : decode cX11_meanOf 23 = .ok (.iadd, 1) := by decide +kernel
theorem dX11_meanOf_24 : decode cX11_meanOf 24 = .ok (.istore 6, 2) := by decide +kernel
theorem dX11_meanOf_26 : decode cX11_meanOf 26 = .ok (.aload_n 0, 1) := by decide +kernel
theorem dX11_meanOf_27 : decode cX11_meanOf 27 = .ok (.getfield 78, 3) := by decide +kernel
theorem dX11_meanOf_30 : decode cX11_meanOf 30 = .ok (.iload 6, 2) := by decide +kernel
theorem dX11_meanOf_32 : decode cX11_meanOf 32 = .ok (.iaload, 1) := by decide +kernel
theorem dX11_meanOf_33 : decode cX11_meanOf 33 = .ok (.iconst (-1), 1) := by decide +kernel
theorem dX11_meanOf_34 : decode cX11_meanOf 34 = .ok (.if_icmp .eq 29, 3) := by decide +kernel
theorem dX11_meanOf_37 : decode cX11_meanOf 37 = .ok (.aload_n 0, 1) := by decide +kernel
theorem dX11_meanOf_38 : decode cX11_meanOf 38 = .ok (.getfield 81, 3) := by decide +kernel
theorem dX11_meanOf_41 : decode cX11_meanOf 41 = .ok (.iload 6, 2) := by decide +kernel
theorem dX11_meanOf_43 : decode cX11_meanOf 43 = .ok (.iaload, 1) := by decide +kernel
theorem dX11_meanOf_44 : decode cX11_meanOf 44 = .ok (.iload_n 2, 1) := by decide +kernel
theorem dX11_meanOf_45 : decode cX11_meanOf 45 = .ok (.if_icmp .gt 18, 3) := by decide +kernel
theorem dX11_meanOf_48 : decode cX11_meanOf 48 = .ok (.iinc 3 1, 3) := by decide +kernel
theorem dX11_meanOf_51 : decode cX11_meanOf 51 = .ok (.iload 4, 2) := by decide +kernel
theorem dX11_meanOf_53 : decode cX11_meanOf 53 = .ok (.aload_n 0, 1) := by decide +kernel
theorem dX11_meanOf_54 : decode cX11_meanOf 54 = .ok (.getfield 78, 3) := by decide +kernel
theorem dX11_meanOf_57 : decode cX11_meanOf 57 = .ok (.iload 6, 2) := by decide +kernel
theorem dX11_meanOf_59 : decode cX11_meanOf 59 = .ok (.iaload, 1) := by decide +kernel
theorem dX11_meanOf_60 : decode cX11_meanOf 60 = .ok (.iadd, 1) := by decide +kernel
theorem dX11_meanOf_61 : decode cX11_meanOf 61 = .ok (.istore 4, 2) := by decide +kernel
theorem dX11_meanOf_63 : decode cX11_meanOf 63 = .ok (.iinc 5 1, 3) := by decide +kernel
theorem dX11_meanOf_66 : decode cX11_meanOf 66 = .ok (.goto (-58), 3) := by decide +kernel
theorem dX11_meanOf_69 : decode cX11_meanOf 69 = .ok (.iload_n 3, 1) := by decide +kernel
theorem dX11_meanOf_70 : decode cX11_meanOf 70 = .ok (.iconst 2, 1) := by decide +kernel
theorem dX11_meanOf_71 : decode cX11_meanOf 71 = .ok (.if_icmp .ge 7, 3) := by decide +kernel
theorem dX11_meanOf_74 : decode cX11_meanOf 74 = .ok (.iconst (-1), 1) := by decide +kernel
theorem dX11_meanOf_75 : decode cX11_meanOf 75 = .ok (.goto 7, 3) := by decide +kernel
theorem dX11_meanOf_78 : decode cX11_meanOf 78 = .ok (.iload 4, 2) := by decide +kernel
theorem dX11_meanOf_80 : decode cX11_meanOf 80 = .ok (.iload_n 3, 1) := by decide +kernel
theorem dX11_meanOf_81 : decode cX11_meanOf 81 = .ok (.idiv, 1) := by decide +kernel
theorem dX11_meanOf_82 : decode cX11_meanOf 82 = .ok (.ireturn, 1) := by decide +kernel
theorem dX11_mean_0 : decode cX11_mean 0 = .ok (.aload_n 0, 1) := by decide +kernel
theorem dX11_mean_1 : decode cX11_mean 1 = .ok (.iload_n 1, 1) := by decide +kernel
theorem dX11_mean_2 : decode cX11_mean 2 = .ok (.invokevirtual 124, 3) := by decide +kernel
theorem dX11_mean_5 : decode cX11_mean 5 = .ok (.ifCond .eq 12, 3) := by decide +kernel
theorem dX11_mean_8 : decode cX11_mean 8 = .ok (.aload_n 0, 1) := by decide +kernel
theorem dX11_mean_9 : decode cX11_mean 9 = .ok (.iload_n 1, 1) := by decide +kernel
theorem dX11_mean_10 : decode cX11_mean 10 = .ok (.iload_n 2, 1) := by decide +kernel
theorem dX11_mean_11 : decode cX11_mean 11 = .ok (.invokevirtual 242, 3) := by decide +kernel
theorem dX11_mean_14 : decode cX11_mean 14 = .ok (.goto 4, 3) := by decide +kernel
theorem dX11_mean_17 : decode cX11_mean 17 = .ok (.iconst (-1), 1) := by decide +kernel
theorem dX11_mean_18 : decode cX11_mean 18 = .ok (.ireturn, 1) := by decide +kernel
theorem dX11_medal_0 : decode cX11_medal 0 = .ok (.aload_n 0, 1) := by decide +kernel
theorem dX11_medal_1 : decode cX11_medal 1 = .ok (.iload_n 1, 1) := by decide +kernel
theorem dX11_medal_2 : decode cX11_medal 2 = .ok (.invokevirtual 124, 3) := by decide +kernel
theorem dX11_medal_5 : decode cX11_medal 5 = .ok (.ifCond .ne 5, 3) := by decide +kernel
theorem dX11_medal_8 : decode cX11_medal 8 = .ok (.iconst (-1), 1) := by decide +kernel
theorem dX11_medal_9 : decode cX11_medal 9 = .ok (.ireturn, 1) := by decide +kernel
theorem dX11_medal_10 : decode cX11_medal 10 = .ok (.aload_n 0, 1) := by decide +kernel
theorem dX11_medal_11 : decode cX11_medal 11 = .ok (.iload_n 1, 1) := by decide +kernel
theorem dX11_medal_12 : decode cX11_medal 12 = .ok (.iload_n 2, 1) := by decide +kernel
theorem dX11_medal_13 : decode cX11_medal 13 = .ok (.invokevirtual 242, 3) := by decide +kernel
theorem dX11_medal_16 : decode cX11_medal 16 = .ok (.istore_n 3, 1) := by decide +kernel
theorem dX11_medal_17 : decode cX11_medal 17 = .ok (.aload_n 0, 1) := by decide +kernel
theorem dX11_medal_18 : decode cX11_medal 18 = .ok (.iconst 0, 1) := by decide +kernel
theorem dX11_medal_19 : decode cX11_medal 19 = .ok (.iload_n 2, 1) := by decide +kernel
theorem dX11_medal_20 : decode cX11_medal 20 = .ok (.invokevirtual 245, 3) := by decide +kernel
theorem dX11_medal_23 : decode cX11_medal 23 = .ok (.istore 4, 2) := by decide +kernel
theorem dX11_medal_25 : decode cX11_medal 25 = .ok (.iconst 0, 1) := by decide +kernel
theorem dX11_medal_26 : decode cX11_medal 26 = .ok (.istore 5, 2) := by decide +kernel
theorem dX11_medal_28 : decode cX11_medal 28 = .ok (.iload 5, 2) := by decide +kernel
theorem dX11_medal_30 : decode cX11_medal 30 = .ok (.iconst 3, 1) := by decide +kernel
theorem dX11_medal_31 : decode cX11_medal 31 = .ok (.if_icmp .ge 57, 3) := by decide +kernel
theorem dX11_medal_34 : decode cX11_medal 34 = .ok (.iload_n 3, 1) := by decide +kernel
theorem dX11_medal_35 : decode cX11_medal 35 = .ok (.iconst (-1), 1) := by decide +kernel
theorem dX11_medal_36 : decode cX11_medal 36 = .ok (.if_icmp .eq 52, 3) := by decide +kernel
theorem dX11_medal_39 : decode cX11_medal 39 = .ok (.iload 4, 2) := by decide +kernel
theorem dX11_medal_41 : decode cX11_medal 41 = .ok (.iconst (-1), 1) := by decide +kernel
theorem dX11_medal_42 : decode cX11_medal 42 = .ok (.if_icmp .eq 46, 3) := by decide +kernel
theorem dX11_medal_45 : decode cX11_medal 45 = .ok (.aload_n 0, 1) := by decide +kernel
theorem dX11_medal_46 : decode cX11_medal 46 = .ok (.getfield 60, 3) := by decide +kernel
theorem dX11_medal_49 : decode cX11_medal 49 = .ok (.iconst 3, 1) := by decide +kernel
theorem dX11_medal_50 : decode cX11_medal 50 = .ok (.iload 4, 2) := by decide +kernel
theorem dX11_medal_52 : decode cX11_medal 52 = .ok (.imul, 1) := by decide +kernel
theorem dX11_medal_53 : decode cX11_medal 53 = .ok (.iload 5, 2) := by decide +kernel
theorem dX11_medal_55 : decode cX11_medal 55 = .ok (.iadd, 1) := by decide +kernel
theorem dX11_medal_56 : decode cX11_medal 56 = .ok (.iaload, 1) := by decide +kernel
theorem dX11_medal_57 : decode cX11_medal 57 = .ok (.iconst (-1), 1) := by decide +kernel
theorem dX11_medal_58 : decode cX11_medal 58 = .ok (.if_icmp .eq 24, 3) := by decide +kernel
theorem dX11_medal_61 : decode cX11_medal 61 = .ok (.iload_n 3, 1) := by decide +kernel
theorem dX11_medal_62 : decode cX11_medal 62 = .ok (.aload_n 0, 1) := by decide +kernel
theorem dX11_medal_63 : decode cX11_medal 63 = .ok (.getfield 60, 3) := by decide +kernel
theorem dX11_medal_66 : decode cX11_medal 66 = .ok (.iconst 3, 1) := by decide +kernel
theorem dX11_medal_67 : decode cX11_medal 67 = .ok (.iload 4, 2) := by decide +kernel
theorem dX11_medal_69 : decode cX11_medal 69 = .ok (.imul, 1) := by decide +kernel
theorem dX11_medal_70 : decode cX11_medal 70 = .ok (.iload 5, 2) := by decide +kernel
theorem dX11_medal_72 : decode cX11_medal 72 = .ok (.iadd, 1) := by decide +kernel
theorem dX11_medal_73 : decode cX11_medal 73 = .ok (.iaload, 1) := by decide +kernel
theorem dX11_medal_74 : decode cX11_medal 74 = .ok (.if_icmp .lt 8, 3) := by decide +kernel
theorem dX11_medal_77 : decode cX11_medal 77 = .ok (.iconst 3, 1) := by decide +kernel
theorem dX11_medal_78 : decode cX11_medal 78 = .ok (.iload 5, 2) := by decide +kernel
theorem dX11_medal_80 : decode cX11_medal 80 = .ok (.isub, 1) := by decide +kernel
theorem dX11_medal_81 : decode cX11_medal 81 = .ok (.ireturn, 1) := by decide +kernel
theorem dX11_medal_82 : decode cX11_medal 82 = .ok (.iinc 5 1, 3) := by decide +kernel
theorem dX11_medal_85 : decode cX11_medal 85 = .ok (.goto (-57), 3) := by decide +kernel
theorem dX11_medal_88 : decode cX11_medal 88 = .ok (.iconst 0, 1) := by decide +kernel
theorem dX11_medal_89 : decode cX11_medal 89 = .ok (.ireturn, 1) := by decide +kernel
theorem dX11_costOf_0 : decode cX11_costOf 0 = .ok (.aload_n 0, 1) := by decide +kernel
theorem dX11_costOf_1 : decode cX11_costOf 1 = .ok (.iconst 1, 1) := by decide +kernel
theorem dX11_costOf_2 : decode cX11_costOf 2 = .ok (.iload_n 1, 1) := by decide +kernel
theorem dX11_costOf_3 : decode cX11_costOf 3 = .ok (.invokevirtual 245, 3) := by decide +kernel
theorem dX11_costOf_6 : decode cX11_costOf 6 = .ok (.istore_n 2, 1) := by decide +kernel
theorem dX11_costOf_7 : decode cX11_costOf 7 = .ok (.iload_n 2, 1) := by decide +kernel
theorem dX11_costOf_8 : decode cX11_costOf 8 = .ok (.iconst (-1), 1) := by decide +kernel
theorem dX11_costOf_9 : decode cX11_costOf 9 = .ok (.if_icmp .ne 5, 3) := by decide +kernel
theorem dX11_costOf_12 : decode cX11_costOf 12 = .ok (.iconst 0, 1) := by decide +kernel
theorem dX11_costOf_13 : decode cX11_costOf 13 = .ok (.ireturn, 1) := by decide +kernel
theorem dX11_costOf_14 : decode cX11_costOf 14 = .ok (.iconst 0, 1) := by decide +kernel
theorem dX11_costOf_15 : decode cX11_costOf 15 = .ok (.istore_n 3, 1) := by decide +kernel
theorem dX11_costOf_16 : decode cX11_costOf 16 = .ok (.iload_n 3, 1) := by decide +kernel
theorem dX11_costOf_17 : decode cX11_costOf 17 = .ok (.aload_n 0, 1) := by decide +kernel
theorem dX11_costOf_18 : decode cX11_costOf 18 = .ok (.getfield 63, 3) := by decide +kernel
theorem dX11_costOf_21 : decode cX11_costOf 21 = .ok (.iload_n 2, 1) := by decide +kernel
theorem dX11_costOf_22 : decode cX11_costOf 22 = .ok (.iaload, 1) := by decide +kernel
theorem dX11_costOf_23 : decode cX11_costOf 23 = .ok (.if_icmp .ge 37, 3) := by decide +kernel
theorem dX11_costOf_26 : decode cX11_costOf 26 = .ok (.aload_n 0, 1) := by decide +kernel
theorem dX11_costOf_27 : decode cX11_costOf 27 = .ok (.getfield 66, 3) := by decide +kernel
theorem dX11_costOf_30 : decode cX11_costOf 30 = .ok (.iconst 4, 1) := by decide +kernel
theorem dX11_costOf_31 : decode cX11_costOf 31 = .ok (.iload_n 2, 1) := by decide +kernel
theorem dX11_costOf_32 : decode cX11_costOf 32 = .ok (.imul, 1) := by decide +kernel
theorem dX11_costOf_33 : decode cX11_costOf 33 = .ok (.iload_n 3, 1) := by decide +kernel
theorem dX11_costOf_34 : decode cX11_costOf 34 = .ok (.iadd, 1) := by decide +kernel
theorem dX11_costOf_35 : decode cX11_costOf 35 = .ok (.iaload, 1) := by decide +kernel
theorem dX11_costOf_36 : decode cX11_costOf 36 = .ok (.iload_n 1, 1) := by decide +kernel
theorem dX11_costOf_37 : decode cX11_costOf 37 = .ok (.bipush 7, 2) := by decide +kernel
theorem dX11_costOf_39 : decode cX11_costOf 39 = .ok (.irem, 1) := by decide +kernel
theorem dX11_costOf_40 : decode cX11_costOf 40 = .ok (.if_icmp .ne 14, 3) := by decide +kernel
theorem dX11_costOf_43 : decode cX11_costOf 43 = .ok (.aload_n 0, 1) := by decide +kernel
theorem dX11_costOf_44 : decode cX11_costOf 44 = .ok (.getfield 69, 3) := by decide +kernel
theorem dX11_costOf_47 : decode cX11_costOf 47 = .ok (.iconst 5, 1) := by decide +kernel
theorem dX11_costOf_48 : decode cX11_costOf 48 = .ok (.iload_n 2, 1) := by decide +kernel
theorem dX11_costOf_49 : decode cX11_costOf 49 = .ok (.imul, 1) := by decide +kernel
theorem dX11_costOf_50 : decode cX11_costOf 50 = .ok (.iload_n 3, 1) := by decide +kernel
theorem dX11_costOf_51 : decode cX11_costOf 51 = .ok (.iadd, 1) := by decide +kernel
theorem dX11_costOf_52 : decode cX11_costOf 52 = .ok (.iaload, 1) := by decide +kernel
theorem dX11_costOf_53 : decode cX11_costOf 53 = .ok (.ireturn, 1) := by decide +kernel
theorem dX11_costOf_54 : decode cX11_costOf 54 = .ok (.iinc 3 1, 3) := by decide +kernel
theorem dX11_costOf_57 : decode cX11_costOf 57 = .ok (.goto (-41), 3) := by decide +kernel
theorem dX11_costOf_60 : decode cX11_costOf 60 = .ok (.aload_n 0, 1) := by decide +kernel
theorem dX11_costOf_61 : decode cX11_costOf 61 = .ok (.getfield 69, 3) := by decide +kernel
theorem dX11_costOf_64 : decode cX11_costOf 64 = .ok (.iconst 5, 1) := by decide +kernel
theorem dX11_costOf_65 : decode cX11_costOf 65 = .ok (.iload_n 2, 1) := by decide +kernel
theorem dX11_costOf_66 : decode cX11_costOf 66 = .ok (.imul, 1) := by decide +kernel
theorem dX11_costOf_67 : decode cX11_costOf 67 = .ok (.aload_n 0, 1) := by decide +kernel
theorem dX11_costOf_68 : decode cX11_costOf 68 = .ok (.getfield 63, 3) := by decide +kernel
theorem dX11_costOf_71 : decode cX11_costOf 71 = .ok (.iload_n 2, 1) := by decide +kernel
theorem dX11_costOf_72 : decode cX11_costOf 72 = .ok (.iaload, 1) := by decide +kernel
theorem dX11_costOf_73 : decode cX11_costOf 73 = .ok (.iadd, 1) := by decide +kernel
theorem dX11_costOf_74 : decode cX11_costOf 74 = .ok (.iaload, 1) := by decide +kernel
theorem dX11_costOf_75 : decode cX11_costOf 75 = .ok (.ireturn, 1) := by decide +kernel
theorem dX11_cost_0 : decode cX11_cost 0 = .ok (.iload_n 1, 1) := by decide +kernel
theorem dX11_cost_1 : decode cX11_cost 1 = .ok (.ifCond .ge 7, 3) := by decide +kernel
theorem dX11_cost_4 : decode cX11_cost 4 = .ok (.iconst (-1), 1) := by decide +kernel
theorem dX11_cost_5 : decode cX11_cost 5 = .ok (.goto 8, 3) := by decide +kernel
theorem dX11_cost_8 : decode cX11_cost 8 = .ok (.aload_n 0, 1) := by decide +kernel
theorem dX11_cost_9 : decode cX11_cost 9 = .ok (.iload_n 1, 1) := by decide +kernel
theorem dX11_cost_10 : decode cX11_cost 10 = .ok (.invokevirtual 248, 3) := by decide +kernel
theorem dX11_cost_13 : decode cX11_cost 13 = .ok (.ireturn, 1) := by decide +kernel
theorem dX11_most_0 : decode cX11_most 0 = .ok (.iload_n 1, 1) := by decide +kernel
theorem dX11_most_1 : decode cX11_most 1 = .ok (.iconst 1, 1) := by decide +kernel
theorem dX11_most_2 : decode cX11_most 2 = .ok (.sipush 20000, 3) := by decide +kernel
theorem dX11_most_5 : decode cX11_most 5 = .ok (.invokestatic 117, 3) := by decide +kernel
theorem dX11_most_8 : decode cX11_most 8 = .ok (.ifCond .ne 6, 3) := by decide +kernel
theorem dX11_most_11 : decode cX11_most 11 = .ok (.bipush (-2), 2) := by decide +kernel
theorem dX11_most_13 : decode cX11_most 13 = .ok (.ireturn, 1) := by decide +kernel
theorem dX11_most_14 : decode cX11_most 14 = .ok (.aload_n 0, 1) := by decide +kernel
theorem dX11_most_15 : decode cX11_most 15 = .ok (.getfield 84, 3) := by decide +kernel
theorem dX11_most_18 : decode cX11_most 18 = .ok (.istore_n 2, 1) := by decide +kernel
theorem dX11_most_19 : decode cX11_most 19 = .ok (.aload_n 0, 1) := by decide +kernel
theorem dX11_most_20 : decode cX11_most 20 = .ok (.iload_n 1, 1) := by decide +kernel
theorem dX11_most_21 : decode cX11_most 21 = .ok (.putfield 84, 3) := by decide +kernel
theorem dX11_most_24 : decode cX11_most 24 = .ok (.iload_n 2, 1) := by decide +kernel
theorem dX11_most_25 : decode cX11_most 25 = .ok (.ireturn, 1) := by decide +kernel
theorem dX11_minute_0 : decode cX11_minute 0 = .ok (.iload_n 1, 1) := by decide +kernel
theorem dX11_minute_1 : decode cX11_minute 1 = .ok (.iconst 0, 1) := by decide +kernel
theorem dX11_minute_2 : decode cX11_minute 2 = .ok (.sipush 2000, 3) := by decide +kernel
theorem dX11_minute_5 : decode cX11_minute 5 = .ok (.invokestatic 117, 3) := by decide +kernel
theorem dX11_minute_8 : decode cX11_minute 8 = .ok (.ifCond .eq 14, 3) := by decide +kernel
theorem dX11_minute_11 : decode cX11_minute 11 = .ok (.iload_n 2, 1) := by decide +kernel
theorem dX11_minute_12 : decode cX11_minute 12 = .ok (.iconst 0, 1) := by decide +kernel
theorem dX11_minute_13 : decode cX11_minute 13 = .ok (.sipush 2000, 3) := by decide +kernel
theorem dX11_minute_16 : decode cX11_minute 16 = .ok (.invokestatic 117, 3) := by decide +kernel
theorem dX11_minute_19 : decode cX11_minute 19 = .ok (.ifCond .ne 6, 3) := by decide +kernel
theorem dX11_minute_22 : decode cX11_minute 22 = .ok (.bipush (-2), 2) := by decide +kernel
theorem dX11_minute_24 : decode cX11_minute 24 = .ok (.ireturn, 1) := by decide +kernel
theorem dX11_minute_25 : decode cX11_minute 25 = .ok (.aload_n 0, 1) := by decide +kernel
theorem dX11_minute_26 : decode cX11_minute 26 = .ok (.getfield 251, 3) := by decide +kernel
theorem dX11_minute_29 : decode cX11_minute 29 = .ok (.sipush 600, 3) := by decide +kernel
theorem dX11_minute_32 : decode cX11_minute 32 = .ok (.if_icmp .ne 6, 3) := by decide +kernel
theorem dX11_minute_35 : decode cX11_minute 35 = .ok (.bipush (-4), 2) := by decide +kernel
theorem dX11_minute_37 : decode cX11_minute 37 = .ok (.ireturn, 1) := by decide +kernel
theorem dX11_minute_38 : decode cX11_minute 38 = .ok (.aload_n 0, 1) := by decide +kernel
theorem dX11_minute_39 : decode cX11_minute 39 = .ok (.dup, 1) := by decide +kernel
theorem dX11_minute_40 : decode cX11_minute 40 = .ok (.getfield 251, 3) := by decide +kernel
theorem dX11_minute_43 : decode cX11_minute 43 = .ok (.iconst 1, 1) := by decide +kernel
theorem dX11_minute_44 : decode cX11_minute 44 = .ok (.iadd, 1) := by decide +kernel
theorem dX11_minute_45 : decode cX11_minute 45 = .ok (.putfield 251, 3) := by decide +kernel
theorem dX11_minute_48 : decode cX11_minute 48 = .ok (.aload_n 0, 1) := by decide +kernel
theorem dX11_minute_49 : decode cX11_minute 49 = .ok (.dup, 1) := by decide +kernel
theorem dX11_minute_50 : decode cX11_minute 50 = .ok (.getfield 254, 3) := by decide +kernel
theorem dX11_minute_53 : decode cX11_minute 53 = .ok (.iload_n 2, 1) := by decide +kernel
theorem dX11_minute_54 : decode cX11_minute 54 = .ok (.aload_n 0, 1) := by decide +kernel
theorem dX11_minute_55 : decode cX11_minute 55 = .ok (.getfield 254, 3) := by decide +kernel
theorem dX11_minute_58 : decode cX11_minute 58 = .ok (.if_icmp .ge 7, 3) := by decide +kernel
theorem dX11_minute_61 : decode cX11_minute 61 = .ok (.iload_n 2, 1) := by decide +kernel
theorem dX11_minute_62 : decode cX11_minute 62 = .ok (.goto 7, 3) := by decide +kernel
theorem dX11_minute_65 : decode cX11_minute 65 = .ok (.aload_n 0, 1) := by decide +kernel
theorem dX11_minute_66 : decode cX11_minute 66 = .ok (.getfield 254, 3) := by decide +kernel
theorem dX11_minute_69 : decode cX11_minute 69 = .ok (.isub, 1) := by decide +kernel
theorem dX11_minute_70 : decode cX11_minute 70 = .ok (.putfield 254, 3) := by decide +kernel
theorem dX11_minute_73 : decode cX11_minute 73 = .ok (.aload_n 0, 1) := by decide +kernel
theorem dX11_minute_74 : decode cX11_minute 74 = .ok (.dup, 1) := by decide +kernel
theorem dX11_minute_75 : decode cX11_minute 75 = .ok (.getfield 257, 3) := by decide +kernel
theorem dX11_minute_78 : decode cX11_minute 78 = .ok (.iload_n 1, 1) := by decide +kernel
theorem dX11_minute_79 : decode cX11_minute 79 = .ok (.iadd, 1) := by decide +kernel
theorem dX11_minute_80 : decode cX11_minute 80 = .ok (.putfield 257, 3) := by decide +kernel
theorem dX11_minute_83 : decode cX11_minute 83 = .ok (.aload_n 0, 1) := by decide +kernel
theorem dX11_minute_84 : decode cX11_minute 84 = .ok (.getfield 84, 3) := by decide +kernel
theorem dX11_minute_87 : decode cX11_minute 87 = .ok (.aload_n 0, 1) := by decide +kernel
theorem dX11_minute_88 : decode cX11_minute 88 = .ok (.getfield 254, 3) := by decide +kernel
theorem dX11_minute_91 : decode cX11_minute 91 = .ok (.if_icmp .le 15, 3) := by decide +kernel
theorem dX11_minute_94 : decode cX11_minute 94 = .ok (.aload_n 0, 1) := by decide +kernel
theorem dX11_minute_95 : decode cX11_minute 95 = .ok (.getfield 84, 3) := by decide +kernel
theorem dX11_minute_98 : decode cX11_minute 98 = .ok (.aload_n 0, 1) := by decide +kernel
theorem dX11_minute_99 : decode cX11_minute 99 = .ok (.getfield 254, 3) := by decide +kernel
theorem dX11_minute_102 : decode cX11_minute 102 = .ok (.isub, 1) := by decide +kernel
theorem dX11_minute_103 : decode cX11_minute 103 = .ok (.goto 4, 3) := by decide +kernel
theorem dX11_minute_106 : decode cX11_minute 106 = .ok (.iconst 0, 1) := by decide +kernel
theorem dX11_minute_107 : decode cX11_minute 107 = .ok (.istore_n 3, 1) := by decide +kernel
theorem dX11_minute_108 : decode cX11_minute 108 = .ok (.aload_n 0, 1) := by decide +kernel
theorem dX11_minute_109 : decode cX11_minute 109 = .ok (.getfield 257, 3) := by decide +kernel
theorem dX11_minute_112 : decode cX11_minute 112 = .ok (.iload_n 3, 1) := by decide +kernel
theorem dX11_minute_113 : decode cX11_minute 113 = .ok (.if_icmp .ge 10, 3) := by decide +kernel
theorem dX11_minute_116 : decode cX11_minute 116 = .ok (.aload_n 0, 1) := by decide +kernel
theorem dX11_minute_117 : decode cX11_minute 117 = .ok (.getfield 257, 3) := by decide +kernel
theorem dX11_minute_120 : decode cX11_minute 120 = .ok (.goto 4, 3) := by decide +kernel
theorem dX11_minute_123 : decode cX11_minute 123 = .ok (.iload_n 3, 1) := by decide +kernel
theorem dX11_minute_124 : decode cX11_minute 124 = .ok (.istore 4, 2) := by decide +kernel
theorem dX11_minute_126 : decode cX11_minute 126 = .ok (.aload_n 0, 1) := by decide +kernel
theorem dX11_minute_127 : decode cX11_minute 127 = .ok (.dup, 1) := by decide +kernel
theorem dX11_minute_128 : decode cX11_minute 128 = .ok (.getfield 254, 3) := by decide +kernel
theorem dX11_minute_131 : decode cX11_minute 131 = .ok (.iload 4, 2) := by decide +kernel
theorem dX11_minute_133 : decode cX11_minute 133 = .ok (.iadd, 1) := by decide +kernel
theorem dX11_minute_134 : decode cX11_minute 134 = .ok (.putfield 254, 3) := by decide +kernel
theorem dX11_minute_137 : decode cX11_minute 137 = .ok (.aload_n 0, 1) := by decide +kernel
theorem dX11_minute_138 : decode cX11_minute 138 = .ok (.dup, 1) := by decide +kernel
theorem dX11_minute_139 : decode cX11_minute 139 = .ok (.getfield 257, 3) := by decide +kernel
theorem dX11_minute_142 : decode cX11_minute 142 = .ok (.iload 4, 2) := by decide +kernel
theorem dX11_minute_144 : decode cX11_minute 144 = .ok (.isub, 1) := by decide +kernel
theorem dX11_minute_145 : decode cX11_minute 145 = .ok (.putfield 257, 3) := by decide +kernel
theorem dX11_minute_148 : decode cX11_minute 148 = .ok (.aload_n 0, 1) := by decide +kernel
theorem dX11_minute_149 : decode cX11_minute 149 = .ok (.dup, 1) := by decide +kernel
theorem dX11_minute_150 : decode cX11_minute 150 = .ok (.getfield 260, 3) := by decide +kernel
theorem dX11_minute_153 : decode cX11_minute 153 = .ok (.iload 4, 2) := by decide +kernel
theorem dX11_minute_155 : decode cX11_minute 155 = .ok (.aload_n 0, 1) := by decide +kernel
theorem dX11_minute_156 : decode cX11_minute 156 = .ok (.aload_n 0, 1) := by decide +kernel
theorem dX11_minute_157 : decode cX11_minute 157 = .ok (.getfield 263, 3) := by decide +kernel
theorem dX11_minute_160 : decode cX11_minute 160 = .ok (.invokevirtual 248, 3) := by decide +kernel
theorem dX11_minute_163 : decode cX11_minute 163 = .ok (.imul, 1) := by decide +kernel
theorem dX11_minute_164 : decode cX11_minute 164 = .ok (.iadd, 1) := by decide +kernel
theorem dX11_minute_165 : decode cX11_minute 165 = .ok (.putfield 260, 3) := by decide +kernel
theorem dX11_minute_168 : decode cX11_minute 168 = .ok (.aload_n 0, 1) := by decide +kernel
theorem dX11_minute_169 : decode cX11_minute 169 = .ok (.dup, 1) := by decide +kernel
theorem dX11_minute_170 : decode cX11_minute 170 = .ok (.getfield 266, 3) := by decide +kernel
theorem dX11_minute_173 : decode cX11_minute 173 = .ok (.iload 4, 2) := by decide +kernel
theorem dX11_minute_175 : decode cX11_minute 175 = .ok (.aload_n 0, 1) := by decide +kernel
theorem dX11_minute_176 : decode cX11_minute 176 = .ok (.aload_n 0, 1) := by decide +kernel
theorem dX11_minute_177 : decode cX11_minute 177 = .ok (.getfield 263, 3) := by decide +kernel
theorem dX11_minute_180 : decode cX11_minute 180 = .ok (.invokevirtual 248, 3) := by decide +kernel
theorem dX11_minute_183 : decode cX11_minute 183 = .ok (.imul, 1) := by decide +kernel
theorem dX11_minute_184 : decode cX11_minute 184 = .ok (.iadd, 1) := by decide +kernel
theorem dX11_minute_185 : decode cX11_minute 185 = .ok (.putfield 266, 3) := by decide +kernel
theorem dX11_minute_188 : decode cX11_minute 188 = .ok (.aload_n 0, 1) := by decide +kernel
theorem dX11_minute_189 : decode cX11_minute 189 = .ok (.getfield 254, 3) := by decide +kernel
theorem dX11_minute_192 : decode cX11_minute 192 = .ok (.ireturn, 1) := by decide +kernel
theorem dX11_bell_0 : decode cX11_bell 0 = .ok (.aload_n 0, 1) := by decide +kernel
theorem dX11_bell_1 : decode cX11_bell 1 = .ok (.getfield 263, 3) := by decide +kernel
theorem dX11_bell_4 : decode cX11_bell 4 = .ok (.sipush 999, 3) := by decide +kernel
theorem dX11_bell_7 : decode cX11_bell 7 = .ok (.if_icmp .ne 6, 3) := by decide +kernel
theorem dX11_bell_10 : decode cX11_bell 10 = .ok (.bipush (-4), 2) := by decide +kernel
theorem dX11_bell_12 : decode cX11_bell 12 = .ok (.ireturn, 1) := by decide +kernel
theorem dX11_bell_13 : decode cX11_bell 13 = .ok (.aload_n 0, 1) := by decide +kernel
theorem dX11_bell_14 : decode cX11_bell 14 = .ok (.dup, 1) := by decide +kernel
theorem dX11_bell_15 : decode cX11_bell 15 = .ok (.getfield 263, 3) := by decide +kernel
theorem dX11_bell_18 : decode cX11_bell 18 = .ok (.iconst 1, 1) := by decide +kernel
theorem dX11_bell_19 : decode cX11_bell 19 = .ok (.iadd, 1) := by decide +kernel
theorem dX11_bell_20 : decode cX11_bell 20 = .ok (.putfield 263, 3) := by decide +kernel
theorem dX11_bell_23 : decode cX11_bell 23 = .ok (.aload_n 0, 1) := by decide +kernel
theorem dX11_bell_24 : decode cX11_bell 24 = .ok (.iconst 0, 1) := by decide +kernel
theorem dX11_bell_25 : decode cX11_bell 25 = .ok (.putfield 251, 3) := by decide +kernel
theorem dX11_bell_28 : decode cX11_bell 28 = .ok (.aload_n 0, 1) := by decide +kernel
theorem dX11_bell_29 : decode cX11_bell 29 = .ok (.iconst 0, 1) := by decide +kernel
theorem dX11_bell_30 : decode cX11_bell 30 = .ok (.putfield 254, 3) := by decide +kernel
theorem dX11_bell_33 : decode cX11_bell 33 = .ok (.aload_n 0, 1) := by decide +kernel
theorem dX11_bell_34 : decode cX11_bell 34 = .ok (.iconst 0, 1) := by decide +kernel
theorem dX11_bell_35 : decode cX11_bell 35 = .ok (.putfield 257, 3) := by decide +kernel
theorem dX11_bell_38 : decode cX11_bell 38 = .ok (.aload_n 0, 1) := by decide +kernel
theorem dX11_bell_39 : decode cX11_bell 39 = .ok (.iconst 0, 1) := by decide +kernel
theorem dX11_bell_40 : decode cX11_bell 40 = .ok (.putfield 260, 3) := by decide +kernel
theorem dX11_bell_43 : decode cX11_bell 43 = .ok (.aload_n 0, 1) := by decide +kernel
theorem dX11_bell_44 : decode cX11_bell 44 = .ok (.getfield 263, 3) := by decide +kernel
theorem dX11_bell_47 : decode cX11_bell 47 = .ok (.ireturn, 1) := by decide +kernel
theorem dX11_sight_0 : decode cX11_sight 0 = .ok (.aload_n 0, 1) := by decide +kernel
theorem dX11_sight_1 : decode cX11_sight 1 = .ok (.iload_n 1, 1) := by decide +kernel
theorem dX11_sight_2 : decode cX11_sight 2 = .ok (.invokevirtual 128, 3) := by decide +kernel
theorem dX11_sight_5 : decode cX11_sight 5 = .ok (.ifCond .ne 5, 3) := by decide +kernel
theorem dX11_sight_8 : decode cX11_sight 8 = .ok (.iconst (-1), 1) := by decide +kernel
theorem dX11_sight_9 : decode cX11_sight 9 = .ok (.ireturn, 1) := by decide +kernel
theorem dX11_sight_10 : decode cX11_sight 10 = .ok (.iload_n 2, 1) := by decide +kernel
theorem dX11_sight_11 : decode cX11_sight 11 = .ok (.iconst 0, 1) := by decide +kernel
theorem dX11_sight_12 : decode cX11_sight 12 = .ok (.sipush 10000, 3) := by decide +kernel
theorem dX11_sight_15 : decode cX11_sight 15 = .ok (.invokestatic 117, 3) := by decide +kernel
theorem dX11_sight_18 : decode cX11_sight 18 = .ok (.ifCond .eq 38, 3) := by decide +kernel
theorem dX11_sight_21 : decode cX11_sight 21 = .ok (.aload_n 0, 1) := by decide +kernel
theorem dX11_sight_22 : decode cX11_sight 22 = .ok (.getfield 269, 3) := by decide +kernel
theorem dX11_sight_25 : decode cX11_sight 25 = .ok (.ifCond .le 11, 3) := by decide +kernel
theorem dX11_sight_28 : decode cX11_sight 28 = .ok (.iload_n 2, 1) := by decide +kernel
theorem dX11_sight_29 : decode cX11_sight 29 = .ok (.aload_n 0, 1) := by decide +kernel
theorem dX11_sight_30 : decode cX11_sight 30 = .ok (.getfield 272, 3) := by decide +kernel
theorem dX11_sight_33 : decode cX11_sight 33 = .ok (.if_icmp .le 23, 3) := by decide +kernel
theorem dX11_sight_36 : decode cX11_sight 36 = .ok (.aload_n 0, 1) := by decide +kernel
theorem dX11_sight_37 : decode cX11_sight 37 = .ok (.getfield 7, 3) := by decide +kernel
theorem dX11_sight_40 : decode cX11_sight 40 = .ok (.iload_n 1, 1) := by decide +kernel
theorem dX11_sight_41 : decode cX11_sight 41 = .ok (.iaload, 1) := by decide +kernel
theorem dX11_sight_42 : decode cX11_sight 42 = .ok (.iconst 2, 1) := by decide +kernel
theorem dX11_sight_43 : decode cX11_sight 43 = .ok (.if_icmp .eq 13, 3) := by decide +kernel
theorem dX11_sight_46 : decode cX11_sight 46 = .ok (.aload_n 0, 1) := by decide +kernel
theorem dX11_sight_47 : decode cX11_sight 47 = .ok (.getfield 7, 3) := by decide +kernel
theorem dX11_sight_50 : decode cX11_sight 50 = .ok (.iload_n 1, 1) := by decide +kernel
theorem dX11_sight_51 : decode cX11_sight 51 = .ok (.iaload, 1) := by decide +kernel
theorem dX11_sight_52 : decode cX11_sight 52 = .ok (.iconst 3, 1) := by decide +kernel
theorem dX11_sight_53 : decode cX11_sight 53 = .ok (.if_icmp .ne 6, 3) := by decide +kernel
theorem dX11_sight_56 : decode cX11_sight 56 = .ok (.bipush (-2), 2) := by decide +kernel
theorem dX11_sight_58 : decode cX11_sight 58 = .ok (.ireturn, 1) := by decide +kernel
theorem dX11_sight_59 : decode cX11_sight 59 = .ok (.aload_n 0, 1) := by decide +kernel
theorem dX11_sight_60 : decode cX11_sight 60 = .ok (.getfield 269, 3) := by decide +kernel
theorem dX11_sight_63 : decode cX11_sight 63 = .ok (.bipush 10, 2) := by decide +kernel
theorem dX11_sight_65 : decode cX11_sight 65 = .ok (.if_icmp .ne 6, 3) := by decide +kernel
theorem dX11_sight_68 : decode cX11_sight 68 = .ok (.bipush (-4), 2) := by decide +kernel
theorem dX11_sight_70 : decode cX11_sight 70 = .ok (.ireturn, 1) := by decide +kernel
theorem dX11_sight_71 : decode cX11_sight 71 = .ok (.aload_n 0, 1) := by decide +kernel
theorem dX11_sight_72 : decode cX11_sight 72 = .ok (.getfield 87, 3) := by decide +kernel
theorem dX11_sight_75 : decode cX11_sight 75 = .ok (.aload_n 0, 1) := by decide +kernel
theorem dX11_sight_76 : decode cX11_sight 76 = .ok (.getfield 269, 3) := by decide +kernel
theorem dX11_sight_79 : decode cX11_sight 79 = .ok (.iload_n 1, 1) := by decide +kernel
theorem dX11_sight_80 : decode cX11_sight 80 = .ok (.iastore, 1) := by decide +kernel
theorem dX11_sight_81 : decode cX11_sight 81 = .ok (.aload_n 0, 1) := by decide +kernel
theorem dX11_sight_82 : decode cX11_sight 82 = .ok (.iload_n 2, 1) := by decide +kernel
theorem dX11_sight_83 : decode cX11_sight 83 = .ok (.putfield 272, 3) := by decide +kernel
theorem dX11_sight_86 : decode cX11_sight 86 = .ok (.aload_n 0, 1) := by decide +kernel
theorem dX11_sight_87 : decode cX11_sight 87 = .ok (.dup, 1) := by decide +kernel
theorem dX11_sight_88 : decode cX11_sight 88 = .ok (.getfield 269, 3) := by decide +kernel
