theorem dX5_hindrance_64 : decode cX5_hindrance 64 = .ok (.invokevirtual 76, 3) := by decide +kernel
theorem dX5_hindrance_67 : decode cX5_hindrance 67 = .ok (.ifCond .eq 5, 3) := by decide +kernel
theorem dX5_hindrance_70 : decode cX5_hindrance 70 = .ok (.iconst 4, 1) := by decide +kernel
theorem dX5_hindrance_71 : decode cX5_hindrance 71 = .ok (.ireturn, 1) := by decide +kernel
theorem dX5_hindrance_72 : decode cX5_hindrance 72 = .ok (.aload_n 0, 1) := by decide +kernel
theorem dX5_hindrance_73 : decode cX5_hindrance 73 = .ok (.getfield 9, 3) := by decide +kernel
theorem dX5_hindrance_76 : decode cX5_hindrance 76 = .ok (.lload_n 3, 1) := by decide +kernel
theorem dX5_hindrance_77 : decode cX5_hindrance 77 = .ok (.aload_n 1, 1) := by decide +kernel
theorem dX5_hindrance_78 : decode cX5_hindrance 78 = .ok (.getfield 80, 3) := by decide +kernel
theorem dX5_hindrance_81 : decode cX5_hindrance 81 = .ok (.invokevirtual 83, 3) := by decide +kernel
theorem dX5_hindrance_84 : decode cX5_hindrance 84 = .ok (.ifCond .ne 5, 3) := by decide +kernel
theorem dX5_hindrance_87 : decode cX5_hindrance 87 = .ok (.iconst 5, 1) := by decide +kernel
theorem dX5_hindrance_88 : decode cX5_hindrance 88 = .ok (.ireturn, 1) := by decide +kernel
theorem dX5_hindrance_89 : decode cX5_hindrance 89 = .ok (.aload_n 0, 1) := by decide +kernel
theorem dX5_hindrance_90 : decode cX5_hindrance 90 = .ok (.aload_n 1, 1) := by decide +kernel
theorem dX5_hindrance_91 : decode cX5_hindrance 91 = .ok (.lload_n 3, 1) := by decide +kernel
theorem dX5_hindrance_92 : decode cX5_hindrance 92 = .ok (.invokevirtual 87, 3) := by decide +kernel
theorem dX5_hindrance_95 : decode cX5_hindrance 95 = .ok (.ifCond .ne 6, 3) := by decide +kernel
theorem dX5_hindrance_98 : decode cX5_hindrance 98 = .ok (.bipush 6, 2) := by decide +kernel
theorem dX5_hindrance_100 : decode cX5_hindrance 100 = .ok (.ireturn, 1) := by decide +kernel
theorem dX5_hindrance_101 : decode cX5_hindrance 101 = .ok (.aload_n 0, 1) := by decide +kernel
theorem dX5_hindrance_102 : decode cX5_hindrance 102 = .ok (.aload_n 1, 1) := by decide +kernel
theorem dX5_hindrance_103 : decode cX5_hindrance 103 = .ok (.iconst 1, 1) := by decide +kernel
theorem dX5_hindrance_104 : decode cX5_hindrance 104 = .ok (.invokevirtual 91, 3) := by decide +kernel
theorem dX5_hindrance_107 : decode cX5_hindrance 107 = .ok (.ifCond .eq 8, 3) := by decide +kernel
theorem dX5_hindrance_110 : decode cX5_hindrance 110 = .ok (.bipush 7, 2) := by decide +kernel
theorem dX5_hindrance_112 : decode cX5_hindrance 112 = .ok (.goto 4, 3) := by decide +kernel
theorem dX5_hindrance_115 : decode cX5_hindrance 115 = .ok (.iconst 0, 1) := by decide +kernel
theorem dX5_hindrance_116 : decode cX5_hindrance 116 = .ok (.ireturn, 1) := by decide +kernel
theorem dX5_isTooNear_0 : decode cX5_isTooNear 0 = .ok (.iconst 0, 1) := by decide +kernel
theorem dX5_isTooNear_1 : decode cX5_isTooNear 1 = .ok (.istore_n 3, 1) := by decide +kernel
theorem dX5_isTooNear_2 : decode cX5_isTooNear 2 = .ok (.iload_n 3, 1) := by decide +kernel
theorem dX5_isTooNear_3 : decode cX5_isTooNear 3 = .ok (.aload_n 0, 1) := by decide +kernel
theorem dX5_isTooNear_4 : decode cX5_isTooNear 4 = .ok (.getfield 25, 3) := by decide +kernel
theorem dX5_isTooNear_7 : decode cX5_isTooNear 7 = .ok (.if_icmp .ge 123, 3) := by decide +kernel
theorem dX5_isTooNear_10 : decode cX5_isTooNear 10 = .ok (.aload_n 0, 1) := by decide +kernel
theorem dX5_isTooNear_11 : decode cX5_isTooNear 11 = .ok (.getfield 17, 3) := by decide +kernel
theorem dX5_isTooNear_14 : decode cX5_isTooNear 14 = .ok (.iload_n 3, 1) := by decide +kernel
theorem dX5_isTooNear_15 : decode cX5_isTooNear 15 = .ok (.aaload, 1) := by decide +kernel
theorem dX5_isTooNear_16 : decode cX5_isTooNear 16 = .ok (.astore 4, 2) := by decide +kernel
theorem dX5_isTooNear_18 : decode cX5_isTooNear 18 = .ok (.aload 4, 2) := by decide +kernel
theorem dX5_isTooNear_20 : decode cX5_isTooNear 20 = .ok (.aload_n 1, 1) := by decide +kernel
theorem dX5_isTooNear_21 : decode cX5_isTooNear 21 = .ok (.if_acmp .eq 103, 3) := by decide +kernel
theorem dX5_isTooNear_24 : decode cX5_isTooNear 24 = .ok (.aload 4, 2) := by decide +kernel
theorem dX5_isTooNear_26 : decode cX5_isTooNear 26 = .ok (.invokevirtual 47, 3) := by decide +kernel
theorem dX5_isTooNear_29 : decode cX5_isTooNear 29 = .ok (.ifCond .eq 95, 3) := by decide +kernel
theorem dX5_isTooNear_32 : decode cX5_isTooNear 32 = .ok (.aload 4, 2) := by decide +kernel
theorem dX5_isTooNear_34 : decode cX5_isTooNear 34 = .ok (.getfield 95, 3) := by decide +kernel
theorem dX5_isTooNear_37 : decode cX5_isTooNear 37 = .ok (.aload_n 1, 1) := by decide +kernel
theorem dX5_isTooNear_38 : decode cX5_isTooNear 38 = .ok (.getfield 95, 3) := by decide +kernel
theorem dX5_isTooNear_41 : decode cX5_isTooNear 41 = .ok (.if_icmp .eq 83, 3) := by decide +kernel
theorem dX5_isTooNear_44 : decode cX5_isTooNear 44 = .ok (.aload_n 0, 1) := by decide +kernel
theorem dX5_isTooNear_45 : decode cX5_isTooNear 45 = .ok (.getfield 9, 3) := by decide +kernel
theorem dX5_isTooNear_48 : decode cX5_isTooNear 48 = .ok (.iload_n 2, 1) := by decide +kernel
theorem dX5_isTooNear_49 : decode cX5_isTooNear 49 = .ok (.invokevirtual 98, 3) := by decide +kernel
theorem dX5_isTooNear_52 : decode cX5_isTooNear 52 = .ok (.aload_n 1, 1) := by decide +kernel
theorem dX5_isTooNear_53 : decode cX5_isTooNear 53 = .ok (.getfield 31, 3) := by decide +kernel
theorem dX5_isTooNear_56 : decode cX5_isTooNear 56 = .ok (.aload_n 0, 1) := by decide +kernel
theorem dX5_isTooNear_57 : decode cX5_isTooNear 57 = .ok (.getfield 9, 3) := by decide +kernel
theorem dX5_isTooNear_60 : decode cX5_isTooNear 60 = .ok (.aload 4, 2) := by decide +kernel
theorem dX5_isTooNear_62 : decode cX5_isTooNear 62 = .ok (.getfield 28, 3) := by decide +kernel
theorem dX5_isTooNear_65 : decode cX5_isTooNear 65 = .ok (.invokevirtual 98, 3) := by decide +kernel
theorem dX5_isTooNear_68 : decode cX5_isTooNear 68 = .ok (.aload 4, 2) := by decide +kernel
theorem dX5_isTooNear_70 : decode cX5_isTooNear 70 = .ok (.getfield 31, 3) := by decide +kernel
theorem dX5_isTooNear_73 : decode cX5_isTooNear 73 = .ok (.invokestatic 102, 3) := by decide +kernel
theorem dX5_isTooNear_76 : decode cX5_isTooNear 76 = .ok (.aload_n 0, 1) := by decide +kernel
theorem dX5_isTooNear_77 : decode cX5_isTooNear 77 = .ok (.getfield 21, 3) := by decide +kernel
theorem dX5_isTooNear_80 : decode cX5_isTooNear 80 = .ok (.if_icmp .ge 44, 3) := by decide +kernel
theorem dX5_isTooNear_83 : decode cX5_isTooNear 83 = .ok (.aload_n 0, 1) := by decide +kernel
theorem dX5_isTooNear_84 : decode cX5_isTooNear 84 = .ok (.getfield 9, 3) := by decide +kernel
theorem dX5_isTooNear_87 : decode cX5_isTooNear 87 = .ok (.iload_n 2, 1) := by decide +kernel
theorem dX5_isTooNear_88 : decode cX5_isTooNear 88 = .ok (.invokevirtual 106, 3) := by decide +kernel
theorem dX5_isTooNear_91 : decode cX5_isTooNear 91 = .ok (.aload_n 1, 1) := by decide +kernel
theorem dX5_isTooNear_92 : decode cX5_isTooNear 92 = .ok (.getfield 34, 3) := by decide +kernel
theorem dX5_isTooNear_95 : decode cX5_isTooNear 95 = .ok (.aload_n 0, 1) := by decide +kernel
theorem dX5_isTooNear_96 : decode cX5_isTooNear 96 = .ok (.getfield 9, 3) := by decide +kernel
theorem dX5_isTooNear_99 : decode cX5_isTooNear 99 = .ok (.aload 4, 2) := by decide +kernel
theorem dX5_isTooNear_101 : decode cX5_isTooNear 101 = .ok (.getfield 28, 3) := by decide +kernel
theorem dX5_isTooNear_104 : decode cX5_isTooNear 104 = .ok (.invokevirtual 106, 3) := by decide +kernel
theorem dX5_isTooNear_107 : decode cX5_isTooNear 107 = .ok (.aload 4, 2) := by decide +kernel
theorem dX5_isTooNear_109 : decode cX5_isTooNear 109 = .ok (.getfield 34, 3) := by decide +kernel
theorem dX5_isTooNear_112 : decode cX5_isTooNear 112 = .ok (.invokestatic 102, 3) := by decide +kernel
theorem dX5_isTooNear_115 : decode cX5_isTooNear 115 = .ok (.aload_n 0, 1) := by decide +kernel
theorem dX5_isTooNear_116 : decode cX5_isTooNear 116 = .ok (.getfield 21, 3) := by decide +kernel
theorem dX5_isTooNear_119 : decode cX5_isTooNear 119 = .ok (.if_icmp .ge 5, 3) := by decide +kernel
theorem dX5_isTooNear_122 : decode cX5_isTooNear 122 = .ok (.iconst 1, 1) := by decide +kernel
theorem dX5_isTooNear_123 : decode cX5_isTooNear 123 = .ok (.ireturn, 1) := by decide +kernel
theorem dX5_isTooNear_124 : decode cX5_isTooNear 124 = .ok (.iinc 3 1, 3) := by decide +kernel
theorem dX5_isTooNear_127 : decode cX5_isTooNear 127 = .ok (.goto (-125), 3) := by decide +kernel
theorem dX5_isTooNear_130 : decode cX5_isTooNear 130 = .ok (.iconst 0, 1) := by decide +kernel
theorem dX5_isTooNear_131 : decode cX5_isTooNear 131 = .ok (.ireturn, 1) := by decide +kernel
theorem dX5_between_0 : decode cX5_between 0 = .ok (.iload_n 2, 1) := by decide +kernel
theorem dX5_between_1 : decode cX5_between 1 = .ok (.iload_n 0, 1) := by decide +kernel
theorem dX5_between_2 : decode cX5_between 2 = .ok (.isub, 1) := by decide +kernel
theorem dX5_between_3 : decode cX5_between 3 = .ok (.iload_n 1, 1) := by decide +kernel
theorem dX5_between_4 : decode cX5_between 4 = .ok (.isub, 1) := by decide +kernel
theorem dX5_between_5 : decode cX5_between 5 = .ok (.iload_n 0, 1) := by decide +kernel
theorem dX5_between_6 : decode cX5_between 6 = .ok (.iload_n 2, 1) := by decide +kernel
theorem dX5_between_7 : decode cX5_between 7 = .ok (.isub, 1) := by decide +kernel
theorem dX5_between_8 : decode cX5_between 8 = .ok (.iload_n 3, 1) := by decide +kernel
theorem dX5_between_9 : decode cX5_between 9 = .ok (.isub, 1) := by decide +kernel
theorem dX5_between_10 : decode cX5_between 10 = .ok (.invokestatic 109, 3) := by decide +kernel
theorem dX5_between_13 : decode cX5_between 13 = .ok (.ireturn, 1) := by decide +kernel
theorem dX5_hasItsNeed_0 : decode cX5_hasItsNeed 0 = .ok (.aload_n 1, 1) := by decide +kernel
theorem dX5_hasItsNeed_1 : decode cX5_hasItsNeed 1 = .ok (.getfield 115, 3) := by decide +kernel
theorem dX5_hasItsNeed_4 : decode cX5_hasItsNeed 4 = .ok (.tableswitch 125 1 4 #[32, 52, 81, 110], 32) := by decide +kernel
theorem dX5_hasItsNeed_36 : decode cX5_hasItsNeed 36 = .ok (.lload_n 2, 1) := by decide +kernel
theorem dX5_hasItsNeed_37 : decode cX5_hasItsNeed 37 = .ok (.aload_n 0, 1) := by decide +kernel
theorem dX5_hasItsNeed_38 : decode cX5_hasItsNeed 38 = .ok (.getfield 9, 3) := by decide +kernel
theorem dX5_hasItsNeed_41 : decode cX5_hasItsNeed 41 = .ok (.getfield 118, 3) := by decide +kernel
theorem dX5_hasItsNeed_44 : decode cX5_hasItsNeed 44 = .ok (.land, 1) := by decide +kernel
theorem dX5_hasItsNeed_45 : decode cX5_hasItsNeed 45 = .ok (.lconst 0, 1) := by decide +kernel
theorem dX5_hasItsNeed_46 : decode cX5_hasItsNeed 46 = .ok (.lcmp, 1) := by decide +kernel
theorem dX5_hasItsNeed_47 : decode cX5_hasItsNeed 47 = .ok (.ifCond .eq 7, 3) := by decide +kernel
theorem dX5_hasItsNeed_50 : decode cX5_hasItsNeed 50 = .ok (.iconst 1, 1) := by decide +kernel
theorem dX5_hasItsNeed_51 : decode cX5_hasItsNeed 51 = .ok (.goto 4, 3) := by decide +kernel
theorem dX5_hasItsNeed_54 : decode cX5_hasItsNeed 54 = .ok (.iconst 0, 1) := by decide +kernel
theorem dX5_hasItsNeed_55 : decode cX5_hasItsNeed 55 = .ok (.ireturn, 1) := by decide +kernel
theorem dX5_hasItsNeed_56 : decode cX5_hasItsNeed 56 = .ok (.aload_n 0, 1) := by decide +kernel
theorem dX5_hasItsNeed_57 : decode cX5_hasItsNeed 57 = .ok (.getfield 9, 3) := by decide +kernel
theorem dX5_hasItsNeed_60 : decode cX5_hasItsNeed 60 = .ok (.lload_n 2, 1) := by decide +kernel
theorem dX5_hasItsNeed_61 : decode cX5_hasItsNeed 61 = .ok (.invokevirtual 121, 3) := by decide +kernel
theorem dX5_hasItsNeed_64 : decode cX5_hasItsNeed 64 = .ok (.aload_n 0, 1) := by decide +kernel
theorem dX5_hasItsNeed_65 : decode cX5_hasItsNeed 65 = .ok (.getfield 9, 3) := by decide +kernel
theorem dX5_hasItsNeed_68 : decode cX5_hasItsNeed 68 = .ok (.getfield 66, 3) := by decide +kernel
theorem dX5_hasItsNeed_71 : decode cX5_hasItsNeed 71 = .ok (.iconst 2, 1) := by decide +kernel
theorem dX5_hasItsNeed_72 : decode cX5_hasItsNeed 72 = .ok (.laload, 1) := by decide +kernel
theorem dX5_hasItsNeed_73 : decode cX5_hasItsNeed 73 = .ok (.land, 1) := by decide +kernel
theorem dX5_hasItsNeed_74 : decode cX5_hasItsNeed 74 = .ok (.lconst 0, 1) := by decide +kernel
theorem dX5_hasItsNeed_75 : decode cX5_hasItsNeed 75 = .ok (.lcmp, 1) := by decide +kernel
theorem dX5_hasItsNeed_76 : decode cX5_hasItsNeed 76 = .ok (.ifCond .eq 7, 3) := by decide +kernel
theorem dX5_hasItsNeed_79 : decode cX5_hasItsNeed 79 = .ok (.iconst 1, 1) := by decide +kernel
theorem dX5_hasItsNeed_80 : decode cX5_hasItsNeed 80 = .ok (.goto 4, 3) := by decide +kernel
theorem dX5_hasItsNeed_83 : decode cX5_hasItsNeed 83 = .ok (.iconst 0, 1) := by decide +kernel
theorem dX5_hasItsNeed_84 : decode cX5_hasItsNeed 84 = .ok (.ireturn, 1) := by decide +kernel
theorem dX5_hasItsNeed_85 : decode cX5_hasItsNeed 85 = .ok (.aload_n 0, 1) := by decide +kernel
theorem dX5_hasItsNeed_86 : decode cX5_hasItsNeed 86 = .ok (.getfield 9, 3) := by decide +kernel
theorem dX5_hasItsNeed_89 : decode cX5_hasItsNeed 89 = .ok (.lload_n 2, 1) := by decide +kernel
theorem dX5_hasItsNeed_90 : decode cX5_hasItsNeed 90 = .ok (.invokevirtual 121, 3) := by decide +kernel
theorem dX5_hasItsNeed_93 : decode cX5_hasItsNeed 93 = .ok (.aload_n 0, 1) := by decide +kernel
theorem dX5_hasItsNeed_94 : decode cX5_hasItsNeed 94 = .ok (.getfield 9, 3) := by decide +kernel
theorem dX5_hasItsNeed_97 : decode cX5_hasItsNeed 97 = .ok (.getfield 66, 3) := by decide +kernel
theorem dX5_hasItsNeed_100 : decode cX5_hasItsNeed 100 = .ok (.iconst 3, 1) := by decide +kernel
theorem dX5_hasItsNeed_101 : decode cX5_hasItsNeed 101 = .ok (.laload, 1) := by decide +kernel
theorem dX5_hasItsNeed_102 : decode cX5_hasItsNeed 102 = .ok (.land, 1) := by decide +kernel
theorem dX5_hasItsNeed_103 : decode cX5_hasItsNeed 103 = .ok (.lconst 0, 1) := by decide +kernel
theorem dX5_hasItsNeed_104 : decode cX5_hasItsNeed 104 = .ok (.lcmp, 1) := by decide +kernel
theorem dX5_hasItsNeed_105 : decode cX5_hasItsNeed 105 = .ok (.ifCond .eq 7, 3) := by decide +kernel
theorem dX5_hasItsNeed_108 : decode cX5_hasItsNeed 108 = .ok (.iconst 1, 1) := by decide +kernel
theorem dX5_hasItsNeed_109 : decode cX5_hasItsNeed 109 = .ok (.goto 4, 3) := by decide +kernel
theorem dX5_hasItsNeed_112 : decode cX5_hasItsNeed 112 = .ok (.iconst 0, 1) := by decide +kernel
theorem dX5_hasItsNeed_113 : decode cX5_hasItsNeed 113 = .ok (.ireturn, 1) := by decide +kernel
theorem dX5_hasItsNeed_114 : decode cX5_hasItsNeed 114 = .ok (.aload_n 0, 1) := by decide +kernel
theorem dX5_hasItsNeed_115 : decode cX5_hasItsNeed 115 = .ok (.aload_n 1, 1) := by decide +kernel
theorem dX5_hasItsNeed_116 : decode cX5_hasItsNeed 116 = .ok (.iconst 0, 1) := by decide +kernel
theorem dX5_hasItsNeed_117 : decode cX5_hasItsNeed 117 = .ok (.invokevirtual 91, 3) := by decide +kernel
theorem dX5_hasItsNeed_120 : decode cX5_hasItsNeed 120 = .ok (.ifCond .ne 7, 3) := by decide +kernel
theorem dX5_hasItsNeed_123 : decode cX5_hasItsNeed 123 = .ok (.iconst 1, 1) := by decide +kernel
theorem dX5_hasItsNeed_124 : decode cX5_hasItsNeed 124 = .ok (.goto 4, 3) := by decide +kernel
theorem dX5_hasItsNeed_127 : decode cX5_hasItsNeed 127 = .ok (.iconst 0, 1) := by decide +kernel
theorem dX5_hasItsNeed_128 : decode cX5_hasItsNeed 128 = .ok (.ireturn, 1) := by decide +kernel
theorem dX5_hasItsNeed_129 : decode cX5_hasItsNeed 129 = .ok (.iconst 1, 1) := by decide +kernel
theorem dX5_hasItsNeed_130 : decode cX5_hasItsNeed 130 = .ok (.ireturn, 1) := by decide +kernel
theorem dX5_hasKinLaid_0 : decode cX5_hasKinLaid 0 = .ok (.iconst 0, 1) := by decide +kernel
theorem dX5_hasKinLaid_1 : decode cX5_hasKinLaid 1 = .ok (.istore_n 3, 1) := by decide +kernel
theorem dX5_hasKinLaid_2 : decode cX5_hasKinLaid 2 = .ok (.iload_n 3, 1) := by decide +kernel
theorem dX5_hasKinLaid_3 : decode cX5_hasKinLaid 3 = .ok (.aload_n 0, 1) := by decide +kernel
theorem dX5_hasKinLaid_4 : decode cX5_hasKinLaid 4 = .ok (.getfield 25, 3) := by decide +kernel
theorem dX5_hasKinLaid_7 : decode cX5_hasKinLaid 7 = .ok (.if_icmp .ge 55, 3) := by decide +kernel
theorem dX5_hasKinLaid_10 : decode cX5_hasKinLaid 10 = .ok (.aload_n 0, 1) := by decide +kernel
theorem dX5_hasKinLaid_11 : decode cX5_hasKinLaid 11 = .ok (.getfield 17, 3) := by decide +kernel
theorem dX5_hasKinLaid_14 : decode cX5_hasKinLaid 14 = .ok (.iload_n 3, 1) := by decide +kernel
theorem dX5_hasKinLaid_15 : decode cX5_hasKinLaid 15 = .ok (.aaload, 1) := by decide +kernel
theorem dX5_hasKinLaid_16 : decode cX5_hasKinLaid 16 = .ok (.astore 4, 2) := by decide +kernel
theorem dX5_hasKinLaid_18 : decode cX5_hasKinLaid 18 = .ok (.aload 4, 2) := by decide +kernel
theorem dX5_hasKinLaid_20 : decode cX5_hasKinLaid 20 = .ok (.aload_n 1, 1) := by decide +kernel
theorem dX5_hasKinLaid_21 : decode cX5_hasKinLaid 21 = .ok (.if_acmp .eq 35, 3) := by decide +kernel
theorem dX5_hasKinLaid_24 : decode cX5_hasKinLaid 24 = .ok (.aload 4, 2) := by decide +kernel
theorem dX5_hasKinLaid_26 : decode cX5_hasKinLaid 26 = .ok (.invokevirtual 47, 3) := by decide +kernel
theorem dX5_hasKinLaid_29 : decode cX5_hasKinLaid 29 = .ok (.ifCond .eq 27, 3) := by decide +kernel
theorem dX5_hasKinLaid_32 : decode cX5_hasKinLaid 32 = .ok (.aload 4, 2) := by decide +kernel
theorem dX5_hasKinLaid_34 : decode cX5_hasKinLaid 34 = .ok (.aload_n 1, 1) := by decide +kernel
theorem dX5_hasKinLaid_35 : decode cX5_hasKinLaid 35 = .ok (.invokevirtual 125, 3) := by decide +kernel
theorem dX5_hasKinLaid_38 : decode cX5_hasKinLaid 38 = .ok (.ifCond .eq 18, 3) := by decide +kernel
theorem dX5_hasKinLaid_41 : decode cX5_hasKinLaid 41 = .ok (.iload_n 2, 1) := by decide +kernel
theorem dX5_hasKinLaid_42 : decode cX5_hasKinLaid 42 = .ok (.ifCond .eq 12, 3) := by decide +kernel
theorem dX5_hasKinLaid_45 : decode cX5_hasKinLaid 45 = .ok (.aload 4, 2) := by decide +kernel
theorem dX5_hasKinLaid_47 : decode cX5_hasKinLaid 47 = .ok (.getfield 115, 3) := by decide +kernel
theorem dX5_hasKinLaid_50 : decode cX5_hasKinLaid 50 = .ok (.iconst 4, 1) := by decide +kernel
theorem dX5_hasKinLaid_51 : decode cX5_hasKinLaid 51 = .ok (.if_icmp .ne 5, 3) := by decide +kernel
theorem dX5_hasKinLaid_54 : decode cX5_hasKinLaid 54 = .ok (.iconst 1, 1) := by decide +kernel
theorem dX5_hasKinLaid_55 : decode cX5_hasKinLaid 55 = .ok (.ireturn, 1) := by decide +kernel
theorem dX5_hasKinLaid_56 : decode cX5_hasKinLaid 56 = .ok (.iinc 3 1, 3) := by decide +kernel
theorem dX5_hasKinLaid_59 : decode cX5_hasKinLaid 59 = .ok (.goto (-57), 3) := by decide +kernel
theorem dX5_hasKinLaid_62 : decode cX5_hasKinLaid 62 = .ok (.iconst 0, 1) := by decide +kernel
theorem dX5_hasKinLaid_63 : decode cX5_hasKinLaid 63 = .ok (.ireturn, 1) := by decide +kernel
theorem dX5_shareAt_0 : decode cX5_shareAt 0 = .ok (.iconst 0, 1) := by decide +kernel
theorem dX5_shareAt_1 : decode cX5_shareAt 1 = .ok (.istore_n 3, 1) := by decide +kernel
theorem dX5_shareAt_2 : decode cX5_shareAt 2 = .ok (.iconst 0, 1) := by decide +kernel
theorem dX5_shareAt_3 : decode cX5_shareAt 3 = .ok (.istore 4, 2) := by decide +kernel
theorem dX5_shareAt_5 : decode cX5_shareAt 5 = .ok (.iload 4, 2) := by decide +kernel
theorem dX5_shareAt_7 : decode cX5_shareAt 7 = .ok (.aload_n 0, 1) := by decide +kernel
theorem dX5_shareAt_8 : decode cX5_shareAt 8 = .ok (.getfield 25, 3) := by decide +kernel
theorem dX5_shareAt_11 : decode cX5_shareAt 11 = .ok (.if_icmp .ge 52, 3) := by decide +kernel
theorem dX5_shareAt_14 : decode cX5_shareAt 14 = .ok (.aload_n 0, 1) := by decide +kernel
theorem dX5_shareAt_15 : decode cX5_shareAt 15 = .ok (.getfield 17, 3) := by decide +kernel
theorem dX5_shareAt_18 : decode cX5_shareAt 18 = .ok (.iload 4, 2) := by decide +kernel
theorem dX5_shareAt_20 : decode cX5_shareAt 20 = .ok (.aaload, 1) := by decide +kernel
theorem dX5_shareAt_21 : decode cX5_shareAt 21 = .ok (.astore 5, 2) := by decide +kernel
theorem dX5_shareAt_23 : decode cX5_shareAt 23 = .ok (.aload 5, 2) := by decide +kernel
theorem dX5_shareAt_25 : decode cX5_shareAt 25 = .ok (.aload_n 1, 1) := by decide +kernel
theorem dX5_shareAt_26 : decode cX5_shareAt 26 = .ok (.if_acmp .eq 31, 3) := by decide +kernel
theorem dX5_shareAt_29 : decode cX5_shareAt 29 = .ok (.aload 5, 2) := by decide +kernel
theorem dX5_shareAt_31 : decode cX5_shareAt 31 = .ok (.invokevirtual 47, 3) := by decide +kernel
theorem dX5_shareAt_34 : decode cX5_shareAt 34 = .ok (.ifCond .eq 23, 3) := by decide +kernel
theorem dX5_shareAt_37 : decode cX5_shareAt 37 = .ok (.iload_n 3, 1) := by decide +kernel
theorem dX5_shareAt_38 : decode cX5_shareAt 38 = .ok (.aload_n 0, 1) := by decide +kernel
theorem dX5_shareAt_39 : decode cX5_shareAt 39 = .ok (.iload_n 2, 1) := by decide +kernel
theorem dX5_shareAt_40 : decode cX5_shareAt 40 = .ok (.aload 5, 2) := by decide +kernel
theorem dX5_shareAt_42 : decode cX5_shareAt 42 = .ok (.getfield 28, 3) := by decide +kernel
theorem dX5_shareAt_45 : decode cX5_shareAt 45 = .ok (.invokevirtual 129, 3) := by decide +kernel
theorem dX5_shareAt_48 : decode cX5_shareAt 48 = .ok (.aload_n 1, 1) := by decide +kernel
theorem dX5_shareAt_49 : decode cX5_shareAt 49 = .ok (.aload 5, 2) := by decide +kernel
theorem dX5_shareAt_51 : decode cX5_shareAt 51 = .ok (.invokevirtual 132, 3) := by decide +kernel
theorem dX5_shareAt_54 : decode cX5_shareAt 54 = .ok (.imul, 1) := by decide +kernel
theorem dX5_shareAt_55 : decode cX5_shareAt 55 = .ok (.iadd, 1) := by decide +kernel
theorem dX5_shareAt_56 : decode cX5_shareAt 56 = .ok (.istore_n 3, 1) := by decide +kernel
theorem dX5_shareAt_57 : decode cX5_shareAt 57 = .ok (.iinc 4 1, 3) := by decide +kernel
theorem dX5_shareAt_60 : decode cX5_shareAt 60 = .ok (.goto (-55), 3) := by decide +kernel
theorem dX5_shareAt_63 : decode cX5_shareAt 63 = .ok (.iload_n 3, 1) := by decide +kernel
theorem dX5_shareAt_64 : decode cX5_shareAt 64 = .ok (.ireturn, 1) := by decide +kernel
theorem dX5_distance_0 : decode cX5_distance 0 = .ok (.aload_n 0, 1) := by decide +kernel
theorem dX5_distance_1 : decode cX5_distance 1 = .ok (.getfield 9, 3) := by decide +kernel
theorem dX5_distance_4 : decode cX5_distance 4 = .ok (.iload_n 1, 1) := by decide +kernel
theorem dX5_distance_5 : decode cX5_distance 5 = .ok (.invokevirtual 98, 3) := by decide +kernel
theorem dX5_distance_8 : decode cX5_distance 8 = .ok (.aload_n 0, 1) := by decide +kernel
theorem dX5_distance_9 : decode cX5_distance 9 = .ok (.getfield 9, 3) := by decide +kernel
theorem dX5_distance_12 : decode cX5_distance 12 = .ok (.iload_n 2, 1) := by decide +kernel
theorem dX5_distance_13 : decode cX5_distance 13 = .ok (.invokevirtual 98, 3) := by decide +kernel
theorem dX5_distance_16 : decode cX5_distance 16 = .ok (.isub, 1) := by decide +kernel
theorem dX5_distance_17 : decode cX5_distance 17 = .ok (.invokestatic 136, 3) := by decide +kernel
theorem dX5_distance_20 : decode cX5_distance 20 = .ok (.aload_n 0, 1) := by decide +kernel
theorem dX5_distance_21 : decode cX5_distance 21 = .ok (.getfield 9, 3) := by decide +kernel
theorem dX5_distance_24 : decode cX5_distance 24 = .ok (.iload_n 1, 1) := by decide +kernel
theorem dX5_distance_25 : decode cX5_distance 25 = .ok (.invokevirtual 106, 3) := by decide +kernel
theorem dX5_distance_28 : decode cX5_distance 28 = .ok (.aload_n 0, 1) := by decide +kernel
theorem dX5_distance_29 : decode cX5_distance 29 = .ok (.getfield 9, 3) := by decide +kernel
theorem dX5_distance_32 : decode cX5_distance 32 = .ok (.iload_n 2, 1) := by decide +kernel
theorem dX5_distance_33 : decode cX5_distance 33 = .ok (.invokevirtual 106, 3) := by decide +kernel
theorem dX5_distance_36 : decode cX5_distance 36 = .ok (.isub, 1) := by decide +kernel
theorem dX5_distance_37 : decode cX5_distance 37 = .ok (.invokestatic 136, 3) := by decide +kernel
theorem dX5_distance_40 : decode cX5_distance 40 = .ok (.iadd, 1) := by decide +kernel
theorem dX5_distance_41 : decode cX5_distance 41 = .ok (.ireturn, 1) := by decide +kernel
theorem dX5_wholePrice_0 : decode cX5_wholePrice 0 = .ok (.iconst 0, 1) := by decide +kernel
theorem dX5_wholePrice_1 : decode cX5_wholePrice 1 = .ok (.istore_n 1, 1) := by decide +kernel
theorem dX5_wholePrice_2 : decode cX5_wholePrice 2 = .ok (.iconst 0, 1) := by decide +kernel
theorem dX5_wholePrice_3 : decode cX5_wholePrice 3 = .ok (.istore_n 2, 1) := by decide +kernel
theorem dX5_wholePrice_4 : decode cX5_wholePrice 4 = .ok (.iload_n 2, 1) := by decide +kernel
theorem dX5_wholePrice_5 : decode cX5_wholePrice 5 = .ok (.aload_n 0, 1) := by decide +kernel
theorem dX5_wholePrice_6 : decode cX5_wholePrice 6 = .ok (.getfield 25, 3) := by decide +kernel
theorem dX5_wholePrice_9 : decode cX5_wholePrice 9 = .ok (.if_icmp .ge 43, 3) := by decide +kernel
theorem dX5_wholePrice_12 : decode cX5_wholePrice 12 = .ok (.aload_n 0, 1) := by decide +kernel
theorem dX5_wholePrice_13 : decode cX5_wholePrice 13 = .ok (.getfield 17, 3) := by decide +kernel
theorem dX5_wholePrice_16 : decode cX5_wholePrice 16 = .ok (.iload_n 2, 1) := by decide +kernel
theorem dX5_wholePrice_17 : decode cX5_wholePrice 17 = .ok (.aaload, 1) := by decide +kernel
theorem dX5_wholePrice_18 : decode cX5_wholePrice 18 = .ok (.invokevirtual 47, 3) := by decide +kernel
theorem dX5_wholePrice_21 : decode cX5_wholePrice 21 = .ok (.ifCond .eq 25, 3) := by decide +kernel
theorem dX5_wholePrice_24 : decode cX5_wholePrice 24 = .ok (.iload_n 1, 1) := by decide +kernel
theorem dX5_wholePrice_25 : decode cX5_wholePrice 25 = .ok (.aload_n 0, 1) := by decide +kernel
theorem dX5_wholePrice_26 : decode cX5_wholePrice 26 = .ok (.aload_n 0, 1) := by decide +kernel
theorem dX5_wholePrice_27 : decode cX5_wholePrice 27 = .ok (.getfield 17, 3) := by decide +kernel
theorem dX5_wholePrice_30 : decode cX5_wholePrice 30 = .ok (.iload_n 2, 1) := by decide +kernel
theorem dX5_wholePrice_31 : decode cX5_wholePrice 31 = .ok (.aaload, 1) := by decide +kernel
theorem dX5_wholePrice_32 : decode cX5_wholePrice 32 = .ok (.aload_n 0, 1) := by decide +kernel
theorem dX5_wholePrice_33 : decode cX5_wholePrice 33 = .ok (.getfield 17, 3) := by decide +kernel
theorem dX5_wholePrice_36 : decode cX5_wholePrice 36 = .ok (.iload_n 2, 1) := by decide +kernel
theorem dX5_wholePrice_37 : decode cX5_wholePrice 37 = .ok (.aaload, 1) := by decide +kernel
theorem dX5_wholePrice_38 : decode cX5_wholePrice 38 = .ok (.getfield 28, 3) := by decide +kernel
theorem dX5_wholePrice_41 : decode cX5_wholePrice 41 = .ok (.invokevirtual 139, 3) := by decide +kernel
theorem dX5_wholePrice_44 : decode cX5_wholePrice 44 = .ok (.iadd, 1) := by decide +kernel
theorem dX5_wholePrice_45 : decode cX5_wholePrice 45 = .ok (.istore_n 1, 1) := by decide +kernel
theorem dX5_wholePrice_46 : decode cX5_wholePrice 46 = .ok (.iinc 2 1, 3) := by decide +kernel
theorem dX5_wholePrice_49 : decode cX5_wholePrice 49 = .ok (.goto (-45), 3) := by decide +kernel
theorem dX5_wholePrice_52 : decode cX5_wholePrice 52 = .ok (.iload_n 1, 1) := by decide +kernel
theorem dX5_wholePrice_53 : decode cX5_wholePrice 53 = .ok (.iconst 2, 1) := by decide +kernel
theorem dX5_wholePrice_54 : decode cX5_wholePrice 54 = .ok (.idiv, 1) := by decide +kernel
theorem dX5_wholePrice_55 : decode cX5_wholePrice 55 = .ok (.ireturn, 1) := by decide +kernel
theorem dX5_moveFirst_0 : decode cX5_moveFirst 0 = .ok (.iconst 0, 1) := by decide +kernel
theorem dX5_moveFirst_1 : decode cX5_moveFirst 1 = .ok (.istore_n 1, 1) := by decide +kernel
theorem dX5_moveFirst_2 : decode cX5_moveFirst 2 = .ok (.iload_n 1, 1) := by decide +kernel
theorem dX5_moveFirst_3 : decode cX5_moveFirst 3 = .ok (.aload_n 0, 1) := by decide +kernel
theorem dX5_moveFirst_4 : decode cX5_moveFirst 4 = .ok (.getfield 25, 3) := by decide +kernel
theorem dX5_moveFirst_7 : decode cX5_moveFirst 7 = .ok (.if_icmp .ge 54, 3) := by decide +kernel
theorem dX5_moveFirst_10 : decode cX5_moveFirst 10 = .ok (.aload_n 0, 1) := by decide +kernel
theorem dX5_moveFirst_11 : decode cX5_moveFirst 11 = .ok (.getfield 17, 3) := by decide +kernel
theorem dX5_moveFirst_14 : decode cX5_moveFirst 14 = .ok (.iload_n 1, 1) := by decide +kernel
theorem dX5_moveFirst_15 : decode cX5_moveFirst 15 = .ok (.aaload, 1) := by decide +kernel
theorem dX5_moveFirst_16 : decode cX5_moveFirst 16 = .ok (.invokevirtual 47, 3) := by decide +kernel
theorem dX5_moveFirst_19 : decode cX5_moveFirst 19 = .ok (.ifCond .eq 16, 3) := by decide +kernel
theorem dX5_moveFirst_22 : decode cX5_moveFirst 22 = .ok (.aload_n 0, 1) := by decide +kernel
theorem dX5_moveFirst_23 : decode cX5_moveFirst 23 = .ok (.aload_n 0, 1) := by decide +kernel
theorem dX5_moveFirst_24 : decode cX5_moveFirst 24 = .ok (.getfield 17, 3) := by decide +kernel
theorem dX5_moveFirst_27 : decode cX5_moveFirst 27 = .ok (.iload_n 1, 1) := by decide +kernel
theorem dX5_moveFirst_28 : decode cX5_moveFirst 28 = .ok (.aaload, 1) := by decide +kernel
theorem dX5_moveFirst_29 : decode cX5_moveFirst 29 = .ok (.invokevirtual 143, 3) := by decide +kernel
theorem dX5_moveFirst_32 : decode cX5_moveFirst 32 = .ok (.goto 4, 3) := by decide +kernel
theorem dX5_moveFirst_35 : decode cX5_moveFirst 35 = .ok (.iconst (-1), 1) := by decide +kernel
theorem dX5_moveFirst_36 : decode cX5_moveFirst 36 = .ok (.istore_n 2, 1) := by decide +kernel
theorem dX5_moveFirst_37 : decode cX5_moveFirst 37 = .ok (.iload_n 2, 1) := by decide +kernel
theorem dX5_moveFirst_38 : decode cX5_moveFirst 38 = .ok (.iconst (-1), 1) := by decide +kernel
theorem dX5_moveFirst_39 : decode cX5_moveFirst 39 = .ok (.if_icmp .eq 16, 3) := by decide +kernel
theorem dX5_moveFirst_42 : decode cX5_moveFirst 42 = .ok (.aload_n 0, 1) := by decide +kernel
theorem dX5_moveFirst_43 : decode cX5_moveFirst 43 = .ok (.aload_n 0, 1) := by decide +kernel
theorem dX5_moveFirst_44 : decode cX5_moveFirst 44 = .ok (.getfield 17, 3) := by decide +kernel
theorem dX5_moveFirst_47 : decode cX5_moveFirst 47 = .ok (.iload_n 1, 1) := by decide +kernel
theorem dX5_moveFirst_48 : decode cX5_moveFirst 48 = .ok (.aaload, 1) := by decide +kernel
theorem dX5_moveFirst_49 : decode cX5_moveFirst 49 = .ok (.iload_n 2, 1) := by decide +kernel
theorem dX5_moveFirst_50 : decode cX5_moveFirst 50 = .ok (.invokevirtual 146, 3) := by decide +kernel
theorem dX5_moveFirst_53 : decode cX5_moveFirst 53 = .ok (.iconst 1, 1) := by decide +kernel
theorem dX5_moveFirst_54 : decode cX5_moveFirst 54 = .ok (.ireturn, 1) := by decide +kernel
theorem dX5_moveFirst_55 : decode cX5_moveFirst 55 = .ok (.iinc 1 1, 3) := by decide +kernel
theorem dX5_moveFirst_58 : decode cX5_moveFirst 58 = .ok (.goto (-56), 3) := by decide +kernel
theorem dX5_moveFirst_61 : decode cX5_moveFirst 61 = .ok (.iconst 0, 1) := by decide +kernel
theorem dX5_moveFirst_62 : decode cX5_moveFirst 62 = .ok (.ireturn, 1) := by decide +kernel
theorem dX5_cheaperCell_0 : decode cX5_cheaperCell 0 = .ok (.aload_n 0, 1) := by decide +kernel
theorem dX5_cheaperCell_1 : decode cX5_cheaperCell 1 = .ok (.aload_n 1, 1) := by decide +kernel
theorem dX5_cheaperCell_2 : decode cX5_cheaperCell 2 = .ok (.aload_n 1, 1) := by decide +kernel
theorem dX5_cheaperCell_3 : decode cX5_cheaperCell 3 = .ok (.getfield 28, 3) := by decide +kernel
theorem dX5_cheaperCell_6 : decode cX5_cheaperCell 6 = .ok (.invokevirtual 139, 3) := by decide +kernel
theorem dX5_cheaperCell_9 : decode cX5_cheaperCell 9 = .ok (.istore_n 2, 1) := by decide +kernel
theorem dX5_cheaperCell_10 : decode cX5_cheaperCell 10 = .ok (.iload_n 2, 1) := by decide +kernel
theorem dX5_cheaperCell_11 : decode cX5_cheaperCell 11 = .ok (.ifCond .ne 5, 3) := by decide +kernel
theorem dX5_cheaperCell_14 : decode cX5_cheaperCell 14 = .ok (.iconst (-1), 1) := by decide +kernel
theorem dX5_cheaperCell_15 : decode cX5_cheaperCell 15 = .ok (.ireturn, 1) := by decide +kernel
theorem dX5_cheaperCell_16 : decode cX5_cheaperCell 16 = .ok (.iconst 0, 1) := by decide +kernel
theorem dX5_cheaperCell_17 : decode cX5_cheaperCell 17 = .ok (.istore_n 3, 1) := by decide +kernel
theorem dX5_cheaperCell_18 : decode cX5_cheaperCell 18 = .ok (.iload_n 3, 1) := by decide +kernel
theorem dX5_cheaperCell_19 : decode cX5_cheaperCell 19 = .ok (.aload_n 0, 1) := by decide +kernel
theorem dX5_cheaperCell_20 : decode cX5_cheaperCell 20 = .ok (.getfield 9, 3) := by decide +kernel
theorem dX5_cheaperCell_23 : decode cX5_cheaperCell 23 = .ok (.getfield 150, 3) := by decide +kernel
theorem dX5_cheaperCell_26 : decode cX5_cheaperCell 26 = .ok (.if_icmp .ge 30, 3) := by decide +kernel
theorem dX5_cheaperCell_29 : decode cX5_cheaperCell 29 = .ok (.aload_n 0, 1) := by decide +kernel
theorem dX5_cheaperCell_30 : decode cX5_cheaperCell 30 = .ok (.aload_n 1, 1) := by decide +kernel
theorem dX5_cheaperCell_31 : decode cX5_cheaperCell 31 = .ok (.iload_n 3, 1) := by decide +kernel
theorem dX5_cheaperCell_32 : decode cX5_cheaperCell 32 = .ok (.invokevirtual 139, 3) := by decide +kernel
theorem dX5_cheaperCell_35 : decode cX5_cheaperCell 35 = .ok (.iload_n 2, 1) := by decide +kernel
theorem dX5_cheaperCell_36 : decode cX5_cheaperCell 36 = .ok (.if_icmp .ge 14, 3) := by decide +kernel
theorem dX5_cheaperCell_39 : decode cX5_cheaperCell 39 = .ok (.aload_n 0, 1) := by decide +kernel
theorem dX5_cheaperCell_40 : decode cX5_cheaperCell 40 = .ok (.aload_n 1, 1) := by decide +kernel
theorem dX5_cheaperCell_41 : decode cX5_cheaperCell 41 = .ok (.iload_n 3, 1) := by decide +kernel
theorem dX5_cheaperCell_42 : decode cX5_cheaperCell 42 = .ok (.invokevirtual 153, 3) := by decide +kernel
theorem dX5_cheaperCell_45 : decode cX5_cheaperCell 45 = .ok (.ifCond .ne 5, 3) := by decide +kernel
theorem dX5_cheaperCell_48 : decode cX5_cheaperCell 48 = .ok (.iload_n 3, 1) := by decide +kernel
theorem dX5_cheaperCell_49 : decode cX5_cheaperCell 49 = .ok (.ireturn, 1) := by decide +kernel
theorem dX5_cheaperCell_50 : decode cX5_cheaperCell 50 = .ok (.iinc 3 1, 3) := by decide +kernel
theorem dX5_cheaperCell_53 : decode cX5_cheaperCell 53 = .ok (.goto (-35), 3) := by decide +kernel
theorem dX5_cheaperCell_56 : decode cX5_cheaperCell 56 = .ok (.iconst (-1), 1) := by decide +kernel
theorem dX5_cheaperCell_57 : decode cX5_cheaperCell 57 = .ok (.ireturn, 1) := by decide +kernel
theorem dX6_init_0 : decode cX6_init 0 = .ok (.aload_n 0, 1) := by decide +kernel
theorem dX6_init_1 : decode cX6_init 1 = .ok (.invokespecial 3, 3) := by decide +kernel
theorem dX6_init_4 : decode cX6_init 4 = .ok (.aload_n 0, 1) := by decide +kernel
theorem dX6_init_5 : decode cX6_init 5 = .ok (.iload_n 1, 1) := by decide +kernel
theorem dX6_init_6 : decode cX6_init 6 = .ok (.putfield 9, 3) := by decide +kernel
theorem dX6_init_9 : decode cX6_init 9 = .ok (.aload_n 0, 1) := by decide +kernel
theorem dX6_init_10 : decode cX6_init 10 = .ok (.iload_n 2, 1) := by decide +kernel
theorem dX6_init_11 : decode cX6_init 11 = .ok (.putfield 15, 3) := by decide +kernel
theorem dX6_init_14 : decode cX6_init 14 = .ok (.aload_n 0, 1) := by decide +kernel
theorem dX6_init_15 : decode cX6_init 15 = .ok (.iload_n 3, 1) := by decide +kernel
theorem dX6_init_16 : decode cX6_init 16 = .ok (.putfield 18, 3) := by decide +kernel
theorem dX6_init_19 : decode cX6_init 19 = .ok (.aload_n 0, 1) := by decide +kernel
theorem dX6_init_20 : decode cX6_init 20 = .ok (.iload 4, 2) := by decide +kernel
theorem dX6_init_22 : decode cX6_init 22 = .ok (.putfield 21, 3) := by decide +kernel
theorem dX6_init_25 : decode cX6_init 25 = .ok (.aload_n 0, 1) := by decide +kernel
theorem dX6_init_26 : decode cX6_init 26 = .ok (.iload 5, 2) := by decide +kernel
theorem dX6_init_28 : decode cX6_init 28 = .ok (.putfield 24, 3) := by decide +kernel
theorem dX6_init_31 : decode cX6_init 31 = .ok (.aload_n 0, 1) := by decide +kernel
theorem dX6_init_32 : decode cX6_init 32 = .ok (.iload 6, 2) := by decide +kernel
theorem dX6_init_34 : decode cX6_init 34 = .ok (.putfield 27, 3) := by decide +kernel
theorem dX6_init_37 : decode cX6_init 37 = .ok (.aload_n 0, 1) := by decide +kernel
theorem dX6_init_38 : decode cX6_init 38 = .ok (.iconst (-1), 1) := by decide +kernel
theorem dX6_init_39 : decode cX6_init 39 = .ok (.putfield 30, 3) := by decide +kernel
theorem dX6_init_42 : decode cX6_init 42 = .ok (.aload_n 0, 1) := by decide +kernel
theorem dX6_init_43 : decode cX6_init 43 = .ok (.iconst (-1), 1) := by decide +kernel
theorem dX6_init_44 : decode cX6_init 44 = .ok (.putfield 33, 3) := by decide +kernel
theorem dX6_init_47 : decode cX6_init 47 = .ok (.return_, 1) := by decide +kernel
theorem dX6_isLaid_0 : decode cX6_isLaid 0 = .ok (.aload_n 0, 1) := by decide +kernel
theorem dX6_isLaid_1 : decode cX6_isLaid 1 = .ok (.getfield 30, 3) := by decide +kernel
theorem dX6_isLaid_4 : decode cX6_isLaid 4 = .ok (.iconst (-1), 1) := by decide +kernel
theorem dX6_isLaid_5 : decode cX6_isLaid 5 = .ok (.if_icmp .eq 7, 3) := by decide +kernel
theorem dX6_isLaid_8 : decode cX6_isLaid 8 = .ok (.iconst 1, 1) := by decide +kernel
theorem dX6_isLaid_9 : decode cX6_isLaid 9 = .ok (.goto 4, 3) := by decide +kernel
theorem dX6_isLaid_12 : decode cX6_isLaid 12 = .ok (.iconst 0, 1) := by decide +kernel
theorem dX6_isLaid_13 : decode cX6_isLaid 13 = .ok (.ireturn, 1) := by decide +kernel
theorem dX6_isSold_0 : decode cX6_isSold 0 = .ok (.aload_n 0, 1) := by decide +kernel
theorem dX6_isSold_1 : decode cX6_isSold 1 = .ok (.getfield 33, 3) := by decide +kernel
theorem dX6_isSold_4 : decode cX6_isSold 4 = .ok (.iconst (-1), 1) := by decide +kernel
theorem dX6_isSold_5 : decode cX6_isSold 5 = .ok (.if_icmp .eq 7, 3) := by decide +kernel
theorem dX6_isSold_8 : decode cX6_isSold 8 = .ok (.iconst 1, 1) := by decide +kernel
theorem dX6_isSold_9 : decode cX6_isSold 9 = .ok (.goto 4, 3) := by decide +kernel
theorem dX6_isSold_12 : decode cX6_isSold 12 = .ok (.iconst 0, 1) := by decide +kernel
theorem dX6_isSold_13 : decode cX6_isSold 13 = .ok (.ireturn, 1) := by decide +kernel
theorem dX6_lift_0 : decode cX6_lift 0 = .ok (.aload_n 0, 1) := by decide +kernel
theorem dX6_lift_1 : decode cX6_lift 1 = .ok (.iconst (-1), 1) := by decide +kernel
theorem dX6_lift_2 : decode cX6_lift 2 = .ok (.putfield 30, 3) := by decide +kernel
theorem dX6_lift_5 : decode cX6_lift 5 = .ok (.aload_n 0, 1) := by decide +kernel
theorem dX6_lift_6 : decode cX6_lift 6 = .ok (.lconst 0, 1) := by decide +kernel
theorem dX6_lift_7 : decode cX6_lift 7 = .ok (.putfield 36, 3) := by decide +kernel
theorem dX6_lift_10 : decode cX6_lift 10 = .ok (.return_, 1) := by decide +kernel
theorem dX6_isAkin_0 : decode cX6_isAkin 0 = .ok (.aload_n 0, 1) := by decide +kernel
theorem dX6_isAkin_1 : decode cX6_isAkin 1 = .ok (.getfield 15, 3) := by decide +kernel
theorem dX6_isAkin_4 : decode cX6_isAkin 4 = .ok (.aload_n 1, 1) := by decide +kernel
theorem dX6_isAkin_5 : decode cX6_isAkin 5 = .ok (.getfield 15, 3) := by decide +kernel
theorem dX6_isAkin_8 : decode cX6_isAkin 8 = .ok (.if_icmp .ne 18, 3) := by decide +kernel
theorem dX6_isAkin_11 : decode cX6_isAkin 11 = .ok (.aload_n 0, 1) := by decide +kernel
theorem dX6_isAkin_12 : decode cX6_isAkin 12 = .ok (.getfield 18, 3) := by decide +kernel
theorem dX6_isAkin_15 : decode cX6_isAkin 15 = .ok (.aload_n 1, 1) := by decide +kernel
theorem dX6_isAkin_16 : decode cX6_isAkin 16 = .ok (.getfield 18, 3) := by decide +kernel
theorem dX6_isAkin_19 : decode cX6_isAkin 19 = .ok (.if_icmp .ne 7, 3) := by decide +kernel
theorem dX6_isAkin_22 : decode cX6_isAkin 22 = .ok (.iconst 1, 1) := by decide +kernel
theorem dX6_isAkin_23 : decode cX6_isAkin 23 = .ok (.goto 4, 3) := by decide +kernel
theorem dX6_isAkin_26 : decode cX6_isAkin 26 = .ok (.iconst 0, 1) := by decide +kernel
theorem dX6_isAkin_27 : decode cX6_isAkin 27 = .ok (.ireturn, 1) := by decide +kernel
theorem dX6_tiesTo_0 : decode cX6_tiesTo 0 = .ok (.aload_n 0, 1) := by decide +kernel
theorem dX6_tiesTo_1 : decode cX6_tiesTo 1 = .ok (.getfield 18, 3) := by decide +kernel
theorem dX6_tiesTo_4 : decode cX6_tiesTo 4 = .ok (.aload_n 1, 1) := by decide +kernel
theorem dX6_tiesTo_5 : decode cX6_tiesTo 5 = .ok (.getfield 18, 3) := by decide +kernel
theorem dX6_tiesTo_8 : decode cX6_tiesTo 8 = .ok (.if_icmp .ne 7, 3) := by decide +kernel
theorem dX6_tiesTo_11 : decode cX6_tiesTo 11 = .ok (.iconst 1, 1) := by decide +kernel
theorem dX6_tiesTo_12 : decode cX6_tiesTo 12 = .ok (.goto 4, 3) := by decide +kernel
theorem dX6_tiesTo_15 : decode cX6_tiesTo 15 = .ok (.iconst 0, 1) := by decide +kernel
theorem dX6_tiesTo_16 : decode cX6_tiesTo 16 = .ok (.aload_n 0, 1) := by decide +kernel
theorem dX6_tiesTo_17 : decode cX6_tiesTo 17 = .ok (.getfield 15, 3) := by decide +kernel
theorem dX6_tiesTo_20 : decode cX6_tiesTo 20 = .ok (.aload_n 1, 1) := by decide +kernel
theorem dX6_tiesTo_21 : decode cX6_tiesTo 21 = .ok (.getfield 15, 3) := by decide +kernel
theorem dX6_tiesTo_24 : decode cX6_tiesTo 24 = .ok (.if_icmp .ne 7, 3) := by decide +kernel
theorem dX6_tiesTo_27 : decode cX6_tiesTo 27 = .ok (.iconst 1, 1) := by decide +kernel
theorem dX6_tiesTo_28 : decode cX6_tiesTo 28 = .ok (.goto 4, 3) := by decide +kernel
theorem dX6_tiesTo_31 : decode cX6_tiesTo 31 = .ok (.iconst 0, 1) := by decide +kernel
theorem dX6_tiesTo_32 : decode cX6_tiesTo 32 = .ok (.iadd, 1) := by decide +kernel
theorem dX6_tiesTo_33 : decode cX6_tiesTo 33 = .ok (.ireturn, 1) := by decide +kernel
theorem dX7_init_0 : decode cX7_init 0 = .ok (.aload_n 0, 1) := by decide +kernel
theorem dX7_init_1 : decode cX7_init 1 = .ok (.invokespecial 3, 3) := by decide +kernel
theorem dX7_init_4 : decode cX7_init 4 = .ok (.aload_n 0, 1) := by decide +kernel
theorem dX7_init_5 : decode cX7_init 5 = .ok (.bipush 120, 2) := by decide +kernel
theorem dX7_init_7 : decode cX7_init 7 = .ok (.newarray .byte, 2) := by decide +kernel
theorem dX7_init_9 : decode cX7_init 9 = .ok (.putfield 11, 3) := by decide +kernel
theorem dX7_init_12 : decode cX7_init 12 = .ok (.return_, 1) := by decide +kernel
theorem dX7_hasRoom_0 : decode cX7_hasRoom 0 = .ok (.aload_n 0, 1) := by decide +kernel
theorem dX7_hasRoom_1 : decode cX7_hasRoom 1 = .ok (.getfield 15, 3) := by decide +kernel
theorem dX7_hasRoom_4 : decode cX7_hasRoom 4 = .ok (.iload_n 1, 1) := by decide +kernel
theorem dX7_hasRoom_5 : decode cX7_hasRoom 5 = .ok (.iadd, 1) := by decide +kernel
theorem dX7_hasRoom_6 : decode cX7_hasRoom 6 = .ok (.bipush 120, 2) := by decide +kernel
theorem dX7_hasRoom_8 : decode cX7_hasRoom 8 = .ok (.if_icmp .gt 7, 3) := by decide +kernel
theorem dX7_hasRoom_11 : decode cX7_hasRoom 11 = .ok (.iconst 1, 1) := by decide +kernel
theorem dX7_hasRoom_12 : decode cX7_hasRoom 12 = .ok (.goto 4, 3) := by decide +kernel
theorem dX7_hasRoom_15 : decode cX7_hasRoom 15 = .ok (.iconst 0, 1) := by decide +kernel
theorem dX7_hasRoom_16 : decode cX7_hasRoom 16 = .ok (.ireturn, 1) := by decide +kernel
theorem dX7_add_0 : decode cX7_add 0 = .ok (.iload_n 3, 1) := by decide +kernel
theorem dX7_add_1 : decode cX7_add 1 = .ok (.iconst 1, 1) := by decide +kernel
theorem dX7_add_2 : decode cX7_add 2 = .ok (.isub, 1) := by decide +kernel
theorem dX7_add_3 : decode cX7_add 3 = .ok (.istore 4, 2) := by decide +kernel
theorem dX7_add_5 : decode cX7_add 5 = .ok (.iload 4, 2) := by decide +kernel
theorem dX7_add_7 : decode cX7_add 7 = .ok (.ifCond .lt 37, 3) := by decide +kernel
theorem dX7_add_10 : decode cX7_add 10 = .ok (.aload_n 0, 1) := by decide +kernel
theorem dX7_add_11 : decode cX7_add 11 = .ok (.getfield 11, 3) := by decide +kernel
theorem dX7_add_14 : decode cX7_add 14 = .ok (.aload_n 0, 1) := by decide +kernel
theorem dX7_add_15 : decode cX7_add 15 = .ok (.getfield 15, 3) := by decide +kernel
theorem dX7_add_18 : decode cX7_add 18 = .ok (.lload_n 1, 1) := by decide +kernel
theorem dX7_add_19 : decode cX7_add 19 = .ok (.bipush 8, 2) := by decide +kernel
theorem dX7_add_21 : decode cX7_add 21 = .ok (.iload 4, 2) := by decide +kernel
theorem dX7_add_23 : decode cX7_add 23 = .ok (.imul, 1) := by decide +kernel
theorem dX7_add_24 : decode cX7_add 24 = .ok (.lushr, 1) := by decide +kernel
theorem dX7_add_25 : decode cX7_add 25 = .ok (.l2i, 1) := by decide +kernel
theorem dX7_add_26 : decode cX7_add 26 = .ok (.i2b, 1) := by decide +kernel
theorem dX7_add_27 : decode cX7_add 27 = .ok (.bastore, 1) := by decide +kernel
theorem dX7_add_28 : decode cX7_add 28 = .ok (.aload_n 0, 1) := by decide +kernel
theorem dX7_add_29 : decode cX7_add 29 = .ok (.dup, 1) := by decide +kernel
theorem dX7_add_30 : decode cX7_add 30 = .ok (.getfield 15, 3) := by decide +kernel
theorem dX7_add_33 : decode cX7_add 33 = .ok (.iconst 1, 1) := by decide +kernel
theorem dX7_add_34 : decode cX7_add 34 = .ok (.iadd, 1) := by decide +kernel
theorem dX7_add_35 : decode cX7_add 35 = .ok (.putfield 15, 3) := by decide +kernel
theorem dX7_add_38 : decode cX7_add 38 = .ok (.iinc 4 (-1), 3) := by decide +kernel
theorem dX7_add_41 : decode cX7_add 41 = .ok (.goto (-36), 3) := by decide +kernel
theorem dX7_add_44 : decode cX7_add 44 = .ok (.return_, 1) := by decide +kernel
theorem dX7_empty_0 : decode cX7_empty 0 = .ok (.aload_n 0, 1) := by decide +kernel
theorem dX7_empty_1 : decode cX7_empty 1 = .ok (.iconst 0, 1) := by decide +kernel
theorem dX7_empty_2 : decode cX7_empty 2 = .ok (.putfield 15, 3) := by decide +kernel
theorem dX7_empty_5 : decode cX7_empty 5 = .ok (.return_, 1) := by decide +kernel
theorem dX7_readMedals_0 : decode cX7_readMedals 0 = .ok (.aload_n 0, 1) := by decide +kernel
theorem dX7_readMedals_1 : decode cX7_readMedals 1 = .ok (.iconst 0, 1) := by decide +kernel
theorem dX7_readMedals_2 : decode cX7_readMedals 2 = .ok (.putfield 19, 3) := by decide +kernel
theorem dX7_readMedals_5 : decode cX7_readMedals 5 = .ok (.iconst 3, 1) := by decide +kernel
theorem dX7_readMedals_6 : decode cX7_readMedals 6 = .ok (.istore_n 2, 1) := by decide +kernel
theorem dX7_readMedals_7 : decode cX7_readMedals 7 = .ok (.iconst 0, 1) := by decide +kernel
theorem dX7_readMedals_8 : decode cX7_readMedals 8 = .ok (.istore_n 3, 1) := by decide +kernel
theorem dX7_readMedals_9 : decode cX7_readMedals 9 = .ok (.iload_n 3, 1) := by decide +kernel
theorem dX7_readMedals_10 : decode cX7_readMedals 10 = .ok (.iconst 3, 1) := by decide +kernel
theorem dX7_readMedals_11 : decode cX7_readMedals 11 = .ok (.if_icmp .ge 95, 3) := by decide +kernel
theorem dX7_readMedals_14 : decode cX7_readMedals 14 = .ok (.aload_n 0, 1) := by decide +kernel
theorem dX7_readMedals_15 : decode cX7_readMedals 15 = .ok (.iload_n 2, 1) := by decide +kernel
theorem dX7_readMedals_16 : decode cX7_readMedals 16 = .ok (.invokevirtual 22, 3) := by decide +kernel
theorem dX7_readMedals_19 : decode cX7_readMedals 19 = .ok (.istore 4, 2) := by decide +kernel
theorem dX7_readMedals_21 : decode cX7_readMedals 21 = .ok (.iload 4, 2) := by decide +kernel
theorem dX7_readMedals_23 : decode cX7_readMedals 23 = .ok (.ifCond .eq 24, 3) := by decide +kernel
theorem dX7_readMedals_26 : decode cX7_readMedals 26 = .ok (.aload_n 0, 1) := by decide +kernel
theorem dX7_readMedals_27 : decode cX7_readMedals 27 = .ok (.iload 4, 2) := by decide +kernel
theorem dX7_readMedals_29 : decode cX7_readMedals 29 = .ok (.invokestatic 26, 3) := by decide +kernel
theorem dX7_readMedals_32 : decode cX7_readMedals 32 = .ok (.invokevirtual 30, 3) := by decide +kernel
theorem dX7_readMedals_35 : decode cX7_readMedals 35 = .ok (.ifCond .eq 12, 3) := by decide +kernel
theorem dX7_readMedals_38 : decode cX7_readMedals 38 = .ok (.aload_n 0, 1) := by decide +kernel
theorem dX7_readMedals_39 : decode cX7_readMedals 39 = .ok (.ldc 34, 2) := by decide +kernel
theorem dX7_readMedals_41 : decode cX7_readMedals 41 = .ok (.invokevirtual 30, 3) := by decide +kernel
theorem dX7_readMedals_44 : decode cX7_readMedals 44 = .ok (.ifCond .ne 5, 3) := by decide +kernel
theorem dX7_readMedals_47 : decode cX7_readMedals 47 = .ok (.iconst 0, 1) := by decide +kernel
theorem dX7_readMedals_48 : decode cX7_readMedals 48 = .ok (.ireturn, 1) := by decide +kernel
theorem dX7_readMedals_49 : decode cX7_readMedals 49 = .ok (.aload_n 0, 1) := by decide +kernel
theorem dX7_readMedals_50 : decode cX7_readMedals 50 = .ok (.invokevirtual 36, 3) := by decide +kernel
theorem dX7_readMedals_53 : decode cX7_readMedals 53 = .ok (.istore 5, 2) := by decide +kernel
theorem dX7_readMedals_55 : decode cX7_readMedals 55 = .ok (.iload 5, 2) := by decide +kernel
theorem dX7_readMedals_57 : decode cX7_readMedals 57 = .ok (.iconst (-1), 1) := by decide +kernel
theorem dX7_readMedals_58 : decode cX7_readMedals 58 = .ok (.if_icmp .ne 5, 3) := by decide +kernel
theorem dX7_readMedals_61 : decode cX7_readMedals 61 = .ok (.iconst 0, 1) := by decide +kernel
theorem dX7_readMedals_62 : decode cX7_readMedals 62 = .ok (.ireturn, 1) := by decide +kernel
theorem dX7_readMedals_63 : decode cX7_readMedals 63 = .ok (.aload_n 1, 1) := by decide +kernel
theorem dX7_readMedals_64 : decode cX7_readMedals 64 = .ok (.iload 4, 2) := by decide +kernel
theorem dX7_readMedals_66 : decode cX7_readMedals 66 = .ok (.iload 5, 2) := by decide +kernel
theorem dX7_readMedals_68 : decode cX7_readMedals 68 = .ok (.invokevirtual 40, 3) := by decide +kernel
theorem dX7_readMedals_71 : decode cX7_readMedals 71 = .ok (.aload_n 0, 1) := by decide +kernel
theorem dX7_readMedals_72 : decode cX7_readMedals 72 = .ok (.invokevirtual 46, 3) := by decide +kernel
theorem dX7_readMedals_75 : decode cX7_readMedals 75 = .ok (.ifCond .eq 5, 3) := by decide +kernel
theorem dX7_readMedals_78 : decode cX7_readMedals 78 = .ok (.iconst 1, 1) := by decide +kernel
theorem dX7_readMedals_79 : decode cX7_readMedals 79 = .ok (.ireturn, 1) := by decide +kernel
theorem dX7_readMedals_80 : decode cX7_readMedals 80 = .ok (.iload 4, 2) := by decide +kernel
theorem dX7_readMedals_82 : decode cX7_readMedals 82 = .ok (.iconst 1, 1) := by decide +kernel
theorem dX7_readMedals_83 : decode cX7_readMedals 83 = .ok (.isub, 1) := by decide +kernel
theorem dX7_readMedals_84 : decode cX7_readMedals 84 = .ok (.istore_n 2, 1) := by decide +kernel
theorem dX7_readMedals_85 : decode cX7_readMedals 85 = .ok (.iload_n 2, 1) := by decide +kernel
theorem dX7_readMedals_86 : decode cX7_readMedals 86 = .ok (.ifCond .eq 12, 3) := by decide +kernel
theorem dX7_readMedals_89 : decode cX7_readMedals 89 = .ok (.aload_n 0, 1) := by decide +kernel
theorem dX7_readMedals_90 : decode cX7_readMedals 90 = .ok (.ldc 50, 2) := by decide +kernel
theorem dX7_readMedals_92 : decode cX7_readMedals 92 = .ok (.invokevirtual 30, 3) := by decide +kernel
theorem dX7_readMedals_95 : decode cX7_readMedals 95 = .ok (.ifCond .ne 5, 3) := by decide +kernel
theorem dX7_readMedals_98 : decode cX7_readMedals 98 = .ok (.iconst 0, 1) := by decide +kernel
theorem dX7_readMedals_99 : decode cX7_readMedals 99 = .ok (.ireturn, 1) := by decide +kernel
theorem dX7_readMedals_100 : decode cX7_readMedals 100 = .ok (.iinc 3 1, 3) := by decide +kernel
theorem dX7_readMedals_103 : decode cX7_readMedals 103 = .ok (.goto (-94), 3) := by decide +kernel
theorem dX7_readMedals_106 : decode cX7_readMedals 106 = .ok (.iconst 0, 1) := by decide +kernel
theorem dX7_readMedals_107 : decode cX7_readMedals 107 = .ok (.ireturn, 1) := by decide +kernel
theorem dX7_readDays_0 : decode cX7_readDays 0 = .ok (.aload_n 0, 1) := by decide +kernel
theorem dX7_readDays_1 : decode cX7_readDays 1 = .ok (.iconst 0, 1) := by decide +kernel
theorem dX7_readDays_2 : decode cX7_readDays 2 = .ok (.putfield 19, 3) := by decide +kernel
theorem dX7_readDays_5 : decode cX7_readDays 5 = .ok (.aload_n 0, 1) := by decide +kernel
theorem dX7_readDays_6 : decode cX7_readDays 6 = .ok (.ldc 52, 2) := by decide +kernel
theorem dX7_readDays_8 : decode cX7_readDays 8 = .ok (.invokevirtual 30, 3) := by decide +kernel
theorem dX7_readDays_11 : decode cX7_readDays 11 = .ok (.ifCond .ne 5, 3) := by decide +kernel
theorem dX7_readDays_14 : decode cX7_readDays 14 = .ok (.iconst 0, 1) := by decide +kernel
theorem dX7_readDays_15 : decode cX7_readDays 15 = .ok (.ireturn, 1) := by decide +kernel
theorem dX7_readDays_16 : decode cX7_readDays 16 = .ok (.aload_n 0, 1) := by decide +kernel
theorem dX7_readDays_17 : decode cX7_readDays 17 = .ok (.invokevirtual 36, 3) := by decide +kernel
theorem dX7_readDays_20 : decode cX7_readDays 20 = .ok (.istore_n 2, 1) := by decide +kernel
theorem dX7_readDays_21 : decode cX7_readDays 21 = .ok (.iconst 0, 1) := by decide +kernel
theorem dX7_readDays_22 : decode cX7_readDays 22 = .ok (.istore_n 3, 1) := by decide +kernel
theorem dX7_readDays_23 : decode cX7_readDays 23 = .ok (.iload_n 3, 1) := by decide +kernel
theorem dX7_readDays_24 : decode cX7_readDays 24 = .ok (.iconst 4, 1) := by decide +kernel
theorem dX7_readDays_25 : decode cX7_readDays 25 = .ok (.if_icmp .ge 69, 3) := by decide +kernel
theorem dX7_readDays_28 : decode cX7_readDays 28 = .ok (.iload_n 2, 1) := by decide +kernel
theorem dX7_readDays_29 : decode cX7_readDays 29 = .ok (.iconst (-1), 1) := by decide +kernel
theorem dX7_readDays_30 : decode cX7_readDays 30 = .ok (.if_icmp .eq 64, 3) := by decide +kernel
theorem dX7_readDays_33 : decode cX7_readDays 33 = .ok (.aload_n 0, 1) := by decide +kernel
theorem dX7_readDays_34 : decode cX7_readDays 34 = .ok (.invokevirtual 46, 3) := by decide +kernel
theorem dX7_readDays_37 : decode cX7_readDays 37 = .ok (.ifCond .ne 57, 3) := by decide +kernel
theorem dX7_readDays_40 : decode cX7_readDays 40 = .ok (.aload_n 0, 1) := by decide +kernel
theorem dX7_readDays_41 : decode cX7_readDays 41 = .ok (.ldc 54, 2) := by decide +kernel
theorem dX7_readDays_43 : decode cX7_readDays 43 = .ok (.invokevirtual 30, 3) := by decide +kernel
theorem dX7_readDays_46 : decode cX7_readDays 46 = .ok (.ifCond .eq 10, 3) := by decide +kernel
theorem dX7_readDays_49 : decode cX7_readDays 49 = .ok (.aload_n 0, 1) := by decide +kernel
theorem dX7_readDays_50 : decode cX7_readDays 50 = .ok (.invokevirtual 56, 3) := by decide +kernel
theorem dX7_readDays_53 : decode cX7_readDays 53 = .ok (.goto 4, 3) := by decide +kernel
theorem dX7_readDays_56 : decode cX7_readDays 56 = .ok (.iconst (-1), 1) := by decide +kernel
theorem dX7_readDays_57 : decode cX7_readDays 57 = .ok (.istore 4, 2) := by decide +kernel
theorem dX7_readDays_59 : decode cX7_readDays 59 = .ok (.iload 4, 2) := by decide +kernel
theorem dX7_readDays_61 : decode cX7_readDays 61 = .ok (.iconst (-1), 1) := by decide +kernel
theorem dX7_readDays_62 : decode cX7_readDays 62 = .ok (.if_icmp .eq 12, 3) := by decide +kernel
theorem dX7_readDays_65 : decode cX7_readDays 65 = .ok (.aload_n 0, 1) := by decide +kernel
theorem dX7_readDays_66 : decode cX7_readDays 66 = .ok (.ldc 50, 2) := by decide +kernel
theorem dX7_readDays_68 : decode cX7_readDays 68 = .ok (.invokevirtual 30, 3) := by decide +kernel
theorem dX7_readDays_71 : decode cX7_readDays 71 = .ok (.ifCond .ne 5, 3) := by decide +kernel
theorem dX7_readDays_74 : decode cX7_readDays 74 = .ok (.iconst 0, 1) := by decide +kernel
theorem dX7_readDays_75 : decode cX7_readDays 75 = .ok (.ireturn, 1) := by decide +kernel
theorem dX7_readDays_76 : decode cX7_readDays 76 = .ok (.aload_n 1, 1) := by decide +kernel
theorem dX7_readDays_77 : decode cX7_readDays 77 = .ok (.iload 4, 2) := by decide +kernel
theorem dX7_readDays_79 : decode cX7_readDays 79 = .ok (.iload_n 2, 1) := by decide +kernel
theorem dX7_readDays_80 : decode cX7_readDays 80 = .ok (.invokevirtual 40, 3) := by decide +kernel
theorem dX7_readDays_83 : decode cX7_readDays 83 = .ok (.aload_n 0, 1) := by decide +kernel
theorem dX7_readDays_84 : decode cX7_readDays 84 = .ok (.invokevirtual 36, 3) := by decide +kernel
theorem dX7_readDays_87 : decode cX7_readDays 87 = .ok (.istore_n 2, 1) := by decide +kernel
theorem dX7_readDays_88 : decode cX7_readDays 88 = .ok (.iinc 3 1, 3) := by decide +kernel
theorem dX7_readDays_91 : decode cX7_readDays 91 = .ok (.goto (-68), 3) := by decide +kernel
theorem dX7_readDays_94 : decode cX7_readDays 94 = .ok (.aload_n 1, 1) := by decide +kernel
theorem dX7_readDays_95 : decode cX7_readDays 95 = .ok (.iconst (-1), 1) := by decide +kernel
