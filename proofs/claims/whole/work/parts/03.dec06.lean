theorem dX11_stand_76 : decode cX11_stand 76 = .ok (.getfield 20, 3) := by decide +kernel
theorem dX11_stand_79 : decode cX11_stand 79 = .ok (.aload_n 0, 1) := by decide +kernel
theorem dX11_stand_80 : decode cX11_stand 80 = .ok (.getfield 121, 3) := by decide +kernel
theorem dX11_stand_83 : decode cX11_stand 83 = .ok (.iload_n 1, 1) := by decide +kernel
theorem dX11_stand_84 : decode cX11_stand 84 = .ok (.iastore, 1) := by decide +kernel
theorem dX11_stand_85 : decode cX11_stand 85 = .ok (.aload_n 0, 1) := by decide +kernel
theorem dX11_stand_86 : decode cX11_stand 86 = .ok (.getfield 23, 3) := by decide +kernel
theorem dX11_stand_89 : decode cX11_stand 89 = .ok (.aload_n 0, 1) := by decide +kernel
theorem dX11_stand_90 : decode cX11_stand 90 = .ok (.getfield 121, 3) := by decide +kernel
theorem dX11_stand_93 : decode cX11_stand 93 = .ok (.iload_n 2, 1) := by decide +kernel
theorem dX11_stand_94 : decode cX11_stand 94 = .ok (.iastore, 1) := by decide +kernel
theorem dX11_stand_95 : decode cX11_stand 95 = .ok (.aload_n 0, 1) := by decide +kernel
theorem dX11_stand_96 : decode cX11_stand 96 = .ok (.getfield 26, 3) := by decide +kernel
theorem dX11_stand_99 : decode cX11_stand 99 = .ok (.aload_n 0, 1) := by decide +kernel
theorem dX11_stand_100 : decode cX11_stand 100 = .ok (.getfield 121, 3) := by decide +kernel
theorem dX11_stand_103 : decode cX11_stand 103 = .ok (.iload_n 3, 1) := by decide +kernel
theorem dX11_stand_104 : decode cX11_stand 104 = .ok (.iastore, 1) := by decide +kernel
theorem dX11_stand_105 : decode cX11_stand 105 = .ok (.aload_n 0, 1) := by decide +kernel
theorem dX11_stand_106 : decode cX11_stand 106 = .ok (.getfield 29, 3) := by decide +kernel
theorem dX11_stand_109 : decode cX11_stand 109 = .ok (.aload_n 0, 1) := by decide +kernel
theorem dX11_stand_110 : decode cX11_stand 110 = .ok (.getfield 121, 3) := by decide +kernel
theorem dX11_stand_113 : decode cX11_stand 113 = .ok (.iload 4, 2) := by decide +kernel
theorem dX11_stand_115 : decode cX11_stand 115 = .ok (.iastore, 1) := by decide +kernel
theorem dX11_stand_116 : decode cX11_stand 116 = .ok (.aload_n 0, 1) := by decide +kernel
theorem dX11_stand_117 : decode cX11_stand 117 = .ok (.getfield 32, 3) := by decide +kernel
theorem dX11_stand_120 : decode cX11_stand 120 = .ok (.aload_n 0, 1) := by decide +kernel
theorem dX11_stand_121 : decode cX11_stand 121 = .ok (.getfield 121, 3) := by decide +kernel
theorem dX11_stand_124 : decode cX11_stand 124 = .ok (.iload 5, 2) := by decide +kernel
theorem dX11_stand_126 : decode cX11_stand 126 = .ok (.iastore, 1) := by decide +kernel
theorem dX11_stand_127 : decode cX11_stand 127 = .ok (.aload_n 0, 1) := by decide +kernel
theorem dX11_stand_128 : decode cX11_stand 128 = .ok (.getfield 35, 3) := by decide +kernel
theorem dX11_stand_131 : decode cX11_stand 131 = .ok (.aload_n 0, 1) := by decide +kernel
theorem dX11_stand_132 : decode cX11_stand 132 = .ok (.getfield 121, 3) := by decide +kernel
theorem dX11_stand_135 : decode cX11_stand 135 = .ok (.iload 6, 2) := by decide +kernel
theorem dX11_stand_137 : decode cX11_stand 137 = .ok (.iastore, 1) := by decide +kernel
theorem dX11_stand_138 : decode cX11_stand 138 = .ok (.aload_n 0, 1) := by decide +kernel
theorem dX11_stand_139 : decode cX11_stand 139 = .ok (.getfield 38, 3) := by decide +kernel
theorem dX11_stand_142 : decode cX11_stand 142 = .ok (.aload_n 0, 1) := by decide +kernel
theorem dX11_stand_143 : decode cX11_stand 143 = .ok (.getfield 121, 3) := by decide +kernel
theorem dX11_stand_146 : decode cX11_stand 146 = .ok (.iconst (-1), 1) := by decide +kernel
theorem dX11_stand_147 : decode cX11_stand 147 = .ok (.iastore, 1) := by decide +kernel
theorem dX11_stand_148 : decode cX11_stand 148 = .ok (.aload_n 0, 1) := by decide +kernel
theorem dX11_stand_149 : decode cX11_stand 149 = .ok (.getfield 41, 3) := by decide +kernel
theorem dX11_stand_152 : decode cX11_stand 152 = .ok (.aload_n 0, 1) := by decide +kernel
theorem dX11_stand_153 : decode cX11_stand 153 = .ok (.getfield 121, 3) := by decide +kernel
theorem dX11_stand_156 : decode cX11_stand 156 = .ok (.iconst (-1), 1) := by decide +kernel
theorem dX11_stand_157 : decode cX11_stand 157 = .ok (.iastore, 1) := by decide +kernel
theorem dX11_stand_158 : decode cX11_stand 158 = .ok (.aload_n 0, 1) := by decide +kernel
theorem dX11_stand_159 : decode cX11_stand 159 = .ok (.dup, 1) := by decide +kernel
theorem dX11_stand_160 : decode cX11_stand 160 = .ok (.getfield 121, 3) := by decide +kernel
theorem dX11_stand_163 : decode cX11_stand 163 = .ok (.iconst 1, 1) := by decide +kernel
theorem dX11_stand_164 : decode cX11_stand 164 = .ok (.iadd, 1) := by decide +kernel
theorem dX11_stand_165 : decode cX11_stand 165 = .ok (.putfield 121, 3) := by decide +kernel
theorem dX11_stand_168 : decode cX11_stand 168 = .ok (.aload_n 0, 1) := by decide +kernel
theorem dX11_stand_169 : decode cX11_stand 169 = .ok (.getfield 121, 3) := by decide +kernel
theorem dX11_stand_172 : decode cX11_stand 172 = .ok (.iconst 1, 1) := by decide +kernel
theorem dX11_stand_173 : decode cX11_stand 173 = .ok (.isub, 1) := by decide +kernel
theorem dX11_stand_174 : decode cX11_stand 174 = .ok (.ireturn, 1) := by decide +kernel
theorem dX11_covers_0 : decode cX11_covers 0 = .ok (.iload_n 3, 1) := by decide +kernel
theorem dX11_covers_1 : decode cX11_covers 1 = .ok (.aload_n 0, 1) := by decide +kernel
theorem dX11_covers_2 : decode cX11_covers 2 = .ok (.getfield 111, 3) := by decide +kernel
theorem dX11_covers_5 : decode cX11_covers 5 = .ok (.irem, 1) := by decide +kernel
theorem dX11_covers_6 : decode cX11_covers 6 = .ok (.iload_n 2, 1) := by decide +kernel
theorem dX11_covers_7 : decode cX11_covers 7 = .ok (.aload_n 0, 1) := by decide +kernel
theorem dX11_covers_8 : decode cX11_covers 8 = .ok (.getfield 111, 3) := by decide +kernel
theorem dX11_covers_11 : decode cX11_covers 11 = .ok (.irem, 1) := by decide +kernel
theorem dX11_covers_12 : decode cX11_covers 12 = .ok (.iload_n 2, 1) := by decide +kernel
theorem dX11_covers_13 : decode cX11_covers 13 = .ok (.aload_n 0, 1) := by decide +kernel
theorem dX11_covers_14 : decode cX11_covers 14 = .ok (.getfield 111, 3) := by decide +kernel
theorem dX11_covers_17 : decode cX11_covers 17 = .ok (.irem, 1) := by decide +kernel
theorem dX11_covers_18 : decode cX11_covers 18 = .ok (.aload_n 0, 1) := by decide +kernel
theorem dX11_covers_19 : decode cX11_covers 19 = .ok (.getfield 29, 3) := by decide +kernel
theorem dX11_covers_22 : decode cX11_covers 22 = .ok (.iload_n 1, 1) := by decide +kernel
theorem dX11_covers_23 : decode cX11_covers 23 = .ok (.iaload, 1) := by decide +kernel
theorem dX11_covers_24 : decode cX11_covers 24 = .ok (.iadd, 1) := by decide +kernel
theorem dX11_covers_25 : decode cX11_covers 25 = .ok (.iconst 1, 1) := by decide +kernel
theorem dX11_covers_26 : decode cX11_covers 26 = .ok (.isub, 1) := by decide +kernel
theorem dX11_covers_27 : decode cX11_covers 27 = .ok (.invokestatic 117, 3) := by decide +kernel
theorem dX11_covers_30 : decode cX11_covers 30 = .ok (.ifCond .eq 40, 3) := by decide +kernel
theorem dX11_covers_33 : decode cX11_covers 33 = .ok (.iload_n 3, 1) := by decide +kernel
theorem dX11_covers_34 : decode cX11_covers 34 = .ok (.aload_n 0, 1) := by decide +kernel
theorem dX11_covers_35 : decode cX11_covers 35 = .ok (.getfield 111, 3) := by decide +kernel
theorem dX11_covers_38 : decode cX11_covers 38 = .ok (.idiv, 1) := by decide +kernel
theorem dX11_covers_39 : decode cX11_covers 39 = .ok (.iload_n 2, 1) := by decide +kernel
theorem dX11_covers_40 : decode cX11_covers 40 = .ok (.aload_n 0, 1) := by decide +kernel
theorem dX11_covers_41 : decode cX11_covers 41 = .ok (.getfield 111, 3) := by decide +kernel
theorem dX11_covers_44 : decode cX11_covers 44 = .ok (.idiv, 1) := by decide +kernel
theorem dX11_covers_45 : decode cX11_covers 45 = .ok (.iload_n 2, 1) := by decide +kernel
theorem dX11_covers_46 : decode cX11_covers 46 = .ok (.aload_n 0, 1) := by decide +kernel
theorem dX11_covers_47 : decode cX11_covers 47 = .ok (.getfield 111, 3) := by decide +kernel
theorem dX11_covers_50 : decode cX11_covers 50 = .ok (.idiv, 1) := by decide +kernel
theorem dX11_covers_51 : decode cX11_covers 51 = .ok (.aload_n 0, 1) := by decide +kernel
theorem dX11_covers_52 : decode cX11_covers 52 = .ok (.getfield 32, 3) := by decide +kernel
theorem dX11_covers_55 : decode cX11_covers 55 = .ok (.iload_n 1, 1) := by decide +kernel
theorem dX11_covers_56 : decode cX11_covers 56 = .ok (.iaload, 1) := by decide +kernel
theorem dX11_covers_57 : decode cX11_covers 57 = .ok (.iadd, 1) := by decide +kernel
theorem dX11_covers_58 : decode cX11_covers 58 = .ok (.iconst 1, 1) := by decide +kernel
theorem dX11_covers_59 : decode cX11_covers 59 = .ok (.isub, 1) := by decide +kernel
theorem dX11_covers_60 : decode cX11_covers 60 = .ok (.invokestatic 117, 3) := by decide +kernel
theorem dX11_covers_63 : decode cX11_covers 63 = .ok (.ifCond .eq 7, 3) := by decide +kernel
theorem dX11_covers_66 : decode cX11_covers 66 = .ok (.iconst 1, 1) := by decide +kernel
theorem dX11_covers_67 : decode cX11_covers 67 = .ok (.goto 4, 3) := by decide +kernel
theorem dX11_covers_70 : decode cX11_covers 70 = .ok (.iconst 0, 1) := by decide +kernel
theorem dX11_covers_71 : decode cX11_covers 71 = .ok (.ireturn, 1) := by decide +kernel
theorem dX11_standOn_0 : decode cX11_standOn 0 = .ok (.iconst 0, 1) := by decide +kernel
theorem dX11_standOn_1 : decode cX11_standOn 1 = .ok (.istore_n 2, 1) := by decide +kernel
theorem dX11_standOn_2 : decode cX11_standOn 2 = .ok (.iload_n 2, 1) := by decide +kernel
theorem dX11_standOn_3 : decode cX11_standOn 3 = .ok (.aload_n 0, 1) := by decide +kernel
theorem dX11_standOn_4 : decode cX11_standOn 4 = .ok (.getfield 121, 3) := by decide +kernel
theorem dX11_standOn_7 : decode cX11_standOn 7 = .ok (.if_icmp .ge 36, 3) := by decide +kernel
theorem dX11_standOn_10 : decode cX11_standOn 10 = .ok (.aload_n 0, 1) := by decide +kernel
theorem dX11_standOn_11 : decode cX11_standOn 11 = .ok (.getfield 38, 3) := by decide +kernel
theorem dX11_standOn_14 : decode cX11_standOn 14 = .ok (.iload_n 2, 1) := by decide +kernel
theorem dX11_standOn_15 : decode cX11_standOn 15 = .ok (.iaload, 1) := by decide +kernel
theorem dX11_standOn_16 : decode cX11_standOn 16 = .ok (.iconst (-1), 1) := by decide +kernel
theorem dX11_standOn_17 : decode cX11_standOn 17 = .ok (.if_icmp .eq 20, 3) := by decide +kernel
theorem dX11_standOn_20 : decode cX11_standOn 20 = .ok (.aload_n 0, 1) := by decide +kernel
theorem dX11_standOn_21 : decode cX11_standOn 21 = .ok (.iload_n 2, 1) := by decide +kernel
theorem dX11_standOn_22 : decode cX11_standOn 22 = .ok (.aload_n 0, 1) := by decide +kernel
theorem dX11_standOn_23 : decode cX11_standOn 23 = .ok (.getfield 38, 3) := by decide +kernel
theorem dX11_standOn_26 : decode cX11_standOn 26 = .ok (.iload_n 2, 1) := by decide +kernel
theorem dX11_standOn_27 : decode cX11_standOn 27 = .ok (.iaload, 1) := by decide +kernel
theorem dX11_standOn_28 : decode cX11_standOn 28 = .ok (.iload_n 1, 1) := by decide +kernel
theorem dX11_standOn_29 : decode cX11_standOn 29 = .ok (.invokevirtual 138, 3) := by decide +kernel
theorem dX11_standOn_32 : decode cX11_standOn 32 = .ok (.ifCond .eq 5, 3) := by decide +kernel
theorem dX11_standOn_35 : decode cX11_standOn 35 = .ok (.iload_n 2, 1) := by decide +kernel
theorem dX11_standOn_36 : decode cX11_standOn 36 = .ok (.ireturn, 1) := by decide +kernel
theorem dX11_standOn_37 : decode cX11_standOn 37 = .ok (.iinc 2 1, 3) := by decide +kernel
theorem dX11_standOn_40 : decode cX11_standOn 40 = .ok (.goto (-38), 3) := by decide +kernel
theorem dX11_standOn_43 : decode cX11_standOn 43 = .ok (.iconst (-1), 1) := by decide +kernel
theorem dX11_standOn_44 : decode cX11_standOn 44 = .ok (.ireturn, 1) := by decide +kernel
theorem dX11_isBeside_0 : decode cX11_isBeside 0 = .ok (.iload_n 1, 1) := by decide +kernel
theorem dX11_isBeside_1 : decode cX11_isBeside 1 = .ok (.aload_n 0, 1) := by decide +kernel
theorem dX11_isBeside_2 : decode cX11_isBeside 2 = .ok (.getfield 111, 3) := by decide +kernel
theorem dX11_isBeside_5 : decode cX11_isBeside 5 = .ok (.irem, 1) := by decide +kernel
theorem dX11_isBeside_6 : decode cX11_isBeside 6 = .ok (.ifCond .le 19, 3) := by decide +kernel
theorem dX11_isBeside_9 : decode cX11_isBeside 9 = .ok (.aload_n 0, 1) := by decide +kernel
theorem dX11_isBeside_10 : decode cX11_isBeside 10 = .ok (.getfield 7, 3) := by decide +kernel
theorem dX11_isBeside_13 : decode cX11_isBeside 13 = .ok (.iload_n 1, 1) := by decide +kernel
theorem dX11_isBeside_14 : decode cX11_isBeside 14 = .ok (.iconst 1, 1) := by decide +kernel
theorem dX11_isBeside_15 : decode cX11_isBeside 15 = .ok (.isub, 1) := by decide +kernel
theorem dX11_isBeside_16 : decode cX11_isBeside 16 = .ok (.iaload, 1) := by decide +kernel
theorem dX11_isBeside_17 : decode cX11_isBeside 17 = .ok (.iload_n 2, 1) := by decide +kernel
theorem dX11_isBeside_18 : decode cX11_isBeside 18 = .ok (.if_icmp .ne 7, 3) := by decide +kernel
theorem dX11_isBeside_21 : decode cX11_isBeside 21 = .ok (.iconst 1, 1) := by decide +kernel
theorem dX11_isBeside_22 : decode cX11_isBeside 22 = .ok (.goto 4, 3) := by decide +kernel
theorem dX11_isBeside_25 : decode cX11_isBeside 25 = .ok (.iconst 0, 1) := by decide +kernel
theorem dX11_isBeside_26 : decode cX11_isBeside 26 = .ok (.istore_n 3, 1) := by decide +kernel
theorem dX11_isBeside_27 : decode cX11_isBeside 27 = .ok (.iload_n 3, 1) := by decide +kernel
theorem dX11_isBeside_28 : decode cX11_isBeside 28 = .ok (.ifCond .ne 30, 3) := by decide +kernel
theorem dX11_isBeside_31 : decode cX11_isBeside 31 = .ok (.iload_n 1, 1) := by decide +kernel
theorem dX11_isBeside_32 : decode cX11_isBeside 32 = .ok (.aload_n 0, 1) := by decide +kernel
theorem dX11_isBeside_33 : decode cX11_isBeside 33 = .ok (.getfield 111, 3) := by decide +kernel
theorem dX11_isBeside_36 : decode cX11_isBeside 36 = .ok (.irem, 1) := by decide +kernel
theorem dX11_isBeside_37 : decode cX11_isBeside 37 = .ok (.aload_n 0, 1) := by decide +kernel
theorem dX11_isBeside_38 : decode cX11_isBeside 38 = .ok (.getfield 111, 3) := by decide +kernel
theorem dX11_isBeside_41 : decode cX11_isBeside 41 = .ok (.iconst 1, 1) := by decide +kernel
theorem dX11_isBeside_42 : decode cX11_isBeside 42 = .ok (.isub, 1) := by decide +kernel
theorem dX11_isBeside_43 : decode cX11_isBeside 43 = .ok (.if_icmp .ge 19, 3) := by decide +kernel
theorem dX11_isBeside_46 : decode cX11_isBeside 46 = .ok (.aload_n 0, 1) := by decide +kernel
theorem dX11_isBeside_47 : decode cX11_isBeside 47 = .ok (.getfield 7, 3) := by decide +kernel
theorem dX11_isBeside_50 : decode cX11_isBeside 50 = .ok (.iload_n 1, 1) := by decide +kernel
theorem dX11_isBeside_51 : decode cX11_isBeside 51 = .ok (.iconst 1, 1) := by decide +kernel
theorem dX11_isBeside_52 : decode cX11_isBeside 52 = .ok (.iadd, 1) := by decide +kernel
theorem dX11_isBeside_53 : decode cX11_isBeside 53 = .ok (.iaload, 1) := by decide +kernel
theorem dX11_isBeside_54 : decode cX11_isBeside 54 = .ok (.iload_n 2, 1) := by decide +kernel
theorem dX11_isBeside_55 : decode cX11_isBeside 55 = .ok (.if_icmp .ne 7, 3) := by decide +kernel
theorem dX11_isBeside_58 : decode cX11_isBeside 58 = .ok (.iconst 1, 1) := by decide +kernel
theorem dX11_isBeside_59 : decode cX11_isBeside 59 = .ok (.goto 4, 3) := by decide +kernel
theorem dX11_isBeside_62 : decode cX11_isBeside 62 = .ok (.iconst 0, 1) := by decide +kernel
theorem dX11_isBeside_63 : decode cX11_isBeside 63 = .ok (.istore_n 3, 1) := by decide +kernel
theorem dX11_isBeside_64 : decode cX11_isBeside 64 = .ok (.iload_n 3, 1) := by decide +kernel
theorem dX11_isBeside_65 : decode cX11_isBeside 65 = .ok (.ifCond .ne 26, 3) := by decide +kernel
theorem dX11_isBeside_68 : decode cX11_isBeside 68 = .ok (.iload_n 1, 1) := by decide +kernel
theorem dX11_isBeside_69 : decode cX11_isBeside 69 = .ok (.aload_n 0, 1) := by decide +kernel
theorem dX11_isBeside_70 : decode cX11_isBeside 70 = .ok (.getfield 111, 3) := by decide +kernel
theorem dX11_isBeside_73 : decode cX11_isBeside 73 = .ok (.if_icmp .lt 22, 3) := by decide +kernel
theorem dX11_isBeside_76 : decode cX11_isBeside 76 = .ok (.aload_n 0, 1) := by decide +kernel
theorem dX11_isBeside_77 : decode cX11_isBeside 77 = .ok (.getfield 7, 3) := by decide +kernel
theorem dX11_isBeside_80 : decode cX11_isBeside 80 = .ok (.iload_n 1, 1) := by decide +kernel
theorem dX11_isBeside_81 : decode cX11_isBeside 81 = .ok (.aload_n 0, 1) := by decide +kernel
theorem dX11_isBeside_82 : decode cX11_isBeside 82 = .ok (.getfield 111, 3) := by decide +kernel
theorem dX11_isBeside_85 : decode cX11_isBeside 85 = .ok (.isub, 1) := by decide +kernel
theorem dX11_isBeside_86 : decode cX11_isBeside 86 = .ok (.iaload, 1) := by decide +kernel
theorem dX11_isBeside_87 : decode cX11_isBeside 87 = .ok (.iload_n 2, 1) := by decide +kernel
theorem dX11_isBeside_88 : decode cX11_isBeside 88 = .ok (.if_icmp .ne 7, 3) := by decide +kernel
theorem dX11_isBeside_91 : decode cX11_isBeside 91 = .ok (.iconst 1, 1) := by decide +kernel
theorem dX11_isBeside_92 : decode cX11_isBeside 92 = .ok (.goto 4, 3) := by decide +kernel
theorem dX11_isBeside_95 : decode cX11_isBeside 95 = .ok (.iconst 0, 1) := by decide +kernel
theorem dX11_isBeside_96 : decode cX11_isBeside 96 = .ok (.istore_n 3, 1) := by decide +kernel
theorem dX11_isBeside_97 : decode cX11_isBeside 97 = .ok (.iload_n 3, 1) := by decide +kernel
theorem dX11_isBeside_98 : decode cX11_isBeside 98 = .ok (.ifCond .ne 33, 3) := by decide +kernel
theorem dX11_isBeside_101 : decode cX11_isBeside 101 = .ok (.iload_n 1, 1) := by decide +kernel
theorem dX11_isBeside_102 : decode cX11_isBeside 102 = .ok (.aload_n 0, 1) := by decide +kernel
theorem dX11_isBeside_103 : decode cX11_isBeside 103 = .ok (.getfield 111, 3) := by decide +kernel
theorem dX11_isBeside_106 : decode cX11_isBeside 106 = .ok (.aload_n 0, 1) := by decide +kernel
theorem dX11_isBeside_107 : decode cX11_isBeside 107 = .ok (.getfield 114, 3) := by decide +kernel
theorem dX11_isBeside_110 : decode cX11_isBeside 110 = .ok (.iconst 1, 1) := by decide +kernel
theorem dX11_isBeside_111 : decode cX11_isBeside 111 = .ok (.isub, 1) := by decide +kernel
theorem dX11_isBeside_112 : decode cX11_isBeside 112 = .ok (.imul, 1) := by decide +kernel
theorem dX11_isBeside_113 : decode cX11_isBeside 113 = .ok (.if_icmp .ge 22, 3) := by decide +kernel
theorem dX11_isBeside_116 : decode cX11_isBeside 116 = .ok (.aload_n 0, 1) := by decide +kernel
theorem dX11_isBeside_117 : decode cX11_isBeside 117 = .ok (.getfield 7, 3) := by decide +kernel
theorem dX11_isBeside_120 : decode cX11_isBeside 120 = .ok (.iload_n 1, 1) := by decide +kernel
theorem dX11_isBeside_121 : decode cX11_isBeside 121 = .ok (.aload_n 0, 1) := by decide +kernel
theorem dX11_isBeside_122 : decode cX11_isBeside 122 = .ok (.getfield 111, 3) := by decide +kernel
theorem dX11_isBeside_125 : decode cX11_isBeside 125 = .ok (.iadd, 1) := by decide +kernel
theorem dX11_isBeside_126 : decode cX11_isBeside 126 = .ok (.iaload, 1) := by decide +kernel
theorem dX11_isBeside_127 : decode cX11_isBeside 127 = .ok (.iload_n 2, 1) := by decide +kernel
theorem dX11_isBeside_128 : decode cX11_isBeside 128 = .ok (.if_icmp .ne 7, 3) := by decide +kernel
theorem dX11_isBeside_131 : decode cX11_isBeside 131 = .ok (.iconst 1, 1) := by decide +kernel
theorem dX11_isBeside_132 : decode cX11_isBeside 132 = .ok (.goto 4, 3) := by decide +kernel
theorem dX11_isBeside_135 : decode cX11_isBeside 135 = .ok (.iconst 0, 1) := by decide +kernel
theorem dX11_isBeside_136 : decode cX11_isBeside 136 = .ok (.ireturn, 1) := by decide +kernel
theorem dX11_gap_0 : decode cX11_gap 0 = .ok (.iload_n 0, 1) := by decide +kernel
theorem dX11_gap_1 : decode cX11_gap 1 = .ok (.iload_n 2, 1) := by decide +kernel
theorem dX11_gap_2 : decode cX11_gap 2 = .ok (.iload_n 3, 1) := by decide +kernel
theorem dX11_gap_3 : decode cX11_gap 3 = .ok (.iadd, 1) := by decide +kernel
theorem dX11_gap_4 : decode cX11_gap 4 = .ok (.if_icmp .lt 11, 3) := by decide +kernel
theorem dX11_gap_7 : decode cX11_gap 7 = .ok (.iload_n 0, 1) := by decide +kernel
theorem dX11_gap_8 : decode cX11_gap 8 = .ok (.iload_n 2, 1) := by decide +kernel
theorem dX11_gap_9 : decode cX11_gap 9 = .ok (.isub, 1) := by decide +kernel
theorem dX11_gap_10 : decode cX11_gap 10 = .ok (.iload_n 3, 1) := by decide +kernel
theorem dX11_gap_11 : decode cX11_gap 11 = .ok (.isub, 1) := by decide +kernel
theorem dX11_gap_12 : decode cX11_gap 12 = .ok (.goto 8, 3) := by decide +kernel
theorem dX11_gap_15 : decode cX11_gap 15 = .ok (.iload_n 2, 1) := by decide +kernel
theorem dX11_gap_16 : decode cX11_gap 16 = .ok (.iload_n 0, 1) := by decide +kernel
theorem dX11_gap_17 : decode cX11_gap 17 = .ok (.isub, 1) := by decide +kernel
theorem dX11_gap_18 : decode cX11_gap 18 = .ok (.iload_n 1, 1) := by decide +kernel
theorem dX11_gap_19 : decode cX11_gap 19 = .ok (.isub, 1) := by decide +kernel
theorem dX11_gap_20 : decode cX11_gap 20 = .ok (.istore 4, 2) := by decide +kernel
theorem dX11_gap_22 : decode cX11_gap 22 = .ok (.iload 4, 2) := by decide +kernel
theorem dX11_gap_24 : decode cX11_gap 24 = .ok (.ifCond .ge 7, 3) := by decide +kernel
theorem dX11_gap_27 : decode cX11_gap 27 = .ok (.iconst 0, 1) := by decide +kernel
theorem dX11_gap_28 : decode cX11_gap 28 = .ok (.goto 5, 3) := by decide +kernel
theorem dX11_gap_31 : decode cX11_gap 31 = .ok (.iload 4, 2) := by decide +kernel
theorem dX11_gap_33 : decode cX11_gap 33 = .ok (.ireturn, 1) := by decide +kernel
theorem dX11_isNear_0 : decode cX11_isNear 0 = .ok (.iload_n 2, 1) := by decide +kernel
theorem dX11_isNear_1 : decode cX11_isNear 1 = .ok (.aload_n 0, 1) := by decide +kernel
theorem dX11_isNear_2 : decode cX11_isNear 2 = .ok (.getfield 111, 3) := by decide +kernel
theorem dX11_isNear_5 : decode cX11_isNear 5 = .ok (.irem, 1) := by decide +kernel
theorem dX11_isNear_6 : decode cX11_isNear 6 = .ok (.aload_n 0, 1) := by decide +kernel
theorem dX11_isNear_7 : decode cX11_isNear 7 = .ok (.getfield 29, 3) := by decide +kernel
theorem dX11_isNear_10 : decode cX11_isNear 10 = .ok (.iload_n 1, 1) := by decide +kernel
theorem dX11_isNear_11 : decode cX11_isNear 11 = .ok (.iaload, 1) := by decide +kernel
theorem dX11_isNear_12 : decode cX11_isNear 12 = .ok (.aload_n 0, 1) := by decide +kernel
theorem dX11_isNear_13 : decode cX11_isNear 13 = .ok (.getfield 38, 3) := by decide +kernel
theorem dX11_isNear_16 : decode cX11_isNear 16 = .ok (.iload_n 3, 1) := by decide +kernel
theorem dX11_isNear_17 : decode cX11_isNear 17 = .ok (.iaload, 1) := by decide +kernel
theorem dX11_isNear_18 : decode cX11_isNear 18 = .ok (.aload_n 0, 1) := by decide +kernel
theorem dX11_isNear_19 : decode cX11_isNear 19 = .ok (.getfield 111, 3) := by decide +kernel
theorem dX11_isNear_22 : decode cX11_isNear 22 = .ok (.irem, 1) := by decide +kernel
theorem dX11_isNear_23 : decode cX11_isNear 23 = .ok (.aload_n 0, 1) := by decide +kernel
theorem dX11_isNear_24 : decode cX11_isNear 24 = .ok (.getfield 29, 3) := by decide +kernel
theorem dX11_isNear_27 : decode cX11_isNear 27 = .ok (.iload_n 3, 1) := by decide +kernel
theorem dX11_isNear_28 : decode cX11_isNear 28 = .ok (.iaload, 1) := by decide +kernel
theorem dX11_isNear_29 : decode cX11_isNear 29 = .ok (.invokestatic 141, 3) := by decide +kernel
theorem dX11_isNear_32 : decode cX11_isNear 32 = .ok (.istore 4, 2) := by decide +kernel
theorem dX11_isNear_34 : decode cX11_isNear 34 = .ok (.iload_n 2, 1) := by decide +kernel
theorem dX11_isNear_35 : decode cX11_isNear 35 = .ok (.aload_n 0, 1) := by decide +kernel
theorem dX11_isNear_36 : decode cX11_isNear 36 = .ok (.getfield 111, 3) := by decide +kernel
theorem dX11_isNear_39 : decode cX11_isNear 39 = .ok (.idiv, 1) := by decide +kernel
theorem dX11_isNear_40 : decode cX11_isNear 40 = .ok (.aload_n 0, 1) := by decide +kernel
theorem dX11_isNear_41 : decode cX11_isNear 41 = .ok (.getfield 32, 3) := by decide +kernel
theorem dX11_isNear_44 : decode cX11_isNear 44 = .ok (.iload_n 1, 1) := by decide +kernel
theorem dX11_isNear_45 : decode cX11_isNear 45 = .ok (.iaload, 1) := by decide +kernel
theorem dX11_isNear_46 : decode cX11_isNear 46 = .ok (.aload_n 0, 1) := by decide +kernel
theorem dX11_isNear_47 : decode cX11_isNear 47 = .ok (.getfield 38, 3) := by decide +kernel
theorem dX11_isNear_50 : decode cX11_isNear 50 = .ok (.iload_n 3, 1) := by decide +kernel
theorem dX11_isNear_51 : decode cX11_isNear 51 = .ok (.iaload, 1) := by decide +kernel
theorem dX11_isNear_52 : decode cX11_isNear 52 = .ok (.aload_n 0, 1) := by decide +kernel
theorem dX11_isNear_53 : decode cX11_isNear 53 = .ok (.getfield 111, 3) := by decide +kernel
theorem dX11_isNear_56 : decode cX11_isNear 56 = .ok (.idiv, 1) := by decide +kernel
theorem dX11_isNear_57 : decode cX11_isNear 57 = .ok (.aload_n 0, 1) := by decide +kernel
theorem dX11_isNear_58 : decode cX11_isNear 58 = .ok (.getfield 32, 3) := by decide +kernel
theorem dX11_isNear_61 : decode cX11_isNear 61 = .ok (.iload_n 3, 1) := by decide +kernel
theorem dX11_isNear_62 : decode cX11_isNear 62 = .ok (.iaload, 1) := by decide +kernel
theorem dX11_isNear_63 : decode cX11_isNear 63 = .ok (.invokestatic 141, 3) := by decide +kernel
theorem dX11_isNear_66 : decode cX11_isNear 66 = .ok (.istore 5, 2) := by decide +kernel
theorem dX11_isNear_68 : decode cX11_isNear 68 = .ok (.iload 4, 2) := by decide +kernel
theorem dX11_isNear_70 : decode cX11_isNear 70 = .ok (.aload_n 0, 1) := by decide +kernel
theorem dX11_isNear_71 : decode cX11_isNear 71 = .ok (.getfield 16, 3) := by decide +kernel
theorem dX11_isNear_74 : decode cX11_isNear 74 = .ok (.if_icmp .ge 16, 3) := by decide +kernel
theorem dX11_isNear_77 : decode cX11_isNear 77 = .ok (.iload 5, 2) := by decide +kernel
theorem dX11_isNear_79 : decode cX11_isNear 79 = .ok (.aload_n 0, 1) := by decide +kernel
theorem dX11_isNear_80 : decode cX11_isNear 80 = .ok (.getfield 16, 3) := by decide +kernel
theorem dX11_isNear_83 : decode cX11_isNear 83 = .ok (.if_icmp .ge 7, 3) := by decide +kernel
theorem dX11_isNear_86 : decode cX11_isNear 86 = .ok (.iconst 1, 1) := by decide +kernel
theorem dX11_isNear_87 : decode cX11_isNear 87 = .ok (.goto 4, 3) := by decide +kernel
theorem dX11_isNear_90 : decode cX11_isNear 90 = .ok (.iconst 0, 1) := by decide +kernel
theorem dX11_isNear_91 : decode cX11_isNear 91 = .ok (.ireturn, 1) := by decide +kernel
theorem dX11_needsMore_0 : decode cX11_needsMore 0 = .ok (.aload_n 0, 1) := by decide +kernel
theorem dX11_needsMore_1 : decode cX11_needsMore 1 = .ok (.getfield 20, 3) := by decide +kernel
theorem dX11_needsMore_4 : decode cX11_needsMore 4 = .ok (.iload_n 1, 1) := by decide +kernel
theorem dX11_needsMore_5 : decode cX11_needsMore 5 = .ok (.iaload, 1) := by decide +kernel
theorem dX11_needsMore_6 : decode cX11_needsMore 6 = .ok (.ifCond .ne 7, 3) := by decide +kernel
theorem dX11_needsMore_9 : decode cX11_needsMore 9 = .ok (.iconst 1, 1) := by decide +kernel
theorem dX11_needsMore_10 : decode cX11_needsMore 10 = .ok (.goto 4, 3) := by decide +kernel
theorem dX11_needsMore_13 : decode cX11_needsMore 13 = .ok (.iconst 0, 1) := by decide +kernel
theorem dX11_needsMore_14 : decode cX11_needsMore 14 = .ok (.istore_n 3, 1) := by decide +kernel
theorem dX11_needsMore_15 : decode cX11_needsMore 15 = .ok (.iconst 0, 1) := by decide +kernel
theorem dX11_needsMore_16 : decode cX11_needsMore 16 = .ok (.istore 4, 2) := by decide +kernel
theorem dX11_needsMore_18 : decode cX11_needsMore 18 = .ok (.iload 4, 2) := by decide +kernel
theorem dX11_needsMore_20 : decode cX11_needsMore 20 = .ok (.aload_n 0, 1) := by decide +kernel
theorem dX11_needsMore_21 : decode cX11_needsMore 21 = .ok (.getfield 111, 3) := by decide +kernel
theorem dX11_needsMore_24 : decode cX11_needsMore 24 = .ok (.aload_n 0, 1) := by decide +kernel
theorem dX11_needsMore_25 : decode cX11_needsMore 25 = .ok (.getfield 114, 3) := by decide +kernel
theorem dX11_needsMore_28 : decode cX11_needsMore 28 = .ok (.imul, 1) := by decide +kernel
theorem dX11_needsMore_29 : decode cX11_needsMore 29 = .ok (.if_icmp .ge 90, 3) := by decide +kernel
theorem dX11_needsMore_32 : decode cX11_needsMore 32 = .ok (.aload_n 0, 1) := by decide +kernel
theorem dX11_needsMore_33 : decode cX11_needsMore 33 = .ok (.getfield 20, 3) := by decide +kernel
theorem dX11_needsMore_36 : decode cX11_needsMore 36 = .ok (.iload_n 1, 1) := by decide +kernel
theorem dX11_needsMore_37 : decode cX11_needsMore 37 = .ok (.iaload, 1) := by decide +kernel
theorem dX11_needsMore_38 : decode cX11_needsMore 38 = .ok (.iconst 1, 1) := by decide +kernel
theorem dX11_needsMore_39 : decode cX11_needsMore 39 = .ok (.iconst 3, 1) := by decide +kernel
theorem dX11_needsMore_40 : decode cX11_needsMore 40 = .ok (.invokestatic 117, 3) := by decide +kernel
theorem dX11_needsMore_43 : decode cX11_needsMore 43 = .ok (.ifCond .eq 76, 3) := by decide +kernel
theorem dX11_needsMore_46 : decode cX11_needsMore 46 = .ok (.aload_n 0, 1) := by decide +kernel
theorem dX11_needsMore_47 : decode cX11_needsMore 47 = .ok (.iload_n 1, 1) := by decide +kernel
theorem dX11_needsMore_48 : decode cX11_needsMore 48 = .ok (.iload_n 2, 1) := by decide +kernel
theorem dX11_needsMore_49 : decode cX11_needsMore 49 = .ok (.iload 4, 2) := by decide +kernel
theorem dX11_needsMore_51 : decode cX11_needsMore 51 = .ok (.invokevirtual 138, 3) := by decide +kernel
theorem dX11_needsMore_54 : decode cX11_needsMore 54 = .ok (.ifCond .eq 59, 3) := by decide +kernel
theorem dX11_needsMore_57 : decode cX11_needsMore 57 = .ok (.iload_n 3, 1) := by decide +kernel
theorem dX11_needsMore_58 : decode cX11_needsMore 58 = .ok (.ifCond .ne 49, 3) := by decide +kernel
theorem dX11_needsMore_61 : decode cX11_needsMore 61 = .ok (.aload_n 0, 1) := by decide +kernel
theorem dX11_needsMore_62 : decode cX11_needsMore 62 = .ok (.getfield 20, 3) := by decide +kernel
theorem dX11_needsMore_65 : decode cX11_needsMore 65 = .ok (.iload_n 1, 1) := by decide +kernel
theorem dX11_needsMore_66 : decode cX11_needsMore 66 = .ok (.iaload, 1) := by decide +kernel
theorem dX11_needsMore_67 : decode cX11_needsMore 67 = .ok (.iconst 1, 1) := by decide +kernel
theorem dX11_needsMore_68 : decode cX11_needsMore 68 = .ok (.if_icmp .ne 15, 3) := by decide +kernel
theorem dX11_needsMore_71 : decode cX11_needsMore 71 = .ok (.aload_n 0, 1) := by decide +kernel
theorem dX11_needsMore_72 : decode cX11_needsMore 72 = .ok (.iload 4, 2) := by decide +kernel
theorem dX11_needsMore_74 : decode cX11_needsMore 74 = .ok (.invokevirtual 131, 3) := by decide +kernel
theorem dX11_needsMore_77 : decode cX11_needsMore 77 = .ok (.ifCond .eq 34, 3) := by decide +kernel
theorem dX11_needsMore_80 : decode cX11_needsMore 80 = .ok (.goto 27, 3) := by decide +kernel
theorem dX11_needsMore_83 : decode cX11_needsMore 83 = .ok (.aload_n 0, 1) := by decide +kernel
theorem dX11_needsMore_84 : decode cX11_needsMore 84 = .ok (.iload 4, 2) := by decide +kernel
theorem dX11_needsMore_86 : decode cX11_needsMore 86 = .ok (.aload_n 0, 1) := by decide +kernel
theorem dX11_needsMore_87 : decode cX11_needsMore 87 = .ok (.getfield 20, 3) := by decide +kernel
theorem dX11_needsMore_90 : decode cX11_needsMore 90 = .ok (.iload_n 1, 1) := by decide +kernel
theorem dX11_needsMore_91 : decode cX11_needsMore 91 = .ok (.iaload, 1) := by decide +kernel
theorem dX11_needsMore_92 : decode cX11_needsMore 92 = .ok (.iconst 2, 1) := by decide +kernel
theorem dX11_needsMore_93 : decode cX11_needsMore 93 = .ok (.if_icmp .ne 7, 3) := by decide +kernel
theorem dX11_needsMore_96 : decode cX11_needsMore 96 = .ok (.iconst 2, 1) := by decide +kernel
theorem dX11_needsMore_97 : decode cX11_needsMore 97 = .ok (.goto 4, 3) := by decide +kernel
theorem dX11_needsMore_100 : decode cX11_needsMore 100 = .ok (.iconst 3, 1) := by decide +kernel
theorem dX11_needsMore_101 : decode cX11_needsMore 101 = .ok (.invokevirtual 145, 3) := by decide +kernel
theorem dX11_needsMore_104 : decode cX11_needsMore 104 = .ok (.ifCond .eq 7, 3) := by decide +kernel
theorem dX11_needsMore_107 : decode cX11_needsMore 107 = .ok (.iconst 1, 1) := by decide +kernel
theorem dX11_needsMore_108 : decode cX11_needsMore 108 = .ok (.goto 4, 3) := by decide +kernel
theorem dX11_needsMore_111 : decode cX11_needsMore 111 = .ok (.iconst 0, 1) := by decide +kernel
theorem dX11_needsMore_112 : decode cX11_needsMore 112 = .ok (.istore_n 3, 1) := by decide +kernel
theorem dX11_needsMore_113 : decode cX11_needsMore 113 = .ok (.iinc 4 1, 3) := by decide +kernel
theorem dX11_needsMore_116 : decode cX11_needsMore 116 = .ok (.goto (-98), 3) := by decide +kernel
theorem dX11_needsMore_119 : decode cX11_needsMore 119 = .ok (.aload_n 0, 1) := by decide +kernel
theorem dX11_needsMore_120 : decode cX11_needsMore 120 = .ok (.getfield 20, 3) := by decide +kernel
theorem dX11_needsMore_123 : decode cX11_needsMore 123 = .ok (.iload_n 1, 1) := by decide +kernel
theorem dX11_needsMore_124 : decode cX11_needsMore 124 = .ok (.iaload, 1) := by decide +kernel
theorem dX11_needsMore_125 : decode cX11_needsMore 125 = .ok (.iconst 4, 1) := by decide +kernel
theorem dX11_needsMore_126 : decode cX11_needsMore 126 = .ok (.if_icmp .ne 12, 3) := by decide +kernel
theorem dX11_needsMore_129 : decode cX11_needsMore 129 = .ok (.aload_n 0, 1) := by decide +kernel
theorem dX11_needsMore_130 : decode cX11_needsMore 130 = .ok (.iload_n 1, 1) := by decide +kernel
theorem dX11_needsMore_131 : decode cX11_needsMore 131 = .ok (.iconst 0, 1) := by decide +kernel
theorem dX11_needsMore_132 : decode cX11_needsMore 132 = .ok (.invokevirtual 149, 3) := by decide +kernel
theorem dX11_needsMore_135 : decode cX11_needsMore 135 = .ok (.goto 12, 3) := by decide +kernel
theorem dX11_needsMore_138 : decode cX11_needsMore 138 = .ok (.iload_n 3, 1) := by decide +kernel
theorem dX11_needsMore_139 : decode cX11_needsMore 139 = .ok (.ifCond .ne 7, 3) := by decide +kernel
theorem dX11_needsMore_142 : decode cX11_needsMore 142 = .ok (.iconst 1, 1) := by decide +kernel
theorem dX11_needsMore_143 : decode cX11_needsMore 143 = .ok (.goto 4, 3) := by decide +kernel
theorem dX11_needsMore_146 : decode cX11_needsMore 146 = .ok (.iconst 0, 1) := by decide +kernel
theorem dX11_needsMore_147 : decode cX11_needsMore 147 = .ok (.ireturn, 1) := by decide +kernel
theorem dX11_hasFellow_0 : decode cX11_hasFellow 0 = .ok (.iconst 0, 1) := by decide +kernel
theorem dX11_hasFellow_1 : decode cX11_hasFellow 1 = .ok (.istore_n 3, 1) := by decide +kernel
theorem dX11_hasFellow_2 : decode cX11_hasFellow 2 = .ok (.iload_n 3, 1) := by decide +kernel
theorem dX11_hasFellow_3 : decode cX11_hasFellow 3 = .ok (.aload_n 0, 1) := by decide +kernel
theorem dX11_hasFellow_4 : decode cX11_hasFellow 4 = .ok (.getfield 121, 3) := by decide +kernel
theorem dX11_hasFellow_7 : decode cX11_hasFellow 7 = .ok (.if_icmp .ge 70, 3) := by decide +kernel
theorem dX11_hasFellow_10 : decode cX11_hasFellow 10 = .ok (.iload_n 3, 1) := by decide +kernel
theorem dX11_hasFellow_11 : decode cX11_hasFellow 11 = .ok (.iload_n 1, 1) := by decide +kernel
theorem dX11_hasFellow_12 : decode cX11_hasFellow 12 = .ok (.if_icmp .eq 59, 3) := by decide +kernel
theorem dX11_hasFellow_15 : decode cX11_hasFellow 15 = .ok (.aload_n 0, 1) := by decide +kernel
theorem dX11_hasFellow_16 : decode cX11_hasFellow 16 = .ok (.getfield 38, 3) := by decide +kernel
theorem dX11_hasFellow_19 : decode cX11_hasFellow 19 = .ok (.iload_n 3, 1) := by decide +kernel
theorem dX11_hasFellow_20 : decode cX11_hasFellow 20 = .ok (.iaload, 1) := by decide +kernel
theorem dX11_hasFellow_21 : decode cX11_hasFellow 21 = .ok (.iconst (-1), 1) := by decide +kernel
theorem dX11_hasFellow_22 : decode cX11_hasFellow 22 = .ok (.if_icmp .eq 49, 3) := by decide +kernel
theorem dX11_hasFellow_25 : decode cX11_hasFellow 25 = .ok (.aload_n 0, 1) := by decide +kernel
theorem dX11_hasFellow_26 : decode cX11_hasFellow 26 = .ok (.getfield 23, 3) := by decide +kernel
theorem dX11_hasFellow_29 : decode cX11_hasFellow 29 = .ok (.iload_n 3, 1) := by decide +kernel
theorem dX11_hasFellow_30 : decode cX11_hasFellow 30 = .ok (.iaload, 1) := by decide +kernel
theorem dX11_hasFellow_31 : decode cX11_hasFellow 31 = .ok (.aload_n 0, 1) := by decide +kernel
theorem dX11_hasFellow_32 : decode cX11_hasFellow 32 = .ok (.getfield 23, 3) := by decide +kernel
theorem dX11_hasFellow_35 : decode cX11_hasFellow 35 = .ok (.iload_n 1, 1) := by decide +kernel
theorem dX11_hasFellow_36 : decode cX11_hasFellow 36 = .ok (.iaload, 1) := by decide +kernel
theorem dX11_hasFellow_37 : decode cX11_hasFellow 37 = .ok (.if_icmp .ne 34, 3) := by decide +kernel
theorem dX11_hasFellow_40 : decode cX11_hasFellow 40 = .ok (.aload_n 0, 1) := by decide +kernel
theorem dX11_hasFellow_41 : decode cX11_hasFellow 41 = .ok (.getfield 26, 3) := by decide +kernel
theorem dX11_hasFellow_44 : decode cX11_hasFellow 44 = .ok (.iload_n 3, 1) := by decide +kernel
theorem dX11_hasFellow_45 : decode cX11_hasFellow 45 = .ok (.iaload, 1) := by decide +kernel
theorem dX11_hasFellow_46 : decode cX11_hasFellow 46 = .ok (.aload_n 0, 1) := by decide +kernel
theorem dX11_hasFellow_47 : decode cX11_hasFellow 47 = .ok (.getfield 26, 3) := by decide +kernel
theorem dX11_hasFellow_50 : decode cX11_hasFellow 50 = .ok (.iload_n 1, 1) := by decide +kernel
theorem dX11_hasFellow_51 : decode cX11_hasFellow 51 = .ok (.iaload, 1) := by decide +kernel
theorem dX11_hasFellow_52 : decode cX11_hasFellow 52 = .ok (.if_icmp .ne 19, 3) := by decide +kernel
theorem dX11_hasFellow_55 : decode cX11_hasFellow 55 = .ok (.iload_n 2, 1) := by decide +kernel
theorem dX11_hasFellow_56 : decode cX11_hasFellow 56 = .ok (.ifCond .eq 13, 3) := by decide +kernel
theorem dX11_hasFellow_59 : decode cX11_hasFellow 59 = .ok (.aload_n 0, 1) := by decide +kernel
theorem dX11_hasFellow_60 : decode cX11_hasFellow 60 = .ok (.getfield 20, 3) := by decide +kernel
theorem dX11_hasFellow_63 : decode cX11_hasFellow 63 = .ok (.iload_n 3, 1) := by decide +kernel
theorem dX11_hasFellow_64 : decode cX11_hasFellow 64 = .ok (.iaload, 1) := by decide +kernel
theorem dX11_hasFellow_65 : decode cX11_hasFellow 65 = .ok (.iconst 4, 1) := by decide +kernel
theorem dX11_hasFellow_66 : decode cX11_hasFellow 66 = .ok (.if_icmp .ne 5, 3) := by decide +kernel
theorem dX11_hasFellow_69 : decode cX11_hasFellow 69 = .ok (.iconst 1, 1) := by decide +kernel
theorem dX11_hasFellow_70 : decode cX11_hasFellow 70 = .ok (.ireturn, 1) := by decide +kernel
theorem dX11_hasFellow_71 : decode cX11_hasFellow 71 = .ok (.iinc 3 1, 3) := by decide +kernel
theorem dX11_hasFellow_74 : decode cX11_hasFellow 74 = .ok (.goto (-72), 3) := by decide +kernel
theorem dX11_hasFellow_77 : decode cX11_hasFellow 77 = .ok (.iconst 0, 1) := by decide +kernel
theorem dX11_hasFellow_78 : decode cX11_hasFellow 78 = .ok (.ireturn, 1) := by decide +kernel
theorem dX11_hindered_0 : decode cX11_hindered 0 = .ok (.iload_n 2, 1) := by decide +kernel
theorem dX11_hindered_1 : decode cX11_hindered 1 = .ok (.aload_n 0, 1) := by decide +kernel
theorem dX11_hindered_2 : decode cX11_hindered 2 = .ok (.getfield 111, 3) := by decide +kernel
theorem dX11_hindered_5 : decode cX11_hindered 5 = .ok (.irem, 1) := by decide +kernel
theorem dX11_hindered_6 : decode cX11_hindered 6 = .ok (.aload_n 0, 1) := by decide +kernel
theorem dX11_hindered_7 : decode cX11_hindered 7 = .ok (.getfield 29, 3) := by decide +kernel
theorem dX11_hindered_10 : decode cX11_hindered 10 = .ok (.iload_n 1, 1) := by decide +kernel
theorem dX11_hindered_11 : decode cX11_hindered 11 = .ok (.iaload, 1) := by decide +kernel
theorem dX11_hindered_12 : decode cX11_hindered 12 = .ok (.iadd, 1) := by decide +kernel
theorem dX11_hindered_13 : decode cX11_hindered 13 = .ok (.aload_n 0, 1) := by decide +kernel
theorem dX11_hindered_14 : decode cX11_hindered 14 = .ok (.getfield 111, 3) := by decide +kernel
theorem dX11_hindered_17 : decode cX11_hindered 17 = .ok (.if_icmp .gt 23, 3) := by decide +kernel
theorem dX11_hindered_20 : decode cX11_hindered 20 = .ok (.iload_n 2, 1) := by decide +kernel
theorem dX11_hindered_21 : decode cX11_hindered 21 = .ok (.aload_n 0, 1) := by decide +kernel
theorem dX11_hindered_22 : decode cX11_hindered 22 = .ok (.getfield 111, 3) := by decide +kernel
theorem dX11_hindered_25 : decode cX11_hindered 25 = .ok (.idiv, 1) := by decide +kernel
theorem dX11_hindered_26 : decode cX11_hindered 26 = .ok (.aload_n 0, 1) := by decide +kernel
theorem dX11_hindered_27 : decode cX11_hindered 27 = .ok (.getfield 32, 3) := by decide +kernel
theorem dX11_hindered_30 : decode cX11_hindered 30 = .ok (.iload_n 1, 1) := by decide +kernel
theorem dX11_hindered_31 : decode cX11_hindered 31 = .ok (.iaload, 1) := by decide +kernel
theorem dX11_hindered_32 : decode cX11_hindered 32 = .ok (.iadd, 1) := by decide +kernel
theorem dX11_hindered_33 : decode cX11_hindered 33 = .ok (.aload_n 0, 1) := by decide +kernel
theorem dX11_hindered_34 : decode cX11_hindered 34 = .ok (.getfield 114, 3) := by decide +kernel
theorem dX11_hindered_37 : decode cX11_hindered 37 = .ok (.if_icmp .le 5, 3) := by decide +kernel
theorem dX11_hindered_40 : decode cX11_hindered 40 = .ok (.iconst 1, 1) := by decide +kernel
theorem dX11_hindered_41 : decode cX11_hindered 41 = .ok (.ireturn, 1) := by decide +kernel
theorem dX11_hindered_42 : decode cX11_hindered 42 = .ok (.iconst 0, 1) := by decide +kernel
theorem dX11_hindered_43 : decode cX11_hindered 43 = .ok (.istore_n 3, 1) := by decide +kernel
theorem dX11_hindered_44 : decode cX11_hindered 44 = .ok (.iconst 0, 1) := by decide +kernel
theorem dX11_hindered_45 : decode cX11_hindered 45 = .ok (.istore 4, 2) := by decide +kernel
theorem dX11_hindered_47 : decode cX11_hindered 47 = .ok (.iconst 0, 1) := by decide +kernel
theorem dX11_hindered_48 : decode cX11_hindered 48 = .ok (.istore 5, 2) := by decide +kernel
theorem dX11_hindered_50 : decode cX11_hindered 50 = .ok (.iconst 0, 1) := by decide +kernel
theorem dX11_hindered_51 : decode cX11_hindered 51 = .ok (.istore 6, 2) := by decide +kernel
theorem dX11_hindered_53 : decode cX11_hindered 53 = .ok (.iconst 0, 1) := by decide +kernel
theorem dX11_hindered_54 : decode cX11_hindered 54 = .ok (.istore 7, 2) := by decide +kernel
theorem dX11_hindered_56 : decode cX11_hindered 56 = .ok (.iload 7, 2) := by decide +kernel
theorem dX11_hindered_58 : decode cX11_hindered 58 = .ok (.aload_n 0, 1) := by decide +kernel
theorem dX11_hindered_59 : decode cX11_hindered 59 = .ok (.getfield 111, 3) := by decide +kernel
theorem dX11_hindered_62 : decode cX11_hindered 62 = .ok (.aload_n 0, 1) := by decide +kernel
theorem dX11_hindered_63 : decode cX11_hindered 63 = .ok (.getfield 114, 3) := by decide +kernel
theorem dX11_hindered_66 : decode cX11_hindered 66 = .ok (.imul, 1) := by decide +kernel
theorem dX11_hindered_67 : decode cX11_hindered 67 = .ok (.if_icmp .ge 95, 3) := by decide +kernel
theorem dX11_hindered_70 : decode cX11_hindered 70 = .ok (.aload_n 0, 1) := by decide +kernel
theorem dX11_hindered_71 : decode cX11_hindered 71 = .ok (.iload_n 1, 1) := by decide +kernel
theorem dX11_hindered_72 : decode cX11_hindered 72 = .ok (.iload_n 2, 1) := by decide +kernel
theorem dX11_hindered_73 : decode cX11_hindered 73 = .ok (.iload 7, 2) := by decide +kernel
theorem dX11_hindered_75 : decode cX11_hindered 75 = .ok (.invokevirtual 138, 3) := by decide +kernel
theorem dX11_hindered_78 : decode cX11_hindered 78 = .ok (.ifCond .eq 78, 3) := by decide +kernel
theorem dX11_hindered_81 : decode cX11_hindered 81 = .ok (.aload_n 0, 1) := by decide +kernel
theorem dX11_hindered_82 : decode cX11_hindered 82 = .ok (.iload_n 1, 1) := by decide +kernel
theorem dX11_hindered_83 : decode cX11_hindered 83 = .ok (.iload 7, 2) := by decide +kernel
theorem dX11_hindered_85 : decode cX11_hindered 85 = .ok (.invokevirtual 153, 3) := by decide +kernel
theorem dX11_hindered_88 : decode cX11_hindered 88 = .ok (.istore 8, 2) := by decide +kernel
theorem dX11_hindered_90 : decode cX11_hindered 90 = .ok (.iload_n 3, 1) := by decide +kernel
theorem dX11_hindered_91 : decode cX11_hindered 91 = .ok (.ifCond .ne 13, 3) := by decide +kernel
theorem dX11_hindered_94 : decode cX11_hindered 94 = .ok (.aload_n 0, 1) := by decide +kernel
theorem dX11_hindered_95 : decode cX11_hindered 95 = .ok (.getfield 7, 3) := by decide +kernel
theorem dX11_hindered_98 : decode cX11_hindered 98 = .ok (.iload 7, 2) := by decide +kernel
theorem dX11_hindered_100 : decode cX11_hindered 100 = .ok (.iaload, 1) := by decide +kernel
theorem dX11_hindered_101 : decode cX11_hindered 101 = .ok (.ifCond .eq 7, 3) := by decide +kernel
theorem dX11_hindered_104 : decode cX11_hindered 104 = .ok (.iconst 1, 1) := by decide +kernel
theorem dX11_hindered_105 : decode cX11_hindered 105 = .ok (.goto 4, 3) := by decide +kernel
theorem dX11_hindered_108 : decode cX11_hindered 108 = .ok (.iconst 0, 1) := by decide +kernel
theorem dX11_hindered_109 : decode cX11_hindered 109 = .ok (.istore_n 3, 1) := by decide +kernel
theorem dX11_hindered_110 : decode cX11_hindered 110 = .ok (.iload 4, 2) := by decide +kernel
theorem dX11_hindered_112 : decode cX11_hindered 112 = .ok (.ifCond .ne 9, 3) := by decide +kernel
theorem dX11_hindered_115 : decode cX11_hindered 115 = .ok (.iload 8, 2) := by decide +kernel
theorem dX11_hindered_117 : decode cX11_hindered 117 = .ok (.iconst (-1), 1) := by decide +kernel
theorem dX11_hindered_118 : decode cX11_hindered 118 = .ok (.if_icmp .eq 7, 3) := by decide +kernel
theorem dX11_hindered_121 : decode cX11_hindered 121 = .ok (.iconst 1, 1) := by decide +kernel
theorem dX11_hindered_122 : decode cX11_hindered 122 = .ok (.goto 4, 3) := by decide +kernel
theorem dX11_hindered_125 : decode cX11_hindered 125 = .ok (.iconst 0, 1) := by decide +kernel
theorem dX11_hindered_126 : decode cX11_hindered 126 = .ok (.istore 4, 2) := by decide +kernel
theorem dX11_hindered_128 : decode cX11_hindered 128 = .ok (.iload 6, 2) := by decide +kernel
theorem dX11_hindered_130 : decode cX11_hindered 130 = .ok (.ifCond .ne 19, 3) := by decide +kernel
theorem dX11_hindered_133 : decode cX11_hindered 133 = .ok (.aload_n 0, 1) := by decide +kernel
theorem dX11_hindered_134 : decode cX11_hindered 134 = .ok (.getfield 13, 3) := by decide +kernel
theorem dX11_hindered_137 : decode cX11_hindered 137 = .ok (.iload 7, 2) := by decide +kernel
theorem dX11_hindered_139 : decode cX11_hindered 139 = .ok (.iaload, 1) := by decide +kernel
theorem dX11_hindered_140 : decode cX11_hindered 140 = .ok (.aload_n 0, 1) := by decide +kernel
theorem dX11_hindered_141 : decode cX11_hindered 141 = .ok (.getfield 35, 3) := by decide +kernel
theorem dX11_hindered_144 : decode cX11_hindered 144 = .ok (.iload_n 1, 1) := by decide +kernel
theorem dX11_hindered_145 : decode cX11_hindered 145 = .ok (.iaload, 1) := by decide +kernel
theorem dX11_hindered_146 : decode cX11_hindered 146 = .ok (.if_icmp .ge 7, 3) := by decide +kernel
theorem dX11_hindered_149 : decode cX11_hindered 149 = .ok (.iconst 1, 1) := by decide +kernel
theorem dX11_hindered_150 : decode cX11_hindered 150 = .ok (.goto 4, 3) := by decide +kernel
theorem dX11_hindered_153 : decode cX11_hindered 153 = .ok (.iconst 0, 1) := by decide +kernel
theorem dX11_hindered_154 : decode cX11_hindered 154 = .ok (.istore 6, 2) := by decide +kernel
theorem dX11_hindered_156 : decode cX11_hindered 156 = .ok (.iinc 7 1, 3) := by decide +kernel
theorem dX11_hindered_159 : decode cX11_hindered 159 = .ok (.goto (-103), 3) := by decide +kernel
theorem dX11_hindered_162 : decode cX11_hindered 162 = .ok (.iconst 0, 1) := by decide +kernel
theorem dX11_hindered_163 : decode cX11_hindered 163 = .ok (.istore 7, 2) := by decide +kernel
theorem dX11_hindered_165 : decode cX11_hindered 165 = .ok (.iload 7, 2) := by decide +kernel
theorem dX11_hindered_167 : decode cX11_hindered 167 = .ok (.aload_n 0, 1) := by decide +kernel
theorem dX11_hindered_168 : decode cX11_hindered 168 = .ok (.getfield 121, 3) := by decide +kernel
theorem dX11_hindered_171 : decode cX11_hindered 171 = .ok (.if_icmp .ge 65, 3) := by decide +kernel
theorem dX11_hindered_174 : decode cX11_hindered 174 = .ok (.iload 5, 2) := by decide +kernel
theorem dX11_hindered_176 : decode cX11_hindered 176 = .ok (.ifCond .ne 47, 3) := by decide +kernel
theorem dX11_hindered_179 : decode cX11_hindered 179 = .ok (.iload 7, 2) := by decide +kernel
theorem dX11_hindered_181 : decode cX11_hindered 181 = .ok (.iload_n 1, 1) := by decide +kernel
theorem dX11_hindered_182 : decode cX11_hindered 182 = .ok (.if_icmp .eq 45, 3) := by decide +kernel
theorem dX11_hindered_185 : decode cX11_hindered 185 = .ok (.aload_n 0, 1) := by decide +kernel
theorem dX11_hindered_186 : decode cX11_hindered 186 = .ok (.getfield 38, 3) := by decide +kernel
theorem dX11_hindered_189 : decode cX11_hindered 189 = .ok (.iload 7, 2) := by decide +kernel
theorem dX11_hindered_191 : decode cX11_hindered 191 = .ok (.iaload, 1) := by decide +kernel
theorem dX11_hindered_192 : decode cX11_hindered 192 = .ok (.iconst (-1), 1) := by decide +kernel
theorem dX11_hindered_193 : decode cX11_hindered 193 = .ok (.if_icmp .eq 34, 3) := by decide +kernel
theorem dX11_hindered_196 : decode cX11_hindered 196 = .ok (.aload_n 0, 1) := by decide +kernel
theorem dX11_hindered_197 : decode cX11_hindered 197 = .ok (.getfield 26, 3) := by decide +kernel
theorem dX11_hindered_200 : decode cX11_hindered 200 = .ok (.iload 7, 2) := by decide +kernel
theorem dX11_hindered_202 : decode cX11_hindered 202 = .ok (.iaload, 1) := by decide +kernel
theorem dX11_hindered_203 : decode cX11_hindered 203 = .ok (.aload_n 0, 1) := by decide +kernel
theorem dX11_hindered_204 : decode cX11_hindered 204 = .ok (.getfield 26, 3) := by decide +kernel
theorem dX11_hindered_207 : decode cX11_hindered 207 = .ok (.iload_n 1, 1) := by decide +kernel
theorem dX11_hindered_208 : decode cX11_hindered 208 = .ok (.iaload, 1) := by decide +kernel
theorem dX11_hindered_209 : decode cX11_hindered 209 = .ok (.if_icmp .eq 18, 3) := by decide +kernel
theorem dX11_hindered_212 : decode cX11_hindered 212 = .ok (.aload_n 0, 1) := by decide +kernel
theorem dX11_hindered_213 : decode cX11_hindered 213 = .ok (.iload_n 1, 1) := by decide +kernel
theorem dX11_hindered_214 : decode cX11_hindered 214 = .ok (.iload_n 2, 1) := by decide +kernel
theorem dX11_hindered_215 : decode cX11_hindered 215 = .ok (.iload 7, 2) := by decide +kernel
theorem dX11_hindered_217 : decode cX11_hindered 217 = .ok (.invokevirtual 157, 3) := by decide +kernel
theorem dX11_hindered_220 : decode cX11_hindered 220 = .ok (.ifCond .eq 7, 3) := by decide +kernel
theorem dX11_hindered_223 : decode cX11_hindered 223 = .ok (.iconst 1, 1) := by decide +kernel
theorem dX11_hindered_224 : decode cX11_hindered 224 = .ok (.goto 4, 3) := by decide +kernel
theorem dX11_hindered_227 : decode cX11_hindered 227 = .ok (.iconst 0, 1) := by decide +kernel
theorem dX11_hindered_228 : decode cX11_hindered 228 = .ok (.istore 5, 2) := by decide +kernel
theorem dX11_hindered_230 : decode cX11_hindered 230 = .ok (.iinc 7 1, 3) := by decide +kernel
theorem dX11_hindered_233 : decode cX11_hindered 233 = .ok (.goto (-68), 3) := by decide +kernel
theorem dX11_hindered_236 : decode cX11_hindered 236 = .ok (.iload_n 3, 1) := by decide +kernel
theorem dX11_hindered_237 : decode cX11_hindered 237 = .ok (.ifCond .eq 7, 3) := by decide +kernel
theorem dX11_hindered_240 : decode cX11_hindered 240 = .ok (.iconst 2, 1) := by decide +kernel
theorem dX11_hindered_241 : decode cX11_hindered 241 = .ok (.goto 59, 3) := by decide +kernel
theorem dX11_hindered_244 : decode cX11_hindered 244 = .ok (.iload 4, 2) := by decide +kernel
theorem dX11_hindered_246 : decode cX11_hindered 246 = .ok (.ifCond .eq 7, 3) := by decide +kernel
theorem dX11_hindered_249 : decode cX11_hindered 249 = .ok (.iconst 3, 1) := by decide +kernel
theorem dX11_hindered_250 : decode cX11_hindered 250 = .ok (.goto 50, 3) := by decide +kernel
theorem dX11_hindered_253 : decode cX11_hindered 253 = .ok (.iload 5, 2) := by decide +kernel
theorem dX11_hindered_255 : decode cX11_hindered 255 = .ok (.ifCond .eq 7, 3) := by decide +kernel
theorem dX11_hindered_258 : decode cX11_hindered 258 = .ok (.iconst 4, 1) := by decide +kernel
theorem dX11_hindered_259 : decode cX11_hindered 259 = .ok (.goto 41, 3) := by decide +kernel
theorem dX11_hindered_262 : decode cX11_hindered 262 = .ok (.iload 6, 2) := by decide +kernel
theorem dX11_hindered_264 : decode cX11_hindered 264 = .ok (.ifCond .eq 7, 3) := by decide +kernel
theorem dX11_hindered_267 : decode cX11_hindered 267 = .ok (.iconst 5, 1) := by decide +kernel
theorem dX11_hindered_268 : decode cX11_hindered 268 = .ok (.goto 32, 3) := by decide +kernel
theorem dX11_hindered_271 : decode cX11_hindered 271 = .ok (.aload_n 0, 1) := by decide +kernel
theorem dX11_hindered_272 : decode cX11_hindered 272 = .ok (.iload_n 1, 1) := by decide +kernel
theorem dX11_hindered_273 : decode cX11_hindered 273 = .ok (.iload_n 2, 1) := by decide +kernel
theorem dX11_hindered_274 : decode cX11_hindered 274 = .ok (.invokevirtual 160, 3) := by decide +kernel
theorem dX11_hindered_277 : decode cX11_hindered 277 = .ok (.ifCond .eq 8, 3) := by decide +kernel
theorem dX11_hindered_280 : decode cX11_hindered 280 = .ok (.bipush 6, 2) := by decide +kernel
theorem dX11_hindered_282 : decode cX11_hindered 282 = .ok (.goto 18, 3) := by decide +kernel
theorem dX11_hindered_285 : decode cX11_hindered 285 = .ok (.aload_n 0, 1) := by decide +kernel
theorem dX11_hindered_286 : decode cX11_hindered 286 = .ok (.iload_n 1, 1) := by decide +kernel
theorem dX11_hindered_287 : decode cX11_hindered 287 = .ok (.iconst 1, 1) := by decide +kernel
theorem dX11_hindered_288 : decode cX11_hindered 288 = .ok (.invokevirtual 149, 3) := by decide +kernel
theorem dX11_hindered_291 : decode cX11_hindered 291 = .ok (.ifCond .eq 8, 3) := by decide +kernel
theorem dX11_hindered_294 : decode cX11_hindered 294 = .ok (.bipush 7, 2) := by decide +kernel
theorem dX11_hindered_296 : decode cX11_hindered 296 = .ok (.goto 4, 3) := by decide +kernel
theorem dX11_hindered_299 : decode cX11_hindered 299 = .ok (.iconst 0, 1) := by decide +kernel
theorem dX11_hindered_300 : decode cX11_hindered 300 = .ok (.ireturn, 1) := by decide +kernel
theorem dX11_otherOn_0 : decode cX11_otherOn 0 = .ok (.iconst 0, 1) := by decide +kernel
theorem dX11_otherOn_1 : decode cX11_otherOn 1 = .ok (.istore_n 3, 1) := by decide +kernel
theorem dX11_otherOn_2 : decode cX11_otherOn 2 = .ok (.iload_n 3, 1) := by decide +kernel
theorem dX11_otherOn_3 : decode cX11_otherOn 3 = .ok (.aload_n 0, 1) := by decide +kernel
theorem dX11_otherOn_4 : decode cX11_otherOn 4 = .ok (.getfield 121, 3) := by decide +kernel
theorem dX11_otherOn_7 : decode cX11_otherOn 7 = .ok (.if_icmp .ge 41, 3) := by decide +kernel
theorem dX11_otherOn_10 : decode cX11_otherOn 10 = .ok (.iload_n 3, 1) := by decide +kernel
theorem dX11_otherOn_11 : decode cX11_otherOn 11 = .ok (.iload_n 1, 1) := by decide +kernel
theorem dX11_otherOn_12 : decode cX11_otherOn 12 = .ok (.if_icmp .eq 30, 3) := by decide +kernel
theorem dX11_otherOn_15 : decode cX11_otherOn 15 = .ok (.aload_n 0, 1) := by decide +kernel
theorem dX11_otherOn_16 : decode cX11_otherOn 16 = .ok (.getfield 38, 3) := by decide +kernel
theorem dX11_otherOn_19 : decode cX11_otherOn 19 = .ok (.iload_n 3, 1) := by decide +kernel
theorem dX11_otherOn_20 : decode cX11_otherOn 20 = .ok (.iaload, 1) := by decide +kernel
theorem dX11_otherOn_21 : decode cX11_otherOn 21 = .ok (.iconst (-1), 1) := by decide +kernel
theorem dX11_otherOn_22 : decode cX11_otherOn 22 = .ok (.if_icmp .eq 20, 3) := by decide +kernel
theorem dX11_otherOn_25 : decode cX11_otherOn 25 = .ok (.aload_n 0, 1) := by decide +kernel
theorem dX11_otherOn_26 : decode cX11_otherOn 26 = .ok (.iload_n 3, 1) := by decide +kernel
theorem dX11_otherOn_27 : decode cX11_otherOn 27 = .ok (.aload_n 0, 1) := by decide +kernel
theorem dX11_otherOn_28 : decode cX11_otherOn 28 = .ok (.getfield 38, 3) := by decide +kernel
theorem dX11_otherOn_31 : decode cX11_otherOn 31 = .ok (.iload_n 3, 1) := by decide +kernel
