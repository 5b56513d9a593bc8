theorem dX11_sight_91 : decode cX11_sight 91 = .ok (.iconst 1, 1) := by decide +kernel
theorem dX11_sight_92 : decode cX11_sight 92 = .ok (.iadd, 1) := by decide +kernel
theorem dX11_sight_93 : decode cX11_sight 93 = .ok (.putfield 269, 3) := by decide +kernel
theorem dX11_sight_96 : decode cX11_sight 96 = .ok (.aload_n 0, 1) := by decide +kernel
theorem dX11_sight_97 : decode cX11_sight 97 = .ok (.getfield 269, 3) := by decide +kernel
theorem dX11_sight_100 : decode cX11_sight 100 = .ok (.ireturn, 1) := by decide +kernel
theorem dX11_walks_0 : decode cX11_walks 0 = .ok (.aload_n 0, 1) := by decide +kernel
theorem dX11_walks_1 : decode cX11_walks 1 = .ok (.getfield 108, 3) := by decide +kernel
theorem dX11_walks_4 : decode cX11_walks 4 = .ok (.iload_n 1, 1) := by decide +kernel
theorem dX11_walks_5 : decode cX11_walks 5 = .ok (.iaload, 1) := by decide +kernel
theorem dX11_walks_6 : decode cX11_walks 6 = .ok (.iconst (-1), 1) := by decide +kernel
theorem dX11_walks_7 : decode cX11_walks 7 = .ok (.if_icmp .ne 59, 3) := by decide +kernel
theorem dX11_walks_10 : decode cX11_walks 10 = .ok (.aload_n 0, 1) := by decide +kernel
theorem dX11_walks_11 : decode cX11_walks 11 = .ok (.getfield 7, 3) := by decide +kernel
theorem dX11_walks_14 : decode cX11_walks 14 = .ok (.iload_n 1, 1) := by decide +kernel
theorem dX11_walks_15 : decode cX11_walks 15 = .ok (.iaload, 1) := by decide +kernel
theorem dX11_walks_16 : decode cX11_walks 16 = .ok (.iconst 2, 1) := by decide +kernel
theorem dX11_walks_17 : decode cX11_walks 17 = .ok (.if_icmp .eq 49, 3) := by decide +kernel
theorem dX11_walks_20 : decode cX11_walks 20 = .ok (.aload_n 0, 1) := by decide +kernel
theorem dX11_walks_21 : decode cX11_walks 21 = .ok (.getfield 7, 3) := by decide +kernel
theorem dX11_walks_24 : decode cX11_walks 24 = .ok (.iload_n 1, 1) := by decide +kernel
theorem dX11_walks_25 : decode cX11_walks 25 = .ok (.iaload, 1) := by decide +kernel
theorem dX11_walks_26 : decode cX11_walks 26 = .ok (.iconst 3, 1) := by decide +kernel
theorem dX11_walks_27 : decode cX11_walks 27 = .ok (.if_icmp .eq 39, 3) := by decide +kernel
theorem dX11_walks_30 : decode cX11_walks 30 = .ok (.aload_n 0, 1) := by decide +kernel
theorem dX11_walks_31 : decode cX11_walks 31 = .ok (.iload_n 1, 1) := by decide +kernel
theorem dX11_walks_32 : decode cX11_walks 32 = .ok (.invokevirtual 176, 3) := by decide +kernel
theorem dX11_walks_35 : decode cX11_walks 35 = .ok (.iconst (-1), 1) := by decide +kernel
theorem dX11_walks_36 : decode cX11_walks 36 = .ok (.if_icmp .ne 30, 3) := by decide +kernel
theorem dX11_walks_39 : decode cX11_walks 39 = .ok (.aload_n 0, 1) := by decide +kernel
theorem dX11_walks_40 : decode cX11_walks 40 = .ok (.getfield 108, 3) := by decide +kernel
theorem dX11_walks_43 : decode cX11_walks 43 = .ok (.iload_n 1, 1) := by decide +kernel
theorem dX11_walks_44 : decode cX11_walks 44 = .ok (.iload_n 2, 1) := by decide +kernel
theorem dX11_walks_45 : decode cX11_walks 45 = .ok (.iastore, 1) := by decide +kernel
theorem dX11_walks_46 : decode cX11_walks 46 = .ok (.aload_n 0, 1) := by decide +kernel
theorem dX11_walks_47 : decode cX11_walks 47 = .ok (.getfield 96, 3) := by decide +kernel
theorem dX11_walks_50 : decode cX11_walks 50 = .ok (.aload_n 0, 1) := by decide +kernel
theorem dX11_walks_51 : decode cX11_walks 51 = .ok (.getfield 192, 3) := by decide +kernel
theorem dX11_walks_54 : decode cX11_walks 54 = .ok (.iload_n 1, 1) := by decide +kernel
theorem dX11_walks_55 : decode cX11_walks 55 = .ok (.iastore, 1) := by decide +kernel
theorem dX11_walks_56 : decode cX11_walks 56 = .ok (.aload_n 0, 1) := by decide +kernel
theorem dX11_walks_57 : decode cX11_walks 57 = .ok (.dup, 1) := by decide +kernel
theorem dX11_walks_58 : decode cX11_walks 58 = .ok (.getfield 192, 3) := by decide +kernel
theorem dX11_walks_61 : decode cX11_walks 61 = .ok (.iconst 1, 1) := by decide +kernel
theorem dX11_walks_62 : decode cX11_walks 62 = .ok (.iadd, 1) := by decide +kernel
theorem dX11_walks_63 : decode cX11_walks 63 = .ok (.putfield 192, 3) := by decide +kernel
theorem dX11_walks_66 : decode cX11_walks 66 = .ok (.return_, 1) := by decide +kernel
theorem dX11_looks_0 : decode cX11_looks 0 = .ok (.iconst 0, 1) := by decide +kernel
theorem dX11_looks_1 : decode cX11_looks 1 = .ok (.istore_n 1, 1) := by decide +kernel
theorem dX11_looks_2 : decode cX11_looks 2 = .ok (.iload_n 1, 1) := by decide +kernel
theorem dX11_looks_3 : decode cX11_looks 3 = .ok (.bipush 64, 2) := by decide +kernel
theorem dX11_looks_5 : decode cX11_looks 5 = .ok (.if_icmp .ge 16, 3) := by decide +kernel
theorem dX11_looks_8 : decode cX11_looks 8 = .ok (.aload_n 0, 1) := by decide +kernel
theorem dX11_looks_9 : decode cX11_looks 9 = .ok (.getfield 108, 3) := by decide +kernel
theorem dX11_looks_12 : decode cX11_looks 12 = .ok (.iload_n 1, 1) := by decide +kernel
theorem dX11_looks_13 : decode cX11_looks 13 = .ok (.iconst (-1), 1) := by decide +kernel
theorem dX11_looks_14 : decode cX11_looks 14 = .ok (.iastore, 1) := by decide +kernel
theorem dX11_looks_15 : decode cX11_looks 15 = .ok (.iinc 1 1, 3) := by decide +kernel
theorem dX11_looks_18 : decode cX11_looks 18 = .ok (.goto (-16), 3) := by decide +kernel
theorem dX11_looks_21 : decode cX11_looks 21 = .ok (.aload_n 0, 1) := by decide +kernel
theorem dX11_looks_22 : decode cX11_looks 22 = .ok (.getfield 87, 3) := by decide +kernel
theorem dX11_looks_25 : decode cX11_looks 25 = .ok (.aload_n 0, 1) := by decide +kernel
theorem dX11_looks_26 : decode cX11_looks 26 = .ok (.getfield 269, 3) := by decide +kernel
theorem dX11_looks_29 : decode cX11_looks 29 = .ok (.iconst 1, 1) := by decide +kernel
theorem dX11_looks_30 : decode cX11_looks 30 = .ok (.isub, 1) := by decide +kernel
theorem dX11_looks_31 : decode cX11_looks 31 = .ok (.iaload, 1) := by decide +kernel
theorem dX11_looks_32 : decode cX11_looks 32 = .ok (.istore_n 1, 1) := by decide +kernel
theorem dX11_looks_33 : decode cX11_looks 33 = .ok (.aload_n 0, 1) := by decide +kernel
theorem dX11_looks_34 : decode cX11_looks 34 = .ok (.getfield 108, 3) := by decide +kernel
theorem dX11_looks_37 : decode cX11_looks 37 = .ok (.iload_n 1, 1) := by decide +kernel
theorem dX11_looks_38 : decode cX11_looks 38 = .ok (.iconst 0, 1) := by decide +kernel
theorem dX11_looks_39 : decode cX11_looks 39 = .ok (.iastore, 1) := by decide +kernel
theorem dX11_looks_40 : decode cX11_looks 40 = .ok (.aload_n 0, 1) := by decide +kernel
theorem dX11_looks_41 : decode cX11_looks 41 = .ok (.getfield 96, 3) := by decide +kernel
theorem dX11_looks_44 : decode cX11_looks 44 = .ok (.iconst 0, 1) := by decide +kernel
theorem dX11_looks_45 : decode cX11_looks 45 = .ok (.iload_n 1, 1) := by decide +kernel
theorem dX11_looks_46 : decode cX11_looks 46 = .ok (.iastore, 1) := by decide +kernel
theorem dX11_looks_47 : decode cX11_looks 47 = .ok (.aload_n 0, 1) := by decide +kernel
theorem dX11_looks_48 : decode cX11_looks 48 = .ok (.iconst 1, 1) := by decide +kernel
theorem dX11_looks_49 : decode cX11_looks 49 = .ok (.putfield 192, 3) := by decide +kernel
theorem dX11_looks_52 : decode cX11_looks 52 = .ok (.iconst 0, 1) := by decide +kernel
theorem dX11_looks_53 : decode cX11_looks 53 = .ok (.istore_n 2, 1) := by decide +kernel
theorem dX11_looks_54 : decode cX11_looks 54 = .ok (.iload_n 2, 1) := by decide +kernel
theorem dX11_looks_55 : decode cX11_looks 55 = .ok (.aload_n 0, 1) := by decide +kernel
theorem dX11_looks_56 : decode cX11_looks 56 = .ok (.getfield 192, 3) := by decide +kernel
theorem dX11_looks_59 : decode cX11_looks 59 = .ok (.if_icmp .ge 115, 3) := by decide +kernel
theorem dX11_looks_62 : decode cX11_looks 62 = .ok (.aload_n 0, 1) := by decide +kernel
theorem dX11_looks_63 : decode cX11_looks 63 = .ok (.getfield 96, 3) := by decide +kernel
theorem dX11_looks_66 : decode cX11_looks 66 = .ok (.iload_n 2, 1) := by decide +kernel
theorem dX11_looks_67 : decode cX11_looks 67 = .ok (.iaload, 1) := by decide +kernel
theorem dX11_looks_68 : decode cX11_looks 68 = .ok (.istore_n 3, 1) := by decide +kernel
theorem dX11_looks_69 : decode cX11_looks 69 = .ok (.aload_n 0, 1) := by decide +kernel
theorem dX11_looks_70 : decode cX11_looks 70 = .ok (.getfield 108, 3) := by decide +kernel
theorem dX11_looks_73 : decode cX11_looks 73 = .ok (.iload_n 3, 1) := by decide +kernel
theorem dX11_looks_74 : decode cX11_looks 74 = .ok (.iaload, 1) := by decide +kernel
theorem dX11_looks_75 : decode cX11_looks 75 = .ok (.iconst 1, 1) := by decide +kernel
theorem dX11_looks_76 : decode cX11_looks 76 = .ok (.iadd, 1) := by decide +kernel
theorem dX11_looks_77 : decode cX11_looks 77 = .ok (.istore 4, 2) := by decide +kernel
theorem dX11_looks_79 : decode cX11_looks 79 = .ok (.iload_n 3, 1) := by decide +kernel
theorem dX11_looks_80 : decode cX11_looks 80 = .ok (.aload_n 0, 1) := by decide +kernel
theorem dX11_looks_81 : decode cX11_looks 81 = .ok (.getfield 111, 3) := by decide +kernel
theorem dX11_looks_84 : decode cX11_looks 84 = .ok (.irem, 1) := by decide +kernel
theorem dX11_looks_85 : decode cX11_looks 85 = .ok (.ifCond .le 12, 3) := by decide +kernel
theorem dX11_looks_88 : decode cX11_looks 88 = .ok (.aload_n 0, 1) := by decide +kernel
theorem dX11_looks_89 : decode cX11_looks 89 = .ok (.iload_n 3, 1) := by decide +kernel
theorem dX11_looks_90 : decode cX11_looks 90 = .ok (.iconst 1, 1) := by decide +kernel
theorem dX11_looks_91 : decode cX11_looks 91 = .ok (.isub, 1) := by decide +kernel
theorem dX11_looks_92 : decode cX11_looks 92 = .ok (.iload 4, 2) := by decide +kernel
theorem dX11_looks_94 : decode cX11_looks 94 = .ok (.invokevirtual 275, 3) := by decide +kernel
theorem dX11_looks_97 : decode cX11_looks 97 = .ok (.iload_n 3, 1) := by decide +kernel
theorem dX11_looks_98 : decode cX11_looks 98 = .ok (.aload_n 0, 1) := by decide +kernel
theorem dX11_looks_99 : decode cX11_looks 99 = .ok (.getfield 111, 3) := by decide +kernel
theorem dX11_looks_102 : decode cX11_looks 102 = .ok (.irem, 1) := by decide +kernel
theorem dX11_looks_103 : decode cX11_looks 103 = .ok (.aload_n 0, 1) := by decide +kernel
theorem dX11_looks_104 : decode cX11_looks 104 = .ok (.getfield 111, 3) := by decide +kernel
theorem dX11_looks_107 : decode cX11_looks 107 = .ok (.iconst 1, 1) := by decide +kernel
theorem dX11_looks_108 : decode cX11_looks 108 = .ok (.isub, 1) := by decide +kernel
theorem dX11_looks_109 : decode cX11_looks 109 = .ok (.if_icmp .ge 12, 3) := by decide +kernel
theorem dX11_looks_112 : decode cX11_looks 112 = .ok (.aload_n 0, 1) := by decide +kernel
theorem dX11_looks_113 : decode cX11_looks 113 = .ok (.iload_n 3, 1) := by decide +kernel
theorem dX11_looks_114 : decode cX11_looks 114 = .ok (.iconst 1, 1) := by decide +kernel
theorem dX11_looks_115 : decode cX11_looks 115 = .ok (.iadd, 1) := by decide +kernel
theorem dX11_looks_116 : decode cX11_looks 116 = .ok (.iload 4, 2) := by decide +kernel
theorem dX11_looks_118 : decode cX11_looks 118 = .ok (.invokevirtual 275, 3) := by decide +kernel
theorem dX11_looks_121 : decode cX11_looks 121 = .ok (.iload_n 3, 1) := by decide +kernel
theorem dX11_looks_122 : decode cX11_looks 122 = .ok (.aload_n 0, 1) := by decide +kernel
theorem dX11_looks_123 : decode cX11_looks 123 = .ok (.getfield 111, 3) := by decide +kernel
theorem dX11_looks_126 : decode cX11_looks 126 = .ok (.if_icmp .lt 15, 3) := by decide +kernel
theorem dX11_looks_129 : decode cX11_looks 129 = .ok (.aload_n 0, 1) := by decide +kernel
theorem dX11_looks_130 : decode cX11_looks 130 = .ok (.iload_n 3, 1) := by decide +kernel
theorem dX11_looks_131 : decode cX11_looks 131 = .ok (.aload_n 0, 1) := by decide +kernel
theorem dX11_looks_132 : decode cX11_looks 132 = .ok (.getfield 111, 3) := by decide +kernel
theorem dX11_looks_135 : decode cX11_looks 135 = .ok (.isub, 1) := by decide +kernel
theorem dX11_looks_136 : decode cX11_looks 136 = .ok (.iload 4, 2) := by decide +kernel
theorem dX11_looks_138 : decode cX11_looks 138 = .ok (.invokevirtual 275, 3) := by decide +kernel
theorem dX11_looks_141 : decode cX11_looks 141 = .ok (.iload_n 3, 1) := by decide +kernel
theorem dX11_looks_142 : decode cX11_looks 142 = .ok (.aload_n 0, 1) := by decide +kernel
theorem dX11_looks_143 : decode cX11_looks 143 = .ok (.getfield 111, 3) := by decide +kernel
theorem dX11_looks_146 : decode cX11_looks 146 = .ok (.aload_n 0, 1) := by decide +kernel
theorem dX11_looks_147 : decode cX11_looks 147 = .ok (.getfield 114, 3) := by decide +kernel
theorem dX11_looks_150 : decode cX11_looks 150 = .ok (.iconst 1, 1) := by decide +kernel
theorem dX11_looks_151 : decode cX11_looks 151 = .ok (.isub, 1) := by decide +kernel
theorem dX11_looks_152 : decode cX11_looks 152 = .ok (.imul, 1) := by decide +kernel
theorem dX11_looks_153 : decode cX11_looks 153 = .ok (.if_icmp .ge 15, 3) := by decide +kernel
theorem dX11_looks_156 : decode cX11_looks 156 = .ok (.aload_n 0, 1) := by decide +kernel
theorem dX11_looks_157 : decode cX11_looks 157 = .ok (.iload_n 3, 1) := by decide +kernel
theorem dX11_looks_158 : decode cX11_looks 158 = .ok (.aload_n 0, 1) := by decide +kernel
theorem dX11_looks_159 : decode cX11_looks 159 = .ok (.getfield 111, 3) := by decide +kernel
theorem dX11_looks_162 : decode cX11_looks 162 = .ok (.iadd, 1) := by decide +kernel
theorem dX11_looks_163 : decode cX11_looks 163 = .ok (.iload 4, 2) := by decide +kernel
theorem dX11_looks_165 : decode cX11_looks 165 = .ok (.invokevirtual 275, 3) := by decide +kernel
theorem dX11_looks_168 : decode cX11_looks 168 = .ok (.iinc 2 1, 3) := by decide +kernel
theorem dX11_looks_171 : decode cX11_looks 171 = .ok (.goto (-117), 3) := by decide +kernel
theorem dX11_looks_174 : decode cX11_looks 174 = .ok (.return_, 1) := by decide +kernel
theorem dX11_canBe_0 : decode cX11_canBe 0 = .ok (.aload_n 0, 1) := by decide +kernel
theorem dX11_canBe_1 : decode cX11_canBe 1 = .ok (.iload_n 1, 1) := by decide +kernel
theorem dX11_canBe_2 : decode cX11_canBe 2 = .ok (.invokevirtual 128, 3) := by decide +kernel
theorem dX11_canBe_5 : decode cX11_canBe 5 = .ok (.ifCond .ne 5, 3) := by decide +kernel
theorem dX11_canBe_8 : decode cX11_canBe 8 = .ok (.iconst (-1), 1) := by decide +kernel
theorem dX11_canBe_9 : decode cX11_canBe 9 = .ok (.ireturn, 1) := by decide +kernel
theorem dX11_canBe_10 : decode cX11_canBe 10 = .ok (.aload_n 0, 1) := by decide +kernel
theorem dX11_canBe_11 : decode cX11_canBe 11 = .ok (.getfield 269, 3) := by decide +kernel
theorem dX11_canBe_14 : decode cX11_canBe 14 = .ok (.ifCond .ne 6, 3) := by decide +kernel
theorem dX11_canBe_17 : decode cX11_canBe 17 = .ok (.bipush (-3), 2) := by decide +kernel
theorem dX11_canBe_19 : decode cX11_canBe 19 = .ok (.ireturn, 1) := by decide +kernel
theorem dX11_canBe_20 : decode cX11_canBe 20 = .ok (.iload_n 2, 1) := by decide +kernel
theorem dX11_canBe_21 : decode cX11_canBe 21 = .ok (.aload_n 0, 1) := by decide +kernel
theorem dX11_canBe_22 : decode cX11_canBe 22 = .ok (.getfield 272, 3) := by decide +kernel
theorem dX11_canBe_25 : decode cX11_canBe 25 = .ok (.if_icmp .ge 6, 3) := by decide +kernel
theorem dX11_canBe_28 : decode cX11_canBe 28 = .ok (.bipush (-2), 2) := by decide +kernel
theorem dX11_canBe_30 : decode cX11_canBe 30 = .ok (.ireturn, 1) := by decide +kernel
theorem dX11_canBe_31 : decode cX11_canBe 31 = .ok (.aload_n 0, 1) := by decide +kernel
theorem dX11_canBe_32 : decode cX11_canBe 32 = .ok (.invokevirtual 278, 3) := by decide +kernel
theorem dX11_canBe_35 : decode cX11_canBe 35 = .ok (.aload_n 0, 1) := by decide +kernel
theorem dX11_canBe_36 : decode cX11_canBe 36 = .ok (.getfield 108, 3) := by decide +kernel
theorem dX11_canBe_39 : decode cX11_canBe 39 = .ok (.iload_n 1, 1) := by decide +kernel
theorem dX11_canBe_40 : decode cX11_canBe 40 = .ok (.iaload, 1) := by decide +kernel
theorem dX11_canBe_41 : decode cX11_canBe 41 = .ok (.iconst (-1), 1) := by decide +kernel
theorem dX11_canBe_42 : decode cX11_canBe 42 = .ok (.if_icmp .eq 22, 3) := by decide +kernel
theorem dX11_canBe_45 : decode cX11_canBe 45 = .ok (.aload_n 0, 1) := by decide +kernel
theorem dX11_canBe_46 : decode cX11_canBe 46 = .ok (.getfield 108, 3) := by decide +kernel
theorem dX11_canBe_49 : decode cX11_canBe 49 = .ok (.iload_n 1, 1) := by decide +kernel
theorem dX11_canBe_50 : decode cX11_canBe 50 = .ok (.iaload, 1) := by decide +kernel
theorem dX11_canBe_51 : decode cX11_canBe 51 = .ok (.iload_n 2, 1) := by decide +kernel
theorem dX11_canBe_52 : decode cX11_canBe 52 = .ok (.aload_n 0, 1) := by decide +kernel
theorem dX11_canBe_53 : decode cX11_canBe 53 = .ok (.getfield 272, 3) := by decide +kernel
theorem dX11_canBe_56 : decode cX11_canBe 56 = .ok (.isub, 1) := by decide +kernel
theorem dX11_canBe_57 : decode cX11_canBe 57 = .ok (.if_icmp .gt 7, 3) := by decide +kernel
theorem dX11_canBe_60 : decode cX11_canBe 60 = .ok (.iconst 1, 1) := by decide +kernel
theorem dX11_canBe_61 : decode cX11_canBe 61 = .ok (.goto 4, 3) := by decide +kernel
theorem dX11_canBe_64 : decode cX11_canBe 64 = .ok (.iconst 0, 1) := by decide +kernel
theorem dX11_canBe_65 : decode cX11_canBe 65 = .ok (.ireturn, 1) := by decide +kernel
theorem dX11_places_0 : decode cX11_places 0 = .ok (.aload_n 0, 1) := by decide +kernel
theorem dX11_places_1 : decode cX11_places 1 = .ok (.getfield 269, 3) := by decide +kernel
theorem dX11_places_4 : decode cX11_places 4 = .ok (.ifCond .ne 6, 3) := by decide +kernel
theorem dX11_places_7 : decode cX11_places 7 = .ok (.bipush (-3), 2) := by decide +kernel
theorem dX11_places_9 : decode cX11_places 9 = .ok (.ireturn, 1) := by decide +kernel
theorem dX11_places_10 : decode cX11_places 10 = .ok (.iload_n 1, 1) := by decide +kernel
theorem dX11_places_11 : decode cX11_places 11 = .ok (.aload_n 0, 1) := by decide +kernel
theorem dX11_places_12 : decode cX11_places 12 = .ok (.getfield 272, 3) := by decide +kernel
theorem dX11_places_15 : decode cX11_places 15 = .ok (.if_icmp .ge 6, 3) := by decide +kernel
theorem dX11_places_18 : decode cX11_places 18 = .ok (.bipush (-2), 2) := by decide +kernel
theorem dX11_places_20 : decode cX11_places 20 = .ok (.ireturn, 1) := by decide +kernel
theorem dX11_places_21 : decode cX11_places 21 = .ok (.aload_n 0, 1) := by decide +kernel
theorem dX11_places_22 : decode cX11_places 22 = .ok (.invokevirtual 278, 3) := by decide +kernel
theorem dX11_places_25 : decode cX11_places 25 = .ok (.iconst 0, 1) := by decide +kernel
theorem dX11_places_26 : decode cX11_places 26 = .ok (.istore_n 2, 1) := by decide +kernel
theorem dX11_places_27 : decode cX11_places 27 = .ok (.iconst 0, 1) := by decide +kernel
theorem dX11_places_28 : decode cX11_places 28 = .ok (.istore_n 3, 1) := by decide +kernel
theorem dX11_places_29 : decode cX11_places 29 = .ok (.iload_n 3, 1) := by decide +kernel
theorem dX11_places_30 : decode cX11_places 30 = .ok (.aload_n 0, 1) := by decide +kernel
theorem dX11_places_31 : decode cX11_places 31 = .ok (.getfield 111, 3) := by decide +kernel
theorem dX11_places_34 : decode cX11_places 34 = .ok (.aload_n 0, 1) := by decide +kernel
theorem dX11_places_35 : decode cX11_places 35 = .ok (.getfield 114, 3) := by decide +kernel
theorem dX11_places_38 : decode cX11_places 38 = .ok (.imul, 1) := by decide +kernel
theorem dX11_places_39 : decode cX11_places 39 = .ok (.if_icmp .ge 42, 3) := by decide +kernel
theorem dX11_places_42 : decode cX11_places 42 = .ok (.iload_n 2, 1) := by decide +kernel
theorem dX11_places_43 : decode cX11_places 43 = .ok (.aload_n 0, 1) := by decide +kernel
theorem dX11_places_44 : decode cX11_places 44 = .ok (.getfield 108, 3) := by decide +kernel
theorem dX11_places_47 : decode cX11_places 47 = .ok (.iload_n 3, 1) := by decide +kernel
theorem dX11_places_48 : decode cX11_places 48 = .ok (.iaload, 1) := by decide +kernel
theorem dX11_places_49 : decode cX11_places 49 = .ok (.iconst (-1), 1) := by decide +kernel
theorem dX11_places_50 : decode cX11_places 50 = .ok (.if_icmp .eq 22, 3) := by decide +kernel
theorem dX11_places_53 : decode cX11_places 53 = .ok (.aload_n 0, 1) := by decide +kernel
theorem dX11_places_54 : decode cX11_places 54 = .ok (.getfield 108, 3) := by decide +kernel
theorem dX11_places_57 : decode cX11_places 57 = .ok (.iload_n 3, 1) := by decide +kernel
theorem dX11_places_58 : decode cX11_places 58 = .ok (.iaload, 1) := by decide +kernel
theorem dX11_places_59 : decode cX11_places 59 = .ok (.iload_n 1, 1) := by decide +kernel
theorem dX11_places_60 : decode cX11_places 60 = .ok (.aload_n 0, 1) := by decide +kernel
theorem dX11_places_61 : decode cX11_places 61 = .ok (.getfield 272, 3) := by decide +kernel
theorem dX11_places_64 : decode cX11_places 64 = .ok (.isub, 1) := by decide +kernel
theorem dX11_places_65 : decode cX11_places 65 = .ok (.if_icmp .gt 7, 3) := by decide +kernel
theorem dX11_places_68 : decode cX11_places 68 = .ok (.iconst 1, 1) := by decide +kernel
theorem dX11_places_69 : decode cX11_places 69 = .ok (.goto 4, 3) := by decide +kernel
theorem dX11_places_72 : decode cX11_places 72 = .ok (.iconst 0, 1) := by decide +kernel
theorem dX11_places_73 : decode cX11_places 73 = .ok (.iadd, 1) := by decide +kernel
theorem dX11_places_74 : decode cX11_places 74 = .ok (.istore_n 2, 1) := by decide +kernel
theorem dX11_places_75 : decode cX11_places 75 = .ok (.iinc 3 1, 3) := by decide +kernel
theorem dX11_places_78 : decode cX11_places 78 = .ok (.goto (-49), 3) := by decide +kernel
theorem dX11_places_81 : decode cX11_places 81 = .ok (.iload_n 2, 1) := by decide +kernel
theorem dX11_places_82 : decode cX11_places 82 = .ok (.ireturn, 1) := by decide +kernel
theorem dX11_found_0 : decode cX11_found 0 = .ok (.aload_n 0, 1) := by decide +kernel
theorem dX11_found_1 : decode cX11_found 1 = .ok (.getfield 269, 3) := by decide +kernel
theorem dX11_found_4 : decode cX11_found 4 = .ok (.istore_n 1, 1) := by decide +kernel
theorem dX11_found_5 : decode cX11_found 5 = .ok (.aload_n 0, 1) := by decide +kernel
theorem dX11_found_6 : decode cX11_found 6 = .ok (.iconst 0, 1) := by decide +kernel
theorem dX11_found_7 : decode cX11_found 7 = .ok (.putfield 269, 3) := by decide +kernel
theorem dX11_found_10 : decode cX11_found 10 = .ok (.iload_n 1, 1) := by decide +kernel
theorem dX11_found_11 : decode cX11_found 11 = .ok (.ireturn, 1) := by decide +kernel
theorem dX11_sell_0 : decode cX11_sell 0 = .ok (.aload_n 0, 1) := by decide +kernel
theorem dX11_sell_1 : decode cX11_sell 1 = .ok (.iload_n 1, 1) := by decide +kernel
theorem dX11_sell_2 : decode cX11_sell 2 = .ok (.invokevirtual 124, 3) := by decide +kernel
theorem dX11_sell_5 : decode cX11_sell 5 = .ok (.ifCond .ne 5, 3) := by decide +kernel
theorem dX11_sell_8 : decode cX11_sell 8 = .ok (.iconst (-1), 1) := by decide +kernel
theorem dX11_sell_9 : decode cX11_sell 9 = .ok (.ireturn, 1) := by decide +kernel
theorem dX11_sell_10 : decode cX11_sell 10 = .ok (.iload_n 2, 1) := by decide +kernel
theorem dX11_sell_11 : decode cX11_sell 11 = .ok (.iconst 0, 1) := by decide +kernel
theorem dX11_sell_12 : decode cX11_sell 12 = .ok (.sipush 999, 3) := by decide +kernel
theorem dX11_sell_15 : decode cX11_sell 15 = .ok (.invokestatic 117, 3) := by decide +kernel
theorem dX11_sell_18 : decode cX11_sell 18 = .ok (.ifCond .ne 6, 3) := by decide +kernel
theorem dX11_sell_21 : decode cX11_sell 21 = .ok (.bipush (-2), 2) := by decide +kernel
theorem dX11_sell_23 : decode cX11_sell 23 = .ok (.ireturn, 1) := by decide +kernel
theorem dX11_sell_24 : decode cX11_sell 24 = .ok (.aload_n 0, 1) := by decide +kernel
theorem dX11_sell_25 : decode cX11_sell 25 = .ok (.getfield 41, 3) := by decide +kernel
theorem dX11_sell_28 : decode cX11_sell 28 = .ok (.iload_n 1, 1) := by decide +kernel
theorem dX11_sell_29 : decode cX11_sell 29 = .ok (.iaload, 1) := by decide +kernel
theorem dX11_sell_30 : decode cX11_sell 30 = .ok (.iconst (-1), 1) := by decide +kernel
theorem dX11_sell_31 : decode cX11_sell 31 = .ok (.if_icmp .ne 12, 3) := by decide +kernel
theorem dX11_sell_34 : decode cX11_sell 34 = .ok (.aload_n 0, 1) := by decide +kernel
theorem dX11_sell_35 : decode cX11_sell 35 = .ok (.getfield 44, 3) := by decide +kernel
theorem dX11_sell_38 : decode cX11_sell 38 = .ok (.iload_n 1, 1) := by decide +kernel
theorem dX11_sell_39 : decode cX11_sell 39 = .ok (.baload, 1) := by decide +kernel
theorem dX11_sell_40 : decode cX11_sell 40 = .ok (.ifCond .ne 6, 3) := by decide +kernel
theorem dX11_sell_43 : decode cX11_sell 43 = .ok (.bipush (-3), 2) := by decide +kernel
theorem dX11_sell_45 : decode cX11_sell 45 = .ok (.ireturn, 1) := by decide +kernel
theorem dX11_sell_46 : decode cX11_sell 46 = .ok (.aload_n 0, 1) := by decide +kernel
theorem dX11_sell_47 : decode cX11_sell 47 = .ok (.getfield 41, 3) := by decide +kernel
theorem dX11_sell_50 : decode cX11_sell 50 = .ok (.iload_n 1, 1) := by decide +kernel
theorem dX11_sell_51 : decode cX11_sell 51 = .ok (.iload_n 2, 1) := by decide +kernel
theorem dX11_sell_52 : decode cX11_sell 52 = .ok (.iastore, 1) := by decide +kernel
theorem dX11_sell_53 : decode cX11_sell 53 = .ok (.iconst 0, 1) := by decide +kernel
theorem dX11_sell_54 : decode cX11_sell 54 = .ok (.ireturn, 1) := by decide +kernel
theorem dX11_hand_0 : decode cX11_hand 0 = .ok (.aload_n 0, 1) := by decide +kernel
theorem dX11_hand_1 : decode cX11_hand 1 = .ok (.iload_n 1, 1) := by decide +kernel
theorem dX11_hand_2 : decode cX11_hand 2 = .ok (.invokevirtual 124, 3) := by decide +kernel
theorem dX11_hand_5 : decode cX11_hand 5 = .ok (.ifCond .ne 5, 3) := by decide +kernel
theorem dX11_hand_8 : decode cX11_hand 8 = .ok (.iconst (-1), 1) := by decide +kernel
theorem dX11_hand_9 : decode cX11_hand 9 = .ok (.ireturn, 1) := by decide +kernel
theorem dX11_hand_10 : decode cX11_hand 10 = .ok (.aload_n 0, 1) := by decide +kernel
theorem dX11_hand_11 : decode cX11_hand 11 = .ok (.getfield 41, 3) := by decide +kernel
theorem dX11_hand_14 : decode cX11_hand 14 = .ok (.iload_n 1, 1) := by decide +kernel
theorem dX11_hand_15 : decode cX11_hand 15 = .ok (.iaload, 1) := by decide +kernel
theorem dX11_hand_16 : decode cX11_hand 16 = .ok (.iconst (-1), 1) := by decide +kernel
theorem dX11_hand_17 : decode cX11_hand 17 = .ok (.if_icmp .eq 23, 3) := by decide +kernel
theorem dX11_hand_20 : decode cX11_hand 20 = .ok (.aload_n 0, 1) := by decide +kernel
theorem dX11_hand_21 : decode cX11_hand 21 = .ok (.getfield 48, 3) := by decide +kernel
theorem dX11_hand_24 : decode cX11_hand 24 = .ok (.iload_n 1, 1) := by decide +kernel
theorem dX11_hand_25 : decode cX11_hand 25 = .ok (.baload, 1) := by decide +kernel
theorem dX11_hand_26 : decode cX11_hand 26 = .ok (.ifCond .ne 14, 3) := by decide +kernel
theorem dX11_hand_29 : decode cX11_hand 29 = .ok (.aload_n 0, 1) := by decide +kernel
theorem dX11_hand_30 : decode cX11_hand 30 = .ok (.getfield 263, 3) := by decide +kernel
theorem dX11_hand_33 : decode cX11_hand 33 = .ok (.aload_n 0, 1) := by decide +kernel
theorem dX11_hand_34 : decode cX11_hand 34 = .ok (.getfield 90, 3) := by decide +kernel
theorem dX11_hand_37 : decode cX11_hand 37 = .ok (.if_icmp .ge 6, 3) := by decide +kernel
theorem dX11_hand_40 : decode cX11_hand 40 = .ok (.bipush (-3), 2) := by decide +kernel
theorem dX11_hand_42 : decode cX11_hand 42 = .ok (.ireturn, 1) := by decide +kernel
theorem dX11_hand_43 : decode cX11_hand 43 = .ok (.aload_n 0, 1) := by decide +kernel
theorem dX11_hand_44 : decode cX11_hand 44 = .ok (.getfield 44, 3) := by decide +kernel
theorem dX11_hand_47 : decode cX11_hand 47 = .ok (.iload_n 1, 1) := by decide +kernel
theorem dX11_hand_48 : decode cX11_hand 48 = .ok (.iconst 0, 1) := by decide +kernel
theorem dX11_hand_49 : decode cX11_hand 49 = .ok (.bastore, 1) := by decide +kernel
theorem dX11_hand_50 : decode cX11_hand 50 = .ok (.aload_n 0, 1) := by decide +kernel
theorem dX11_hand_51 : decode cX11_hand 51 = .ok (.getfield 38, 3) := by decide +kernel
theorem dX11_hand_54 : decode cX11_hand 54 = .ok (.iload_n 1, 1) := by decide +kernel
theorem dX11_hand_55 : decode cX11_hand 55 = .ok (.iconst (-1), 1) := by decide +kernel
theorem dX11_hand_56 : decode cX11_hand 56 = .ok (.iastore, 1) := by decide +kernel
theorem dX11_hand_57 : decode cX11_hand 57 = .ok (.aload_n 0, 1) := by decide +kernel
theorem dX11_hand_58 : decode cX11_hand 58 = .ok (.getfield 48, 3) := by decide +kernel
theorem dX11_hand_61 : decode cX11_hand 61 = .ok (.iload_n 1, 1) := by decide +kernel
theorem dX11_hand_62 : decode cX11_hand 62 = .ok (.iconst 1, 1) := by decide +kernel
theorem dX11_hand_63 : decode cX11_hand 63 = .ok (.bastore, 1) := by decide +kernel
theorem dX11_hand_64 : decode cX11_hand 64 = .ok (.aload_n 0, 1) := by decide +kernel
theorem dX11_hand_65 : decode cX11_hand 65 = .ok (.getfield 41, 3) := by decide +kernel
theorem dX11_hand_68 : decode cX11_hand 68 = .ok (.iload_n 1, 1) := by decide +kernel
theorem dX11_hand_69 : decode cX11_hand 69 = .ok (.iaload, 1) := by decide +kernel
theorem dX11_hand_70 : decode cX11_hand 70 = .ok (.ireturn, 1) := by decide +kernel
theorem dX11_end_0 : decode cX11_end 0 = .ok (.iload_n 1, 1) := by decide +kernel
theorem dX11_end_1 : decode cX11_end 1 = .ok (.iconst 0, 1) := by decide +kernel
theorem dX11_end_2 : decode cX11_end 2 = .ok (.sipush 999, 3) := by decide +kernel
theorem dX11_end_5 : decode cX11_end 5 = .ok (.invokestatic 117, 3) := by decide +kernel
theorem dX11_end_8 : decode cX11_end 8 = .ok (.ifCond .ne 6, 3) := by decide +kernel
theorem dX11_end_11 : decode cX11_end 11 = .ok (.bipush (-2), 2) := by decide +kernel
theorem dX11_end_13 : decode cX11_end 13 = .ok (.ireturn, 1) := by decide +kernel
theorem dX11_end_14 : decode cX11_end 14 = .ok (.aload_n 0, 1) := by decide +kernel
theorem dX11_end_15 : decode cX11_end 15 = .ok (.getfield 90, 3) := by decide +kernel
theorem dX11_end_18 : decode cX11_end 18 = .ok (.istore_n 2, 1) := by decide +kernel
theorem dX11_end_19 : decode cX11_end 19 = .ok (.aload_n 0, 1) := by decide +kernel
theorem dX11_end_20 : decode cX11_end 20 = .ok (.iload_n 1, 1) := by decide +kernel
theorem dX11_end_21 : decode cX11_end 21 = .ok (.putfield 90, 3) := by decide +kernel
theorem dX11_end_24 : decode cX11_end 24 = .ok (.iload_n 2, 1) := by decide +kernel
theorem dX11_end_25 : decode cX11_end 25 = .ok (.ireturn, 1) := by decide +kernel
theorem dX11_count_0 : decode cX11_count 0 = .ok (.iconst 0, 1) := by decide +kernel
theorem dX11_count_1 : decode cX11_count 1 = .ok (.istore_n 2, 1) := by decide +kernel
theorem dX11_count_2 : decode cX11_count 2 = .ok (.iload_n 1, 1) := by decide +kernel
theorem dX11_count_3 : decode cX11_count 3 = .ok (.tableswitch 195 0 13 #[69, 79, 84, 89, 94, 99, 125, 130, 135, 140, 145, 150, 155, 160], 69) := by decide +kernel
theorem dX11_count_72 : decode cX11_count 72 = .ok (.aload_n 0, 1) := by decide +kernel
theorem dX11_count_73 : decode cX11_count 73 = .ok (.getfield 111, 3) := by decide +kernel
theorem dX11_count_76 : decode cX11_count 76 = .ok (.aload_n 0, 1) := by decide +kernel
theorem dX11_count_77 : decode cX11_count 77 = .ok (.getfield 114, 3) := by decide +kernel
theorem dX11_count_80 : decode cX11_count 80 = .ok (.imul, 1) := by decide +kernel
theorem dX11_count_81 : decode cX11_count 81 = .ok (.ireturn, 1) := by decide +kernel
theorem dX11_count_82 : decode cX11_count 82 = .ok (.aload_n 0, 1) := by decide +kernel
theorem dX11_count_83 : decode cX11_count 83 = .ok (.getfield 121, 3) := by decide +kernel
theorem dX11_count_86 : decode cX11_count 86 = .ok (.ireturn, 1) := by decide +kernel
theorem dX11_count_87 : decode cX11_count 87 = .ok (.aload_n 0, 1) := by decide +kernel
theorem dX11_count_88 : decode cX11_count 88 = .ok (.invokevirtual 134, 3) := by decide +kernel
theorem dX11_count_91 : decode cX11_count 91 = .ok (.ireturn, 1) := by decide +kernel
theorem dX11_count_92 : decode cX11_count 92 = .ok (.aload_n 0, 1) := by decide +kernel
theorem dX11_count_93 : decode cX11_count 93 = .ok (.invokevirtual 185, 3) := by decide +kernel
theorem dX11_count_96 : decode cX11_count 96 = .ok (.ireturn, 1) := by decide +kernel
theorem dX11_count_97 : decode cX11_count 97 = .ok (.aload_n 0, 1) := by decide +kernel
theorem dX11_count_98 : decode cX11_count 98 = .ok (.getfield 169, 3) := by decide +kernel
theorem dX11_count_101 : decode cX11_count 101 = .ok (.ireturn, 1) := by decide +kernel
theorem dX11_count_102 : decode cX11_count 102 = .ok (.iconst 0, 1) := by decide +kernel
theorem dX11_count_103 : decode cX11_count 103 = .ok (.istore_n 3, 1) := by decide +kernel
theorem dX11_count_104 : decode cX11_count 104 = .ok (.iload_n 3, 1) := by decide +kernel
theorem dX11_count_105 : decode cX11_count 105 = .ok (.aload_n 0, 1) := by decide +kernel
theorem dX11_count_106 : decode cX11_count 106 = .ok (.getfield 121, 3) := by decide +kernel
theorem dX11_count_109 : decode cX11_count 109 = .ok (.if_icmp .ge 17, 3) := by decide +kernel
theorem dX11_count_112 : decode cX11_count 112 = .ok (.iload_n 2, 1) := by decide +kernel
theorem dX11_count_113 : decode cX11_count 113 = .ok (.aload_n 0, 1) := by decide +kernel
theorem dX11_count_114 : decode cX11_count 114 = .ok (.iload_n 3, 1) := by decide +kernel
theorem dX11_count_115 : decode cX11_count 115 = .ok (.invokevirtual 172, 3) := by decide +kernel
theorem dX11_count_118 : decode cX11_count 118 = .ok (.iadd, 1) := by decide +kernel
theorem dX11_count_119 : decode cX11_count 119 = .ok (.istore_n 2, 1) := by decide +kernel
theorem dX11_count_120 : decode cX11_count 120 = .ok (.iinc 3 1, 3) := by decide +kernel
theorem dX11_count_123 : decode cX11_count 123 = .ok (.goto (-19), 3) := by decide +kernel
theorem dX11_count_126 : decode cX11_count 126 = .ok (.iload_n 2, 1) := by decide +kernel
theorem dX11_count_127 : decode cX11_count 127 = .ok (.ireturn, 1) := by decide +kernel
theorem dX11_count_128 : decode cX11_count 128 = .ok (.aload_n 0, 1) := by decide +kernel
theorem dX11_count_129 : decode cX11_count 129 = .ok (.getfield 263, 3) := by decide +kernel
theorem dX11_count_132 : decode cX11_count 132 = .ok (.ireturn, 1) := by decide +kernel
theorem dX11_count_133 : decode cX11_count 133 = .ok (.aload_n 0, 1) := by decide +kernel
theorem dX11_count_134 : decode cX11_count 134 = .ok (.getfield 251, 3) := by decide +kernel
theorem dX11_count_137 : decode cX11_count 137 = .ok (.ireturn, 1) := by decide +kernel
theorem dX11_count_138 : decode cX11_count 138 = .ok (.aload_n 0, 1) := by decide +kernel
theorem dX11_count_139 : decode cX11_count 139 = .ok (.getfield 254, 3) := by decide +kernel
theorem dX11_count_142 : decode cX11_count 142 = .ok (.ireturn, 1) := by decide +kernel
theorem dX11_count_143 : decode cX11_count 143 = .ok (.aload_n 0, 1) := by decide +kernel
theorem dX11_count_144 : decode cX11_count 144 = .ok (.getfield 257, 3) := by decide +kernel
theorem dX11_count_147 : decode cX11_count 147 = .ok (.ireturn, 1) := by decide +kernel
theorem dX11_count_148 : decode cX11_count 148 = .ok (.aload_n 0, 1) := by decide +kernel
theorem dX11_count_149 : decode cX11_count 149 = .ok (.getfield 260, 3) := by decide +kernel
theorem dX11_count_152 : decode cX11_count 152 = .ok (.ireturn, 1) := by decide +kernel
theorem dX11_count_153 : decode cX11_count 153 = .ok (.aload_n 0, 1) := by decide +kernel
theorem dX11_count_154 : decode cX11_count 154 = .ok (.getfield 266, 3) := by decide +kernel
theorem dX11_count_157 : decode cX11_count 157 = .ok (.ireturn, 1) := by decide +kernel
theorem dX11_count_158 : decode cX11_count 158 = .ok (.aload_n 0, 1) := by decide +kernel
theorem dX11_count_159 : decode cX11_count 159 = .ok (.getfield 212, 3) := by decide +kernel
theorem dX11_count_162 : decode cX11_count 162 = .ok (.ireturn, 1) := by decide +kernel
theorem dX11_count_163 : decode cX11_count 163 = .ok (.iconst 0, 1) := by decide +kernel
theorem dX11_count_164 : decode cX11_count 164 = .ok (.istore_n 3, 1) := by decide +kernel
theorem dX11_count_165 : decode cX11_count 165 = .ok (.iload_n 3, 1) := by decide +kernel
theorem dX11_count_166 : decode cX11_count 166 = .ok (.aload_n 0, 1) := by decide +kernel
theorem dX11_count_167 : decode cX11_count 167 = .ok (.getfield 121, 3) := by decide +kernel
theorem dX11_count_170 : decode cX11_count 170 = .ok (.if_icmp .ge 26, 3) := by decide +kernel
theorem dX11_count_173 : decode cX11_count 173 = .ok (.iload_n 2, 1) := by decide +kernel
theorem dX11_count_174 : decode cX11_count 174 = .ok (.aload_n 0, 1) := by decide +kernel
theorem dX11_count_175 : decode cX11_count 175 = .ok (.getfield 48, 3) := by decide +kernel
theorem dX11_count_178 : decode cX11_count 178 = .ok (.iload_n 3, 1) := by decide +kernel
theorem dX11_count_179 : decode cX11_count 179 = .ok (.baload, 1) := by decide +kernel
theorem dX11_count_180 : decode cX11_count 180 = .ok (.ifCond .eq 7, 3) := by decide +kernel
theorem dX11_count_183 : decode cX11_count 183 = .ok (.iconst 1, 1) := by decide +kernel
theorem dX11_count_184 : decode cX11_count 184 = .ok (.goto 4, 3) := by decide +kernel
theorem dX11_count_187 : decode cX11_count 187 = .ok (.iconst 0, 1) := by decide +kernel
theorem dX11_count_188 : decode cX11_count 188 = .ok (.iadd, 1) := by decide +kernel
theorem dX11_count_189 : decode cX11_count 189 = .ok (.istore_n 2, 1) := by decide +kernel
theorem dX11_count_190 : decode cX11_count 190 = .ok (.iinc 3 1, 3) := by decide +kernel
theorem dX11_count_193 : decode cX11_count 193 = .ok (.goto (-28), 3) := by decide +kernel
theorem dX11_count_196 : decode cX11_count 196 = .ok (.iload_n 2, 1) := by decide +kernel
theorem dX11_count_197 : decode cX11_count 197 = .ok (.ireturn, 1) := by decide +kernel
theorem dX11_count_198 : decode cX11_count 198 = .ok (.iconst (-1), 1) := by decide +kernel
theorem dX11_count_199 : decode cX11_count 199 = .ok (.ireturn, 1) := by decide +kernel
theorem dJ6_bitCount_0f7a4_0 : decode cJ6_bitCount_0f7a4 0 = .ok (.iload_n 0, 1) := by decide +kernel
theorem dJ6_bitCount_0f7a4_1 : decode cJ6_bitCount_0f7a4 1 = .ok (.iload_n 0, 1) := by decide +kernel
theorem dJ6_bitCount_0f7a4_2 : decode cJ6_bitCount_0f7a4 2 = .ok (.iconst 1, 1) := by decide +kernel
theorem dJ6_bitCount_0f7a4_3 : decode cJ6_bitCount_0f7a4 3 = .ok (.iushr, 1) := by decide +kernel
theorem dJ6_bitCount_0f7a4_4 : decode cJ6_bitCount_0f7a4 4 = .ok (.ldc_w 265, 3) := by decide +kernel
theorem dJ6_bitCount_0f7a4_7 : decode cJ6_bitCount_0f7a4 7 = .ok (.iand, 1) := by decide +kernel
theorem dJ6_bitCount_0f7a4_8 : decode cJ6_bitCount_0f7a4 8 = .ok (.isub, 1) := by decide +kernel
theorem dJ6_bitCount_0f7a4_9 : decode cJ6_bitCount_0f7a4 9 = .ok (.istore_n 0, 1) := by decide +kernel
theorem dJ6_bitCount_0f7a4_10 : decode cJ6_bitCount_0f7a4 10 = .ok (.iload_n 0, 1) := by decide +kernel
theorem dJ6_bitCount_0f7a4_11 : decode cJ6_bitCount_0f7a4 11 = .ok (.ldc_w 266, 3) := by decide +kernel
theorem dJ6_bitCount_0f7a4_14 : decode cJ6_bitCount_0f7a4 14 = .ok (.iand, 1) := by decide +kernel
theorem dJ6_bitCount_0f7a4_15 : decode cJ6_bitCount_0f7a4 15 = .ok (.iload_n 0, 1) := by decide +kernel
theorem dJ6_bitCount_0f7a4_16 : decode cJ6_bitCount_0f7a4 16 = .ok (.iconst 2, 1) := by decide +kernel
theorem dJ6_bitCount_0f7a4_17 : decode cJ6_bitCount_0f7a4 17 = .ok (.iushr, 1) := by decide +kernel
theorem dJ6_bitCount_0f7a4_18 : decode cJ6_bitCount_0f7a4 18 = .ok (.ldc_w 266, 3) := by decide +kernel
theorem dJ6_bitCount_0f7a4_21 : decode cJ6_bitCount_0f7a4 21 = .ok (.iand, 1) := by decide +kernel
theorem dJ6_bitCount_0f7a4_22 : decode cJ6_bitCount_0f7a4 22 = .ok (.iadd, 1) := by decide +kernel
theorem dJ6_bitCount_0f7a4_23 : decode cJ6_bitCount_0f7a4 23 = .ok (.istore_n 0, 1) := by decide +kernel
theorem dJ6_bitCount_0f7a4_24 : decode cJ6_bitCount_0f7a4 24 = .ok (.iload_n 0, 1) := by decide +kernel
theorem dJ6_bitCount_0f7a4_25 : decode cJ6_bitCount_0f7a4 25 = .ok (.iload_n 0, 1) := by decide +kernel
theorem dJ6_bitCount_0f7a4_26 : decode cJ6_bitCount_0f7a4 26 = .ok (.iconst 4, 1) := by decide +kernel
theorem dJ6_bitCount_0f7a4_27 : decode cJ6_bitCount_0f7a4 27 = .ok (.iushr, 1) := by decide +kernel
theorem dJ6_bitCount_0f7a4_28 : decode cJ6_bitCount_0f7a4 28 = .ok (.iadd, 1) := by decide +kernel
theorem dJ6_bitCount_0f7a4_29 : decode cJ6_bitCount_0f7a4 29 = .ok (.ldc_w 267, 3) := by decide +kernel
theorem dJ6_bitCount_0f7a4_32 : decode cJ6_bitCount_0f7a4 32 = .ok (.iand, 1) := by decide +kernel
theorem dJ6_bitCount_0f7a4_33 : decode cJ6_bitCount_0f7a4 33 = .ok (.istore_n 0, 1) := by decide +kernel
theorem dJ6_bitCount_0f7a4_34 : decode cJ6_bitCount_0f7a4 34 = .ok (.iload_n 0, 1) := by decide +kernel
theorem dJ6_bitCount_0f7a4_35 : decode cJ6_bitCount_0f7a4 35 = .ok (.iload_n 0, 1) := by decide +kernel
theorem dJ6_bitCount_0f7a4_36 : decode cJ6_bitCount_0f7a4 36 = .ok (.bipush 8, 2) := by decide +kernel
theorem dJ6_bitCount_0f7a4_38 : decode cJ6_bitCount_0f7a4 38 = .ok (.iushr, 1) := by decide +kernel
theorem dJ6_bitCount_0f7a4_39 : decode cJ6_bitCount_0f7a4 39 = .ok (.iadd, 1) := by decide +kernel
theorem dJ6_bitCount_0f7a4_40 : decode cJ6_bitCount_0f7a4 40 = .ok (.istore_n 0, 1) := by decide +kernel
theorem dJ6_bitCount_0f7a4_41 : decode cJ6_bitCount_0f7a4 41 = .ok (.iload_n 0, 1) := by decide +kernel
theorem dJ6_bitCount_0f7a4_42 : decode cJ6_bitCount_0f7a4 42 = .ok (.iload_n 0, 1) := by decide +kernel
theorem dJ6_bitCount_0f7a4_43 : decode cJ6_bitCount_0f7a4 43 = .ok (.bipush 16, 2) := by decide +kernel
theorem dJ6_bitCount_0f7a4_45 : decode cJ6_bitCount_0f7a4 45 = .ok (.iushr, 1) := by decide +kernel
theorem dJ6_bitCount_0f7a4_46 : decode cJ6_bitCount_0f7a4 46 = .ok (.iadd, 1) := by decide +kernel
theorem dJ6_bitCount_0f7a4_47 : decode cJ6_bitCount_0f7a4 47 = .ok (.istore_n 0, 1) := by decide +kernel
theorem dJ6_bitCount_0f7a4_48 : decode cJ6_bitCount_0f7a4 48 = .ok (.iload_n 0, 1) := by decide +kernel
theorem dJ6_bitCount_0f7a4_49 : decode cJ6_bitCount_0f7a4 49 = .ok (.bipush 63, 2) := by decide +kernel
theorem dJ6_bitCount_0f7a4_51 : decode cJ6_bitCount_0f7a4 51 = .ok (.iand, 1) := by decide +kernel
theorem dJ6_bitCount_0f7a4_52 : decode cJ6_bitCount_0f7a4 52 = .ok (.ireturn, 1) := by decide +kernel
theorem dJ13_bitCount_95d88_0 : decode cJ13_bitCount_95d88 0 = .ok (.lload_n 0, 1) := by decide +kernel
theorem dJ13_bitCount_95d88_1 : decode cJ13_bitCount_95d88 1 = .ok (.lload_n 0, 1) := by decide +kernel
theorem dJ13_bitCount_95d88_2 : decode cJ13_bitCount_95d88 2 = .ok (.iconst 1, 1) := by decide +kernel
theorem dJ13_bitCount_95d88_3 : decode cJ13_bitCount_95d88 3 = .ok (.lushr, 1) := by decide +kernel
theorem dJ13_bitCount_95d88_4 : decode cJ13_bitCount_95d88 4 = .ok (.ldc2_w 314, 3) := by decide +kernel
theorem dJ13_bitCount_95d88_7 : decode cJ13_bitCount_95d88 7 = .ok (.land, 1) := by decide +kernel
theorem dJ13_bitCount_95d88_8 : decode cJ13_bitCount_95d88 8 = .ok (.lsub, 1) := by decide +kernel
theorem dJ13_bitCount_95d88_9 : decode cJ13_bitCount_95d88 9 = .ok (.lstore_n 0, 1) := by decide +kernel
theorem dJ13_bitCount_95d88_10 : decode cJ13_bitCount_95d88 10 = .ok (.lload_n 0, 1) := by decide +kernel
theorem dJ13_bitCount_95d88_11 : decode cJ13_bitCount_95d88 11 = .ok (.ldc2_w 316, 3) := by decide +kernel
theorem dJ13_bitCount_95d88_14 : decode cJ13_bitCount_95d88 14 = .ok (.land, 1) := by decide +kernel
theorem dJ13_bitCount_95d88_15 : decode cJ13_bitCount_95d88 15 = .ok (.lload_n 0, 1) := by decide +kernel
theorem dJ13_bitCount_95d88_16 : decode cJ13_bitCount_95d88 16 = .ok (.iconst 2, 1) := by decide +kernel
theorem dJ13_bitCount_95d88_17 : decode cJ13_bitCount_95d88 17 = .ok (.lushr, 1) := by decide +kernel
theorem dJ13_bitCount_95d88_18 : decode cJ13_bitCount_95d88 18 = .ok (.ldc2_w 316, 3) := by decide +kernel
theorem dJ13_bitCount_95d88_21 : decode cJ13_bitCount_95d88 21 = .ok (.land, 1) := by decide +kernel
theorem dJ13_bitCount_95d88_22 : decode cJ13_bitCount_95d88 22 = .ok (.ladd, 1) := by decide +kernel
theorem dJ13_bitCount_95d88_23 : decode cJ13_bitCount_95d88 23 = .ok (.lstore_n 0, 1) := by decide +kernel
theorem dJ13_bitCount_95d88_24 : decode cJ13_bitCount_95d88 24 = .ok (.lload_n 0, 1) := by decide +kernel
theorem dJ13_bitCount_95d88_25 : decode cJ13_bitCount_95d88 25 = .ok (.lload_n 0, 1) := by decide +kernel
theorem dJ13_bitCount_95d88_26 : decode cJ13_bitCount_95d88 26 = .ok (.iconst 4, 1) := by decide +kernel
theorem dJ13_bitCount_95d88_27 : decode cJ13_bitCount_95d88 27 = .ok (.lushr, 1) := by decide +kernel
theorem dJ13_bitCount_95d88_28 : decode cJ13_bitCount_95d88 28 = .ok (.ladd, 1) := by decide +kernel
theorem dJ13_bitCount_95d88_29 : decode cJ13_bitCount_95d88 29 = .ok (.ldc2_w 318, 3) := by decide +kernel
theorem dJ13_bitCount_95d88_32 : decode cJ13_bitCount_95d88 32 = .ok (.land, 1) := by decide +kernel
theorem dJ13_bitCount_95d88_33 : decode cJ13_bitCount_95d88 33 = .ok (.lstore_n 0, 1) := by decide +kernel
theorem dJ13_bitCount_95d88_34 : decode cJ13_bitCount_95d88 34 = .ok (.lload_n 0, 1) := by decide +kernel
theorem dJ13_bitCount_95d88_35 : decode cJ13_bitCount_95d88 35 = .ok (.lload_n 0, 1) := by decide +kernel
theorem dJ13_bitCount_95d88_36 : decode cJ13_bitCount_95d88 36 = .ok (.bipush 8, 2) := by decide +kernel
theorem dJ13_bitCount_95d88_38 : decode cJ13_bitCount_95d88 38 = .ok (.lushr, 1) := by decide +kernel
theorem dJ13_bitCount_95d88_39 : decode cJ13_bitCount_95d88 39 = .ok (.ladd, 1) := by decide +kernel
theorem dJ13_bitCount_95d88_40 : decode cJ13_bitCount_95d88 40 = .ok (.lstore_n 0, 1) := by decide +kernel
theorem dJ13_bitCount_95d88_41 : decode cJ13_bitCount_95d88 41 = .ok (.lload_n 0, 1) := by decide +kernel
theorem dJ13_bitCount_95d88_42 : decode cJ13_bitCount_95d88 42 = .ok (.lload_n 0, 1) := by decide +kernel
theorem dJ13_bitCount_95d88_43 : decode cJ13_bitCount_95d88 43 = .ok (.bipush 16, 2) := by decide +kernel
theorem dJ13_bitCount_95d88_45 : decode cJ13_bitCount_95d88 45 = .ok (.lushr, 1) := by decide +kernel
theorem dJ13_bitCount_95d88_46 : decode cJ13_bitCount_95d88 46 = .ok (.ladd, 1) := by decide +kernel
theorem dJ13_bitCount_95d88_47 : decode cJ13_bitCount_95d88 47 = .ok (.lstore_n 0, 1) := by decide +kernel
theorem dJ13_bitCount_95d88_48 : decode cJ13_bitCount_95d88 48 = .ok (.lload_n 0, 1) := by decide +kernel
theorem dJ13_bitCount_95d88_49 : decode cJ13_bitCount_95d88 49 = .ok (.lload_n 0, 1) := by decide +kernel
theorem dJ13_bitCount_95d88_50 : decode cJ13_bitCount_95d88 50 = .ok (.bipush 32, 2) := by decide +kernel
theorem dJ13_bitCount_95d88_52 : decode cJ13_bitCount_95d88 52 = .ok (.lushr, 1) := by decide +kernel
theorem dJ13_bitCount_95d88_53 : decode cJ13_bitCount_95d88 53 = .ok (.ladd, 1) := by decide +kernel
theorem dJ13_bitCount_95d88_54 : decode cJ13_bitCount_95d88 54 = .ok (.lstore_n 0, 1) := by decide +kernel
theorem dJ13_bitCount_95d88_55 : decode cJ13_bitCount_95d88 55 = .ok (.lload_n 0, 1) := by decide +kernel
theorem dJ13_bitCount_95d88_56 : decode cJ13_bitCount_95d88 56 = .ok (.l2i, 1) := by decide +kernel
theorem dJ13_bitCount_95d88_57 : decode cJ13_bitCount_95d88 57 = .ok (.bipush 127, 2) := by decide +kernel
theorem dJ13_bitCount_95d88_59 : decode cJ13_bitCount_95d88 59 = .ok (.iand, 1) := by decide +kernel
theorem dJ13_bitCount_95d88_60 : decode cJ13_bitCount_95d88 60 = .ok (.ireturn, 1) := by decide +kernel
theorem dJ9_floorMod_7cf53_0 : decode cJ9_floorMod_7cf53 0 = .ok (.iload_n 0, 1) := by decide +kernel
theorem dJ9_floorMod_7cf53_1 : decode cJ9_floorMod_7cf53 1 = .ok (.iload_n 1, 1) := by decide +kernel
theorem dJ9_floorMod_7cf53_2 : decode cJ9_floorMod_7cf53 2 = .ok (.irem, 1) := by decide +kernel
theorem dJ9_floorMod_7cf53_3 : decode cJ9_floorMod_7cf53 3 = .ok (.istore_n 2, 1) := by decide +kernel
theorem dJ9_floorMod_7cf53_4 : decode cJ9_floorMod_7cf53 4 = .ok (.iload_n 0, 1) := by decide +kernel
theorem dJ9_floorMod_7cf53_5 : decode cJ9_floorMod_7cf53 5 = .ok (.iload_n 1, 1) := by decide +kernel
theorem dJ9_floorMod_7cf53_6 : decode cJ9_floorMod_7cf53 6 = .ok (.ixor, 1) := by decide +kernel
theorem dJ9_floorMod_7cf53_7 : decode cJ9_floorMod_7cf53 7 = .ok (.ifCond .ge 11, 3) := by decide +kernel
theorem dJ9_floorMod_7cf53_10 : decode cJ9_floorMod_7cf53 10 = .ok (.iload_n 2, 1) := by decide +kernel
theorem dJ9_floorMod_7cf53_11 : decode cJ9_floorMod_7cf53 11 = .ok (.ifCond .eq 7, 3) := by decide +kernel
theorem dJ9_floorMod_7cf53_14 : decode cJ9_floorMod_7cf53 14 = .ok (.iload_n 2, 1) := by decide +kernel
theorem dJ9_floorMod_7cf53_15 : decode cJ9_floorMod_7cf53 15 = .ok (.iload_n 1, 1) := by decide +kernel
theorem dJ9_floorMod_7cf53_16 : decode cJ9_floorMod_7cf53 16 = .ok (.iadd, 1) := by decide +kernel
theorem dJ9_floorMod_7cf53_17 : decode cJ9_floorMod_7cf53 17 = .ok (.ireturn, 1) := by decide +kernel
theorem dJ9_floorMod_7cf53_18 : decode cJ9_floorMod_7cf53 18 = .ok (.iload_n 2, 1) := by decide +kernel
theorem dJ9_floorMod_7cf53_19 : decode cJ9_floorMod_7cf53 19 = .ok (.ireturn, 1) := by decide +kernel
theorem dJ9_abs_0f7a4_0 : decode cJ9_abs_0f7a4 0 = .ok (.iload_n 0, 1) := by decide +kernel
theorem dJ9_abs_0f7a4_1 : decode cJ9_abs_0f7a4 1 = .ok (.ifCond .ge 8, 3) := by decide +kernel
theorem dJ9_abs_0f7a4_4 : decode cJ9_abs_0f7a4 4 = .ok (.iload_n 0, 1) := by decide +kernel
theorem dJ9_abs_0f7a4_5 : decode cJ9_abs_0f7a4 5 = .ok (.ineg, 1) := by decide +kernel
theorem dJ9_abs_0f7a4_6 : decode cJ9_abs_0f7a4 6 = .ok (.goto 4, 3) := by decide +kernel
theorem dJ9_abs_0f7a4_9 : decode cJ9_abs_0f7a4 9 = .ok (.iload_n 0, 1) := by decide +kernel
theorem dJ9_abs_0f7a4_10 : decode cJ9_abs_0f7a4 10 = .ok (.ireturn, 1) := by decide +kernel
theorem dJ9_max_7cf53_0 : decode cJ9_max_7cf53 0 = .ok (.iload_n 0, 1) := by decide +kernel
theorem dJ9_max_7cf53_1 : decode cJ9_max_7cf53 1 = .ok (.iload_n 1, 1) := by decide +kernel
theorem dJ9_max_7cf53_2 : decode cJ9_max_7cf53 2 = .ok (.if_icmp .lt 7, 3) := by decide +kernel
theorem dJ9_max_7cf53_5 : decode cJ9_max_7cf53 5 = .ok (.iload_n 0, 1) := by decide +kernel
theorem dJ9_max_7cf53_6 : decode cJ9_max_7cf53 6 = .ok (.goto 4, 3) := by decide +kernel
theorem dJ9_max_7cf53_9 : decode cJ9_max_7cf53 9 = .ok (.iload_n 1, 1) := by decide +kernel
theorem dJ9_max_7cf53_10 : decode cJ9_max_7cf53 10 = .ok (.ireturn, 1) := by decide +kernel
theorem dJ9_min_7cf53_0 : decode cJ9_min_7cf53 0 = .ok (.iload_n 0, 1) := by decide +kernel
theorem dJ9_min_7cf53_1 : decode cJ9_min_7cf53 1 = .ok (.iload_n 1, 1) := by decide +kernel
theorem dJ9_min_7cf53_2 : decode cJ9_min_7cf53 2 = .ok (.if_icmp .gt 7, 3) := by decide +kernel
theorem dJ9_min_7cf53_5 : decode cJ9_min_7cf53 5 = .ok (.iload_n 0, 1) := by decide +kernel
theorem dJ9_min_7cf53_6 : decode cJ9_min_7cf53 6 = .ok (.goto 4, 3) := by decide +kernel
theorem dJ9_min_7cf53_9 : decode cJ9_min_7cf53 9 = .ok (.iload_n 1, 1) := by decide +kernel
theorem dJ9_min_7cf53_10 : decode cJ9_min_7cf53 10 = .ok (.ireturn, 1) := by decide +kernel
theorem dJ0_length_8abf5_0 : decode cJ0_length_8abf5 0 = .ok (.aload_n 0, 1) := by decide +kernel
theorem dJ0_length_8abf5_1 : decode cJ0_length_8abf5 1 = .ok (.getfield 9, 3) := by decide +kernel
theorem dJ0_length_8abf5_4 : decode cJ0_length_8abf5 4 = .ok (.arraylength, 1) := by decide +kernel
theorem dJ0_length_8abf5_5 : decode cJ0_length_8abf5 5 = .ok (.aload_n 0, 1) := by decide +kernel
theorem dJ0_length_8abf5_6 : decode cJ0_length_8abf5 6 = .ok (.invokevirtual 335, 3) := by decide +kernel
theorem dJ0_length_8abf5_9 : decode cJ0_length_8abf5 9 = .ok (.ishr, 1) := by decide +kernel
theorem dJ0_length_8abf5_10 : decode cJ0_length_8abf5 10 = .ok (.ireturn, 1) := by decide +kernel
theorem dJ0_charAt_5068e_0 : decode cJ0_charAt_5068e 0 = .ok (.aload_n 0, 1) := by decide +kernel
theorem dJ0_charAt_5068e_1 : decode cJ0_charAt_5068e 1 = .ok (.invokevirtual 492, 3) := by decide +kernel
theorem dJ0_charAt_5068e_4 : decode cJ0_charAt_5068e 4 = .ok (.ifCond .eq 12, 3) := by decide +kernel
theorem dJ0_charAt_5068e_7 : decode cJ0_charAt_5068e 7 = .ok (.aload_n 0, 1) := by decide +kernel
theorem dJ0_charAt_5068e_8 : decode cJ0_charAt_5068e 8 = .ok (.getfield 9, 3) := by decide +kernel
theorem dJ0_charAt_5068e_11 : decode cJ0_charAt_5068e 11 = .ok (.iload_n 1, 1) := by decide +kernel
theorem dJ0_charAt_5068e_12 : decode cJ0_charAt_5068e 12 = .ok (.invokestatic 495, 3) := by decide +kernel
theorem dJ0_charAt_5068e_15 : decode cJ0_charAt_5068e 15 = .ok (.ireturn, 1) := by decide +kernel
theorem dJ0_charAt_5068e_16 : decode cJ0_charAt_5068e 16 = .ok (.aload_n 0, 1) := by decide +kernel
theorem dJ0_charAt_5068e_17 : decode cJ0_charAt_5068e 17 = .ok (.getfield 9, 3) := by decide +kernel
theorem dJ0_charAt_5068e_20 : decode cJ0_charAt_5068e 20 = .ok (.iload_n 1, 1) := by decide +kernel
theorem dJ0_charAt_5068e_21 : decode cJ0_charAt_5068e 21 = .ok (.invokestatic 498, 3) := by decide +kernel
theorem dJ0_charAt_5068e_24 : decode cJ0_charAt_5068e 24 = .ok (.ireturn, 1) := by decide +kernel
theorem dJ0_coder_7d493_0 : decode cJ0_coder_7d493 0 = .ok (.getstatic 38, 3) := by decide +kernel
theorem dJ0_coder_7d493_3 : decode cJ0_coder_7d493 3 = .ok (.ifCond .eq 10, 3) := by decide +kernel
theorem dJ0_coder_7d493_6 : decode cJ0_coder_7d493 6 = .ok (.aload_n 0, 1) := by decide +kernel
theorem dJ0_coder_7d493_7 : decode cJ0_coder_7d493 7 = .ok (.getfield 15, 3) := by decide +kernel
theorem dJ0_coder_7d493_10 : decode cJ0_coder_7d493 10 = .ok (.goto 4, 3) := by decide +kernel
theorem dJ0_coder_7d493_13 : decode cJ0_coder_7d493 13 = .ok (.iconst 1, 1) := by decide +kernel
theorem dJ0_coder_7d493_14 : decode cJ0_coder_7d493 14 = .ok (.ireturn, 1) := by decide +kernel
theorem dJ0_isLatin1_aae02_0 : decode cJ0_isLatin1_aae02 0 = .ok (.getstatic 38, 3) := by decide +kernel
theorem dJ0_isLatin1_aae02_3 : decode cJ0_isLatin1_aae02 3 = .ok (.ifCond .eq 14, 3) := by decide +kernel
theorem dJ0_isLatin1_aae02_6 : decode cJ0_isLatin1_aae02 6 = .ok (.aload_n 0, 1) := by decide +kernel
theorem dJ0_isLatin1_aae02_7 : decode cJ0_isLatin1_aae02 7 = .ok (.getfield 15, 3) := by decide +kernel
theorem dJ0_isLatin1_aae02_10 : decode cJ0_isLatin1_aae02 10 = .ok (.ifCond .ne 7, 3) := by decide +kernel
theorem dJ0_isLatin1_aae02_13 : decode cJ0_isLatin1_aae02 13 = .ok (.iconst 1, 1) := by decide +kernel
theorem dJ0_isLatin1_aae02_14 : decode cJ0_isLatin1_aae02 14 = .ok (.goto 4, 3) := by decide +kernel
theorem dJ0_isLatin1_aae02_17 : decode cJ0_isLatin1_aae02 17 = .ok (.iconst 0, 1) := by decide +kernel
theorem dJ0_isLatin1_aae02_18 : decode cJ0_isLatin1_aae02 18 = .ok (.ireturn, 1) := by decide +kernel
theorem dJ0_checkIndex_df160_0 : decode cJ0_checkIndex_df160 0 = .ok (.iload_n 0, 1) := by decide +kernel
theorem dJ0_checkIndex_df160_1 : decode cJ0_checkIndex_df160 1 = .ok (.iload_n 1, 1) := by decide +kernel
theorem dJ0_checkIndex_df160_2 : decode cJ0_checkIndex_df160 2 = .ok (.getstatic 1053, 3) := by decide +kernel
theorem dJ0_checkIndex_df160_5 : decode cJ0_checkIndex_df160 5 = .ok (.invokestatic 1059, 3) := by decide +kernel
theorem dJ0_checkIndex_df160_8 : decode cJ0_checkIndex_df160 8 = .ok (.pop, 1) := by decide +kernel
theorem dJ0_checkIndex_df160_9 : decode cJ0_checkIndex_df160 9 = .ok (.return_, 1) := by decide +kernel
theorem dJ1_charAt_3b067_0 : decode cJ1_charAt_3b067 0 = .ok (.iload_n 1, 1) := by decide +kernel
theorem dJ1_charAt_3b067_1 : decode cJ1_charAt_3b067 1 = .ok (.aload_n 0, 1) := by decide +kernel
theorem dJ1_charAt_3b067_2 : decode cJ1_charAt_3b067 2 = .ok (.arraylength, 1) := by decide +kernel
theorem dJ1_charAt_3b067_3 : decode cJ1_charAt_3b067 3 = .ok (.invokestatic 9, 3) := by decide +kernel
theorem dJ1_charAt_3b067_6 : decode cJ1_charAt_3b067 6 = .ok (.aload_n 0, 1) := by decide +kernel
theorem dJ1_charAt_3b067_7 : decode cJ1_charAt_3b067 7 = .ok (.iload_n 1, 1) := by decide +kernel
theorem dJ1_charAt_3b067_8 : decode cJ1_charAt_3b067 8 = .ok (.baload, 1) := by decide +kernel
