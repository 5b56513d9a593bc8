theorem dX10_count_136 : decode cX10_count 136 = .ok (.aload_n 0, 1) := by decide +kernel
theorem dX10_count_137 : decode cX10_count 137 = .ok (.getfield 69, 3) := by decide +kernel
theorem dX10_count_140 : decode cX10_count 140 = .ok (.getfield 272, 3) := by decide +kernel
theorem dX10_count_143 : decode cX10_count 143 = .ok (.ireturn, 1) := by decide +kernel
theorem dX10_count_144 : decode cX10_count 144 = .ok (.aload_n 0, 1) := by decide +kernel
theorem dX10_count_145 : decode cX10_count 145 = .ok (.getfield 69, 3) := by decide +kernel
theorem dX10_count_148 : decode cX10_count 148 = .ok (.getfield 317, 3) := by decide +kernel
theorem dX10_count_151 : decode cX10_count 151 = .ok (.ireturn, 1) := by decide +kernel
theorem dX10_count_152 : decode cX10_count 152 = .ok (.aload_n 0, 1) := by decide +kernel
theorem dX10_count_153 : decode cX10_count 153 = .ok (.getfield 69, 3) := by decide +kernel
theorem dX10_count_156 : decode cX10_count 156 = .ok (.getfield 320, 3) := by decide +kernel
theorem dX10_count_159 : decode cX10_count 159 = .ok (.ireturn, 1) := by decide +kernel
theorem dX10_count_160 : decode cX10_count 160 = .ok (.aload_n 0, 1) := by decide +kernel
theorem dX10_count_161 : decode cX10_count 161 = .ok (.getfield 69, 3) := by decide +kernel
theorem dX10_count_164 : decode cX10_count 164 = .ok (.getfield 323, 3) := by decide +kernel
theorem dX10_count_167 : decode cX10_count 167 = .ok (.ireturn, 1) := by decide +kernel
theorem dX10_count_168 : decode cX10_count 168 = .ok (.aload_n 0, 1) := by decide +kernel
theorem dX10_count_169 : decode cX10_count 169 = .ok (.getfield 45, 3) := by decide +kernel
theorem dX10_count_172 : decode cX10_count 172 = .ok (.getfield 200, 3) := by decide +kernel
theorem dX10_count_175 : decode cX10_count 175 = .ok (.ireturn, 1) := by decide +kernel
theorem dX10_count_176 : decode cX10_count 176 = .ok (.aload_n 0, 1) := by decide +kernel
theorem dX10_count_177 : decode cX10_count 177 = .ok (.getfield 29, 3) := by decide +kernel
theorem dX10_count_180 : decode cX10_count 180 = .ok (.invokevirtual 326, 3) := by decide +kernel
theorem dX10_count_183 : decode cX10_count 183 = .ok (.ireturn, 1) := by decide +kernel
theorem dX10_count_184 : decode cX10_count 184 = .ok (.iconst (-1), 1) := by decide +kernel
theorem dX10_count_185 : decode cX10_count 185 = .ok (.ireturn, 1) := by decide +kernel
theorem dX10_within_0 : decode cX10_within 0 = .ok (.iload_n 0, 1) := by decide +kernel
theorem dX10_within_1 : decode cX10_within 1 = .ok (.iload_n 1, 1) := by decide +kernel
theorem dX10_within_2 : decode cX10_within 2 = .ok (.if_icmp .lt 12, 3) := by decide +kernel
theorem dX10_within_5 : decode cX10_within 5 = .ok (.iload_n 0, 1) := by decide +kernel
theorem dX10_within_6 : decode cX10_within 6 = .ok (.iload_n 2, 1) := by decide +kernel
theorem dX10_within_7 : decode cX10_within 7 = .ok (.if_icmp .gt 7, 3) := by decide +kernel
theorem dX10_within_10 : decode cX10_within 10 = .ok (.iconst 1, 1) := by decide +kernel
theorem dX10_within_11 : decode cX10_within 11 = .ok (.goto 4, 3) := by decide +kernel
theorem dX10_within_14 : decode cX10_within 14 = .ok (.iconst 0, 1) := by decide +kernel
theorem dX10_within_15 : decode cX10_within 15 = .ok (.ireturn, 1) := by decide +kernel
theorem dX10_isLand_0 : decode cX10_isLand 0 = .ok (.iload_n 0, 1) := by decide +kernel
theorem dX10_isLand_1 : decode cX10_isLand 1 = .ok (.iconst 0, 1) := by decide +kernel
theorem dX10_isLand_2 : decode cX10_isLand 2 = .ok (.bipush 7, 2) := by decide +kernel
theorem dX10_isLand_4 : decode cX10_isLand 4 = .ok (.invokestatic 88, 3) := by decide +kernel
theorem dX10_isLand_7 : decode cX10_isLand 7 = .ok (.ireturn, 1) := by decide +kernel
theorem dX10_isClass_0 : decode cX10_isClass 0 = .ok (.iload_n 0, 1) := by decide +kernel
theorem dX10_isClass_1 : decode cX10_isClass 1 = .ok (.iconst 0, 1) := by decide +kernel
theorem dX10_isClass_2 : decode cX10_isClass 2 = .ok (.bipush 9, 2) := by decide +kernel
theorem dX10_isClass_4 : decode cX10_isClass 4 = .ok (.invokestatic 88, 3) := by decide +kernel
theorem dX10_isClass_7 : decode cX10_isClass 7 = .ok (.ireturn, 1) := by decide +kernel
theorem dX10_isDay_0 : decode cX10_isDay 0 = .ok (.iload_n 0, 1) := by decide +kernel
theorem dX10_isDay_1 : decode cX10_isDay 1 = .ok (.iconst 0, 1) := by decide +kernel
theorem dX10_isDay_2 : decode cX10_isDay 2 = .ok (.sipush 999, 3) := by decide +kernel
theorem dX10_isDay_5 : decode cX10_isDay 5 = .ok (.invokestatic 88, 3) := by decide +kernel
theorem dX10_isDay_8 : decode cX10_isDay 8 = .ok (.ireturn, 1) := by decide +kernel
theorem dX10_entryPrice_0 : decode cX10_entryPrice 0 = .ok (.aload_n 0, 1) := by decide +kernel
theorem dX10_entryPrice_1 : decode cX10_entryPrice 1 = .ok (.getfield 56, 3) := by decide +kernel
theorem dX10_entryPrice_4 : decode cX10_entryPrice 4 = .ok (.iload_n 1, 1) := by decide +kernel
theorem dX10_entryPrice_5 : decode cX10_entryPrice 5 = .ok (.invokevirtual 249, 3) := by decide +kernel
theorem dX10_entryPrice_8 : decode cX10_entryPrice 8 = .ok (.astore_n 2, 1) := by decide +kernel
theorem dX10_entryPrice_9 : decode cX10_entryPrice 9 = .ok (.aload_n 2, 1) := by decide +kernel
theorem dX10_entryPrice_10 : decode cX10_entryPrice 10 = .ok (.ifnonnull 7, 3) := by decide +kernel
theorem dX10_entryPrice_13 : decode cX10_entryPrice 13 = .ok (.iconst 0, 1) := by decide +kernel
theorem dX10_entryPrice_14 : decode cX10_entryPrice 14 = .ok (.goto 8, 3) := by decide +kernel
theorem dX10_entryPrice_17 : decode cX10_entryPrice 17 = .ok (.aload_n 2, 1) := by decide +kernel
theorem dX10_entryPrice_18 : decode cX10_entryPrice 18 = .ok (.iload_n 1, 1) := by decide +kernel
theorem dX10_entryPrice_19 : decode cX10_entryPrice 19 = .ok (.invokevirtual 328, 3) := by decide +kernel
theorem dX10_entryPrice_22 : decode cX10_entryPrice 22 = .ok (.ireturn, 1) := by decide +kernel
theorem dX10_refusalOfSearch_0 : decode cX10_refusalOfSearch 0 = .ok (.aload_n 0, 1) := by decide +kernel
theorem dX10_refusalOfSearch_1 : decode cX10_refusalOfSearch 1 = .ok (.getfield 76, 3) := by decide +kernel
theorem dX10_refusalOfSearch_4 : decode cX10_refusalOfSearch 4 = .ok (.getfield 284, 3) := by decide +kernel
theorem dX10_refusalOfSearch_7 : decode cX10_refusalOfSearch 7 = .ok (.ifCond .ne 6, 3) := by decide +kernel
theorem dX10_refusalOfSearch_10 : decode cX10_refusalOfSearch 10 = .ok (.bipush (-3), 2) := by decide +kernel
theorem dX10_refusalOfSearch_12 : decode cX10_refusalOfSearch 12 = .ok (.ireturn, 1) := by decide +kernel
theorem dX10_refusalOfSearch_13 : decode cX10_refusalOfSearch 13 = .ok (.iload_n 1, 1) := by decide +kernel
theorem dX10_refusalOfSearch_14 : decode cX10_refusalOfSearch 14 = .ok (.aload_n 0, 1) := by decide +kernel
theorem dX10_refusalOfSearch_15 : decode cX10_refusalOfSearch 15 = .ok (.getfield 76, 3) := by decide +kernel
theorem dX10_refusalOfSearch_18 : decode cX10_refusalOfSearch 18 = .ok (.getfield 331, 3) := by decide +kernel
theorem dX10_refusalOfSearch_21 : decode cX10_refusalOfSearch 21 = .ok (.if_icmp .ge 8, 3) := by decide +kernel
theorem dX10_refusalOfSearch_24 : decode cX10_refusalOfSearch 24 = .ok (.bipush (-2), 2) := by decide +kernel
theorem dX10_refusalOfSearch_26 : decode cX10_refusalOfSearch 26 = .ok (.goto 4, 3) := by decide +kernel
theorem dX10_refusalOfSearch_29 : decode cX10_refusalOfSearch 29 = .ok (.iconst 0, 1) := by decide +kernel
theorem dX10_refusalOfSearch_30 : decode cX10_refusalOfSearch 30 = .ok (.ireturn, 1) := by decide +kernel
theorem dX10_whereabouts_0 : decode cX10_whereabouts 0 = .ok (.aload_n 0, 1) := by decide +kernel
theorem dX10_whereabouts_1 : decode cX10_whereabouts 1 = .ok (.getfield 18, 3) := by decide +kernel
theorem dX10_whereabouts_4 : decode cX10_whereabouts 4 = .ok (.invokevirtual 334, 3) := by decide +kernel
theorem dX10_whereabouts_7 : decode cX10_whereabouts 7 = .ok (.aload_n 0, 1) := by decide +kernel
theorem dX10_whereabouts_8 : decode cX10_whereabouts 8 = .ok (.getfield 29, 3) := by decide +kernel
theorem dX10_whereabouts_11 : decode cX10_whereabouts 11 = .ok (.aconst_null, 1) := by decide +kernel
theorem dX10_whereabouts_12 : decode cX10_whereabouts 12 = .ok (.invokevirtual 338, 3) := by decide +kernel
theorem dX10_whereabouts_15 : decode cX10_whereabouts 15 = .ok (.ldc2_w 342, 3) := by decide +kernel
theorem dX10_whereabouts_18 : decode cX10_whereabouts 18 = .ok (.lxor, 1) := by decide +kernel
theorem dX10_whereabouts_19 : decode cX10_whereabouts 19 = .ok (.land, 1) := by decide +kernel
theorem dX10_whereabouts_20 : decode cX10_whereabouts 20 = .ok (.lstore_n 2, 1) := by decide +kernel
theorem dX10_whereabouts_21 : decode cX10_whereabouts 21 = .ok (.aload_n 0, 1) := by decide +kernel
theorem dX10_whereabouts_22 : decode cX10_whereabouts 22 = .ok (.getfield 18, 3) := by decide +kernel
theorem dX10_whereabouts_25 : decode cX10_whereabouts 25 = .ok (.aload_n 0, 1) := by decide +kernel
theorem dX10_whereabouts_26 : decode cX10_whereabouts 26 = .ok (.getfield 76, 3) := by decide +kernel
theorem dX10_whereabouts_29 : decode cX10_whereabouts 29 = .ok (.getfield 344, 3) := by decide +kernel
theorem dX10_whereabouts_32 : decode cX10_whereabouts 32 = .ok (.invokestatic 295, 3) := by decide +kernel
theorem dX10_whereabouts_35 : decode cX10_whereabouts 35 = .ok (.lload_n 2, 1) := by decide +kernel
theorem dX10_whereabouts_36 : decode cX10_whereabouts 36 = .ok (.iload_n 1, 1) := by decide +kernel
theorem dX10_whereabouts_37 : decode cX10_whereabouts 37 = .ok (.aload_n 0, 1) := by decide +kernel
theorem dX10_whereabouts_38 : decode cX10_whereabouts 38 = .ok (.getfield 76, 3) := by decide +kernel
theorem dX10_whereabouts_41 : decode cX10_whereabouts 41 = .ok (.getfield 331, 3) := by decide +kernel
theorem dX10_whereabouts_44 : decode cX10_whereabouts 44 = .ok (.isub, 1) := by decide +kernel
theorem dX10_whereabouts_45 : decode cX10_whereabouts 45 = .ok (.invokevirtual 347, 3) := by decide +kernel
theorem dX10_whereabouts_48 : decode cX10_whereabouts 48 = .ok (.lreturn, 1) := by decide +kernel
theorem dX11_init_0 : decode cX11_init 0 = .ok (.aload_n 0, 1) := by decide +kernel
theorem dX11_init_1 : decode cX11_init 1 = .ok (.invokespecial 1, 3) := by decide +kernel
theorem dX11_init_4 : decode cX11_init 4 = .ok (.aload_n 0, 1) := by decide +kernel
theorem dX11_init_5 : decode cX11_init 5 = .ok (.bipush 64, 2) := by decide +kernel
theorem dX11_init_7 : decode cX11_init 7 = .ok (.newarray .int, 2) := by decide +kernel
theorem dX11_init_9 : decode cX11_init 9 = .ok (.putfield 7, 3) := by decide +kernel
theorem dX11_init_12 : decode cX11_init 12 = .ok (.aload_n 0, 1) := by decide +kernel
theorem dX11_init_13 : decode cX11_init 13 = .ok (.bipush 64, 2) := by decide +kernel
theorem dX11_init_15 : decode cX11_init 15 = .ok (.newarray .int, 2) := by decide +kernel
theorem dX11_init_17 : decode cX11_init 17 = .ok (.putfield 13, 3) := by decide +kernel
theorem dX11_init_20 : decode cX11_init 20 = .ok (.aload_n 0, 1) := by decide +kernel
theorem dX11_init_21 : decode cX11_init 21 = .ok (.iconst 1, 1) := by decide +kernel
theorem dX11_init_22 : decode cX11_init 22 = .ok (.putfield 16, 3) := by decide +kernel
theorem dX11_init_25 : decode cX11_init 25 = .ok (.aload_n 0, 1) := by decide +kernel
theorem dX11_init_26 : decode cX11_init 26 = .ok (.bipush 9, 2) := by decide +kernel
theorem dX11_init_28 : decode cX11_init 28 = .ok (.newarray .int, 2) := by decide +kernel
theorem dX11_init_30 : decode cX11_init 30 = .ok (.putfield 20, 3) := by decide +kernel
theorem dX11_init_33 : decode cX11_init 33 = .ok (.aload_n 0, 1) := by decide +kernel
theorem dX11_init_34 : decode cX11_init 34 = .ok (.bipush 9, 2) := by decide +kernel
theorem dX11_init_36 : decode cX11_init 36 = .ok (.newarray .int, 2) := by decide +kernel
theorem dX11_init_38 : decode cX11_init 38 = .ok (.putfield 23, 3) := by decide +kernel
theorem dX11_init_41 : decode cX11_init 41 = .ok (.aload_n 0, 1) := by decide +kernel
theorem dX11_init_42 : decode cX11_init 42 = .ok (.bipush 9, 2) := by decide +kernel
theorem dX11_init_44 : decode cX11_init 44 = .ok (.newarray .int, 2) := by decide +kernel
theorem dX11_init_46 : decode cX11_init 46 = .ok (.putfield 26, 3) := by decide +kernel
theorem dX11_init_49 : decode cX11_init 49 = .ok (.aload_n 0, 1) := by decide +kernel
theorem dX11_init_50 : decode cX11_init 50 = .ok (.bipush 9, 2) := by decide +kernel
theorem dX11_init_52 : decode cX11_init 52 = .ok (.newarray .int, 2) := by decide +kernel
theorem dX11_init_54 : decode cX11_init 54 = .ok (.putfield 29, 3) := by decide +kernel
theorem dX11_init_57 : decode cX11_init 57 = .ok (.aload_n 0, 1) := by decide +kernel
theorem dX11_init_58 : decode cX11_init 58 = .ok (.bipush 9, 2) := by decide +kernel
theorem dX11_init_60 : decode cX11_init 60 = .ok (.newarray .int, 2) := by decide +kernel
theorem dX11_init_62 : decode cX11_init 62 = .ok (.putfield 32, 3) := by decide +kernel
theorem dX11_init_65 : decode cX11_init 65 = .ok (.aload_n 0, 1) := by decide +kernel
theorem dX11_init_66 : decode cX11_init 66 = .ok (.bipush 9, 2) := by decide +kernel
theorem dX11_init_68 : decode cX11_init 68 = .ok (.newarray .int, 2) := by decide +kernel
theorem dX11_init_70 : decode cX11_init 70 = .ok (.putfield 35, 3) := by decide +kernel
theorem dX11_init_73 : decode cX11_init 73 = .ok (.aload_n 0, 1) := by decide +kernel
theorem dX11_init_74 : decode cX11_init 74 = .ok (.bipush 9, 2) := by decide +kernel
theorem dX11_init_76 : decode cX11_init 76 = .ok (.newarray .int, 2) := by decide +kernel
theorem dX11_init_78 : decode cX11_init 78 = .ok (.putfield 38, 3) := by decide +kernel
theorem dX11_init_81 : decode cX11_init 81 = .ok (.aload_n 0, 1) := by decide +kernel
theorem dX11_init_82 : decode cX11_init 82 = .ok (.bipush 9, 2) := by decide +kernel
theorem dX11_init_84 : decode cX11_init 84 = .ok (.newarray .int, 2) := by decide +kernel
theorem dX11_init_86 : decode cX11_init 86 = .ok (.putfield 41, 3) := by decide +kernel
theorem dX11_init_89 : decode cX11_init 89 = .ok (.aload_n 0, 1) := by decide +kernel
theorem dX11_init_90 : decode cX11_init 90 = .ok (.bipush 9, 2) := by decide +kernel
theorem dX11_init_92 : decode cX11_init 92 = .ok (.newarray .boolean, 2) := by decide +kernel
theorem dX11_init_94 : decode cX11_init 94 = .ok (.putfield 44, 3) := by decide +kernel
theorem dX11_init_97 : decode cX11_init 97 = .ok (.aload_n 0, 1) := by decide +kernel
theorem dX11_init_98 : decode cX11_init 98 = .ok (.bipush 9, 2) := by decide +kernel
theorem dX11_init_100 : decode cX11_init 100 = .ok (.newarray .boolean, 2) := by decide +kernel
theorem dX11_init_102 : decode cX11_init 102 = .ok (.putfield 48, 3) := by decide +kernel
theorem dX11_init_105 : decode cX11_init 105 = .ok (.aload_n 0, 1) := by decide +kernel
theorem dX11_init_106 : decode cX11_init 106 = .ok (.bipush 120, 2) := by decide +kernel
theorem dX11_init_108 : decode cX11_init 108 = .ok (.newarray .int, 2) := by decide +kernel
theorem dX11_init_110 : decode cX11_init 110 = .ok (.putfield 51, 3) := by decide +kernel
theorem dX11_init_113 : decode cX11_init 113 = .ok (.aload_n 0, 1) := by decide +kernel
theorem dX11_init_114 : decode cX11_init 114 = .ok (.iconst 2, 1) := by decide +kernel
theorem dX11_init_115 : decode cX11_init 115 = .ok (.newarray .int, 2) := by decide +kernel
theorem dX11_init_117 : decode cX11_init 117 = .ok (.putfield 54, 3) := by decide +kernel
theorem dX11_init_120 : decode cX11_init 120 = .ok (.aload_n 0, 1) := by decide +kernel
theorem dX11_init_121 : decode cX11_init 121 = .ok (.bipush 12, 2) := by decide +kernel
theorem dX11_init_123 : decode cX11_init 123 = .ok (.newarray .int, 2) := by decide +kernel
theorem dX11_init_125 : decode cX11_init 125 = .ok (.putfield 57, 3) := by decide +kernel
theorem dX11_init_128 : decode cX11_init 128 = .ok (.aload_n 0, 1) := by decide +kernel
theorem dX11_init_129 : decode cX11_init 129 = .ok (.bipush 36, 2) := by decide +kernel
theorem dX11_init_131 : decode cX11_init 131 = .ok (.newarray .int, 2) := by decide +kernel
theorem dX11_init_133 : decode cX11_init 133 = .ok (.putfield 60, 3) := by decide +kernel
theorem dX11_init_136 : decode cX11_init 136 = .ok (.aload_n 0, 1) := by decide +kernel
theorem dX11_init_137 : decode cX11_init 137 = .ok (.bipush 12, 2) := by decide +kernel
theorem dX11_init_139 : decode cX11_init 139 = .ok (.newarray .int, 2) := by decide +kernel
theorem dX11_init_141 : decode cX11_init 141 = .ok (.putfield 63, 3) := by decide +kernel
theorem dX11_init_144 : decode cX11_init 144 = .ok (.aload_n 0, 1) := by decide +kernel
theorem dX11_init_145 : decode cX11_init 145 = .ok (.bipush 48, 2) := by decide +kernel
theorem dX11_init_147 : decode cX11_init 147 = .ok (.newarray .int, 2) := by decide +kernel
theorem dX11_init_149 : decode cX11_init 149 = .ok (.putfield 66, 3) := by decide +kernel
theorem dX11_init_152 : decode cX11_init 152 = .ok (.aload_n 0, 1) := by decide +kernel
theorem dX11_init_153 : decode cX11_init 153 = .ok (.bipush 60, 2) := by decide +kernel
theorem dX11_init_155 : decode cX11_init 155 = .ok (.newarray .int, 2) := by decide +kernel
theorem dX11_init_157 : decode cX11_init 157 = .ok (.putfield 69, 3) := by decide +kernel
theorem dX11_init_160 : decode cX11_init 160 = .ok (.aload_n 0, 1) := by decide +kernel
theorem dX11_init_161 : decode cX11_init 161 = .ok (.bipush 12, 2) := by decide +kernel
theorem dX11_init_163 : decode cX11_init 163 = .ok (.newarray .int, 2) := by decide +kernel
theorem dX11_init_165 : decode cX11_init 165 = .ok (.putfield 72, 3) := by decide +kernel
theorem dX11_init_168 : decode cX11_init 168 = .ok (.aload_n 0, 1) := by decide +kernel
theorem dX11_init_169 : decode cX11_init 169 = .ok (.bipush 12, 2) := by decide +kernel
theorem dX11_init_171 : decode cX11_init 171 = .ok (.newarray .int, 2) := by decide +kernel
theorem dX11_init_173 : decode cX11_init 173 = .ok (.putfield 75, 3) := by decide +kernel
theorem dX11_init_176 : decode cX11_init 176 = .ok (.aload_n 0, 1) := by decide +kernel
theorem dX11_init_177 : decode cX11_init 177 = .ok (.bipush 108, 2) := by decide +kernel
theorem dX11_init_179 : decode cX11_init 179 = .ok (.newarray .int, 2) := by decide +kernel
theorem dX11_init_181 : decode cX11_init 181 = .ok (.putfield 78, 3) := by decide +kernel
theorem dX11_init_184 : decode cX11_init 184 = .ok (.aload_n 0, 1) := by decide +kernel
theorem dX11_init_185 : decode cX11_init 185 = .ok (.bipush 108, 2) := by decide +kernel
theorem dX11_init_187 : decode cX11_init 187 = .ok (.newarray .int, 2) := by decide +kernel
theorem dX11_init_189 : decode cX11_init 189 = .ok (.putfield 81, 3) := by decide +kernel
theorem dX11_init_192 : decode cX11_init 192 = .ok (.aload_n 0, 1) := by decide +kernel
theorem dX11_init_193 : decode cX11_init 193 = .ok (.sipush 1000, 3) := by decide +kernel
theorem dX11_init_196 : decode cX11_init 196 = .ok (.putfield 84, 3) := by decide +kernel
theorem dX11_init_199 : decode cX11_init 199 = .ok (.aload_n 0, 1) := by decide +kernel
theorem dX11_init_200 : decode cX11_init 200 = .ok (.bipush 10, 2) := by decide +kernel
theorem dX11_init_202 : decode cX11_init 202 = .ok (.newarray .int, 2) := by decide +kernel
theorem dX11_init_204 : decode cX11_init 204 = .ok (.putfield 87, 3) := by decide +kernel
theorem dX11_init_207 : decode cX11_init 207 = .ok (.aload_n 0, 1) := by decide +kernel
theorem dX11_init_208 : decode cX11_init 208 = .ok (.sipush 180, 3) := by decide +kernel
theorem dX11_init_211 : decode cX11_init 211 = .ok (.putfield 90, 3) := by decide +kernel
theorem dX11_init_214 : decode cX11_init 214 = .ok (.aload_n 0, 1) := by decide +kernel
theorem dX11_init_215 : decode cX11_init 215 = .ok (.bipush 64, 2) := by decide +kernel
theorem dX11_init_217 : decode cX11_init 217 = .ok (.newarray .boolean, 2) := by decide +kernel
theorem dX11_init_219 : decode cX11_init 219 = .ok (.putfield 93, 3) := by decide +kernel
theorem dX11_init_222 : decode cX11_init 222 = .ok (.aload_n 0, 1) := by decide +kernel
theorem dX11_init_223 : decode cX11_init 223 = .ok (.bipush 64, 2) := by decide +kernel
theorem dX11_init_225 : decode cX11_init 225 = .ok (.newarray .int, 2) := by decide +kernel
theorem dX11_init_227 : decode cX11_init 227 = .ok (.putfield 96, 3) := by decide +kernel
theorem dX11_init_230 : decode cX11_init 230 = .ok (.aload_n 0, 1) := by decide +kernel
theorem dX11_init_231 : decode cX11_init 231 = .ok (.sipush 512, 3) := by decide +kernel
theorem dX11_init_234 : decode cX11_init 234 = .ok (.newarray .int, 2) := by decide +kernel
theorem dX11_init_236 : decode cX11_init 236 = .ok (.putfield 99, 3) := by decide +kernel
theorem dX11_init_239 : decode cX11_init 239 = .ok (.aload_n 0, 1) := by decide +kernel
theorem dX11_init_240 : decode cX11_init 240 = .ok (.sipush 512, 3) := by decide +kernel
theorem dX11_init_243 : decode cX11_init 243 = .ok (.newarray .boolean, 2) := by decide +kernel
theorem dX11_init_245 : decode cX11_init 245 = .ok (.putfield 102, 3) := by decide +kernel
theorem dX11_init_248 : decode cX11_init 248 = .ok (.aload_n 0, 1) := by decide +kernel
theorem dX11_init_249 : decode cX11_init 249 = .ok (.bipush 18, 2) := by decide +kernel
theorem dX11_init_251 : decode cX11_init 251 = .ok (.newarray .int, 2) := by decide +kernel
theorem dX11_init_253 : decode cX11_init 253 = .ok (.dup, 1) := by decide +kernel
theorem dX11_init_254 : decode cX11_init 254 = .ok (.iconst 0, 1) := by decide +kernel
theorem dX11_init_255 : decode cX11_init 255 = .ok (.bipush 103, 2) := by decide +kernel
theorem dX11_init_257 : decode cX11_init 257 = .ok (.iastore, 1) := by decide +kernel
theorem dX11_init_258 : decode cX11_init 258 = .ok (.dup, 1) := by decide +kernel
theorem dX11_init_259 : decode cX11_init 259 = .ok (.iconst 1, 1) := by decide +kernel
theorem dX11_init_260 : decode cX11_init 260 = .ok (.bipush 111, 2) := by decide +kernel
theorem dX11_init_262 : decode cX11_init 262 = .ok (.iastore, 1) := by decide +kernel
theorem dX11_init_263 : decode cX11_init 263 = .ok (.dup, 1) := by decide +kernel
theorem dX11_init_264 : decode cX11_init 264 = .ok (.iconst 2, 1) := by decide +kernel
theorem dX11_init_265 : decode cX11_init 265 = .ok (.bipush 108, 2) := by decide +kernel
theorem dX11_init_267 : decode cX11_init 267 = .ok (.iastore, 1) := by decide +kernel
theorem dX11_init_268 : decode cX11_init 268 = .ok (.dup, 1) := by decide +kernel
theorem dX11_init_269 : decode cX11_init 269 = .ok (.iconst 3, 1) := by decide +kernel
theorem dX11_init_270 : decode cX11_init 270 = .ok (.bipush 100, 2) := by decide +kernel
theorem dX11_init_272 : decode cX11_init 272 = .ok (.iastore, 1) := by decide +kernel
theorem dX11_init_273 : decode cX11_init 273 = .ok (.dup, 1) := by decide +kernel
theorem dX11_init_274 : decode cX11_init 274 = .ok (.iconst 4, 1) := by decide +kernel
theorem dX11_init_275 : decode cX11_init 275 = .ok (.iconst 0, 1) := by decide +kernel
theorem dX11_init_276 : decode cX11_init 276 = .ok (.iastore, 1) := by decide +kernel
theorem dX11_init_277 : decode cX11_init 277 = .ok (.dup, 1) := by decide +kernel
theorem dX11_init_278 : decode cX11_init 278 = .ok (.iconst 5, 1) := by decide +kernel
theorem dX11_init_279 : decode cX11_init 279 = .ok (.iconst 0, 1) := by decide +kernel
theorem dX11_init_280 : decode cX11_init 280 = .ok (.iastore, 1) := by decide +kernel
theorem dX11_init_281 : decode cX11_init 281 = .ok (.dup, 1) := by decide +kernel
theorem dX11_init_282 : decode cX11_init 282 = .ok (.bipush 6, 2) := by decide +kernel
theorem dX11_init_284 : decode cX11_init 284 = .ok (.bipush 115, 2) := by decide +kernel
theorem dX11_init_286 : decode cX11_init 286 = .ok (.iastore, 1) := by decide +kernel
theorem dX11_init_287 : decode cX11_init 287 = .ok (.dup, 1) := by decide +kernel
theorem dX11_init_288 : decode cX11_init 288 = .ok (.bipush 7, 2) := by decide +kernel
theorem dX11_init_290 : decode cX11_init 290 = .ok (.bipush 105, 2) := by decide +kernel
theorem dX11_init_292 : decode cX11_init 292 = .ok (.iastore, 1) := by decide +kernel
theorem dX11_init_293 : decode cX11_init 293 = .ok (.dup, 1) := by decide +kernel
theorem dX11_init_294 : decode cX11_init 294 = .ok (.bipush 8, 2) := by decide +kernel
theorem dX11_init_296 : decode cX11_init 296 = .ok (.bipush 108, 2) := by decide +kernel
theorem dX11_init_298 : decode cX11_init 298 = .ok (.iastore, 1) := by decide +kernel
theorem dX11_init_299 : decode cX11_init 299 = .ok (.dup, 1) := by decide +kernel
theorem dX11_init_300 : decode cX11_init 300 = .ok (.bipush 9, 2) := by decide +kernel
theorem dX11_init_302 : decode cX11_init 302 = .ok (.bipush 118, 2) := by decide +kernel
theorem dX11_init_304 : decode cX11_init 304 = .ok (.iastore, 1) := by decide +kernel
theorem dX11_init_305 : decode cX11_init 305 = .ok (.dup, 1) := by decide +kernel
theorem dX11_init_306 : decode cX11_init 306 = .ok (.bipush 10, 2) := by decide +kernel
theorem dX11_init_308 : decode cX11_init 308 = .ok (.bipush 101, 2) := by decide +kernel
theorem dX11_init_310 : decode cX11_init 310 = .ok (.iastore, 1) := by decide +kernel
theorem dX11_init_311 : decode cX11_init 311 = .ok (.dup, 1) := by decide +kernel
theorem dX11_init_312 : decode cX11_init 312 = .ok (.bipush 11, 2) := by decide +kernel
theorem dX11_init_314 : decode cX11_init 314 = .ok (.bipush 114, 2) := by decide +kernel
theorem dX11_init_316 : decode cX11_init 316 = .ok (.iastore, 1) := by decide +kernel
theorem dX11_init_317 : decode cX11_init 317 = .ok (.dup, 1) := by decide +kernel
theorem dX11_init_318 : decode cX11_init 318 = .ok (.bipush 12, 2) := by decide +kernel
theorem dX11_init_320 : decode cX11_init 320 = .ok (.bipush 98, 2) := by decide +kernel
theorem dX11_init_322 : decode cX11_init 322 = .ok (.iastore, 1) := by decide +kernel
theorem dX11_init_323 : decode cX11_init 323 = .ok (.dup, 1) := by decide +kernel
theorem dX11_init_324 : decode cX11_init 324 = .ok (.bipush 13, 2) := by decide +kernel
theorem dX11_init_326 : decode cX11_init 326 = .ok (.bipush 114, 2) := by decide +kernel
theorem dX11_init_328 : decode cX11_init 328 = .ok (.iastore, 1) := by decide +kernel
theorem dX11_init_329 : decode cX11_init 329 = .ok (.dup, 1) := by decide +kernel
theorem dX11_init_330 : decode cX11_init 330 = .ok (.bipush 14, 2) := by decide +kernel
theorem dX11_init_332 : decode cX11_init 332 = .ok (.bipush 111, 2) := by decide +kernel
theorem dX11_init_334 : decode cX11_init 334 = .ok (.iastore, 1) := by decide +kernel
theorem dX11_init_335 : decode cX11_init 335 = .ok (.dup, 1) := by decide +kernel
theorem dX11_init_336 : decode cX11_init 336 = .ok (.bipush 15, 2) := by decide +kernel
theorem dX11_init_338 : decode cX11_init 338 = .ok (.bipush 110, 2) := by decide +kernel
theorem dX11_init_340 : decode cX11_init 340 = .ok (.iastore, 1) := by decide +kernel
theorem dX11_init_341 : decode cX11_init 341 = .ok (.dup, 1) := by decide +kernel
theorem dX11_init_342 : decode cX11_init 342 = .ok (.bipush 16, 2) := by decide +kernel
theorem dX11_init_344 : decode cX11_init 344 = .ok (.bipush 122, 2) := by decide +kernel
theorem dX11_init_346 : decode cX11_init 346 = .ok (.iastore, 1) := by decide +kernel
theorem dX11_init_347 : decode cX11_init 347 = .ok (.dup, 1) := by decide +kernel
theorem dX11_init_348 : decode cX11_init 348 = .ok (.bipush 17, 2) := by decide +kernel
theorem dX11_init_350 : decode cX11_init 350 = .ok (.bipush 101, 2) := by decide +kernel
theorem dX11_init_352 : decode cX11_init 352 = .ok (.iastore, 1) := by decide +kernel
theorem dX11_init_353 : decode cX11_init 353 = .ok (.putfield 105, 3) := by decide +kernel
theorem dX11_init_356 : decode cX11_init 356 = .ok (.aload_n 0, 1) := by decide +kernel
theorem dX11_init_357 : decode cX11_init 357 = .ok (.bipush 64, 2) := by decide +kernel
theorem dX11_init_359 : decode cX11_init 359 = .ok (.newarray .int, 2) := by decide +kernel
theorem dX11_init_361 : decode cX11_init 361 = .ok (.putfield 108, 3) := by decide +kernel
theorem dX11_init_364 : decode cX11_init 364 = .ok (.aload_n 0, 1) := by decide +kernel
theorem dX11_init_365 : decode cX11_init 365 = .ok (.iconst 3, 1) := by decide +kernel
theorem dX11_init_366 : decode cX11_init 366 = .ok (.iload_n 1, 1) := by decide +kernel
theorem dX11_init_367 : decode cX11_init 367 = .ok (.bipush 6, 2) := by decide +kernel
theorem dX11_init_369 : decode cX11_init 369 = .ok (.irem, 1) := by decide +kernel
theorem dX11_init_370 : decode cX11_init 370 = .ok (.bipush 6, 2) := by decide +kernel
theorem dX11_init_372 : decode cX11_init 372 = .ok (.iadd, 1) := by decide +kernel
theorem dX11_init_373 : decode cX11_init 373 = .ok (.bipush 6, 2) := by decide +kernel
theorem dX11_init_375 : decode cX11_init 375 = .ok (.irem, 1) := by decide +kernel
theorem dX11_init_376 : decode cX11_init 376 = .ok (.iadd, 1) := by decide +kernel
theorem dX11_init_377 : decode cX11_init 377 = .ok (.putfield 111, 3) := by decide +kernel
theorem dX11_init_380 : decode cX11_init 380 = .ok (.aload_n 0, 1) := by decide +kernel
theorem dX11_init_381 : decode cX11_init 381 = .ok (.iconst 3, 1) := by decide +kernel
theorem dX11_init_382 : decode cX11_init 382 = .ok (.iload_n 2, 1) := by decide +kernel
theorem dX11_init_383 : decode cX11_init 383 = .ok (.bipush 6, 2) := by decide +kernel
theorem dX11_init_385 : decode cX11_init 385 = .ok (.irem, 1) := by decide +kernel
theorem dX11_init_386 : decode cX11_init 386 = .ok (.bipush 6, 2) := by decide +kernel
theorem dX11_init_388 : decode cX11_init 388 = .ok (.iadd, 1) := by decide +kernel
theorem dX11_init_389 : decode cX11_init 389 = .ok (.bipush 6, 2) := by decide +kernel
theorem dX11_init_391 : decode cX11_init 391 = .ok (.irem, 1) := by decide +kernel
theorem dX11_init_392 : decode cX11_init 392 = .ok (.iadd, 1) := by decide +kernel
theorem dX11_init_393 : decode cX11_init 393 = .ok (.putfield 114, 3) := by decide +kernel
theorem dX11_init_396 : decode cX11_init 396 = .ok (.iconst 0, 1) := by decide +kernel
theorem dX11_init_397 : decode cX11_init 397 = .ok (.istore_n 3, 1) := by decide +kernel
theorem dX11_init_398 : decode cX11_init 398 = .ok (.iload_n 3, 1) := by decide +kernel
theorem dX11_init_399 : decode cX11_init 399 = .ok (.bipush 64, 2) := by decide +kernel
theorem dX11_init_401 : decode cX11_init 401 = .ok (.if_icmp .ge 17, 3) := by decide +kernel
theorem dX11_init_404 : decode cX11_init 404 = .ok (.aload_n 0, 1) := by decide +kernel
theorem dX11_init_405 : decode cX11_init 405 = .ok (.getfield 13, 3) := by decide +kernel
theorem dX11_init_408 : decode cX11_init 408 = .ok (.iload_n 3, 1) := by decide +kernel
theorem dX11_init_409 : decode cX11_init 409 = .ok (.bipush 50, 2) := by decide +kernel
theorem dX11_init_411 : decode cX11_init 411 = .ok (.iastore, 1) := by decide +kernel
theorem dX11_init_412 : decode cX11_init 412 = .ok (.iinc 3 1, 3) := by decide +kernel
theorem dX11_init_415 : decode cX11_init 415 = .ok (.goto (-17), 3) := by decide +kernel
theorem dX11_init_418 : decode cX11_init 418 = .ok (.iconst 0, 1) := by decide +kernel
theorem dX11_init_419 : decode cX11_init 419 = .ok (.istore_n 3, 1) := by decide +kernel
theorem dX11_init_420 : decode cX11_init 420 = .ok (.iload_n 3, 1) := by decide +kernel
theorem dX11_init_421 : decode cX11_init 421 = .ok (.bipush 108, 2) := by decide +kernel
theorem dX11_init_423 : decode cX11_init 423 = .ok (.if_icmp .ge 16, 3) := by decide +kernel
theorem dX11_init_426 : decode cX11_init 426 = .ok (.aload_n 0, 1) := by decide +kernel
theorem dX11_init_427 : decode cX11_init 427 = .ok (.getfield 78, 3) := by decide +kernel
theorem dX11_init_430 : decode cX11_init 430 = .ok (.iload_n 3, 1) := by decide +kernel
theorem dX11_init_431 : decode cX11_init 431 = .ok (.iconst (-1), 1) := by decide +kernel
theorem dX11_init_432 : decode cX11_init 432 = .ok (.iastore, 1) := by decide +kernel
theorem dX11_init_433 : decode cX11_init 433 = .ok (.iinc 3 1, 3) := by decide +kernel
theorem dX11_init_436 : decode cX11_init 436 = .ok (.goto (-16), 3) := by decide +kernel
theorem dX11_init_439 : decode cX11_init 439 = .ok (.return_, 1) := by decide +kernel
theorem dX11_in_0 : decode cX11_in 0 = .ok (.iload_n 0, 1) := by decide +kernel
theorem dX11_in_1 : decode cX11_in 1 = .ok (.iload_n 1, 1) := by decide +kernel
theorem dX11_in_2 : decode cX11_in 2 = .ok (.if_icmp .lt 12, 3) := by decide +kernel
theorem dX11_in_5 : decode cX11_in 5 = .ok (.iload_n 0, 1) := by decide +kernel
theorem dX11_in_6 : decode cX11_in 6 = .ok (.iload_n 2, 1) := by decide +kernel
theorem dX11_in_7 : decode cX11_in 7 = .ok (.if_icmp .gt 7, 3) := by decide +kernel
theorem dX11_in_10 : decode cX11_in 10 = .ok (.iconst 1, 1) := by decide +kernel
theorem dX11_in_11 : decode cX11_in 11 = .ok (.goto 4, 3) := by decide +kernel
theorem dX11_in_14 : decode cX11_in 14 = .ok (.iconst 0, 1) := by decide +kernel
theorem dX11_in_15 : decode cX11_in 15 = .ok (.ireturn, 1) := by decide +kernel
theorem dX11_isCell_0 : decode cX11_isCell 0 = .ok (.iload_n 1, 1) := by decide +kernel
theorem dX11_isCell_1 : decode cX11_isCell 1 = .ok (.iconst 0, 1) := by decide +kernel
theorem dX11_isCell_2 : decode cX11_isCell 2 = .ok (.aload_n 0, 1) := by decide +kernel
theorem dX11_isCell_3 : decode cX11_isCell 3 = .ok (.getfield 111, 3) := by decide +kernel
theorem dX11_isCell_6 : decode cX11_isCell 6 = .ok (.aload_n 0, 1) := by decide +kernel
theorem dX11_isCell_7 : decode cX11_isCell 7 = .ok (.getfield 114, 3) := by decide +kernel
theorem dX11_isCell_10 : decode cX11_isCell 10 = .ok (.imul, 1) := by decide +kernel
theorem dX11_isCell_11 : decode cX11_isCell 11 = .ok (.iconst 1, 1) := by decide +kernel
theorem dX11_isCell_12 : decode cX11_isCell 12 = .ok (.isub, 1) := by decide +kernel
theorem dX11_isCell_13 : decode cX11_isCell 13 = .ok (.invokestatic 117, 3) := by decide +kernel
theorem dX11_isCell_16 : decode cX11_isCell 16 = .ok (.ireturn, 1) := by decide +kernel
theorem dX11_isStand_0 : decode cX11_isStand 0 = .ok (.iload_n 1, 1) := by decide +kernel
theorem dX11_isStand_1 : decode cX11_isStand 1 = .ok (.iconst 0, 1) := by decide +kernel
theorem dX11_isStand_2 : decode cX11_isStand 2 = .ok (.aload_n 0, 1) := by decide +kernel
theorem dX11_isStand_3 : decode cX11_isStand 3 = .ok (.getfield 121, 3) := by decide +kernel
theorem dX11_isStand_6 : decode cX11_isStand 6 = .ok (.iconst 1, 1) := by decide +kernel
theorem dX11_isStand_7 : decode cX11_isStand 7 = .ok (.isub, 1) := by decide +kernel
theorem dX11_isStand_8 : decode cX11_isStand 8 = .ok (.invokestatic 117, 3) := by decide +kernel
theorem dX11_isStand_11 : decode cX11_isStand 11 = .ok (.ireturn, 1) := by decide +kernel
theorem dX11_isLaid_0 : decode cX11_isLaid 0 = .ok (.aload_n 0, 1) := by decide +kernel
theorem dX11_isLaid_1 : decode cX11_isLaid 1 = .ok (.iload_n 1, 1) := by decide +kernel
theorem dX11_isLaid_2 : decode cX11_isLaid 2 = .ok (.invokevirtual 124, 3) := by decide +kernel
theorem dX11_isLaid_5 : decode cX11_isLaid 5 = .ok (.ifCond .eq 17, 3) := by decide +kernel
theorem dX11_isLaid_8 : decode cX11_isLaid 8 = .ok (.aload_n 0, 1) := by decide +kernel
theorem dX11_isLaid_9 : decode cX11_isLaid 9 = .ok (.getfield 38, 3) := by decide +kernel
theorem dX11_isLaid_12 : decode cX11_isLaid 12 = .ok (.iload_n 1, 1) := by decide +kernel
theorem dX11_isLaid_13 : decode cX11_isLaid 13 = .ok (.iaload, 1) := by decide +kernel
theorem dX11_isLaid_14 : decode cX11_isLaid 14 = .ok (.iconst (-1), 1) := by decide +kernel
theorem dX11_isLaid_15 : decode cX11_isLaid 15 = .ok (.if_icmp .eq 7, 3) := by decide +kernel
theorem dX11_isLaid_18 : decode cX11_isLaid 18 = .ok (.iconst 1, 1) := by decide +kernel
theorem dX11_isLaid_19 : decode cX11_isLaid 19 = .ok (.goto 4, 3) := by decide +kernel
theorem dX11_isLaid_22 : decode cX11_isLaid 22 = .ok (.iconst 0, 1) := by decide +kernel
theorem dX11_isLaid_23 : decode cX11_isLaid 23 = .ok (.ireturn, 1) := by decide +kernel
theorem dX11_isEdge_0 : decode cX11_isEdge 0 = .ok (.iload_n 1, 1) := by decide +kernel
theorem dX11_isEdge_1 : decode cX11_isEdge 1 = .ok (.aload_n 0, 1) := by decide +kernel
theorem dX11_isEdge_2 : decode cX11_isEdge 2 = .ok (.getfield 111, 3) := by decide +kernel
theorem dX11_isEdge_5 : decode cX11_isEdge 5 = .ok (.irem, 1) := by decide +kernel
theorem dX11_isEdge_6 : decode cX11_isEdge 6 = .ok (.istore_n 2, 1) := by decide +kernel
theorem dX11_isEdge_7 : decode cX11_isEdge 7 = .ok (.iload_n 1, 1) := by decide +kernel
theorem dX11_isEdge_8 : decode cX11_isEdge 8 = .ok (.aload_n 0, 1) := by decide +kernel
theorem dX11_isEdge_9 : decode cX11_isEdge 9 = .ok (.getfield 111, 3) := by decide +kernel
theorem dX11_isEdge_12 : decode cX11_isEdge 12 = .ok (.idiv, 1) := by decide +kernel
theorem dX11_isEdge_13 : decode cX11_isEdge 13 = .ok (.istore_n 3, 1) := by decide +kernel
theorem dX11_isEdge_14 : decode cX11_isEdge 14 = .ok (.iload_n 2, 1) := by decide +kernel
theorem dX11_isEdge_15 : decode cX11_isEdge 15 = .ok (.ifCond .eq 27, 3) := by decide +kernel
theorem dX11_isEdge_18 : decode cX11_isEdge 18 = .ok (.iload_n 3, 1) := by decide +kernel
theorem dX11_isEdge_19 : decode cX11_isEdge 19 = .ok (.ifCond .eq 23, 3) := by decide +kernel
theorem dX11_isEdge_22 : decode cX11_isEdge 22 = .ok (.iload_n 2, 1) := by decide +kernel
theorem dX11_isEdge_23 : decode cX11_isEdge 23 = .ok (.aload_n 0, 1) := by decide +kernel
theorem dX11_isEdge_24 : decode cX11_isEdge 24 = .ok (.getfield 111, 3) := by decide +kernel
theorem dX11_isEdge_27 : decode cX11_isEdge 27 = .ok (.iconst 1, 1) := by decide +kernel
theorem dX11_isEdge_28 : decode cX11_isEdge 28 = .ok (.isub, 1) := by decide +kernel
theorem dX11_isEdge_29 : decode cX11_isEdge 29 = .ok (.if_icmp .eq 13, 3) := by decide +kernel
theorem dX11_isEdge_32 : decode cX11_isEdge 32 = .ok (.iload_n 3, 1) := by decide +kernel
theorem dX11_isEdge_33 : decode cX11_isEdge 33 = .ok (.aload_n 0, 1) := by decide +kernel
theorem dX11_isEdge_34 : decode cX11_isEdge 34 = .ok (.getfield 114, 3) := by decide +kernel
theorem dX11_isEdge_37 : decode cX11_isEdge 37 = .ok (.iconst 1, 1) := by decide +kernel
theorem dX11_isEdge_38 : decode cX11_isEdge 38 = .ok (.isub, 1) := by decide +kernel
theorem dX11_isEdge_39 : decode cX11_isEdge 39 = .ok (.if_icmp .ne 7, 3) := by decide +kernel
theorem dX11_isEdge_42 : decode cX11_isEdge 42 = .ok (.iconst 1, 1) := by decide +kernel
theorem dX11_isEdge_43 : decode cX11_isEdge 43 = .ok (.goto 4, 3) := by decide +kernel
theorem dX11_isEdge_46 : decode cX11_isEdge 46 = .ok (.iconst 0, 1) := by decide +kernel
theorem dX11_isEdge_47 : decode cX11_isEdge 47 = .ok (.ireturn, 1) := by decide +kernel
theorem dX11_laid_0 : decode cX11_laid 0 = .ok (.iconst 0, 1) := by decide +kernel
theorem dX11_laid_1 : decode cX11_laid 1 = .ok (.istore_n 1, 1) := by decide +kernel
theorem dX11_laid_2 : decode cX11_laid 2 = .ok (.iconst 0, 1) := by decide +kernel
theorem dX11_laid_3 : decode cX11_laid 3 = .ok (.istore_n 2, 1) := by decide +kernel
theorem dX11_laid_4 : decode cX11_laid 4 = .ok (.iload_n 2, 1) := by decide +kernel
theorem dX11_laid_5 : decode cX11_laid 5 = .ok (.aload_n 0, 1) := by decide +kernel
theorem dX11_laid_6 : decode cX11_laid 6 = .ok (.getfield 121, 3) := by decide +kernel
theorem dX11_laid_9 : decode cX11_laid 9 = .ok (.if_icmp .ge 27, 3) := by decide +kernel
theorem dX11_laid_12 : decode cX11_laid 12 = .ok (.iload_n 1, 1) := by decide +kernel
theorem dX11_laid_13 : decode cX11_laid 13 = .ok (.aload_n 0, 1) := by decide +kernel
theorem dX11_laid_14 : decode cX11_laid 14 = .ok (.getfield 38, 3) := by decide +kernel
theorem dX11_laid_17 : decode cX11_laid 17 = .ok (.iload_n 2, 1) := by decide +kernel
theorem dX11_laid_18 : decode cX11_laid 18 = .ok (.iaload, 1) := by decide +kernel
theorem dX11_laid_19 : decode cX11_laid 19 = .ok (.iconst (-1), 1) := by decide +kernel
theorem dX11_laid_20 : decode cX11_laid 20 = .ok (.if_icmp .eq 7, 3) := by decide +kernel
theorem dX11_laid_23 : decode cX11_laid 23 = .ok (.iconst 1, 1) := by decide +kernel
theorem dX11_laid_24 : decode cX11_laid 24 = .ok (.goto 4, 3) := by decide +kernel
theorem dX11_laid_27 : decode cX11_laid 27 = .ok (.iconst 0, 1) := by decide +kernel
theorem dX11_laid_28 : decode cX11_laid 28 = .ok (.iadd, 1) := by decide +kernel
theorem dX11_laid_29 : decode cX11_laid 29 = .ok (.istore_n 1, 1) := by decide +kernel
theorem dX11_laid_30 : decode cX11_laid 30 = .ok (.iinc 2 1, 3) := by decide +kernel
theorem dX11_laid_33 : decode cX11_laid 33 = .ok (.goto (-29), 3) := by decide +kernel
theorem dX11_laid_36 : decode cX11_laid 36 = .ok (.iload_n 1, 1) := by decide +kernel
theorem dX11_laid_37 : decode cX11_laid 37 = .ok (.ireturn, 1) := by decide +kernel
theorem dX11_ins_0 : decode cX11_ins 0 = .ok (.iconst 0, 1) := by decide +kernel
theorem dX11_ins_1 : decode cX11_ins 1 = .ok (.istore_n 1, 1) := by decide +kernel
theorem dX11_ins_2 : decode cX11_ins 2 = .ok (.iconst 0, 1) := by decide +kernel
theorem dX11_ins_3 : decode cX11_ins 3 = .ok (.istore_n 2, 1) := by decide +kernel
theorem dX11_ins_4 : decode cX11_ins 4 = .ok (.iload_n 2, 1) := by decide +kernel
theorem dX11_ins_5 : decode cX11_ins 5 = .ok (.aload_n 0, 1) := by decide +kernel
theorem dX11_ins_6 : decode cX11_ins 6 = .ok (.getfield 121, 3) := by decide +kernel
theorem dX11_ins_9 : decode cX11_ins 9 = .ok (.if_icmp .ge 26, 3) := by decide +kernel
theorem dX11_ins_12 : decode cX11_ins 12 = .ok (.iload_n 1, 1) := by decide +kernel
theorem dX11_ins_13 : decode cX11_ins 13 = .ok (.aload_n 0, 1) := by decide +kernel
theorem dX11_ins_14 : decode cX11_ins 14 = .ok (.getfield 44, 3) := by decide +kernel
theorem dX11_ins_17 : decode cX11_ins 17 = .ok (.iload_n 2, 1) := by decide +kernel
theorem dX11_ins_18 : decode cX11_ins 18 = .ok (.baload, 1) := by decide +kernel
theorem dX11_ins_19 : decode cX11_ins 19 = .ok (.ifCond .eq 7, 3) := by decide +kernel
theorem dX11_ins_22 : decode cX11_ins 22 = .ok (.iconst 1, 1) := by decide +kernel
theorem dX11_ins_23 : decode cX11_ins 23 = .ok (.goto 4, 3) := by decide +kernel
theorem dX11_ins_26 : decode cX11_ins 26 = .ok (.iconst 0, 1) := by decide +kernel
theorem dX11_ins_27 : decode cX11_ins 27 = .ok (.iadd, 1) := by decide +kernel
theorem dX11_ins_28 : decode cX11_ins 28 = .ok (.istore_n 1, 1) := by decide +kernel
theorem dX11_ins_29 : decode cX11_ins 29 = .ok (.iinc 2 1, 3) := by decide +kernel
theorem dX11_ins_32 : decode cX11_ins 32 = .ok (.goto (-28), 3) := by decide +kernel
theorem dX11_ins_35 : decode cX11_ins 35 = .ok (.iload_n 1, 1) := by decide +kernel
theorem dX11_ins_36 : decode cX11_ins 36 = .ok (.ireturn, 1) := by decide +kernel
theorem dX11_cell_0 : decode cX11_cell 0 = .ok (.aload_n 0, 1) := by decide +kernel
theorem dX11_cell_1 : decode cX11_cell 1 = .ok (.iload_n 1, 1) := by decide +kernel
theorem dX11_cell_2 : decode cX11_cell 2 = .ok (.invokevirtual 128, 3) := by decide +kernel
theorem dX11_cell_5 : decode cX11_cell 5 = .ok (.ifCond .ne 5, 3) := by decide +kernel
theorem dX11_cell_8 : decode cX11_cell 8 = .ok (.iconst (-1), 1) := by decide +kernel
theorem dX11_cell_9 : decode cX11_cell 9 = .ok (.ireturn, 1) := by decide +kernel
theorem dX11_cell_10 : decode cX11_cell 10 = .ok (.iload_n 2, 1) := by decide +kernel
theorem dX11_cell_11 : decode cX11_cell 11 = .ok (.iconst 0, 1) := by decide +kernel
theorem dX11_cell_12 : decode cX11_cell 12 = .ok (.iconst 3, 1) := by decide +kernel
theorem dX11_cell_13 : decode cX11_cell 13 = .ok (.invokestatic 117, 3) := by decide +kernel
theorem dX11_cell_16 : decode cX11_cell 16 = .ok (.ifCond .eq 16, 3) := by decide +kernel
theorem dX11_cell_19 : decode cX11_cell 19 = .ok (.iload_n 2, 1) := by decide +kernel
theorem dX11_cell_20 : decode cX11_cell 20 = .ok (.iconst 1, 1) := by decide +kernel
theorem dX11_cell_21 : decode cX11_cell 21 = .ok (.if_icmp .ne 14, 3) := by decide +kernel
theorem dX11_cell_24 : decode cX11_cell 24 = .ok (.aload_n 0, 1) := by decide +kernel
theorem dX11_cell_25 : decode cX11_cell 25 = .ok (.iload_n 1, 1) := by decide +kernel
theorem dX11_cell_26 : decode cX11_cell 26 = .ok (.invokevirtual 131, 3) := by decide +kernel
theorem dX11_cell_29 : decode cX11_cell 29 = .ok (.ifCond .ne 6, 3) := by decide +kernel
theorem dX11_cell_32 : decode cX11_cell 32 = .ok (.bipush (-2), 2) := by decide +kernel
theorem dX11_cell_34 : decode cX11_cell 34 = .ok (.ireturn, 1) := by decide +kernel
theorem dX11_cell_35 : decode cX11_cell 35 = .ok (.aload_n 0, 1) := by decide +kernel
theorem dX11_cell_36 : decode cX11_cell 36 = .ok (.invokevirtual 134, 3) := by decide +kernel
theorem dX11_cell_39 : decode cX11_cell 39 = .ok (.ifCond .le 6, 3) := by decide +kernel
theorem dX11_cell_42 : decode cX11_cell 42 = .ok (.bipush (-3), 2) := by decide +kernel
theorem dX11_cell_44 : decode cX11_cell 44 = .ok (.ireturn, 1) := by decide +kernel
theorem dX11_cell_45 : decode cX11_cell 45 = .ok (.aload_n 0, 1) := by decide +kernel
theorem dX11_cell_46 : decode cX11_cell 46 = .ok (.getfield 7, 3) := by decide +kernel
theorem dX11_cell_49 : decode cX11_cell 49 = .ok (.iload_n 1, 1) := by decide +kernel
theorem dX11_cell_50 : decode cX11_cell 50 = .ok (.iaload, 1) := by decide +kernel
theorem dX11_cell_51 : decode cX11_cell 51 = .ok (.istore_n 3, 1) := by decide +kernel
theorem dX11_cell_52 : decode cX11_cell 52 = .ok (.aload_n 0, 1) := by decide +kernel
theorem dX11_cell_53 : decode cX11_cell 53 = .ok (.getfield 7, 3) := by decide +kernel
theorem dX11_cell_56 : decode cX11_cell 56 = .ok (.iload_n 1, 1) := by decide +kernel
theorem dX11_cell_57 : decode cX11_cell 57 = .ok (.iload_n 2, 1) := by decide +kernel
theorem dX11_cell_58 : decode cX11_cell 58 = .ok (.iastore, 1) := by decide +kernel
theorem dX11_cell_59 : decode cX11_cell 59 = .ok (.iload_n 3, 1) := by decide +kernel
theorem dX11_cell_60 : decode cX11_cell 60 = .ok (.ireturn, 1) := by decide +kernel
theorem dX11_bears_0 : decode cX11_bears 0 = .ok (.aload_n 0, 1) := by decide +kernel
theorem dX11_bears_1 : decode cX11_bears 1 = .ok (.iload_n 1, 1) := by decide +kernel
theorem dX11_bears_2 : decode cX11_bears 2 = .ok (.invokevirtual 128, 3) := by decide +kernel
theorem dX11_bears_5 : decode cX11_bears 5 = .ok (.ifCond .ne 5, 3) := by decide +kernel
theorem dX11_bears_8 : decode cX11_bears 8 = .ok (.iconst (-1), 1) := by decide +kernel
theorem dX11_bears_9 : decode cX11_bears 9 = .ok (.ireturn, 1) := by decide +kernel
theorem dX11_bears_10 : decode cX11_bears 10 = .ok (.iload_n 2, 1) := by decide +kernel
theorem dX11_bears_11 : decode cX11_bears 11 = .ok (.iconst 0, 1) := by decide +kernel
theorem dX11_bears_12 : decode cX11_bears 12 = .ok (.bipush 99, 2) := by decide +kernel
theorem dX11_bears_14 : decode cX11_bears 14 = .ok (.invokestatic 117, 3) := by decide +kernel
theorem dX11_bears_17 : decode cX11_bears 17 = .ok (.ifCond .ne 6, 3) := by decide +kernel
theorem dX11_bears_20 : decode cX11_bears 20 = .ok (.bipush (-2), 2) := by decide +kernel
theorem dX11_bears_22 : decode cX11_bears 22 = .ok (.ireturn, 1) := by decide +kernel
theorem dX11_bears_23 : decode cX11_bears 23 = .ok (.aload_n 0, 1) := by decide +kernel
theorem dX11_bears_24 : decode cX11_bears 24 = .ok (.invokevirtual 134, 3) := by decide +kernel
theorem dX11_bears_27 : decode cX11_bears 27 = .ok (.ifCond .le 6, 3) := by decide +kernel
theorem dX11_bears_30 : decode cX11_bears 30 = .ok (.bipush (-3), 2) := by decide +kernel
theorem dX11_bears_32 : decode cX11_bears 32 = .ok (.ireturn, 1) := by decide +kernel
theorem dX11_bears_33 : decode cX11_bears 33 = .ok (.aload_n 0, 1) := by decide +kernel
theorem dX11_bears_34 : decode cX11_bears 34 = .ok (.getfield 13, 3) := by decide +kernel
theorem dX11_bears_37 : decode cX11_bears 37 = .ok (.iload_n 1, 1) := by decide +kernel
theorem dX11_bears_38 : decode cX11_bears 38 = .ok (.iaload, 1) := by decide +kernel
theorem dX11_bears_39 : decode cX11_bears 39 = .ok (.istore_n 3, 1) := by decide +kernel
theorem dX11_bears_40 : decode cX11_bears 40 = .ok (.aload_n 0, 1) := by decide +kernel
theorem dX11_bears_41 : decode cX11_bears 41 = .ok (.getfield 13, 3) := by decide +kernel
theorem dX11_bears_44 : decode cX11_bears 44 = .ok (.iload_n 1, 1) := by decide +kernel
theorem dX11_bears_45 : decode cX11_bears 45 = .ok (.iload_n 2, 1) := by decide +kernel
theorem dX11_bears_46 : decode cX11_bears 46 = .ok (.iastore, 1) := by decide +kernel
theorem dX11_bears_47 : decode cX11_bears 47 = .ok (.iload_n 3, 1) := by decide +kernel
theorem dX11_bears_48 : decode cX11_bears 48 = .ok (.ireturn, 1) := by decide +kernel
theorem dX11_aisle_0 : decode cX11_aisle 0 = .ok (.iload_n 1, 1) := by decide +kernel
theorem dX11_aisle_1 : decode cX11_aisle 1 = .ok (.iconst 0, 1) := by decide +kernel
theorem dX11_aisle_2 : decode cX11_aisle 2 = .ok (.iconst 3, 1) := by decide +kernel
theorem dX11_aisle_3 : decode cX11_aisle 3 = .ok (.invokestatic 117, 3) := by decide +kernel
theorem dX11_aisle_6 : decode cX11_aisle 6 = .ok (.ifCond .ne 6, 3) := by decide +kernel
theorem dX11_aisle_9 : decode cX11_aisle 9 = .ok (.bipush (-2), 2) := by decide +kernel
theorem dX11_aisle_11 : decode cX11_aisle 11 = .ok (.ireturn, 1) := by decide +kernel
theorem dX11_aisle_12 : decode cX11_aisle 12 = .ok (.aload_n 0, 1) := by decide +kernel
theorem dX11_aisle_13 : decode cX11_aisle 13 = .ok (.invokevirtual 134, 3) := by decide +kernel
theorem dX11_aisle_16 : decode cX11_aisle 16 = .ok (.ifCond .le 6, 3) := by decide +kernel
theorem dX11_aisle_19 : decode cX11_aisle 19 = .ok (.bipush (-3), 2) := by decide +kernel
theorem dX11_aisle_21 : decode cX11_aisle 21 = .ok (.ireturn, 1) := by decide +kernel
theorem dX11_aisle_22 : decode cX11_aisle 22 = .ok (.aload_n 0, 1) := by decide +kernel
theorem dX11_aisle_23 : decode cX11_aisle 23 = .ok (.getfield 16, 3) := by decide +kernel
theorem dX11_aisle_26 : decode cX11_aisle 26 = .ok (.istore_n 2, 1) := by decide +kernel
theorem dX11_aisle_27 : decode cX11_aisle 27 = .ok (.aload_n 0, 1) := by decide +kernel
theorem dX11_aisle_28 : decode cX11_aisle 28 = .ok (.iload_n 1, 1) := by decide +kernel
theorem dX11_aisle_29 : decode cX11_aisle 29 = .ok (.putfield 16, 3) := by decide +kernel
theorem dX11_aisle_32 : decode cX11_aisle 32 = .ok (.iload_n 2, 1) := by decide +kernel
theorem dX11_aisle_33 : decode cX11_aisle 33 = .ok (.ireturn, 1) := by decide +kernel
theorem dX11_stand_0 : decode cX11_stand 0 = .ok (.iload_n 1, 1) := by decide +kernel
theorem dX11_stand_1 : decode cX11_stand 1 = .ok (.iconst 0, 1) := by decide +kernel
theorem dX11_stand_2 : decode cX11_stand 2 = .ok (.iconst 4, 1) := by decide +kernel
theorem dX11_stand_3 : decode cX11_stand 3 = .ok (.invokestatic 117, 3) := by decide +kernel
theorem dX11_stand_6 : decode cX11_stand 6 = .ok (.ifCond .eq 54, 3) := by decide +kernel
theorem dX11_stand_9 : decode cX11_stand 9 = .ok (.iload_n 2, 1) := by decide +kernel
theorem dX11_stand_10 : decode cX11_stand 10 = .ok (.iconst 0, 1) := by decide +kernel
theorem dX11_stand_11 : decode cX11_stand 11 = .ok (.bipush 7, 2) := by decide +kernel
theorem dX11_stand_13 : decode cX11_stand 13 = .ok (.invokestatic 117, 3) := by decide +kernel
theorem dX11_stand_16 : decode cX11_stand 16 = .ok (.ifCond .eq 44, 3) := by decide +kernel
theorem dX11_stand_19 : decode cX11_stand 19 = .ok (.iload_n 3, 1) := by decide +kernel
theorem dX11_stand_20 : decode cX11_stand 20 = .ok (.iconst 0, 1) := by decide +kernel
theorem dX11_stand_21 : decode cX11_stand 21 = .ok (.bipush 9, 2) := by decide +kernel
theorem dX11_stand_23 : decode cX11_stand 23 = .ok (.invokestatic 117, 3) := by decide +kernel
theorem dX11_stand_26 : decode cX11_stand 26 = .ok (.ifCond .eq 34, 3) := by decide +kernel
theorem dX11_stand_29 : decode cX11_stand 29 = .ok (.iload 4, 2) := by decide +kernel
theorem dX11_stand_31 : decode cX11_stand 31 = .ok (.iconst 1, 1) := by decide +kernel
theorem dX11_stand_32 : decode cX11_stand 32 = .ok (.iconst 4, 1) := by decide +kernel
theorem dX11_stand_33 : decode cX11_stand 33 = .ok (.invokestatic 117, 3) := by decide +kernel
theorem dX11_stand_36 : decode cX11_stand 36 = .ok (.ifCond .eq 24, 3) := by decide +kernel
theorem dX11_stand_39 : decode cX11_stand 39 = .ok (.iload 5, 2) := by decide +kernel
theorem dX11_stand_41 : decode cX11_stand 41 = .ok (.iconst 1, 1) := by decide +kernel
theorem dX11_stand_42 : decode cX11_stand 42 = .ok (.iconst 4, 1) := by decide +kernel
theorem dX11_stand_43 : decode cX11_stand 43 = .ok (.invokestatic 117, 3) := by decide +kernel
theorem dX11_stand_46 : decode cX11_stand 46 = .ok (.ifCond .eq 14, 3) := by decide +kernel
theorem dX11_stand_49 : decode cX11_stand 49 = .ok (.iload 6, 2) := by decide +kernel
theorem dX11_stand_51 : decode cX11_stand 51 = .ok (.iconst 0, 1) := by decide +kernel
theorem dX11_stand_52 : decode cX11_stand 52 = .ok (.bipush 99, 2) := by decide +kernel
theorem dX11_stand_54 : decode cX11_stand 54 = .ok (.invokestatic 117, 3) := by decide +kernel
theorem dX11_stand_57 : decode cX11_stand 57 = .ok (.ifCond .ne 6, 3) := by decide +kernel
theorem dX11_stand_60 : decode cX11_stand 60 = .ok (.bipush (-2), 2) := by decide +kernel
theorem dX11_stand_62 : decode cX11_stand 62 = .ok (.ireturn, 1) := by decide +kernel
theorem dX11_stand_63 : decode cX11_stand 63 = .ok (.aload_n 0, 1) := by decide +kernel
theorem dX11_stand_64 : decode cX11_stand 64 = .ok (.getfield 121, 3) := by decide +kernel
theorem dX11_stand_67 : decode cX11_stand 67 = .ok (.bipush 9, 2) := by decide +kernel
theorem dX11_stand_69 : decode cX11_stand 69 = .ok (.if_icmp .ne 6, 3) := by decide +kernel
theorem dX11_stand_72 : decode cX11_stand 72 = .ok (.bipush (-4), 2) := by decide +kernel
theorem dX11_stand_74 : decode cX11_stand 74 = .ok (.ireturn, 1) := by decide +kernel
theorem dX11_stand_75 : decode cX11_stand 75 = .ok (.aload_n 0, 1) := by decide +kernel
