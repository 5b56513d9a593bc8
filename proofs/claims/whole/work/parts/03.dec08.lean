theorem dX11_can_28 : decode cX11_can 28 = .ok (.goto 4, 3) := by decide +kernel
theorem dX11_can_31 : decode cX11_can 31 = .ok (.iconst 0, 1) := by decide +kernel
theorem dX11_can_32 : decode cX11_can 32 = .ok (.ireturn, 1) := by decide +kernel
theorem dX11_bring_0 : decode cX11_bring 0 = .ok (.aload_n 0, 1) := by decide +kernel
theorem dX11_bring_1 : decode cX11_bring 1 = .ok (.iload_n 1, 1) := by decide +kernel
theorem dX11_bring_2 : decode cX11_bring 2 = .ok (.invokevirtual 166, 3) := by decide +kernel
theorem dX11_bring_5 : decode cX11_bring 5 = .ok (.ifCond .ne 5, 3) := by decide +kernel
theorem dX11_bring_8 : decode cX11_bring 8 = .ok (.iconst (-1), 1) := by decide +kernel
theorem dX11_bring_9 : decode cX11_bring 9 = .ok (.ireturn, 1) := by decide +kernel
theorem dX11_bring_10 : decode cX11_bring 10 = .ok (.aload_n 0, 1) := by decide +kernel
theorem dX11_bring_11 : decode cX11_bring 11 = .ok (.getfield 44, 3) := by decide +kernel
theorem dX11_bring_14 : decode cX11_bring 14 = .ok (.iload_n 1, 1) := by decide +kernel
theorem dX11_bring_15 : decode cX11_bring 15 = .ok (.baload, 1) := by decide +kernel
theorem dX11_bring_16 : decode cX11_bring 16 = .ok (.ifCond .eq 6, 3) := by decide +kernel
theorem dX11_bring_19 : decode cX11_bring 19 = .ok (.bipush (-3), 2) := by decide +kernel
theorem dX11_bring_21 : decode cX11_bring 21 = .ok (.ireturn, 1) := by decide +kernel
theorem dX11_bring_22 : decode cX11_bring 22 = .ok (.aload_n 0, 1) := by decide +kernel
theorem dX11_bring_23 : decode cX11_bring 23 = .ok (.iload_n 1, 1) := by decide +kernel
theorem dX11_bring_24 : decode cX11_bring 24 = .ok (.invokevirtual 209, 3) := by decide +kernel
theorem dX11_bring_27 : decode cX11_bring 27 = .ok (.istore_n 2, 1) := by decide +kernel
theorem dX11_bring_28 : decode cX11_bring 28 = .ok (.aload_n 0, 1) := by decide +kernel
theorem dX11_bring_29 : decode cX11_bring 29 = .ok (.getfield 44, 3) := by decide +kernel
theorem dX11_bring_32 : decode cX11_bring 32 = .ok (.iload_n 1, 1) := by decide +kernel
theorem dX11_bring_33 : decode cX11_bring 33 = .ok (.iload_n 2, 1) := by decide +kernel
theorem dX11_bring_34 : decode cX11_bring 34 = .ok (.bastore, 1) := by decide +kernel
theorem dX11_bring_35 : decode cX11_bring 35 = .ok (.iload_n 2, 1) := by decide +kernel
theorem dX11_bring_36 : decode cX11_bring 36 = .ok (.ifCond .eq 7, 3) := by decide +kernel
theorem dX11_bring_39 : decode cX11_bring 39 = .ok (.iconst 1, 1) := by decide +kernel
theorem dX11_bring_40 : decode cX11_bring 40 = .ok (.goto 4, 3) := by decide +kernel
theorem dX11_bring_43 : decode cX11_bring 43 = .ok (.iconst 0, 1) := by decide +kernel
theorem dX11_bring_44 : decode cX11_bring 44 = .ok (.ireturn, 1) := by decide +kernel
theorem dX11_clear_0 : decode cX11_clear 0 = .ok (.aload_n 0, 1) := by decide +kernel
theorem dX11_clear_1 : decode cX11_clear 1 = .ok (.invokevirtual 185, 3) := by decide +kernel
theorem dX11_clear_4 : decode cX11_clear 4 = .ok (.istore_n 1, 1) := by decide +kernel
theorem dX11_clear_5 : decode cX11_clear 5 = .ok (.iconst 0, 1) := by decide +kernel
theorem dX11_clear_6 : decode cX11_clear 6 = .ok (.istore_n 2, 1) := by decide +kernel
theorem dX11_clear_7 : decode cX11_clear 7 = .ok (.iload_n 2, 1) := by decide +kernel
theorem dX11_clear_8 : decode cX11_clear 8 = .ok (.aload_n 0, 1) := by decide +kernel
theorem dX11_clear_9 : decode cX11_clear 9 = .ok (.getfield 121, 3) := by decide +kernel
theorem dX11_clear_12 : decode cX11_clear 12 = .ok (.if_icmp .ge 16, 3) := by decide +kernel
theorem dX11_clear_15 : decode cX11_clear 15 = .ok (.aload_n 0, 1) := by decide +kernel
theorem dX11_clear_16 : decode cX11_clear 16 = .ok (.getfield 44, 3) := by decide +kernel
theorem dX11_clear_19 : decode cX11_clear 19 = .ok (.iload_n 2, 1) := by decide +kernel
theorem dX11_clear_20 : decode cX11_clear 20 = .ok (.iconst 0, 1) := by decide +kernel
theorem dX11_clear_21 : decode cX11_clear 21 = .ok (.bastore, 1) := by decide +kernel
theorem dX11_clear_22 : decode cX11_clear 22 = .ok (.iinc 2 1, 3) := by decide +kernel
theorem dX11_clear_25 : decode cX11_clear 25 = .ok (.goto (-18), 3) := by decide +kernel
theorem dX11_clear_28 : decode cX11_clear 28 = .ok (.iload_n 1, 1) := by decide +kernel
theorem dX11_clear_29 : decode cX11_clear 29 = .ok (.ireturn, 1) := by decide +kernel
theorem dX11_row_0 : decode cX11_row 0 = .ok (.iconst 0, 1) := by decide +kernel
theorem dX11_row_1 : decode cX11_row 1 = .ok (.istore_n 2, 1) := by decide +kernel
theorem dX11_row_2 : decode cX11_row 2 = .ok (.iconst 0, 1) := by decide +kernel
theorem dX11_row_3 : decode cX11_row 3 = .ok (.istore_n 3, 1) := by decide +kernel
theorem dX11_row_4 : decode cX11_row 4 = .ok (.iload_n 3, 1) := by decide +kernel
theorem dX11_row_5 : decode cX11_row 5 = .ok (.aload_n 0, 1) := by decide +kernel
theorem dX11_row_6 : decode cX11_row 6 = .ok (.getfield 121, 3) := by decide +kernel
theorem dX11_row_9 : decode cX11_row 9 = .ok (.if_icmp .ge 29, 3) := by decide +kernel
theorem dX11_row_12 : decode cX11_row 12 = .ok (.iload_n 2, 1) := by decide +kernel
theorem dX11_row_13 : decode cX11_row 13 = .ok (.aload_n 0, 1) := by decide +kernel
theorem dX11_row_14 : decode cX11_row 14 = .ok (.getfield 38, 3) := by decide +kernel
theorem dX11_row_17 : decode cX11_row 17 = .ok (.iload_n 3, 1) := by decide +kernel
theorem dX11_row_18 : decode cX11_row 18 = .ok (.iaload, 1) := by decide +kernel
theorem dX11_row_19 : decode cX11_row 19 = .ok (.iconst (-1), 1) := by decide +kernel
theorem dX11_row_20 : decode cX11_row 20 = .ok (.if_icmp .eq 9, 3) := by decide +kernel
theorem dX11_row_23 : decode cX11_row 23 = .ok (.iconst 1, 1) := by decide +kernel
theorem dX11_row_24 : decode cX11_row 24 = .ok (.iload_n 3, 1) := by decide +kernel
theorem dX11_row_25 : decode cX11_row 25 = .ok (.ishl, 1) := by decide +kernel
theorem dX11_row_26 : decode cX11_row 26 = .ok (.goto 4, 3) := by decide +kernel
theorem dX11_row_29 : decode cX11_row 29 = .ok (.iconst 0, 1) := by decide +kernel
theorem dX11_row_30 : decode cX11_row 30 = .ok (.ior, 1) := by decide +kernel
theorem dX11_row_31 : decode cX11_row 31 = .ok (.istore_n 2, 1) := by decide +kernel
theorem dX11_row_32 : decode cX11_row 32 = .ok (.iinc 3 1, 3) := by decide +kernel
theorem dX11_row_35 : decode cX11_row 35 = .ok (.goto (-31), 3) := by decide +kernel
theorem dX11_row_38 : decode cX11_row 38 = .ok (.iload_n 2, 1) := by decide +kernel
theorem dX11_row_39 : decode cX11_row 39 = .ok (.istore_n 3, 1) := by decide +kernel
theorem dX11_row_40 : decode cX11_row 40 = .ok (.iload_n 3, 1) := by decide +kernel
theorem dX11_row_41 : decode cX11_row 41 = .ok (.ifCond .lt 137, 3) := by decide +kernel
theorem dX11_row_44 : decode cX11_row 44 = .ok (.aload_n 0, 1) := by decide +kernel
theorem dX11_row_45 : decode cX11_row 45 = .ok (.getfield 102, 3) := by decide +kernel
theorem dX11_row_48 : decode cX11_row 48 = .ok (.iload_n 3, 1) := by decide +kernel
theorem dX11_row_49 : decode cX11_row 49 = .ok (.iload_n 3, 1) := by decide +kernel
theorem dX11_row_50 : decode cX11_row 50 = .ok (.iload_n 2, 1) := by decide +kernel
theorem dX11_row_51 : decode cX11_row 51 = .ok (.if_icmp .ne 7, 3) := by decide +kernel
theorem dX11_row_54 : decode cX11_row 54 = .ok (.iconst 1, 1) := by decide +kernel
theorem dX11_row_55 : decode cX11_row 55 = .ok (.goto 4, 3) := by decide +kernel
theorem dX11_row_58 : decode cX11_row 58 = .ok (.iconst 0, 1) := by decide +kernel
theorem dX11_row_59 : decode cX11_row 59 = .ok (.bastore, 1) := by decide +kernel
theorem dX11_row_60 : decode cX11_row 60 = .ok (.iload_n 3, 1) := by decide +kernel
theorem dX11_row_61 : decode cX11_row 61 = .ok (.iload_n 2, 1) := by decide +kernel
theorem dX11_row_62 : decode cX11_row 62 = .ok (.iconst (-1), 1) := by decide +kernel
theorem dX11_row_63 : decode cX11_row 63 = .ok (.ixor, 1) := by decide +kernel
theorem dX11_row_64 : decode cX11_row 64 = .ok (.iand, 1) := by decide +kernel
theorem dX11_row_65 : decode cX11_row 65 = .ok (.ifCond .ne 107, 3) := by decide +kernel
theorem dX11_row_68 : decode cX11_row 68 = .ok (.iload_n 3, 1) := by decide +kernel
theorem dX11_row_69 : decode cX11_row 69 = .ok (.iload_n 2, 1) := by decide +kernel
theorem dX11_row_70 : decode cX11_row 70 = .ok (.if_icmp .eq 102, 3) := by decide +kernel
theorem dX11_row_73 : decode cX11_row 73 = .ok (.aload_n 0, 1) := by decide +kernel
theorem dX11_row_74 : decode cX11_row 74 = .ok (.getfield 99, 3) := by decide +kernel
theorem dX11_row_77 : decode cX11_row 77 = .ok (.iload_n 3, 1) := by decide +kernel
theorem dX11_row_78 : decode cX11_row 78 = .ok (.aload_n 0, 1) := by decide +kernel
theorem dX11_row_79 : decode cX11_row 79 = .ok (.iload_n 3, 1) := by decide +kernel
theorem dX11_row_80 : decode cX11_row 80 = .ok (.invokevirtual 206, 3) := by decide +kernel
theorem dX11_row_83 : decode cX11_row 83 = .ok (.iastore, 1) := by decide +kernel
theorem dX11_row_84 : decode cX11_row 84 = .ok (.iconst 0, 1) := by decide +kernel
theorem dX11_row_85 : decode cX11_row 85 = .ok (.istore 4, 2) := by decide +kernel
theorem dX11_row_87 : decode cX11_row 87 = .ok (.iload 4, 2) := by decide +kernel
theorem dX11_row_89 : decode cX11_row 89 = .ok (.aload_n 0, 1) := by decide +kernel
theorem dX11_row_90 : decode cX11_row 90 = .ok (.getfield 121, 3) := by decide +kernel
theorem dX11_row_93 : decode cX11_row 93 = .ok (.if_icmp .ge 79, 3) := by decide +kernel
theorem dX11_row_96 : decode cX11_row 96 = .ok (.iload_n 3, 1) := by decide +kernel
theorem dX11_row_97 : decode cX11_row 97 = .ok (.iload 4, 2) := by decide +kernel
theorem dX11_row_99 : decode cX11_row 99 = .ok (.ishr, 1) := by decide +kernel
theorem dX11_row_100 : decode cX11_row 100 = .ok (.iconst 1, 1) := by decide +kernel
theorem dX11_row_101 : decode cX11_row 101 = .ok (.iand, 1) := by decide +kernel
theorem dX11_row_102 : decode cX11_row 102 = .ok (.ifCond .ne 22, 3) := by decide +kernel
theorem dX11_row_105 : decode cX11_row 105 = .ok (.aload_n 0, 1) := by decide +kernel
theorem dX11_row_106 : decode cX11_row 106 = .ok (.getfield 99, 3) := by decide +kernel
theorem dX11_row_109 : decode cX11_row 109 = .ok (.iload_n 3, 1) := by decide +kernel
theorem dX11_row_110 : decode cX11_row 110 = .ok (.iaload, 1) := by decide +kernel
theorem dX11_row_111 : decode cX11_row 111 = .ok (.iload 4, 2) := by decide +kernel
theorem dX11_row_113 : decode cX11_row 113 = .ok (.ishr, 1) := by decide +kernel
theorem dX11_row_114 : decode cX11_row 114 = .ok (.iconst 1, 1) := by decide +kernel
theorem dX11_row_115 : decode cX11_row 115 = .ok (.iand, 1) := by decide +kernel
theorem dX11_row_116 : decode cX11_row 116 = .ok (.iconst 1, 1) := by decide +kernel
theorem dX11_row_117 : decode cX11_row 117 = .ok (.if_icmp .ne 7, 3) := by decide +kernel
theorem dX11_row_120 : decode cX11_row 120 = .ok (.iconst 1, 1) := by decide +kernel
theorem dX11_row_121 : decode cX11_row 121 = .ok (.goto 4, 3) := by decide +kernel
theorem dX11_row_124 : decode cX11_row 124 = .ok (.iconst 0, 1) := by decide +kernel
theorem dX11_row_125 : decode cX11_row 125 = .ok (.istore 5, 2) := by decide +kernel
theorem dX11_row_127 : decode cX11_row 127 = .ok (.aload_n 0, 1) := by decide +kernel
theorem dX11_row_128 : decode cX11_row 128 = .ok (.getfield 102, 3) := by decide +kernel
theorem dX11_row_131 : decode cX11_row 131 = .ok (.iload_n 3, 1) := by decide +kernel
theorem dX11_row_132 : decode cX11_row 132 = .ok (.aload_n 0, 1) := by decide +kernel
theorem dX11_row_133 : decode cX11_row 133 = .ok (.getfield 102, 3) := by decide +kernel
theorem dX11_row_136 : decode cX11_row 136 = .ok (.iload_n 3, 1) := by decide +kernel
theorem dX11_row_137 : decode cX11_row 137 = .ok (.baload, 1) := by decide +kernel
theorem dX11_row_138 : decode cX11_row 138 = .ok (.ifCond .ne 22, 3) := by decide +kernel
theorem dX11_row_141 : decode cX11_row 141 = .ok (.iload 5, 2) := by decide +kernel
theorem dX11_row_143 : decode cX11_row 143 = .ok (.ifCond .eq 21, 3) := by decide +kernel
theorem dX11_row_146 : decode cX11_row 146 = .ok (.aload_n 0, 1) := by decide +kernel
theorem dX11_row_147 : decode cX11_row 147 = .ok (.getfield 102, 3) := by decide +kernel
theorem dX11_row_150 : decode cX11_row 150 = .ok (.iload_n 3, 1) := by decide +kernel
theorem dX11_row_151 : decode cX11_row 151 = .ok (.iconst 1, 1) := by decide +kernel
theorem dX11_row_152 : decode cX11_row 152 = .ok (.iload 4, 2) := by decide +kernel
theorem dX11_row_154 : decode cX11_row 154 = .ok (.ishl, 1) := by decide +kernel
theorem dX11_row_155 : decode cX11_row 155 = .ok (.ior, 1) := by decide +kernel
theorem dX11_row_156 : decode cX11_row 156 = .ok (.baload, 1) := by decide +kernel
theorem dX11_row_157 : decode cX11_row 157 = .ok (.ifCond .eq 7, 3) := by decide +kernel
theorem dX11_row_160 : decode cX11_row 160 = .ok (.iconst 1, 1) := by decide +kernel
theorem dX11_row_161 : decode cX11_row 161 = .ok (.goto 4, 3) := by decide +kernel
theorem dX11_row_164 : decode cX11_row 164 = .ok (.iconst 0, 1) := by decide +kernel
theorem dX11_row_165 : decode cX11_row 165 = .ok (.bastore, 1) := by decide +kernel
theorem dX11_row_166 : decode cX11_row 166 = .ok (.iinc 4 1, 3) := by decide +kernel
theorem dX11_row_169 : decode cX11_row 169 = .ok (.goto (-82), 3) := by decide +kernel
theorem dX11_row_172 : decode cX11_row 172 = .ok (.iinc 3 (-1), 3) := by decide +kernel
theorem dX11_row_175 : decode cX11_row 175 = .ok (.goto (-135), 3) := by decide +kernel
theorem dX11_row_178 : decode cX11_row 178 = .ok (.aload_n 0, 1) := by decide +kernel
theorem dX11_row_179 : decode cX11_row 179 = .ok (.getfield 102, 3) := by decide +kernel
theorem dX11_row_182 : decode cX11_row 182 = .ok (.iconst 0, 1) := by decide +kernel
theorem dX11_row_183 : decode cX11_row 183 = .ok (.baload, 1) := by decide +kernel
theorem dX11_row_184 : decode cX11_row 184 = .ok (.ifCond .eq 17, 3) := by decide +kernel
theorem dX11_row_187 : decode cX11_row 187 = .ok (.iload_n 1, 1) := by decide +kernel
theorem dX11_row_188 : decode cX11_row 188 = .ok (.iconst 0, 1) := by decide +kernel
theorem dX11_row_189 : decode cX11_row 189 = .ok (.aload_n 0, 1) := by decide +kernel
theorem dX11_row_190 : decode cX11_row 190 = .ok (.invokevirtual 134, 3) := by decide +kernel
theorem dX11_row_193 : decode cX11_row 193 = .ok (.iconst 1, 1) := by decide +kernel
theorem dX11_row_194 : decode cX11_row 194 = .ok (.isub, 1) := by decide +kernel
theorem dX11_row_195 : decode cX11_row 195 = .ok (.invokestatic 117, 3) := by decide +kernel
theorem dX11_row_198 : decode cX11_row 198 = .ok (.ifCond .ne 5, 3) := by decide +kernel
theorem dX11_row_201 : decode cX11_row 201 = .ok (.iconst (-1), 1) := by decide +kernel
theorem dX11_row_202 : decode cX11_row 202 = .ok (.ireturn, 1) := by decide +kernel
theorem dX11_row_203 : decode cX11_row 203 = .ok (.iconst 0, 1) := by decide +kernel
theorem dX11_row_204 : decode cX11_row 204 = .ok (.istore_n 3, 1) := by decide +kernel
theorem dX11_row_205 : decode cX11_row 205 = .ok (.iconst (-1), 1) := by decide +kernel
theorem dX11_row_206 : decode cX11_row 206 = .ok (.istore 4, 2) := by decide +kernel
theorem dX11_row_208 : decode cX11_row 208 = .ok (.iconst 0, 1) := by decide +kernel
theorem dX11_row_209 : decode cX11_row 209 = .ok (.istore 5, 2) := by decide +kernel
theorem dX11_row_211 : decode cX11_row 211 = .ok (.iload 5, 2) := by decide +kernel
theorem dX11_row_213 : decode cX11_row 213 = .ok (.iload_n 1, 1) := by decide +kernel
theorem dX11_row_214 : decode cX11_row 214 = .ok (.if_icmp .gt 63, 3) := by decide +kernel
theorem dX11_row_217 : decode cX11_row 217 = .ok (.iconst 0, 1) := by decide +kernel
theorem dX11_row_218 : decode cX11_row 218 = .ok (.istore 4, 2) := by decide +kernel
theorem dX11_row_220 : decode cX11_row 220 = .ok (.iload_n 3, 1) := by decide +kernel
theorem dX11_row_221 : decode cX11_row 221 = .ok (.iload 4, 2) := by decide +kernel
theorem dX11_row_223 : decode cX11_row 223 = .ok (.ishr, 1) := by decide +kernel
theorem dX11_row_224 : decode cX11_row 224 = .ok (.iconst 1, 1) := by decide +kernel
theorem dX11_row_225 : decode cX11_row 225 = .ok (.iand, 1) := by decide +kernel
theorem dX11_row_226 : decode cX11_row 226 = .ok (.iconst 1, 1) := by decide +kernel
theorem dX11_row_227 : decode cX11_row 227 = .ok (.if_icmp .eq 31, 3) := by decide +kernel
theorem dX11_row_230 : decode cX11_row 230 = .ok (.aload_n 0, 1) := by decide +kernel
theorem dX11_row_231 : decode cX11_row 231 = .ok (.getfield 99, 3) := by decide +kernel
theorem dX11_row_234 : decode cX11_row 234 = .ok (.iload_n 3, 1) := by decide +kernel
theorem dX11_row_235 : decode cX11_row 235 = .ok (.iaload, 1) := by decide +kernel
theorem dX11_row_236 : decode cX11_row 236 = .ok (.iload 4, 2) := by decide +kernel
theorem dX11_row_238 : decode cX11_row 238 = .ok (.ishr, 1) := by decide +kernel
theorem dX11_row_239 : decode cX11_row 239 = .ok (.iconst 1, 1) := by decide +kernel
theorem dX11_row_240 : decode cX11_row 240 = .ok (.iand, 1) := by decide +kernel
theorem dX11_row_241 : decode cX11_row 241 = .ok (.ifCond .eq 17, 3) := by decide +kernel
theorem dX11_row_244 : decode cX11_row 244 = .ok (.aload_n 0, 1) := by decide +kernel
theorem dX11_row_245 : decode cX11_row 245 = .ok (.getfield 102, 3) := by decide +kernel
theorem dX11_row_248 : decode cX11_row 248 = .ok (.iload_n 3, 1) := by decide +kernel
theorem dX11_row_249 : decode cX11_row 249 = .ok (.iconst 1, 1) := by decide +kernel
theorem dX11_row_250 : decode cX11_row 250 = .ok (.iload 4, 2) := by decide +kernel
theorem dX11_row_252 : decode cX11_row 252 = .ok (.ishl, 1) := by decide +kernel
theorem dX11_row_253 : decode cX11_row 253 = .ok (.ior, 1) := by decide +kernel
theorem dX11_row_254 : decode cX11_row 254 = .ok (.baload, 1) := by decide +kernel
theorem dX11_row_255 : decode cX11_row 255 = .ok (.ifCond .ne 9, 3) := by decide +kernel
theorem dX11_row_258 : decode cX11_row 258 = .ok (.iinc 4 1, 3) := by decide +kernel
theorem dX11_row_261 : decode cX11_row 261 = .ok (.goto (-41), 3) := by decide +kernel
theorem dX11_row_264 : decode cX11_row 264 = .ok (.iload_n 3, 1) := by decide +kernel
theorem dX11_row_265 : decode cX11_row 265 = .ok (.iconst 1, 1) := by decide +kernel
theorem dX11_row_266 : decode cX11_row 266 = .ok (.iload 4, 2) := by decide +kernel
theorem dX11_row_268 : decode cX11_row 268 = .ok (.ishl, 1) := by decide +kernel
theorem dX11_row_269 : decode cX11_row 269 = .ok (.ior, 1) := by decide +kernel
theorem dX11_row_270 : decode cX11_row 270 = .ok (.istore_n 3, 1) := by decide +kernel
theorem dX11_row_271 : decode cX11_row 271 = .ok (.iinc 5 1, 3) := by decide +kernel
theorem dX11_row_274 : decode cX11_row 274 = .ok (.goto (-63), 3) := by decide +kernel
theorem dX11_row_277 : decode cX11_row 277 = .ok (.iload 4, 2) := by decide +kernel
theorem dX11_row_279 : decode cX11_row 279 = .ok (.ireturn, 1) := by decide +kernel
theorem dX11_feed_0 : decode cX11_feed 0 = .ok (.iload_n 3, 1) := by decide +kernel
theorem dX11_feed_1 : decode cX11_feed 1 = .ok (.iconst 1, 1) := by decide +kernel
theorem dX11_feed_2 : decode cX11_feed 2 = .ok (.bipush 8, 2) := by decide +kernel
theorem dX11_feed_4 : decode cX11_feed 4 = .ok (.invokestatic 117, 3) := by decide +kernel
theorem dX11_feed_7 : decode cX11_feed 7 = .ok (.ifCond .ne 6, 3) := by decide +kernel
theorem dX11_feed_10 : decode cX11_feed 10 = .ok (.bipush (-2), 2) := by decide +kernel
theorem dX11_feed_12 : decode cX11_feed 12 = .ok (.ireturn, 1) := by decide +kernel
theorem dX11_feed_13 : decode cX11_feed 13 = .ok (.aload_n 0, 1) := by decide +kernel
theorem dX11_feed_14 : decode cX11_feed 14 = .ok (.getfield 212, 3) := by decide +kernel
theorem dX11_feed_17 : decode cX11_feed 17 = .ok (.iload_n 3, 1) := by decide +kernel
theorem dX11_feed_18 : decode cX11_feed 18 = .ok (.iadd, 1) := by decide +kernel
theorem dX11_feed_19 : decode cX11_feed 19 = .ok (.bipush 120, 2) := by decide +kernel
theorem dX11_feed_21 : decode cX11_feed 21 = .ok (.if_icmp .le 6, 3) := by decide +kernel
theorem dX11_feed_24 : decode cX11_feed 24 = .ok (.bipush (-4), 2) := by decide +kernel
theorem dX11_feed_26 : decode cX11_feed 26 = .ok (.ireturn, 1) := by decide +kernel
theorem dX11_feed_27 : decode cX11_feed 27 = .ok (.iload_n 3, 1) := by decide +kernel
theorem dX11_feed_28 : decode cX11_feed 28 = .ok (.iconst 1, 1) := by decide +kernel
theorem dX11_feed_29 : decode cX11_feed 29 = .ok (.isub, 1) := by decide +kernel
theorem dX11_feed_30 : decode cX11_feed 30 = .ok (.istore 4, 2) := by decide +kernel
theorem dX11_feed_32 : decode cX11_feed 32 = .ok (.iload 4, 2) := by decide +kernel
theorem dX11_feed_34 : decode cX11_feed 34 = .ok (.ifCond .lt 40, 3) := by decide +kernel
theorem dX11_feed_37 : decode cX11_feed 37 = .ok (.aload_n 0, 1) := by decide +kernel
theorem dX11_feed_38 : decode cX11_feed 38 = .ok (.getfield 51, 3) := by decide +kernel
theorem dX11_feed_41 : decode cX11_feed 41 = .ok (.aload_n 0, 1) := by decide +kernel
theorem dX11_feed_42 : decode cX11_feed 42 = .ok (.getfield 212, 3) := by decide +kernel
theorem dX11_feed_45 : decode cX11_feed 45 = .ok (.lload_n 1, 1) := by decide +kernel
theorem dX11_feed_46 : decode cX11_feed 46 = .ok (.bipush 8, 2) := by decide +kernel
theorem dX11_feed_48 : decode cX11_feed 48 = .ok (.iload 4, 2) := by decide +kernel
theorem dX11_feed_50 : decode cX11_feed 50 = .ok (.imul, 1) := by decide +kernel
theorem dX11_feed_51 : decode cX11_feed 51 = .ok (.lshr, 1) := by decide +kernel
theorem dX11_feed_52 : decode cX11_feed 52 = .ok (.ldc2_w 215, 3) := by decide +kernel
theorem dX11_feed_55 : decode cX11_feed 55 = .ok (.land, 1) := by decide +kernel
theorem dX11_feed_56 : decode cX11_feed 56 = .ok (.l2i, 1) := by decide +kernel
theorem dX11_feed_57 : decode cX11_feed 57 = .ok (.iastore, 1) := by decide +kernel
theorem dX11_feed_58 : decode cX11_feed 58 = .ok (.aload_n 0, 1) := by decide +kernel
theorem dX11_feed_59 : decode cX11_feed 59 = .ok (.dup, 1) := by decide +kernel
theorem dX11_feed_60 : decode cX11_feed 60 = .ok (.getfield 212, 3) := by decide +kernel
theorem dX11_feed_63 : decode cX11_feed 63 = .ok (.iconst 1, 1) := by decide +kernel
theorem dX11_feed_64 : decode cX11_feed 64 = .ok (.iadd, 1) := by decide +kernel
theorem dX11_feed_65 : decode cX11_feed 65 = .ok (.putfield 212, 3) := by decide +kernel
theorem dX11_feed_68 : decode cX11_feed 68 = .ok (.iinc 4 (-1), 3) := by decide +kernel
theorem dX11_feed_71 : decode cX11_feed 71 = .ok (.goto (-39), 3) := by decide +kernel
theorem dX11_feed_74 : decode cX11_feed 74 = .ok (.aload_n 0, 1) := by decide +kernel
theorem dX11_feed_75 : decode cX11_feed 75 = .ok (.getfield 212, 3) := by decide +kernel
theorem dX11_feed_78 : decode cX11_feed 78 = .ok (.ireturn, 1) := by decide +kernel
theorem dX11_byteAt_0 : decode cX11_byteAt 0 = .ok (.iload_n 1, 1) := by decide +kernel
theorem dX11_byteAt_1 : decode cX11_byteAt 1 = .ok (.aload_n 0, 1) := by decide +kernel
theorem dX11_byteAt_2 : decode cX11_byteAt 2 = .ok (.getfield 212, 3) := by decide +kernel
theorem dX11_byteAt_5 : decode cX11_byteAt 5 = .ok (.if_icmp .ge 12, 3) := by decide +kernel
theorem dX11_byteAt_8 : decode cX11_byteAt 8 = .ok (.aload_n 0, 1) := by decide +kernel
theorem dX11_byteAt_9 : decode cX11_byteAt 9 = .ok (.getfield 51, 3) := by decide +kernel
theorem dX11_byteAt_12 : decode cX11_byteAt 12 = .ok (.iload_n 1, 1) := by decide +kernel
theorem dX11_byteAt_13 : decode cX11_byteAt 13 = .ok (.iaload, 1) := by decide +kernel
theorem dX11_byteAt_14 : decode cX11_byteAt 14 = .ok (.goto 4, 3) := by decide +kernel
theorem dX11_byteAt_17 : decode cX11_byteAt 17 = .ok (.iconst (-1), 1) := by decide +kernel
theorem dX11_byteAt_18 : decode cX11_byteAt 18 = .ok (.ireturn, 1) := by decide +kernel
theorem dX11_must_0 : decode cX11_must 0 = .ok (.aload_n 0, 1) := by decide +kernel
theorem dX11_must_1 : decode cX11_must 1 = .ok (.getfield 217, 3) := by decide +kernel
theorem dX11_must_4 : decode cX11_must 4 = .ok (.ifCond .ne 28, 3) := by decide +kernel
theorem dX11_must_7 : decode cX11_must 7 = .ok (.aload_n 0, 1) := by decide +kernel
theorem dX11_must_8 : decode cX11_must 8 = .ok (.aload_n 0, 1) := by decide +kernel
theorem dX11_must_9 : decode cX11_must 9 = .ok (.getfield 221, 3) := by decide +kernel
theorem dX11_must_12 : decode cX11_must 12 = .ok (.invokevirtual 224, 3) := by decide +kernel
theorem dX11_must_15 : decode cX11_must 15 = .ok (.iload_n 1, 1) := by decide +kernel
theorem dX11_must_16 : decode cX11_must 16 = .ok (.if_icmp .ne 16, 3) := by decide +kernel
theorem dX11_must_19 : decode cX11_must 19 = .ok (.aload_n 0, 1) := by decide +kernel
theorem dX11_must_20 : decode cX11_must 20 = .ok (.dup, 1) := by decide +kernel
theorem dX11_must_21 : decode cX11_must 21 = .ok (.getfield 221, 3) := by decide +kernel
theorem dX11_must_24 : decode cX11_must 24 = .ok (.iconst 1, 1) := by decide +kernel
theorem dX11_must_25 : decode cX11_must 25 = .ok (.iadd, 1) := by decide +kernel
theorem dX11_must_26 : decode cX11_must 26 = .ok (.putfield 221, 3) := by decide +kernel
theorem dX11_must_29 : decode cX11_must 29 = .ok (.goto 8, 3) := by decide +kernel
theorem dX11_must_32 : decode cX11_must 32 = .ok (.aload_n 0, 1) := by decide +kernel
theorem dX11_must_33 : decode cX11_must 33 = .ok (.iconst 1, 1) := by decide +kernel
theorem dX11_must_34 : decode cX11_must 34 = .ok (.putfield 217, 3) := by decide +kernel
theorem dX11_must_37 : decode cX11_must 37 = .ok (.return_, 1) := by decide +kernel
theorem dX11_number_0 : decode cX11_number 0 = .ok (.iconst 0, 1) := by decide +kernel
theorem dX11_number_1 : decode cX11_number 1 = .ok (.istore_n 1, 1) := by decide +kernel
theorem dX11_number_2 : decode cX11_number 2 = .ok (.aload_n 0, 1) := by decide +kernel
theorem dX11_number_3 : decode cX11_number 3 = .ok (.iconst 0, 1) := by decide +kernel
theorem dX11_number_4 : decode cX11_number 4 = .ok (.putfield 227, 3) := by decide +kernel
theorem dX11_number_7 : decode cX11_number 7 = .ok (.aload_n 0, 1) := by decide +kernel
theorem dX11_number_8 : decode cX11_number 8 = .ok (.getfield 217, 3) := by decide +kernel
theorem dX11_number_11 : decode cX11_number 11 = .ok (.ifCond .ne 65, 3) := by decide +kernel
theorem dX11_number_14 : decode cX11_number 14 = .ok (.iload_n 1, 1) := by decide +kernel
theorem dX11_number_15 : decode cX11_number 15 = .ok (.iconst 3, 1) := by decide +kernel
theorem dX11_number_16 : decode cX11_number 16 = .ok (.if_icmp .ge 60, 3) := by decide +kernel
theorem dX11_number_19 : decode cX11_number 19 = .ok (.aload_n 0, 1) := by decide +kernel
theorem dX11_number_20 : decode cX11_number 20 = .ok (.aload_n 0, 1) := by decide +kernel
theorem dX11_number_21 : decode cX11_number 21 = .ok (.getfield 221, 3) := by decide +kernel
theorem dX11_number_24 : decode cX11_number 24 = .ok (.invokevirtual 224, 3) := by decide +kernel
theorem dX11_number_27 : decode cX11_number 27 = .ok (.bipush 48, 2) := by decide +kernel
theorem dX11_number_29 : decode cX11_number 29 = .ok (.bipush 57, 2) := by decide +kernel
theorem dX11_number_31 : decode cX11_number 31 = .ok (.invokestatic 117, 3) := by decide +kernel
theorem dX11_number_34 : decode cX11_number 34 = .ok (.ifCond .eq 42, 3) := by decide +kernel
theorem dX11_number_37 : decode cX11_number 37 = .ok (.aload_n 0, 1) := by decide +kernel
theorem dX11_number_38 : decode cX11_number 38 = .ok (.bipush 10, 2) := by decide +kernel
theorem dX11_number_40 : decode cX11_number 40 = .ok (.aload_n 0, 1) := by decide +kernel
theorem dX11_number_41 : decode cX11_number 41 = .ok (.getfield 227, 3) := by decide +kernel
theorem dX11_number_44 : decode cX11_number 44 = .ok (.imul, 1) := by decide +kernel
theorem dX11_number_45 : decode cX11_number 45 = .ok (.aload_n 0, 1) := by decide +kernel
theorem dX11_number_46 : decode cX11_number 46 = .ok (.aload_n 0, 1) := by decide +kernel
theorem dX11_number_47 : decode cX11_number 47 = .ok (.getfield 221, 3) := by decide +kernel
theorem dX11_number_50 : decode cX11_number 50 = .ok (.invokevirtual 224, 3) := by decide +kernel
theorem dX11_number_53 : decode cX11_number 53 = .ok (.iadd, 1) := by decide +kernel
theorem dX11_number_54 : decode cX11_number 54 = .ok (.bipush 48, 2) := by decide +kernel
theorem dX11_number_56 : decode cX11_number 56 = .ok (.isub, 1) := by decide +kernel
theorem dX11_number_57 : decode cX11_number 57 = .ok (.putfield 227, 3) := by decide +kernel
theorem dX11_number_60 : decode cX11_number 60 = .ok (.aload_n 0, 1) := by decide +kernel
theorem dX11_number_61 : decode cX11_number 61 = .ok (.dup, 1) := by decide +kernel
theorem dX11_number_62 : decode cX11_number 62 = .ok (.getfield 221, 3) := by decide +kernel
theorem dX11_number_65 : decode cX11_number 65 = .ok (.iconst 1, 1) := by decide +kernel
theorem dX11_number_66 : decode cX11_number 66 = .ok (.iadd, 1) := by decide +kernel
theorem dX11_number_67 : decode cX11_number 67 = .ok (.putfield 221, 3) := by decide +kernel
theorem dX11_number_70 : decode cX11_number 70 = .ok (.iinc 1 1, 3) := by decide +kernel
theorem dX11_number_73 : decode cX11_number 73 = .ok (.goto (-66), 3) := by decide +kernel
theorem dX11_number_76 : decode cX11_number 76 = .ok (.aload_n 0, 1) := by decide +kernel
theorem dX11_number_77 : decode cX11_number 77 = .ok (.aload_n 0, 1) := by decide +kernel
theorem dX11_number_78 : decode cX11_number 78 = .ok (.getfield 217, 3) := by decide +kernel
theorem dX11_number_81 : decode cX11_number 81 = .ok (.ifCond .ne 7, 3) := by decide +kernel
theorem dX11_number_84 : decode cX11_number 84 = .ok (.iload_n 1, 1) := by decide +kernel
theorem dX11_number_85 : decode cX11_number 85 = .ok (.ifCond .ne 7, 3) := by decide +kernel
theorem dX11_number_88 : decode cX11_number 88 = .ok (.iconst 1, 1) := by decide +kernel
theorem dX11_number_89 : decode cX11_number 89 = .ok (.goto 4, 3) := by decide +kernel
theorem dX11_number_92 : decode cX11_number 92 = .ok (.iconst 0, 1) := by decide +kernel
theorem dX11_number_93 : decode cX11_number 93 = .ok (.putfield 217, 3) := by decide +kernel
theorem dX11_number_96 : decode cX11_number 96 = .ok (.return_, 1) := by decide +kernel
theorem dX11_medals_0 : decode cX11_medals 0 = .ok (.iconst 0, 1) := by decide +kernel
theorem dX11_medals_1 : decode cX11_medals 1 = .ok (.istore_n 2, 1) := by decide +kernel
theorem dX11_medals_2 : decode cX11_medals 2 = .ok (.iload_n 2, 1) := by decide +kernel
theorem dX11_medals_3 : decode cX11_medals 3 = .ok (.iconst 3, 1) := by decide +kernel
theorem dX11_medals_4 : decode cX11_medals 4 = .ok (.if_icmp .ge 20, 3) := by decide +kernel
theorem dX11_medals_7 : decode cX11_medals 7 = .ok (.aload_n 0, 1) := by decide +kernel
theorem dX11_medals_8 : decode cX11_medals 8 = .ok (.getfield 60, 3) := by decide +kernel
theorem dX11_medals_11 : decode cX11_medals 11 = .ok (.iconst 3, 1) := by decide +kernel
theorem dX11_medals_12 : decode cX11_medals 12 = .ok (.iload_n 1, 1) := by decide +kernel
theorem dX11_medals_13 : decode cX11_medals 13 = .ok (.imul, 1) := by decide +kernel
theorem dX11_medals_14 : decode cX11_medals 14 = .ok (.iload_n 2, 1) := by decide +kernel
theorem dX11_medals_15 : decode cX11_medals 15 = .ok (.iadd, 1) := by decide +kernel
theorem dX11_medals_16 : decode cX11_medals 16 = .ok (.iconst (-1), 1) := by decide +kernel
theorem dX11_medals_17 : decode cX11_medals 17 = .ok (.iastore, 1) := by decide +kernel
theorem dX11_medals_18 : decode cX11_medals 18 = .ok (.iinc 2 1, 3) := by decide +kernel
theorem dX11_medals_21 : decode cX11_medals 21 = .ok (.goto (-19), 3) := by decide +kernel
theorem dX11_medals_24 : decode cX11_medals 24 = .ok (.iconst 0, 1) := by decide +kernel
theorem dX11_medals_25 : decode cX11_medals 25 = .ok (.istore_n 2, 1) := by decide +kernel
theorem dX11_medals_26 : decode cX11_medals 26 = .ok (.iconst 1, 1) := by decide +kernel
theorem dX11_medals_27 : decode cX11_medals 27 = .ok (.istore_n 3, 1) := by decide +kernel
theorem dX11_medals_28 : decode cX11_medals 28 = .ok (.iload_n 3, 1) := by decide +kernel
theorem dX11_medals_29 : decode cX11_medals 29 = .ok (.ifCond .eq 213, 3) := by decide +kernel
theorem dX11_medals_32 : decode cX11_medals 32 = .ok (.aload_n 0, 1) := by decide +kernel
theorem dX11_medals_33 : decode cX11_medals 33 = .ok (.getfield 217, 3) := by decide +kernel
theorem dX11_medals_36 : decode cX11_medals 36 = .ok (.ifCond .ne 206, 3) := by decide +kernel
theorem dX11_medals_39 : decode cX11_medals 39 = .ok (.iload_n 2, 1) := by decide +kernel
theorem dX11_medals_40 : decode cX11_medals 40 = .ok (.iconst 3, 1) := by decide +kernel
theorem dX11_medals_41 : decode cX11_medals 41 = .ok (.if_icmp .ge 29, 3) := by decide +kernel
theorem dX11_medals_44 : decode cX11_medals 44 = .ok (.aload_n 0, 1) := by decide +kernel
theorem dX11_medals_45 : decode cX11_medals 45 = .ok (.aload_n 0, 1) := by decide +kernel
theorem dX11_medals_46 : decode cX11_medals 46 = .ok (.getfield 221, 3) := by decide +kernel
theorem dX11_medals_49 : decode cX11_medals 49 = .ok (.invokevirtual 224, 3) := by decide +kernel
theorem dX11_medals_52 : decode cX11_medals 52 = .ok (.aload_n 0, 1) := by decide +kernel
theorem dX11_medals_53 : decode cX11_medals 53 = .ok (.getfield 105, 3) := by decide +kernel
theorem dX11_medals_56 : decode cX11_medals 56 = .ok (.bipush 6, 2) := by decide +kernel
theorem dX11_medals_58 : decode cX11_medals 58 = .ok (.iload_n 2, 1) := by decide +kernel
theorem dX11_medals_59 : decode cX11_medals 59 = .ok (.imul, 1) := by decide +kernel
theorem dX11_medals_60 : decode cX11_medals 60 = .ok (.iaload, 1) := by decide +kernel
theorem dX11_medals_61 : decode cX11_medals 61 = .ok (.if_icmp .eq 9, 3) := by decide +kernel
theorem dX11_medals_64 : decode cX11_medals 64 = .ok (.iinc 2 1, 3) := by decide +kernel
theorem dX11_medals_67 : decode cX11_medals 67 = .ok (.goto (-28), 3) := by decide +kernel
theorem dX11_medals_70 : decode cX11_medals 70 = .ok (.aload_n 0, 1) := by decide +kernel
theorem dX11_medals_71 : decode cX11_medals 71 = .ok (.iload_n 2, 1) := by decide +kernel
theorem dX11_medals_72 : decode cX11_medals 72 = .ok (.iconst 3, 1) := by decide +kernel
theorem dX11_medals_73 : decode cX11_medals 73 = .ok (.if_icmp .ne 7, 3) := by decide +kernel
theorem dX11_medals_76 : decode cX11_medals 76 = .ok (.iconst 1, 1) := by decide +kernel
theorem dX11_medals_77 : decode cX11_medals 77 = .ok (.goto 4, 3) := by decide +kernel
theorem dX11_medals_80 : decode cX11_medals 80 = .ok (.iconst 0, 1) := by decide +kernel
theorem dX11_medals_81 : decode cX11_medals 81 = .ok (.putfield 217, 3) := by decide +kernel
theorem dX11_medals_84 : decode cX11_medals 84 = .ok (.iconst 0, 1) := by decide +kernel
theorem dX11_medals_85 : decode cX11_medals 85 = .ok (.istore 4, 2) := by decide +kernel
theorem dX11_medals_87 : decode cX11_medals 87 = .ok (.iload 4, 2) := by decide +kernel
theorem dX11_medals_89 : decode cX11_medals 89 = .ok (.bipush 6, 2) := by decide +kernel
theorem dX11_medals_91 : decode cX11_medals 91 = .ok (.if_icmp .ge 47, 3) := by decide +kernel
theorem dX11_medals_94 : decode cX11_medals 94 = .ok (.aload_n 0, 1) := by decide +kernel
theorem dX11_medals_95 : decode cX11_medals 95 = .ok (.getfield 217, 3) := by decide +kernel
theorem dX11_medals_98 : decode cX11_medals 98 = .ok (.ifCond .ne 40, 3) := by decide +kernel
theorem dX11_medals_101 : decode cX11_medals 101 = .ok (.aload_n 0, 1) := by decide +kernel
theorem dX11_medals_102 : decode cX11_medals 102 = .ok (.getfield 105, 3) := by decide +kernel
theorem dX11_medals_105 : decode cX11_medals 105 = .ok (.bipush 6, 2) := by decide +kernel
theorem dX11_medals_107 : decode cX11_medals 107 = .ok (.iload_n 2, 1) := by decide +kernel
theorem dX11_medals_108 : decode cX11_medals 108 = .ok (.imul, 1) := by decide +kernel
theorem dX11_medals_109 : decode cX11_medals 109 = .ok (.iload 4, 2) := by decide +kernel
theorem dX11_medals_111 : decode cX11_medals 111 = .ok (.iadd, 1) := by decide +kernel
theorem dX11_medals_112 : decode cX11_medals 112 = .ok (.iaload, 1) := by decide +kernel
theorem dX11_medals_113 : decode cX11_medals 113 = .ok (.ifCond .eq 19, 3) := by decide +kernel
theorem dX11_medals_116 : decode cX11_medals 116 = .ok (.aload_n 0, 1) := by decide +kernel
theorem dX11_medals_117 : decode cX11_medals 117 = .ok (.aload_n 0, 1) := by decide +kernel
theorem dX11_medals_118 : decode cX11_medals 118 = .ok (.getfield 105, 3) := by decide +kernel
theorem dX11_medals_121 : decode cX11_medals 121 = .ok (.bipush 6, 2) := by decide +kernel
theorem dX11_medals_123 : decode cX11_medals 123 = .ok (.iload_n 2, 1) := by decide +kernel
theorem dX11_medals_124 : decode cX11_medals 124 = .ok (.imul, 1) := by decide +kernel
theorem dX11_medals_125 : decode cX11_medals 125 = .ok (.iload 4, 2) := by decide +kernel
theorem dX11_medals_127 : decode cX11_medals 127 = .ok (.iadd, 1) := by decide +kernel
theorem dX11_medals_128 : decode cX11_medals 128 = .ok (.iaload, 1) := by decide +kernel
theorem dX11_medals_129 : decode cX11_medals 129 = .ok (.invokevirtual 230, 3) := by decide +kernel
theorem dX11_medals_132 : decode cX11_medals 132 = .ok (.iinc 4 1, 3) := by decide +kernel
theorem dX11_medals_135 : decode cX11_medals 135 = .ok (.goto (-48), 3) := by decide +kernel
theorem dX11_medals_138 : decode cX11_medals 138 = .ok (.aload_n 0, 1) := by decide +kernel
theorem dX11_medals_139 : decode cX11_medals 139 = .ok (.bipush 32, 2) := by decide +kernel
theorem dX11_medals_141 : decode cX11_medals 141 = .ok (.invokevirtual 230, 3) := by decide +kernel
theorem dX11_medals_144 : decode cX11_medals 144 = .ok (.aload_n 0, 1) := by decide +kernel
theorem dX11_medals_145 : decode cX11_medals 145 = .ok (.bipush 97, 2) := by decide +kernel
theorem dX11_medals_147 : decode cX11_medals 147 = .ok (.invokevirtual 230, 3) := by decide +kernel
theorem dX11_medals_150 : decode cX11_medals 150 = .ok (.aload_n 0, 1) := by decide +kernel
theorem dX11_medals_151 : decode cX11_medals 151 = .ok (.bipush 116, 2) := by decide +kernel
theorem dX11_medals_153 : decode cX11_medals 153 = .ok (.invokevirtual 230, 3) := by decide +kernel
theorem dX11_medals_156 : decode cX11_medals 156 = .ok (.aload_n 0, 1) := by decide +kernel
theorem dX11_medals_157 : decode cX11_medals 157 = .ok (.bipush 32, 2) := by decide +kernel
theorem dX11_medals_159 : decode cX11_medals 159 = .ok (.invokevirtual 230, 3) := by decide +kernel
theorem dX11_medals_162 : decode cX11_medals 162 = .ok (.aload_n 0, 1) := by decide +kernel
theorem dX11_medals_163 : decode cX11_medals 163 = .ok (.invokevirtual 233, 3) := by decide +kernel
theorem dX11_medals_166 : decode cX11_medals 166 = .ok (.aload_n 0, 1) := by decide +kernel
theorem dX11_medals_167 : decode cX11_medals 167 = .ok (.getfield 217, 3) := by decide +kernel
theorem dX11_medals_170 : decode cX11_medals 170 = .ok (.ifCond .ne 17, 3) := by decide +kernel
theorem dX11_medals_173 : decode cX11_medals 173 = .ok (.aload_n 0, 1) := by decide +kernel
theorem dX11_medals_174 : decode cX11_medals 174 = .ok (.getfield 60, 3) := by decide +kernel
theorem dX11_medals_177 : decode cX11_medals 177 = .ok (.iconst 3, 1) := by decide +kernel
theorem dX11_medals_178 : decode cX11_medals 178 = .ok (.iload_n 1, 1) := by decide +kernel
theorem dX11_medals_179 : decode cX11_medals 179 = .ok (.imul, 1) := by decide +kernel
theorem dX11_medals_180 : decode cX11_medals 180 = .ok (.iload_n 2, 1) := by decide +kernel
theorem dX11_medals_181 : decode cX11_medals 181 = .ok (.iadd, 1) := by decide +kernel
theorem dX11_medals_182 : decode cX11_medals 182 = .ok (.aload_n 0, 1) := by decide +kernel
theorem dX11_medals_183 : decode cX11_medals 183 = .ok (.getfield 227, 3) := by decide +kernel
theorem dX11_medals_186 : decode cX11_medals 186 = .ok (.iastore, 1) := by decide +kernel
theorem dX11_medals_187 : decode cX11_medals 187 = .ok (.iinc 2 1, 3) := by decide +kernel
theorem dX11_medals_190 : decode cX11_medals 190 = .ok (.iload_n 2, 1) := by decide +kernel
theorem dX11_medals_191 : decode cX11_medals 191 = .ok (.iconst 3, 1) := by decide +kernel
theorem dX11_medals_192 : decode cX11_medals 192 = .ok (.if_icmp .ge 27, 3) := by decide +kernel
theorem dX11_medals_195 : decode cX11_medals 195 = .ok (.aload_n 0, 1) := by decide +kernel
theorem dX11_medals_196 : decode cX11_medals 196 = .ok (.getfield 217, 3) := by decide +kernel
theorem dX11_medals_199 : decode cX11_medals 199 = .ok (.ifCond .ne 20, 3) := by decide +kernel
theorem dX11_medals_202 : decode cX11_medals 202 = .ok (.aload_n 0, 1) := by decide +kernel
theorem dX11_medals_203 : decode cX11_medals 203 = .ok (.aload_n 0, 1) := by decide +kernel
theorem dX11_medals_204 : decode cX11_medals 204 = .ok (.getfield 221, 3) := by decide +kernel
theorem dX11_medals_207 : decode cX11_medals 207 = .ok (.invokevirtual 224, 3) := by decide +kernel
theorem dX11_medals_210 : decode cX11_medals 210 = .ok (.bipush 44, 2) := by decide +kernel
theorem dX11_medals_212 : decode cX11_medals 212 = .ok (.if_icmp .ne 7, 3) := by decide +kernel
theorem dX11_medals_215 : decode cX11_medals 215 = .ok (.iconst 1, 1) := by decide +kernel
theorem dX11_medals_216 : decode cX11_medals 216 = .ok (.goto 4, 3) := by decide +kernel
theorem dX11_medals_219 : decode cX11_medals 219 = .ok (.iconst 0, 1) := by decide +kernel
theorem dX11_medals_220 : decode cX11_medals 220 = .ok (.istore_n 3, 1) := by decide +kernel
theorem dX11_medals_221 : decode cX11_medals 221 = .ok (.aload_n 0, 1) := by decide +kernel
theorem dX11_medals_222 : decode cX11_medals 222 = .ok (.dup, 1) := by decide +kernel
theorem dX11_medals_223 : decode cX11_medals 223 = .ok (.getfield 221, 3) := by decide +kernel
theorem dX11_medals_226 : decode cX11_medals 226 = .ok (.iload_n 3, 1) := by decide +kernel
theorem dX11_medals_227 : decode cX11_medals 227 = .ok (.ifCond .eq 7, 3) := by decide +kernel
theorem dX11_medals_230 : decode cX11_medals 230 = .ok (.iconst 1, 1) := by decide +kernel
theorem dX11_medals_231 : decode cX11_medals 231 = .ok (.goto 4, 3) := by decide +kernel
theorem dX11_medals_234 : decode cX11_medals 234 = .ok (.iconst 0, 1) := by decide +kernel
theorem dX11_medals_235 : decode cX11_medals 235 = .ok (.iadd, 1) := by decide +kernel
theorem dX11_medals_236 : decode cX11_medals 236 = .ok (.putfield 221, 3) := by decide +kernel
theorem dX11_medals_239 : decode cX11_medals 239 = .ok (.goto (-211), 3) := by decide +kernel
theorem dX11_medals_242 : decode cX11_medals 242 = .ok (.return_, 1) := by decide +kernel
theorem dX11_daysOf_0 : decode cX11_daysOf 0 = .ok (.aload_n 0, 1) := by decide +kernel
theorem dX11_daysOf_1 : decode cX11_daysOf 1 = .ok (.bipush 112, 2) := by decide +kernel
theorem dX11_daysOf_3 : decode cX11_daysOf 3 = .ok (.invokevirtual 230, 3) := by decide +kernel
theorem dX11_daysOf_6 : decode cX11_daysOf 6 = .ok (.aload_n 0, 1) := by decide +kernel
theorem dX11_daysOf_7 : decode cX11_daysOf 7 = .ok (.bipush 97, 2) := by decide +kernel
theorem dX11_daysOf_9 : decode cX11_daysOf 9 = .ok (.invokevirtual 230, 3) := by decide +kernel
theorem dX11_daysOf_12 : decode cX11_daysOf 12 = .ok (.aload_n 0, 1) := by decide +kernel
theorem dX11_daysOf_13 : decode cX11_daysOf 13 = .ok (.bipush 121, 2) := by decide +kernel
theorem dX11_daysOf_15 : decode cX11_daysOf 15 = .ok (.invokevirtual 230, 3) := by decide +kernel
theorem dX11_daysOf_18 : decode cX11_daysOf 18 = .ok (.aload_n 0, 1) := by decide +kernel
theorem dX11_daysOf_19 : decode cX11_daysOf 19 = .ok (.bipush 32, 2) := by decide +kernel
theorem dX11_daysOf_21 : decode cX11_daysOf 21 = .ok (.invokevirtual 230, 3) := by decide +kernel
theorem dX11_daysOf_24 : decode cX11_daysOf 24 = .ok (.aload_n 0, 1) := by decide +kernel
theorem dX11_daysOf_25 : decode cX11_daysOf 25 = .ok (.invokevirtual 233, 3) := by decide +kernel
theorem dX11_daysOf_28 : decode cX11_daysOf 28 = .ok (.iconst 0, 1) := by decide +kernel
theorem dX11_daysOf_29 : decode cX11_daysOf 29 = .ok (.istore_n 2, 1) := by decide +kernel
theorem dX11_daysOf_30 : decode cX11_daysOf 30 = .ok (.aload_n 0, 1) := by decide +kernel
theorem dX11_daysOf_31 : decode cX11_daysOf 31 = .ok (.getfield 217, 3) := by decide +kernel
theorem dX11_daysOf_34 : decode cX11_daysOf 34 = .ok (.ifCond .ne 147, 3) := by decide +kernel
theorem dX11_daysOf_37 : decode cX11_daysOf 37 = .ok (.iload_n 2, 1) := by decide +kernel
theorem dX11_daysOf_38 : decode cX11_daysOf 38 = .ok (.iconst 4, 1) := by decide +kernel
theorem dX11_daysOf_39 : decode cX11_daysOf 39 = .ok (.if_icmp .ge 142, 3) := by decide +kernel
theorem dX11_daysOf_42 : decode cX11_daysOf 42 = .ok (.aload_n 0, 1) := by decide +kernel
theorem dX11_daysOf_43 : decode cX11_daysOf 43 = .ok (.aload_n 0, 1) := by decide +kernel
theorem dX11_daysOf_44 : decode cX11_daysOf 44 = .ok (.getfield 221, 3) := by decide +kernel
theorem dX11_daysOf_47 : decode cX11_daysOf 47 = .ok (.invokevirtual 224, 3) := by decide +kernel
theorem dX11_daysOf_50 : decode cX11_daysOf 50 = .ok (.bipush 32, 2) := by decide +kernel
theorem dX11_daysOf_52 : decode cX11_daysOf 52 = .ok (.if_icmp .ne 129, 3) := by decide +kernel
theorem dX11_daysOf_55 : decode cX11_daysOf 55 = .ok (.aload_n 0, 1) := by decide +kernel
theorem dX11_daysOf_56 : decode cX11_daysOf 56 = .ok (.getfield 69, 3) := by decide +kernel
theorem dX11_daysOf_59 : decode cX11_daysOf 59 = .ok (.iconst 5, 1) := by decide +kernel
theorem dX11_daysOf_60 : decode cX11_daysOf 60 = .ok (.iload_n 1, 1) := by decide +kernel
theorem dX11_daysOf_61 : decode cX11_daysOf 61 = .ok (.imul, 1) := by decide +kernel
theorem dX11_daysOf_62 : decode cX11_daysOf 62 = .ok (.iload_n 2, 1) := by decide +kernel
theorem dX11_daysOf_63 : decode cX11_daysOf 63 = .ok (.iadd, 1) := by decide +kernel
theorem dX11_daysOf_64 : decode cX11_daysOf 64 = .ok (.aload_n 0, 1) := by decide +kernel
theorem dX11_daysOf_65 : decode cX11_daysOf 65 = .ok (.getfield 227, 3) := by decide +kernel
theorem dX11_daysOf_68 : decode cX11_daysOf 68 = .ok (.iastore, 1) := by decide +kernel
theorem dX11_daysOf_69 : decode cX11_daysOf 69 = .ok (.aload_n 0, 1) := by decide +kernel
theorem dX11_daysOf_70 : decode cX11_daysOf 70 = .ok (.bipush 32, 2) := by decide +kernel
theorem dX11_daysOf_72 : decode cX11_daysOf 72 = .ok (.invokevirtual 230, 3) := by decide +kernel
theorem dX11_daysOf_75 : decode cX11_daysOf 75 = .ok (.aload_n 0, 1) := by decide +kernel
theorem dX11_daysOf_76 : decode cX11_daysOf 76 = .ok (.bipush 111, 2) := by decide +kernel
theorem dX11_daysOf_78 : decode cX11_daysOf 78 = .ok (.invokevirtual 230, 3) := by decide +kernel
theorem dX11_daysOf_81 : decode cX11_daysOf 81 = .ok (.aload_n 0, 1) := by decide +kernel
theorem dX11_daysOf_82 : decode cX11_daysOf 82 = .ok (.bipush 110, 2) := by decide +kernel
theorem dX11_daysOf_84 : decode cX11_daysOf 84 = .ok (.invokevirtual 230, 3) := by decide +kernel
theorem dX11_daysOf_87 : decode cX11_daysOf 87 = .ok (.aload_n 0, 1) := by decide +kernel
theorem dX11_daysOf_88 : decode cX11_daysOf 88 = .ok (.bipush 32, 2) := by decide +kernel
theorem dX11_daysOf_90 : decode cX11_daysOf 90 = .ok (.invokevirtual 230, 3) := by decide +kernel
theorem dX11_daysOf_93 : decode cX11_daysOf 93 = .ok (.aload_n 0, 1) := by decide +kernel
theorem dX11_daysOf_94 : decode cX11_daysOf 94 = .ok (.aload_n 0, 1) := by decide +kernel
theorem dX11_daysOf_95 : decode cX11_daysOf 95 = .ok (.getfield 217, 3) := by decide +kernel
theorem dX11_daysOf_98 : decode cX11_daysOf 98 = .ok (.ifCond .ne 21, 3) := by decide +kernel
theorem dX11_daysOf_101 : decode cX11_daysOf 101 = .ok (.aload_n 0, 1) := by decide +kernel
theorem dX11_daysOf_102 : decode cX11_daysOf 102 = .ok (.aload_n 0, 1) := by decide +kernel
theorem dX11_daysOf_103 : decode cX11_daysOf 103 = .ok (.getfield 221, 3) := by decide +kernel
theorem dX11_daysOf_106 : decode cX11_daysOf 106 = .ok (.invokevirtual 224, 3) := by decide +kernel
theorem dX11_daysOf_109 : decode cX11_daysOf 109 = .ok (.bipush 48, 2) := by decide +kernel
theorem dX11_daysOf_111 : decode cX11_daysOf 111 = .ok (.bipush 54, 2) := by decide +kernel
theorem dX11_daysOf_113 : decode cX11_daysOf 113 = .ok (.invokestatic 117, 3) := by decide +kernel
theorem dX11_daysOf_116 : decode cX11_daysOf 116 = .ok (.ifCond .ne 7, 3) := by decide +kernel
theorem dX11_daysOf_119 : decode cX11_daysOf 119 = .ok (.iconst 1, 1) := by decide +kernel
theorem dX11_daysOf_120 : decode cX11_daysOf 120 = .ok (.goto 4, 3) := by decide +kernel
theorem dX11_daysOf_123 : decode cX11_daysOf 123 = .ok (.iconst 0, 1) := by decide +kernel
theorem dX11_daysOf_124 : decode cX11_daysOf 124 = .ok (.putfield 217, 3) := by decide +kernel
theorem dX11_daysOf_127 : decode cX11_daysOf 127 = .ok (.aload_n 0, 1) := by decide +kernel
theorem dX11_daysOf_128 : decode cX11_daysOf 128 = .ok (.getfield 217, 3) := by decide +kernel
theorem dX11_daysOf_131 : decode cX11_daysOf 131 = .ok (.ifCond .ne 34, 3) := by decide +kernel
theorem dX11_daysOf_134 : decode cX11_daysOf 134 = .ok (.aload_n 0, 1) := by decide +kernel
theorem dX11_daysOf_135 : decode cX11_daysOf 135 = .ok (.getfield 66, 3) := by decide +kernel
theorem dX11_daysOf_138 : decode cX11_daysOf 138 = .ok (.iconst 4, 1) := by decide +kernel
theorem dX11_daysOf_139 : decode cX11_daysOf 139 = .ok (.iload_n 1, 1) := by decide +kernel
theorem dX11_daysOf_140 : decode cX11_daysOf 140 = .ok (.imul, 1) := by decide +kernel
theorem dX11_daysOf_141 : decode cX11_daysOf 141 = .ok (.iload_n 2, 1) := by decide +kernel
theorem dX11_daysOf_142 : decode cX11_daysOf 142 = .ok (.iadd, 1) := by decide +kernel
theorem dX11_daysOf_143 : decode cX11_daysOf 143 = .ok (.aload_n 0, 1) := by decide +kernel
theorem dX11_daysOf_144 : decode cX11_daysOf 144 = .ok (.aload_n 0, 1) := by decide +kernel
theorem dX11_daysOf_145 : decode cX11_daysOf 145 = .ok (.getfield 221, 3) := by decide +kernel
theorem dX11_daysOf_148 : decode cX11_daysOf 148 = .ok (.invokevirtual 224, 3) := by decide +kernel
theorem dX11_daysOf_151 : decode cX11_daysOf 151 = .ok (.bipush 48, 2) := by decide +kernel
theorem dX11_daysOf_153 : decode cX11_daysOf 153 = .ok (.isub, 1) := by decide +kernel
theorem dX11_daysOf_154 : decode cX11_daysOf 154 = .ok (.iastore, 1) := by decide +kernel
theorem dX11_daysOf_155 : decode cX11_daysOf 155 = .ok (.aload_n 0, 1) := by decide +kernel
theorem dX11_daysOf_156 : decode cX11_daysOf 156 = .ok (.dup, 1) := by decide +kernel
theorem dX11_daysOf_157 : decode cX11_daysOf 157 = .ok (.getfield 221, 3) := by decide +kernel
theorem dX11_daysOf_160 : decode cX11_daysOf 160 = .ok (.iconst 1, 1) := by decide +kernel
theorem dX11_daysOf_161 : decode cX11_daysOf 161 = .ok (.iadd, 1) := by decide +kernel
theorem dX11_daysOf_162 : decode cX11_daysOf 162 = .ok (.putfield 221, 3) := by decide +kernel
theorem dX11_daysOf_165 : decode cX11_daysOf 165 = .ok (.aload_n 0, 1) := by decide +kernel
theorem dX11_daysOf_166 : decode cX11_daysOf 166 = .ok (.bipush 44, 2) := by decide +kernel
theorem dX11_daysOf_168 : decode cX11_daysOf 168 = .ok (.invokevirtual 230, 3) := by decide +kernel
theorem dX11_daysOf_171 : decode cX11_daysOf 171 = .ok (.aload_n 0, 1) := by decide +kernel
theorem dX11_daysOf_172 : decode cX11_daysOf 172 = .ok (.invokevirtual 233, 3) := by decide +kernel
theorem dX11_daysOf_175 : decode cX11_daysOf 175 = .ok (.iinc 2 1, 3) := by decide +kernel
theorem dX11_daysOf_178 : decode cX11_daysOf 178 = .ok (.goto (-148), 3) := by decide +kernel
theorem dX11_daysOf_181 : decode cX11_daysOf 181 = .ok (.aload_n 0, 1) := by decide +kernel
theorem dX11_daysOf_182 : decode cX11_daysOf 182 = .ok (.getfield 63, 3) := by decide +kernel
theorem dX11_daysOf_185 : decode cX11_daysOf 185 = .ok (.iload_n 1, 1) := by decide +kernel
theorem dX11_daysOf_186 : decode cX11_daysOf 186 = .ok (.iload_n 2, 1) := by decide +kernel
theorem dX11_daysOf_187 : decode cX11_daysOf 187 = .ok (.iastore, 1) := by decide +kernel
theorem dX11_daysOf_188 : decode cX11_daysOf 188 = .ok (.aload_n 0, 1) := by decide +kernel
theorem dX11_daysOf_189 : decode cX11_daysOf 189 = .ok (.getfield 69, 3) := by decide +kernel
theorem dX11_daysOf_192 : decode cX11_daysOf 192 = .ok (.iconst 5, 1) := by decide +kernel
theorem dX11_daysOf_193 : decode cX11_daysOf 193 = .ok (.iload_n 1, 1) := by decide +kernel
theorem dX11_daysOf_194 : decode cX11_daysOf 194 = .ok (.imul, 1) := by decide +kernel
theorem dX11_daysOf_195 : decode cX11_daysOf 195 = .ok (.iload_n 2, 1) := by decide +kernel
theorem dX11_daysOf_196 : decode cX11_daysOf 196 = .ok (.iadd, 1) := by decide +kernel
theorem dX11_daysOf_197 : decode cX11_daysOf 197 = .ok (.aload_n 0, 1) := by decide +kernel
theorem dX11_daysOf_198 : decode cX11_daysOf 198 = .ok (.getfield 227, 3) := by decide +kernel
theorem dX11_daysOf_201 : decode cX11_daysOf 201 = .ok (.iastore, 1) := by decide +kernel
theorem dX11_daysOf_202 : decode cX11_daysOf 202 = .ok (.return_, 1) := by decide +kernel
theorem dX11_text_0 : decode cX11_text 0 = .ok (.iload_n 1, 1) := by decide +kernel
theorem dX11_text_1 : decode cX11_text 1 = .ok (.iconst 0, 1) := by decide +kernel
theorem dX11_text_2 : decode cX11_text 2 = .ok (.iconst 1, 1) := by decide +kernel
theorem dX11_text_3 : decode cX11_text 3 = .ok (.invokestatic 117, 3) := by decide +kernel
theorem dX11_text_6 : decode cX11_text 6 = .ok (.ifCond .eq 14, 3) := by decide +kernel
theorem dX11_text_9 : decode cX11_text 9 = .ok (.iload_n 2, 1) := by decide +kernel
theorem dX11_text_10 : decode cX11_text 10 = .ok (.iconst 0, 1) := by decide +kernel
theorem dX11_text_11 : decode cX11_text 11 = .ok (.sipush 999, 3) := by decide +kernel
