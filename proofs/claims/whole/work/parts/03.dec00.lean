theorem dX0_init_0 : decode cX0_init 0 = .ok (.aload_n 0, 1) := by decide +kernel
theorem dX0_init_1 : decode cX0_init 1 = .ok (.invokespecial 1, 3) := by decide +kernel
theorem dX0_init_4 : decode cX0_init 4 = .ok (.aload_n 0, 1) := by decide +kernel
theorem dX0_init_5 : decode cX0_init 5 = .ok (.iload_n 1, 1) := by decide +kernel
theorem dX0_init_6 : decode cX0_init 6 = .ok (.putfield 7, 3) := by decide +kernel
theorem dX0_init_9 : decode cX0_init 9 = .ok (.aload_n 0, 1) := by decide +kernel
theorem dX0_init_10 : decode cX0_init 10 = .ok (.iload_n 2, 1) := by decide +kernel
theorem dX0_init_11 : decode cX0_init 11 = .ok (.putfield 13, 3) := by decide +kernel
theorem dX0_init_14 : decode cX0_init 14 = .ok (.aload_n 0, 1) := by decide +kernel
theorem dX0_init_15 : decode cX0_init 15 = .ok (.iload_n 1, 1) := by decide +kernel
theorem dX0_init_16 : decode cX0_init 16 = .ok (.iload_n 2, 1) := by decide +kernel
theorem dX0_init_17 : decode cX0_init 17 = .ok (.imul, 1) := by decide +kernel
theorem dX0_init_18 : decode cX0_init 18 = .ok (.putfield 16, 3) := by decide +kernel
theorem dX0_init_21 : decode cX0_init 21 = .ok (.aload_n 0, 1) := by decide +kernel
theorem dX0_init_22 : decode cX0_init 22 = .ok (.iconst 4, 1) := by decide +kernel
theorem dX0_init_23 : decode cX0_init 23 = .ok (.newarray .long, 2) := by decide +kernel
theorem dX0_init_25 : decode cX0_init 25 = .ok (.putfield 19, 3) := by decide +kernel
theorem dX0_init_28 : decode cX0_init 28 = .ok (.aload_n 0, 1) := by decide +kernel
theorem dX0_init_29 : decode cX0_init 29 = .ok (.aload_n 0, 1) := by decide +kernel
theorem dX0_init_30 : decode cX0_init 30 = .ok (.getfield 16, 3) := by decide +kernel
theorem dX0_init_33 : decode cX0_init 33 = .ok (.newarray .int, 2) := by decide +kernel
theorem dX0_init_35 : decode cX0_init 35 = .ok (.putfield 23, 3) := by decide +kernel
theorem dX0_init_38 : decode cX0_init 38 = .ok (.lconst 0, 1) := by decide +kernel
theorem dX0_init_39 : decode cX0_init 39 = .ok (.lstore_n 3, 1) := by decide +kernel
theorem dX0_init_40 : decode cX0_init 40 = .ok (.lconst 0, 1) := by decide +kernel
theorem dX0_init_41 : decode cX0_init 41 = .ok (.lstore 5, 2) := by decide +kernel
theorem dX0_init_43 : decode cX0_init 43 = .ok (.lconst 0, 1) := by decide +kernel
theorem dX0_init_44 : decode cX0_init 44 = .ok (.lstore 7, 2) := by decide +kernel
theorem dX0_init_46 : decode cX0_init 46 = .ok (.iconst 0, 1) := by decide +kernel
theorem dX0_init_47 : decode cX0_init 47 = .ok (.istore 9, 2) := by decide +kernel
theorem dX0_init_49 : decode cX0_init 49 = .ok (.iload 9, 2) := by decide +kernel
theorem dX0_init_51 : decode cX0_init 51 = .ok (.aload_n 0, 1) := by decide +kernel
theorem dX0_init_52 : decode cX0_init 52 = .ok (.getfield 16, 3) := by decide +kernel
theorem dX0_init_55 : decode cX0_init 55 = .ok (.if_icmp .ge 110, 3) := by decide +kernel
theorem dX0_init_58 : decode cX0_init 58 = .ok (.iload 9, 2) := by decide +kernel
theorem dX0_init_60 : decode cX0_init 60 = .ok (.iload_n 1, 1) := by decide +kernel
theorem dX0_init_61 : decode cX0_init 61 = .ok (.irem, 1) := by decide +kernel
theorem dX0_init_62 : decode cX0_init 62 = .ok (.istore 10, 2) := by decide +kernel
theorem dX0_init_64 : decode cX0_init 64 = .ok (.iload 9, 2) := by decide +kernel
theorem dX0_init_66 : decode cX0_init 66 = .ok (.iload_n 1, 1) := by decide +kernel
theorem dX0_init_67 : decode cX0_init 67 = .ok (.idiv, 1) := by decide +kernel
theorem dX0_init_68 : decode cX0_init 68 = .ok (.istore 11, 2) := by decide +kernel
theorem dX0_init_70 : decode cX0_init 70 = .ok (.lload_n 3, 1) := by decide +kernel
theorem dX0_init_71 : decode cX0_init 71 = .ok (.iload 10, 2) := by decide +kernel
theorem dX0_init_73 : decode cX0_init 73 = .ok (.ifCond .ne 11, 3) := by decide +kernel
theorem dX0_init_76 : decode cX0_init 76 = .ok (.iload 9, 2) := by decide +kernel
theorem dX0_init_78 : decode cX0_init 78 = .ok (.invokestatic 27, 3) := by decide +kernel
theorem dX0_init_81 : decode cX0_init 81 = .ok (.goto 4, 3) := by decide +kernel
theorem dX0_init_84 : decode cX0_init 84 = .ok (.lconst 0, 1) := by decide +kernel
theorem dX0_init_85 : decode cX0_init 85 = .ok (.lor, 1) := by decide +kernel
theorem dX0_init_86 : decode cX0_init 86 = .ok (.lstore_n 3, 1) := by decide +kernel
theorem dX0_init_87 : decode cX0_init 87 = .ok (.lload 5, 2) := by decide +kernel
theorem dX0_init_89 : decode cX0_init 89 = .ok (.iload 10, 2) := by decide +kernel
theorem dX0_init_91 : decode cX0_init 91 = .ok (.iload_n 1, 1) := by decide +kernel
theorem dX0_init_92 : decode cX0_init 92 = .ok (.iconst 1, 1) := by decide +kernel
theorem dX0_init_93 : decode cX0_init 93 = .ok (.isub, 1) := by decide +kernel
theorem dX0_init_94 : decode cX0_init 94 = .ok (.if_icmp .ne 11, 3) := by decide +kernel
theorem dX0_init_97 : decode cX0_init 97 = .ok (.iload 9, 2) := by decide +kernel
theorem dX0_init_99 : decode cX0_init 99 = .ok (.invokestatic 27, 3) := by decide +kernel
theorem dX0_init_102 : decode cX0_init 102 = .ok (.goto 4, 3) := by decide +kernel
theorem dX0_init_105 : decode cX0_init 105 = .ok (.lconst 0, 1) := by decide +kernel
theorem dX0_init_106 : decode cX0_init 106 = .ok (.lor, 1) := by decide +kernel
theorem dX0_init_107 : decode cX0_init 107 = .ok (.lstore 5, 2) := by decide +kernel
theorem dX0_init_109 : decode cX0_init 109 = .ok (.lload 7, 2) := by decide +kernel
theorem dX0_init_111 : decode cX0_init 111 = .ok (.iload 11, 2) := by decide +kernel
theorem dX0_init_113 : decode cX0_init 113 = .ok (.ifCond .eq 11, 3) := by decide +kernel
theorem dX0_init_116 : decode cX0_init 116 = .ok (.iload 11, 2) := by decide +kernel
theorem dX0_init_118 : decode cX0_init 118 = .ok (.iload_n 2, 1) := by decide +kernel
theorem dX0_init_119 : decode cX0_init 119 = .ok (.iconst 1, 1) := by decide +kernel
theorem dX0_init_120 : decode cX0_init 120 = .ok (.isub, 1) := by decide +kernel
theorem dX0_init_121 : decode cX0_init 121 = .ok (.if_icmp .ne 11, 3) := by decide +kernel
theorem dX0_init_124 : decode cX0_init 124 = .ok (.iload 9, 2) := by decide +kernel
theorem dX0_init_126 : decode cX0_init 126 = .ok (.invokestatic 27, 3) := by decide +kernel
theorem dX0_init_129 : decode cX0_init 129 = .ok (.goto 4, 3) := by decide +kernel
theorem dX0_init_132 : decode cX0_init 132 = .ok (.lconst 0, 1) := by decide +kernel
theorem dX0_init_133 : decode cX0_init 133 = .ok (.lor, 1) := by decide +kernel
theorem dX0_init_134 : decode cX0_init 134 = .ok (.lstore 7, 2) := by decide +kernel
theorem dX0_init_136 : decode cX0_init 136 = .ok (.aload_n 0, 1) := by decide +kernel
theorem dX0_init_137 : decode cX0_init 137 = .ok (.getfield 19, 3) := by decide +kernel
theorem dX0_init_140 : decode cX0_init 140 = .ok (.iconst 0, 1) := by decide +kernel
theorem dX0_init_141 : decode cX0_init 141 = .ok (.dup2, 1) := by decide +kernel
theorem dX0_init_142 : decode cX0_init 142 = .ok (.laload, 1) := by decide +kernel
theorem dX0_init_143 : decode cX0_init 143 = .ok (.iload 9, 2) := by decide +kernel
theorem dX0_init_145 : decode cX0_init 145 = .ok (.invokestatic 27, 3) := by decide +kernel
theorem dX0_init_148 : decode cX0_init 148 = .ok (.lor, 1) := by decide +kernel
theorem dX0_init_149 : decode cX0_init 149 = .ok (.lastore, 1) := by decide +kernel
theorem dX0_init_150 : decode cX0_init 150 = .ok (.aload_n 0, 1) := by decide +kernel
theorem dX0_init_151 : decode cX0_init 151 = .ok (.getfield 23, 3) := by decide +kernel
theorem dX0_init_154 : decode cX0_init 154 = .ok (.iload 9, 2) := by decide +kernel
theorem dX0_init_156 : decode cX0_init 156 = .ok (.bipush 50, 2) := by decide +kernel
theorem dX0_init_158 : decode cX0_init 158 = .ok (.iastore, 1) := by decide +kernel
theorem dX0_init_159 : decode cX0_init 159 = .ok (.iinc 9 1, 3) := by decide +kernel
theorem dX0_init_162 : decode cX0_init 162 = .ok (.goto (-113), 3) := by decide +kernel
theorem dX0_init_165 : decode cX0_init 165 = .ok (.aload_n 0, 1) := by decide +kernel
theorem dX0_init_166 : decode cX0_init 166 = .ok (.lload_n 3, 1) := by decide +kernel
theorem dX0_init_167 : decode cX0_init 167 = .ok (.putfield 31, 3) := by decide +kernel
theorem dX0_init_170 : decode cX0_init 170 = .ok (.aload_n 0, 1) := by decide +kernel
theorem dX0_init_171 : decode cX0_init 171 = .ok (.lload 5, 2) := by decide +kernel
theorem dX0_init_173 : decode cX0_init 173 = .ok (.putfield 35, 3) := by decide +kernel
theorem dX0_init_176 : decode cX0_init 176 = .ok (.aload_n 0, 1) := by decide +kernel
theorem dX0_init_177 : decode cX0_init 177 = .ok (.lload 7, 2) := by decide +kernel
theorem dX0_init_179 : decode cX0_init 179 = .ok (.lload_n 3, 1) := by decide +kernel
theorem dX0_init_180 : decode cX0_init 180 = .ok (.lor, 1) := by decide +kernel
theorem dX0_init_181 : decode cX0_init 181 = .ok (.lload 5, 2) := by decide +kernel
theorem dX0_init_183 : decode cX0_init 183 = .ok (.lor, 1) := by decide +kernel
theorem dX0_init_184 : decode cX0_init 184 = .ok (.putfield 38, 3) := by decide +kernel
theorem dX0_init_187 : decode cX0_init 187 = .ok (.return_, 1) := by decide +kernel
theorem dX0_only_0 : decode cX0_only 0 = .ok (.lconst 1, 1) := by decide +kernel
theorem dX0_only_1 : decode cX0_only 1 = .ok (.iload_n 0, 1) := by decide +kernel
theorem dX0_only_2 : decode cX0_only 2 = .ok (.lshl, 1) := by decide +kernel
theorem dX0_only_3 : decode cX0_only 3 = .ok (.lreturn, 1) := by decide +kernel
theorem dX0_has_0 : decode cX0_has 0 = .ok (.iload_n 1, 1) := by decide +kernel
theorem dX0_has_1 : decode cX0_has 1 = .ok (.ifCond .lt 15, 3) := by decide +kernel
theorem dX0_has_4 : decode cX0_has 4 = .ok (.iload_n 1, 1) := by decide +kernel
theorem dX0_has_5 : decode cX0_has 5 = .ok (.aload_n 0, 1) := by decide +kernel
theorem dX0_has_6 : decode cX0_has 6 = .ok (.getfield 16, 3) := by decide +kernel
theorem dX0_has_9 : decode cX0_has 9 = .ok (.if_icmp .ge 7, 3) := by decide +kernel
theorem dX0_has_12 : decode cX0_has 12 = .ok (.iconst 1, 1) := by decide +kernel
theorem dX0_has_13 : decode cX0_has 13 = .ok (.goto 4, 3) := by decide +kernel
theorem dX0_has_16 : decode cX0_has 16 = .ok (.iconst 0, 1) := by decide +kernel
theorem dX0_has_17 : decode cX0_has 17 = .ok (.ireturn, 1) := by decide +kernel
theorem dX0_columnOf_0 : decode cX0_columnOf 0 = .ok (.iload_n 1, 1) := by decide +kernel
theorem dX0_columnOf_1 : decode cX0_columnOf 1 = .ok (.aload_n 0, 1) := by decide +kernel
theorem dX0_columnOf_2 : decode cX0_columnOf 2 = .ok (.getfield 7, 3) := by decide +kernel
theorem dX0_columnOf_5 : decode cX0_columnOf 5 = .ok (.irem, 1) := by decide +kernel
theorem dX0_columnOf_6 : decode cX0_columnOf 6 = .ok (.ireturn, 1) := by decide +kernel
theorem dX0_lineOf_0 : decode cX0_lineOf 0 = .ok (.iload_n 1, 1) := by decide +kernel
theorem dX0_lineOf_1 : decode cX0_lineOf 1 = .ok (.aload_n 0, 1) := by decide +kernel
theorem dX0_lineOf_2 : decode cX0_lineOf 2 = .ok (.getfield 7, 3) := by decide +kernel
theorem dX0_lineOf_5 : decode cX0_lineOf 5 = .ok (.idiv, 1) := by decide +kernel
theorem dX0_lineOf_6 : decode cX0_lineOf 6 = .ok (.ireturn, 1) := by decide +kernel
theorem dX0_onEdge_0 : decode cX0_onEdge 0 = .ok (.aload_n 0, 1) := by decide +kernel
theorem dX0_onEdge_1 : decode cX0_onEdge 1 = .ok (.getfield 38, 3) := by decide +kernel
theorem dX0_onEdge_4 : decode cX0_onEdge 4 = .ok (.iload_n 1, 1) := by decide +kernel
theorem dX0_onEdge_5 : decode cX0_onEdge 5 = .ok (.invokestatic 27, 3) := by decide +kernel
theorem dX0_onEdge_8 : decode cX0_onEdge 8 = .ok (.land, 1) := by decide +kernel
theorem dX0_onEdge_9 : decode cX0_onEdge 9 = .ok (.lconst 0, 1) := by decide +kernel
theorem dX0_onEdge_10 : decode cX0_onEdge 10 = .ok (.lcmp, 1) := by decide +kernel
theorem dX0_onEdge_11 : decode cX0_onEdge 11 = .ok (.ifCond .eq 7, 3) := by decide +kernel
theorem dX0_onEdge_14 : decode cX0_onEdge 14 = .ok (.iconst 1, 1) := by decide +kernel
theorem dX0_onEdge_15 : decode cX0_onEdge 15 = .ok (.goto 4, 3) := by decide +kernel
theorem dX0_onEdge_18 : decode cX0_onEdge 18 = .ok (.iconst 0, 1) := by decide +kernel
theorem dX0_onEdge_19 : decode cX0_onEdge 19 = .ok (.ireturn, 1) := by decide +kernel
theorem dX0_isOpen_0 : decode cX0_isOpen 0 = .ok (.aload_n 0, 1) := by decide +kernel
theorem dX0_isOpen_1 : decode cX0_isOpen 1 = .ok (.invokevirtual 41, 3) := by decide +kernel
theorem dX0_isOpen_4 : decode cX0_isOpen 4 = .ok (.iload_n 1, 1) := by decide +kernel
theorem dX0_isOpen_5 : decode cX0_isOpen 5 = .ok (.invokestatic 27, 3) := by decide +kernel
theorem dX0_isOpen_8 : decode cX0_isOpen 8 = .ok (.land, 1) := by decide +kernel
theorem dX0_isOpen_9 : decode cX0_isOpen 9 = .ok (.lconst 0, 1) := by decide +kernel
theorem dX0_isOpen_10 : decode cX0_isOpen 10 = .ok (.lcmp, 1) := by decide +kernel
theorem dX0_isOpen_11 : decode cX0_isOpen 11 = .ok (.ifCond .eq 7, 3) := by decide +kernel
theorem dX0_isOpen_14 : decode cX0_isOpen 14 = .ok (.iconst 1, 1) := by decide +kernel
theorem dX0_isOpen_15 : decode cX0_isOpen 15 = .ok (.goto 4, 3) := by decide +kernel
theorem dX0_isOpen_18 : decode cX0_isOpen 18 = .ok (.iconst 0, 1) := by decide +kernel
theorem dX0_isOpen_19 : decode cX0_isOpen 19 = .ok (.ireturn, 1) := by decide +kernel
theorem dX0_kindOf_0 : decode cX0_kindOf 0 = .ok (.iconst 1, 1) := by decide +kernel
theorem dX0_kindOf_1 : decode cX0_kindOf 1 = .ok (.istore_n 2, 1) := by decide +kernel
theorem dX0_kindOf_2 : decode cX0_kindOf 2 = .ok (.iload_n 2, 1) := by decide +kernel
theorem dX0_kindOf_3 : decode cX0_kindOf 3 = .ok (.iconst 4, 1) := by decide +kernel
theorem dX0_kindOf_4 : decode cX0_kindOf 4 = .ok (.if_icmp .ge 27, 3) := by decide +kernel
theorem dX0_kindOf_7 : decode cX0_kindOf 7 = .ok (.aload_n 0, 1) := by decide +kernel
theorem dX0_kindOf_8 : decode cX0_kindOf 8 = .ok (.getfield 19, 3) := by decide +kernel
theorem dX0_kindOf_11 : decode cX0_kindOf 11 = .ok (.iload_n 2, 1) := by decide +kernel
theorem dX0_kindOf_12 : decode cX0_kindOf 12 = .ok (.laload, 1) := by decide +kernel
theorem dX0_kindOf_13 : decode cX0_kindOf 13 = .ok (.iload_n 1, 1) := by decide +kernel
theorem dX0_kindOf_14 : decode cX0_kindOf 14 = .ok (.invokestatic 27, 3) := by decide +kernel
theorem dX0_kindOf_17 : decode cX0_kindOf 17 = .ok (.land, 1) := by decide +kernel
theorem dX0_kindOf_18 : decode cX0_kindOf 18 = .ok (.lconst 0, 1) := by decide +kernel
theorem dX0_kindOf_19 : decode cX0_kindOf 19 = .ok (.lcmp, 1) := by decide +kernel
theorem dX0_kindOf_20 : decode cX0_kindOf 20 = .ok (.ifCond .eq 5, 3) := by decide +kernel
theorem dX0_kindOf_23 : decode cX0_kindOf 23 = .ok (.iload_n 2, 1) := by decide +kernel
theorem dX0_kindOf_24 : decode cX0_kindOf 24 = .ok (.ireturn, 1) := by decide +kernel
theorem dX0_kindOf_25 : decode cX0_kindOf 25 = .ok (.iinc 2 1, 3) := by decide +kernel
theorem dX0_kindOf_28 : decode cX0_kindOf 28 = .ok (.goto (-26), 3) := by decide +kernel
theorem dX0_kindOf_31 : decode cX0_kindOf 31 = .ok (.iconst 0, 1) := by decide +kernel
theorem dX0_kindOf_32 : decode cX0_kindOf 32 = .ok (.ireturn, 1) := by decide +kernel
theorem dX0_setKind_0 : decode cX0_setKind 0 = .ok (.iconst 0, 1) := by decide +kernel
theorem dX0_setKind_1 : decode cX0_setKind 1 = .ok (.istore_n 3, 1) := by decide +kernel
theorem dX0_setKind_2 : decode cX0_setKind 2 = .ok (.iload_n 3, 1) := by decide +kernel
theorem dX0_setKind_3 : decode cX0_setKind 3 = .ok (.iconst 4, 1) := by decide +kernel
theorem dX0_setKind_4 : decode cX0_setKind 4 = .ok (.if_icmp .ge 26, 3) := by decide +kernel
theorem dX0_setKind_7 : decode cX0_setKind 7 = .ok (.aload_n 0, 1) := by decide +kernel
theorem dX0_setKind_8 : decode cX0_setKind 8 = .ok (.getfield 19, 3) := by decide +kernel
theorem dX0_setKind_11 : decode cX0_setKind 11 = .ok (.iload_n 3, 1) := by decide +kernel
theorem dX0_setKind_12 : decode cX0_setKind 12 = .ok (.dup2, 1) := by decide +kernel
theorem dX0_setKind_13 : decode cX0_setKind 13 = .ok (.laload, 1) := by decide +kernel
theorem dX0_setKind_14 : decode cX0_setKind 14 = .ok (.iload_n 1, 1) := by decide +kernel
theorem dX0_setKind_15 : decode cX0_setKind 15 = .ok (.invokestatic 27, 3) := by decide +kernel
theorem dX0_setKind_18 : decode cX0_setKind 18 = .ok (.ldc2_w 45, 3) := by decide +kernel
theorem dX0_setKind_21 : decode cX0_setKind 21 = .ok (.lxor, 1) := by decide +kernel
theorem dX0_setKind_22 : decode cX0_setKind 22 = .ok (.land, 1) := by decide +kernel
theorem dX0_setKind_23 : decode cX0_setKind 23 = .ok (.lastore, 1) := by decide +kernel
theorem dX0_setKind_24 : decode cX0_setKind 24 = .ok (.iinc 3 1, 3) := by decide +kernel
theorem dX0_setKind_27 : decode cX0_setKind 27 = .ok (.goto (-25), 3) := by decide +kernel
theorem dX0_setKind_30 : decode cX0_setKind 30 = .ok (.aload_n 0, 1) := by decide +kernel
theorem dX0_setKind_31 : decode cX0_setKind 31 = .ok (.getfield 19, 3) := by decide +kernel
theorem dX0_setKind_34 : decode cX0_setKind 34 = .ok (.iload_n 2, 1) := by decide +kernel
theorem dX0_setKind_35 : decode cX0_setKind 35 = .ok (.dup2, 1) := by decide +kernel
theorem dX0_setKind_36 : decode cX0_setKind 36 = .ok (.laload, 1) := by decide +kernel
theorem dX0_setKind_37 : decode cX0_setKind 37 = .ok (.iload_n 1, 1) := by decide +kernel
theorem dX0_setKind_38 : decode cX0_setKind 38 = .ok (.invokestatic 27, 3) := by decide +kernel
theorem dX0_setKind_41 : decode cX0_setKind 41 = .ok (.lor, 1) := by decide +kernel
theorem dX0_setKind_42 : decode cX0_setKind 42 = .ok (.lastore, 1) := by decide +kernel
theorem dX0_setKind_43 : decode cX0_setKind 43 = .ok (.return_, 1) := by decide +kernel
theorem dX0_open_0 : decode cX0_open 0 = .ok (.aload_n 0, 1) := by decide +kernel
theorem dX0_open_1 : decode cX0_open 1 = .ok (.getfield 19, 3) := by decide +kernel
theorem dX0_open_4 : decode cX0_open 4 = .ok (.iconst 0, 1) := by decide +kernel
theorem dX0_open_5 : decode cX0_open 5 = .ok (.laload, 1) := by decide +kernel
theorem dX0_open_6 : decode cX0_open 6 = .ok (.aload_n 0, 1) := by decide +kernel
theorem dX0_open_7 : decode cX0_open 7 = .ok (.getfield 19, 3) := by decide +kernel
theorem dX0_open_10 : decode cX0_open 10 = .ok (.iconst 1, 1) := by decide +kernel
theorem dX0_open_11 : decode cX0_open 11 = .ok (.laload, 1) := by decide +kernel
theorem dX0_open_12 : decode cX0_open 12 = .ok (.lor, 1) := by decide +kernel
theorem dX0_open_13 : decode cX0_open 13 = .ok (.lreturn, 1) := by decide +kernel
theorem dX0_area_0 : decode cX0_area 0 = .ok (.aload_n 0, 1) := by decide +kernel
theorem dX0_area_1 : decode cX0_area 1 = .ok (.iload_n 1, 1) := by decide +kernel
theorem dX0_area_2 : decode cX0_area 2 = .ok (.invokevirtual 47, 3) := by decide +kernel
theorem dX0_area_5 : decode cX0_area 5 = .ok (.iload_n 2, 1) := by decide +kernel
theorem dX0_area_6 : decode cX0_area 6 = .ok (.iadd, 1) := by decide +kernel
theorem dX0_area_7 : decode cX0_area 7 = .ok (.aload_n 0, 1) := by decide +kernel
theorem dX0_area_8 : decode cX0_area 8 = .ok (.getfield 7, 3) := by decide +kernel
theorem dX0_area_11 : decode cX0_area 11 = .ok (.if_icmp .gt 17, 3) := by decide +kernel
theorem dX0_area_14 : decode cX0_area 14 = .ok (.aload_n 0, 1) := by decide +kernel
theorem dX0_area_15 : decode cX0_area 15 = .ok (.iload_n 1, 1) := by decide +kernel
theorem dX0_area_16 : decode cX0_area 16 = .ok (.invokevirtual 51, 3) := by decide +kernel
theorem dX0_area_19 : decode cX0_area 19 = .ok (.iload_n 3, 1) := by decide +kernel
theorem dX0_area_20 : decode cX0_area 20 = .ok (.iadd, 1) := by decide +kernel
theorem dX0_area_21 : decode cX0_area 21 = .ok (.aload_n 0, 1) := by decide +kernel
theorem dX0_area_22 : decode cX0_area 22 = .ok (.getfield 13, 3) := by decide +kernel
theorem dX0_area_25 : decode cX0_area 25 = .ok (.if_icmp .le 5, 3) := by decide +kernel
theorem dX0_area_28 : decode cX0_area 28 = .ok (.lconst 0, 1) := by decide +kernel
theorem dX0_area_29 : decode cX0_area 29 = .ok (.lreturn, 1) := by decide +kernel
theorem dX0_area_30 : decode cX0_area 30 = .ok (.lconst 1, 1) := by decide +kernel
theorem dX0_area_31 : decode cX0_area 31 = .ok (.iload_n 2, 1) := by decide +kernel
theorem dX0_area_32 : decode cX0_area 32 = .ok (.lshl, 1) := by decide +kernel
theorem dX0_area_33 : decode cX0_area 33 = .ok (.lconst 1, 1) := by decide +kernel
theorem dX0_area_34 : decode cX0_area 34 = .ok (.lsub, 1) := by decide +kernel
theorem dX0_area_35 : decode cX0_area 35 = .ok (.lstore 4, 2) := by decide +kernel
theorem dX0_area_37 : decode cX0_area 37 = .ok (.lconst 0, 1) := by decide +kernel
theorem dX0_area_38 : decode cX0_area 38 = .ok (.lstore 6, 2) := by decide +kernel
theorem dX0_area_40 : decode cX0_area 40 = .ok (.iconst 0, 1) := by decide +kernel
theorem dX0_area_41 : decode cX0_area 41 = .ok (.istore 8, 2) := by decide +kernel
theorem dX0_area_43 : decode cX0_area 43 = .ok (.iload 8, 2) := by decide +kernel
theorem dX0_area_45 : decode cX0_area 45 = .ok (.iload_n 3, 1) := by decide +kernel
theorem dX0_area_46 : decode cX0_area 46 = .ok (.if_icmp .ge 26, 3) := by decide +kernel
theorem dX0_area_49 : decode cX0_area 49 = .ok (.lload 6, 2) := by decide +kernel
theorem dX0_area_51 : decode cX0_area 51 = .ok (.lload 4, 2) := by decide +kernel
theorem dX0_area_53 : decode cX0_area 53 = .ok (.iload_n 1, 1) := by decide +kernel
theorem dX0_area_54 : decode cX0_area 54 = .ok (.iload 8, 2) := by decide +kernel
theorem dX0_area_56 : decode cX0_area 56 = .ok (.aload_n 0, 1) := by decide +kernel
theorem dX0_area_57 : decode cX0_area 57 = .ok (.getfield 7, 3) := by decide +kernel
theorem dX0_area_60 : decode cX0_area 60 = .ok (.imul, 1) := by decide +kernel
theorem dX0_area_61 : decode cX0_area 61 = .ok (.iadd, 1) := by decide +kernel
theorem dX0_area_62 : decode cX0_area 62 = .ok (.lshl, 1) := by decide +kernel
theorem dX0_area_63 : decode cX0_area 63 = .ok (.lor, 1) := by decide +kernel
theorem dX0_area_64 : decode cX0_area 64 = .ok (.lstore 6, 2) := by decide +kernel
theorem dX0_area_66 : decode cX0_area 66 = .ok (.iinc 8 1, 3) := by decide +kernel
theorem dX0_area_69 : decode cX0_area 69 = .ok (.goto (-26), 3) := by decide +kernel
theorem dX0_area_72 : decode cX0_area 72 = .ok (.lload 6, 2) := by decide +kernel
theorem dX0_area_74 : decode cX0_area 74 = .ok (.lreturn, 1) := by decide +kernel
theorem dX0_beside_0 : decode cX0_beside 0 = .ok (.lload_n 1, 1) := by decide +kernel
theorem dX0_beside_1 : decode cX0_beside 1 = .ok (.aload_n 0, 1) := by decide +kernel
theorem dX0_beside_2 : decode cX0_beside 2 = .ok (.getfield 7, 3) := by decide +kernel
theorem dX0_beside_5 : decode cX0_beside 5 = .ok (.lushr, 1) := by decide +kernel
theorem dX0_beside_6 : decode cX0_beside 6 = .ok (.lload_n 1, 1) := by decide +kernel
theorem dX0_beside_7 : decode cX0_beside 7 = .ok (.aload_n 0, 1) := by decide +kernel
theorem dX0_beside_8 : decode cX0_beside 8 = .ok (.getfield 7, 3) := by decide +kernel
theorem dX0_beside_11 : decode cX0_beside 11 = .ok (.lshl, 1) := by decide +kernel
theorem dX0_beside_12 : decode cX0_beside 12 = .ok (.lor, 1) := by decide +kernel
theorem dX0_beside_13 : decode cX0_beside 13 = .ok (.lstore_n 3, 1) := by decide +kernel
theorem dX0_beside_14 : decode cX0_beside 14 = .ok (.lload_n 1, 1) := by decide +kernel
theorem dX0_beside_15 : decode cX0_beside 15 = .ok (.aload_n 0, 1) := by decide +kernel
theorem dX0_beside_16 : decode cX0_beside 16 = .ok (.getfield 35, 3) := by decide +kernel
theorem dX0_beside_19 : decode cX0_beside 19 = .ok (.ldc2_w 45, 3) := by decide +kernel
theorem dX0_beside_22 : decode cX0_beside 22 = .ok (.lxor, 1) := by decide +kernel
theorem dX0_beside_23 : decode cX0_beside 23 = .ok (.land, 1) := by decide +kernel
theorem dX0_beside_24 : decode cX0_beside 24 = .ok (.iconst 1, 1) := by decide +kernel
theorem dX0_beside_25 : decode cX0_beside 25 = .ok (.lshl, 1) := by decide +kernel
theorem dX0_beside_26 : decode cX0_beside 26 = .ok (.lload_n 1, 1) := by decide +kernel
theorem dX0_beside_27 : decode cX0_beside 27 = .ok (.aload_n 0, 1) := by decide +kernel
theorem dX0_beside_28 : decode cX0_beside 28 = .ok (.getfield 31, 3) := by decide +kernel
theorem dX0_beside_31 : decode cX0_beside 31 = .ok (.ldc2_w 45, 3) := by decide +kernel
theorem dX0_beside_34 : decode cX0_beside 34 = .ok (.lxor, 1) := by decide +kernel
theorem dX0_beside_35 : decode cX0_beside 35 = .ok (.land, 1) := by decide +kernel
theorem dX0_beside_36 : decode cX0_beside 36 = .ok (.iconst 1, 1) := by decide +kernel
theorem dX0_beside_37 : decode cX0_beside 37 = .ok (.lushr, 1) := by decide +kernel
theorem dX0_beside_38 : decode cX0_beside 38 = .ok (.lor, 1) := by decide +kernel
theorem dX0_beside_39 : decode cX0_beside 39 = .ok (.lstore 5, 2) := by decide +kernel
theorem dX0_beside_41 : decode cX0_beside 41 = .ok (.lload_n 3, 1) := by decide +kernel
theorem dX0_beside_42 : decode cX0_beside 42 = .ok (.lload 5, 2) := by decide +kernel
theorem dX0_beside_44 : decode cX0_beside 44 = .ok (.lor, 1) := by decide +kernel
theorem dX0_beside_45 : decode cX0_beside 45 = .ok (.lreturn, 1) := by decide +kernel
theorem dX0_spread_0 : decode cX0_spread 0 = .ok (.lload_n 1, 1) := by decide +kernel
theorem dX0_spread_1 : decode cX0_spread 1 = .ok (.lstore 6, 2) := by decide +kernel
theorem dX0_spread_3 : decode cX0_spread 3 = .ok (.iload 5, 2) := by decide +kernel
theorem dX0_spread_5 : decode cX0_spread 5 = .ok (.aload_n 0, 1) := by decide +kernel
theorem dX0_spread_6 : decode cX0_spread 6 = .ok (.getfield 16, 3) := by decide +kernel
theorem dX0_spread_9 : decode cX0_spread 9 = .ok (.invokestatic 54, 3) := by decide +kernel
theorem dX0_spread_12 : decode cX0_spread 12 = .ok (.istore 8, 2) := by decide +kernel
theorem dX0_spread_14 : decode cX0_spread 14 = .ok (.iconst 0, 1) := by decide +kernel
theorem dX0_spread_15 : decode cX0_spread 15 = .ok (.istore 9, 2) := by decide +kernel
theorem dX0_spread_17 : decode cX0_spread 17 = .ok (.iload 9, 2) := by decide +kernel
theorem dX0_spread_19 : decode cX0_spread 19 = .ok (.iload 8, 2) := by decide +kernel
theorem dX0_spread_21 : decode cX0_spread 21 = .ok (.if_icmp .ge 37, 3) := by decide +kernel
theorem dX0_spread_24 : decode cX0_spread 24 = .ok (.lload 6, 2) := by decide +kernel
theorem dX0_spread_26 : decode cX0_spread 26 = .ok (.aload_n 0, 1) := by decide +kernel
theorem dX0_spread_27 : decode cX0_spread 27 = .ok (.lload 6, 2) := by decide +kernel
theorem dX0_spread_29 : decode cX0_spread 29 = .ok (.invokevirtual 60, 3) := by decide +kernel
theorem dX0_spread_32 : decode cX0_spread 32 = .ok (.lload_n 3, 1) := by decide +kernel
theorem dX0_spread_33 : decode cX0_spread 33 = .ok (.land, 1) := by decide +kernel
theorem dX0_spread_34 : decode cX0_spread 34 = .ok (.lor, 1) := by decide +kernel
theorem dX0_spread_35 : decode cX0_spread 35 = .ok (.lstore 10, 2) := by decide +kernel
theorem dX0_spread_37 : decode cX0_spread 37 = .ok (.lload 10, 2) := by decide +kernel
theorem dX0_spread_39 : decode cX0_spread 39 = .ok (.lload 6, 2) := by decide +kernel
theorem dX0_spread_41 : decode cX0_spread 41 = .ok (.lcmp, 1) := by decide +kernel
theorem dX0_spread_42 : decode cX0_spread 42 = .ok (.ifCond .ne 6, 3) := by decide +kernel
theorem dX0_spread_45 : decode cX0_spread 45 = .ok (.goto 13, 3) := by decide +kernel
theorem dX0_spread_48 : decode cX0_spread 48 = .ok (.lload 10, 2) := by decide +kernel
theorem dX0_spread_50 : decode cX0_spread 50 = .ok (.lstore 6, 2) := by decide +kernel
theorem dX0_spread_52 : decode cX0_spread 52 = .ok (.iinc 9 1, 3) := by decide +kernel
theorem dX0_spread_55 : decode cX0_spread 55 = .ok (.goto (-38), 3) := by decide +kernel
theorem dX0_spread_58 : decode cX0_spread 58 = .ok (.lload 6, 2) := by decide +kernel
theorem dX0_spread_60 : decode cX0_spread 60 = .ok (.lreturn, 1) := by decide +kernel
theorem dX0_carries_0 : decode cX0_carries 0 = .ok (.iconst 0, 1) := by decide +kernel
theorem dX0_carries_1 : decode cX0_carries 1 = .ok (.istore 4, 2) := by decide +kernel
theorem dX0_carries_3 : decode cX0_carries 3 = .ok (.iload 4, 2) := by decide +kernel
theorem dX0_carries_5 : decode cX0_carries 5 = .ok (.aload_n 0, 1) := by decide +kernel
theorem dX0_carries_6 : decode cX0_carries 6 = .ok (.getfield 16, 3) := by decide +kernel
theorem dX0_carries_9 : decode cX0_carries 9 = .ok (.if_icmp .ge 34, 3) := by decide +kernel
theorem dX0_carries_12 : decode cX0_carries 12 = .ok (.lload_n 1, 1) := by decide +kernel
theorem dX0_carries_13 : decode cX0_carries 13 = .ok (.iload 4, 2) := by decide +kernel
theorem dX0_carries_15 : decode cX0_carries 15 = .ok (.invokestatic 27, 3) := by decide +kernel
theorem dX0_carries_18 : decode cX0_carries 18 = .ok (.land, 1) := by decide +kernel
theorem dX0_carries_19 : decode cX0_carries 19 = .ok (.lconst 0, 1) := by decide +kernel
theorem dX0_carries_20 : decode cX0_carries 20 = .ok (.lcmp, 1) := by decide +kernel
theorem dX0_carries_21 : decode cX0_carries 21 = .ok (.ifCond .eq 16, 3) := by decide +kernel
theorem dX0_carries_24 : decode cX0_carries 24 = .ok (.aload_n 0, 1) := by decide +kernel
theorem dX0_carries_25 : decode cX0_carries 25 = .ok (.getfield 23, 3) := by decide +kernel
theorem dX0_carries_28 : decode cX0_carries 28 = .ok (.iload 4, 2) := by decide +kernel
theorem dX0_carries_30 : decode cX0_carries 30 = .ok (.iaload, 1) := by decide +kernel
theorem dX0_carries_31 : decode cX0_carries 31 = .ok (.iload_n 3, 1) := by decide +kernel
theorem dX0_carries_32 : decode cX0_carries 32 = .ok (.if_icmp .ge 5, 3) := by decide +kernel
theorem dX0_carries_35 : decode cX0_carries 35 = .ok (.iconst 0, 1) := by decide +kernel
theorem dX0_carries_36 : decode cX0_carries 36 = .ok (.ireturn, 1) := by decide +kernel
theorem dX0_carries_37 : decode cX0_carries 37 = .ok (.iinc 4 1, 3) := by decide +kernel
theorem dX0_carries_40 : decode cX0_carries 40 = .ok (.goto (-37), 3) := by decide +kernel
theorem dX0_carries_43 : decode cX0_carries 43 = .ok (.iconst 1, 1) := by decide +kernel
theorem dX0_carries_44 : decode cX0_carries 44 = .ok (.ireturn, 1) := by decide +kernel
theorem dX1_init_0 : decode cX1_init 0 = .ok (.aload_n 0, 1) := by decide +kernel
theorem dX1_init_1 : decode cX1_init 1 = .ok (.invokespecial 1, 3) := by decide +kernel
theorem dX1_init_4 : decode cX1_init 4 = .ok (.aload_n 0, 1) := by decide +kernel
theorem dX1_init_5 : decode cX1_init 5 = .ok (.sipush 1000, 3) := by decide +kernel
theorem dX1_init_8 : decode cX1_init 8 = .ok (.putfield 7, 3) := by decide +kernel
theorem dX1_init_11 : decode cX1_init 11 = .ok (.return_, 1) := by decide +kernel
theorem dX1_pass_0 : decode cX1_pass 0 = .ok (.aload_n 0, 1) := by decide +kernel
theorem dX1_pass_1 : decode cX1_pass 1 = .ok (.dup, 1) := by decide +kernel
theorem dX1_pass_2 : decode cX1_pass 2 = .ok (.getfield 13, 3) := by decide +kernel
theorem dX1_pass_5 : decode cX1_pass 5 = .ok (.iconst 1, 1) := by decide +kernel
theorem dX1_pass_6 : decode cX1_pass 6 = .ok (.iadd, 1) := by decide +kernel
theorem dX1_pass_7 : decode cX1_pass 7 = .ok (.putfield 13, 3) := by decide +kernel
theorem dX1_pass_10 : decode cX1_pass 10 = .ok (.aload_n 0, 1) := by decide +kernel
theorem dX1_pass_11 : decode cX1_pass 11 = .ok (.dup, 1) := by decide +kernel
theorem dX1_pass_12 : decode cX1_pass 12 = .ok (.getfield 16, 3) := by decide +kernel
theorem dX1_pass_15 : decode cX1_pass 15 = .ok (.iload_n 2, 1) := by decide +kernel
theorem dX1_pass_16 : decode cX1_pass 16 = .ok (.aload_n 0, 1) := by decide +kernel
theorem dX1_pass_17 : decode cX1_pass 17 = .ok (.getfield 16, 3) := by decide +kernel
theorem dX1_pass_20 : decode cX1_pass 20 = .ok (.invokestatic 19, 3) := by decide +kernel
theorem dX1_pass_23 : decode cX1_pass 23 = .ok (.isub, 1) := by decide +kernel
theorem dX1_pass_24 : decode cX1_pass 24 = .ok (.putfield 16, 3) := by decide +kernel
theorem dX1_pass_27 : decode cX1_pass 27 = .ok (.aload_n 0, 1) := by decide +kernel
theorem dX1_pass_28 : decode cX1_pass 28 = .ok (.dup, 1) := by decide +kernel
theorem dX1_pass_29 : decode cX1_pass 29 = .ok (.getfield 25, 3) := by decide +kernel
theorem dX1_pass_32 : decode cX1_pass 32 = .ok (.iload_n 1, 1) := by decide +kernel
theorem dX1_pass_33 : decode cX1_pass 33 = .ok (.iadd, 1) := by decide +kernel
theorem dX1_pass_34 : decode cX1_pass 34 = .ok (.putfield 25, 3) := by decide +kernel
theorem dX1_pass_37 : decode cX1_pass 37 = .ok (.aload_n 0, 1) := by decide +kernel
theorem dX1_pass_38 : decode cX1_pass 38 = .ok (.getfield 25, 3) := by decide +kernel
theorem dX1_pass_41 : decode cX1_pass 41 = .ok (.iconst 0, 1) := by decide +kernel
theorem dX1_pass_42 : decode cX1_pass 42 = .ok (.aload_n 0, 1) := by decide +kernel
theorem dX1_pass_43 : decode cX1_pass 43 = .ok (.getfield 7, 3) := by decide +kernel
theorem dX1_pass_46 : decode cX1_pass 46 = .ok (.aload_n 0, 1) := by decide +kernel
theorem dX1_pass_47 : decode cX1_pass 47 = .ok (.getfield 16, 3) := by decide +kernel
theorem dX1_pass_50 : decode cX1_pass 50 = .ok (.isub, 1) := by decide +kernel
theorem dX1_pass_51 : decode cX1_pass 51 = .ok (.invokestatic 28, 3) := by decide +kernel
theorem dX1_pass_54 : decode cX1_pass 54 = .ok (.invokestatic 19, 3) := by decide +kernel
theorem dX1_pass_57 : decode cX1_pass 57 = .ok (.istore 4, 2) := by decide +kernel
theorem dX1_pass_59 : decode cX1_pass 59 = .ok (.aload_n 0, 1) := by decide +kernel
theorem dX1_pass_60 : decode cX1_pass 60 = .ok (.dup, 1) := by decide +kernel
theorem dX1_pass_61 : decode cX1_pass 61 = .ok (.getfield 25, 3) := by decide +kernel
theorem dX1_pass_64 : decode cX1_pass 64 = .ok (.iload 4, 2) := by decide +kernel
theorem dX1_pass_66 : decode cX1_pass 66 = .ok (.isub, 1) := by decide +kernel
theorem dX1_pass_67 : decode cX1_pass 67 = .ok (.putfield 25, 3) := by decide +kernel
theorem dX1_pass_70 : decode cX1_pass 70 = .ok (.aload_n 0, 1) := by decide +kernel
theorem dX1_pass_71 : decode cX1_pass 71 = .ok (.dup, 1) := by decide +kernel
theorem dX1_pass_72 : decode cX1_pass 72 = .ok (.getfield 16, 3) := by decide +kernel
theorem dX1_pass_75 : decode cX1_pass 75 = .ok (.iload 4, 2) := by decide +kernel
theorem dX1_pass_77 : decode cX1_pass 77 = .ok (.iadd, 1) := by decide +kernel
theorem dX1_pass_78 : decode cX1_pass 78 = .ok (.putfield 16, 3) := by decide +kernel
theorem dX1_pass_81 : decode cX1_pass 81 = .ok (.aload_n 0, 1) := by decide +kernel
theorem dX1_pass_82 : decode cX1_pass 82 = .ok (.dup, 1) := by decide +kernel
theorem dX1_pass_83 : decode cX1_pass 83 = .ok (.getfield 31, 3) := by decide +kernel
theorem dX1_pass_86 : decode cX1_pass 86 = .ok (.iload 4, 2) := by decide +kernel
theorem dX1_pass_88 : decode cX1_pass 88 = .ok (.iload_n 3, 1) := by decide +kernel
theorem dX1_pass_89 : decode cX1_pass 89 = .ok (.imul, 1) := by decide +kernel
theorem dX1_pass_90 : decode cX1_pass 90 = .ok (.iadd, 1) := by decide +kernel
theorem dX1_pass_91 : decode cX1_pass 91 = .ok (.putfield 31, 3) := by decide +kernel
theorem dX1_pass_94 : decode cX1_pass 94 = .ok (.aload_n 0, 1) := by decide +kernel
theorem dX1_pass_95 : decode cX1_pass 95 = .ok (.dup, 1) := by decide +kernel
theorem dX1_pass_96 : decode cX1_pass 96 = .ok (.getfield 34, 3) := by decide +kernel
theorem dX1_pass_99 : decode cX1_pass 99 = .ok (.iload 4, 2) := by decide +kernel
theorem dX1_pass_101 : decode cX1_pass 101 = .ok (.iload_n 3, 1) := by decide +kernel
theorem dX1_pass_102 : decode cX1_pass 102 = .ok (.imul, 1) := by decide +kernel
theorem dX1_pass_103 : decode cX1_pass 103 = .ok (.iadd, 1) := by decide +kernel
theorem dX1_pass_104 : decode cX1_pass 104 = .ok (.putfield 34, 3) := by decide +kernel
theorem dX1_pass_107 : decode cX1_pass 107 = .ok (.return_, 1) := by decide +kernel
theorem dX1_beginNextDay_0 : decode cX1_beginNextDay 0 = .ok (.aload_n 0, 1) := by decide +kernel
theorem dX1_beginNextDay_1 : decode cX1_beginNextDay 1 = .ok (.dup, 1) := by decide +kernel
theorem dX1_beginNextDay_2 : decode cX1_beginNextDay 2 = .ok (.getfield 37, 3) := by decide +kernel
theorem dX1_beginNextDay_5 : decode cX1_beginNextDay 5 = .ok (.iconst 1, 1) := by decide +kernel
theorem dX1_beginNextDay_6 : decode cX1_beginNextDay 6 = .ok (.iadd, 1) := by decide +kernel
theorem dX1_beginNextDay_7 : decode cX1_beginNextDay 7 = .ok (.putfield 37, 3) := by decide +kernel
theorem dX1_beginNextDay_10 : decode cX1_beginNextDay 10 = .ok (.aload_n 0, 1) := by decide +kernel
theorem dX1_beginNextDay_11 : decode cX1_beginNextDay 11 = .ok (.iconst 0, 1) := by decide +kernel
theorem dX1_beginNextDay_12 : decode cX1_beginNextDay 12 = .ok (.putfield 13, 3) := by decide +kernel
theorem dX1_beginNextDay_15 : decode cX1_beginNextDay 15 = .ok (.aload_n 0, 1) := by decide +kernel
theorem dX1_beginNextDay_16 : decode cX1_beginNextDay 16 = .ok (.iconst 0, 1) := by decide +kernel
theorem dX1_beginNextDay_17 : decode cX1_beginNextDay 17 = .ok (.putfield 16, 3) := by decide +kernel
theorem dX1_beginNextDay_20 : decode cX1_beginNextDay 20 = .ok (.aload_n 0, 1) := by decide +kernel
theorem dX1_beginNextDay_21 : decode cX1_beginNextDay 21 = .ok (.iconst 0, 1) := by decide +kernel
theorem dX1_beginNextDay_22 : decode cX1_beginNextDay 22 = .ok (.putfield 25, 3) := by decide +kernel
theorem dX1_beginNextDay_25 : decode cX1_beginNextDay 25 = .ok (.aload_n 0, 1) := by decide +kernel
theorem dX1_beginNextDay_26 : decode cX1_beginNextDay 26 = .ok (.iconst 0, 1) := by decide +kernel
theorem dX1_beginNextDay_27 : decode cX1_beginNextDay 27 = .ok (.putfield 31, 3) := by decide +kernel
theorem dX1_beginNextDay_30 : decode cX1_beginNextDay 30 = .ok (.return_, 1) := by decide +kernel
theorem dX2_init_0 : decode cX2_init 0 = .ok (.aload_n 0, 1) := by decide +kernel
theorem dX2_init_1 : decode cX2_init 1 = .ok (.invokespecial 3, 3) := by decide +kernel
theorem dX2_init_4 : decode cX2_init 4 = .ok (.aload_n 0, 1) := by decide +kernel
theorem dX2_init_5 : decode cX2_init 5 = .ok (.aload_n 1, 1) := by decide +kernel
theorem dX2_init_6 : decode cX2_init 6 = .ok (.putfield 9, 3) := by decide +kernel
theorem dX2_init_9 : decode cX2_init 9 = .ok (.aload_n 0, 1) := by decide +kernel
theorem dX2_init_10 : decode cX2_init 10 = .ok (.aload_n 2, 1) := by decide +kernel
theorem dX2_init_11 : decode cX2_init 11 = .ok (.putfield 15, 3) := by decide +kernel
theorem dX2_init_14 : decode cX2_init 14 = .ok (.return_, 1) := by decide +kernel
theorem dX2_mayComeIn_0 : decode cX2_mayComeIn 0 = .ok (.aload_n 1, 1) := by decide +kernel
theorem dX2_mayComeIn_1 : decode cX2_mayComeIn 1 = .ok (.getfield 19, 3) := by decide +kernel
theorem dX2_mayComeIn_4 : decode cX2_mayComeIn 4 = .ok (.ifCond .ne 19, 3) := by decide +kernel
theorem dX2_mayComeIn_7 : decode cX2_mayComeIn 7 = .ok (.aload_n 0, 1) := by decide +kernel
theorem dX2_mayComeIn_8 : decode cX2_mayComeIn 8 = .ok (.aload_n 1, 1) := by decide +kernel
theorem dX2_mayComeIn_9 : decode cX2_mayComeIn 9 = .ok (.aload_n 0, 1) := by decide +kernel
theorem dX2_mayComeIn_10 : decode cX2_mayComeIn 10 = .ok (.invokevirtual 25, 3) := by decide +kernel
theorem dX2_mayComeIn_13 : decode cX2_mayComeIn 13 = .ok (.invokevirtual 29, 3) := by decide +kernel
theorem dX2_mayComeIn_16 : decode cX2_mayComeIn 16 = .ok (.ifCond .eq 7, 3) := by decide +kernel
theorem dX2_mayComeIn_19 : decode cX2_mayComeIn 19 = .ok (.iconst 1, 1) := by decide +kernel
theorem dX2_mayComeIn_20 : decode cX2_mayComeIn 20 = .ok (.goto 4, 3) := by decide +kernel
theorem dX2_mayComeIn_23 : decode cX2_mayComeIn 23 = .ok (.iconst 0, 1) := by decide +kernel
theorem dX2_mayComeIn_24 : decode cX2_mayComeIn 24 = .ok (.ireturn, 1) := by decide +kernel
theorem dX2_stocked_0 : decode cX2_stocked 0 = .ok (.iconst 0, 1) := by decide +kernel
theorem dX2_stocked_1 : decode cX2_stocked 1 = .ok (.istore_n 1, 1) := by decide +kernel
theorem dX2_stocked_2 : decode cX2_stocked 2 = .ok (.iconst 0, 1) := by decide +kernel
theorem dX2_stocked_3 : decode cX2_stocked 3 = .ok (.istore_n 2, 1) := by decide +kernel
theorem dX2_stocked_4 : decode cX2_stocked 4 = .ok (.iload_n 2, 1) := by decide +kernel
theorem dX2_stocked_5 : decode cX2_stocked 5 = .ok (.aload_n 0, 1) := by decide +kernel
theorem dX2_stocked_6 : decode cX2_stocked 6 = .ok (.getfield 15, 3) := by decide +kernel
theorem dX2_stocked_9 : decode cX2_stocked 9 = .ok (.getfield 33, 3) := by decide +kernel
theorem dX2_stocked_12 : decode cX2_stocked 12 = .ok (.if_icmp .ge 34, 3) := by decide +kernel
theorem dX2_stocked_15 : decode cX2_stocked 15 = .ok (.iload_n 1, 1) := by decide +kernel
theorem dX2_stocked_16 : decode cX2_stocked 16 = .ok (.aload_n 0, 1) := by decide +kernel
theorem dX2_stocked_17 : decode cX2_stocked 17 = .ok (.getfield 15, 3) := by decide +kernel
theorem dX2_stocked_20 : decode cX2_stocked 20 = .ok (.getfield 39, 3) := by decide +kernel
theorem dX2_stocked_23 : decode cX2_stocked 23 = .ok (.iload_n 2, 1) := by decide +kernel
theorem dX2_stocked_24 : decode cX2_stocked 24 = .ok (.aaload, 1) := by decide +kernel
theorem dX2_stocked_25 : decode cX2_stocked 25 = .ok (.getfield 19, 3) := by decide +kernel
theorem dX2_stocked_28 : decode cX2_stocked 28 = .ok (.ifCond .eq 9, 3) := by decide +kernel
theorem dX2_stocked_31 : decode cX2_stocked 31 = .ok (.iconst 1, 1) := by decide +kernel
theorem dX2_stocked_32 : decode cX2_stocked 32 = .ok (.iload_n 2, 1) := by decide +kernel
theorem dX2_stocked_33 : decode cX2_stocked 33 = .ok (.ishl, 1) := by decide +kernel
theorem dX2_stocked_34 : decode cX2_stocked 34 = .ok (.goto 4, 3) := by decide +kernel
theorem dX2_stocked_37 : decode cX2_stocked 37 = .ok (.iconst 0, 1) := by decide +kernel
theorem dX2_stocked_38 : decode cX2_stocked 38 = .ok (.ior, 1) := by decide +kernel
theorem dX2_stocked_39 : decode cX2_stocked 39 = .ok (.istore_n 1, 1) := by decide +kernel
theorem dX2_stocked_40 : decode cX2_stocked 40 = .ok (.iinc 2 1, 3) := by decide +kernel
theorem dX2_stocked_43 : decode cX2_stocked 43 = .ok (.goto (-39), 3) := by decide +kernel
theorem dX2_stocked_46 : decode cX2_stocked 46 = .ok (.iload_n 1, 1) := by decide +kernel
theorem dX2_stocked_47 : decode cX2_stocked 47 = .ok (.ireturn, 1) := by decide +kernel
theorem dX2_laid_0 : decode cX2_laid 0 = .ok (.iconst 0, 1) := by decide +kernel
theorem dX2_laid_1 : decode cX2_laid 1 = .ok (.istore_n 1, 1) := by decide +kernel
theorem dX2_laid_2 : decode cX2_laid 2 = .ok (.iconst 0, 1) := by decide +kernel
theorem dX2_laid_3 : decode cX2_laid 3 = .ok (.istore_n 2, 1) := by decide +kernel
theorem dX2_laid_4 : decode cX2_laid 4 = .ok (.iload_n 2, 1) := by decide +kernel
theorem dX2_laid_5 : decode cX2_laid 5 = .ok (.aload_n 0, 1) := by decide +kernel
theorem dX2_laid_6 : decode cX2_laid 6 = .ok (.getfield 15, 3) := by decide +kernel
theorem dX2_laid_9 : decode cX2_laid 9 = .ok (.getfield 33, 3) := by decide +kernel
theorem dX2_laid_12 : decode cX2_laid 12 = .ok (.if_icmp .ge 34, 3) := by decide +kernel
theorem dX2_laid_15 : decode cX2_laid 15 = .ok (.iload_n 1, 1) := by decide +kernel
theorem dX2_laid_16 : decode cX2_laid 16 = .ok (.aload_n 0, 1) := by decide +kernel
theorem dX2_laid_17 : decode cX2_laid 17 = .ok (.getfield 15, 3) := by decide +kernel
theorem dX2_laid_20 : decode cX2_laid 20 = .ok (.getfield 39, 3) := by decide +kernel
theorem dX2_laid_23 : decode cX2_laid 23 = .ok (.iload_n 2, 1) := by decide +kernel
theorem dX2_laid_24 : decode cX2_laid 24 = .ok (.aaload, 1) := by decide +kernel
theorem dX2_laid_25 : decode cX2_laid 25 = .ok (.invokevirtual 43, 3) := by decide +kernel
theorem dX2_laid_28 : decode cX2_laid 28 = .ok (.ifCond .eq 9, 3) := by decide +kernel
theorem dX2_laid_31 : decode cX2_laid 31 = .ok (.iconst 1, 1) := by decide +kernel
theorem dX2_laid_32 : decode cX2_laid 32 = .ok (.iload_n 2, 1) := by decide +kernel
theorem dX2_laid_33 : decode cX2_laid 33 = .ok (.ishl, 1) := by decide +kernel
theorem dX2_laid_34 : decode cX2_laid 34 = .ok (.goto 4, 3) := by decide +kernel
theorem dX2_laid_37 : decode cX2_laid 37 = .ok (.iconst 0, 1) := by decide +kernel
theorem dX2_laid_38 : decode cX2_laid 38 = .ok (.ior, 1) := by decide +kernel
theorem dX2_laid_39 : decode cX2_laid 39 = .ok (.istore_n 1, 1) := by decide +kernel
theorem dX2_laid_40 : decode cX2_laid 40 = .ok (.iinc 2 1, 3) := by decide +kernel
theorem dX2_laid_43 : decode cX2_laid 43 = .ok (.goto (-39), 3) := by decide +kernel
theorem dX2_laid_46 : decode cX2_laid 46 = .ok (.iload_n 1, 1) := by decide +kernel
theorem dX2_laid_47 : decode cX2_laid 47 = .ok (.ireturn, 1) := by decide +kernel
theorem dX2_holds_0 : decode cX2_holds 0 = .ok (.iload_n 0, 1) := by decide +kernel
theorem dX2_holds_1 : decode cX2_holds 1 = .ok (.iconst 1, 1) := by decide +kernel
theorem dX2_holds_2 : decode cX2_holds 2 = .ok (.iload_n 1, 1) := by decide +kernel
theorem dX2_holds_3 : decode cX2_holds 3 = .ok (.ishl, 1) := by decide +kernel
theorem dX2_holds_4 : decode cX2_holds 4 = .ok (.iand, 1) := by decide +kernel
theorem dX2_holds_5 : decode cX2_holds 5 = .ok (.ifCond .eq 7, 3) := by decide +kernel
theorem dX2_holds_8 : decode cX2_holds 8 = .ok (.iconst 1, 1) := by decide +kernel
theorem dX2_holds_9 : decode cX2_holds 9 = .ok (.goto 4, 3) := by decide +kernel
theorem dX2_holds_12 : decode cX2_holds 12 = .ok (.iconst 0, 1) := by decide +kernel
theorem dX2_holds_13 : decode cX2_holds 13 = .ok (.ireturn, 1) := by decide +kernel
theorem dX2_isReached_0 : decode cX2_isReached 0 = .ok (.aload_n 0, 1) := by decide +kernel
theorem dX2_isReached_1 : decode cX2_isReached 1 = .ok (.getfield 9, 3) := by decide +kernel
theorem dX2_isReached_4 : decode cX2_isReached 4 = .ok (.invokevirtual 47, 3) := by decide +kernel
theorem dX2_isReached_7 : decode cX2_isReached 7 = .ok (.lstore_n 3, 1) := by decide +kernel
theorem dX2_isReached_8 : decode cX2_isReached 8 = .ok (.iconst 0, 1) := by decide +kernel
theorem dX2_isReached_9 : decode cX2_isReached 9 = .ok (.istore 5, 2) := by decide +kernel
theorem dX2_isReached_11 : decode cX2_isReached 11 = .ok (.iload 5, 2) := by decide +kernel
theorem dX2_isReached_13 : decode cX2_isReached 13 = .ok (.aload_n 0, 1) := by decide +kernel
theorem dX2_isReached_14 : decode cX2_isReached 14 = .ok (.getfield 15, 3) := by decide +kernel
theorem dX2_isReached_17 : decode cX2_isReached 17 = .ok (.getfield 33, 3) := by decide +kernel
theorem dX2_isReached_20 : decode cX2_isReached 20 = .ok (.if_icmp .ge 44, 3) := by decide +kernel
theorem dX2_isReached_23 : decode cX2_isReached 23 = .ok (.lload_n 3, 1) := by decide +kernel
theorem dX2_isReached_24 : decode cX2_isReached 24 = .ok (.iload_n 2, 1) := by decide +kernel
theorem dX2_isReached_25 : decode cX2_isReached 25 = .ok (.iload 5, 2) := by decide +kernel
theorem dX2_isReached_27 : decode cX2_isReached 27 = .ok (.invokestatic 53, 3) := by decide +kernel
theorem dX2_isReached_30 : decode cX2_isReached 30 = .ok (.ifCond .eq 23, 3) := by decide +kernel
theorem dX2_isReached_33 : decode cX2_isReached 33 = .ok (.aload_n 0, 1) := by decide +kernel
theorem dX2_isReached_34 : decode cX2_isReached 34 = .ok (.getfield 15, 3) := by decide +kernel
theorem dX2_isReached_37 : decode cX2_isReached 37 = .ok (.getfield 39, 3) := by decide +kernel
theorem dX2_isReached_40 : decode cX2_isReached 40 = .ok (.iload 5, 2) := by decide +kernel
theorem dX2_isReached_42 : decode cX2_isReached 42 = .ok (.aaload, 1) := by decide +kernel
theorem dX2_isReached_43 : decode cX2_isReached 43 = .ok (.getfield 57, 3) := by decide +kernel
theorem dX2_isReached_46 : decode cX2_isReached 46 = .ok (.ldc2_w 61, 3) := by decide +kernel
theorem dX2_isReached_49 : decode cX2_isReached 49 = .ok (.lxor, 1) := by decide +kernel
theorem dX2_isReached_50 : decode cX2_isReached 50 = .ok (.goto 6, 3) := by decide +kernel
theorem dX2_isReached_53 : decode cX2_isReached 53 = .ok (.ldc2_w 61, 3) := by decide +kernel
theorem dX2_isReached_56 : decode cX2_isReached 56 = .ok (.land, 1) := by decide +kernel
theorem dX2_isReached_57 : decode cX2_isReached 57 = .ok (.lstore_n 3, 1) := by decide +kernel
theorem dX2_isReached_58 : decode cX2_isReached 58 = .ok (.iinc 5 1, 3) := by decide +kernel
theorem dX2_isReached_61 : decode cX2_isReached 61 = .ok (.goto (-50), 3) := by decide +kernel
theorem dX2_isReached_64 : decode cX2_isReached 64 = .ok (.aload_n 0, 1) := by decide +kernel
theorem dX2_isReached_65 : decode cX2_isReached 65 = .ok (.getfield 9, 3) := by decide +kernel
theorem dX2_isReached_68 : decode cX2_isReached 68 = .ok (.aload_n 0, 1) := by decide +kernel
theorem dX2_isReached_69 : decode cX2_isReached 69 = .ok (.getfield 9, 3) := by decide +kernel
theorem dX2_isReached_72 : decode cX2_isReached 72 = .ok (.getfield 63, 3) := by decide +kernel
theorem dX2_isReached_75 : decode cX2_isReached 75 = .ok (.iconst 1, 1) := by decide +kernel
theorem dX2_isReached_76 : decode cX2_isReached 76 = .ok (.laload, 1) := by decide +kernel
theorem dX2_isReached_77 : decode cX2_isReached 77 = .ok (.lload_n 3, 1) := by decide +kernel
theorem dX2_isReached_78 : decode cX2_isReached 78 = .ok (.aload_n 0, 1) := by decide +kernel
theorem dX2_isReached_79 : decode cX2_isReached 79 = .ok (.getfield 9, 3) := by decide +kernel
theorem dX2_isReached_82 : decode cX2_isReached 82 = .ok (.getfield 67, 3) := by decide +kernel
theorem dX2_isReached_85 : decode cX2_isReached 85 = .ok (.invokevirtual 70, 3) := by decide +kernel
theorem dX2_isReached_88 : decode cX2_isReached 88 = .ok (.aload_n 1, 1) := by decide +kernel
theorem dX2_isReached_89 : decode cX2_isReached 89 = .ok (.getfield 57, 3) := by decide +kernel
theorem dX2_isReached_92 : decode cX2_isReached 92 = .ok (.land, 1) := by decide +kernel
theorem dX2_isReached_93 : decode cX2_isReached 93 = .ok (.lconst 0, 1) := by decide +kernel
theorem dX2_isReached_94 : decode cX2_isReached 94 = .ok (.lcmp, 1) := by decide +kernel
theorem dX2_isReached_95 : decode cX2_isReached 95 = .ok (.ifCond .eq 7, 3) := by decide +kernel
theorem dX2_isReached_98 : decode cX2_isReached 98 = .ok (.iconst 1, 1) := by decide +kernel
theorem dX2_isReached_99 : decode cX2_isReached 99 = .ok (.goto 4, 3) := by decide +kernel
theorem dX2_isReached_102 : decode cX2_isReached 102 = .ok (.iconst 0, 1) := by decide +kernel
theorem dX2_isReached_103 : decode cX2_isReached 103 = .ok (.ireturn, 1) := by decide +kernel
theorem dX2_inOrder_0 : decode cX2_inOrder 0 = .ok (.aload_n 0, 1) := by decide +kernel
theorem dX2_inOrder_1 : decode cX2_inOrder 1 = .ok (.invokevirtual 74, 3) := by decide +kernel
theorem dX2_inOrder_4 : decode cX2_inOrder 4 = .ok (.istore_n 2, 1) := by decide +kernel
theorem dX2_inOrder_5 : decode cX2_inOrder 5 = .ok (.iload_n 1, 1) := by decide +kernel
theorem dX2_inOrder_6 : decode cX2_inOrder 6 = .ok (.ifCond .lt 11, 3) := by decide +kernel
theorem dX2_inOrder_9 : decode cX2_inOrder 9 = .ok (.iload_n 1, 1) := by decide +kernel
theorem dX2_inOrder_10 : decode cX2_inOrder 10 = .ok (.iload_n 2, 1) := by decide +kernel
theorem dX2_inOrder_11 : decode cX2_inOrder 11 = .ok (.invokestatic 77, 3) := by decide +kernel
theorem dX2_inOrder_14 : decode cX2_inOrder 14 = .ok (.if_icmp .lt 5, 3) := by decide +kernel
theorem dX2_inOrder_17 : decode cX2_inOrder 17 = .ok (.iconst (-1), 1) := by decide +kernel
theorem dX2_inOrder_18 : decode cX2_inOrder 18 = .ok (.ireturn, 1) := by decide +kernel
theorem dX2_inOrder_19 : decode cX2_inOrder 19 = .ok (.iconst 0, 1) := by decide +kernel
theorem dX2_inOrder_20 : decode cX2_inOrder 20 = .ok (.istore_n 3, 1) := by decide +kernel
theorem dX2_inOrder_21 : decode cX2_inOrder 21 = .ok (.iconst (-1), 1) := by decide +kernel
theorem dX2_inOrder_22 : decode cX2_inOrder 22 = .ok (.istore 4, 2) := by decide +kernel
theorem dX2_inOrder_24 : decode cX2_inOrder 24 = .ok (.iconst 0, 1) := by decide +kernel
theorem dX2_inOrder_25 : decode cX2_inOrder 25 = .ok (.istore 5, 2) := by decide +kernel
theorem dX2_inOrder_27 : decode cX2_inOrder 27 = .ok (.iload 5, 2) := by decide +kernel
theorem dX2_inOrder_29 : decode cX2_inOrder 29 = .ok (.iload_n 1, 1) := by decide +kernel
theorem dX2_inOrder_30 : decode cX2_inOrder 30 = .ok (.if_icmp .gt 32, 3) := by decide +kernel
theorem dX2_inOrder_33 : decode cX2_inOrder 33 = .ok (.aload_n 0, 1) := by decide +kernel
theorem dX2_inOrder_34 : decode cX2_inOrder 34 = .ok (.iload_n 2, 1) := by decide +kernel
theorem dX2_inOrder_35 : decode cX2_inOrder 35 = .ok (.iload_n 3, 1) := by decide +kernel
theorem dX2_inOrder_36 : decode cX2_inOrder 36 = .ok (.invokevirtual 83, 3) := by decide +kernel
theorem dX2_inOrder_39 : decode cX2_inOrder 39 = .ok (.istore 4, 2) := by decide +kernel
theorem dX2_inOrder_41 : decode cX2_inOrder 41 = .ok (.iload 4, 2) := by decide +kernel
