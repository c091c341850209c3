theorem d5_begins_0 : decode c5_begins 0 = .ok (.aload_n 0, 1) := by decide +kernel
theorem d5_begins_1 : decode c5_begins 1 = .ok (.iconst 0, 1) := by decide +kernel
theorem d5_begins_2 : decode c5_begins 2 = .ok (.putfield 87, 3) := by decide +kernel
theorem d5_begins_5 : decode c5_begins 5 = .ok (.aload_n 0, 1) := by decide +kernel
theorem d5_begins_6 : decode c5_begins 6 = .ok (.iconst 0, 1) := by decide +kernel
theorem d5_begins_7 : decode c5_begins 7 = .ok (.putfield 91, 3) := by decide +kernel
theorem d5_begins_10 : decode c5_begins 10 = .ok (.aload_n 0, 1) := by decide +kernel
theorem d5_begins_11 : decode c5_begins 11 = .ok (.iconst 0, 1) := by decide +kernel
theorem d5_begins_12 : decode c5_begins 12 = .ok (.putfield 94, 3) := by decide +kernel
theorem d5_begins_15 : decode c5_begins 15 = .ok (.aload_n 0, 1) := by decide +kernel
theorem d5_begins_16 : decode c5_begins 16 = .ok (.iconst 0, 1) := by decide +kernel
theorem d5_begins_17 : decode c5_begins 17 = .ok (.putfield 97, 3) := by decide +kernel
theorem d5_begins_20 : decode c5_begins 20 = .ok (.aload_n 0, 1) := by decide +kernel
theorem d5_begins_21 : decode c5_begins 21 = .ok (.iconst 0, 1) := by decide +kernel
theorem d5_begins_22 : decode c5_begins 22 = .ok (.putfield 100, 3) := by decide +kernel
theorem d5_begins_25 : decode c5_begins 25 = .ok (.aload_n 0, 1) := by decide +kernel
theorem d5_begins_26 : decode c5_begins 26 = .ok (.iconst 0, 1) := by decide +kernel
theorem d5_begins_27 : decode c5_begins 27 = .ok (.putfield 104, 3) := by decide +kernel
theorem d5_begins_30 : decode c5_begins 30 = .ok (.iconst 0, 1) := by decide +kernel
theorem d5_begins_31 : decode c5_begins 31 = .ok (.istore_n 1, 1) := by decide +kernel
theorem d5_begins_32 : decode c5_begins 32 = .ok (.iload_n 1, 1) := by decide +kernel
theorem d5_begins_33 : decode c5_begins 33 = .ok (.bipush 64, 2) := by decide +kernel
theorem d5_begins_35 : decode c5_begins 35 = .ok (.if_icmp .ge 16, 3) := by decide +kernel
theorem d5_begins_38 : decode c5_begins 38 = .ok (.aload_n 0, 1) := by decide +kernel
theorem d5_begins_39 : decode c5_begins 39 = .ok (.getfield 72, 3) := by decide +kernel
theorem d5_begins_42 : decode c5_begins 42 = .ok (.iload_n 1, 1) := by decide +kernel
theorem d5_begins_43 : decode c5_begins 43 = .ok (.iconst 0, 1) := by decide +kernel
theorem d5_begins_44 : decode c5_begins 44 = .ok (.bastore, 1) := by decide +kernel
theorem d5_begins_45 : decode c5_begins 45 = .ok (.iinc 1 1, 3) := by decide +kernel
theorem d5_begins_48 : decode c5_begins 48 = .ok (.goto (-16), 3) := by decide +kernel
theorem d5_begins_51 : decode c5_begins 51 = .ok (.return_, 1) := by decide +kernel
theorem d5_clear_0 : decode c5_clear 0 = .ok (.aload_n 0, 1) := by decide +kernel
theorem d5_clear_1 : decode c5_clear 1 = .ok (.getfield 87, 3) := by decide +kernel
theorem d5_clear_4 : decode c5_clear 4 = .ok (.istore_n 1, 1) := by decide +kernel
theorem d5_clear_5 : decode c5_clear 5 = .ok (.aload_n 0, 1) := by decide +kernel
theorem d5_clear_6 : decode c5_clear 6 = .ok (.invokevirtual 84, 3) := by decide +kernel
theorem d5_clear_9 : decode c5_clear 9 = .ok (.iload_n 1, 1) := by decide +kernel
theorem d5_clear_10 : decode c5_clear 10 = .ok (.ireturn, 1) := by decide +kernel
theorem d5_isIn_0 : decode c5_isIn 0 = .ok (.lload_n 0, 1) := by decide +kernel
theorem d5_isIn_1 : decode c5_isIn 1 = .ok (.lload_n 2, 1) := by decide +kernel
theorem d5_isIn_2 : decode c5_isIn 2 = .ok (.lcmp, 1) := by decide +kernel
theorem d5_isIn_3 : decode c5_isIn 3 = .ok (.ifCond .lt 14, 3) := by decide +kernel
theorem d5_isIn_6 : decode c5_isIn 6 = .ok (.lload_n 0, 1) := by decide +kernel
theorem d5_isIn_7 : decode c5_isIn 7 = .ok (.lload 4, 2) := by decide +kernel
theorem d5_isIn_9 : decode c5_isIn 9 = .ok (.lcmp, 1) := by decide +kernel
theorem d5_isIn_10 : decode c5_isIn 10 = .ok (.ifCond .gt 7, 3) := by decide +kernel
theorem d5_isIn_13 : decode c5_isIn 13 = .ok (.iconst 1, 1) := by decide +kernel
theorem d5_isIn_14 : decode c5_isIn 14 = .ok (.goto 4, 3) := by decide +kernel
theorem d5_isIn_17 : decode c5_isIn 17 = .ok (.iconst 0, 1) := by decide +kernel
theorem d5_isIn_18 : decode c5_isIn 18 = .ok (.ireturn, 1) := by decide +kernel
theorem d5_isTable_0 : decode c5_isTable 0 = .ok (.iload_n 1, 1) := by decide +kernel
theorem d5_isTable_1 : decode c5_isTable 1 = .ok (.i2l, 1) := by decide +kernel
theorem d5_isTable_2 : decode c5_isTable 2 = .ok (.lconst 0, 1) := by decide +kernel
theorem d5_isTable_3 : decode c5_isTable 3 = .ok (.aload_n 0, 1) := by decide +kernel
theorem d5_isTable_4 : decode c5_isTable 4 = .ok (.getfield 87, 3) := by decide +kernel
theorem d5_isTable_7 : decode c5_isTable 7 = .ok (.iconst 1, 1) := by decide +kernel
theorem d5_isTable_8 : decode c5_isTable 8 = .ok (.isub, 1) := by decide +kernel
theorem d5_isTable_9 : decode c5_isTable 9 = .ok (.i2l, 1) := by decide +kernel
theorem d5_isTable_10 : decode c5_isTable 10 = .ok (.invokestatic 107, 3) := by decide +kernel
theorem d5_isTable_13 : decode c5_isTable 13 = .ok (.ireturn, 1) := by decide +kernel
theorem d5_clearRow_0 : decode c5_clearRow 0 = .ok (.aload_n 0, 1) := by decide +kernel
theorem d5_clearRow_1 : decode c5_clearRow 1 = .ok (.getfield 26, 3) := by decide +kernel
theorem d5_clearRow_4 : decode c5_clearRow 4 = .ok (.iload_n 1, 1) := by decide +kernel
theorem d5_clearRow_5 : decode c5_clearRow 5 = .ok (.iconst 0, 1) := by decide +kernel
theorem d5_clearRow_6 : decode c5_clearRow 6 = .ok (.bastore, 1) := by decide +kernel
theorem d5_clearRow_7 : decode c5_clearRow 7 = .ok (.aload_n 0, 1) := by decide +kernel
theorem d5_clearRow_8 : decode c5_clearRow 8 = .ok (.getfield 30, 3) := by decide +kernel
theorem d5_clearRow_11 : decode c5_clearRow 11 = .ok (.iload_n 1, 1) := by decide +kernel
theorem d5_clearRow_12 : decode c5_clearRow 12 = .ok (.lconst 0, 1) := by decide +kernel
theorem d5_clearRow_13 : decode c5_clearRow 13 = .ok (.lastore, 1) := by decide +kernel
theorem d5_clearRow_14 : decode c5_clearRow 14 = .ok (.return_, 1) := by decide +kernel
theorem d5_setRow_0 : decode c5_setRow 0 = .ok (.aload_n 0, 1) := by decide +kernel
theorem d5_setRow_1 : decode c5_setRow 1 = .ok (.getfield 26, 3) := by decide +kernel
theorem d5_setRow_4 : decode c5_setRow 4 = .ok (.iload_n 1, 1) := by decide +kernel
theorem d5_setRow_5 : decode c5_setRow 5 = .ok (.iconst 1, 1) := by decide +kernel
theorem d5_setRow_6 : decode c5_setRow 6 = .ok (.bastore, 1) := by decide +kernel
theorem d5_setRow_7 : decode c5_setRow 7 = .ok (.aload_n 0, 1) := by decide +kernel
theorem d5_setRow_8 : decode c5_setRow 8 = .ok (.getfield 30, 3) := by decide +kernel
theorem d5_setRow_11 : decode c5_setRow 11 = .ok (.iload_n 1, 1) := by decide +kernel
theorem d5_setRow_12 : decode c5_setRow 12 = .ok (.lload_n 2, 1) := by decide +kernel
theorem d5_setRow_13 : decode c5_setRow 13 = .ok (.lastore, 1) := by decide +kernel
theorem d5_setRow_14 : decode c5_setRow 14 = .ok (.return_, 1) := by decide +kernel
theorem d5_workFold_0 : decode c5_workFold 0 = .ok (.aload_n 0, 1) := by decide +kernel
theorem d5_workFold_1 : decode c5_workFold 1 = .ok (.getfield 23, 3) := by decide +kernel
theorem d5_workFold_4 : decode c5_workFold 4 = .ok (.iload_n 1, 1) := by decide +kernel
theorem d5_workFold_5 : decode c5_workFold 5 = .ok (.laload, 1) := by decide +kernel
theorem d5_workFold_6 : decode c5_workFold 6 = .ok (.l2i, 1) := by decide +kernel
theorem d5_workFold_7 : decode c5_workFold 7 = .ok (.istore_n 2, 1) := by decide +kernel
theorem d5_workFold_8 : decode c5_workFold 8 = .ok (.bipush 64, 2) := by decide +kernel
theorem d5_workFold_10 : decode c5_workFold 10 = .ok (.aload_n 0, 1) := by decide +kernel
theorem d5_workFold_11 : decode c5_workFold 11 = .ok (.getfield 13, 3) := by decide +kernel
theorem d5_workFold_14 : decode c5_workFold 14 = .ok (.iload_n 1, 1) := by decide +kernel
theorem d5_workFold_15 : decode c5_workFold 15 = .ok (.iaload, 1) := by decide +kernel
theorem d5_workFold_16 : decode c5_workFold 16 = .ok (.imul, 1) := by decide +kernel
theorem d5_workFold_17 : decode c5_workFold 17 = .ok (.istore_n 3, 1) := by decide +kernel
theorem d5_workFold_18 : decode c5_workFold 18 = .ok (.iconst 0, 1) := by decide +kernel
theorem d5_workFold_19 : decode c5_workFold 19 = .ok (.istore 4, 2) := by decide +kernel
theorem d5_workFold_21 : decode c5_workFold 21 = .ok (.iload 4, 2) := by decide +kernel
theorem d5_workFold_23 : decode c5_workFold 23 = .ok (.iload_n 2, 1) := by decide +kernel
theorem d5_workFold_24 : decode c5_workFold 24 = .ok (.if_icmp .ge 201, 3) := by decide +kernel
theorem d5_workFold_27 : decode c5_workFold 27 = .ok (.iconst 0, 1) := by decide +kernel
theorem d5_workFold_28 : decode c5_workFold 28 = .ok (.istore 5, 2) := by decide +kernel
theorem d5_workFold_30 : decode c5_workFold 30 = .ok (.lconst 0, 1) := by decide +kernel
theorem d5_workFold_31 : decode c5_workFold 31 = .ok (.lstore 6, 2) := by decide +kernel
theorem d5_workFold_33 : decode c5_workFold 33 = .ok (.iload 4, 2) := by decide +kernel
theorem d5_workFold_35 : decode c5_workFold 35 = .ok (.istore 8, 2) := by decide +kernel
theorem d5_workFold_37 : decode c5_workFold 37 = .ok (.iload 8, 2) := by decide +kernel
theorem d5_workFold_39 : decode c5_workFold 39 = .ok (.bipush 64, 2) := by decide +kernel
theorem d5_workFold_41 : decode c5_workFold 41 = .ok (.if_icmp .ge 160, 3) := by decide +kernel
theorem d5_workFold_44 : decode c5_workFold 44 = .ok (.aload_n 0, 1) := by decide +kernel
theorem d5_workFold_45 : decode c5_workFold 45 = .ok (.getfield 26, 3) := by decide +kernel
theorem d5_workFold_48 : decode c5_workFold 48 = .ok (.iload_n 3, 1) := by decide +kernel
theorem d5_workFold_49 : decode c5_workFold 49 = .ok (.iload 8, 2) := by decide +kernel
theorem d5_workFold_51 : decode c5_workFold 51 = .ok (.iadd, 1) := by decide +kernel
theorem d5_workFold_52 : decode c5_workFold 52 = .ok (.baload, 1) := by decide +kernel
theorem d5_workFold_53 : decode c5_workFold 53 = .ok (.ifCond .eq 139, 3) := by decide +kernel
theorem d5_workFold_56 : decode c5_workFold 56 = .ok (.aload_n 0, 1) := by decide +kernel
theorem d5_workFold_57 : decode c5_workFold 57 = .ok (.getfield 30, 3) := by decide +kernel
theorem d5_workFold_60 : decode c5_workFold 60 = .ok (.iload_n 3, 1) := by decide +kernel
theorem d5_workFold_61 : decode c5_workFold 61 = .ok (.iload 8, 2) := by decide +kernel
theorem d5_workFold_63 : decode c5_workFold 63 = .ok (.iadd, 1) := by decide +kernel
theorem d5_workFold_64 : decode c5_workFold 64 = .ok (.laload, 1) := by decide +kernel
theorem d5_workFold_65 : decode c5_workFold 65 = .ok (.lstore 9, 2) := by decide +kernel
theorem d5_workFold_67 : decode c5_workFold 67 = .ok (.aload_n 0, 1) := by decide +kernel
theorem d5_workFold_68 : decode c5_workFold 68 = .ok (.getfield 19, 3) := by decide +kernel
theorem d5_workFold_71 : decode c5_workFold 71 = .ok (.iload_n 1, 1) := by decide +kernel
theorem d5_workFold_72 : decode c5_workFold 72 = .ok (.laload, 1) := by decide +kernel
theorem d5_workFold_73 : decode c5_workFold 73 = .ok (.lconst 0, 1) := by decide +kernel
theorem d5_workFold_74 : decode c5_workFold 74 = .ok (.lcmp, 1) := by decide +kernel
theorem d5_workFold_75 : decode c5_workFold 75 = .ok (.ifCond .ne 12, 3) := by decide +kernel
theorem d5_workFold_78 : decode c5_workFold 78 = .ok (.lload 6, 2) := by decide +kernel
theorem d5_workFold_80 : decode c5_workFold 80 = .ok (.lconst 1, 1) := by decide +kernel
theorem d5_workFold_81 : decode c5_workFold 81 = .ok (.ladd, 1) := by decide +kernel
theorem d5_workFold_82 : decode c5_workFold 82 = .ok (.lstore 6, 2) := by decide +kernel
theorem d5_workFold_84 : decode c5_workFold 84 = .ok (.goto 105, 3) := by decide +kernel
theorem d5_workFold_87 : decode c5_workFold 87 = .ok (.aload_n 0, 1) := by decide +kernel
theorem d5_workFold_88 : decode c5_workFold 88 = .ok (.getfield 19, 3) := by decide +kernel
theorem d5_workFold_91 : decode c5_workFold 91 = .ok (.iload_n 1, 1) := by decide +kernel
theorem d5_workFold_92 : decode c5_workFold 92 = .ok (.laload, 1) := by decide +kernel
theorem d5_workFold_93 : decode c5_workFold 93 = .ok (.lconst 1, 1) := by decide +kernel
theorem d5_workFold_94 : decode c5_workFold 94 = .ok (.lcmp, 1) := by decide +kernel
theorem d5_workFold_95 : decode c5_workFold 95 = .ok (.ifCond .ne 13, 3) := by decide +kernel
theorem d5_workFold_98 : decode c5_workFold 98 = .ok (.lload 6, 2) := by decide +kernel
theorem d5_workFold_100 : decode c5_workFold 100 = .ok (.lload 9, 2) := by decide +kernel
theorem d5_workFold_102 : decode c5_workFold 102 = .ok (.ladd, 1) := by decide +kernel
theorem d5_workFold_103 : decode c5_workFold 103 = .ok (.lstore 6, 2) := by decide +kernel
theorem d5_workFold_105 : decode c5_workFold 105 = .ok (.goto 84, 3) := by decide +kernel
theorem d5_workFold_108 : decode c5_workFold 108 = .ok (.aload_n 0, 1) := by decide +kernel
theorem d5_workFold_109 : decode c5_workFold 109 = .ok (.getfield 19, 3) := by decide +kernel
theorem d5_workFold_112 : decode c5_workFold 112 = .ok (.iload_n 1, 1) := by decide +kernel
theorem d5_workFold_113 : decode c5_workFold 113 = .ok (.laload, 1) := by decide +kernel
theorem d5_workFold_114 : decode c5_workFold 114 = .ok (.ldc2_w 111, 3) := by decide +kernel
theorem d5_workFold_117 : decode c5_workFold 117 = .ok (.lcmp, 1) := by decide +kernel
theorem d5_workFold_118 : decode c5_workFold 118 = .ok (.ifCond .ne 28, 3) := by decide +kernel
theorem d5_workFold_121 : decode c5_workFold 121 = .ok (.iload 5, 2) := by decide +kernel
theorem d5_workFold_123 : decode c5_workFold 123 = .ok (.ifCond .eq 11, 3) := by decide +kernel
theorem d5_workFold_126 : decode c5_workFold 126 = .ok (.lload 9, 2) := by decide +kernel
theorem d5_workFold_128 : decode c5_workFold 128 = .ok (.lload 6, 2) := by decide +kernel
theorem d5_workFold_130 : decode c5_workFold 130 = .ok (.lcmp, 1) := by decide +kernel
theorem d5_workFold_131 : decode c5_workFold 131 = .ok (.ifCond .ge 8, 3) := by decide +kernel
theorem d5_workFold_134 : decode c5_workFold 134 = .ok (.lload 9, 2) := by decide +kernel
theorem d5_workFold_136 : decode c5_workFold 136 = .ok (.goto 5, 3) := by decide +kernel
theorem d5_workFold_139 : decode c5_workFold 139 = .ok (.lload 6, 2) := by decide +kernel
theorem d5_workFold_141 : decode c5_workFold 141 = .ok (.lstore 6, 2) := by decide +kernel
theorem d5_workFold_143 : decode c5_workFold 143 = .ok (.goto 46, 3) := by decide +kernel
theorem d5_workFold_146 : decode c5_workFold 146 = .ok (.aload_n 0, 1) := by decide +kernel
theorem d5_workFold_147 : decode c5_workFold 147 = .ok (.getfield 19, 3) := by decide +kernel
theorem d5_workFold_150 : decode c5_workFold 150 = .ok (.iload_n 1, 1) := by decide +kernel
theorem d5_workFold_151 : decode c5_workFold 151 = .ok (.laload, 1) := by decide +kernel
theorem d5_workFold_152 : decode c5_workFold 152 = .ok (.ldc2_w 113, 3) := by decide +kernel
theorem d5_workFold_155 : decode c5_workFold 155 = .ok (.lcmp, 1) := by decide +kernel
theorem d5_workFold_156 : decode c5_workFold 156 = .ok (.ifCond .ne 28, 3) := by decide +kernel
theorem d5_workFold_159 : decode c5_workFold 159 = .ok (.iload 5, 2) := by decide +kernel
theorem d5_workFold_161 : decode c5_workFold 161 = .ok (.ifCond .eq 11, 3) := by decide +kernel
theorem d5_workFold_164 : decode c5_workFold 164 = .ok (.lload 9, 2) := by decide +kernel
theorem d5_workFold_166 : decode c5_workFold 166 = .ok (.lload 6, 2) := by decide +kernel
theorem d5_workFold_168 : decode c5_workFold 168 = .ok (.lcmp, 1) := by decide +kernel
theorem d5_workFold_169 : decode c5_workFold 169 = .ok (.ifCond .le 8, 3) := by decide +kernel
theorem d5_workFold_172 : decode c5_workFold 172 = .ok (.lload 9, 2) := by decide +kernel
theorem d5_workFold_174 : decode c5_workFold 174 = .ok (.goto 5, 3) := by decide +kernel
theorem d5_workFold_177 : decode c5_workFold 177 = .ok (.lload 6, 2) := by decide +kernel
theorem d5_workFold_179 : decode c5_workFold 179 = .ok (.lstore 6, 2) := by decide +kernel
theorem d5_workFold_181 : decode c5_workFold 181 = .ok (.goto 8, 3) := by decide +kernel
theorem d5_workFold_184 : decode c5_workFold 184 = .ok (.iload 8, 2) := by decide +kernel
theorem d5_workFold_186 : decode c5_workFold 186 = .ok (.i2l, 1) := by decide +kernel
theorem d5_workFold_187 : decode c5_workFold 187 = .ok (.lstore 6, 2) := by decide +kernel
theorem d5_workFold_189 : decode c5_workFold 189 = .ok (.iinc 5 1, 3) := by decide +kernel
theorem d5_workFold_192 : decode c5_workFold 192 = .ok (.iload 8, 2) := by decide +kernel
theorem d5_workFold_194 : decode c5_workFold 194 = .ok (.iload_n 2, 1) := by decide +kernel
theorem d5_workFold_195 : decode c5_workFold 195 = .ok (.iadd, 1) := by decide +kernel
theorem d5_workFold_196 : decode c5_workFold 196 = .ok (.istore 8, 2) := by decide +kernel
theorem d5_workFold_198 : decode c5_workFold 198 = .ok (.goto (-161), 3) := by decide +kernel
theorem d5_workFold_201 : decode c5_workFold 201 = .ok (.iload 5, 2) := by decide +kernel
theorem d5_workFold_203 : decode c5_workFold 203 = .ok (.ifCond .le 16, 3) := by decide +kernel
theorem d5_workFold_206 : decode c5_workFold 206 = .ok (.aload_n 0, 1) := by decide +kernel
theorem d5_workFold_207 : decode c5_workFold 207 = .ok (.bipush 64, 2) := by decide +kernel
theorem d5_workFold_209 : decode c5_workFold 209 = .ok (.iload_n 1, 1) := by decide +kernel
theorem d5_workFold_210 : decode c5_workFold 210 = .ok (.imul, 1) := by decide +kernel
theorem d5_workFold_211 : decode c5_workFold 211 = .ok (.iload 4, 2) := by decide +kernel
theorem d5_workFold_213 : decode c5_workFold 213 = .ok (.iadd, 1) := by decide +kernel
theorem d5_workFold_214 : decode c5_workFold 214 = .ok (.lload 6, 2) := by decide +kernel
theorem d5_workFold_216 : decode c5_workFold 216 = .ok (.invokevirtual 115, 3) := by decide +kernel
theorem d5_workFold_219 : decode c5_workFold 219 = .ok (.iinc 4 1, 3) := by decide +kernel
theorem d5_workFold_222 : decode c5_workFold 222 = .ok (.goto (-201), 3) := by decide +kernel
theorem d5_workFold_225 : decode c5_workFold 225 = .ok (.return_, 1) := by decide +kernel
theorem d5_isBest_0 : decode c5_isBest 0 = .ok (.lconst 0, 1) := by decide +kernel
theorem d5_isBest_1 : decode c5_isBest 1 = .ok (.lstore 5, 2) := by decide +kernel
theorem d5_isBest_3 : decode c5_isBest 3 = .ok (.iconst 0, 1) := by decide +kernel
theorem d5_isBest_4 : decode c5_isBest 4 = .ok (.istore 7, 2) := by decide +kernel
theorem d5_isBest_6 : decode c5_isBest 6 = .ok (.iload 7, 2) := by decide +kernel
theorem d5_isBest_8 : decode c5_isBest 8 = .ok (.bipush 64, 2) := by decide +kernel
theorem d5_isBest_10 : decode c5_isBest 10 = .ok (.if_icmp .ge 74, 3) := by decide +kernel
theorem d5_isBest_13 : decode c5_isBest 13 = .ok (.aload_n 0, 1) := by decide +kernel
theorem d5_isBest_14 : decode c5_isBest 14 = .ok (.getfield 30, 3) := by decide +kernel
theorem d5_isBest_17 : decode c5_isBest 17 = .ok (.iload_n 1, 1) := by decide +kernel
theorem d5_isBest_18 : decode c5_isBest 18 = .ok (.iload 7, 2) := by decide +kernel
theorem d5_isBest_20 : decode c5_isBest 20 = .ok (.iadd, 1) := by decide +kernel
theorem d5_isBest_21 : decode c5_isBest 21 = .ok (.laload, 1) := by decide +kernel
theorem d5_isBest_22 : decode c5_isBest 22 = .ok (.lstore 8, 2) := by decide +kernel
theorem d5_isBest_24 : decode c5_isBest 24 = .ok (.aload_n 0, 1) := by decide +kernel
theorem d5_isBest_25 : decode c5_isBest 25 = .ok (.getfield 30, 3) := by decide +kernel
theorem d5_isBest_28 : decode c5_isBest 28 = .ok (.iload_n 1, 1) := by decide +kernel
theorem d5_isBest_29 : decode c5_isBest 29 = .ok (.iload_n 2, 1) := by decide +kernel
theorem d5_isBest_30 : decode c5_isBest 30 = .ok (.iadd, 1) := by decide +kernel
theorem d5_isBest_31 : decode c5_isBest 31 = .ok (.laload, 1) := by decide +kernel
theorem d5_isBest_32 : decode c5_isBest 32 = .ok (.lstore 10, 2) := by decide +kernel
theorem d5_isBest_34 : decode c5_isBest 34 = .ok (.lload 5, 2) := by decide +kernel
theorem d5_isBest_36 : decode c5_isBest 36 = .ok (.aload_n 0, 1) := by decide +kernel
theorem d5_isBest_37 : decode c5_isBest 37 = .ok (.getfield 26, 3) := by decide +kernel
theorem d5_isBest_40 : decode c5_isBest 40 = .ok (.iload_n 1, 1) := by decide +kernel
theorem d5_isBest_41 : decode c5_isBest 41 = .ok (.iload 7, 2) := by decide +kernel
theorem d5_isBest_43 : decode c5_isBest 43 = .ok (.iadd, 1) := by decide +kernel
theorem d5_isBest_44 : decode c5_isBest 44 = .ok (.baload, 1) := by decide +kernel
theorem d5_isBest_45 : decode c5_isBest 45 = .ok (.ifCond .eq 29, 3) := by decide +kernel
theorem d5_isBest_48 : decode c5_isBest 48 = .ok (.lload 8, 2) := by decide +kernel
theorem d5_isBest_50 : decode c5_isBest 50 = .ok (.lload 10, 2) := by decide +kernel
theorem d5_isBest_52 : decode c5_isBest 52 = .ok (.lcmp, 1) := by decide +kernel
theorem d5_isBest_53 : decode c5_isBest 53 = .ok (.ifCond .gt 17, 3) := by decide +kernel
theorem d5_isBest_56 : decode c5_isBest 56 = .ok (.lload 8, 2) := by decide +kernel
theorem d5_isBest_58 : decode c5_isBest 58 = .ok (.lload 10, 2) := by decide +kernel
theorem d5_isBest_60 : decode c5_isBest 60 = .ok (.lcmp, 1) := by decide +kernel
theorem d5_isBest_61 : decode c5_isBest 61 = .ok (.ifCond .ne 13, 3) := by decide +kernel
theorem d5_isBest_64 : decode c5_isBest 64 = .ok (.iload 7, 2) := by decide +kernel
theorem d5_isBest_66 : decode c5_isBest 66 = .ok (.iload_n 2, 1) := by decide +kernel
theorem d5_isBest_67 : decode c5_isBest 67 = .ok (.if_icmp .ge 7, 3) := by decide +kernel
theorem d5_isBest_70 : decode c5_isBest 70 = .ok (.lconst 1, 1) := by decide +kernel
theorem d5_isBest_71 : decode c5_isBest 71 = .ok (.goto 4, 3) := by decide +kernel
theorem d5_isBest_74 : decode c5_isBest 74 = .ok (.lconst 0, 1) := by decide +kernel
theorem d5_isBest_75 : decode c5_isBest 75 = .ok (.ladd, 1) := by decide +kernel
theorem d5_isBest_76 : decode c5_isBest 76 = .ok (.lstore 5, 2) := by decide +kernel
theorem d5_isBest_78 : decode c5_isBest 78 = .ok (.iinc 7 1, 3) := by decide +kernel
theorem d5_isBest_81 : decode c5_isBest 81 = .ok (.goto (-75), 3) := by decide +kernel
theorem d5_isBest_84 : decode c5_isBest 84 = .ok (.lload 5, 2) := by decide +kernel
theorem d5_isBest_86 : decode c5_isBest 86 = .ok (.lload_n 3, 1) := by decide +kernel
theorem d5_isBest_87 : decode c5_isBest 87 = .ok (.lcmp, 1) := by decide +kernel
theorem d5_isBest_88 : decode c5_isBest 88 = .ok (.ifCond .ge 7, 3) := by decide +kernel
theorem d5_isBest_91 : decode c5_isBest 91 = .ok (.iconst 1, 1) := by decide +kernel
theorem d5_isBest_92 : decode c5_isBest 92 = .ok (.goto 4, 3) := by decide +kernel
theorem d5_isBest_95 : decode c5_isBest 95 = .ok (.iconst 0, 1) := by decide +kernel
theorem d5_isBest_96 : decode c5_isBest 96 = .ok (.ireturn, 1) := by decide +kernel
theorem d5_workRow_0 : decode c5_workRow 0 = .ok (.aload_n 0, 1) := by decide +kernel
theorem d5_workRow_1 : decode c5_workRow 1 = .ok (.getfield 7, 3) := by decide +kernel
theorem d5_workRow_4 : decode c5_workRow 4 = .ok (.iload_n 1, 1) := by decide +kernel
theorem d5_workRow_5 : decode c5_workRow 5 = .ok (.iaload, 1) := by decide +kernel
theorem d5_workRow_6 : decode c5_workRow 6 = .ok (.tableswitch 180 1 6 #[38, 69, 180, 95, 180, 152], 38) := by decide +kernel
theorem d5_workRow_44 : decode c5_workRow 44 = .ok (.lload_n 3, 1) := by decide +kernel
theorem d5_workRow_45 : decode c5_workRow 45 = .ok (.aload_n 0, 1) := by decide +kernel
theorem d5_workRow_46 : decode c5_workRow 46 = .ok (.getfield 19, 3) := by decide +kernel
theorem d5_workRow_49 : decode c5_workRow 49 = .ok (.iload_n 1, 1) := by decide +kernel
theorem d5_workRow_50 : decode c5_workRow 50 = .ok (.laload, 1) := by decide +kernel
theorem d5_workRow_51 : decode c5_workRow 51 = .ok (.aload_n 0, 1) := by decide +kernel
theorem d5_workRow_52 : decode c5_workRow 52 = .ok (.getfield 23, 3) := by decide +kernel
theorem d5_workRow_55 : decode c5_workRow 55 = .ok (.iload_n 1, 1) := by decide +kernel
theorem d5_workRow_56 : decode c5_workRow 56 = .ok (.laload, 1) := by decide +kernel
theorem d5_workRow_57 : decode c5_workRow 57 = .ok (.invokestatic 107, 3) := by decide +kernel
theorem d5_workRow_60 : decode c5_workRow 60 = .ok (.ifCond .eq 165, 3) := by decide +kernel
theorem d5_workRow_63 : decode c5_workRow 63 = .ok (.aload_n 0, 1) := by decide +kernel
theorem d5_workRow_64 : decode c5_workRow 64 = .ok (.iload 7, 2) := by decide +kernel
theorem d5_workRow_66 : decode c5_workRow 66 = .ok (.iload_n 2, 1) := by decide +kernel
theorem d5_workRow_67 : decode c5_workRow 67 = .ok (.iadd, 1) := by decide +kernel
theorem d5_workRow_68 : decode c5_workRow 68 = .ok (.lload_n 3, 1) := by decide +kernel
theorem d5_workRow_69 : decode c5_workRow 69 = .ok (.invokevirtual 115, 3) := by decide +kernel
theorem d5_workRow_72 : decode c5_workRow 72 = .ok (.goto 153, 3) := by decide +kernel
theorem d5_workRow_75 : decode c5_workRow 75 = .ok (.aload_n 0, 1) := by decide +kernel
theorem d5_workRow_76 : decode c5_workRow 76 = .ok (.iload 7, 2) := by decide +kernel
theorem d5_workRow_78 : decode c5_workRow 78 = .ok (.iload_n 2, 1) := by decide +kernel
theorem d5_workRow_79 : decode c5_workRow 79 = .ok (.iadd, 1) := by decide +kernel
theorem d5_workRow_80 : decode c5_workRow 80 = .ok (.aload_n 0, 1) := by decide +kernel
theorem d5_workRow_81 : decode c5_workRow 81 = .ok (.getfield 19, 3) := by decide +kernel
theorem d5_workRow_84 : decode c5_workRow 84 = .ok (.iload_n 1, 1) := by decide +kernel
theorem d5_workRow_85 : decode c5_workRow 85 = .ok (.laload, 1) := by decide +kernel
theorem d5_workRow_86 : decode c5_workRow 86 = .ok (.lload_n 3, 1) := by decide +kernel
theorem d5_workRow_87 : decode c5_workRow 87 = .ok (.lmul, 1) := by decide +kernel
theorem d5_workRow_88 : decode c5_workRow 88 = .ok (.aload_n 0, 1) := by decide +kernel
theorem d5_workRow_89 : decode c5_workRow 89 = .ok (.getfield 23, 3) := by decide +kernel
theorem d5_workRow_92 : decode c5_workRow 92 = .ok (.iload_n 1, 1) := by decide +kernel
theorem d5_workRow_93 : decode c5_workRow 93 = .ok (.laload, 1) := by decide +kernel
theorem d5_workRow_94 : decode c5_workRow 94 = .ok (.ladd, 1) := by decide +kernel
theorem d5_workRow_95 : decode c5_workRow 95 = .ok (.invokevirtual 115, 3) := by decide +kernel
theorem d5_workRow_98 : decode c5_workRow 98 = .ok (.goto 127, 3) := by decide +kernel
theorem d5_workRow_101 : decode c5_workRow 101 = .ok (.aload_n 0, 1) := by decide +kernel
theorem d5_workRow_102 : decode c5_workRow 102 = .ok (.getfield 26, 3) := by decide +kernel
theorem d5_workRow_105 : decode c5_workRow 105 = .ok (.iload 6, 2) := by decide +kernel
theorem d5_workRow_107 : decode c5_workRow 107 = .ok (.iload_n 2, 1) := by decide +kernel
theorem d5_workRow_108 : decode c5_workRow 108 = .ok (.iadd, 1) := by decide +kernel
theorem d5_workRow_109 : decode c5_workRow 109 = .ok (.baload, 1) := by decide +kernel
theorem d5_workRow_110 : decode c5_workRow 110 = .ok (.ifCond .eq 25, 3) := by decide +kernel
theorem d5_workRow_113 : decode c5_workRow 113 = .ok (.aload_n 0, 1) := by decide +kernel
theorem d5_workRow_114 : decode c5_workRow 114 = .ok (.iload 7, 2) := by decide +kernel
theorem d5_workRow_116 : decode c5_workRow 116 = .ok (.iload_n 2, 1) := by decide +kernel
theorem d5_workRow_117 : decode c5_workRow 117 = .ok (.iadd, 1) := by decide +kernel
theorem d5_workRow_118 : decode c5_workRow 118 = .ok (.lload_n 3, 1) := by decide +kernel
theorem d5_workRow_119 : decode c5_workRow 119 = .ok (.aload_n 0, 1) := by decide +kernel
theorem d5_workRow_120 : decode c5_workRow 120 = .ok (.getfield 30, 3) := by decide +kernel
theorem d5_workRow_123 : decode c5_workRow 123 = .ok (.iload 6, 2) := by decide +kernel
theorem d5_workRow_125 : decode c5_workRow 125 = .ok (.iload_n 2, 1) := by decide +kernel
theorem d5_workRow_126 : decode c5_workRow 126 = .ok (.iadd, 1) := by decide +kernel
theorem d5_workRow_127 : decode c5_workRow 127 = .ok (.laload, 1) := by decide +kernel
theorem d5_workRow_128 : decode c5_workRow 128 = .ok (.ladd, 1) := by decide +kernel
theorem d5_workRow_129 : decode c5_workRow 129 = .ok (.invokevirtual 115, 3) := by decide +kernel
theorem d5_workRow_132 : decode c5_workRow 132 = .ok (.goto 93, 3) := by decide +kernel
theorem d5_workRow_135 : decode c5_workRow 135 = .ok (.aload_n 0, 1) := by decide +kernel
theorem d5_workRow_136 : decode c5_workRow 136 = .ok (.getfield 19, 3) := by decide +kernel
theorem d5_workRow_139 : decode c5_workRow 139 = .ok (.iload_n 1, 1) := by decide +kernel
theorem d5_workRow_140 : decode c5_workRow 140 = .ok (.laload, 1) := by decide +kernel
theorem d5_workRow_141 : decode c5_workRow 141 = .ok (.lconst 1, 1) := by decide +kernel
theorem d5_workRow_142 : decode c5_workRow 142 = .ok (.lcmp, 1) := by decide +kernel
theorem d5_workRow_143 : decode c5_workRow 143 = .ok (.ifCond .ne 82, 3) := by decide +kernel
theorem d5_workRow_146 : decode c5_workRow 146 = .ok (.aload_n 0, 1) := by decide +kernel
theorem d5_workRow_147 : decode c5_workRow 147 = .ok (.iload 7, 2) := by decide +kernel
theorem d5_workRow_149 : decode c5_workRow 149 = .ok (.iload_n 2, 1) := by decide +kernel
theorem d5_workRow_150 : decode c5_workRow 150 = .ok (.iadd, 1) := by decide +kernel
theorem d5_workRow_151 : decode c5_workRow 151 = .ok (.lload_n 3, 1) := by decide +kernel
theorem d5_workRow_152 : decode c5_workRow 152 = .ok (.invokevirtual 115, 3) := by decide +kernel
theorem d5_workRow_155 : decode c5_workRow 155 = .ok (.goto 70, 3) := by decide +kernel
theorem d5_workRow_158 : decode c5_workRow 158 = .ok (.aload_n 0, 1) := by decide +kernel
theorem d5_workRow_159 : decode c5_workRow 159 = .ok (.iload 5, 2) := by decide +kernel
theorem d5_workRow_161 : decode c5_workRow 161 = .ok (.iload_n 2, 1) := by decide +kernel
theorem d5_workRow_162 : decode c5_workRow 162 = .ok (.aload_n 0, 1) := by decide +kernel
theorem d5_workRow_163 : decode c5_workRow 163 = .ok (.getfield 19, 3) := by decide +kernel
theorem d5_workRow_166 : decode c5_workRow 166 = .ok (.iload_n 1, 1) := by decide +kernel
theorem d5_workRow_167 : decode c5_workRow 167 = .ok (.laload, 1) := by decide +kernel
theorem d5_workRow_168 : decode c5_workRow 168 = .ok (.invokevirtual 130, 3) := by decide +kernel
theorem d5_workRow_171 : decode c5_workRow 171 = .ok (.ifCond .eq 54, 3) := by decide +kernel
theorem d5_workRow_174 : decode c5_workRow 174 = .ok (.aload_n 0, 1) := by decide +kernel
theorem d5_workRow_175 : decode c5_workRow 175 = .ok (.iload 7, 2) := by decide +kernel
theorem d5_workRow_177 : decode c5_workRow 177 = .ok (.iload_n 2, 1) := by decide +kernel
theorem d5_workRow_178 : decode c5_workRow 178 = .ok (.iadd, 1) := by decide +kernel
theorem d5_workRow_179 : decode c5_workRow 179 = .ok (.lload_n 3, 1) := by decide +kernel
theorem d5_workRow_180 : decode c5_workRow 180 = .ok (.invokevirtual 115, 3) := by decide +kernel
theorem d5_workRow_183 : decode c5_workRow 183 = .ok (.goto 42, 3) := by decide +kernel
theorem d5_workRow_186 : decode c5_workRow 186 = .ok (.lload_n 3, 1) := by decide +kernel
theorem d5_workRow_187 : decode c5_workRow 187 = .ok (.ldc2_w 134, 3) := by decide +kernel
theorem d5_workRow_190 : decode c5_workRow 190 = .ok (.land, 1) := by decide +kernel
theorem d5_workRow_191 : decode c5_workRow 191 = .ok (.l2i, 1) := by decide +kernel
theorem d5_workRow_192 : decode c5_workRow 192 = .ok (.istore 8, 2) := by decide +kernel
theorem d5_workRow_194 : decode c5_workRow 194 = .ok (.aload_n 0, 1) := by decide +kernel
theorem d5_workRow_195 : decode c5_workRow 195 = .ok (.getfield 26, 3) := by decide +kernel
theorem d5_workRow_198 : decode c5_workRow 198 = .ok (.iload 6, 2) := by decide +kernel
theorem d5_workRow_200 : decode c5_workRow 200 = .ok (.iload 8, 2) := by decide +kernel
theorem d5_workRow_202 : decode c5_workRow 202 = .ok (.iadd, 1) := by decide +kernel
theorem d5_workRow_203 : decode c5_workRow 203 = .ok (.baload, 1) := by decide +kernel
theorem d5_workRow_204 : decode c5_workRow 204 = .ok (.ifCond .eq 21, 3) := by decide +kernel
theorem d5_workRow_207 : decode c5_workRow 207 = .ok (.aload_n 0, 1) := by decide +kernel
theorem d5_workRow_208 : decode c5_workRow 208 = .ok (.iload 7, 2) := by decide +kernel
theorem d5_workRow_210 : decode c5_workRow 210 = .ok (.iload_n 2, 1) := by decide +kernel
theorem d5_workRow_211 : decode c5_workRow 211 = .ok (.iadd, 1) := by decide +kernel
theorem d5_workRow_212 : decode c5_workRow 212 = .ok (.aload_n 0, 1) := by decide +kernel
theorem d5_workRow_213 : decode c5_workRow 213 = .ok (.getfield 30, 3) := by decide +kernel
theorem d5_workRow_216 : decode c5_workRow 216 = .ok (.iload 6, 2) := by decide +kernel
theorem d5_workRow_218 : decode c5_workRow 218 = .ok (.iload 8, 2) := by decide +kernel
theorem d5_workRow_220 : decode c5_workRow 220 = .ok (.iadd, 1) := by decide +kernel
theorem d5_workRow_221 : decode c5_workRow 221 = .ok (.laload, 1) := by decide +kernel
theorem d5_workRow_222 : decode c5_workRow 222 = .ok (.invokevirtual 115, 3) := by decide +kernel
theorem d5_workRow_225 : decode c5_workRow 225 = .ok (.return_, 1) := by decide +kernel
theorem d5_work_0 : decode c5_work 0 = .ok (.bipush 64, 2) := by decide +kernel
theorem d5_work_2 : decode c5_work 2 = .ok (.aload_n 0, 1) := by decide +kernel
theorem d5_work_3 : decode c5_work 3 = .ok (.getfield 13, 3) := by decide +kernel
theorem d5_work_6 : decode c5_work 6 = .ok (.iload_n 1, 1) := by decide +kernel
theorem d5_work_7 : decode c5_work 7 = .ok (.iaload, 1) := by decide +kernel
theorem d5_work_8 : decode c5_work 8 = .ok (.imul, 1) := by decide +kernel
theorem d5_work_9 : decode c5_work 9 = .ok (.istore_n 2, 1) := by decide +kernel
theorem d5_work_10 : decode c5_work 10 = .ok (.bipush 64, 2) := by decide +kernel
theorem d5_work_12 : decode c5_work 12 = .ok (.aload_n 0, 1) := by decide +kernel
theorem d5_work_13 : decode c5_work 13 = .ok (.getfield 16, 3) := by decide +kernel
theorem d5_work_16 : decode c5_work 16 = .ok (.iload_n 1, 1) := by decide +kernel
theorem d5_work_17 : decode c5_work 17 = .ok (.iaload, 1) := by decide +kernel
theorem d5_work_18 : decode c5_work 18 = .ok (.imul, 1) := by decide +kernel
theorem d5_work_19 : decode c5_work 19 = .ok (.istore_n 3, 1) := by decide +kernel
theorem d5_work_20 : decode c5_work 20 = .ok (.bipush 64, 2) := by decide +kernel
theorem d5_work_22 : decode c5_work 22 = .ok (.iload_n 1, 1) := by decide +kernel
theorem d5_work_23 : decode c5_work 23 = .ok (.imul, 1) := by decide +kernel
theorem d5_work_24 : decode c5_work 24 = .ok (.istore 4, 2) := by decide +kernel
theorem d5_work_26 : decode c5_work 26 = .ok (.iconst 0, 1) := by decide +kernel
theorem d5_work_27 : decode c5_work 27 = .ok (.istore 5, 2) := by decide +kernel
theorem d5_work_29 : decode c5_work 29 = .ok (.iload 5, 2) := by decide +kernel
theorem d5_work_31 : decode c5_work 31 = .ok (.bipush 64, 2) := by decide +kernel
theorem d5_work_33 : decode c5_work 33 = .ok (.if_icmp .ge 18, 3) := by decide +kernel
theorem d5_work_36 : decode c5_work 36 = .ok (.aload_n 0, 1) := by decide +kernel
theorem d5_work_37 : decode c5_work 37 = .ok (.iload 4, 2) := by decide +kernel
theorem d5_work_39 : decode c5_work 39 = .ok (.iload 5, 2) := by decide +kernel
theorem d5_work_41 : decode c5_work 41 = .ok (.iadd, 1) := by decide +kernel
theorem d5_work_42 : decode c5_work 42 = .ok (.invokevirtual 119, 3) := by decide +kernel
theorem d5_work_45 : decode c5_work 45 = .ok (.iinc 5 1, 3) := by decide +kernel
theorem d5_work_48 : decode c5_work 48 = .ok (.goto (-19), 3) := by decide +kernel
theorem d5_work_51 : decode c5_work 51 = .ok (.aload_n 0, 1) := by decide +kernel
theorem d5_work_52 : decode c5_work 52 = .ok (.getfield 7, 3) := by decide +kernel
theorem d5_work_55 : decode c5_work 55 = .ok (.iload_n 1, 1) := by decide +kernel
theorem d5_work_56 : decode c5_work 56 = .ok (.iaload, 1) := by decide +kernel
theorem d5_work_57 : decode c5_work 57 = .ok (.iconst 3, 1) := by decide +kernel
theorem d5_work_58 : decode c5_work 58 = .ok (.if_icmp .ne 9, 3) := by decide +kernel
theorem d5_work_61 : decode c5_work 61 = .ok (.aload_n 0, 1) := by decide +kernel
theorem d5_work_62 : decode c5_work 62 = .ok (.iload_n 1, 1) := by decide +kernel
theorem d5_work_63 : decode c5_work 63 = .ok (.invokevirtual 123, 3) := by decide +kernel
theorem d5_work_66 : decode c5_work 66 = .ok (.return_, 1) := by decide +kernel
theorem d5_work_67 : decode c5_work 67 = .ok (.iconst 0, 1) := by decide +kernel
theorem d5_work_68 : decode c5_work 68 = .ok (.istore 5, 2) := by decide +kernel
theorem d5_work_70 : decode c5_work 70 = .ok (.iload 5, 2) := by decide +kernel
theorem d5_work_72 : decode c5_work 72 = .ok (.bipush 64, 2) := by decide +kernel
theorem d5_work_74 : decode c5_work 74 = .ok (.if_icmp .ge 117, 3) := by decide +kernel
theorem d5_work_77 : decode c5_work 77 = .ok (.aload_n 0, 1) := by decide +kernel
theorem d5_work_78 : decode c5_work 78 = .ok (.getfield 30, 3) := by decide +kernel
theorem d5_work_81 : decode c5_work 81 = .ok (.iload_n 2, 1) := by decide +kernel
theorem d5_work_82 : decode c5_work 82 = .ok (.iload 5, 2) := by decide +kernel
theorem d5_work_84 : decode c5_work 84 = .ok (.iadd, 1) := by decide +kernel
theorem d5_work_85 : decode c5_work 85 = .ok (.laload, 1) := by decide +kernel
theorem d5_work_86 : decode c5_work 86 = .ok (.lstore 6, 2) := by decide +kernel
theorem d5_work_88 : decode c5_work 88 = .ok (.aload_n 0, 1) := by decide +kernel
theorem d5_work_89 : decode c5_work 89 = .ok (.getfield 7, 3) := by decide +kernel
theorem d5_work_92 : decode c5_work 92 = .ok (.iload_n 1, 1) := by decide +kernel
theorem d5_work_93 : decode c5_work 93 = .ok (.iaload, 1) := by decide +kernel
theorem d5_work_94 : decode c5_work 94 = .ok (.iconst 5, 1) := by decide +kernel
theorem d5_work_95 : decode c5_work 95 = .ok (.if_icmp .ne 65, 3) := by decide +kernel
theorem d5_work_98 : decode c5_work 98 = .ok (.aload_n 0, 1) := by decide +kernel
theorem d5_work_99 : decode c5_work 99 = .ok (.getfield 26, 3) := by decide +kernel
theorem d5_work_102 : decode c5_work 102 = .ok (.iload_n 2, 1) := by decide +kernel
theorem d5_work_103 : decode c5_work 103 = .ok (.iload 5, 2) := by decide +kernel
theorem d5_work_105 : decode c5_work 105 = .ok (.iadd, 1) := by decide +kernel
theorem d5_work_106 : decode c5_work 106 = .ok (.baload, 1) := by decide +kernel
theorem d5_work_107 : decode c5_work 107 = .ok (.ifCond .ne 15, 3) := by decide +kernel
theorem d5_work_110 : decode c5_work 110 = .ok (.aload_n 0, 1) := by decide +kernel
theorem d5_work_111 : decode c5_work 111 = .ok (.getfield 26, 3) := by decide +kernel
theorem d5_work_114 : decode c5_work 114 = .ok (.iload_n 3, 1) := by decide +kernel
theorem d5_work_115 : decode c5_work 115 = .ok (.iload 5, 2) := by decide +kernel
theorem d5_work_117 : decode c5_work 117 = .ok (.iadd, 1) := by decide +kernel
theorem d5_work_118 : decode c5_work 118 = .ok (.baload, 1) := by decide +kernel
theorem d5_work_119 : decode c5_work 119 = .ok (.ifCond .eq 66, 3) := by decide +kernel
theorem d5_work_122 : decode c5_work 122 = .ok (.aload_n 0, 1) := by decide +kernel
theorem d5_work_123 : decode c5_work 123 = .ok (.iload 4, 2) := by decide +kernel
theorem d5_work_125 : decode c5_work 125 = .ok (.iload 5, 2) := by decide +kernel
theorem d5_work_127 : decode c5_work 127 = .ok (.iadd, 1) := by decide +kernel
theorem d5_work_128 : decode c5_work 128 = .ok (.aload_n 0, 1) := by decide +kernel
theorem d5_work_129 : decode c5_work 129 = .ok (.getfield 26, 3) := by decide +kernel
theorem d5_work_132 : decode c5_work 132 = .ok (.iload_n 2, 1) := by decide +kernel
theorem d5_work_133 : decode c5_work 133 = .ok (.iload 5, 2) := by decide +kernel
theorem d5_work_135 : decode c5_work 135 = .ok (.iadd, 1) := by decide +kernel
theorem d5_work_136 : decode c5_work 136 = .ok (.baload, 1) := by decide +kernel
theorem d5_work_137 : decode c5_work 137 = .ok (.ifCond .eq 8, 3) := by decide +kernel
theorem d5_work_140 : decode c5_work 140 = .ok (.lload 6, 2) := by decide +kernel
theorem d5_work_142 : decode c5_work 142 = .ok (.goto 12, 3) := by decide +kernel
theorem d5_work_145 : decode c5_work 145 = .ok (.aload_n 0, 1) := by decide +kernel
theorem d5_work_146 : decode c5_work 146 = .ok (.getfield 30, 3) := by decide +kernel
theorem d5_work_149 : decode c5_work 149 = .ok (.iload_n 3, 1) := by decide +kernel
theorem d5_work_150 : decode c5_work 150 = .ok (.iload 5, 2) := by decide +kernel
theorem d5_work_152 : decode c5_work 152 = .ok (.iadd, 1) := by decide +kernel
theorem d5_work_153 : decode c5_work 153 = .ok (.laload, 1) := by decide +kernel
theorem d5_work_154 : decode c5_work 154 = .ok (.invokevirtual 115, 3) := by decide +kernel
theorem d5_work_157 : decode c5_work 157 = .ok (.goto 28, 3) := by decide +kernel
theorem d5_work_160 : decode c5_work 160 = .ok (.aload_n 0, 1) := by decide +kernel
theorem d5_work_161 : decode c5_work 161 = .ok (.getfield 26, 3) := by decide +kernel
theorem d5_work_164 : decode c5_work 164 = .ok (.iload_n 2, 1) := by decide +kernel
theorem d5_work_165 : decode c5_work 165 = .ok (.iload 5, 2) := by decide +kernel
theorem d5_work_167 : decode c5_work 167 = .ok (.iadd, 1) := by decide +kernel
theorem d5_work_168 : decode c5_work 168 = .ok (.baload, 1) := by decide +kernel
theorem d5_work_169 : decode c5_work 169 = .ok (.ifCond .eq 16, 3) := by decide +kernel
theorem d5_work_172 : decode c5_work 172 = .ok (.aload_n 0, 1) := by decide +kernel
theorem d5_work_173 : decode c5_work 173 = .ok (.iload_n 1, 1) := by decide +kernel
theorem d5_work_174 : decode c5_work 174 = .ok (.iload 5, 2) := by decide +kernel
theorem d5_work_176 : decode c5_work 176 = .ok (.lload 6, 2) := by decide +kernel
theorem d5_work_178 : decode c5_work 178 = .ok (.iload_n 2, 1) := by decide +kernel
theorem d5_work_179 : decode c5_work 179 = .ok (.iload_n 3, 1) := by decide +kernel
theorem d5_work_180 : decode c5_work 180 = .ok (.iload 4, 2) := by decide +kernel
theorem d5_work_182 : decode c5_work 182 = .ok (.invokevirtual 126, 3) := by decide +kernel
theorem d5_work_185 : decode c5_work 185 = .ok (.iinc 5 1, 3) := by decide +kernel
theorem d5_work_188 : decode c5_work 188 = .ok (.goto (-118), 3) := by decide +kernel
theorem d5_work_191 : decode c5_work 191 = .ok (.return_, 1) := by decide +kernel
theorem d5_add_0 : decode c5_add 0 = .ok (.aload_n 0, 1) := by decide +kernel
theorem d5_add_1 : decode c5_add 1 = .ok (.getfield 100, 3) := by decide +kernel
theorem d5_add_4 : decode c5_add 4 = .ok (.ifCond .eq 6, 3) := by decide +kernel
theorem d5_add_7 : decode c5_add 7 = .ok (.bipush (-4), 2) := by decide +kernel
theorem d5_add_9 : decode c5_add 9 = .ok (.ireturn, 1) := by decide +kernel
theorem d5_add_10 : decode c5_add 10 = .ok (.aload_n 0, 1) := by decide +kernel
theorem d5_add_11 : decode c5_add 11 = .ok (.getfield 87, 3) := by decide +kernel
theorem d5_add_14 : decode c5_add 14 = .ok (.bipush 12, 2) := by decide +kernel
theorem d5_add_16 : decode c5_add 16 = .ok (.if_icmp .ne 6, 3) := by decide +kernel
theorem d5_add_19 : decode c5_add 19 = .ok (.bipush (-3), 2) := by decide +kernel
theorem d5_add_21 : decode c5_add 21 = .ok (.ireturn, 1) := by decide +kernel
theorem d5_add_22 : decode c5_add 22 = .ok (.aload_n 0, 1) := by decide +kernel
theorem d5_add_23 : decode c5_add 23 = .ok (.getfield 87, 3) := by decide +kernel
theorem d5_add_26 : decode c5_add 26 = .ok (.istore 8, 2) := by decide +kernel
theorem d5_add_28 : decode c5_add 28 = .ok (.aload_n 0, 1) := by decide +kernel
theorem d5_add_29 : decode c5_add 29 = .ok (.dup, 1) := by decide +kernel
theorem d5_add_30 : decode c5_add 30 = .ok (.getfield 87, 3) := by decide +kernel
theorem d5_add_33 : decode c5_add 33 = .ok (.iconst 1, 1) := by decide +kernel
theorem d5_add_34 : decode c5_add 34 = .ok (.iadd, 1) := by decide +kernel
theorem d5_add_35 : decode c5_add 35 = .ok (.putfield 87, 3) := by decide +kernel
theorem d5_add_38 : decode c5_add 38 = .ok (.aload_n 0, 1) := by decide +kernel
theorem d5_add_39 : decode c5_add 39 = .ok (.getfield 7, 3) := by decide +kernel
theorem d5_add_42 : decode c5_add 42 = .ok (.iload 8, 2) := by decide +kernel
theorem d5_add_44 : decode c5_add 44 = .ok (.iload_n 1, 1) := by decide +kernel
theorem d5_add_45 : decode c5_add 45 = .ok (.iastore, 1) := by decide +kernel
theorem d5_add_46 : decode c5_add 46 = .ok (.aload_n 0, 1) := by decide +kernel
theorem d5_add_47 : decode c5_add 47 = .ok (.getfield 13, 3) := by decide +kernel
theorem d5_add_50 : decode c5_add 50 = .ok (.iload 8, 2) := by decide +kernel
theorem d5_add_52 : decode c5_add 52 = .ok (.iload_n 2, 1) := by decide +kernel
theorem d5_add_53 : decode c5_add 53 = .ok (.iastore, 1) := by decide +kernel
theorem d5_add_54 : decode c5_add 54 = .ok (.aload_n 0, 1) := by decide +kernel
theorem d5_add_55 : decode c5_add 55 = .ok (.getfield 16, 3) := by decide +kernel
theorem d5_add_58 : decode c5_add 58 = .ok (.iload 8, 2) := by decide +kernel
theorem d5_add_60 : decode c5_add 60 = .ok (.iload_n 3, 1) := by decide +kernel
theorem d5_add_61 : decode c5_add 61 = .ok (.iastore, 1) := by decide +kernel
theorem d5_add_62 : decode c5_add 62 = .ok (.aload_n 0, 1) := by decide +kernel
theorem d5_add_63 : decode c5_add 63 = .ok (.getfield 19, 3) := by decide +kernel
theorem d5_add_66 : decode c5_add 66 = .ok (.iload 8, 2) := by decide +kernel
theorem d5_add_68 : decode c5_add 68 = .ok (.lload 4, 2) := by decide +kernel
theorem d5_add_70 : decode c5_add 70 = .ok (.lastore, 1) := by decide +kernel
theorem d5_add_71 : decode c5_add 71 = .ok (.aload_n 0, 1) := by decide +kernel
theorem d5_add_72 : decode c5_add 72 = .ok (.getfield 23, 3) := by decide +kernel
theorem d5_add_75 : decode c5_add 75 = .ok (.iload 8, 2) := by decide +kernel
theorem d5_add_77 : decode c5_add 77 = .ok (.lload 6, 2) := by decide +kernel
theorem d5_add_79 : decode c5_add 79 = .ok (.lastore, 1) := by decide +kernel
theorem d5_add_80 : decode c5_add 80 = .ok (.iconst 0, 1) := by decide +kernel
theorem d5_add_81 : decode c5_add 81 = .ok (.istore 9, 2) := by decide +kernel
theorem d5_add_83 : decode c5_add 83 = .ok (.iload 9, 2) := by decide +kernel
theorem d5_add_85 : decode c5_add 85 = .ok (.bipush 64, 2) := by decide +kernel
theorem d5_add_87 : decode c5_add 87 = .ok (.if_icmp .ge 21, 3) := by decide +kernel
theorem d5_add_90 : decode c5_add 90 = .ok (.aload_n 0, 1) := by decide +kernel
theorem d5_add_91 : decode c5_add 91 = .ok (.bipush 64, 2) := by decide +kernel
theorem d5_add_93 : decode c5_add 93 = .ok (.iload 8, 2) := by decide +kernel
theorem d5_add_95 : decode c5_add 95 = .ok (.imul, 1) := by decide +kernel
theorem d5_add_96 : decode c5_add 96 = .ok (.iload 9, 2) := by decide +kernel
theorem d5_add_98 : decode c5_add 98 = .ok (.iadd, 1) := by decide +kernel
theorem d5_add_99 : decode c5_add 99 = .ok (.invokevirtual 119, 3) := by decide +kernel
theorem d5_add_102 : decode c5_add 102 = .ok (.iinc 9 1, 3) := by decide +kernel
theorem d5_add_105 : decode c5_add 105 = .ok (.goto (-22), 3) := by decide +kernel
theorem d5_add_108 : decode c5_add 108 = .ok (.iload_n 1, 1) := by decide +kernel
theorem d5_add_109 : decode c5_add 109 = .ok (.ifCond .le 9, 3) := by decide +kernel
theorem d5_add_112 : decode c5_add 112 = .ok (.aload_n 0, 1) := by decide +kernel
theorem d5_add_113 : decode c5_add 113 = .ok (.iload 8, 2) := by decide +kernel
theorem d5_add_115 : decode c5_add 115 = .ok (.invokevirtual 136, 3) := by decide +kernel
theorem d5_add_118 : decode c5_add 118 = .ok (.iconst 0, 1) := by decide +kernel
theorem d5_add_119 : decode c5_add 119 = .ok (.istore 9, 2) := by decide +kernel
theorem d5_add_121 : decode c5_add 121 = .ok (.iload 9, 2) := by decide +kernel
theorem d5_add_123 : decode c5_add 123 = .ok (.bipush 64, 2) := by decide +kernel
theorem d5_add_125 : decode c5_add 125 = .ok (.if_icmp .ge 61, 3) := by decide +kernel
theorem d5_add_128 : decode c5_add 128 = .ok (.aload_n 0, 1) := by decide +kernel
theorem d5_add_129 : decode c5_add 129 = .ok (.getfield 39, 3) := by decide +kernel
theorem d5_add_132 : decode c5_add 132 = .ok (.bipush 64, 2) := by decide +kernel
theorem d5_add_134 : decode c5_add 134 = .ok (.iload 8, 2) := by decide +kernel
theorem d5_add_136 : decode c5_add 136 = .ok (.imul, 1) := by decide +kernel
theorem d5_add_137 : decode c5_add 137 = .ok (.iload 9, 2) := by decide +kernel
theorem d5_add_139 : decode c5_add 139 = .ok (.iadd, 1) := by decide +kernel
theorem d5_add_140 : decode c5_add 140 = .ok (.aload_n 0, 1) := by decide +kernel
theorem d5_add_141 : decode c5_add 141 = .ok (.getfield 26, 3) := by decide +kernel
theorem d5_add_144 : decode c5_add 144 = .ok (.bipush 64, 2) := by decide +kernel
theorem d5_add_146 : decode c5_add 146 = .ok (.iload 8, 2) := by decide +kernel
theorem d5_add_148 : decode c5_add 148 = .ok (.imul, 1) := by decide +kernel
theorem d5_add_149 : decode c5_add 149 = .ok (.iload 9, 2) := by decide +kernel
theorem d5_add_151 : decode c5_add 151 = .ok (.iadd, 1) := by decide +kernel
theorem d5_add_152 : decode c5_add 152 = .ok (.baload, 1) := by decide +kernel
theorem d5_add_153 : decode c5_add 153 = .ok (.bastore, 1) := by decide +kernel
theorem d5_add_154 : decode c5_add 154 = .ok (.aload_n 0, 1) := by decide +kernel
theorem d5_add_155 : decode c5_add 155 = .ok (.getfield 42, 3) := by decide +kernel
theorem d5_add_158 : decode c5_add 158 = .ok (.bipush 64, 2) := by decide +kernel
theorem d5_add_160 : decode c5_add 160 = .ok (.iload 8, 2) := by decide +kernel
theorem d5_add_162 : decode c5_add 162 = .ok (.imul, 1) := by decide +kernel
theorem d5_add_163 : decode c5_add 163 = .ok (.iload 9, 2) := by decide +kernel
theorem d5_add_165 : decode c5_add 165 = .ok (.iadd, 1) := by decide +kernel
theorem d5_add_166 : decode c5_add 166 = .ok (.aload_n 0, 1) := by decide +kernel
theorem d5_add_167 : decode c5_add 167 = .ok (.getfield 30, 3) := by decide +kernel
theorem d5_add_170 : decode c5_add 170 = .ok (.bipush 64, 2) := by decide +kernel
theorem d5_add_172 : decode c5_add 172 = .ok (.iload 8, 2) := by decide +kernel
theorem d5_add_174 : decode c5_add 174 = .ok (.imul, 1) := by decide +kernel
theorem d5_add_175 : decode c5_add 175 = .ok (.iload 9, 2) := by decide +kernel
theorem d5_add_177 : decode c5_add 177 = .ok (.iadd, 1) := by decide +kernel
theorem d5_add_178 : decode c5_add 178 = .ok (.laload, 1) := by decide +kernel
theorem d5_add_179 : decode c5_add 179 = .ok (.lastore, 1) := by decide +kernel
theorem d5_add_180 : decode c5_add 180 = .ok (.iinc 9 1, 3) := by decide +kernel
theorem d5_add_183 : decode c5_add 183 = .ok (.goto (-62), 3) := by decide +kernel
theorem d5_add_186 : decode c5_add 186 = .ok (.iload 8, 2) := by decide +kernel
theorem d5_add_188 : decode c5_add 188 = .ok (.ireturn, 1) := by decide +kernel
theorem d5_source_0 : decode c5_source 0 = .ok (.aload_n 0, 1) := by decide +kernel
theorem d5_source_1 : decode c5_source 1 = .ok (.iconst 0, 1) := by decide +kernel
theorem d5_source_2 : decode c5_source 2 = .ok (.iconst 0, 1) := by decide +kernel
theorem d5_source_3 : decode c5_source 3 = .ok (.iconst 0, 1) := by decide +kernel
theorem d5_source_4 : decode c5_source 4 = .ok (.lconst 0, 1) := by decide +kernel
theorem d5_source_5 : decode c5_source 5 = .ok (.lconst 0, 1) := by decide +kernel
theorem d5_source_6 : decode c5_source 6 = .ok (.invokevirtual 139, 3) := by decide +kernel
theorem d5_source_9 : decode c5_source 9 = .ok (.ireturn, 1) := by decide +kernel
theorem d5_filter_0 : decode c5_filter 0 = .ok (.aload_n 0, 1) := by decide +kernel
theorem d5_filter_1 : decode c5_filter 1 = .ok (.iload_n 1, 1) := by decide +kernel
theorem d5_filter_2 : decode c5_filter 2 = .ok (.invokevirtual 143, 3) := by decide +kernel
theorem d5_filter_5 : decode c5_filter 5 = .ok (.ifCond .eq 23, 3) := by decide +kernel
theorem d5_filter_8 : decode c5_filter 8 = .ok (.lload_n 2, 1) := by decide +kernel
theorem d5_filter_9 : decode c5_filter 9 = .ok (.lload 4, 2) := by decide +kernel
theorem d5_filter_11 : decode c5_filter 11 = .ok (.lcmp, 1) := by decide +kernel
theorem d5_filter_12 : decode c5_filter 12 = .ok (.ifCond .gt 16, 3) := by decide +kernel
theorem d5_filter_15 : decode c5_filter 15 = .ok (.aload_n 0, 1) := by decide +kernel
theorem d5_filter_16 : decode c5_filter 16 = .ok (.iconst 1, 1) := by decide +kernel
theorem d5_filter_17 : decode c5_filter 17 = .ok (.iload_n 1, 1) := by decide +kernel
theorem d5_filter_18 : decode c5_filter 18 = .ok (.iconst 0, 1) := by decide +kernel
theorem d5_filter_19 : decode c5_filter 19 = .ok (.lload_n 2, 1) := by decide +kernel
theorem d5_filter_20 : decode c5_filter 20 = .ok (.lload 4, 2) := by decide +kernel
theorem d5_filter_22 : decode c5_filter 22 = .ok (.invokevirtual 139, 3) := by decide +kernel
theorem d5_filter_25 : decode c5_filter 25 = .ok (.goto 5, 3) := by decide +kernel
theorem d5_filter_28 : decode c5_filter 28 = .ok (.bipush (-2), 2) := by decide +kernel
theorem d5_filter_30 : decode c5_filter 30 = .ok (.ireturn, 1) := by decide +kernel
theorem d5_map_0 : decode c5_map 0 = .ok (.aload_n 0, 1) := by decide +kernel
theorem d5_map_1 : decode c5_map 1 = .ok (.iload_n 1, 1) := by decide +kernel
theorem d5_map_2 : decode c5_map 2 = .ok (.invokevirtual 143, 3) := by decide +kernel
theorem d5_map_5 : decode c5_map 5 = .ok (.ifCond .eq 45, 3) := by decide +kernel
theorem d5_map_8 : decode c5_map 8 = .ok (.iload_n 2, 1) := by decide +kernel
theorem d5_map_9 : decode c5_map 9 = .ok (.i2l, 1) := by decide +kernel
theorem d5_map_10 : decode c5_map 10 = .ok (.ldc2_w 147, 3) := by decide +kernel
theorem d5_map_13 : decode c5_map 13 = .ok (.ldc2_w 149, 3) := by decide +kernel
theorem d5_map_16 : decode c5_map 16 = .ok (.invokestatic 107, 3) := by decide +kernel
theorem d5_map_19 : decode c5_map 19 = .ok (.ifCond .eq 31, 3) := by decide +kernel
theorem d5_map_22 : decode c5_map 22 = .ok (.iload_n 3, 1) := by decide +kernel
theorem d5_map_23 : decode c5_map 23 = .ok (.i2l, 1) := by decide +kernel
theorem d5_map_24 : decode c5_map 24 = .ok (.ldc2_w 147, 3) := by decide +kernel
theorem d5_map_27 : decode c5_map 27 = .ok (.ldc2_w 149, 3) := by decide +kernel
theorem d5_map_30 : decode c5_map 30 = .ok (.invokestatic 107, 3) := by decide +kernel
theorem d5_map_33 : decode c5_map 33 = .ok (.ifCond .eq 17, 3) := by decide +kernel
theorem d5_map_36 : decode c5_map 36 = .ok (.aload_n 0, 1) := by decide +kernel
theorem d5_map_37 : decode c5_map 37 = .ok (.iconst 2, 1) := by decide +kernel
theorem d5_map_38 : decode c5_map 38 = .ok (.iload_n 1, 1) := by decide +kernel
theorem d5_map_39 : decode c5_map 39 = .ok (.iconst 0, 1) := by decide +kernel
theorem d5_map_40 : decode c5_map 40 = .ok (.iload_n 2, 1) := by decide +kernel
theorem d5_map_41 : decode c5_map 41 = .ok (.i2l, 1) := by decide +kernel
theorem d5_map_42 : decode c5_map 42 = .ok (.iload_n 3, 1) := by decide +kernel
theorem d5_map_43 : decode c5_map 43 = .ok (.i2l, 1) := by decide +kernel
theorem d5_map_44 : decode c5_map 44 = .ok (.invokevirtual 139, 3) := by decide +kernel
theorem d5_map_47 : decode c5_map 47 = .ok (.goto 5, 3) := by decide +kernel
theorem d5_map_50 : decode c5_map 50 = .ok (.bipush (-2), 2) := by decide +kernel
theorem d5_map_52 : decode c5_map 52 = .ok (.ireturn, 1) := by decide +kernel
theorem d5_fold_0 : decode c5_fold 0 = .ok (.aload_n 0, 1) := by decide +kernel
theorem d5_fold_1 : decode c5_fold 1 = .ok (.iload_n 1, 1) := by decide +kernel
theorem d5_fold_2 : decode c5_fold 2 = .ok (.invokevirtual 143, 3) := by decide +kernel
theorem d5_fold_5 : decode c5_fold 5 = .ok (.ifCond .eq 41, 3) := by decide +kernel
theorem d5_fold_8 : decode c5_fold 8 = .ok (.iload_n 2, 1) := by decide +kernel
theorem d5_fold_9 : decode c5_fold 9 = .ok (.i2l, 1) := by decide +kernel
theorem d5_fold_10 : decode c5_fold 10 = .ok (.lconst 0, 1) := by decide +kernel
theorem d5_fold_11 : decode c5_fold 11 = .ok (.ldc2_w 151, 3) := by decide +kernel
theorem d5_fold_14 : decode c5_fold 14 = .ok (.invokestatic 107, 3) := by decide +kernel
theorem d5_fold_17 : decode c5_fold 17 = .ok (.ifCond .eq 29, 3) := by decide +kernel
theorem d5_fold_20 : decode c5_fold 20 = .ok (.iload_n 3, 1) := by decide +kernel
theorem d5_fold_21 : decode c5_fold 21 = .ok (.i2l, 1) := by decide +kernel
theorem d5_fold_22 : decode c5_fold 22 = .ok (.lconst 1, 1) := by decide +kernel
theorem d5_fold_23 : decode c5_fold 23 = .ok (.ldc2_w 153, 3) := by decide +kernel
theorem d5_fold_26 : decode c5_fold 26 = .ok (.invokestatic 107, 3) := by decide +kernel
theorem d5_fold_29 : decode c5_fold 29 = .ok (.ifCond .eq 17, 3) := by decide +kernel
theorem d5_fold_32 : decode c5_fold 32 = .ok (.aload_n 0, 1) := by decide +kernel
theorem d5_fold_33 : decode c5_fold 33 = .ok (.iconst 3, 1) := by decide +kernel
theorem d5_fold_34 : decode c5_fold 34 = .ok (.iload_n 1, 1) := by decide +kernel
theorem d5_fold_35 : decode c5_fold 35 = .ok (.iconst 0, 1) := by decide +kernel
theorem d5_fold_36 : decode c5_fold 36 = .ok (.iload_n 2, 1) := by decide +kernel
theorem d5_fold_37 : decode c5_fold 37 = .ok (.i2l, 1) := by decide +kernel
theorem d5_fold_38 : decode c5_fold 38 = .ok (.iload_n 3, 1) := by decide +kernel
theorem d5_fold_39 : decode c5_fold 39 = .ok (.i2l, 1) := by decide +kernel
theorem d5_fold_40 : decode c5_fold 40 = .ok (.invokevirtual 139, 3) := by decide +kernel
theorem d5_fold_43 : decode c5_fold 43 = .ok (.goto 5, 3) := by decide +kernel
theorem d5_fold_46 : decode c5_fold 46 = .ok (.bipush (-2), 2) := by decide +kernel
theorem d5_fold_48 : decode c5_fold 48 = .ok (.ireturn, 1) := by decide +kernel
theorem d5_join_0 : decode c5_join 0 = .ok (.aload_n 0, 1) := by decide +kernel
theorem d5_join_1 : decode c5_join 1 = .ok (.iload_n 1, 1) := by decide +kernel
theorem d5_join_2 : decode c5_join 2 = .ok (.invokevirtual 143, 3) := by decide +kernel
theorem d5_join_5 : decode c5_join 5 = .ok (.ifCond .eq 34, 3) := by decide +kernel
theorem d5_join_8 : decode c5_join 8 = .ok (.aload_n 0, 1) := by decide +kernel
theorem d5_join_9 : decode c5_join 9 = .ok (.iload_n 2, 1) := by decide +kernel
theorem d5_join_10 : decode c5_join 10 = .ok (.invokevirtual 143, 3) := by decide +kernel
theorem d5_join_13 : decode c5_join 13 = .ok (.ifCond .eq 26, 3) := by decide +kernel
theorem d5_join_16 : decode c5_join 16 = .ok (.iload_n 3, 1) := by decide +kernel
theorem d5_join_17 : decode c5_join 17 = .ok (.i2l, 1) := by decide +kernel
theorem d5_join_18 : decode c5_join 18 = .ok (.lconst 0, 1) := by decide +kernel
theorem d5_join_19 : decode c5_join 19 = .ok (.lconst 1, 1) := by decide +kernel
theorem d5_join_20 : decode c5_join 20 = .ok (.invokestatic 107, 3) := by decide +kernel
theorem d5_join_23 : decode c5_join 23 = .ok (.ifCond .eq 16, 3) := by decide +kernel
theorem d5_join_26 : decode c5_join 26 = .ok (.aload_n 0, 1) := by decide +kernel
theorem d5_join_27 : decode c5_join 27 = .ok (.iconst 4, 1) := by decide +kernel
theorem d5_join_28 : decode c5_join 28 = .ok (.iload_n 1, 1) := by decide +kernel
theorem d5_join_29 : decode c5_join 29 = .ok (.iload_n 2, 1) := by decide +kernel
theorem d5_join_30 : decode c5_join 30 = .ok (.iload_n 3, 1) := by decide +kernel
theorem d5_join_31 : decode c5_join 31 = .ok (.i2l, 1) := by decide +kernel
theorem d5_join_32 : decode c5_join 32 = .ok (.lconst 0, 1) := by decide +kernel
theorem d5_join_33 : decode c5_join 33 = .ok (.invokevirtual 139, 3) := by decide +kernel
theorem d5_join_36 : decode c5_join 36 = .ok (.goto 5, 3) := by decide +kernel
theorem d5_join_39 : decode c5_join 39 = .ok (.bipush (-2), 2) := by decide +kernel
theorem d5_join_41 : decode c5_join 41 = .ok (.ireturn, 1) := by decide +kernel
theorem d5_merge_0 : decode c5_merge 0 = .ok (.aload_n 0, 1) := by decide +kernel
theorem d5_merge_1 : decode c5_merge 1 = .ok (.iload_n 1, 1) := by decide +kernel
theorem d5_merge_2 : decode c5_merge 2 = .ok (.invokevirtual 143, 3) := by decide +kernel
theorem d5_merge_5 : decode c5_merge 5 = .ok (.ifCond .eq 23, 3) := by decide +kernel
theorem d5_merge_8 : decode c5_merge 8 = .ok (.aload_n 0, 1) := by decide +kernel
theorem d5_merge_9 : decode c5_merge 9 = .ok (.iload_n 2, 1) := by decide +kernel
theorem d5_merge_10 : decode c5_merge 10 = .ok (.invokevirtual 143, 3) := by decide +kernel
theorem d5_merge_13 : decode c5_merge 13 = .ok (.ifCond .eq 15, 3) := by decide +kernel
theorem d5_merge_16 : decode c5_merge 16 = .ok (.aload_n 0, 1) := by decide +kernel
theorem d5_merge_17 : decode c5_merge 17 = .ok (.iconst 5, 1) := by decide +kernel
theorem d5_merge_18 : decode c5_merge 18 = .ok (.iload_n 1, 1) := by decide +kernel
theorem d5_merge_19 : decode c5_merge 19 = .ok (.iload_n 2, 1) := by decide +kernel
theorem d5_merge_20 : decode c5_merge 20 = .ok (.lconst 0, 1) := by decide +kernel
theorem d5_merge_21 : decode c5_merge 21 = .ok (.lconst 0, 1) := by decide +kernel
theorem d5_merge_22 : decode c5_merge 22 = .ok (.invokevirtual 139, 3) := by decide +kernel
theorem d5_merge_25 : decode c5_merge 25 = .ok (.goto 5, 3) := by decide +kernel
theorem d5_merge_28 : decode c5_merge 28 = .ok (.bipush (-2), 2) := by decide +kernel
theorem d5_merge_30 : decode c5_merge 30 = .ok (.ireturn, 1) := by decide +kernel
theorem d5_best_0 : decode c5_best 0 = .ok (.aload_n 0, 1) := by decide +kernel
theorem d5_best_1 : decode c5_best 1 = .ok (.iload_n 1, 1) := by decide +kernel
theorem d5_best_2 : decode c5_best 2 = .ok (.invokevirtual 143, 3) := by decide +kernel
theorem d5_best_5 : decode c5_best 5 = .ok (.ifCond .eq 29, 3) := by decide +kernel
theorem d5_best_8 : decode c5_best 8 = .ok (.iload_n 2, 1) := by decide +kernel
theorem d5_best_9 : decode c5_best 9 = .ok (.i2l, 1) := by decide +kernel
theorem d5_best_10 : decode c5_best 10 = .ok (.lconst 1, 1) := by decide +kernel
theorem d5_best_11 : decode c5_best 11 = .ok (.ldc2_w 153, 3) := by decide +kernel
theorem d5_best_14 : decode c5_best 14 = .ok (.invokestatic 107, 3) := by decide +kernel
theorem d5_best_17 : decode c5_best 17 = .ok (.ifCond .eq 17, 3) := by decide +kernel
theorem d5_best_20 : decode c5_best 20 = .ok (.aload_n 0, 1) := by decide +kernel
theorem d5_best_21 : decode c5_best 21 = .ok (.bipush 6, 2) := by decide +kernel
theorem d5_best_23 : decode c5_best 23 = .ok (.iload_n 1, 1) := by decide +kernel
theorem d5_best_24 : decode c5_best 24 = .ok (.iconst 0, 1) := by decide +kernel
theorem d5_best_25 : decode c5_best 25 = .ok (.iload_n 2, 1) := by decide +kernel
theorem d5_best_26 : decode c5_best 26 = .ok (.i2l, 1) := by decide +kernel
theorem d5_best_27 : decode c5_best 27 = .ok (.lconst 0, 1) := by decide +kernel
theorem d5_best_28 : decode c5_best 28 = .ok (.invokevirtual 139, 3) := by decide +kernel
theorem d5_best_31 : decode c5_best 31 = .ok (.goto 5, 3) := by decide +kernel
theorem d5_best_34 : decode c5_best 34 = .ok (.bipush (-2), 2) := by decide +kernel
theorem d5_best_36 : decode c5_best 36 = .ok (.ireturn, 1) := by decide +kernel
theorem d5_look_0 : decode c5_look 0 = .ok (.aload_n 0, 1) := by decide +kernel
theorem d5_look_1 : decode c5_look 1 = .ok (.iload_n 1, 1) := by decide +kernel
theorem d5_look_2 : decode c5_look 2 = .ok (.invokevirtual 143, 3) := by decide +kernel
theorem d5_look_5 : decode c5_look 5 = .ok (.ifCond .eq 24, 3) := by decide +kernel
theorem d5_look_8 : decode c5_look 8 = .ok (.aload_n 0, 1) := by decide +kernel
theorem d5_look_9 : decode c5_look 9 = .ok (.iload_n 2, 1) := by decide +kernel
theorem d5_look_10 : decode c5_look 10 = .ok (.invokevirtual 143, 3) := by decide +kernel
theorem d5_look_13 : decode c5_look 13 = .ok (.ifCond .eq 16, 3) := by decide +kernel
theorem d5_look_16 : decode c5_look 16 = .ok (.aload_n 0, 1) := by decide +kernel
theorem d5_look_17 : decode c5_look 17 = .ok (.bipush 7, 2) := by decide +kernel
theorem d5_look_19 : decode c5_look 19 = .ok (.iload_n 1, 1) := by decide +kernel
theorem d5_look_20 : decode c5_look 20 = .ok (.iload_n 2, 1) := by decide +kernel
theorem d5_look_21 : decode c5_look 21 = .ok (.lconst 0, 1) := by decide +kernel
theorem d5_look_22 : decode c5_look 22 = .ok (.lconst 0, 1) := by decide +kernel
theorem d5_look_23 : decode c5_look 23 = .ok (.invokevirtual 139, 3) := by decide +kernel
theorem d5_look_26 : decode c5_look 26 = .ok (.goto 5, 3) := by decide +kernel
theorem d5_look_29 : decode c5_look 29 = .ok (.bipush (-2), 2) := by decide +kernel
theorem d5_look_31 : decode c5_look 31 = .ok (.ireturn, 1) := by decide +kernel
theorem d5_isSource_0 : decode c5_isSource 0 = .ok (.aload_n 0, 1) := by decide +kernel
theorem d5_isSource_1 : decode c5_isSource 1 = .ok (.iload_n 1, 1) := by decide +kernel
theorem d5_isSource_2 : decode c5_isSource 2 = .ok (.invokevirtual 143, 3) := by decide +kernel
theorem d5_isSource_5 : decode c5_isSource 5 = .ok (.ifCond .eq 28, 3) := by decide +kernel
theorem d5_isSource_8 : decode c5_isSource 8 = .ok (.aload_n 0, 1) := by decide +kernel
theorem d5_isSource_9 : decode c5_isSource 9 = .ok (.getfield 7, 3) := by decide +kernel
theorem d5_isSource_12 : decode c5_isSource 12 = .ok (.iload_n 1, 1) := by decide +kernel
theorem d5_isSource_13 : decode c5_isSource 13 = .ok (.iaload, 1) := by decide +kernel
theorem d5_isSource_14 : decode c5_isSource 14 = .ok (.ifCond .ne 19, 3) := by decide +kernel
theorem d5_isSource_17 : decode c5_isSource 17 = .ok (.iload_n 2, 1) := by decide +kernel
theorem d5_isSource_18 : decode c5_isSource 18 = .ok (.i2l, 1) := by decide +kernel
theorem d5_isSource_19 : decode c5_isSource 19 = .ok (.lconst 0, 1) := by decide +kernel
theorem d5_isSource_20 : decode c5_isSource 20 = .ok (.ldc2_w 134, 3) := by decide +kernel
theorem d5_isSource_23 : decode c5_isSource 23 = .ok (.invokestatic 107, 3) := by decide +kernel
theorem d5_isSource_26 : decode c5_isSource 26 = .ok (.ifCond .eq 7, 3) := by decide +kernel
theorem d5_isSource_29 : decode c5_isSource 29 = .ok (.iconst 1, 1) := by decide +kernel
theorem d5_isSource_30 : decode c5_isSource 30 = .ok (.goto 4, 3) := by decide +kernel
theorem d5_isSource_33 : decode c5_isSource 33 = .ok (.iconst 0, 1) := by decide +kernel
theorem d5_isSource_34 : decode c5_isSource 34 = .ok (.ireturn, 1) := by decide +kernel
theorem d5_write_0 : decode c5_write 0 = .ok (.aload_n 0, 1) := by decide +kernel
theorem d5_write_1 : decode c5_write 1 = .ok (.getfield 45, 3) := by decide +kernel
theorem d5_write_4 : decode c5_write 4 = .ok (.iload_n 1, 1) := by decide +kernel
theorem d5_write_5 : decode c5_write 5 = .ok (.iload_n 2, 1) := by decide +kernel
theorem d5_write_6 : decode c5_write 6 = .ok (.iastore, 1) := by decide +kernel
theorem d5_write_7 : decode c5_write 7 = .ok (.aload_n 0, 1) := by decide +kernel
theorem d5_write_8 : decode c5_write 8 = .ok (.getfield 48, 3) := by decide +kernel
theorem d5_write_11 : decode c5_write 11 = .ok (.iload_n 1, 1) := by decide +kernel
theorem d5_write_12 : decode c5_write 12 = .ok (.iload_n 3, 1) := by decide +kernel
theorem d5_write_13 : decode c5_write 13 = .ok (.iastore, 1) := by decide +kernel
theorem d5_write_14 : decode c5_write 14 = .ok (.aload_n 0, 1) := by decide +kernel
theorem d5_write_15 : decode c5_write 15 = .ok (.getfield 51, 3) := by decide +kernel
theorem d5_write_18 : decode c5_write 18 = .ok (.iload_n 1, 1) := by decide +kernel
theorem d5_write_19 : decode c5_write 19 = .ok (.iload 4, 2) := by decide +kernel
theorem d5_write_21 : decode c5_write 21 = .ok (.iastore, 1) := by decide +kernel
theorem d5_write_22 : decode c5_write 22 = .ok (.aload_n 0, 1) := by decide +kernel
theorem d5_write_23 : decode c5_write 23 = .ok (.getfield 54, 3) := by decide +kernel
theorem d5_write_26 : decode c5_write 26 = .ok (.iload_n 1, 1) := by decide +kernel
theorem d5_write_27 : decode c5_write 27 = .ok (.lload 5, 2) := by decide +kernel
theorem d5_write_29 : decode c5_write 29 = .ok (.lastore, 1) := by decide +kernel
theorem d5_write_30 : decode c5_write 30 = .ok (.aload_n 0, 1) := by decide +kernel
theorem d5_write_31 : decode c5_write 31 = .ok (.getfield 57, 3) := by decide +kernel
theorem d5_write_34 : decode c5_write 34 = .ok (.iload_n 1, 1) := by decide +kernel
theorem d5_write_35 : decode c5_write 35 = .ok (.lload 7, 2) := by decide +kernel
theorem d5_write_37 : decode c5_write 37 = .ok (.lastore, 1) := by decide +kernel
theorem d5_write_38 : decode c5_write 38 = .ok (.return_, 1) := by decide +kernel
theorem d5_sortOf_0 : decode c5_sortOf 0 = .ok (.iload_n 0, 1) := by decide +kernel
theorem d5_sortOf_1 : decode c5_sortOf 1 = .ok (.ifCond .ne 7, 3) := by decide +kernel
theorem d5_sortOf_4 : decode c5_sortOf 4 = .ok (.iconst 0, 1) := by decide +kernel
theorem d5_sortOf_5 : decode c5_sortOf 5 = .ok (.goto 12, 3) := by decide +kernel
theorem d5_sortOf_8 : decode c5_sortOf 8 = .ok (.iload_n 1, 1) := by decide +kernel
theorem d5_sortOf_9 : decode c5_sortOf 9 = .ok (.ifCond .eq 7, 3) := by decide +kernel
theorem d5_sortOf_12 : decode c5_sortOf 12 = .ok (.iconst 1, 1) := by decide +kernel
theorem d5_sortOf_13 : decode c5_sortOf 13 = .ok (.goto 4, 3) := by decide +kernel
theorem d5_sortOf_16 : decode c5_sortOf 16 = .ok (.iconst 2, 1) := by decide +kernel
theorem d5_sortOf_17 : decode c5_sortOf 17 = .ok (.ireturn, 1) := by decide +kernel
theorem d5_keepRows_0 : decode c5_keepRows 0 = .ok (.iconst 0, 1) := by decide +kernel
theorem d5_keepRows_1 : decode c5_keepRows 1 = .ok (.istore_n 1, 1) := by decide +kernel
theorem d5_keepRows_2 : decode c5_keepRows 2 = .ok (.iload_n 1, 1) := by decide +kernel
theorem d5_keepRows_3 : decode c5_keepRows 3 = .ok (.bipush 64, 2) := by decide +kernel
theorem d5_keepRows_5 : decode c5_keepRows 5 = .ok (.aload_n 0, 1) := by decide +kernel
theorem d5_keepRows_6 : decode c5_keepRows 6 = .ok (.getfield 87, 3) := by decide +kernel
theorem d5_keepRows_9 : decode c5_keepRows 9 = .ok (.imul, 1) := by decide +kernel
theorem d5_keepRows_10 : decode c5_keepRows 10 = .ok (.if_icmp .ge 33, 3) := by decide +kernel
theorem d5_keepRows_13 : decode c5_keepRows 13 = .ok (.aload_n 0, 1) := by decide +kernel
theorem d5_keepRows_14 : decode c5_keepRows 14 = .ok (.getfield 33, 3) := by decide +kernel
theorem d5_keepRows_17 : decode c5_keepRows 17 = .ok (.iload_n 1, 1) := by decide +kernel
theorem d5_keepRows_18 : decode c5_keepRows 18 = .ok (.aload_n 0, 1) := by decide +kernel
theorem d5_keepRows_19 : decode c5_keepRows 19 = .ok (.getfield 26, 3) := by decide +kernel
theorem d5_keepRows_22 : decode c5_keepRows 22 = .ok (.iload_n 1, 1) := by decide +kernel
theorem d5_keepRows_23 : decode c5_keepRows 23 = .ok (.baload, 1) := by decide +kernel
theorem d5_keepRows_24 : decode c5_keepRows 24 = .ok (.bastore, 1) := by decide +kernel
theorem d5_keepRows_25 : decode c5_keepRows 25 = .ok (.aload_n 0, 1) := by decide +kernel
theorem d5_keepRows_26 : decode c5_keepRows 26 = .ok (.getfield 36, 3) := by decide +kernel
theorem d5_keepRows_29 : decode c5_keepRows 29 = .ok (.iload_n 1, 1) := by decide +kernel
theorem d5_keepRows_30 : decode c5_keepRows 30 = .ok (.aload_n 0, 1) := by decide +kernel
theorem d5_keepRows_31 : decode c5_keepRows 31 = .ok (.getfield 30, 3) := by decide +kernel
theorem d5_keepRows_34 : decode c5_keepRows 34 = .ok (.iload_n 1, 1) := by decide +kernel
theorem d5_keepRows_35 : decode c5_keepRows 35 = .ok (.laload, 1) := by decide +kernel
theorem d5_keepRows_36 : decode c5_keepRows 36 = .ok (.lastore, 1) := by decide +kernel
theorem d5_keepRows_37 : decode c5_keepRows 37 = .ok (.iinc 1 1, 3) := by decide +kernel
theorem d5_keepRows_40 : decode c5_keepRows 40 = .ok (.goto (-38), 3) := by decide +kernel
theorem d5_keepRows_43 : decode c5_keepRows 43 = .ok (.return_, 1) := by decide +kernel
theorem d5_isOther_0 : decode c5_isOther 0 = .ok (.aload_n 0, 1) := by decide +kernel
theorem d5_isOther_1 : decode c5_isOther 1 = .ok (.getfield 33, 3) := by decide +kernel
theorem d5_isOther_4 : decode c5_isOther 4 = .ok (.iload_n 1, 1) := by decide +kernel
theorem d5_isOther_5 : decode c5_isOther 5 = .ok (.baload, 1) := by decide +kernel
theorem d5_isOther_6 : decode c5_isOther 6 = .ok (.aload_n 0, 1) := by decide +kernel
theorem d5_isOther_7 : decode c5_isOther 7 = .ok (.getfield 26, 3) := by decide +kernel
theorem d5_isOther_10 : decode c5_isOther 10 = .ok (.iload_n 1, 1) := by decide +kernel
theorem d5_isOther_11 : decode c5_isOther 11 = .ok (.baload, 1) := by decide +kernel
theorem d5_isOther_12 : decode c5_isOther 12 = .ok (.if_icmp .ne 28, 3) := by decide +kernel
theorem d5_isOther_15 : decode c5_isOther 15 = .ok (.aload_n 0, 1) := by decide +kernel
theorem d5_isOther_16 : decode c5_isOther 16 = .ok (.getfield 26, 3) := by decide +kernel
theorem d5_isOther_19 : decode c5_isOther 19 = .ok (.iload_n 1, 1) := by decide +kernel
theorem d5_isOther_20 : decode c5_isOther 20 = .ok (.baload, 1) := by decide +kernel
theorem d5_isOther_21 : decode c5_isOther 21 = .ok (.ifCond .eq 23, 3) := by decide +kernel
theorem d5_isOther_24 : decode c5_isOther 24 = .ok (.aload_n 0, 1) := by decide +kernel
theorem d5_isOther_25 : decode c5_isOther 25 = .ok (.getfield 36, 3) := by decide +kernel
theorem d5_isOther_28 : decode c5_isOther 28 = .ok (.iload_n 1, 1) := by decide +kernel
theorem d5_isOther_29 : decode c5_isOther 29 = .ok (.laload, 1) := by decide +kernel
theorem d5_isOther_30 : decode c5_isOther 30 = .ok (.aload_n 0, 1) := by decide +kernel
theorem d5_isOther_31 : decode c5_isOther 31 = .ok (.getfield 30, 3) := by decide +kernel
theorem d5_isOther_34 : decode c5_isOther 34 = .ok (.iload_n 1, 1) := by decide +kernel
theorem d5_isOther_35 : decode c5_isOther 35 = .ok (.laload, 1) := by decide +kernel
theorem d5_isOther_36 : decode c5_isOther 36 = .ok (.lcmp, 1) := by decide +kernel
theorem d5_isOther_37 : decode c5_isOther 37 = .ok (.ifCond .eq 7, 3) := by decide +kernel
theorem d5_isOther_40 : decode c5_isOther 40 = .ok (.iconst 1, 1) := by decide +kernel
theorem d5_isOther_41 : decode c5_isOther 41 = .ok (.goto 4, 3) := by decide +kernel
theorem d5_isOther_44 : decode c5_isOther 44 = .ok (.iconst 0, 1) := by decide +kernel
theorem d5_isOther_45 : decode c5_isOther 45 = .ok (.ireturn, 1) := by decide +kernel
theorem d5_follow_0 : decode c5_follow 0 = .ok (.iconst 0, 1) := by decide +kernel
theorem d5_follow_1 : decode c5_follow 1 = .ok (.istore_n 1, 1) := by decide +kernel
theorem d5_follow_2 : decode c5_follow 2 = .ok (.iload_n 1, 1) := by decide +kernel
theorem d5_follow_3 : decode c5_follow 3 = .ok (.aload_n 0, 1) := by decide +kernel
theorem d5_follow_4 : decode c5_follow 4 = .ok (.getfield 87, 3) := by decide +kernel
theorem d5_follow_7 : decode c5_follow 7 = .ok (.if_icmp .ge 23, 3) := by decide +kernel
theorem d5_follow_10 : decode c5_follow 10 = .ok (.aload_n 0, 1) := by decide +kernel
theorem d5_follow_11 : decode c5_follow 11 = .ok (.getfield 7, 3) := by decide +kernel
theorem d5_follow_14 : decode c5_follow 14 = .ok (.iload_n 1, 1) := by decide +kernel
theorem d5_follow_15 : decode c5_follow 15 = .ok (.iaload, 1) := by decide +kernel
theorem d5_follow_16 : decode c5_follow 16 = .ok (.ifCond .le 8, 3) := by decide +kernel
theorem d5_follow_19 : decode c5_follow 19 = .ok (.aload_n 0, 1) := by decide +kernel
theorem d5_follow_20 : decode c5_follow 20 = .ok (.iload_n 1, 1) := by decide +kernel
theorem d5_follow_21 : decode c5_follow 21 = .ok (.invokevirtual 136, 3) := by decide +kernel
theorem d5_follow_24 : decode c5_follow 24 = .ok (.iinc 1 1, 3) := by decide +kernel
theorem d5_follow_27 : decode c5_follow 27 = .ok (.goto (-25), 3) := by decide +kernel
theorem d5_follow_30 : decode c5_follow 30 = .ok (.iconst 0, 1) := by decide +kernel
theorem d5_follow_31 : decode c5_follow 31 = .ok (.istore_n 1, 1) := by decide +kernel
theorem d5_follow_32 : decode c5_follow 32 = .ok (.iconst 0, 1) := by decide +kernel
theorem d5_follow_33 : decode c5_follow 33 = .ok (.istore_n 2, 1) := by decide +kernel
theorem d5_follow_34 : decode c5_follow 34 = .ok (.iload_n 2, 1) := by decide +kernel
theorem d5_follow_35 : decode c5_follow 35 = .ok (.bipush 64, 2) := by decide +kernel
theorem d5_follow_37 : decode c5_follow 37 = .ok (.aload_n 0, 1) := by decide +kernel
theorem d5_follow_38 : decode c5_follow 38 = .ok (.getfield 87, 3) := by decide +kernel
theorem d5_follow_41 : decode c5_follow 41 = .ok (.imul, 1) := by decide +kernel
theorem d5_follow_42 : decode c5_follow 42 = .ok (.if_icmp .ge 25, 3) := by decide +kernel
theorem d5_follow_45 : decode c5_follow 45 = .ok (.iload_n 1, 1) := by decide +kernel
theorem d5_follow_46 : decode c5_follow 46 = .ok (.aload_n 0, 1) := by decide +kernel
theorem d5_follow_47 : decode c5_follow 47 = .ok (.iload_n 2, 1) := by decide +kernel
theorem d5_follow_48 : decode c5_follow 48 = .ok (.invokevirtual 155, 3) := by decide +kernel
theorem d5_follow_51 : decode c5_follow 51 = .ok (.ifCond .eq 7, 3) := by decide +kernel
theorem d5_follow_54 : decode c5_follow 54 = .ok (.iconst 1, 1) := by decide +kernel
theorem d5_follow_55 : decode c5_follow 55 = .ok (.goto 4, 3) := by decide +kernel
theorem d5_follow_58 : decode c5_follow 58 = .ok (.iconst 0, 1) := by decide +kernel
theorem d5_follow_59 : decode c5_follow 59 = .ok (.iadd, 1) := by decide +kernel
theorem d5_follow_60 : decode c5_follow 60 = .ok (.istore_n 1, 1) := by decide +kernel
theorem d5_follow_61 : decode c5_follow 61 = .ok (.iinc 2 1, 3) := by decide +kernel
theorem d5_follow_64 : decode c5_follow 64 = .ok (.goto (-30), 3) := by decide +kernel
theorem d5_follow_67 : decode c5_follow 67 = .ok (.iload_n 1, 1) := by decide +kernel
theorem d5_follow_68 : decode c5_follow 68 = .ok (.ireturn, 1) := by decide +kernel
theorem d5_tell_0 : decode c5_tell 0 = .ok (.aload_n 0, 1) := by decide +kernel
theorem d5_tell_1 : decode c5_tell 1 = .ok (.invokevirtual 158, 3) := by decide +kernel
theorem d5_tell_4 : decode c5_tell 4 = .ok (.istore_n 1, 1) := by decide +kernel
theorem d5_tell_5 : decode c5_tell 5 = .ok (.aload_n 0, 1) := by decide +kernel
theorem d5_tell_6 : decode c5_tell 6 = .ok (.getfield 91, 3) := by decide +kernel
theorem d5_tell_9 : decode c5_tell 9 = .ok (.iload_n 1, 1) := by decide +kernel
theorem d5_tell_10 : decode c5_tell 10 = .ok (.iadd, 1) := by decide +kernel
theorem d5_tell_11 : decode c5_tell 11 = .ok (.sipush 1500, 3) := by decide +kernel
theorem d5_tell_14 : decode c5_tell 14 = .ok (.if_icmp .le 49, 3) := by decide +kernel
theorem d5_tell_17 : decode c5_tell 17 = .ok (.iconst 0, 1) := by decide +kernel
theorem d5_tell_18 : decode c5_tell 18 = .ok (.istore_n 2, 1) := by decide +kernel
theorem d5_tell_19 : decode c5_tell 19 = .ok (.iload_n 2, 1) := by decide +kernel
theorem d5_tell_20 : decode c5_tell 20 = .ok (.bipush 64, 2) := by decide +kernel
theorem d5_tell_22 : decode c5_tell 22 = .ok (.aload_n 0, 1) := by decide +kernel
theorem d5_tell_23 : decode c5_tell 23 = .ok (.getfield 87, 3) := by decide +kernel
theorem d5_tell_26 : decode c5_tell 26 = .ok (.imul, 1) := by decide +kernel
theorem d5_tell_27 : decode c5_tell 27 = .ok (.if_icmp .ge 33, 3) := by decide +kernel
theorem d5_tell_30 : decode c5_tell 30 = .ok (.aload_n 0, 1) := by decide +kernel
theorem d5_tell_31 : decode c5_tell 31 = .ok (.getfield 26, 3) := by decide +kernel
theorem d5_tell_34 : decode c5_tell 34 = .ok (.iload_n 2, 1) := by decide +kernel
theorem d5_tell_35 : decode c5_tell 35 = .ok (.aload_n 0, 1) := by decide +kernel
theorem d5_tell_36 : decode c5_tell 36 = .ok (.getfield 33, 3) := by decide +kernel
theorem d5_tell_39 : decode c5_tell 39 = .ok (.iload_n 2, 1) := by decide +kernel
theorem d5_tell_40 : decode c5_tell 40 = .ok (.baload, 1) := by decide +kernel
theorem d5_tell_41 : decode c5_tell 41 = .ok (.bastore, 1) := by decide +kernel
theorem d5_tell_42 : decode c5_tell 42 = .ok (.aload_n 0, 1) := by decide +kernel
theorem d5_tell_43 : decode c5_tell 43 = .ok (.getfield 30, 3) := by decide +kernel
theorem d5_tell_46 : decode c5_tell 46 = .ok (.iload_n 2, 1) := by decide +kernel
theorem d5_tell_47 : decode c5_tell 47 = .ok (.aload_n 0, 1) := by decide +kernel
theorem d5_tell_48 : decode c5_tell 48 = .ok (.getfield 36, 3) := by decide +kernel
theorem d5_tell_51 : decode c5_tell 51 = .ok (.iload_n 2, 1) := by decide +kernel
theorem d5_tell_52 : decode c5_tell 52 = .ok (.laload, 1) := by decide +kernel
theorem d5_tell_53 : decode c5_tell 53 = .ok (.lastore, 1) := by decide +kernel
theorem d5_tell_54 : decode c5_tell 54 = .ok (.iinc 2 1, 3) := by decide +kernel
theorem d5_tell_57 : decode c5_tell 57 = .ok (.goto (-38), 3) := by decide +kernel
theorem d5_tell_60 : decode c5_tell 60 = .ok (.bipush (-3), 2) := by decide +kernel
theorem d5_tell_62 : decode c5_tell 62 = .ok (.ireturn, 1) := by decide +kernel
theorem d5_tell_63 : decode c5_tell 63 = .ok (.aload_n 0, 1) := by decide +kernel
theorem d5_tell_64 : decode c5_tell 64 = .ok (.iconst 0, 1) := by decide +kernel
theorem d5_tell_65 : decode c5_tell 65 = .ok (.putfield 94, 3) := by decide +kernel
theorem d5_tell_68 : decode c5_tell 68 = .ok (.iconst 0, 1) := by decide +kernel
theorem d5_tell_69 : decode c5_tell 69 = .ok (.istore_n 2, 1) := by decide +kernel
theorem d5_tell_70 : decode c5_tell 70 = .ok (.iload_n 2, 1) := by decide +kernel
theorem d5_tell_71 : decode c5_tell 71 = .ok (.bipush 64, 2) := by decide +kernel
theorem d5_tell_73 : decode c5_tell 73 = .ok (.aload_n 0, 1) := by decide +kernel
theorem d5_tell_74 : decode c5_tell 74 = .ok (.getfield 87, 3) := by decide +kernel
theorem d5_tell_77 : decode c5_tell 77 = .ok (.imul, 1) := by decide +kernel
theorem d5_tell_78 : decode c5_tell 78 = .ok (.if_icmp .ge 141, 3) := by decide +kernel
theorem d5_tell_81 : decode c5_tell 81 = .ok (.aload_n 0, 1) := by decide +kernel
theorem d5_tell_82 : decode c5_tell 82 = .ok (.iload_n 2, 1) := by decide +kernel
theorem d5_tell_83 : decode c5_tell 83 = .ok (.invokevirtual 155, 3) := by decide +kernel
theorem d5_tell_86 : decode c5_tell 86 = .ok (.ifCond .eq 127, 3) := by decide +kernel
theorem d5_tell_89 : decode c5_tell 89 = .ok (.aload_n 0, 1) := by decide +kernel
theorem d5_tell_90 : decode c5_tell 90 = .ok (.getfield 33, 3) := by decide +kernel
theorem d5_tell_93 : decode c5_tell 93 = .ok (.iload_n 2, 1) := by decide +kernel
theorem d5_tell_94 : decode c5_tell 94 = .ok (.baload, 1) := by decide +kernel
theorem d5_tell_95 : decode c5_tell 95 = .ok (.aload_n 0, 1) := by decide +kernel
theorem d5_tell_96 : decode c5_tell 96 = .ok (.getfield 26, 3) := by decide +kernel
theorem d5_tell_99 : decode c5_tell 99 = .ok (.iload_n 2, 1) := by decide +kernel
theorem d5_tell_100 : decode c5_tell 100 = .ok (.baload, 1) := by decide +kernel
theorem d5_tell_101 : decode c5_tell 101 = .ok (.invokestatic 162, 3) := by decide +kernel
theorem d5_tell_104 : decode c5_tell 104 = .ok (.istore_n 3, 1) := by decide +kernel
theorem d5_tell_105 : decode c5_tell 105 = .ok (.aload_n 0, 1) := by decide +kernel
theorem d5_tell_106 : decode c5_tell 106 = .ok (.getfield 33, 3) := by decide +kernel
theorem d5_tell_109 : decode c5_tell 109 = .ok (.iload_n 2, 1) := by decide +kernel
theorem d5_tell_110 : decode c5_tell 110 = .ok (.baload, 1) := by decide +kernel
theorem d5_tell_111 : decode c5_tell 111 = .ok (.ifCond .eq 12, 3) := by decide +kernel
theorem d5_tell_114 : decode c5_tell 114 = .ok (.aload_n 0, 1) := by decide +kernel
theorem d5_tell_115 : decode c5_tell 115 = .ok (.getfield 36, 3) := by decide +kernel
theorem d5_tell_118 : decode c5_tell 118 = .ok (.iload_n 2, 1) := by decide +kernel
theorem d5_tell_119 : decode c5_tell 119 = .ok (.laload, 1) := by decide +kernel
theorem d5_tell_120 : decode c5_tell 120 = .ok (.goto 4, 3) := by decide +kernel
theorem d5_tell_123 : decode c5_tell 123 = .ok (.lconst 0, 1) := by decide +kernel
theorem d5_tell_124 : decode c5_tell 124 = .ok (.lstore 4, 2) := by decide +kernel
theorem d5_tell_126 : decode c5_tell 126 = .ok (.aload_n 0, 1) := by decide +kernel
theorem d5_tell_127 : decode c5_tell 127 = .ok (.getfield 26, 3) := by decide +kernel
theorem d5_tell_130 : decode c5_tell 130 = .ok (.iload_n 2, 1) := by decide +kernel
theorem d5_tell_131 : decode c5_tell 131 = .ok (.baload, 1) := by decide +kernel
theorem d5_tell_132 : decode c5_tell 132 = .ok (.ifCond .eq 12, 3) := by decide +kernel
theorem d5_tell_135 : decode c5_tell 135 = .ok (.aload_n 0, 1) := by decide +kernel
theorem d5_tell_136 : decode c5_tell 136 = .ok (.getfield 30, 3) := by decide +kernel
theorem d5_tell_139 : decode c5_tell 139 = .ok (.iload_n 2, 1) := by decide +kernel
theorem d5_tell_140 : decode c5_tell 140 = .ok (.laload, 1) := by decide +kernel
theorem d5_tell_141 : decode c5_tell 141 = .ok (.goto 4, 3) := by decide +kernel
theorem d5_tell_144 : decode c5_tell 144 = .ok (.lconst 0, 1) := by decide +kernel
theorem d5_tell_145 : decode c5_tell 145 = .ok (.lstore 6, 2) := by decide +kernel
theorem d5_tell_147 : decode c5_tell 147 = .ok (.aload_n 0, 1) := by decide +kernel
theorem d5_tell_148 : decode c5_tell 148 = .ok (.sipush 1500, 3) := by decide +kernel
theorem d5_tell_151 : decode c5_tell 151 = .ok (.aload_n 0, 1) := by decide +kernel
theorem d5_tell_152 : decode c5_tell 152 = .ok (.getfield 94, 3) := by decide +kernel
theorem d5_tell_155 : decode c5_tell 155 = .ok (.iadd, 1) := by decide +kernel
theorem d5_tell_156 : decode c5_tell 156 = .ok (.iload_n 2, 1) := by decide +kernel
theorem d5_tell_157 : decode c5_tell 157 = .ok (.bipush 64, 2) := by decide +kernel
theorem d5_tell_159 : decode c5_tell 159 = .ok (.idiv, 1) := by decide +kernel
theorem d5_tell_160 : decode c5_tell 160 = .ok (.iload_n 3, 1) := by decide +kernel
theorem d5_tell_161 : decode c5_tell 161 = .ok (.iload_n 2, 1) := by decide +kernel
theorem d5_tell_162 : decode c5_tell 162 = .ok (.bipush 64, 2) := by decide +kernel
theorem d5_tell_164 : decode c5_tell 164 = .ok (.irem, 1) := by decide +kernel
theorem d5_tell_165 : decode c5_tell 165 = .ok (.lload 4, 2) := by decide +kernel
theorem d5_tell_167 : decode c5_tell 167 = .ok (.lload 6, 2) := by decide +kernel
theorem d5_tell_169 : decode c5_tell 169 = .ok (.invokevirtual 166, 3) := by decide +kernel
theorem d5_tell_172 : decode c5_tell 172 = .ok (.aload_n 0, 1) := by decide +kernel
theorem d5_tell_173 : decode c5_tell 173 = .ok (.aload_n 0, 1) := by decide +kernel
theorem d5_tell_174 : decode c5_tell 174 = .ok (.getfield 91, 3) := by decide +kernel
theorem d5_tell_177 : decode c5_tell 177 = .ok (.iload_n 2, 1) := by decide +kernel
theorem d5_tell_178 : decode c5_tell 178 = .ok (.bipush 64, 2) := by decide +kernel
theorem d5_tell_180 : decode c5_tell 180 = .ok (.idiv, 1) := by decide +kernel
theorem d5_tell_181 : decode c5_tell 181 = .ok (.iload_n 3, 1) := by decide +kernel
theorem d5_tell_182 : decode c5_tell 182 = .ok (.iload_n 2, 1) := by decide +kernel
theorem d5_tell_183 : decode c5_tell 183 = .ok (.bipush 64, 2) := by decide +kernel
theorem d5_tell_185 : decode c5_tell 185 = .ok (.irem, 1) := by decide +kernel
theorem d5_tell_186 : decode c5_tell 186 = .ok (.lload 4, 2) := by decide +kernel
theorem d5_tell_188 : decode c5_tell 188 = .ok (.lload 6, 2) := by decide +kernel
theorem d5_tell_190 : decode c5_tell 190 = .ok (.invokevirtual 166, 3) := by decide +kernel
theorem d5_tell_193 : decode c5_tell 193 = .ok (.aload_n 0, 1) := by decide +kernel
theorem d5_tell_194 : decode c5_tell 194 = .ok (.dup, 1) := by decide +kernel
theorem d5_tell_195 : decode c5_tell 195 = .ok (.getfield 94, 3) := by decide +kernel
theorem d5_tell_198 : decode c5_tell 198 = .ok (.iconst 1, 1) := by decide +kernel
theorem d5_tell_199 : decode c5_tell 199 = .ok (.iadd, 1) := by decide +kernel
theorem d5_tell_200 : decode c5_tell 200 = .ok (.putfield 94, 3) := by decide +kernel
theorem d5_tell_203 : decode c5_tell 203 = .ok (.aload_n 0, 1) := by decide +kernel
theorem d5_tell_204 : decode c5_tell 204 = .ok (.dup, 1) := by decide +kernel
theorem d5_tell_205 : decode c5_tell 205 = .ok (.getfield 91, 3) := by decide +kernel
theorem d5_tell_208 : decode c5_tell 208 = .ok (.iconst 1, 1) := by decide +kernel
theorem d5_tell_209 : decode c5_tell 209 = .ok (.iadd, 1) := by decide +kernel
theorem d5_tell_210 : decode c5_tell 210 = .ok (.putfield 91, 3) := by decide +kernel
theorem d5_tell_213 : decode c5_tell 213 = .ok (.iinc 2 1, 3) := by decide +kernel
theorem d5_tell_216 : decode c5_tell 216 = .ok (.goto (-146), 3) := by decide +kernel
theorem d5_tell_219 : decode c5_tell 219 = .ok (.aload_n 0, 1) := by decide +kernel
theorem d5_tell_220 : decode c5_tell 220 = .ok (.getfield 94, 3) := by decide +kernel
theorem d5_tell_223 : decode c5_tell 223 = .ok (.ireturn, 1) := by decide +kernel
theorem d5_setOrClear_0 : decode c5_setOrClear 0 = .ok (.iload_n 2, 1) := by decide +kernel
theorem d5_setOrClear_1 : decode c5_setOrClear 1 = .ok (.ifCond .eq 12, 3) := by decide +kernel
theorem d5_setOrClear_4 : decode c5_setOrClear 4 = .ok (.aload_n 0, 1) := by decide +kernel
theorem d5_setOrClear_5 : decode c5_setOrClear 5 = .ok (.iload_n 1, 1) := by decide +kernel
theorem d5_setOrClear_6 : decode c5_setOrClear 6 = .ok (.lload_n 3, 1) := by decide +kernel
theorem d5_setOrClear_7 : decode c5_setOrClear 7 = .ok (.invokevirtual 115, 3) := by decide +kernel
theorem d5_setOrClear_10 : decode c5_setOrClear 10 = .ok (.goto 8, 3) := by decide +kernel
theorem d5_setOrClear_13 : decode c5_setOrClear 13 = .ok (.aload_n 0, 1) := by decide +kernel
theorem d5_setOrClear_14 : decode c5_setOrClear 14 = .ok (.iload_n 1, 1) := by decide +kernel
theorem d5_setOrClear_15 : decode c5_setOrClear 15 = .ok (.invokevirtual 119, 3) := by decide +kernel
theorem d5_setOrClear_18 : decode c5_setOrClear 18 = .ok (.return_, 1) := by decide +kernel
theorem d5_alter_0 : decode c5_alter 0 = .ok (.aload_n 0, 1) := by decide +kernel
theorem d5_alter_1 : decode c5_alter 1 = .ok (.iload_n 1, 1) := by decide +kernel
theorem d5_alter_2 : decode c5_alter 2 = .ok (.iload_n 2, 1) := by decide +kernel
theorem d5_alter_3 : decode c5_alter 3 = .ok (.invokevirtual 170, 3) := by decide +kernel
theorem d5_alter_6 : decode c5_alter 6 = .ok (.ifCond .ne 6, 3) := by decide +kernel
theorem d5_alter_9 : decode c5_alter 9 = .ok (.bipush (-2), 2) := by decide +kernel
theorem d5_alter_11 : decode c5_alter 11 = .ok (.ireturn, 1) := by decide +kernel
theorem d5_alter_12 : decode c5_alter 12 = .ok (.aload_n 0, 1) := by decide +kernel
theorem d5_alter_13 : decode c5_alter 13 = .ok (.getfield 100, 3) := by decide +kernel
theorem d5_alter_16 : decode c5_alter 16 = .ok (.ifCond .eq 71, 3) := by decide +kernel
theorem d5_alter_19 : decode c5_alter 19 = .ok (.aload_n 0, 1) := by decide +kernel
theorem d5_alter_20 : decode c5_alter 20 = .ok (.getfield 104, 3) := by decide +kernel
theorem d5_alter_23 : decode c5_alter 23 = .ok (.bipush 40, 2) := by decide +kernel
theorem d5_alter_25 : decode c5_alter 25 = .ok (.if_icmp .ne 6, 3) := by decide +kernel
theorem d5_alter_28 : decode c5_alter 28 = .ok (.bipush (-3), 2) := by decide +kernel
theorem d5_alter_30 : decode c5_alter 30 = .ok (.ireturn, 1) := by decide +kernel
theorem d5_alter_31 : decode c5_alter 31 = .ok (.aload_n 0, 1) := by decide +kernel
theorem d5_alter_32 : decode c5_alter 32 = .ok (.getfield 60, 3) := by decide +kernel
theorem d5_alter_35 : decode c5_alter 35 = .ok (.aload_n 0, 1) := by decide +kernel
theorem d5_alter_36 : decode c5_alter 36 = .ok (.getfield 104, 3) := by decide +kernel
theorem d5_alter_39 : decode c5_alter 39 = .ok (.iload_n 1, 1) := by decide +kernel
theorem d5_alter_40 : decode c5_alter 40 = .ok (.iastore, 1) := by decide +kernel
theorem d5_alter_41 : decode c5_alter 41 = .ok (.aload_n 0, 1) := by decide +kernel
theorem d5_alter_42 : decode c5_alter 42 = .ok (.getfield 63, 3) := by decide +kernel
theorem d5_alter_45 : decode c5_alter 45 = .ok (.aload_n 0, 1) := by decide +kernel
theorem d5_alter_46 : decode c5_alter 46 = .ok (.getfield 104, 3) := by decide +kernel
theorem d5_alter_49 : decode c5_alter 49 = .ok (.iload_n 2, 1) := by decide +kernel
theorem d5_alter_50 : decode c5_alter 50 = .ok (.iastore, 1) := by decide +kernel
theorem d5_alter_51 : decode c5_alter 51 = .ok (.aload_n 0, 1) := by decide +kernel
theorem d5_alter_52 : decode c5_alter 52 = .ok (.getfield 66, 3) := by decide +kernel
theorem d5_alter_55 : decode c5_alter 55 = .ok (.aload_n 0, 1) := by decide +kernel
theorem d5_alter_56 : decode c5_alter 56 = .ok (.getfield 104, 3) := by decide +kernel
theorem d5_alter_59 : decode c5_alter 59 = .ok (.iload_n 3, 1) := by decide +kernel
theorem d5_alter_60 : decode c5_alter 60 = .ok (.bastore, 1) := by decide +kernel
theorem d5_alter_61 : decode c5_alter 61 = .ok (.aload_n 0, 1) := by decide +kernel
theorem d5_alter_62 : decode c5_alter 62 = .ok (.getfield 69, 3) := by decide +kernel
theorem d5_alter_65 : decode c5_alter 65 = .ok (.aload_n 0, 1) := by decide +kernel
theorem d5_alter_66 : decode c5_alter 66 = .ok (.getfield 104, 3) := by decide +kernel
theorem d5_alter_69 : decode c5_alter 69 = .ok (.lload 4, 2) := by decide +kernel
theorem d5_alter_71 : decode c5_alter 71 = .ok (.lastore, 1) := by decide +kernel
theorem d5_alter_72 : decode c5_alter 72 = .ok (.aload_n 0, 1) := by decide +kernel
theorem d5_alter_73 : decode c5_alter 73 = .ok (.dup, 1) := by decide +kernel
theorem d5_alter_74 : decode c5_alter 74 = .ok (.getfield 104, 3) := by decide +kernel
theorem d5_alter_77 : decode c5_alter 77 = .ok (.iconst 1, 1) := by decide +kernel
theorem d5_alter_78 : decode c5_alter 78 = .ok (.iadd, 1) := by decide +kernel
theorem d5_alter_79 : decode c5_alter 79 = .ok (.putfield 104, 3) := by decide +kernel
theorem d5_alter_82 : decode c5_alter 82 = .ok (.aload_n 0, 1) := by decide +kernel
theorem d5_alter_83 : decode c5_alter 83 = .ok (.getfield 104, 3) := by decide +kernel
theorem d5_alter_86 : decode c5_alter 86 = .ok (.ireturn, 1) := by decide +kernel
theorem d5_alter_87 : decode c5_alter 87 = .ok (.aload_n 0, 1) := by decide +kernel
theorem d5_alter_88 : decode c5_alter 88 = .ok (.invokevirtual 174, 3) := by decide +kernel
theorem d5_alter_91 : decode c5_alter 91 = .ok (.aload_n 0, 1) := by decide +kernel
theorem d5_alter_92 : decode c5_alter 92 = .ok (.bipush 64, 2) := by decide +kernel
theorem d5_alter_94 : decode c5_alter 94 = .ok (.iload_n 1, 1) := by decide +kernel
theorem d5_alter_95 : decode c5_alter 95 = .ok (.imul, 1) := by decide +kernel
theorem d5_alter_96 : decode c5_alter 96 = .ok (.iload_n 2, 1) := by decide +kernel
theorem d5_alter_97 : decode c5_alter 97 = .ok (.iadd, 1) := by decide +kernel
theorem d5_alter_98 : decode c5_alter 98 = .ok (.iload_n 3, 1) := by decide +kernel
theorem d5_alter_99 : decode c5_alter 99 = .ok (.lload 4, 2) := by decide +kernel
theorem d5_alter_101 : decode c5_alter 101 = .ok (.invokevirtual 177, 3) := by decide +kernel
theorem d5_alter_104 : decode c5_alter 104 = .ok (.aload_n 0, 1) := by decide +kernel
theorem d5_alter_105 : decode c5_alter 105 = .ok (.invokevirtual 181, 3) := by decide +kernel
theorem d5_alter_108 : decode c5_alter 108 = .ok (.ireturn, 1) := by decide +kernel
theorem d5_put_0 : decode c5_put 0 = .ok (.aload_n 0, 1) := by decide +kernel
theorem d5_put_1 : decode c5_put 1 = .ok (.iload_n 1, 1) := by decide +kernel
theorem d5_put_2 : decode c5_put 2 = .ok (.iload_n 2, 1) := by decide +kernel
theorem d5_put_3 : decode c5_put 3 = .ok (.iconst 1, 1) := by decide +kernel
theorem d5_put_4 : decode c5_put 4 = .ok (.lload_n 3, 1) := by decide +kernel
theorem d5_put_5 : decode c5_put 5 = .ok (.invokevirtual 184, 3) := by decide +kernel
theorem d5_put_8 : decode c5_put 8 = .ok (.ireturn, 1) := by decide +kernel
theorem d5_remove_0 : decode c5_remove 0 = .ok (.aload_n 0, 1) := by decide +kernel
theorem d5_remove_1 : decode c5_remove 1 = .ok (.iload_n 1, 1) := by decide +kernel
theorem d5_remove_2 : decode c5_remove 2 = .ok (.iload_n 2, 1) := by decide +kernel
theorem d5_remove_3 : decode c5_remove 3 = .ok (.iconst 0, 1) := by decide +kernel
theorem d5_remove_4 : decode c5_remove 4 = .ok (.lconst 0, 1) := by decide +kernel
theorem d5_remove_5 : decode c5_remove 5 = .ok (.invokevirtual 184, 3) := by decide +kernel
theorem d5_remove_8 : decode c5_remove 8 = .ok (.ireturn, 1) := by decide +kernel
theorem d5_begin_0 : decode c5_begin 0 = .ok (.aload_n 0, 1) := by decide +kernel
theorem d5_begin_1 : decode c5_begin 1 = .ok (.getfield 100, 3) := by decide +kernel
theorem d5_begin_4 : decode c5_begin 4 = .ok (.ifCond .eq 6, 3) := by decide +kernel
theorem d5_begin_7 : decode c5_begin 7 = .ok (.bipush (-4), 2) := by decide +kernel
theorem d5_begin_9 : decode c5_begin 9 = .ok (.ireturn, 1) := by decide +kernel
theorem d5_begin_10 : decode c5_begin 10 = .ok (.aload_n 0, 1) := by decide +kernel
theorem d5_begin_11 : decode c5_begin 11 = .ok (.iconst 1, 1) := by decide +kernel
theorem d5_begin_12 : decode c5_begin 12 = .ok (.putfield 100, 3) := by decide +kernel
theorem d5_begin_15 : decode c5_begin 15 = .ok (.aload_n 0, 1) := by decide +kernel
theorem d5_begin_16 : decode c5_begin 16 = .ok (.iconst 0, 1) := by decide +kernel
theorem d5_begin_17 : decode c5_begin 17 = .ok (.putfield 104, 3) := by decide +kernel
theorem d5_begin_20 : decode c5_begin 20 = .ok (.iconst 1, 1) := by decide +kernel
theorem d5_begin_21 : decode c5_begin 21 = .ok (.ireturn, 1) := by decide +kernel
theorem d5_end_0 : decode c5_end 0 = .ok (.aload_n 0, 1) := by decide +kernel
theorem d5_end_1 : decode c5_end 1 = .ok (.getfield 100, 3) := by decide +kernel
theorem d5_end_4 : decode c5_end 4 = .ok (.ifCond .ne 6, 3) := by decide +kernel
theorem d5_end_7 : decode c5_end 7 = .ok (.bipush (-4), 2) := by decide +kernel
theorem d5_end_9 : decode c5_end 9 = .ok (.ireturn, 1) := by decide +kernel
theorem d5_end_10 : decode c5_end 10 = .ok (.aload_n 0, 1) := by decide +kernel
theorem d5_end_11 : decode c5_end 11 = .ok (.invokevirtual 174, 3) := by decide +kernel
theorem d5_end_14 : decode c5_end 14 = .ok (.iconst 0, 1) := by decide +kernel
theorem d5_end_15 : decode c5_end 15 = .ok (.istore_n 1, 1) := by decide +kernel
theorem d5_end_16 : decode c5_end 16 = .ok (.iload_n 1, 1) := by decide +kernel
theorem d5_end_17 : decode c5_end 17 = .ok (.aload_n 0, 1) := by decide +kernel
theorem d5_end_18 : decode c5_end 18 = .ok (.getfield 104, 3) := by decide +kernel
theorem d5_end_21 : decode c5_end 21 = .ok (.if_icmp .ge 41, 3) := by decide +kernel
theorem d5_end_24 : decode c5_end 24 = .ok (.aload_n 0, 1) := by decide +kernel
theorem d5_end_25 : decode c5_end 25 = .ok (.bipush 64, 2) := by decide +kernel
theorem d5_end_27 : decode c5_end 27 = .ok (.aload_n 0, 1) := by decide +kernel
theorem d5_end_28 : decode c5_end 28 = .ok (.getfield 60, 3) := by decide +kernel
theorem d5_end_31 : decode c5_end 31 = .ok (.iload_n 1, 1) := by decide +kernel
theorem d5_end_32 : decode c5_end 32 = .ok (.iaload, 1) := by decide +kernel
theorem d5_end_33 : decode c5_end 33 = .ok (.imul, 1) := by decide +kernel
theorem d5_end_34 : decode c5_end 34 = .ok (.aload_n 0, 1) := by decide +kernel
theorem d5_end_35 : decode c5_end 35 = .ok (.getfield 63, 3) := by decide +kernel
theorem d5_end_38 : decode c5_end 38 = .ok (.iload_n 1, 1) := by decide +kernel
theorem d5_end_39 : decode c5_end 39 = .ok (.iaload, 1) := by decide +kernel
theorem d5_end_40 : decode c5_end 40 = .ok (.iadd, 1) := by decide +kernel
theorem d5_end_41 : decode c5_end 41 = .ok (.aload_n 0, 1) := by decide +kernel
theorem d5_end_42 : decode c5_end 42 = .ok (.getfield 66, 3) := by decide +kernel
theorem d5_end_45 : decode c5_end 45 = .ok (.iload_n 1, 1) := by decide +kernel
theorem d5_end_46 : decode c5_end 46 = .ok (.baload, 1) := by decide +kernel
theorem d5_end_47 : decode c5_end 47 = .ok (.aload_n 0, 1) := by decide +kernel
theorem d5_end_48 : decode c5_end 48 = .ok (.getfield 69, 3) := by decide +kernel
theorem d5_end_51 : decode c5_end 51 = .ok (.iload_n 1, 1) := by decide +kernel
theorem d5_end_52 : decode c5_end 52 = .ok (.laload, 1) := by decide +kernel
theorem d5_end_53 : decode c5_end 53 = .ok (.invokevirtual 177, 3) := by decide +kernel
theorem d5_end_56 : decode c5_end 56 = .ok (.iinc 1 1, 3) := by decide +kernel
theorem d5_end_59 : decode c5_end 59 = .ok (.goto (-43), 3) := by decide +kernel
theorem d5_end_62 : decode c5_end 62 = .ok (.aload_n 0, 1) := by decide +kernel
theorem d5_end_63 : decode c5_end 63 = .ok (.invokevirtual 181, 3) := by decide +kernel
theorem d5_end_66 : decode c5_end 66 = .ok (.istore_n 1, 1) := by decide +kernel
theorem d5_end_67 : decode c5_end 67 = .ok (.aload_n 0, 1) := by decide +kernel
theorem d5_end_68 : decode c5_end 68 = .ok (.iload_n 1, 1) := by decide +kernel
theorem d5_end_69 : decode c5_end 69 = .ok (.bipush (-3), 2) := by decide +kernel
theorem d5_end_71 : decode c5_end 71 = .ok (.if_icmp .ne 7, 3) := by decide +kernel
theorem d5_end_74 : decode c5_end 74 = .ok (.iconst 1, 1) := by decide +kernel
theorem d5_end_75 : decode c5_end 75 = .ok (.goto 4, 3) := by decide +kernel
theorem d5_end_78 : decode c5_end 78 = .ok (.iconst 0, 1) := by decide +kernel
theorem d5_end_79 : decode c5_end 79 = .ok (.putfield 100, 3) := by decide +kernel
theorem d5_end_82 : decode c5_end 82 = .ok (.iload_n 1, 1) := by decide +kernel
theorem d5_end_83 : decode c5_end 83 = .ok (.ireturn, 1) := by decide +kernel
theorem d5_drop_0 : decode c5_drop 0 = .ok (.aload_n 0, 1) := by decide +kernel
theorem d5_drop_1 : decode c5_drop 1 = .ok (.getfield 100, 3) := by decide +kernel
theorem d5_drop_4 : decode c5_drop 4 = .ok (.ifCond .ne 6, 3) := by decide +kernel
theorem d5_drop_7 : decode c5_drop 7 = .ok (.bipush (-4), 2) := by decide +kernel
theorem d5_drop_9 : decode c5_drop 9 = .ok (.ireturn, 1) := by decide +kernel
theorem d5_drop_10 : decode c5_drop 10 = .ok (.aload_n 0, 1) := by decide +kernel
theorem d5_drop_11 : decode c5_drop 11 = .ok (.iconst 0, 1) := by decide +kernel
theorem d5_drop_12 : decode c5_drop 12 = .ok (.putfield 100, 3) := by decide +kernel
theorem d5_drop_15 : decode c5_drop 15 = .ok (.aload_n 0, 1) := by decide +kernel
theorem d5_drop_16 : decode c5_drop 16 = .ok (.getfield 104, 3) := by decide +kernel
theorem d5_drop_19 : decode c5_drop 19 = .ok (.ireturn, 1) := by decide +kernel
theorem d5_told_0 : decode c5_told 0 = .ok (.aload_n 0, 1) := by decide +kernel
theorem d5_told_1 : decode c5_told 1 = .ok (.getfield 94, 3) := by decide +kernel
theorem d5_told_4 : decode c5_told 4 = .ok (.ireturn, 1) := by decide +kernel
theorem d5_placeOf_0 : decode c5_placeOf 0 = .ok (.iload_n 1, 1) := by decide +kernel
theorem d5_placeOf_1 : decode c5_placeOf 1 = .ok (.ifCond .ne 10, 3) := by decide +kernel
theorem d5_placeOf_4 : decode c5_placeOf 4 = .ok (.aload_n 0, 1) := by decide +kernel
theorem d5_placeOf_5 : decode c5_placeOf 5 = .ok (.getfield 94, 3) := by decide +kernel
theorem d5_placeOf_8 : decode c5_placeOf 8 = .ok (.goto 28, 3) := by decide +kernel
theorem d5_placeOf_11 : decode c5_placeOf 11 = .ok (.iload_n 1, 1) := by decide +kernel
theorem d5_placeOf_12 : decode c5_placeOf 12 = .ok (.iconst 1, 1) := by decide +kernel
theorem d5_placeOf_13 : decode c5_placeOf 13 = .ok (.if_icmp .ne 10, 3) := by decide +kernel
theorem d5_placeOf_16 : decode c5_placeOf 16 = .ok (.aload_n 0, 1) := by decide +kernel
theorem d5_placeOf_17 : decode c5_placeOf 17 = .ok (.getfield 91, 3) := by decide +kernel
theorem d5_placeOf_20 : decode c5_placeOf 20 = .ok (.goto 16, 3) := by decide +kernel
theorem d5_placeOf_23 : decode c5_placeOf 23 = .ok (.iload_n 1, 1) := by decide +kernel
theorem d5_placeOf_24 : decode c5_placeOf 24 = .ok (.iconst 2, 1) := by decide +kernel
theorem d5_placeOf_25 : decode c5_placeOf 25 = .ok (.if_icmp .ne 10, 3) := by decide +kernel
theorem d5_placeOf_28 : decode c5_placeOf 28 = .ok (.aload_n 0, 1) := by decide +kernel
theorem d5_placeOf_29 : decode c5_placeOf 29 = .ok (.getfield 97, 3) := by decide +kernel
theorem d5_placeOf_32 : decode c5_placeOf 32 = .ok (.goto 4, 3) := by decide +kernel
theorem d5_placeOf_35 : decode c5_placeOf 35 = .ok (.iconst 0, 1) := by decide +kernel
theorem d5_placeOf_36 : decode c5_placeOf 36 = .ok (.istore_n 3, 1) := by decide +kernel
theorem d5_placeOf_37 : decode c5_placeOf 37 = .ok (.iload_n 2, 1) := by decide +kernel
theorem d5_placeOf_38 : decode c5_placeOf 38 = .ok (.i2l, 1) := by decide +kernel
theorem d5_placeOf_39 : decode c5_placeOf 39 = .ok (.lconst 0, 1) := by decide +kernel
theorem d5_placeOf_40 : decode c5_placeOf 40 = .ok (.iload_n 3, 1) := by decide +kernel
theorem d5_placeOf_41 : decode c5_placeOf 41 = .ok (.iconst 1, 1) := by decide +kernel
theorem d5_placeOf_42 : decode c5_placeOf 42 = .ok (.isub, 1) := by decide +kernel
theorem d5_placeOf_43 : decode c5_placeOf 43 = .ok (.i2l, 1) := by decide +kernel
theorem d5_placeOf_44 : decode c5_placeOf 44 = .ok (.invokestatic 107, 3) := by decide +kernel
theorem d5_placeOf_47 : decode c5_placeOf 47 = .ok (.ifCond .ne 5, 3) := by decide +kernel
theorem d5_placeOf_50 : decode c5_placeOf 50 = .ok (.iconst (-1), 1) := by decide +kernel
theorem d5_placeOf_51 : decode c5_placeOf 51 = .ok (.ireturn, 1) := by decide +kernel
theorem d5_placeOf_52 : decode c5_placeOf 52 = .ok (.iload_n 1, 1) := by decide +kernel
theorem d5_placeOf_53 : decode c5_placeOf 53 = .ok (.ifCond .ne 11, 3) := by decide +kernel
theorem d5_placeOf_56 : decode c5_placeOf 56 = .ok (.sipush 1500, 3) := by decide +kernel
theorem d5_placeOf_59 : decode c5_placeOf 59 = .ok (.iload_n 2, 1) := by decide +kernel
theorem d5_placeOf_60 : decode c5_placeOf 60 = .ok (.iadd, 1) := by decide +kernel
theorem d5_placeOf_61 : decode c5_placeOf 61 = .ok (.goto 17, 3) := by decide +kernel
theorem d5_placeOf_64 : decode c5_placeOf 64 = .ok (.iload_n 1, 1) := by decide +kernel
theorem d5_placeOf_65 : decode c5_placeOf 65 = .ok (.iconst 1, 1) := by decide +kernel
theorem d5_placeOf_66 : decode c5_placeOf 66 = .ok (.if_icmp .ne 7, 3) := by decide +kernel
theorem d5_placeOf_69 : decode c5_placeOf 69 = .ok (.iload_n 2, 1) := by decide +kernel
theorem d5_placeOf_70 : decode c5_placeOf 70 = .ok (.goto 8, 3) := by decide +kernel
theorem d5_placeOf_73 : decode c5_placeOf 73 = .ok (.sipush 2300, 3) := by decide +kernel
theorem d5_placeOf_76 : decode c5_placeOf 76 = .ok (.iload_n 2, 1) := by decide +kernel
theorem d5_placeOf_77 : decode c5_placeOf 77 = .ok (.iadd, 1) := by decide +kernel
theorem d5_placeOf_78 : decode c5_placeOf 78 = .ok (.ireturn, 1) := by decide +kernel
theorem d5_change_0 : decode c5_change 0 = .ok (.aload_n 0, 1) := by decide +kernel
theorem d5_change_1 : decode c5_change 1 = .ok (.iload_n 1, 1) := by decide +kernel
theorem d5_change_2 : decode c5_change 2 = .ok (.iload_n 2, 1) := by decide +kernel
theorem d5_change_3 : decode c5_change 3 = .ok (.invokevirtual 188, 3) := by decide +kernel
theorem d5_change_6 : decode c5_change 6 = .ok (.istore 4, 2) := by decide +kernel
theorem d5_change_8 : decode c5_change 8 = .ok (.iload 4, 2) := by decide +kernel
theorem d5_change_10 : decode c5_change 10 = .ok (.iconst (-1), 1) := by decide +kernel
theorem d5_change_11 : decode c5_change 11 = .ok (.if_icmp .eq 15, 3) := by decide +kernel
theorem d5_change_14 : decode c5_change 14 = .ok (.iload_n 3, 1) := by decide +kernel
theorem d5_change_15 : decode c5_change 15 = .ok (.i2l, 1) := by decide +kernel
theorem d5_change_16 : decode c5_change 16 = .ok (.lconst 0, 1) := by decide +kernel
theorem d5_change_17 : decode c5_change 17 = .ok (.ldc2_w 111, 3) := by decide +kernel
theorem d5_change_20 : decode c5_change 20 = .ok (.invokestatic 107, 3) := by decide +kernel
theorem d5_change_23 : decode c5_change 23 = .ok (.ifCond .ne 6, 3) := by decide +kernel
theorem d5_change_26 : decode c5_change 26 = .ok (.bipush (-2), 2) := by decide +kernel
theorem d5_change_28 : decode c5_change 28 = .ok (.ireturn, 1) := by decide +kernel
theorem d5_change_29 : decode c5_change 29 = .ok (.iload_n 3, 1) := by decide +kernel
theorem d5_change_30 : decode c5_change 30 = .ok (.ifCond .ne 13, 3) := by decide +kernel
theorem d5_change_33 : decode c5_change 33 = .ok (.aload_n 0, 1) := by decide +kernel
theorem d5_change_34 : decode c5_change 34 = .ok (.getfield 45, 3) := by decide +kernel
theorem d5_change_37 : decode c5_change 37 = .ok (.iload 4, 2) := by decide +kernel
theorem d5_change_39 : decode c5_change 39 = .ok (.iaload, 1) := by decide +kernel
theorem d5_change_40 : decode c5_change 40 = .ok (.goto 25, 3) := by decide +kernel
theorem d5_change_43 : decode c5_change 43 = .ok (.iload_n 3, 1) := by decide +kernel
theorem d5_change_44 : decode c5_change 44 = .ok (.iconst 1, 1) := by decide +kernel
theorem d5_change_45 : decode c5_change 45 = .ok (.if_icmp .ne 13, 3) := by decide +kernel
theorem d5_change_48 : decode c5_change 48 = .ok (.aload_n 0, 1) := by decide +kernel
theorem d5_change_49 : decode c5_change 49 = .ok (.getfield 48, 3) := by decide +kernel
theorem d5_change_52 : decode c5_change 52 = .ok (.iload 4, 2) := by decide +kernel
theorem d5_change_54 : decode c5_change 54 = .ok (.iaload, 1) := by decide +kernel
theorem d5_change_55 : decode c5_change 55 = .ok (.goto 10, 3) := by decide +kernel
theorem d5_change_58 : decode c5_change 58 = .ok (.aload_n 0, 1) := by decide +kernel
theorem d5_change_59 : decode c5_change 59 = .ok (.getfield 51, 3) := by decide +kernel
theorem d5_change_62 : decode c5_change 62 = .ok (.iload 4, 2) := by decide +kernel
theorem d5_change_64 : decode c5_change 64 = .ok (.iaload, 1) := by decide +kernel
theorem d5_change_65 : decode c5_change 65 = .ok (.ireturn, 1) := by decide +kernel
theorem d5_value_0 : decode c5_value 0 = .ok (.aload_n 0, 1) := by decide +kernel
theorem d5_value_1 : decode c5_value 1 = .ok (.iload_n 1, 1) := by decide +kernel
theorem d5_value_2 : decode c5_value 2 = .ok (.iload_n 2, 1) := by decide +kernel
theorem d5_value_3 : decode c5_value 3 = .ok (.invokevirtual 188, 3) := by decide +kernel
theorem d5_value_6 : decode c5_value 6 = .ok (.istore 4, 2) := by decide +kernel
theorem d5_value_8 : decode c5_value 8 = .ok (.iload 4, 2) := by decide +kernel
theorem d5_value_10 : decode c5_value 10 = .ok (.iconst (-1), 1) := by decide +kernel
theorem d5_value_11 : decode c5_value 11 = .ok (.if_icmp .eq 13, 3) := by decide +kernel
theorem d5_value_14 : decode c5_value 14 = .ok (.iload_n 3, 1) := by decide +kernel
theorem d5_value_15 : decode c5_value 15 = .ok (.i2l, 1) := by decide +kernel
theorem d5_value_16 : decode c5_value 16 = .ok (.lconst 0, 1) := by decide +kernel
theorem d5_value_17 : decode c5_value 17 = .ok (.lconst 1, 1) := by decide +kernel
theorem d5_value_18 : decode c5_value 18 = .ok (.invokestatic 107, 3) := by decide +kernel
theorem d5_value_21 : decode c5_value 21 = .ok (.ifCond .ne 5, 3) := by decide +kernel
theorem d5_value_24 : decode c5_value 24 = .ok (.lconst 0, 1) := by decide +kernel
theorem d5_value_25 : decode c5_value 25 = .ok (.lreturn, 1) := by decide +kernel
theorem d5_value_26 : decode c5_value 26 = .ok (.iload_n 3, 1) := by decide +kernel
theorem d5_value_27 : decode c5_value 27 = .ok (.ifCond .ne 13, 3) := by decide +kernel
theorem d5_value_30 : decode c5_value 30 = .ok (.aload_n 0, 1) := by decide +kernel
theorem d5_value_31 : decode c5_value 31 = .ok (.getfield 54, 3) := by decide +kernel
theorem d5_value_34 : decode c5_value 34 = .ok (.iload 4, 2) := by decide +kernel
theorem d5_value_36 : decode c5_value 36 = .ok (.laload, 1) := by decide +kernel
theorem d5_value_37 : decode c5_value 37 = .ok (.goto 10, 3) := by decide +kernel
theorem d5_value_40 : decode c5_value 40 = .ok (.aload_n 0, 1) := by decide +kernel
theorem d5_value_41 : decode c5_value 41 = .ok (.getfield 57, 3) := by decide +kernel
theorem d5_value_44 : decode c5_value 44 = .ok (.iload 4, 2) := by decide +kernel
theorem d5_value_46 : decode c5_value 46 = .ok (.laload, 1) := by decide +kernel
theorem d5_value_47 : decode c5_value 47 = .ok (.lreturn, 1) := by decide +kernel
theorem d5_logged_0 : decode c5_logged 0 = .ok (.aload_n 0, 1) := by decide +kernel
theorem d5_logged_1 : decode c5_logged 1 = .ok (.getfield 91, 3) := by decide +kernel
theorem d5_logged_4 : decode c5_logged 4 = .ok (.ireturn, 1) := by decide +kernel
theorem d5_forget_0 : decode c5_forget 0 = .ok (.aload_n 0, 1) := by decide +kernel
theorem d5_forget_1 : decode c5_forget 1 = .ok (.getfield 91, 3) := by decide +kernel
theorem d5_forget_4 : decode c5_forget 4 = .ok (.istore_n 1, 1) := by decide +kernel
theorem d5_forget_5 : decode c5_forget 5 = .ok (.aload_n 0, 1) := by decide +kernel
theorem d5_forget_6 : decode c5_forget 6 = .ok (.iconst 0, 1) := by decide +kernel
theorem d5_forget_7 : decode c5_forget 7 = .ok (.putfield 91, 3) := by decide +kernel
theorem d5_forget_10 : decode c5_forget 10 = .ok (.iconst 0, 1) := by decide +kernel
theorem d5_forget_11 : decode c5_forget 11 = .ok (.istore_n 2, 1) := by decide +kernel
theorem d5_forget_12 : decode c5_forget 12 = .ok (.iload_n 2, 1) := by decide +kernel
theorem d5_forget_13 : decode c5_forget 13 = .ok (.bipush 64, 2) := by decide +kernel
theorem d5_forget_15 : decode c5_forget 15 = .ok (.aload_n 0, 1) := by decide +kernel
theorem d5_forget_16 : decode c5_forget 16 = .ok (.getfield 87, 3) := by decide +kernel
theorem d5_forget_19 : decode c5_forget 19 = .ok (.imul, 1) := by decide +kernel
theorem d5_forget_20 : decode c5_forget 20 = .ok (.if_icmp .ge 33, 3) := by decide +kernel
theorem d5_forget_23 : decode c5_forget 23 = .ok (.aload_n 0, 1) := by decide +kernel
theorem d5_forget_24 : decode c5_forget 24 = .ok (.getfield 39, 3) := by decide +kernel
theorem d5_forget_27 : decode c5_forget 27 = .ok (.iload_n 2, 1) := by decide +kernel
theorem d5_forget_28 : decode c5_forget 28 = .ok (.aload_n 0, 1) := by decide +kernel
theorem d5_forget_29 : decode c5_forget 29 = .ok (.getfield 26, 3) := by decide +kernel
theorem d5_forget_32 : decode c5_forget 32 = .ok (.iload_n 2, 1) := by decide +kernel
theorem d5_forget_33 : decode c5_forget 33 = .ok (.baload, 1) := by decide +kernel
theorem d5_forget_34 : decode c5_forget 34 = .ok (.bastore, 1) := by decide +kernel
theorem d5_forget_35 : decode c5_forget 35 = .ok (.aload_n 0, 1) := by decide +kernel
theorem d5_forget_36 : decode c5_forget 36 = .ok (.getfield 42, 3) := by decide +kernel
theorem d5_forget_39 : decode c5_forget 39 = .ok (.iload_n 2, 1) := by decide +kernel
theorem d5_forget_40 : decode c5_forget 40 = .ok (.aload_n 0, 1) := by decide +kernel
theorem d5_forget_41 : decode c5_forget 41 = .ok (.getfield 30, 3) := by decide +kernel
theorem d5_forget_44 : decode c5_forget 44 = .ok (.iload_n 2, 1) := by decide +kernel
theorem d5_forget_45 : decode c5_forget 45 = .ok (.laload, 1) := by decide +kernel
theorem d5_forget_46 : decode c5_forget 46 = .ok (.lastore, 1) := by decide +kernel
theorem d5_forget_47 : decode c5_forget 47 = .ok (.iinc 2 1, 3) := by decide +kernel
theorem d5_forget_50 : decode c5_forget 50 = .ok (.goto (-38), 3) := by decide +kernel
theorem d5_forget_53 : decode c5_forget 53 = .ok (.iload_n 1, 1) := by decide +kernel
theorem d5_forget_54 : decode c5_forget 54 = .ok (.ireturn, 1) := by decide +kernel
theorem d5_goTo_0 : decode c5_goTo 0 = .ok (.iconst 0, 1) := by decide +kernel
theorem d5_goTo_1 : decode c5_goTo 1 = .ok (.istore_n 3, 1) := by decide +kernel
theorem d5_goTo_2 : decode c5_goTo 2 = .ok (.iload_n 3, 1) := by decide +kernel
theorem d5_goTo_3 : decode c5_goTo 3 = .ok (.bipush 64, 2) := by decide +kernel
theorem d5_goTo_5 : decode c5_goTo 5 = .ok (.if_icmp .ge 43, 3) := by decide +kernel
theorem d5_goTo_8 : decode c5_goTo 8 = .ok (.aload_n 0, 1) := by decide +kernel
theorem d5_goTo_9 : decode c5_goTo 9 = .ok (.getfield 78, 3) := by decide +kernel
theorem d5_goTo_12 : decode c5_goTo 12 = .ok (.iload_n 3, 1) := by decide +kernel
theorem d5_goTo_13 : decode c5_goTo 13 = .ok (.aload_n 0, 1) := by decide +kernel
theorem d5_goTo_14 : decode c5_goTo 14 = .ok (.getfield 39, 3) := by decide +kernel
theorem d5_goTo_17 : decode c5_goTo 17 = .ok (.bipush 64, 2) := by decide +kernel
theorem d5_goTo_19 : decode c5_goTo 19 = .ok (.iload_n 1, 1) := by decide +kernel
theorem d5_goTo_20 : decode c5_goTo 20 = .ok (.imul, 1) := by decide +kernel
theorem d5_goTo_21 : decode c5_goTo 21 = .ok (.iload_n 3, 1) := by decide +kernel
theorem d5_goTo_22 : decode c5_goTo 22 = .ok (.iadd, 1) := by decide +kernel
theorem d5_goTo_23 : decode c5_goTo 23 = .ok (.baload, 1) := by decide +kernel
theorem d5_goTo_24 : decode c5_goTo 24 = .ok (.bastore, 1) := by decide +kernel
theorem d5_goTo_25 : decode c5_goTo 25 = .ok (.aload_n 0, 1) := by decide +kernel
theorem d5_goTo_26 : decode c5_goTo 26 = .ok (.getfield 81, 3) := by decide +kernel
theorem d5_goTo_29 : decode c5_goTo 29 = .ok (.iload_n 3, 1) := by decide +kernel
theorem d5_goTo_30 : decode c5_goTo 30 = .ok (.aload_n 0, 1) := by decide +kernel
theorem d5_goTo_31 : decode c5_goTo 31 = .ok (.getfield 42, 3) := by decide +kernel
theorem d5_goTo_34 : decode c5_goTo 34 = .ok (.bipush 64, 2) := by decide +kernel
theorem d5_goTo_36 : decode c5_goTo 36 = .ok (.iload_n 1, 1) := by decide +kernel
theorem d5_goTo_37 : decode c5_goTo 37 = .ok (.imul, 1) := by decide +kernel
theorem d5_goTo_38 : decode c5_goTo 38 = .ok (.iload_n 3, 1) := by decide +kernel
theorem d5_goTo_39 : decode c5_goTo 39 = .ok (.iadd, 1) := by decide +kernel
theorem d5_goTo_40 : decode c5_goTo 40 = .ok (.laload, 1) := by decide +kernel
theorem d5_goTo_41 : decode c5_goTo 41 = .ok (.lastore, 1) := by decide +kernel
theorem d5_goTo_42 : decode c5_goTo 42 = .ok (.iinc 3 1, 3) := by decide +kernel
theorem d5_goTo_45 : decode c5_goTo 45 = .ok (.goto (-43), 3) := by decide +kernel
theorem d5_goTo_48 : decode c5_goTo 48 = .ok (.iconst 0, 1) := by decide +kernel
theorem d5_goTo_49 : decode c5_goTo 49 = .ok (.istore_n 3, 1) := by decide +kernel
theorem d5_goTo_50 : decode c5_goTo 50 = .ok (.iload_n 3, 1) := by decide +kernel
theorem d5_goTo_51 : decode c5_goTo 51 = .ok (.iload_n 2, 1) := by decide +kernel
theorem d5_goTo_52 : decode c5_goTo 52 = .ok (.if_icmp .ge 62, 3) := by decide +kernel
theorem d5_goTo_55 : decode c5_goTo 55 = .ok (.aload_n 0, 1) := by decide +kernel
theorem d5_goTo_56 : decode c5_goTo 56 = .ok (.getfield 45, 3) := by decide +kernel
theorem d5_goTo_59 : decode c5_goTo 59 = .ok (.iload_n 3, 1) := by decide +kernel
theorem d5_goTo_60 : decode c5_goTo 60 = .ok (.iaload, 1) := by decide +kernel
theorem d5_goTo_61 : decode c5_goTo 61 = .ok (.iload_n 1, 1) := by decide +kernel
theorem d5_goTo_62 : decode c5_goTo 62 = .ok (.if_icmp .ne 46, 3) := by decide +kernel
theorem d5_goTo_65 : decode c5_goTo 65 = .ok (.aload_n 0, 1) := by decide +kernel
theorem d5_goTo_66 : decode c5_goTo 66 = .ok (.getfield 78, 3) := by decide +kernel
theorem d5_goTo_69 : decode c5_goTo 69 = .ok (.aload_n 0, 1) := by decide +kernel
theorem d5_goTo_70 : decode c5_goTo 70 = .ok (.getfield 51, 3) := by decide +kernel
theorem d5_goTo_73 : decode c5_goTo 73 = .ok (.iload_n 3, 1) := by decide +kernel
theorem d5_goTo_74 : decode c5_goTo 74 = .ok (.iaload, 1) := by decide +kernel
theorem d5_goTo_75 : decode c5_goTo 75 = .ok (.aload_n 0, 1) := by decide +kernel
theorem d5_goTo_76 : decode c5_goTo 76 = .ok (.getfield 48, 3) := by decide +kernel
theorem d5_goTo_79 : decode c5_goTo 79 = .ok (.iload_n 3, 1) := by decide +kernel
theorem d5_goTo_80 : decode c5_goTo 80 = .ok (.iaload, 1) := by decide +kernel
theorem d5_goTo_81 : decode c5_goTo 81 = .ok (.iconst 2, 1) := by decide +kernel
theorem d5_goTo_82 : decode c5_goTo 82 = .ok (.if_icmp .eq 7, 3) := by decide +kernel
theorem d5_goTo_85 : decode c5_goTo 85 = .ok (.iconst 1, 1) := by decide +kernel
theorem d5_goTo_86 : decode c5_goTo 86 = .ok (.goto 4, 3) := by decide +kernel
theorem d5_goTo_89 : decode c5_goTo 89 = .ok (.iconst 0, 1) := by decide +kernel
theorem d5_goTo_90 : decode c5_goTo 90 = .ok (.bastore, 1) := by decide +kernel
theorem d5_goTo_91 : decode c5_goTo 91 = .ok (.aload_n 0, 1) := by decide +kernel
theorem d5_goTo_92 : decode c5_goTo 92 = .ok (.getfield 81, 3) := by decide +kernel
theorem d5_goTo_95 : decode c5_goTo 95 = .ok (.aload_n 0, 1) := by decide +kernel
theorem d5_goTo_96 : decode c5_goTo 96 = .ok (.getfield 51, 3) := by decide +kernel
theorem d5_goTo_99 : decode c5_goTo 99 = .ok (.iload_n 3, 1) := by decide +kernel
theorem d5_goTo_100 : decode c5_goTo 100 = .ok (.iaload, 1) := by decide +kernel
theorem d5_goTo_101 : decode c5_goTo 101 = .ok (.aload_n 0, 1) := by decide +kernel
theorem d5_goTo_102 : decode c5_goTo 102 = .ok (.getfield 57, 3) := by decide +kernel
theorem d5_goTo_105 : decode c5_goTo 105 = .ok (.iload_n 3, 1) := by decide +kernel
theorem d5_goTo_106 : decode c5_goTo 106 = .ok (.laload, 1) := by decide +kernel
theorem d5_goTo_107 : decode c5_goTo 107 = .ok (.lastore, 1) := by decide +kernel
theorem d5_goTo_108 : decode c5_goTo 108 = .ok (.iinc 3 1, 3) := by decide +kernel
theorem d5_goTo_111 : decode c5_goTo 111 = .ok (.goto (-61), 3) := by decide +kernel
theorem d5_goTo_114 : decode c5_goTo 114 = .ok (.return_, 1) := by decide +kernel
theorem d5_net_0 : decode c5_net 0 = .ok (.aload_n 0, 1) := by decide +kernel
theorem d5_net_1 : decode c5_net 1 = .ok (.iload_n 1, 1) := by decide +kernel
theorem d5_net_2 : decode c5_net 2 = .ok (.invokevirtual 143, 3) := by decide +kernel
theorem d5_net_5 : decode c5_net 5 = .ok (.ifCond .eq 32, 3) := by decide +kernel
theorem d5_net_8 : decode c5_net 8 = .ok (.iload_n 2, 1) := by decide +kernel
theorem d5_net_9 : decode c5_net 9 = .ok (.i2l, 1) := by decide +kernel
theorem d5_net_10 : decode c5_net 10 = .ok (.lconst 0, 1) := by decide +kernel
theorem d5_net_11 : decode c5_net 11 = .ok (.aload_n 0, 1) := by decide +kernel
theorem d5_net_12 : decode c5_net 12 = .ok (.getfield 91, 3) := by decide +kernel
theorem d5_net_15 : decode c5_net 15 = .ok (.i2l, 1) := by decide +kernel
theorem d5_net_16 : decode c5_net 16 = .ok (.invokestatic 107, 3) := by decide +kernel
theorem d5_net_19 : decode c5_net 19 = .ok (.ifCond .eq 18, 3) := by decide +kernel
theorem d5_net_22 : decode c5_net 22 = .ok (.iload_n 3, 1) := by decide +kernel
theorem d5_net_23 : decode c5_net 23 = .ok (.i2l, 1) := by decide +kernel
theorem d5_net_24 : decode c5_net 24 = .ok (.iload_n 2, 1) := by decide +kernel
theorem d5_net_25 : decode c5_net 25 = .ok (.i2l, 1) := by decide +kernel
theorem d5_net_26 : decode c5_net 26 = .ok (.aload_n 0, 1) := by decide +kernel
theorem d5_net_27 : decode c5_net 27 = .ok (.getfield 91, 3) := by decide +kernel
theorem d5_net_30 : decode c5_net 30 = .ok (.i2l, 1) := by decide +kernel
theorem d5_net_31 : decode c5_net 31 = .ok (.invokestatic 107, 3) := by decide +kernel
theorem d5_net_34 : decode c5_net 34 = .ok (.ifCond .ne 6, 3) := by decide +kernel
theorem d5_net_37 : decode c5_net 37 = .ok (.bipush (-2), 2) := by decide +kernel
theorem d5_net_39 : decode c5_net 39 = .ok (.ireturn, 1) := by decide +kernel
theorem d5_net_40 : decode c5_net 40 = .ok (.aload_n 0, 1) := by decide +kernel
theorem d5_net_41 : decode c5_net 41 = .ok (.iload_n 1, 1) := by decide +kernel
theorem d5_net_42 : decode c5_net 42 = .ok (.iload_n 2, 1) := by decide +kernel
theorem d5_net_43 : decode c5_net 43 = .ok (.invokevirtual 192, 3) := by decide +kernel
theorem d5_net_46 : decode c5_net 46 = .ok (.iconst 0, 1) := by decide +kernel
theorem d5_net_47 : decode c5_net 47 = .ok (.istore 4, 2) := by decide +kernel
theorem d5_net_49 : decode c5_net 49 = .ok (.iload 4, 2) := by decide +kernel
theorem d5_net_51 : decode c5_net 51 = .ok (.bipush 64, 2) := by decide +kernel
theorem d5_net_53 : decode c5_net 53 = .ok (.if_icmp .ge 37, 3) := by decide +kernel
theorem d5_net_56 : decode c5_net 56 = .ok (.aload_n 0, 1) := by decide +kernel
theorem d5_net_57 : decode c5_net 57 = .ok (.getfield 33, 3) := by decide +kernel
theorem d5_net_60 : decode c5_net 60 = .ok (.iload 4, 2) := by decide +kernel
theorem d5_net_62 : decode c5_net 62 = .ok (.aload_n 0, 1) := by decide +kernel
theorem d5_net_63 : decode c5_net 63 = .ok (.getfield 78, 3) := by decide +kernel
theorem d5_net_66 : decode c5_net 66 = .ok (.iload 4, 2) := by decide +kernel
theorem d5_net_68 : decode c5_net 68 = .ok (.baload, 1) := by decide +kernel
theorem d5_net_69 : decode c5_net 69 = .ok (.bastore, 1) := by decide +kernel
theorem d5_net_70 : decode c5_net 70 = .ok (.aload_n 0, 1) := by decide +kernel
theorem d5_net_71 : decode c5_net 71 = .ok (.getfield 36, 3) := by decide +kernel
theorem d5_net_74 : decode c5_net 74 = .ok (.iload 4, 2) := by decide +kernel
theorem d5_net_76 : decode c5_net 76 = .ok (.aload_n 0, 1) := by decide +kernel
theorem d5_net_77 : decode c5_net 77 = .ok (.getfield 81, 3) := by decide +kernel
theorem d5_net_80 : decode c5_net 80 = .ok (.iload 4, 2) := by decide +kernel
theorem d5_net_82 : decode c5_net 82 = .ok (.laload, 1) := by decide +kernel
theorem d5_net_83 : decode c5_net 83 = .ok (.lastore, 1) := by decide +kernel
theorem d5_net_84 : decode c5_net 84 = .ok (.iinc 4 1, 3) := by decide +kernel
theorem d5_net_87 : decode c5_net 87 = .ok (.goto (-38), 3) := by decide +kernel
theorem d5_net_90 : decode c5_net 90 = .ok (.aload_n 0, 1) := by decide +kernel
theorem d5_net_91 : decode c5_net 91 = .ok (.iload_n 1, 1) := by decide +kernel
theorem d5_net_92 : decode c5_net 92 = .ok (.iload_n 3, 1) := by decide +kernel
theorem d5_net_93 : decode c5_net 93 = .ok (.invokevirtual 192, 3) := by decide +kernel
theorem d5_net_96 : decode c5_net 96 = .ok (.aload_n 0, 1) := by decide +kernel
theorem d5_net_97 : decode c5_net 97 = .ok (.iconst 0, 1) := by decide +kernel
theorem d5_net_98 : decode c5_net 98 = .ok (.putfield 97, 3) := by decide +kernel
theorem d5_net_101 : decode c5_net 101 = .ok (.iconst 0, 1) := by decide +kernel
theorem d5_net_102 : decode c5_net 102 = .ok (.istore 4, 2) := by decide +kernel
theorem d5_net_104 : decode c5_net 104 = .ok (.iload 4, 2) := by decide +kernel
theorem d5_net_106 : decode c5_net 106 = .ok (.bipush 64, 2) := by decide +kernel
theorem d5_net_108 : decode c5_net 108 = .ok (.if_icmp .ge 138, 3) := by decide +kernel
theorem d5_net_111 : decode c5_net 111 = .ok (.aload_n 0, 1) := by decide +kernel
theorem d5_net_112 : decode c5_net 112 = .ok (.getfield 33, 3) := by decide +kernel
theorem d5_net_115 : decode c5_net 115 = .ok (.iload 4, 2) := by decide +kernel
theorem d5_net_117 : decode c5_net 117 = .ok (.baload, 1) := by decide +kernel
theorem d5_net_118 : decode c5_net 118 = .ok (.aload_n 0, 1) := by decide +kernel
theorem d5_net_119 : decode c5_net 119 = .ok (.getfield 78, 3) := by decide +kernel
theorem d5_net_122 : decode c5_net 122 = .ok (.iload 4, 2) := by decide +kernel
theorem d5_net_124 : decode c5_net 124 = .ok (.baload, 1) := by decide +kernel
theorem d5_net_125 : decode c5_net 125 = .ok (.if_icmp .ne 31, 3) := by decide +kernel
theorem d5_net_128 : decode c5_net 128 = .ok (.aload_n 0, 1) := by decide +kernel
theorem d5_net_129 : decode c5_net 129 = .ok (.getfield 33, 3) := by decide +kernel
theorem d5_net_132 : decode c5_net 132 = .ok (.iload 4, 2) := by decide +kernel
theorem d5_net_134 : decode c5_net 134 = .ok (.baload, 1) := by decide +kernel
theorem d5_net_135 : decode c5_net 135 = .ok (.ifCond .eq 105, 3) := by decide +kernel
theorem d5_net_138 : decode c5_net 138 = .ok (.aload_n 0, 1) := by decide +kernel
theorem d5_net_139 : decode c5_net 139 = .ok (.getfield 36, 3) := by decide +kernel
theorem d5_net_142 : decode c5_net 142 = .ok (.iload 4, 2) := by decide +kernel
theorem d5_net_144 : decode c5_net 144 = .ok (.laload, 1) := by decide +kernel
theorem d5_net_145 : decode c5_net 145 = .ok (.aload_n 0, 1) := by decide +kernel
theorem d5_net_146 : decode c5_net 146 = .ok (.getfield 81, 3) := by decide +kernel
theorem d5_net_149 : decode c5_net 149 = .ok (.iload 4, 2) := by decide +kernel
theorem d5_net_151 : decode c5_net 151 = .ok (.laload, 1) := by decide +kernel
theorem d5_net_152 : decode c5_net 152 = .ok (.lcmp, 1) := by decide +kernel
theorem d5_net_153 : decode c5_net 153 = .ok (.ifCond .eq 87, 3) := by decide +kernel
theorem d5_net_156 : decode c5_net 156 = .ok (.aload_n 0, 1) := by decide +kernel
theorem d5_net_157 : decode c5_net 157 = .ok (.sipush 2300, 3) := by decide +kernel
theorem d5_net_160 : decode c5_net 160 = .ok (.aload_n 0, 1) := by decide +kernel
theorem d5_net_161 : decode c5_net 161 = .ok (.getfield 97, 3) := by decide +kernel
theorem d5_net_164 : decode c5_net 164 = .ok (.iadd, 1) := by decide +kernel
theorem d5_net_165 : decode c5_net 165 = .ok (.iload_n 1, 1) := by decide +kernel
theorem d5_net_166 : decode c5_net 166 = .ok (.aload_n 0, 1) := by decide +kernel
theorem d5_net_167 : decode c5_net 167 = .ok (.getfield 33, 3) := by decide +kernel
theorem d5_net_170 : decode c5_net 170 = .ok (.iload 4, 2) := by decide +kernel
theorem d5_net_172 : decode c5_net 172 = .ok (.baload, 1) := by decide +kernel
theorem d5_net_173 : decode c5_net 173 = .ok (.aload_n 0, 1) := by decide +kernel
theorem d5_net_174 : decode c5_net 174 = .ok (.getfield 78, 3) := by decide +kernel
theorem d5_net_177 : decode c5_net 177 = .ok (.iload 4, 2) := by decide +kernel
theorem d5_net_179 : decode c5_net 179 = .ok (.baload, 1) := by decide +kernel
theorem d5_net_180 : decode c5_net 180 = .ok (.invokestatic 162, 3) := by decide +kernel
theorem d5_net_183 : decode c5_net 183 = .ok (.iload 4, 2) := by decide +kernel
theorem d5_net_185 : decode c5_net 185 = .ok (.aload_n 0, 1) := by decide +kernel
theorem d5_net_186 : decode c5_net 186 = .ok (.getfield 33, 3) := by decide +kernel
theorem d5_net_189 : decode c5_net 189 = .ok (.iload 4, 2) := by decide +kernel
theorem d5_net_191 : decode c5_net 191 = .ok (.baload, 1) := by decide +kernel
theorem d5_net_192 : decode c5_net 192 = .ok (.ifCond .eq 13, 3) := by decide +kernel
theorem d5_net_195 : decode c5_net 195 = .ok (.aload_n 0, 1) := by decide +kernel
theorem d5_net_196 : decode c5_net 196 = .ok (.getfield 36, 3) := by decide +kernel
theorem d5_net_199 : decode c5_net 199 = .ok (.iload 4, 2) := by decide +kernel
theorem d5_net_201 : decode c5_net 201 = .ok (.laload, 1) := by decide +kernel
theorem d5_net_202 : decode c5_net 202 = .ok (.goto 4, 3) := by decide +kernel
theorem d5_net_205 : decode c5_net 205 = .ok (.lconst 0, 1) := by decide +kernel
theorem d5_net_206 : decode c5_net 206 = .ok (.aload_n 0, 1) := by decide +kernel
theorem d5_net_207 : decode c5_net 207 = .ok (.getfield 78, 3) := by decide +kernel
theorem d5_net_210 : decode c5_net 210 = .ok (.iload 4, 2) := by decide +kernel
theorem d5_net_212 : decode c5_net 212 = .ok (.baload, 1) := by decide +kernel
theorem d5_net_213 : decode c5_net 213 = .ok (.ifCond .eq 13, 3) := by decide +kernel
theorem d5_net_216 : decode c5_net 216 = .ok (.aload_n 0, 1) := by decide +kernel
theorem d5_net_217 : decode c5_net 217 = .ok (.getfield 81, 3) := by decide +kernel
theorem d5_net_220 : decode c5_net 220 = .ok (.iload 4, 2) := by decide +kernel
theorem d5_net_222 : decode c5_net 222 = .ok (.laload, 1) := by decide +kernel
theorem d5_net_223 : decode c5_net 223 = .ok (.goto 4, 3) := by decide +kernel
theorem d5_net_226 : decode c5_net 226 = .ok (.lconst 0, 1) := by decide +kernel
theorem d5_net_227 : decode c5_net 227 = .ok (.invokevirtual 166, 3) := by decide +kernel
theorem d5_net_230 : decode c5_net 230 = .ok (.aload_n 0, 1) := by decide +kernel
theorem d5_net_231 : decode c5_net 231 = .ok (.dup, 1) := by decide +kernel
theorem d5_net_232 : decode c5_net 232 = .ok (.getfield 97, 3) := by decide +kernel
theorem d5_net_235 : decode c5_net 235 = .ok (.iconst 1, 1) := by decide +kernel
theorem d5_net_236 : decode c5_net 236 = .ok (.iadd, 1) := by decide +kernel
theorem d5_net_237 : decode c5_net 237 = .ok (.putfield 97, 3) := by decide +kernel
theorem d5_net_240 : decode c5_net 240 = .ok (.iinc 4 1, 3) := by decide +kernel
theorem d5_net_243 : decode c5_net 243 = .ok (.goto (-139), 3) := by decide +kernel
theorem d5_net_246 : decode c5_net 246 = .ok (.aload_n 0, 1) := by decide +kernel
theorem d5_net_247 : decode c5_net 247 = .ok (.getfield 97, 3) := by decide +kernel
theorem d5_net_250 : decode c5_net 250 = .ok (.ireturn, 1) := by decide +kernel
theorem d5_copy_0 : decode c5_copy 0 = .ok (.aload_n 0, 1) := by decide +kernel
theorem d5_copy_1 : decode c5_copy 1 = .ok (.iload_n 1, 1) := by decide +kernel
theorem d5_copy_2 : decode c5_copy 2 = .ok (.invokevirtual 143, 3) := by decide +kernel
theorem d5_copy_5 : decode c5_copy 5 = .ok (.ifCond .eq 17, 3) := by decide +kernel
theorem d5_copy_8 : decode c5_copy 8 = .ok (.iload_n 2, 1) := by decide +kernel
theorem d5_copy_9 : decode c5_copy 9 = .ok (.i2l, 1) := by decide +kernel
theorem d5_copy_10 : decode c5_copy 10 = .ok (.lconst 0, 1) := by decide +kernel
theorem d5_copy_11 : decode c5_copy 11 = .ok (.aload_n 0, 1) := by decide +kernel
theorem d5_copy_12 : decode c5_copy 12 = .ok (.getfield 91, 3) := by decide +kernel
theorem d5_copy_15 : decode c5_copy 15 = .ok (.i2l, 1) := by decide +kernel
theorem d5_copy_16 : decode c5_copy 16 = .ok (.invokestatic 107, 3) := by decide +kernel
theorem d5_copy_19 : decode c5_copy 19 = .ok (.ifCond .ne 6, 3) := by decide +kernel
theorem d5_copy_22 : decode c5_copy 22 = .ok (.bipush (-2), 2) := by decide +kernel
theorem d5_copy_24 : decode c5_copy 24 = .ok (.ireturn, 1) := by decide +kernel
theorem d5_copy_25 : decode c5_copy 25 = .ok (.aload_n 0, 1) := by decide +kernel
theorem d5_copy_26 : decode c5_copy 26 = .ok (.iload_n 1, 1) := by decide +kernel
theorem d5_copy_27 : decode c5_copy 27 = .ok (.iload_n 2, 1) := by decide +kernel
theorem d5_copy_28 : decode c5_copy 28 = .ok (.invokevirtual 192, 3) := by decide +kernel
theorem d5_copy_31 : decode c5_copy 31 = .ok (.iconst 0, 1) := by decide +kernel
theorem d5_copy_32 : decode c5_copy 32 = .ok (.istore_n 3, 1) := by decide +kernel
theorem d5_copy_33 : decode c5_copy 33 = .ok (.iconst 0, 1) := by decide +kernel
theorem d5_copy_34 : decode c5_copy 34 = .ok (.istore 4, 2) := by decide +kernel
theorem d5_copy_36 : decode c5_copy 36 = .ok (.iload 4, 2) := by decide +kernel
theorem d5_copy_38 : decode c5_copy 38 = .ok (.bipush 64, 2) := by decide +kernel
theorem d5_copy_40 : decode c5_copy 40 = .ok (.if_icmp .ge 55, 3) := by decide +kernel
theorem d5_copy_43 : decode c5_copy 43 = .ok (.aload_n 0, 1) := by decide +kernel
theorem d5_copy_44 : decode c5_copy 44 = .ok (.getfield 72, 3) := by decide +kernel
theorem d5_copy_47 : decode c5_copy 47 = .ok (.iload 4, 2) := by decide +kernel
theorem d5_copy_49 : decode c5_copy 49 = .ok (.aload_n 0, 1) := by decide +kernel
theorem d5_copy_50 : decode c5_copy 50 = .ok (.getfield 78, 3) := by decide +kernel
theorem d5_copy_53 : decode c5_copy 53 = .ok (.iload 4, 2) := by decide +kernel
theorem d5_copy_55 : decode c5_copy 55 = .ok (.baload, 1) := by decide +kernel
theorem d5_copy_56 : decode c5_copy 56 = .ok (.bastore, 1) := by decide +kernel
theorem d5_copy_57 : decode c5_copy 57 = .ok (.aload_n 0, 1) := by decide +kernel
theorem d5_copy_58 : decode c5_copy 58 = .ok (.getfield 75, 3) := by decide +kernel
theorem d5_copy_61 : decode c5_copy 61 = .ok (.iload 4, 2) := by decide +kernel
theorem d5_copy_63 : decode c5_copy 63 = .ok (.aload_n 0, 1) := by decide +kernel
theorem d5_copy_64 : decode c5_copy 64 = .ok (.getfield 81, 3) := by decide +kernel
theorem d5_copy_67 : decode c5_copy 67 = .ok (.iload 4, 2) := by decide +kernel
theorem d5_copy_69 : decode c5_copy 69 = .ok (.laload, 1) := by decide +kernel
theorem d5_copy_70 : decode c5_copy 70 = .ok (.lastore, 1) := by decide +kernel
theorem d5_copy_71 : decode c5_copy 71 = .ok (.iload_n 3, 1) := by decide +kernel
theorem d5_copy_72 : decode c5_copy 72 = .ok (.aload_n 0, 1) := by decide +kernel
theorem d5_copy_73 : decode c5_copy 73 = .ok (.getfield 72, 3) := by decide +kernel
theorem d5_copy_76 : decode c5_copy 76 = .ok (.iload 4, 2) := by decide +kernel
theorem d5_copy_78 : decode c5_copy 78 = .ok (.baload, 1) := by decide +kernel
theorem d5_copy_79 : decode c5_copy 79 = .ok (.ifCond .eq 7, 3) := by decide +kernel
theorem d5_copy_82 : decode c5_copy 82 = .ok (.iconst 1, 1) := by decide +kernel
theorem d5_copy_83 : decode c5_copy 83 = .ok (.goto 4, 3) := by decide +kernel
theorem d5_copy_86 : decode c5_copy 86 = .ok (.iconst 0, 1) := by decide +kernel
theorem d5_copy_87 : decode c5_copy 87 = .ok (.iadd, 1) := by decide +kernel
theorem d5_copy_88 : decode c5_copy 88 = .ok (.istore_n 3, 1) := by decide +kernel
theorem d5_copy_89 : decode c5_copy 89 = .ok (.iinc 4 1, 3) := by decide +kernel
theorem d5_copy_92 : decode c5_copy 92 = .ok (.goto (-56), 3) := by decide +kernel
theorem d5_copy_95 : decode c5_copy 95 = .ok (.iload_n 3, 1) := by decide +kernel
theorem d5_copy_96 : decode c5_copy 96 = .ok (.ireturn, 1) := by decide +kernel
theorem d5_take_0 : decode c5_take 0 = .ok (.iload_n 1, 1) := by decide +kernel
theorem d5_take_1 : decode c5_take 1 = .ok (.i2l, 1) := by decide +kernel
theorem d5_take_2 : decode c5_take 2 = .ok (.lconst 0, 1) := by decide +kernel
theorem d5_take_3 : decode c5_take 3 = .ok (.ldc2_w 111, 3) := by decide +kernel
theorem d5_take_6 : decode c5_take 6 = .ok (.invokestatic 107, 3) := by decide +kernel
theorem d5_take_9 : decode c5_take 9 = .ok (.ifCond .eq 15, 3) := by decide +kernel
theorem d5_take_12 : decode c5_take 12 = .ok (.iload_n 2, 1) := by decide +kernel
theorem d5_take_13 : decode c5_take 13 = .ok (.i2l, 1) := by decide +kernel
theorem d5_take_14 : decode c5_take 14 = .ok (.lconst 0, 1) := by decide +kernel
theorem d5_take_15 : decode c5_take 15 = .ok (.ldc2_w 134, 3) := by decide +kernel
theorem d5_take_18 : decode c5_take 18 = .ok (.invokestatic 107, 3) := by decide +kernel
theorem d5_take_21 : decode c5_take 21 = .ok (.ifCond .ne 6, 3) := by decide +kernel
theorem d5_take_24 : decode c5_take 24 = .ok (.bipush (-2), 2) := by decide +kernel
theorem d5_take_26 : decode c5_take 26 = .ok (.ireturn, 1) := by decide +kernel
theorem d5_take_27 : decode c5_take 27 = .ok (.iload_n 1, 1) := by decide +kernel
theorem d5_take_28 : decode c5_take 28 = .ok (.ifCond .ne 14, 3) := by decide +kernel
theorem d5_take_31 : decode c5_take 31 = .ok (.aload_n 0, 1) := by decide +kernel
theorem d5_take_32 : decode c5_take 32 = .ok (.getfield 72, 3) := by decide +kernel
theorem d5_take_35 : decode c5_take 35 = .ok (.iload_n 2, 1) := by decide +kernel
theorem d5_take_36 : decode c5_take 36 = .ok (.baload, 1) := by decide +kernel
theorem d5_take_37 : decode c5_take 37 = .ok (.ifCond .eq 5, 3) := by decide +kernel
theorem d5_take_40 : decode c5_take 40 = .ok (.iconst 1, 1) := by decide +kernel
theorem d5_take_41 : decode c5_take 41 = .ok (.ireturn, 1) := by decide +kernel
theorem d5_take_42 : decode c5_take 42 = .ok (.iload_n 1, 1) := by decide +kernel
theorem d5_take_43 : decode c5_take 43 = .ok (.ifCond .eq 14, 3) := by decide +kernel
theorem d5_take_46 : decode c5_take 46 = .ok (.aload_n 0, 1) := by decide +kernel
theorem d5_take_47 : decode c5_take 47 = .ok (.getfield 72, 3) := by decide +kernel
theorem d5_take_50 : decode c5_take 50 = .ok (.iload_n 2, 1) := by decide +kernel
theorem d5_take_51 : decode c5_take 51 = .ok (.baload, 1) := by decide +kernel
theorem d5_take_52 : decode c5_take 52 = .ok (.ifCond .ne 5, 3) := by decide +kernel
theorem d5_take_55 : decode c5_take 55 = .ok (.iconst 2, 1) := by decide +kernel
theorem d5_take_56 : decode c5_take 56 = .ok (.ireturn, 1) := by decide +kernel
theorem d5_take_57 : decode c5_take 57 = .ok (.iload_n 1, 1) := by decide +kernel
theorem d5_take_58 : decode c5_take 58 = .ok (.ifCond .eq 16, 3) := by decide +kernel
theorem d5_take_61 : decode c5_take 61 = .ok (.aload_n 0, 1) := by decide +kernel
theorem d5_take_62 : decode c5_take 62 = .ok (.getfield 75, 3) := by decide +kernel
theorem d5_take_65 : decode c5_take 65 = .ok (.iload_n 2, 1) := by decide +kernel
theorem d5_take_66 : decode c5_take 66 = .ok (.laload, 1) := by decide +kernel
theorem d5_take_67 : decode c5_take 67 = .ok (.lload_n 3, 1) := by decide +kernel
theorem d5_take_68 : decode c5_take 68 = .ok (.lcmp, 1) := by decide +kernel
theorem d5_take_69 : decode c5_take 69 = .ok (.ifCond .eq 5, 3) := by decide +kernel
theorem d5_take_72 : decode c5_take 72 = .ok (.iconst 3, 1) := by decide +kernel
theorem d5_take_73 : decode c5_take 73 = .ok (.ireturn, 1) := by decide +kernel
theorem d5_take_74 : decode c5_take 74 = .ok (.aload_n 0, 1) := by decide +kernel
theorem d5_take_75 : decode c5_take 75 = .ok (.getfield 72, 3) := by decide +kernel
theorem d5_take_78 : decode c5_take 78 = .ok (.iload_n 2, 1) := by decide +kernel
theorem d5_take_79 : decode c5_take 79 = .ok (.iload_n 1, 1) := by decide +kernel
theorem d5_take_80 : decode c5_take 80 = .ok (.iconst 2, 1) := by decide +kernel
theorem d5_take_81 : decode c5_take 81 = .ok (.if_icmp .eq 7, 3) := by decide +kernel
theorem d5_take_84 : decode c5_take 84 = .ok (.iconst 1, 1) := by decide +kernel
theorem d5_take_85 : decode c5_take 85 = .ok (.goto 4, 3) := by decide +kernel
theorem d5_take_88 : decode c5_take 88 = .ok (.iconst 0, 1) := by decide +kernel
theorem d5_take_89 : decode c5_take 89 = .ok (.bastore, 1) := by decide +kernel
theorem d5_take_90 : decode c5_take 90 = .ok (.aload_n 0, 1) := by decide +kernel
theorem d5_take_91 : decode c5_take 91 = .ok (.getfield 75, 3) := by decide +kernel
theorem d5_take_94 : decode c5_take 94 = .ok (.iload_n 2, 1) := by decide +kernel
theorem d5_take_95 : decode c5_take 95 = .ok (.lload 5, 2) := by decide +kernel
theorem d5_take_97 : decode c5_take 97 = .ok (.lastore, 1) := by decide +kernel
theorem d5_take_98 : decode c5_take 98 = .ok (.iconst 0, 1) := by decide +kernel
theorem d5_take_99 : decode c5_take 99 = .ok (.ireturn, 1) := by decide +kernel
theorem d5_same_0 : decode c5_same 0 = .ok (.aload_n 0, 1) := by decide +kernel
theorem d5_same_1 : decode c5_same 1 = .ok (.iload_n 1, 1) := by decide +kernel
theorem d5_same_2 : decode c5_same 2 = .ok (.invokevirtual 143, 3) := by decide +kernel
theorem d5_same_5 : decode c5_same 5 = .ok (.ifCond .ne 6, 3) := by decide +kernel
theorem d5_same_8 : decode c5_same 8 = .ok (.bipush (-2), 2) := by decide +kernel
theorem d5_same_10 : decode c5_same 10 = .ok (.ireturn, 1) := by decide +kernel
theorem d5_same_11 : decode c5_same 11 = .ok (.iconst 0, 1) := by decide +kernel
theorem d5_same_12 : decode c5_same 12 = .ok (.istore_n 2, 1) := by decide +kernel
theorem d5_same_13 : decode c5_same 13 = .ok (.iload_n 2, 1) := by decide +kernel
theorem d5_same_14 : decode c5_same 14 = .ok (.bipush 64, 2) := by decide +kernel
theorem d5_same_16 : decode c5_same 16 = .ok (.if_icmp .ge 58, 3) := by decide +kernel
theorem d5_same_19 : decode c5_same 19 = .ok (.bipush 64, 2) := by decide +kernel
theorem d5_same_21 : decode c5_same 21 = .ok (.iload_n 1, 1) := by decide +kernel
theorem d5_same_22 : decode c5_same 22 = .ok (.imul, 1) := by decide +kernel
theorem d5_same_23 : decode c5_same 23 = .ok (.iload_n 2, 1) := by decide +kernel
theorem d5_same_24 : decode c5_same 24 = .ok (.iadd, 1) := by decide +kernel
theorem d5_same_25 : decode c5_same 25 = .ok (.istore_n 3, 1) := by decide +kernel
theorem d5_same_26 : decode c5_same 26 = .ok (.aload_n 0, 1) := by decide +kernel
theorem d5_same_27 : decode c5_same 27 = .ok (.getfield 72, 3) := by decide +kernel
theorem d5_same_30 : decode c5_same 30 = .ok (.iload_n 2, 1) := by decide +kernel
theorem d5_same_31 : decode c5_same 31 = .ok (.baload, 1) := by decide +kernel
theorem d5_same_32 : decode c5_same 32 = .ok (.aload_n 0, 1) := by decide +kernel
theorem d5_same_33 : decode c5_same 33 = .ok (.getfield 26, 3) := by decide +kernel
theorem d5_same_36 : decode c5_same 36 = .ok (.iload_n 3, 1) := by decide +kernel
theorem d5_same_37 : decode c5_same 37 = .ok (.baload, 1) := by decide +kernel
theorem d5_same_38 : decode c5_same 38 = .ok (.if_icmp .ne 28, 3) := by decide +kernel
theorem d5_same_41 : decode c5_same 41 = .ok (.aload_n 0, 1) := by decide +kernel
theorem d5_same_42 : decode c5_same 42 = .ok (.getfield 26, 3) := by decide +kernel
theorem d5_same_45 : decode c5_same 45 = .ok (.iload_n 3, 1) := by decide +kernel
theorem d5_same_46 : decode c5_same 46 = .ok (.baload, 1) := by decide +kernel
theorem d5_same_47 : decode c5_same 47 = .ok (.ifCond .eq 21, 3) := by decide +kernel
theorem d5_same_50 : decode c5_same 50 = .ok (.aload_n 0, 1) := by decide +kernel
theorem d5_same_51 : decode c5_same 51 = .ok (.getfield 75, 3) := by decide +kernel
theorem d5_same_54 : decode c5_same 54 = .ok (.iload_n 2, 1) := by decide +kernel
theorem d5_same_55 : decode c5_same 55 = .ok (.laload, 1) := by decide +kernel
theorem d5_same_56 : decode c5_same 56 = .ok (.aload_n 0, 1) := by decide +kernel
theorem d5_same_57 : decode c5_same 57 = .ok (.getfield 30, 3) := by decide +kernel
theorem d5_same_60 : decode c5_same 60 = .ok (.iload_n 3, 1) := by decide +kernel
theorem d5_same_61 : decode c5_same 61 = .ok (.laload, 1) := by decide +kernel
theorem d5_same_62 : decode c5_same 62 = .ok (.lcmp, 1) := by decide +kernel
theorem d5_same_63 : decode c5_same 63 = .ok (.ifCond .eq 5, 3) := by decide +kernel
theorem d5_same_66 : decode c5_same 66 = .ok (.iconst 0, 1) := by decide +kernel
theorem d5_same_67 : decode c5_same 67 = .ok (.ireturn, 1) := by decide +kernel
theorem d5_same_68 : decode c5_same 68 = .ok (.iinc 2 1, 3) := by decide +kernel
theorem d5_same_71 : decode c5_same 71 = .ok (.goto (-58), 3) := by decide +kernel
theorem d5_same_74 : decode c5_same 74 = .ok (.iconst 1, 1) := by decide +kernel
theorem d5_same_75 : decode c5_same 75 = .ok (.ireturn, 1) := by decide +kernel
theorem d5_has_0 : decode c5_has 0 = .ok (.iload_n 1, 1) := by decide +kernel
theorem d5_has_1 : decode c5_has 1 = .ok (.iconst (-1), 1) := by decide +kernel
theorem d5_has_2 : decode c5_has 2 = .ok (.if_icmp .eq 11, 3) := by decide +kernel
theorem d5_has_5 : decode c5_has 5 = .ok (.aload_n 0, 1) := by decide +kernel
theorem d5_has_6 : decode c5_has 6 = .ok (.iload_n 1, 1) := by decide +kernel
theorem d5_has_7 : decode c5_has 7 = .ok (.invokevirtual 143, 3) := by decide +kernel
theorem d5_has_10 : decode c5_has 10 = .ok (.ifCond .eq 15, 3) := by decide +kernel
theorem d5_has_13 : decode c5_has 13 = .ok (.iload_n 2, 1) := by decide +kernel
theorem d5_has_14 : decode c5_has 14 = .ok (.i2l, 1) := by decide +kernel
theorem d5_has_15 : decode c5_has 15 = .ok (.lconst 0, 1) := by decide +kernel
theorem d5_has_16 : decode c5_has 16 = .ok (.ldc2_w 134, 3) := by decide +kernel
theorem d5_has_19 : decode c5_has 19 = .ok (.invokestatic 107, 3) := by decide +kernel
theorem d5_has_22 : decode c5_has 22 = .ok (.ifCond .ne 6, 3) := by decide +kernel
theorem d5_has_25 : decode c5_has 25 = .ok (.bipush (-2), 2) := by decide +kernel
theorem d5_has_27 : decode c5_has 27 = .ok (.ireturn, 1) := by decide +kernel
theorem d5_has_28 : decode c5_has 28 = .ok (.iload_n 1, 1) := by decide +kernel
theorem d5_has_29 : decode c5_has 29 = .ok (.iconst (-1), 1) := by decide +kernel
theorem d5_has_30 : decode c5_has 30 = .ok (.if_icmp .ne 15, 3) := by decide +kernel
theorem d5_has_33 : decode c5_has 33 = .ok (.aload_n 0, 1) := by decide +kernel
theorem d5_has_34 : decode c5_has 34 = .ok (.getfield 72, 3) := by decide +kernel
theorem d5_has_37 : decode c5_has 37 = .ok (.iload_n 2, 1) := by decide +kernel
theorem d5_has_38 : decode c5_has 38 = .ok (.baload, 1) := by decide +kernel
theorem d5_has_39 : decode c5_has 39 = .ok (.ifCond .eq 24, 3) := by decide +kernel
theorem d5_has_42 : decode c5_has 42 = .ok (.goto 17, 3) := by decide +kernel
theorem d5_has_45 : decode c5_has 45 = .ok (.aload_n 0, 1) := by decide +kernel
theorem d5_has_46 : decode c5_has 46 = .ok (.getfield 26, 3) := by decide +kernel
theorem d5_has_49 : decode c5_has 49 = .ok (.bipush 64, 2) := by decide +kernel
theorem d5_has_51 : decode c5_has 51 = .ok (.iload_n 1, 1) := by decide +kernel
theorem d5_has_52 : decode c5_has 52 = .ok (.imul, 1) := by decide +kernel
theorem d5_has_53 : decode c5_has 53 = .ok (.iload_n 2, 1) := by decide +kernel
theorem d5_has_54 : decode c5_has 54 = .ok (.iadd, 1) := by decide +kernel
theorem d5_has_55 : decode c5_has 55 = .ok (.baload, 1) := by decide +kernel
theorem d5_has_56 : decode c5_has 56 = .ok (.ifCond .eq 7, 3) := by decide +kernel
theorem d5_has_59 : decode c5_has 59 = .ok (.iconst 1, 1) := by decide +kernel
theorem d5_has_60 : decode c5_has 60 = .ok (.goto 4, 3) := by decide +kernel
theorem d5_has_63 : decode c5_has 63 = .ok (.iconst 0, 1) := by decide +kernel
theorem d5_has_64 : decode c5_has 64 = .ok (.ireturn, 1) := by decide +kernel
theorem d5_at_0 : decode c5_at 0 = .ok (.aload_n 0, 1) := by decide +kernel
theorem d5_at_1 : decode c5_at 1 = .ok (.iload_n 1, 1) := by decide +kernel
theorem d5_at_2 : decode c5_at 2 = .ok (.iload_n 2, 1) := by decide +kernel
theorem d5_at_3 : decode c5_at 3 = .ok (.invokevirtual 196, 3) := by decide +kernel
theorem d5_at_6 : decode c5_at 6 = .ok (.iconst 1, 1) := by decide +kernel
theorem d5_at_7 : decode c5_at 7 = .ok (.if_icmp .eq 5, 3) := by decide +kernel
theorem d5_at_10 : decode c5_at 10 = .ok (.lconst 0, 1) := by decide +kernel
theorem d5_at_11 : decode c5_at 11 = .ok (.lreturn, 1) := by decide +kernel
theorem d5_at_12 : decode c5_at 12 = .ok (.iload_n 1, 1) := by decide +kernel
theorem d5_at_13 : decode c5_at 13 = .ok (.iconst (-1), 1) := by decide +kernel
theorem d5_at_14 : decode c5_at 14 = .ok (.if_icmp .ne 12, 3) := by decide +kernel
theorem d5_at_17 : decode c5_at 17 = .ok (.aload_n 0, 1) := by decide +kernel
theorem d5_at_18 : decode c5_at 18 = .ok (.getfield 75, 3) := by decide +kernel
theorem d5_at_21 : decode c5_at 21 = .ok (.iload_n 2, 1) := by decide +kernel
theorem d5_at_22 : decode c5_at 22 = .ok (.laload, 1) := by decide +kernel
theorem d5_at_23 : decode c5_at 23 = .ok (.goto 14, 3) := by decide +kernel
theorem d5_at_26 : decode c5_at 26 = .ok (.aload_n 0, 1) := by decide +kernel
theorem d5_at_27 : decode c5_at 27 = .ok (.getfield 30, 3) := by decide +kernel
theorem d5_at_30 : decode c5_at 30 = .ok (.bipush 64, 2) := by decide +kernel
theorem d5_at_32 : decode c5_at 32 = .ok (.iload_n 1, 1) := by decide +kernel
theorem d5_at_33 : decode c5_at 33 = .ok (.imul, 1) := by decide +kernel
theorem d5_at_34 : decode c5_at 34 = .ok (.iload_n 2, 1) := by decide +kernel
theorem d5_at_35 : decode c5_at 35 = .ok (.iadd, 1) := by decide +kernel
theorem d5_at_36 : decode c5_at 36 = .ok (.laload, 1) := by decide +kernel
theorem d5_at_37 : decode c5_at 37 = .ok (.lreturn, 1) := by decide +kernel
theorem d5_of_0 : decode c5_of 0 = .ok (.aload_n 0, 1) := by decide +kernel
theorem d5_of_1 : decode c5_of 1 = .ok (.iload_n 1, 1) := by decide +kernel
theorem d5_of_2 : decode c5_of 2 = .ok (.invokevirtual 143, 3) := by decide +kernel
theorem d5_of_5 : decode c5_of 5 = .ok (.ifCond .eq 15, 3) := by decide +kernel
theorem d5_of_8 : decode c5_of 8 = .ok (.iload_n 2, 1) := by decide +kernel
theorem d5_of_9 : decode c5_of 9 = .ok (.i2l, 1) := by decide +kernel
theorem d5_of_10 : decode c5_of 10 = .ok (.lconst 0, 1) := by decide +kernel
theorem d5_of_11 : decode c5_of 11 = .ok (.ldc2_w 113, 3) := by decide +kernel
theorem d5_of_14 : decode c5_of 14 = .ok (.invokestatic 107, 3) := by decide +kernel
theorem d5_of_17 : decode c5_of 17 = .ok (.ifCond .ne 6, 3) := by decide +kernel
theorem d5_of_20 : decode c5_of 20 = .ok (.bipush (-2), 2) := by decide +kernel
theorem d5_of_22 : decode c5_of 22 = .ok (.ireturn, 1) := by decide +kernel
theorem d5_of_23 : decode c5_of 23 = .ok (.iload_n 2, 1) := by decide +kernel
theorem d5_of_24 : decode c5_of 24 = .ok (.ifCond .ne 10, 3) := by decide +kernel
theorem d5_of_27 : decode c5_of 27 = .ok (.aload_n 0, 1) := by decide +kernel
theorem d5_of_28 : decode c5_of 28 = .ok (.getfield 7, 3) := by decide +kernel
theorem d5_of_31 : decode c5_of 31 = .ok (.iload_n 1, 1) := by decide +kernel
theorem d5_of_32 : decode c5_of 32 = .ok (.iaload, 1) := by decide +kernel
theorem d5_of_33 : decode c5_of 33 = .ok (.ireturn, 1) := by decide +kernel
theorem d5_of_34 : decode c5_of 34 = .ok (.iload_n 2, 1) := by decide +kernel
theorem d5_of_35 : decode c5_of 35 = .ok (.iconst 1, 1) := by decide +kernel
theorem d5_of_36 : decode c5_of 36 = .ok (.if_icmp .ne 23, 3) := by decide +kernel
theorem d5_of_39 : decode c5_of 39 = .ok (.aload_n 0, 1) := by decide +kernel
theorem d5_of_40 : decode c5_of 40 = .ok (.getfield 7, 3) := by decide +kernel
theorem d5_of_43 : decode c5_of 43 = .ok (.iload_n 1, 1) := by decide +kernel
theorem d5_of_44 : decode c5_of 44 = .ok (.iaload, 1) := by decide +kernel
theorem d5_of_45 : decode c5_of 45 = .ok (.ifCond .ne 7, 3) := by decide +kernel
theorem d5_of_48 : decode c5_of 48 = .ok (.iconst (-1), 1) := by decide +kernel
theorem d5_of_49 : decode c5_of 49 = .ok (.goto 9, 3) := by decide +kernel
theorem d5_of_52 : decode c5_of 52 = .ok (.aload_n 0, 1) := by decide +kernel
theorem d5_of_53 : decode c5_of 53 = .ok (.getfield 13, 3) := by decide +kernel
theorem d5_of_56 : decode c5_of 56 = .ok (.iload_n 1, 1) := by decide +kernel
theorem d5_of_57 : decode c5_of 57 = .ok (.iaload, 1) := by decide +kernel
theorem d5_of_58 : decode c5_of 58 = .ok (.ireturn, 1) := by decide +kernel
theorem d5_of_59 : decode c5_of 59 = .ok (.iload_n 2, 1) := by decide +kernel
theorem d5_of_60 : decode c5_of 60 = .ok (.iconst 2, 1) := by decide +kernel
theorem d5_of_61 : decode c5_of 61 = .ok (.if_icmp .ne 45, 3) := by decide +kernel
theorem d5_of_64 : decode c5_of 64 = .ok (.aload_n 0, 1) := by decide +kernel
theorem d5_of_65 : decode c5_of 65 = .ok (.getfield 7, 3) := by decide +kernel
theorem d5_of_68 : decode c5_of 68 = .ok (.iload_n 1, 1) := by decide +kernel
theorem d5_of_69 : decode c5_of 69 = .ok (.iaload, 1) := by decide +kernel
theorem d5_of_70 : decode c5_of 70 = .ok (.iconst 4, 1) := by decide +kernel
theorem d5_of_71 : decode c5_of 71 = .ok (.if_icmp .eq 24, 3) := by decide +kernel
theorem d5_of_74 : decode c5_of 74 = .ok (.aload_n 0, 1) := by decide +kernel
theorem d5_of_75 : decode c5_of 75 = .ok (.getfield 7, 3) := by decide +kernel
theorem d5_of_78 : decode c5_of 78 = .ok (.iload_n 1, 1) := by decide +kernel
theorem d5_of_79 : decode c5_of 79 = .ok (.iaload, 1) := by decide +kernel
theorem d5_of_80 : decode c5_of 80 = .ok (.iconst 5, 1) := by decide +kernel
theorem d5_of_81 : decode c5_of 81 = .ok (.if_icmp .eq 14, 3) := by decide +kernel
theorem d5_of_84 : decode c5_of 84 = .ok (.aload_n 0, 1) := by decide +kernel
theorem d5_of_85 : decode c5_of 85 = .ok (.getfield 7, 3) := by decide +kernel
theorem d5_of_88 : decode c5_of 88 = .ok (.iload_n 1, 1) := by decide +kernel
theorem d5_of_89 : decode c5_of 89 = .ok (.iaload, 1) := by decide +kernel
theorem d5_of_90 : decode c5_of 90 = .ok (.bipush 7, 2) := by decide +kernel
theorem d5_of_92 : decode c5_of 92 = .ok (.if_icmp .ne 12, 3) := by decide +kernel
theorem d5_of_95 : decode c5_of 95 = .ok (.aload_n 0, 1) := by decide +kernel
theorem d5_of_96 : decode c5_of 96 = .ok (.getfield 16, 3) := by decide +kernel
theorem d5_of_99 : decode c5_of 99 = .ok (.iload_n 1, 1) := by decide +kernel
theorem d5_of_100 : decode c5_of 100 = .ok (.iaload, 1) := by decide +kernel
theorem d5_of_101 : decode c5_of 101 = .ok (.goto 4, 3) := by decide +kernel
theorem d5_of_104 : decode c5_of 104 = .ok (.iconst (-1), 1) := by decide +kernel
theorem d5_of_105 : decode c5_of 105 = .ok (.ireturn, 1) := by decide +kernel
theorem d5_of_106 : decode c5_of 106 = .ok (.iconst 0, 1) := by decide +kernel
theorem d5_of_107 : decode c5_of 107 = .ok (.istore_n 3, 1) := by decide +kernel
theorem d5_of_108 : decode c5_of 108 = .ok (.iconst 0, 1) := by decide +kernel
theorem d5_of_109 : decode c5_of 109 = .ok (.istore 4, 2) := by decide +kernel
theorem d5_of_111 : decode c5_of 111 = .ok (.iload 4, 2) := by decide +kernel
theorem d5_of_113 : decode c5_of 113 = .ok (.bipush 64, 2) := by decide +kernel
theorem d5_of_115 : decode c5_of 115 = .ok (.if_icmp .ge 32, 3) := by decide +kernel
theorem d5_of_118 : decode c5_of 118 = .ok (.iload_n 3, 1) := by decide +kernel
theorem d5_of_119 : decode c5_of 119 = .ok (.aload_n 0, 1) := by decide +kernel
theorem d5_of_120 : decode c5_of 120 = .ok (.getfield 26, 3) := by decide +kernel
theorem d5_of_123 : decode c5_of 123 = .ok (.bipush 64, 2) := by decide +kernel
theorem d5_of_125 : decode c5_of 125 = .ok (.iload_n 1, 1) := by decide +kernel
theorem d5_of_126 : decode c5_of 126 = .ok (.imul, 1) := by decide +kernel
theorem d5_of_127 : decode c5_of 127 = .ok (.iload 4, 2) := by decide +kernel
theorem d5_of_129 : decode c5_of 129 = .ok (.iadd, 1) := by decide +kernel
theorem d5_of_130 : decode c5_of 130 = .ok (.baload, 1) := by decide +kernel
theorem d5_of_131 : decode c5_of 131 = .ok (.ifCond .eq 7, 3) := by decide +kernel
theorem d5_of_134 : decode c5_of 134 = .ok (.iconst 1, 1) := by decide +kernel
theorem d5_of_135 : decode c5_of 135 = .ok (.goto 4, 3) := by decide +kernel
theorem d5_of_138 : decode c5_of 138 = .ok (.iconst 0, 1) := by decide +kernel
theorem d5_of_139 : decode c5_of 139 = .ok (.iadd, 1) := by decide +kernel
theorem d5_of_140 : decode c5_of 140 = .ok (.istore_n 3, 1) := by decide +kernel
theorem d5_of_141 : decode c5_of 141 = .ok (.iinc 4 1, 3) := by decide +kernel
theorem d5_of_144 : decode c5_of 144 = .ok (.goto (-33), 3) := by decide +kernel
theorem d5_of_147 : decode c5_of 147 = .ok (.iload_n 3, 1) := by decide +kernel
theorem d5_of_148 : decode c5_of 148 = .ok (.ireturn, 1) := by decide +kernel
theorem d5_count_0 : decode c5_count 0 = .ok (.iload_n 1, 1) := by decide +kernel
theorem d5_count_1 : decode c5_count 1 = .ok (.ifCond .ne 8, 3) := by decide +kernel
theorem d5_count_4 : decode c5_count 4 = .ok (.aload_n 0, 1) := by decide +kernel
theorem d5_count_5 : decode c5_count 5 = .ok (.getfield 87, 3) := by decide +kernel
theorem d5_count_8 : decode c5_count 8 = .ok (.ireturn, 1) := by decide +kernel
theorem d5_count_9 : decode c5_count 9 = .ok (.iload_n 1, 1) := by decide +kernel
theorem d5_count_10 : decode c5_count 10 = .ok (.iconst 1, 1) := by decide +kernel
theorem d5_count_11 : decode c5_count 11 = .ok (.if_icmp .ne 19, 3) := by decide +kernel
theorem d5_count_14 : decode c5_count 14 = .ok (.aload_n 0, 1) := by decide +kernel
theorem d5_count_15 : decode c5_count 15 = .ok (.getfield 100, 3) := by decide +kernel
theorem d5_count_18 : decode c5_count 18 = .ok (.ifCond .eq 10, 3) := by decide +kernel
theorem d5_count_21 : decode c5_count 21 = .ok (.aload_n 0, 1) := by decide +kernel
theorem d5_count_22 : decode c5_count 22 = .ok (.getfield 104, 3) := by decide +kernel
theorem d5_count_25 : decode c5_count 25 = .ok (.goto 4, 3) := by decide +kernel
theorem d5_count_28 : decode c5_count 28 = .ok (.iconst (-1), 1) := by decide +kernel
theorem d5_count_29 : decode c5_count 29 = .ok (.ireturn, 1) := by decide +kernel
theorem d5_count_30 : decode c5_count 30 = .ok (.iload_n 1, 1) := by decide +kernel
theorem d5_count_31 : decode c5_count 31 = .ok (.iconst 2, 1) := by decide +kernel
theorem d5_count_32 : decode c5_count 32 = .ok (.if_icmp .ne 38, 3) := by decide +kernel
theorem d5_count_35 : decode c5_count 35 = .ok (.iconst 0, 1) := by decide +kernel
theorem d5_count_36 : decode c5_count 36 = .ok (.istore_n 2, 1) := by decide +kernel
theorem d5_count_37 : decode c5_count 37 = .ok (.iconst 0, 1) := by decide +kernel
theorem d5_count_38 : decode c5_count 38 = .ok (.istore_n 3, 1) := by decide +kernel
theorem d5_count_39 : decode c5_count 39 = .ok (.iload_n 3, 1) := by decide +kernel
theorem d5_count_40 : decode c5_count 40 = .ok (.bipush 64, 2) := by decide +kernel
theorem d5_count_42 : decode c5_count 42 = .ok (.if_icmp .ge 26, 3) := by decide +kernel
theorem d5_count_45 : decode c5_count 45 = .ok (.iload_n 2, 1) := by decide +kernel
theorem d5_count_46 : decode c5_count 46 = .ok (.aload_n 0, 1) := by decide +kernel
theorem d5_count_47 : decode c5_count 47 = .ok (.getfield 72, 3) := by decide +kernel
theorem d5_count_50 : decode c5_count 50 = .ok (.iload_n 3, 1) := by decide +kernel
theorem d5_count_51 : decode c5_count 51 = .ok (.baload, 1) := by decide +kernel
theorem d5_count_52 : decode c5_count 52 = .ok (.ifCond .eq 7, 3) := by decide +kernel
theorem d5_count_55 : decode c5_count 55 = .ok (.iconst 1, 1) := by decide +kernel
theorem d5_count_56 : decode c5_count 56 = .ok (.goto 4, 3) := by decide +kernel
theorem d5_count_59 : decode c5_count 59 = .ok (.iconst 0, 1) := by decide +kernel
theorem d5_count_60 : decode c5_count 60 = .ok (.iadd, 1) := by decide +kernel
theorem d5_count_61 : decode c5_count 61 = .ok (.istore_n 2, 1) := by decide +kernel
theorem d5_count_62 : decode c5_count 62 = .ok (.iinc 3 1, 3) := by decide +kernel
theorem d5_count_65 : decode c5_count 65 = .ok (.goto (-26), 3) := by decide +kernel
theorem d5_count_68 : decode c5_count 68 = .ok (.iload_n 2, 1) := by decide +kernel
theorem d5_count_69 : decode c5_count 69 = .ok (.ireturn, 1) := by decide +kernel
theorem d5_count_70 : decode c5_count 70 = .ok (.bipush (-2), 2) := by decide +kernel
theorem d5_count_72 : decode c5_count 72 = .ok (.ireturn, 1) := by decide +kernel
