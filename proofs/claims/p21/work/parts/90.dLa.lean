theorem dL_drawn_0 : decode cL_drawn 0 = .ok (.iload_n 1, 1) := by decide +kernel
theorem dL_drawn_1 : decode cL_drawn 1 = .ok (.aload_n 0, 1) := by decide +kernel
theorem dL_drawn_2 : decode cL_drawn 2 = .ok (.arraylength, 1) := by decide +kernel
theorem dL_drawn_3 : decode cL_drawn 3 = .ok (.if_icmp .ge 9, 3) := by decide +kernel
theorem dL_drawn_6 : decode cL_drawn 6 = .ok (.aload_n 0, 1) := by decide +kernel
theorem dL_drawn_7 : decode cL_drawn 7 = .ok (.iload_n 1, 1) := by decide +kernel
theorem dL_drawn_8 : decode cL_drawn 8 = .ok (.iaload, 1) := by decide +kernel
theorem dL_drawn_9 : decode cL_drawn 9 = .ok (.goto 11, 3) := by decide +kernel
theorem dL_drawn_12 : decode cL_drawn 12 = .ok (.ldc 7, 2) := by decide +kernel
theorem dL_drawn_14 : decode cL_drawn 14 = .ok (.iload_n 1, 1) := by decide +kernel
theorem dL_drawn_15 : decode cL_drawn 15 = .ok (.imul, 1) := by decide +kernel
theorem dL_drawn_16 : decode cL_drawn 16 = .ok (.sipush 12907, 3) := by decide +kernel
theorem dL_drawn_19 : decode cL_drawn 19 = .ok (.iadd, 1) := by decide +kernel
theorem dL_drawn_20 : decode cL_drawn 20 = .ok (.istore_n 3, 1) := by decide +kernel
theorem dL_drawn_21 : decode cL_drawn 21 = .ok (.iload_n 3, 1) := by decide +kernel
theorem dL_drawn_22 : decode cL_drawn 22 = .ok (.iconst 1, 1) := by decide +kernel
theorem dL_drawn_23 : decode cL_drawn 23 = .ok (.iushr, 1) := by decide +kernel
theorem dL_drawn_24 : decode cL_drawn 24 = .ok (.iload_n 2, 1) := by decide +kernel
theorem dL_drawn_25 : decode cL_drawn 25 = .ok (.irem, 1) := by decide +kernel
theorem dL_drawn_26 : decode cL_drawn 26 = .ok (.ireturn, 1) := by decide +kernel
theorem dL_cuts_0 : decode cL_cuts 0 = .ok (.aload_n 0, 1) := by decide +kernel
theorem dL_cuts_1 : decode cL_cuts 1 = .ok (.iconst 0, 1) := by decide +kernel
theorem dL_cuts_2 : decode cL_cuts 2 = .ok (.iload_n 1, 1) := by decide +kernel
theorem dL_cuts_3 : decode cL_cuts 3 = .ok (.iload_n 2, 1) := by decide +kernel
theorem dL_cuts_4 : decode cL_cuts 4 = .ok (.iload_n 3, 1) := by decide +kernel
theorem dL_cuts_5 : decode cL_cuts 5 = .ok (.iload 4, 2) := by decide +kernel
theorem dL_cuts_7 : decode cL_cuts 7 = .ok (.iload 5, 2) := by decide +kernel
theorem dL_cuts_9 : decode cL_cuts 9 = .ok (.invokevirtual 8, 3) := by decide +kernel
theorem dL_cuts_12 : decode cL_cuts 12 = .ok (.ireturn, 1) := by decide +kernel
theorem dL_cuts_13 : decode cL_cuts 13 = .ok (.astore 6, 2) := by decide +kernel
theorem dL_cuts_15 : decode cL_cuts 15 = .ok (.iconst (-1), 1) := by decide +kernel
theorem dL_cuts_16 : decode cL_cuts 16 = .ok (.ireturn, 1) := by decide +kernel
theorem dL_moves_0 : decode cL_moves 0 = .ok (.aload_n 0, 1) := by decide +kernel
theorem dL_moves_1 : decode cL_moves 1 = .ok (.iconst 0, 1) := by decide +kernel
theorem dL_moves_2 : decode cL_moves 2 = .ok (.iload_n 1, 1) := by decide +kernel
theorem dL_moves_3 : decode cL_moves 3 = .ok (.invokevirtual 16, 3) := by decide +kernel
theorem dL_moves_6 : decode cL_moves 6 = .ok (.ireturn, 1) := by decide +kernel
theorem dL_moves_7 : decode cL_moves 7 = .ok (.astore_n 2, 1) := by decide +kernel
theorem dL_moves_8 : decode cL_moves 8 = .ok (.iconst (-1), 1) := by decide +kernel
theorem dL_moves_9 : decode cL_moves 9 = .ok (.ireturn, 1) := by decide +kernel
theorem dL_best_0 : decode cL_best 0 = .ok (.aload_n 0, 1) := by decide +kernel
theorem dL_best_1 : decode cL_best 1 = .ok (.iconst 0, 1) := by decide +kernel
theorem dL_best_2 : decode cL_best 2 = .ok (.iload_n 1, 1) := by decide +kernel
theorem dL_best_3 : decode cL_best 3 = .ok (.iload_n 2, 1) := by decide +kernel
theorem dL_best_4 : decode cL_best 4 = .ok (.iload_n 3, 1) := by decide +kernel
theorem dL_best_5 : decode cL_best 5 = .ok (.iload 4, 2) := by decide +kernel
theorem dL_best_7 : decode cL_best 7 = .ok (.invokevirtual 20, 3) := by decide +kernel
theorem dL_best_10 : decode cL_best 10 = .ok (.ireturn, 1) := by decide +kernel
theorem dL_best_11 : decode cL_best 11 = .ok (.astore 5, 2) := by decide +kernel
theorem dL_best_13 : decode cL_best 13 = .ok (.ldc 24, 2) := by decide +kernel
theorem dL_best_15 : decode cL_best 15 = .ok (.ireturn, 1) := by decide +kernel
theorem dL_gaps_0 : decode cL_gaps 0 = .ok (.aload_n 0, 1) := by decide +kernel
theorem dL_gaps_1 : decode cL_gaps 1 = .ok (.iconst (-1), 1) := by decide +kernel
theorem dL_gaps_2 : decode cL_gaps 2 = .ok (.invokevirtual 25, 3) := by decide +kernel
theorem dL_gaps_5 : decode cL_gaps 5 = .ok (.ireturn, 1) := by decide +kernel
theorem dL_gaps_6 : decode cL_gaps 6 = .ok (.astore_n 1, 1) := by decide +kernel
theorem dL_gaps_7 : decode cL_gaps 7 = .ok (.iconst (-1), 1) := by decide +kernel
theorem dL_gaps_8 : decode cL_gaps 8 = .ok (.ireturn, 1) := by decide +kernel
theorem dL_isShapes_0 : decode cL_isShapes 0 = .ok (.iconst 1, 1) := by decide +kernel
theorem dL_isShapes_1 : decode cL_isShapes 1 = .ok (.aload_n 1, 1) := by decide +kernel
theorem dL_isShapes_2 : decode cL_isShapes 2 = .ok (.iconst 0, 1) := by decide +kernel
theorem dL_isShapes_3 : decode cL_isShapes 3 = .ok (.bipush 12, 2) := by decide +kernel
theorem dL_isShapes_5 : decode cL_isShapes 5 = .ok (.invokestatic 29, 3) := by decide +kernel
theorem dL_isShapes_8 : decode cL_isShapes 8 = .ok (.iadd, 1) := by decide +kernel
theorem dL_isShapes_9 : decode cL_isShapes 9 = .ok (.istore_n 2, 1) := by decide +kernel
theorem dL_isShapes_10 : decode cL_isShapes 10 = .ok (.iconst 1, 1) := by decide +kernel
theorem dL_isShapes_11 : decode cL_isShapes 11 = .ok (.aload_n 1, 1) := by decide +kernel
theorem dL_isShapes_12 : decode cL_isShapes 12 = .ok (.iconst 1, 1) := by decide +kernel
theorem dL_isShapes_13 : decode cL_isShapes 13 = .ok (.bipush 12, 2) := by decide +kernel
theorem dL_isShapes_15 : decode cL_isShapes 15 = .ok (.invokestatic 29, 3) := by decide +kernel
theorem dL_isShapes_18 : decode cL_isShapes 18 = .ok (.iadd, 1) := by decide +kernel
theorem dL_isShapes_19 : decode cL_isShapes 19 = .ok (.istore_n 3, 1) := by decide +kernel
theorem dL_isShapes_20 : decode cL_isShapes 20 = .ok (.aload_n 0, 1) := by decide +kernel
theorem dL_isShapes_21 : decode cL_isShapes 21 = .ok (.invokevirtual 35, 3) := by decide +kernel
theorem dL_isShapes_24 : decode cL_isShapes 24 = .ok (.ifCond .ne 133, 3) := by decide +kernel
theorem dL_isShapes_27 : decode cL_isShapes 27 = .ok (.aload_n 0, 1) := by decide +kernel
theorem dL_isShapes_28 : decode cL_isShapes 28 = .ok (.iconst 0, 1) := by decide +kernel
theorem dL_isShapes_29 : decode cL_isShapes 29 = .ok (.iconst 1, 1) := by decide +kernel
theorem dL_isShapes_30 : decode cL_isShapes 30 = .ok (.iconst 0, 1) := by decide +kernel
theorem dL_isShapes_31 : decode cL_isShapes 31 = .ok (.iload_n 2, 1) := by decide +kernel
theorem dL_isShapes_32 : decode cL_isShapes 32 = .ok (.iconst 0, 1) := by decide +kernel
theorem dL_isShapes_33 : decode cL_isShapes 33 = .ok (.invokevirtual 39, 3) := by decide +kernel
theorem dL_isShapes_36 : decode cL_isShapes 36 = .ok (.ifCond .ne 121, 3) := by decide +kernel
theorem dL_isShapes_39 : decode cL_isShapes 39 = .ok (.aload_n 0, 1) := by decide +kernel
theorem dL_isShapes_40 : decode cL_isShapes 40 = .ok (.iconst 0, 1) := by decide +kernel
theorem dL_isShapes_41 : decode cL_isShapes 41 = .ok (.iconst (-1), 1) := by decide +kernel
theorem dL_isShapes_42 : decode cL_isShapes 42 = .ok (.iconst 0, 1) := by decide +kernel
theorem dL_isShapes_43 : decode cL_isShapes 43 = .ok (.iconst 0, 1) := by decide +kernel
theorem dL_isShapes_44 : decode cL_isShapes 44 = .ok (.iconst 0, 1) := by decide +kernel
theorem dL_isShapes_45 : decode cL_isShapes 45 = .ok (.invokevirtual 39, 3) := by decide +kernel
theorem dL_isShapes_48 : decode cL_isShapes 48 = .ok (.iconst 1, 1) := by decide +kernel
theorem dL_isShapes_49 : decode cL_isShapes 49 = .ok (.if_icmp .ne 108, 3) := by decide +kernel
theorem dL_isShapes_52 : decode cL_isShapes 52 = .ok (.aload_n 0, 1) := by decide +kernel
theorem dL_isShapes_53 : decode cL_isShapes 53 = .ok (.iconst 0, 1) := by decide +kernel
theorem dL_isShapes_54 : decode cL_isShapes 54 = .ok (.iconst 0, 1) := by decide +kernel
theorem dL_isShapes_55 : decode cL_isShapes 55 = .ok (.iconst 1, 1) := by decide +kernel
theorem dL_isShapes_56 : decode cL_isShapes 56 = .ok (.iload_n 3, 1) := by decide +kernel
theorem dL_isShapes_57 : decode cL_isShapes 57 = .ok (.iconst 0, 1) := by decide +kernel
theorem dL_isShapes_58 : decode cL_isShapes 58 = .ok (.invokevirtual 39, 3) := by decide +kernel
theorem dL_isShapes_61 : decode cL_isShapes 61 = .ok (.iconst 2, 1) := by decide +kernel
theorem dL_isShapes_62 : decode cL_isShapes 62 = .ok (.if_icmp .ne 95, 3) := by decide +kernel
theorem dL_isShapes_65 : decode cL_isShapes 65 = .ok (.aload_n 0, 1) := by decide +kernel
theorem dL_isShapes_66 : decode cL_isShapes 66 = .ok (.iconst 0, 1) := by decide +kernel
theorem dL_isShapes_67 : decode cL_isShapes 67 = .ok (.iconst 0, 1) := by decide +kernel
theorem dL_isShapes_68 : decode cL_isShapes 68 = .ok (.iconst (-1), 1) := by decide +kernel
theorem dL_isShapes_69 : decode cL_isShapes 69 = .ok (.iconst 0, 1) := by decide +kernel
theorem dL_isShapes_70 : decode cL_isShapes 70 = .ok (.iconst 0, 1) := by decide +kernel
theorem dL_isShapes_71 : decode cL_isShapes 71 = .ok (.invokevirtual 39, 3) := by decide +kernel
theorem dL_isShapes_74 : decode cL_isShapes 74 = .ok (.iconst 3, 1) := by decide +kernel
theorem dL_isShapes_75 : decode cL_isShapes 75 = .ok (.if_icmp .ne 82, 3) := by decide +kernel
theorem dL_isShapes_78 : decode cL_isShapes 78 = .ok (.aload_n 0, 1) := by decide +kernel
theorem dL_isShapes_79 : decode cL_isShapes 79 = .ok (.iconst 0, 1) := by decide +kernel
theorem dL_isShapes_80 : decode cL_isShapes 80 = .ok (.invokevirtual 42, 3) := by decide +kernel
theorem dL_isShapes_83 : decode cL_isShapes 83 = .ok (.ifCond .eq 74, 3) := by decide +kernel
theorem dL_isShapes_86 : decode cL_isShapes 86 = .ok (.aload_n 0, 1) := by decide +kernel
theorem dL_isShapes_87 : decode cL_isShapes 87 = .ok (.iconst 0, 1) := by decide +kernel
theorem dL_isShapes_88 : decode cL_isShapes 88 = .ok (.iconst 3, 1) := by decide +kernel
theorem dL_isShapes_89 : decode cL_isShapes 89 = .ok (.invokevirtual 46, 3) := by decide +kernel
theorem dL_isShapes_92 : decode cL_isShapes 92 = .ok (.iload_n 2, 1) := by decide +kernel
theorem dL_isShapes_93 : decode cL_isShapes 93 = .ok (.i2l, 1) := by decide +kernel
theorem dL_isShapes_94 : decode cL_isShapes 94 = .ok (.lconst 1, 1) := by decide +kernel
theorem dL_isShapes_95 : decode cL_isShapes 95 = .ok (.ladd, 1) := by decide +kernel
theorem dL_isShapes_96 : decode cL_isShapes 96 = .ok (.iload_n 3, 1) := by decide +kernel
theorem dL_isShapes_97 : decode cL_isShapes 97 = .ok (.i2l, 1) := by decide +kernel
theorem dL_isShapes_98 : decode cL_isShapes 98 = .ok (.lconst 1, 1) := by decide +kernel
theorem dL_isShapes_99 : decode cL_isShapes 99 = .ok (.ladd, 1) := by decide +kernel
theorem dL_isShapes_100 : decode cL_isShapes 100 = .ok (.lmul, 1) := by decide +kernel
theorem dL_isShapes_101 : decode cL_isShapes 101 = .ok (.lcmp, 1) := by decide +kernel
theorem dL_isShapes_102 : decode cL_isShapes 102 = .ok (.ifCond .ne 55, 3) := by decide +kernel
theorem dL_isShapes_105 : decode cL_isShapes 105 = .ok (.aload_n 0, 1) := by decide +kernel
theorem dL_isShapes_106 : decode cL_isShapes 106 = .ok (.iconst 0, 1) := by decide +kernel
theorem dL_isShapes_107 : decode cL_isShapes 107 = .ok (.iconst 1, 1) := by decide +kernel
theorem dL_isShapes_108 : decode cL_isShapes 108 = .ok (.iconst 1, 1) := by decide +kernel
theorem dL_isShapes_109 : decode cL_isShapes 109 = .ok (.invokevirtual 50, 3) := by decide +kernel
theorem dL_isShapes_112 : decode cL_isShapes 112 = .ok (.iload_n 2, 1) := by decide +kernel
theorem dL_isShapes_113 : decode cL_isShapes 113 = .ok (.i2l, 1) := by decide +kernel
theorem dL_isShapes_114 : decode cL_isShapes 114 = .ok (.lconst 1, 1) := by decide +kernel
theorem dL_isShapes_115 : decode cL_isShapes 115 = .ok (.lsub, 1) := by decide +kernel
theorem dL_isShapes_116 : decode cL_isShapes 116 = .ok (.iload_n 3, 1) := by decide +kernel
theorem dL_isShapes_117 : decode cL_isShapes 117 = .ok (.i2l, 1) := by decide +kernel
theorem dL_isShapes_118 : decode cL_isShapes 118 = .ok (.lconst 1, 1) := by decide +kernel
theorem dL_isShapes_119 : decode cL_isShapes 119 = .ok (.lsub, 1) := by decide +kernel
theorem dL_isShapes_120 : decode cL_isShapes 120 = .ok (.lmul, 1) := by decide +kernel
theorem dL_isShapes_121 : decode cL_isShapes 121 = .ok (.lcmp, 1) := by decide +kernel
theorem dL_isShapes_122 : decode cL_isShapes 122 = .ok (.ifCond .ne 35, 3) := by decide +kernel
theorem dL_isShapes_125 : decode cL_isShapes 125 = .ok (.aload_n 0, 1) := by decide +kernel
theorem dL_isShapes_126 : decode cL_isShapes 126 = .ok (.iconst 0, 1) := by decide +kernel
theorem dL_isShapes_127 : decode cL_isShapes 127 = .ok (.iconst 3, 1) := by decide +kernel
theorem dL_isShapes_128 : decode cL_isShapes 128 = .ok (.iconst 0, 1) := by decide +kernel
theorem dL_isShapes_129 : decode cL_isShapes 129 = .ok (.invokevirtual 50, 3) := by decide +kernel
theorem dL_isShapes_132 : decode cL_isShapes 132 = .ok (.ldc2_w 54, 3) := by decide +kernel
theorem dL_isShapes_135 : decode cL_isShapes 135 = .ok (.iload_n 2, 1) := by decide +kernel
theorem dL_isShapes_136 : decode cL_isShapes 136 = .ok (.i2l, 1) := by decide +kernel
theorem dL_isShapes_137 : decode cL_isShapes 137 = .ok (.lmul, 1) := by decide +kernel
theorem dL_isShapes_138 : decode cL_isShapes 138 = .ok (.lconst 1, 1) := by decide +kernel
theorem dL_isShapes_139 : decode cL_isShapes 139 = .ok (.ladd, 1) := by decide +kernel
theorem dL_isShapes_140 : decode cL_isShapes 140 = .ok (.ldc2_w 54, 3) := by decide +kernel
theorem dL_isShapes_143 : decode cL_isShapes 143 = .ok (.iload_n 3, 1) := by decide +kernel
theorem dL_isShapes_144 : decode cL_isShapes 144 = .ok (.i2l, 1) := by decide +kernel
theorem dL_isShapes_145 : decode cL_isShapes 145 = .ok (.lmul, 1) := by decide +kernel
theorem dL_isShapes_146 : decode cL_isShapes 146 = .ok (.lconst 1, 1) := by decide +kernel
theorem dL_isShapes_147 : decode cL_isShapes 147 = .ok (.ladd, 1) := by decide +kernel
theorem dL_isShapes_148 : decode cL_isShapes 148 = .ok (.lmul, 1) := by decide +kernel
theorem dL_isShapes_149 : decode cL_isShapes 149 = .ok (.lcmp, 1) := by decide +kernel
theorem dL_isShapes_150 : decode cL_isShapes 150 = .ok (.ifCond .ne 7, 3) := by decide +kernel
theorem dL_isShapes_153 : decode cL_isShapes 153 = .ok (.iconst 1, 1) := by decide +kernel
theorem dL_isShapes_154 : decode cL_isShapes 154 = .ok (.goto 4, 3) := by decide +kernel
theorem dL_isShapes_157 : decode cL_isShapes 157 = .ok (.iconst 0, 1) := by decide +kernel
theorem dL_isShapes_158 : decode cL_isShapes 158 = .ok (.istore 4, 2) := by decide +kernel
theorem dL_isShapes_160 : decode cL_isShapes 160 = .ok (.iconst 4, 1) := by decide +kernel
theorem dL_isShapes_161 : decode cL_isShapes 161 = .ok (.istore 5, 2) := by decide +kernel
theorem dL_isShapes_163 : decode cL_isShapes 163 = .ok (.iconst 0, 1) := by decide +kernel
theorem dL_isShapes_164 : decode cL_isShapes 164 = .ok (.istore 6, 2) := by decide +kernel
theorem dL_isShapes_166 : decode cL_isShapes 166 = .ok (.iload 6, 2) := by decide +kernel
theorem dL_isShapes_168 : decode cL_isShapes 168 = .ok (.bipush 8, 2) := by decide +kernel
theorem dL_isShapes_170 : decode cL_isShapes 170 = .ok (.if_icmp .ge 459, 3) := by decide +kernel
theorem dL_isShapes_173 : decode cL_isShapes 173 = .ok (.iload 4, 2) := by decide +kernel
theorem dL_isShapes_175 : decode cL_isShapes 175 = .ok (.ifCond .eq 454, 3) := by decide +kernel
theorem dL_isShapes_178 : decode cL_isShapes 178 = .ok (.aload_n 1, 1) := by decide +kernel
theorem dL_isShapes_179 : decode cL_isShapes 179 = .ok (.bipush 7, 2) := by decide +kernel
theorem dL_isShapes_181 : decode cL_isShapes 181 = .ok (.iload 6, 2) := by decide +kernel
theorem dL_isShapes_183 : decode cL_isShapes 183 = .ok (.imul, 1) := by decide +kernel
theorem dL_isShapes_184 : decode cL_isShapes 184 = .ok (.iconst 2, 1) := by decide +kernel
theorem dL_isShapes_185 : decode cL_isShapes 185 = .ok (.iadd, 1) := by decide +kernel
theorem dL_isShapes_186 : decode cL_isShapes 186 = .ok (.bipush 19, 2) := by decide +kernel
theorem dL_isShapes_188 : decode cL_isShapes 188 = .ok (.invokestatic 29, 3) := by decide +kernel
theorem dL_isShapes_191 : decode cL_isShapes 191 = .ok (.bipush 9, 2) := by decide +kernel
theorem dL_isShapes_193 : decode cL_isShapes 193 = .ok (.isub, 1) := by decide +kernel
theorem dL_isShapes_194 : decode cL_isShapes 194 = .ok (.istore 7, 2) := by decide +kernel
theorem dL_isShapes_196 : decode cL_isShapes 196 = .ok (.aload_n 1, 1) := by decide +kernel
theorem dL_isShapes_197 : decode cL_isShapes 197 = .ok (.bipush 7, 2) := by decide +kernel
theorem dL_isShapes_199 : decode cL_isShapes 199 = .ok (.iload 6, 2) := by decide +kernel
theorem dL_isShapes_201 : decode cL_isShapes 201 = .ok (.imul, 1) := by decide +kernel
theorem dL_isShapes_202 : decode cL_isShapes 202 = .ok (.iconst 3, 1) := by decide +kernel
theorem dL_isShapes_203 : decode cL_isShapes 203 = .ok (.iadd, 1) := by decide +kernel
theorem dL_isShapes_204 : decode cL_isShapes 204 = .ok (.bipush 19, 2) := by decide +kernel
theorem dL_isShapes_206 : decode cL_isShapes 206 = .ok (.invokestatic 29, 3) := by decide +kernel
theorem dL_isShapes_209 : decode cL_isShapes 209 = .ok (.bipush 9, 2) := by decide +kernel
theorem dL_isShapes_211 : decode cL_isShapes 211 = .ok (.isub, 1) := by decide +kernel
theorem dL_isShapes_212 : decode cL_isShapes 212 = .ok (.istore 8, 2) := by decide +kernel
theorem dL_isShapes_214 : decode cL_isShapes 214 = .ok (.aload_n 1, 1) := by decide +kernel
theorem dL_isShapes_215 : decode cL_isShapes 215 = .ok (.bipush 7, 2) := by decide +kernel
theorem dL_isShapes_217 : decode cL_isShapes 217 = .ok (.iload 6, 2) := by decide +kernel
theorem dL_isShapes_219 : decode cL_isShapes 219 = .ok (.imul, 1) := by decide +kernel
theorem dL_isShapes_220 : decode cL_isShapes 220 = .ok (.iconst 4, 1) := by decide +kernel
theorem dL_isShapes_221 : decode cL_isShapes 221 = .ok (.iadd, 1) := by decide +kernel
theorem dL_isShapes_222 : decode cL_isShapes 222 = .ok (.sipush 130, 3) := by decide +kernel
theorem dL_isShapes_225 : decode cL_isShapes 225 = .ok (.invokestatic 29, 3) := by decide +kernel
theorem dL_isShapes_228 : decode cL_isShapes 228 = .ok (.bipush 30, 2) := by decide +kernel
theorem dL_isShapes_230 : decode cL_isShapes 230 = .ok (.isub, 1) := by decide +kernel
theorem dL_isShapes_231 : decode cL_isShapes 231 = .ok (.istore 9, 2) := by decide +kernel
theorem dL_isShapes_233 : decode cL_isShapes 233 = .ok (.aload_n 1, 1) := by decide +kernel
theorem dL_isShapes_234 : decode cL_isShapes 234 = .ok (.bipush 7, 2) := by decide +kernel
theorem dL_isShapes_236 : decode cL_isShapes 236 = .ok (.iload 6, 2) := by decide +kernel
theorem dL_isShapes_238 : decode cL_isShapes 238 = .ok (.imul, 1) := by decide +kernel
theorem dL_isShapes_239 : decode cL_isShapes 239 = .ok (.iconst 5, 1) := by decide +kernel
theorem dL_isShapes_240 : decode cL_isShapes 240 = .ok (.iadd, 1) := by decide +kernel
theorem dL_isShapes_241 : decode cL_isShapes 241 = .ok (.bipush 10, 2) := by decide +kernel
theorem dL_isShapes_243 : decode cL_isShapes 243 = .ok (.invokestatic 29, 3) := by decide +kernel
theorem dL_isShapes_246 : decode cL_isShapes 246 = .ok (.istore 10, 2) := by decide +kernel
theorem dL_isShapes_248 : decode cL_isShapes 248 = .ok (.aload_n 1, 1) := by decide +kernel
theorem dL_isShapes_249 : decode cL_isShapes 249 = .ok (.bipush 7, 2) := by decide +kernel
theorem dL_isShapes_251 : decode cL_isShapes 251 = .ok (.iload 6, 2) := by decide +kernel
theorem dL_isShapes_253 : decode cL_isShapes 253 = .ok (.imul, 1) := by decide +kernel
theorem dL_isShapes_254 : decode cL_isShapes 254 = .ok (.bipush 6, 2) := by decide +kernel
theorem dL_isShapes_256 : decode cL_isShapes 256 = .ok (.iadd, 1) := by decide +kernel
theorem dL_isShapes_257 : decode cL_isShapes 257 = .ok (.bipush 6, 2) := by decide +kernel
theorem dL_isShapes_259 : decode cL_isShapes 259 = .ok (.invokestatic 29, 3) := by decide +kernel
theorem dL_isShapes_262 : decode cL_isShapes 262 = .ok (.istore 11, 2) := by decide +kernel
theorem dL_isShapes_264 : decode cL_isShapes 264 = .ok (.aload_n 1, 1) := by decide +kernel
theorem dL_isShapes_265 : decode cL_isShapes 265 = .ok (.bipush 7, 2) := by decide +kernel
theorem dL_isShapes_267 : decode cL_isShapes 267 = .ok (.iload 6, 2) := by decide +kernel
theorem dL_isShapes_269 : decode cL_isShapes 269 = .ok (.imul, 1) := by decide +kernel
theorem dL_isShapes_270 : decode cL_isShapes 270 = .ok (.bipush 7, 2) := by decide +kernel
theorem dL_isShapes_272 : decode cL_isShapes 272 = .ok (.iadd, 1) := by decide +kernel
theorem dL_isShapes_273 : decode cL_isShapes 273 = .ok (.iload 5, 2) := by decide +kernel
theorem dL_isShapes_275 : decode cL_isShapes 275 = .ok (.invokestatic 29, 3) := by decide +kernel
theorem dL_isShapes_278 : decode cL_isShapes 278 = .ok (.istore 12, 2) := by decide +kernel
theorem dL_isShapes_280 : decode cL_isShapes 280 = .ok (.aload_n 1, 1) := by decide +kernel
theorem dL_isShapes_281 : decode cL_isShapes 281 = .ok (.bipush 7, 2) := by decide +kernel
theorem dL_isShapes_283 : decode cL_isShapes 283 = .ok (.iload 6, 2) := by decide +kernel
theorem dL_isShapes_285 : decode cL_isShapes 285 = .ok (.imul, 1) := by decide +kernel
theorem dL_isShapes_286 : decode cL_isShapes 286 = .ok (.bipush 8, 2) := by decide +kernel
theorem dL_isShapes_288 : decode cL_isShapes 288 = .ok (.iadd, 1) := by decide +kernel
theorem dL_isShapes_289 : decode cL_isShapes 289 = .ok (.iload 5, 2) := by decide +kernel
theorem dL_isShapes_291 : decode cL_isShapes 291 = .ok (.invokestatic 29, 3) := by decide +kernel
theorem dL_isShapes_294 : decode cL_isShapes 294 = .ok (.istore 13, 2) := by decide +kernel
theorem dL_isShapes_296 : decode cL_isShapes 296 = .ok (.aload_n 0, 1) := by decide +kernel
theorem dL_isShapes_297 : decode cL_isShapes 297 = .ok (.iconst 0, 1) := by decide +kernel
theorem dL_isShapes_298 : decode cL_isShapes 298 = .ok (.iload 10, 2) := by decide +kernel
theorem dL_isShapes_300 : decode cL_isShapes 300 = .ok (.invokevirtual 46, 3) := by decide +kernel
theorem dL_isShapes_303 : decode cL_isShapes 303 = .ok (.lstore 14, 2) := by decide +kernel
theorem dL_isShapes_305 : decode cL_isShapes 305 = .ok (.iload 11, 2) := by decide +kernel
theorem dL_isShapes_307 : decode cL_isShapes 307 = .ok (.iconst 2, 1) := by decide +kernel
theorem dL_isShapes_308 : decode cL_isShapes 308 = .ok (.if_icmp .ge 75, 3) := by decide +kernel
theorem dL_isShapes_311 : decode cL_isShapes 311 = .ok (.iload 5, 2) := by decide +kernel
theorem dL_isShapes_313 : decode cL_isShapes 313 = .ok (.bipush 10, 2) := by decide +kernel
theorem dL_isShapes_315 : decode cL_isShapes 315 = .ok (.if_icmp .ge 68, 3) := by decide +kernel
theorem dL_isShapes_318 : decode cL_isShapes 318 = .ok (.iload 7, 2) := by decide +kernel
theorem dL_isShapes_320 : decode cL_isShapes 320 = .ok (.ifCond .ne 8, 3) := by decide +kernel
theorem dL_isShapes_323 : decode cL_isShapes 323 = .ok (.iload 8, 2) := by decide +kernel
theorem dL_isShapes_325 : decode cL_isShapes 325 = .ok (.ifCond .eq 58, 3) := by decide +kernel
theorem dL_isShapes_328 : decode cL_isShapes 328 = .ok (.iload 9, 2) := by decide +kernel
theorem dL_isShapes_330 : decode cL_isShapes 330 = .ok (.bipush 100, 2) := by decide +kernel
theorem dL_isShapes_332 : decode cL_isShapes 332 = .ok (.if_icmp .ge 51, 3) := by decide +kernel
theorem dL_isShapes_335 : decode cL_isShapes 335 = .ok (.aload_n 0, 1) := by decide +kernel
theorem dL_isShapes_336 : decode cL_isShapes 336 = .ok (.iconst 0, 1) := by decide +kernel
theorem dL_isShapes_337 : decode cL_isShapes 337 = .ok (.iload 7, 2) := by decide +kernel
theorem dL_isShapes_339 : decode cL_isShapes 339 = .ok (.iload 8, 2) := by decide +kernel
theorem dL_isShapes_341 : decode cL_isShapes 341 = .ok (.iload 9, 2) := by decide +kernel
theorem dL_isShapes_343 : decode cL_isShapes 343 = .ok (.iload 10, 2) := by decide +kernel
theorem dL_isShapes_345 : decode cL_isShapes 345 = .ok (.iconst 3, 1) := by decide +kernel
theorem dL_isShapes_346 : decode cL_isShapes 346 = .ok (.irem, 1) := by decide +kernel
theorem dL_isShapes_347 : decode cL_isShapes 347 = .ok (.iconst 1, 1) := by decide +kernel
theorem dL_isShapes_348 : decode cL_isShapes 348 = .ok (.isub, 1) := by decide +kernel
theorem dL_isShapes_349 : decode cL_isShapes 349 = .ok (.invokevirtual 39, 3) := by decide +kernel
theorem dL_isShapes_352 : decode cL_isShapes 352 = .ok (.iload 5, 2) := by decide +kernel
theorem dL_isShapes_354 : decode cL_isShapes 354 = .ok (.if_icmp .ne 20, 3) := by decide +kernel
theorem dL_isShapes_357 : decode cL_isShapes 357 = .ok (.aload_n 0, 1) := by decide +kernel
theorem dL_isShapes_358 : decode cL_isShapes 358 = .ok (.iconst 0, 1) := by decide +kernel
theorem dL_isShapes_359 : decode cL_isShapes 359 = .ok (.iload 10, 2) := by decide +kernel
theorem dL_isShapes_361 : decode cL_isShapes 361 = .ok (.invokevirtual 46, 3) := by decide +kernel
theorem dL_isShapes_364 : decode cL_isShapes 364 = .ok (.lload 14, 2) := by decide +kernel
theorem dL_isShapes_366 : decode cL_isShapes 366 = .ok (.lcmp, 1) := by decide +kernel
theorem dL_isShapes_367 : decode cL_isShapes 367 = .ok (.ifCond .gt 7, 3) := by decide +kernel
theorem dL_isShapes_370 : decode cL_isShapes 370 = .ok (.iconst 1, 1) := by decide +kernel
theorem dL_isShapes_371 : decode cL_isShapes 371 = .ok (.goto 4, 3) := by decide +kernel
theorem dL_isShapes_374 : decode cL_isShapes 374 = .ok (.iconst 0, 1) := by decide +kernel
theorem dL_isShapes_375 : decode cL_isShapes 375 = .ok (.istore 4, 2) := by decide +kernel
theorem dL_isShapes_377 : decode cL_isShapes 377 = .ok (.iinc 5 1, 3) := by decide +kernel
theorem dL_isShapes_380 : decode cL_isShapes 380 = .ok (.goto 155, 3) := by decide +kernel
theorem dL_isShapes_383 : decode cL_isShapes 383 = .ok (.iload 11, 2) := by decide +kernel
theorem dL_isShapes_385 : decode cL_isShapes 385 = .ok (.iconst 4, 1) := by decide +kernel
theorem dL_isShapes_386 : decode cL_isShapes 386 = .ok (.if_icmp .ge 84, 3) := by decide +kernel
theorem dL_isShapes_389 : decode cL_isShapes 389 = .ok (.aload_n 0, 1) := by decide +kernel
theorem dL_isShapes_390 : decode cL_isShapes 390 = .ok (.iload 12, 2) := by decide +kernel
theorem dL_isShapes_392 : decode cL_isShapes 392 = .ok (.iload 10, 2) := by decide +kernel
theorem dL_isShapes_394 : decode cL_isShapes 394 = .ok (.iconst 4, 1) := by decide +kernel
theorem dL_isShapes_395 : decode cL_isShapes 395 = .ok (.irem, 1) := by decide +kernel
theorem dL_isShapes_396 : decode cL_isShapes 396 = .ok (.iload 13, 2) := by decide +kernel
