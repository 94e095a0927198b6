theorem dX5_column_36 : decode cX5_column 36 = .ok (.lsub, 1) := by decide +kernel
theorem dX5_column_37 : decode cX5_column 37 = .ok (.lstore 7, 2) := by decide +kernel
theorem dX5_column_39 : decode cX5_column 39 = .ok (.aload_n 0, 1) := by decide +kernel
theorem dX5_column_40 : decode cX5_column 40 = .ok (.getfield 29, 3) := by decide +kernel
theorem dX5_column_43 : decode cX5_column 43 = .ok (.iload 6, 2) := by decide +kernel
theorem dX5_column_45 : decode cX5_column 45 = .ok (.laload, 1) := by decide +kernel
theorem dX5_column_46 : decode cX5_column 46 = .ok (.lconst 0, 1) := by decide +kernel
theorem dX5_column_47 : decode cX5_column 47 = .ok (.lcmp, 1) := by decide +kernel
theorem dX5_column_48 : decode cX5_column 48 = .ok (.ifCond .le 49, 3) := by decide +kernel
theorem dX5_column_51 : decode cX5_column 51 = .ok (.lload 7, 2) := by decide +kernel
theorem dX5_column_53 : decode cX5_column 53 = .ok (.aload_n 0, 1) := by decide +kernel
theorem dX5_column_54 : decode cX5_column 54 = .ok (.getfield 29, 3) := by decide +kernel
theorem dX5_column_57 : decode cX5_column 57 = .ok (.iload 6, 2) := by decide +kernel
theorem dX5_column_59 : decode cX5_column 59 = .ok (.laload, 1) := by decide +kernel
theorem dX5_column_60 : decode cX5_column 60 = .ok (.invokestatic 74, 3) := by decide +kernel
theorem dX5_column_63 : decode cX5_column 63 = .ok (.lstore 9, 2) := by decide +kernel
theorem dX5_column_65 : decode cX5_column 65 = .ok (.aload_n 0, 1) := by decide +kernel
theorem dX5_column_66 : decode cX5_column 66 = .ok (.iload_n 3, 1) := by decide +kernel
theorem dX5_column_67 : decode cX5_column 67 = .ok (.ifCond .eq 13, 3) := by decide +kernel
theorem dX5_column_70 : decode cX5_column 70 = .ok (.lload 9, 2) := by decide +kernel
theorem dX5_column_72 : decode cX5_column 72 = .ok (.aload_n 0, 1) := by decide +kernel
theorem dX5_column_73 : decode cX5_column 73 = .ok (.getfield 104, 3) := by decide +kernel
theorem dX5_column_76 : decode cX5_column 76 = .ok (.lcmp, 1) := by decide +kernel
theorem dX5_column_77 : decode cX5_column 77 = .ok (.ifCond .ge 8, 3) := by decide +kernel
theorem dX5_column_80 : decode cX5_column 80 = .ok (.lload 9, 2) := by decide +kernel
theorem dX5_column_82 : decode cX5_column 82 = .ok (.goto 7, 3) := by decide +kernel
theorem dX5_column_85 : decode cX5_column 85 = .ok (.aload_n 0, 1) := by decide +kernel
theorem dX5_column_86 : decode cX5_column 86 = .ok (.getfield 104, 3) := by decide +kernel
theorem dX5_column_89 : decode cX5_column 89 = .ok (.putfield 104, 3) := by decide +kernel
theorem dX5_column_92 : decode cX5_column 92 = .ok (.iconst 1, 1) := by decide +kernel
theorem dX5_column_93 : decode cX5_column 93 = .ok (.istore_n 3, 1) := by decide +kernel
theorem dX5_column_94 : decode cX5_column 94 = .ok (.goto 84, 3) := by decide +kernel
theorem dX5_column_97 : decode cX5_column 97 = .ok (.aload_n 0, 1) := by decide +kernel
theorem dX5_column_98 : decode cX5_column 98 = .ok (.getfield 29, 3) := by decide +kernel
theorem dX5_column_101 : decode cX5_column 101 = .ok (.iload 6, 2) := by decide +kernel
theorem dX5_column_103 : decode cX5_column 103 = .ok (.laload, 1) := by decide +kernel
theorem dX5_column_104 : decode cX5_column 104 = .ok (.lconst 0, 1) := by decide +kernel
theorem dX5_column_105 : decode cX5_column 105 = .ok (.lcmp, 1) := by decide +kernel
theorem dX5_column_106 : decode cX5_column 106 = .ok (.ifCond .ge 53, 3) := by decide +kernel
theorem dX5_column_109 : decode cX5_column 109 = .ok (.lload 7, 2) := by decide +kernel
theorem dX5_column_111 : decode cX5_column 111 = .ok (.aload_n 0, 1) := by decide +kernel
theorem dX5_column_112 : decode cX5_column 112 = .ok (.getfield 29, 3) := by decide +kernel
theorem dX5_column_115 : decode cX5_column 115 = .ok (.iload 6, 2) := by decide +kernel
theorem dX5_column_117 : decode cX5_column 117 = .ok (.laload, 1) := by decide +kernel
theorem dX5_column_118 : decode cX5_column 118 = .ok (.lneg, 1) := by decide +kernel
theorem dX5_column_119 : decode cX5_column 119 = .ok (.invokestatic 74, 3) := by decide +kernel
theorem dX5_column_122 : decode cX5_column 122 = .ok (.lneg, 1) := by decide +kernel
theorem dX5_column_123 : decode cX5_column 123 = .ok (.lstore 9, 2) := by decide +kernel
theorem dX5_column_125 : decode cX5_column 125 = .ok (.aload_n 0, 1) := by decide +kernel
theorem dX5_column_126 : decode cX5_column 126 = .ok (.iload 4, 2) := by decide +kernel
theorem dX5_column_128 : decode cX5_column 128 = .ok (.ifCond .eq 13, 3) := by decide +kernel
theorem dX5_column_131 : decode cX5_column 131 = .ok (.lload 9, 2) := by decide +kernel
theorem dX5_column_133 : decode cX5_column 133 = .ok (.aload_n 0, 1) := by decide +kernel
theorem dX5_column_134 : decode cX5_column 134 = .ok (.getfield 107, 3) := by decide +kernel
theorem dX5_column_137 : decode cX5_column 137 = .ok (.lcmp, 1) := by decide +kernel
theorem dX5_column_138 : decode cX5_column 138 = .ok (.ifCond .le 8, 3) := by decide +kernel
theorem dX5_column_141 : decode cX5_column 141 = .ok (.lload 9, 2) := by decide +kernel
theorem dX5_column_143 : decode cX5_column 143 = .ok (.goto 7, 3) := by decide +kernel
theorem dX5_column_146 : decode cX5_column 146 = .ok (.aload_n 0, 1) := by decide +kernel
theorem dX5_column_147 : decode cX5_column 147 = .ok (.getfield 107, 3) := by decide +kernel
theorem dX5_column_150 : decode cX5_column 150 = .ok (.putfield 107, 3) := by decide +kernel
theorem dX5_column_153 : decode cX5_column 153 = .ok (.iconst 1, 1) := by decide +kernel
theorem dX5_column_154 : decode cX5_column 154 = .ok (.istore 4, 2) := by decide +kernel
theorem dX5_column_156 : decode cX5_column 156 = .ok (.goto 22, 3) := by decide +kernel
theorem dX5_column_159 : decode cX5_column 159 = .ok (.iload 5, 2) := by decide +kernel
theorem dX5_column_161 : decode cX5_column 161 = .ok (.ifCond .eq 14, 3) := by decide +kernel
theorem dX5_column_164 : decode cX5_column 164 = .ok (.lload 7, 2) := by decide +kernel
theorem dX5_column_166 : decode cX5_column 166 = .ok (.lconst 0, 1) := by decide +kernel
theorem dX5_column_167 : decode cX5_column 167 = .ok (.lcmp, 1) := by decide +kernel
theorem dX5_column_168 : decode cX5_column 168 = .ok (.ifCond .lt 7, 3) := by decide +kernel
theorem dX5_column_171 : decode cX5_column 171 = .ok (.iconst 1, 1) := by decide +kernel
theorem dX5_column_172 : decode cX5_column 172 = .ok (.goto 4, 3) := by decide +kernel
theorem dX5_column_175 : decode cX5_column 175 = .ok (.iconst 0, 1) := by decide +kernel
theorem dX5_column_176 : decode cX5_column 176 = .ok (.istore 5, 2) := by decide +kernel
theorem dX5_column_178 : decode cX5_column 178 = .ok (.iinc 6 1, 3) := by decide +kernel
theorem dX5_column_181 : decode cX5_column 181 = .ok (.goto (-170), 3) := by decide +kernel
theorem dX5_column_184 : decode cX5_column 184 = .ok (.iload 5, 2) := by decide +kernel
theorem dX5_column_186 : decode cX5_column 186 = .ok (.ifCond .eq 29, 3) := by decide +kernel
theorem dX5_column_189 : decode cX5_column 189 = .ok (.aload_n 0, 1) := by decide +kernel
theorem dX5_column_190 : decode cX5_column 190 = .ok (.getfield 104, 3) := by decide +kernel
theorem dX5_column_193 : decode cX5_column 193 = .ok (.aload_n 0, 1) := by decide +kernel
theorem dX5_column_194 : decode cX5_column 194 = .ok (.getfield 107, 3) := by decide +kernel
theorem dX5_column_197 : decode cX5_column 197 = .ok (.lcmp, 1) := by decide +kernel
theorem dX5_column_198 : decode cX5_column 198 = .ok (.ifCond .lt 17, 3) := by decide +kernel
theorem dX5_column_201 : decode cX5_column 201 = .ok (.aload_n 0, 1) := by decide +kernel
theorem dX5_column_202 : decode cX5_column 202 = .ok (.getfield 104, 3) := by decide +kernel
theorem dX5_column_205 : decode cX5_column 205 = .ok (.aload_n 0, 1) := by decide +kernel
theorem dX5_column_206 : decode cX5_column 206 = .ok (.getfield 107, 3) := by decide +kernel
theorem dX5_column_209 : decode cX5_column 209 = .ok (.lsub, 1) := by decide +kernel
theorem dX5_column_210 : decode cX5_column 210 = .ok (.lconst 1, 1) := by decide +kernel
theorem dX5_column_211 : decode cX5_column 211 = .ok (.ladd, 1) := by decide +kernel
theorem dX5_column_212 : decode cX5_column 212 = .ok (.goto 4, 3) := by decide +kernel
theorem dX5_column_215 : decode cX5_column 215 = .ok (.lconst 0, 1) := by decide +kernel
theorem dX5_column_216 : decode cX5_column 216 = .ok (.lreturn, 1) := by decide +kernel
theorem dX5_counts_0 : decode cX5_counts 0 = .ok (.aload_n 0, 1) := by decide +kernel
theorem dX5_counts_1 : decode cX5_counts 1 = .ok (.iconst 0, 1) := by decide +kernel
theorem dX5_counts_2 : decode cX5_counts 2 = .ok (.putfield 100, 3) := by decide +kernel
theorem dX5_counts_5 : decode cX5_counts 5 = .ok (.aload_n 0, 1) := by decide +kernel
theorem dX5_counts_6 : decode cX5_counts 6 = .ok (.iload_n 1, 1) := by decide +kernel
theorem dX5_counts_7 : decode cX5_counts 7 = .ok (.iload_n 2, 1) := by decide +kernel
theorem dX5_counts_8 : decode cX5_counts 8 = .ok (.iload_n 3, 1) := by decide +kernel
theorem dX5_counts_9 : decode cX5_counts 9 = .ok (.iload 4, 2) := by decide +kernel
theorem dX5_counts_11 : decode cX5_counts 11 = .ok (.invokevirtual 110, 3) := by decide +kernel
theorem dX5_counts_14 : decode cX5_counts 14 = .ok (.lconst 0, 1) := by decide +kernel
theorem dX5_counts_15 : decode cX5_counts 15 = .ok (.lstore 5, 2) := by decide +kernel
theorem dX5_counts_17 : decode cX5_counts 17 = .ok (.aload_n 0, 1) := by decide +kernel
theorem dX5_counts_18 : decode cX5_counts 18 = .ok (.getfield 87, 3) := by decide +kernel
theorem dX5_counts_21 : decode cX5_counts 21 = .ok (.lstore 7, 2) := by decide +kernel
theorem dX5_counts_23 : decode cX5_counts 23 = .ok (.lload 7, 2) := by decide +kernel
theorem dX5_counts_25 : decode cX5_counts 25 = .ok (.aload_n 0, 1) := by decide +kernel
theorem dX5_counts_26 : decode cX5_counts 26 = .ok (.getfield 91, 3) := by decide +kernel
theorem dX5_counts_29 : decode cX5_counts 29 = .ok (.lcmp, 1) := by decide +kernel
theorem dX5_counts_30 : decode cX5_counts 30 = .ok (.ifCond .gt 23, 3) := by decide +kernel
theorem dX5_counts_33 : decode cX5_counts 33 = .ok (.lload 5, 2) := by decide +kernel
theorem dX5_counts_35 : decode cX5_counts 35 = .ok (.aload_n 0, 1) := by decide +kernel
theorem dX5_counts_36 : decode cX5_counts 36 = .ok (.lload 7, 2) := by decide +kernel
theorem dX5_counts_38 : decode cX5_counts 38 = .ok (.invokevirtual 114, 3) := by decide +kernel
theorem dX5_counts_41 : decode cX5_counts 41 = .ok (.ladd, 1) := by decide +kernel
theorem dX5_counts_42 : decode cX5_counts 42 = .ok (.lstore 5, 2) := by decide +kernel
theorem dX5_counts_44 : decode cX5_counts 44 = .ok (.lload 7, 2) := by decide +kernel
theorem dX5_counts_46 : decode cX5_counts 46 = .ok (.lconst 1, 1) := by decide +kernel
theorem dX5_counts_47 : decode cX5_counts 47 = .ok (.ladd, 1) := by decide +kernel
theorem dX5_counts_48 : decode cX5_counts 48 = .ok (.lstore 7, 2) := by decide +kernel
theorem dX5_counts_50 : decode cX5_counts 50 = .ok (.goto (-27), 3) := by decide +kernel
theorem dX5_counts_53 : decode cX5_counts 53 = .ok (.lload 5, 2) := by decide +kernel
theorem dX5_counts_55 : decode cX5_counts 55 = .ok (.lreturn, 1) := by decide +kernel
theorem dX5_counted_0 : decode cX5_counted 0 = .ok (.aload_n 0, 1) := by decide +kernel
theorem dX5_counted_1 : decode cX5_counted 1 = .ok (.aload_n 0, 1) := by decide +kernel
theorem dX5_counted_2 : decode cX5_counted 2 = .ok (.iload_n 1, 1) := by decide +kernel
theorem dX5_counted_3 : decode cX5_counted 3 = .ok (.invokevirtual 62, 3) := by decide +kernel
theorem dX5_counted_6 : decode cX5_counted 6 = .ok (.ifCond .ne 7, 3) := by decide +kernel
theorem dX5_counted_9 : decode cX5_counted 9 = .ok (.iconst 1, 1) := by decide +kernel
theorem dX5_counted_10 : decode cX5_counted 10 = .ok (.goto 30, 3) := by decide +kernel
theorem dX5_counted_13 : decode cX5_counted 13 = .ok (.iload_n 2, 1) := by decide +kernel
theorem dX5_counted_14 : decode cX5_counted 14 = .ok (.iconst 0, 1) := by decide +kernel
theorem dX5_counted_15 : decode cX5_counted 15 = .ok (.bipush 9, 2) := by decide +kernel
theorem dX5_counted_17 : decode cX5_counted 17 = .ok (.invokestatic 58, 3) := by decide +kernel
theorem dX5_counted_20 : decode cX5_counted 20 = .ok (.ifCond .ne 7, 3) := by decide +kernel
theorem dX5_counted_23 : decode cX5_counted 23 = .ok (.iconst 2, 1) := by decide +kernel
theorem dX5_counted_24 : decode cX5_counted 24 = .ok (.goto 16, 3) := by decide +kernel
theorem dX5_counted_27 : decode cX5_counted 27 = .ok (.aload_n 0, 1) := by decide +kernel
theorem dX5_counted_28 : decode cX5_counted 28 = .ok (.iload_n 1, 1) := by decide +kernel
theorem dX5_counted_29 : decode cX5_counted 29 = .ok (.invokevirtual 81, 3) := by decide +kernel
theorem dX5_counted_32 : decode cX5_counted 32 = .ok (.ifCond .ne 7, 3) := by decide +kernel
theorem dX5_counted_35 : decode cX5_counted 35 = .ok (.iconst 3, 1) := by decide +kernel
theorem dX5_counted_36 : decode cX5_counted 36 = .ok (.goto 4, 3) := by decide +kernel
theorem dX5_counted_39 : decode cX5_counted 39 = .ok (.iconst 0, 1) := by decide +kernel
theorem dX5_counted_40 : decode cX5_counted 40 = .ok (.putfield 51, 3) := by decide +kernel
theorem dX5_counted_43 : decode cX5_counted 43 = .ok (.aload_n 0, 1) := by decide +kernel
theorem dX5_counted_44 : decode cX5_counted 44 = .ok (.getfield 51, 3) := by decide +kernel
theorem dX5_counted_47 : decode cX5_counted 47 = .ok (.ifCond .eq 7, 3) := by decide +kernel
theorem dX5_counted_50 : decode cX5_counted 50 = .ok (.lconst 0, 1) := by decide +kernel
theorem dX5_counted_51 : decode cX5_counted 51 = .ok (.goto 11, 3) := by decide +kernel
theorem dX5_counted_54 : decode cX5_counted 54 = .ok (.aload_n 0, 1) := by decide +kernel
theorem dX5_counted_55 : decode cX5_counted 55 = .ok (.iload_n 1, 1) := by decide +kernel
theorem dX5_counted_56 : decode cX5_counted 56 = .ok (.iload_n 2, 1) := by decide +kernel
theorem dX5_counted_57 : decode cX5_counted 57 = .ok (.iconst (-1), 1) := by decide +kernel
theorem dX5_counted_58 : decode cX5_counted 58 = .ok (.iconst 0, 1) := by decide +kernel
theorem dX5_counted_59 : decode cX5_counted 59 = .ok (.invokevirtual 118, 3) := by decide +kernel
theorem dX5_counted_62 : decode cX5_counted 62 = .ok (.lreturn, 1) := by decide +kernel
theorem dX5_count_0 : decode cX5_count 0 = .ok (.aload_n 0, 1) := by decide +kernel
theorem dX5_count_1 : decode cX5_count 1 = .ok (.iload_n 1, 1) := by decide +kernel
theorem dX5_count_2 : decode cX5_count 2 = .ok (.iload_n 2, 1) := by decide +kernel
theorem dX5_count_3 : decode cX5_count 3 = .ok (.invokevirtual 122, 3) := by decide +kernel
theorem dX5_count_6 : decode cX5_count 6 = .ok (.lreturn, 1) := by decide +kernel
theorem dX5_countAnew_0 : decode cX5_countAnew 0 = .ok (.aload_n 0, 1) := by decide +kernel
theorem dX5_countAnew_1 : decode cX5_countAnew 1 = .ok (.iload_n 1, 1) := by decide +kernel
theorem dX5_countAnew_2 : decode cX5_countAnew 2 = .ok (.iload_n 2, 1) := by decide +kernel
theorem dX5_countAnew_3 : decode cX5_countAnew 3 = .ok (.invokevirtual 122, 3) := by decide +kernel
theorem dX5_countAnew_6 : decode cX5_countAnew 6 = .ok (.lreturn, 1) := by decide +kernel
theorem dX5_blown_0 : decode cX5_blown 0 = .ok (.aload_n 0, 1) := by decide +kernel
theorem dX5_blown_1 : decode cX5_blown 1 = .ok (.aload_n 0, 1) := by decide +kernel
theorem dX5_blown_2 : decode cX5_blown 2 = .ok (.iload_n 1, 1) := by decide +kernel
theorem dX5_blown_3 : decode cX5_blown 3 = .ok (.invokevirtual 62, 3) := by decide +kernel
theorem dX5_blown_6 : decode cX5_blown 6 = .ok (.ifCond .ne 7, 3) := by decide +kernel
theorem dX5_blown_9 : decode cX5_blown 9 = .ok (.iconst 1, 1) := by decide +kernel
theorem dX5_blown_10 : decode cX5_blown 10 = .ok (.goto 30, 3) := by decide +kernel
theorem dX5_blown_13 : decode cX5_blown 13 = .ok (.iload_n 2, 1) := by decide +kernel
theorem dX5_blown_14 : decode cX5_blown 14 = .ok (.iconst 0, 1) := by decide +kernel
theorem dX5_blown_15 : decode cX5_blown 15 = .ok (.bipush 9, 2) := by decide +kernel
theorem dX5_blown_17 : decode cX5_blown 17 = .ok (.invokestatic 58, 3) := by decide +kernel
theorem dX5_blown_20 : decode cX5_blown 20 = .ok (.ifCond .ne 7, 3) := by decide +kernel
theorem dX5_blown_23 : decode cX5_blown 23 = .ok (.iconst 2, 1) := by decide +kernel
theorem dX5_blown_24 : decode cX5_blown 24 = .ok (.goto 16, 3) := by decide +kernel
theorem dX5_blown_27 : decode cX5_blown 27 = .ok (.aload_n 0, 1) := by decide +kernel
theorem dX5_blown_28 : decode cX5_blown 28 = .ok (.iload_n 1, 1) := by decide +kernel
theorem dX5_blown_29 : decode cX5_blown 29 = .ok (.invokevirtual 81, 3) := by decide +kernel
theorem dX5_blown_32 : decode cX5_blown 32 = .ok (.ifCond .ne 7, 3) := by decide +kernel
theorem dX5_blown_35 : decode cX5_blown 35 = .ok (.iconst 3, 1) := by decide +kernel
theorem dX5_blown_36 : decode cX5_blown 36 = .ok (.goto 4, 3) := by decide +kernel
theorem dX5_blown_39 : decode cX5_blown 39 = .ok (.iconst 0, 1) := by decide +kernel
theorem dX5_blown_40 : decode cX5_blown 40 = .ok (.putfield 51, 3) := by decide +kernel
theorem dX5_blown_43 : decode cX5_blown 43 = .ok (.aload_n 0, 1) := by decide +kernel
theorem dX5_blown_44 : decode cX5_blown 44 = .ok (.getfield 51, 3) := by decide +kernel
theorem dX5_blown_47 : decode cX5_blown 47 = .ok (.ifCond .eq 7, 3) := by decide +kernel
theorem dX5_blown_50 : decode cX5_blown 50 = .ok (.lconst 0, 1) := by decide +kernel
theorem dX5_blown_51 : decode cX5_blown 51 = .ok (.goto 11, 3) := by decide +kernel
theorem dX5_blown_54 : decode cX5_blown 54 = .ok (.aload_n 0, 1) := by decide +kernel
theorem dX5_blown_55 : decode cX5_blown 55 = .ok (.iload_n 1, 1) := by decide +kernel
theorem dX5_blown_56 : decode cX5_blown 56 = .ok (.iconst 0, 1) := by decide +kernel
theorem dX5_blown_57 : decode cX5_blown 57 = .ok (.iload_n 2, 1) := by decide +kernel
theorem dX5_blown_58 : decode cX5_blown 58 = .ok (.iload_n 3, 1) := by decide +kernel
theorem dX5_blown_59 : decode cX5_blown 59 = .ok (.invokevirtual 118, 3) := by decide +kernel
theorem dX5_blown_62 : decode cX5_blown 62 = .ok (.lreturn, 1) := by decide +kernel
theorem dX5_best_0 : decode cX5_best 0 = .ok (.iload_n 2, 1) := by decide +kernel
theorem dX5_best_1 : decode cX5_best 1 = .ok (.iconst 0, 1) := by decide +kernel
theorem dX5_best_2 : decode cX5_best 2 = .ok (.bipush 9, 2) := by decide +kernel
theorem dX5_best_4 : decode cX5_best 4 = .ok (.invokestatic 58, 3) := by decide +kernel
theorem dX5_best_7 : decode cX5_best 7 = .ok (.ifCond .eq 40, 3) := by decide +kernel
theorem dX5_best_10 : decode cX5_best 10 = .ok (.iload_n 3, 1) := by decide +kernel
theorem dX5_best_11 : decode cX5_best 11 = .ok (.bipush (-99), 2) := by decide +kernel
theorem dX5_best_13 : decode cX5_best 13 = .ok (.bipush 99, 2) := by decide +kernel
theorem dX5_best_15 : decode cX5_best 15 = .ok (.invokestatic 58, 3) := by decide +kernel
theorem dX5_best_18 : decode cX5_best 18 = .ok (.ifCond .eq 29, 3) := by decide +kernel
theorem dX5_best_21 : decode cX5_best 21 = .ok (.iload 4, 2) := by decide +kernel
theorem dX5_best_23 : decode cX5_best 23 = .ok (.bipush (-99), 2) := by decide +kernel
theorem dX5_best_25 : decode cX5_best 25 = .ok (.bipush 99, 2) := by decide +kernel
theorem dX5_best_27 : decode cX5_best 27 = .ok (.invokestatic 58, 3) := by decide +kernel
theorem dX5_best_30 : decode cX5_best 30 = .ok (.ifCond .eq 17, 3) := by decide +kernel
theorem dX5_best_33 : decode cX5_best 33 = .ok (.iload 5, 2) := by decide +kernel
theorem dX5_best_35 : decode cX5_best 35 = .ok (.iconst 0, 1) := by decide +kernel
theorem dX5_best_36 : decode cX5_best 36 = .ok (.iconst 2, 1) := by decide +kernel
theorem dX5_best_37 : decode cX5_best 37 = .ok (.invokestatic 58, 3) := by decide +kernel
theorem dX5_best_40 : decode cX5_best 40 = .ok (.ifCond .eq 7, 3) := by decide +kernel
theorem dX5_best_43 : decode cX5_best 43 = .ok (.iconst 1, 1) := by decide +kernel
theorem dX5_best_44 : decode cX5_best 44 = .ok (.goto 4, 3) := by decide +kernel
theorem dX5_best_47 : decode cX5_best 47 = .ok (.iconst 0, 1) := by decide +kernel
theorem dX5_best_48 : decode cX5_best 48 = .ok (.istore 6, 2) := by decide +kernel
theorem dX5_best_50 : decode cX5_best 50 = .ok (.aload_n 0, 1) := by decide +kernel
theorem dX5_best_51 : decode cX5_best 51 = .ok (.aload_n 0, 1) := by decide +kernel
theorem dX5_best_52 : decode cX5_best 52 = .ok (.iload_n 1, 1) := by decide +kernel
theorem dX5_best_53 : decode cX5_best 53 = .ok (.invokevirtual 62, 3) := by decide +kernel
theorem dX5_best_56 : decode cX5_best 56 = .ok (.ifCond .ne 7, 3) := by decide +kernel
theorem dX5_best_59 : decode cX5_best 59 = .ok (.iconst 1, 1) := by decide +kernel
theorem dX5_best_60 : decode cX5_best 60 = .ok (.goto 25, 3) := by decide +kernel
theorem dX5_best_63 : decode cX5_best 63 = .ok (.iload 6, 2) := by decide +kernel
theorem dX5_best_65 : decode cX5_best 65 = .ok (.ifCond .ne 7, 3) := by decide +kernel
theorem dX5_best_68 : decode cX5_best 68 = .ok (.iconst 2, 1) := by decide +kernel
theorem dX5_best_69 : decode cX5_best 69 = .ok (.goto 16, 3) := by decide +kernel
theorem dX5_best_72 : decode cX5_best 72 = .ok (.aload_n 0, 1) := by decide +kernel
theorem dX5_best_73 : decode cX5_best 73 = .ok (.iload_n 1, 1) := by decide +kernel
theorem dX5_best_74 : decode cX5_best 74 = .ok (.invokevirtual 81, 3) := by decide +kernel
theorem dX5_best_77 : decode cX5_best 77 = .ok (.ifCond .ne 7, 3) := by decide +kernel
theorem dX5_best_80 : decode cX5_best 80 = .ok (.iconst 3, 1) := by decide +kernel
theorem dX5_best_81 : decode cX5_best 81 = .ok (.goto 4, 3) := by decide +kernel
theorem dX5_best_84 : decode cX5_best 84 = .ok (.iconst 0, 1) := by decide +kernel
theorem dX5_best_85 : decode cX5_best 85 = .ok (.putfield 51, 3) := by decide +kernel
theorem dX5_best_88 : decode cX5_best 88 = .ok (.aload_n 0, 1) := by decide +kernel
theorem dX5_best_89 : decode cX5_best 89 = .ok (.getfield 51, 3) := by decide +kernel
theorem dX5_best_92 : decode cX5_best 92 = .ok (.ifCond .eq 5, 3) := by decide +kernel
theorem dX5_best_95 : decode cX5_best 95 = .ok (.iconst 0, 1) := by decide +kernel
theorem dX5_best_96 : decode cX5_best 96 = .ok (.ireturn, 1) := by decide +kernel
theorem dX5_best_97 : decode cX5_best 97 = .ok (.aload_n 0, 1) := by decide +kernel
theorem dX5_best_98 : decode cX5_best 98 = .ok (.iconst 0, 1) := by decide +kernel
theorem dX5_best_99 : decode cX5_best 99 = .ok (.putfield 100, 3) := by decide +kernel
theorem dX5_best_102 : decode cX5_best 102 = .ok (.aload_n 0, 1) := by decide +kernel
theorem dX5_best_103 : decode cX5_best 103 = .ok (.iload_n 1, 1) := by decide +kernel
theorem dX5_best_104 : decode cX5_best 104 = .ok (.iload_n 2, 1) := by decide +kernel
theorem dX5_best_105 : decode cX5_best 105 = .ok (.iconst (-1), 1) := by decide +kernel
theorem dX5_best_106 : decode cX5_best 106 = .ok (.iconst 0, 1) := by decide +kernel
theorem dX5_best_107 : decode cX5_best 107 = .ok (.invokevirtual 110, 3) := by decide +kernel
theorem dX5_best_110 : decode cX5_best 110 = .ok (.iconst 0, 1) := by decide +kernel
theorem dX5_best_111 : decode cX5_best 111 = .ok (.istore 7, 2) := by decide +kernel
theorem dX5_best_113 : decode cX5_best 113 = .ok (.lconst 0, 1) := by decide +kernel
theorem dX5_best_114 : decode cX5_best 114 = .ok (.lstore 8, 2) := by decide +kernel
theorem dX5_best_116 : decode cX5_best 116 = .ok (.lconst 0, 1) := by decide +kernel
theorem dX5_best_117 : decode cX5_best 117 = .ok (.lstore 10, 2) := by decide +kernel
theorem dX5_best_119 : decode cX5_best 119 = .ok (.lconst 0, 1) := by decide +kernel
theorem dX5_best_120 : decode cX5_best 120 = .ok (.lstore 12, 2) := by decide +kernel
theorem dX5_best_122 : decode cX5_best 122 = .ok (.aload_n 0, 1) := by decide +kernel
theorem dX5_best_123 : decode cX5_best 123 = .ok (.getfield 87, 3) := by decide +kernel
theorem dX5_best_126 : decode cX5_best 126 = .ok (.lstore 14, 2) := by decide +kernel
theorem dX5_best_128 : decode cX5_best 128 = .ok (.lload 14, 2) := by decide +kernel
theorem dX5_best_130 : decode cX5_best 130 = .ok (.aload_n 0, 1) := by decide +kernel
theorem dX5_best_131 : decode cX5_best 131 = .ok (.getfield 91, 3) := by decide +kernel
theorem dX5_best_134 : decode cX5_best 134 = .ok (.lcmp, 1) := by decide +kernel
theorem dX5_best_135 : decode cX5_best 135 = .ok (.ifCond .gt 83, 3) := by decide +kernel
theorem dX5_best_138 : decode cX5_best 138 = .ok (.aload_n 0, 1) := by decide +kernel
theorem dX5_best_139 : decode cX5_best 139 = .ok (.lload 14, 2) := by decide +kernel
theorem dX5_best_141 : decode cX5_best 141 = .ok (.invokevirtual 114, 3) := by decide +kernel
theorem dX5_best_144 : decode cX5_best 144 = .ok (.lconst 0, 1) := by decide +kernel
theorem dX5_best_145 : decode cX5_best 145 = .ok (.lcmp, 1) := by decide +kernel
theorem dX5_best_146 : decode cX5_best 146 = .ok (.ifCond .le 63, 3) := by decide +kernel
theorem dX5_best_149 : decode cX5_best 149 = .ok (.iload 4, 2) := by decide +kernel
theorem dX5_best_151 : decode cX5_best 151 = .ok (.ifCond .le 10, 3) := by decide +kernel
theorem dX5_best_154 : decode cX5_best 154 = .ok (.aload_n 0, 1) := by decide +kernel
theorem dX5_best_155 : decode cX5_best 155 = .ok (.getfield 104, 3) := by decide +kernel
theorem dX5_best_158 : decode cX5_best 158 = .ok (.goto 7, 3) := by decide +kernel
theorem dX5_best_161 : decode cX5_best 161 = .ok (.aload_n 0, 1) := by decide +kernel
theorem dX5_best_162 : decode cX5_best 162 = .ok (.getfield 107, 3) := by decide +kernel
theorem dX5_best_165 : decode cX5_best 165 = .ok (.lstore 16, 2) := by decide +kernel
theorem dX5_best_167 : decode cX5_best 167 = .ok (.iload_n 3, 1) := by decide +kernel
theorem dX5_best_168 : decode cX5_best 168 = .ok (.i2l, 1) := by decide +kernel
theorem dX5_best_169 : decode cX5_best 169 = .ok (.lload 14, 2) := by decide +kernel
theorem dX5_best_171 : decode cX5_best 171 = .ok (.lmul, 1) := by decide +kernel
theorem dX5_best_172 : decode cX5_best 172 = .ok (.iload 4, 2) := by decide +kernel
theorem dX5_best_174 : decode cX5_best 174 = .ok (.i2l, 1) := by decide +kernel
theorem dX5_best_175 : decode cX5_best 175 = .ok (.lload 16, 2) := by decide +kernel
theorem dX5_best_177 : decode cX5_best 177 = .ok (.lmul, 1) := by decide +kernel
theorem dX5_best_178 : decode cX5_best 178 = .ok (.ladd, 1) := by decide +kernel
theorem dX5_best_179 : decode cX5_best 179 = .ok (.lstore 18, 2) := by decide +kernel
theorem dX5_best_181 : decode cX5_best 181 = .ok (.iload 7, 2) := by decide +kernel
theorem dX5_best_183 : decode cX5_best 183 = .ok (.ifCond .eq 11, 3) := by decide +kernel
theorem dX5_best_186 : decode cX5_best 186 = .ok (.lload 18, 2) := by decide +kernel
theorem dX5_best_188 : decode cX5_best 188 = .ok (.lload 8, 2) := by decide +kernel
theorem dX5_best_190 : decode cX5_best 190 = .ok (.lcmp, 1) := by decide +kernel
theorem dX5_best_191 : decode cX5_best 191 = .ok (.ifCond .le 15, 3) := by decide +kernel
theorem dX5_best_194 : decode cX5_best 194 = .ok (.lload 18, 2) := by decide +kernel
theorem dX5_best_196 : decode cX5_best 196 = .ok (.lstore 8, 2) := by decide +kernel
theorem dX5_best_198 : decode cX5_best 198 = .ok (.lload 14, 2) := by decide +kernel
theorem dX5_best_200 : decode cX5_best 200 = .ok (.lstore 10, 2) := by decide +kernel
theorem dX5_best_202 : decode cX5_best 202 = .ok (.lload 16, 2) := by decide +kernel
theorem dX5_best_204 : decode cX5_best 204 = .ok (.lstore 12, 2) := by decide +kernel
theorem dX5_best_206 : decode cX5_best 206 = .ok (.iconst 1, 1) := by decide +kernel
theorem dX5_best_207 : decode cX5_best 207 = .ok (.istore 7, 2) := by decide +kernel
theorem dX5_best_209 : decode cX5_best 209 = .ok (.lload 14, 2) := by decide +kernel
theorem dX5_best_211 : decode cX5_best 211 = .ok (.lconst 1, 1) := by decide +kernel
theorem dX5_best_212 : decode cX5_best 212 = .ok (.ladd, 1) := by decide +kernel
theorem dX5_best_213 : decode cX5_best 213 = .ok (.lstore 14, 2) := by decide +kernel
theorem dX5_best_215 : decode cX5_best 215 = .ok (.goto (-87), 3) := by decide +kernel
theorem dX5_best_218 : decode cX5_best 218 = .ok (.aload_n 0, 1) := by decide +kernel
theorem dX5_best_219 : decode cX5_best 219 = .ok (.iload 7, 2) := by decide +kernel
theorem dX5_best_221 : decode cX5_best 221 = .ok (.ifCond .eq 7, 3) := by decide +kernel
theorem dX5_best_224 : decode cX5_best 224 = .ok (.iconst 0, 1) := by decide +kernel
theorem dX5_best_225 : decode cX5_best 225 = .ok (.goto 4, 3) := by decide +kernel
theorem dX5_best_228 : decode cX5_best 228 = .ok (.iconst 3, 1) := by decide +kernel
theorem dX5_best_229 : decode cX5_best 229 = .ok (.putfield 51, 3) := by decide +kernel
theorem dX5_best_232 : decode cX5_best 232 = .ok (.iload 5, 2) := by decide +kernel
theorem dX5_best_234 : decode cX5_best 234 = .ok (.ifCond .ne 8, 3) := by decide +kernel
theorem dX5_best_237 : decode cX5_best 237 = .ok (.lload 8, 2) := by decide +kernel
theorem dX5_best_239 : decode cX5_best 239 = .ok (.goto 16, 3) := by decide +kernel
theorem dX5_best_242 : decode cX5_best 242 = .ok (.iload 5, 2) := by decide +kernel
theorem dX5_best_244 : decode cX5_best 244 = .ok (.iconst 1, 1) := by decide +kernel
theorem dX5_best_245 : decode cX5_best 245 = .ok (.if_icmp .ne 8, 3) := by decide +kernel
theorem dX5_best_248 : decode cX5_best 248 = .ok (.lload 10, 2) := by decide +kernel
theorem dX5_best_250 : decode cX5_best 250 = .ok (.goto 5, 3) := by decide +kernel
theorem dX5_best_253 : decode cX5_best 253 = .ok (.lload 12, 2) := by decide +kernel
theorem dX5_best_255 : decode cX5_best 255 = .ok (.l2i, 1) := by decide +kernel
theorem dX5_best_256 : decode cX5_best 256 = .ok (.ireturn, 1) := by decide +kernel
theorem dX5_common_0 : decode cX5_common 0 = .ok (.iload_n 0, 1) := by decide +kernel
theorem dX5_common_1 : decode cX5_common 1 = .ok (.ifCond .ge 8, 3) := by decide +kernel
theorem dX5_common_4 : decode cX5_common 4 = .ok (.iload_n 0, 1) := by decide +kernel
theorem dX5_common_5 : decode cX5_common 5 = .ok (.ineg, 1) := by decide +kernel
theorem dX5_common_6 : decode cX5_common 6 = .ok (.goto 4, 3) := by decide +kernel
theorem dX5_common_9 : decode cX5_common 9 = .ok (.iload_n 0, 1) := by decide +kernel
theorem dX5_common_10 : decode cX5_common 10 = .ok (.istore_n 2, 1) := by decide +kernel
theorem dX5_common_11 : decode cX5_common 11 = .ok (.iload_n 1, 1) := by decide +kernel
theorem dX5_common_12 : decode cX5_common 12 = .ok (.ifCond .ge 8, 3) := by decide +kernel
theorem dX5_common_15 : decode cX5_common 15 = .ok (.iload_n 1, 1) := by decide +kernel
theorem dX5_common_16 : decode cX5_common 16 = .ok (.ineg, 1) := by decide +kernel
theorem dX5_common_17 : decode cX5_common 17 = .ok (.goto 4, 3) := by decide +kernel
theorem dX5_common_20 : decode cX5_common 20 = .ok (.iload_n 1, 1) := by decide +kernel
theorem dX5_common_21 : decode cX5_common 21 = .ok (.istore_n 3, 1) := by decide +kernel
theorem dX5_common_22 : decode cX5_common 22 = .ok (.iload_n 3, 1) := by decide +kernel
theorem dX5_common_23 : decode cX5_common 23 = .ok (.ifCond .eq 16, 3) := by decide +kernel
theorem dX5_common_26 : decode cX5_common 26 = .ok (.iload_n 2, 1) := by decide +kernel
theorem dX5_common_27 : decode cX5_common 27 = .ok (.iload_n 3, 1) := by decide +kernel
theorem dX5_common_28 : decode cX5_common 28 = .ok (.irem, 1) := by decide +kernel
theorem dX5_common_29 : decode cX5_common 29 = .ok (.istore 4, 2) := by decide +kernel
theorem dX5_common_31 : decode cX5_common 31 = .ok (.iload_n 3, 1) := by decide +kernel
theorem dX5_common_32 : decode cX5_common 32 = .ok (.istore_n 2, 1) := by decide +kernel
theorem dX5_common_33 : decode cX5_common 33 = .ok (.iload 4, 2) := by decide +kernel
theorem dX5_common_35 : decode cX5_common 35 = .ok (.istore_n 3, 1) := by decide +kernel
theorem dX5_common_36 : decode cX5_common 36 = .ok (.goto (-14), 3) := by decide +kernel
theorem dX5_common_39 : decode cX5_common 39 = .ok (.iload_n 2, 1) := by decide +kernel
theorem dX5_common_40 : decode cX5_common 40 = .ok (.ireturn, 1) := by decide +kernel
theorem dX5_isCone_0 : decode cX5_isCone 0 = .ok (.iload_n 0, 1) := by decide +kernel
theorem dX5_isCone_1 : decode cX5_isCone 1 = .ok (.bipush (-20), 2) := by decide +kernel
theorem dX5_isCone_3 : decode cX5_isCone 3 = .ok (.bipush 20, 2) := by decide +kernel
theorem dX5_isCone_5 : decode cX5_isCone 5 = .ok (.invokestatic 58, 3) := by decide +kernel
theorem dX5_isCone_8 : decode cX5_isCone 8 = .ok (.ifCond .eq 49, 3) := by decide +kernel
theorem dX5_isCone_11 : decode cX5_isCone 11 = .ok (.iload_n 1, 1) := by decide +kernel
theorem dX5_isCone_12 : decode cX5_isCone 12 = .ok (.bipush (-20), 2) := by decide +kernel
theorem dX5_isCone_14 : decode cX5_isCone 14 = .ok (.bipush 20, 2) := by decide +kernel
theorem dX5_isCone_16 : decode cX5_isCone 16 = .ok (.invokestatic 58, 3) := by decide +kernel
theorem dX5_isCone_19 : decode cX5_isCone 19 = .ok (.ifCond .eq 38, 3) := by decide +kernel
theorem dX5_isCone_22 : decode cX5_isCone 22 = .ok (.iload_n 2, 1) := by decide +kernel
theorem dX5_isCone_23 : decode cX5_isCone 23 = .ok (.bipush (-20), 2) := by decide +kernel
theorem dX5_isCone_25 : decode cX5_isCone 25 = .ok (.bipush 20, 2) := by decide +kernel
theorem dX5_isCone_27 : decode cX5_isCone 27 = .ok (.invokestatic 58, 3) := by decide +kernel
theorem dX5_isCone_30 : decode cX5_isCone 30 = .ok (.ifCond .eq 27, 3) := by decide +kernel
theorem dX5_isCone_33 : decode cX5_isCone 33 = .ok (.iload_n 3, 1) := by decide +kernel
theorem dX5_isCone_34 : decode cX5_isCone 34 = .ok (.bipush (-20), 2) := by decide +kernel
theorem dX5_isCone_36 : decode cX5_isCone 36 = .ok (.bipush 20, 2) := by decide +kernel
theorem dX5_isCone_38 : decode cX5_isCone 38 = .ok (.invokestatic 58, 3) := by decide +kernel
theorem dX5_isCone_41 : decode cX5_isCone 41 = .ok (.ifCond .eq 16, 3) := by decide +kernel
theorem dX5_isCone_44 : decode cX5_isCone 44 = .ok (.iload_n 0, 1) := by decide +kernel
theorem dX5_isCone_45 : decode cX5_isCone 45 = .ok (.iload_n 3, 1) := by decide +kernel
theorem dX5_isCone_46 : decode cX5_isCone 46 = .ok (.imul, 1) := by decide +kernel
theorem dX5_isCone_47 : decode cX5_isCone 47 = .ok (.iload_n 1, 1) := by decide +kernel
theorem dX5_isCone_48 : decode cX5_isCone 48 = .ok (.iload_n 2, 1) := by decide +kernel
theorem dX5_isCone_49 : decode cX5_isCone 49 = .ok (.imul, 1) := by decide +kernel
theorem dX5_isCone_50 : decode cX5_isCone 50 = .ok (.if_icmp .eq 7, 3) := by decide +kernel
theorem dX5_isCone_53 : decode cX5_isCone 53 = .ok (.iconst 1, 1) := by decide +kernel
theorem dX5_isCone_54 : decode cX5_isCone 54 = .ok (.goto 4, 3) := by decide +kernel
theorem dX5_isCone_57 : decode cX5_isCone 57 = .ok (.iconst 0, 1) := by decide +kernel
theorem dX5_isCone_58 : decode cX5_isCone 58 = .ok (.ireturn, 1) := by decide +kernel
theorem dX5_index_0 : decode cX5_index 0 = .ok (.aload_n 0, 1) := by decide +kernel
theorem dX5_index_1 : decode cX5_index 1 = .ok (.iload_n 1, 1) := by decide +kernel
theorem dX5_index_2 : decode cX5_index 2 = .ok (.iload_n 2, 1) := by decide +kernel
theorem dX5_index_3 : decode cX5_index 3 = .ok (.iload_n 3, 1) := by decide +kernel
theorem dX5_index_4 : decode cX5_index 4 = .ok (.iload 4, 2) := by decide +kernel
theorem dX5_index_6 : decode cX5_index 6 = .ok (.invokestatic 126, 3) := by decide +kernel
theorem dX5_index_9 : decode cX5_index 9 = .ok (.ifCond .eq 7, 3) := by decide +kernel
theorem dX5_index_12 : decode cX5_index 12 = .ok (.iconst 0, 1) := by decide +kernel
theorem dX5_index_13 : decode cX5_index 13 = .ok (.goto 4, 3) := by decide +kernel
theorem dX5_index_16 : decode cX5_index 16 = .ok (.iconst 1, 1) := by decide +kernel
theorem dX5_index_17 : decode cX5_index 17 = .ok (.putfield 51, 3) := by decide +kernel
theorem dX5_index_20 : decode cX5_index 20 = .ok (.aload_n 0, 1) := by decide +kernel
theorem dX5_index_21 : decode cX5_index 21 = .ok (.getfield 51, 3) := by decide +kernel
theorem dX5_index_24 : decode cX5_index 24 = .ok (.ifCond .eq 5, 3) := by decide +kernel
theorem dX5_index_27 : decode cX5_index 27 = .ok (.iconst 0, 1) := by decide +kernel
theorem dX5_index_28 : decode cX5_index 28 = .ok (.ireturn, 1) := by decide +kernel
theorem dX5_index_29 : decode cX5_index 29 = .ok (.iload_n 1, 1) := by decide +kernel
theorem dX5_index_30 : decode cX5_index 30 = .ok (.iload 4, 2) := by decide +kernel
theorem dX5_index_32 : decode cX5_index 32 = .ok (.imul, 1) := by decide +kernel
theorem dX5_index_33 : decode cX5_index 33 = .ok (.iload_n 2, 1) := by decide +kernel
theorem dX5_index_34 : decode cX5_index 34 = .ok (.iload_n 3, 1) := by decide +kernel
theorem dX5_index_35 : decode cX5_index 35 = .ok (.imul, 1) := by decide +kernel
theorem dX5_index_36 : decode cX5_index 36 = .ok (.isub, 1) := by decide +kernel
theorem dX5_index_37 : decode cX5_index 37 = .ok (.iload_n 1, 1) := by decide +kernel
theorem dX5_index_38 : decode cX5_index 38 = .ok (.iload_n 2, 1) := by decide +kernel
theorem dX5_index_39 : decode cX5_index 39 = .ok (.invokestatic 130, 3) := by decide +kernel
theorem dX5_index_42 : decode cX5_index 42 = .ok (.iload_n 3, 1) := by decide +kernel
theorem dX5_index_43 : decode cX5_index 43 = .ok (.iload 4, 2) := by decide +kernel
theorem dX5_index_45 : decode cX5_index 45 = .ok (.invokestatic 130, 3) := by decide +kernel
theorem dX5_index_48 : decode cX5_index 48 = .ok (.imul, 1) := by decide +kernel
theorem dX5_index_49 : decode cX5_index 49 = .ok (.idiv, 1) := by decide +kernel
theorem dX5_index_50 : decode cX5_index 50 = .ok (.istore 5, 2) := by decide +kernel
theorem dX5_index_52 : decode cX5_index 52 = .ok (.iload 5, 2) := by decide +kernel
theorem dX5_index_54 : decode cX5_index 54 = .ok (.ifCond .ge 9, 3) := by decide +kernel
theorem dX5_index_57 : decode cX5_index 57 = .ok (.iload 5, 2) := by decide +kernel
theorem dX5_index_59 : decode cX5_index 59 = .ok (.ineg, 1) := by decide +kernel
theorem dX5_index_60 : decode cX5_index 60 = .ok (.goto 5, 3) := by decide +kernel
theorem dX5_index_63 : decode cX5_index 63 = .ok (.iload 5, 2) := by decide +kernel
theorem dX5_index_65 : decode cX5_index 65 = .ok (.ireturn, 1) := by decide +kernel
theorem dX5_generates_0 : decode cX5_generates 0 = .ok (.iload_n 1, 1) := by decide +kernel
theorem dX5_generates_1 : decode cX5_generates 1 = .ok (.iload_n 2, 1) := by decide +kernel
theorem dX5_generates_2 : decode cX5_generates 2 = .ok (.invokestatic 130, 3) := by decide +kernel
theorem dX5_generates_5 : decode cX5_generates 5 = .ok (.istore 5, 2) := by decide +kernel
theorem dX5_generates_7 : decode cX5_generates 7 = .ok (.iload_n 3, 1) := by decide +kernel
theorem dX5_generates_8 : decode cX5_generates 8 = .ok (.iload 4, 2) := by decide +kernel
theorem dX5_generates_10 : decode cX5_generates 10 = .ok (.invokestatic 130, 3) := by decide +kernel
theorem dX5_generates_13 : decode cX5_generates 13 = .ok (.istore 6, 2) := by decide +kernel
theorem dX5_generates_15 : decode cX5_generates 15 = .ok (.iload_n 1, 1) := by decide +kernel
theorem dX5_generates_16 : decode cX5_generates 16 = .ok (.iload 4, 2) := by decide +kernel
theorem dX5_generates_18 : decode cX5_generates 18 = .ok (.imul, 1) := by decide +kernel
theorem dX5_generates_19 : decode cX5_generates 19 = .ok (.iload_n 2, 1) := by decide +kernel
theorem dX5_generates_20 : decode cX5_generates 20 = .ok (.iload_n 3, 1) := by decide +kernel
theorem dX5_generates_21 : decode cX5_generates 21 = .ok (.imul, 1) := by decide +kernel
theorem dX5_generates_22 : decode cX5_generates 22 = .ok (.if_icmp .le 7, 3) := by decide +kernel
theorem dX5_generates_25 : decode cX5_generates 25 = .ok (.iconst 1, 1) := by decide +kernel
theorem dX5_generates_26 : decode cX5_generates 26 = .ok (.goto 4, 3) := by decide +kernel
theorem dX5_generates_29 : decode cX5_generates 29 = .ok (.iconst (-1), 1) := by decide +kernel
theorem dX5_generates_30 : decode cX5_generates 30 = .ok (.istore 7, 2) := by decide +kernel
theorem dX5_generates_32 : decode cX5_generates 32 = .ok (.iload_n 3, 1) := by decide +kernel
theorem dX5_generates_33 : decode cX5_generates 33 = .ok (.iload 6, 2) := by decide +kernel
theorem dX5_generates_35 : decode cX5_generates 35 = .ok (.idiv, 1) := by decide +kernel
theorem dX5_generates_36 : decode cX5_generates 36 = .ok (.istore 8, 2) := by decide +kernel
theorem dX5_generates_38 : decode cX5_generates 38 = .ok (.iload 4, 2) := by decide +kernel
theorem dX5_generates_40 : decode cX5_generates 40 = .ok (.iload 6, 2) := by decide +kernel
theorem dX5_generates_42 : decode cX5_generates 42 = .ok (.idiv, 1) := by decide +kernel
theorem dX5_generates_43 : decode cX5_generates 43 = .ok (.istore 9, 2) := by decide +kernel
theorem dX5_generates_45 : decode cX5_generates 45 = .ok (.aload_n 0, 1) := by decide +kernel
theorem dX5_generates_46 : decode cX5_generates 46 = .ok (.getfield 45, 3) := by decide +kernel
theorem dX5_generates_49 : decode cX5_generates 49 = .ok (.iconst 0, 1) := by decide +kernel
theorem dX5_generates_50 : decode cX5_generates 50 = .ok (.iload_n 1, 1) := by decide +kernel
theorem dX5_generates_51 : decode cX5_generates 51 = .ok (.iload 5, 2) := by decide +kernel
theorem dX5_generates_53 : decode cX5_generates 53 = .ok (.idiv, 1) := by decide +kernel
theorem dX5_generates_54 : decode cX5_generates 54 = .ok (.iastore, 1) := by decide +kernel
theorem dX5_generates_55 : decode cX5_generates 55 = .ok (.aload_n 0, 1) := by decide +kernel
theorem dX5_generates_56 : decode cX5_generates 56 = .ok (.getfield 48, 3) := by decide +kernel
theorem dX5_generates_59 : decode cX5_generates 59 = .ok (.iconst 0, 1) := by decide +kernel
theorem dX5_generates_60 : decode cX5_generates 60 = .ok (.iload_n 2, 1) := by decide +kernel
theorem dX5_generates_61 : decode cX5_generates 61 = .ok (.iload 5, 2) := by decide +kernel
theorem dX5_generates_63 : decode cX5_generates 63 = .ok (.idiv, 1) := by decide +kernel
theorem dX5_generates_64 : decode cX5_generates 64 = .ok (.iastore, 1) := by decide +kernel
theorem dX5_generates_65 : decode cX5_generates 65 = .ok (.aload_n 0, 1) := by decide +kernel
theorem dX5_generates_66 : decode cX5_generates 66 = .ok (.iconst 1, 1) := by decide +kernel
theorem dX5_generates_67 : decode cX5_generates 67 = .ok (.putfield 134, 3) := by decide +kernel
theorem dX5_generates_70 : decode cX5_generates 70 = .ok (.bipush (-40), 2) := by decide +kernel
theorem dX5_generates_72 : decode cX5_generates 72 = .ok (.istore 10, 2) := by decide +kernel
theorem dX5_generates_74 : decode cX5_generates 74 = .ok (.iload 10, 2) := by decide +kernel
theorem dX5_generates_76 : decode cX5_generates 76 = .ok (.bipush 40, 2) := by decide +kernel
theorem dX5_generates_78 : decode cX5_generates 78 = .ok (.if_icmp .gt 151, 3) := by decide +kernel
theorem dX5_generates_81 : decode cX5_generates 81 = .ok (.bipush (-40), 2) := by decide +kernel
theorem dX5_generates_83 : decode cX5_generates 83 = .ok (.istore 11, 2) := by decide +kernel
theorem dX5_generates_85 : decode cX5_generates 85 = .ok (.iload 11, 2) := by decide +kernel
theorem dX5_generates_87 : decode cX5_generates 87 = .ok (.bipush 40, 2) := by decide +kernel
theorem dX5_generates_89 : decode cX5_generates 89 = .ok (.if_icmp .gt 134, 3) := by decide +kernel
theorem dX5_generates_92 : decode cX5_generates 92 = .ok (.iload 7, 2) := by decide +kernel
theorem dX5_generates_94 : decode cX5_generates 94 = .ok (.aload_n 0, 1) := by decide +kernel
theorem dX5_generates_95 : decode cX5_generates 95 = .ok (.getfield 45, 3) := by decide +kernel
theorem dX5_generates_98 : decode cX5_generates 98 = .ok (.iconst 0, 1) := by decide +kernel
theorem dX5_generates_99 : decode cX5_generates 99 = .ok (.iaload, 1) := by decide +kernel
theorem dX5_generates_100 : decode cX5_generates 100 = .ok (.iload 11, 2) := by decide +kernel
theorem dX5_generates_102 : decode cX5_generates 102 = .ok (.imul, 1) := by decide +kernel
theorem dX5_generates_103 : decode cX5_generates 103 = .ok (.aload_n 0, 1) := by decide +kernel
theorem dX5_generates_104 : decode cX5_generates 104 = .ok (.getfield 48, 3) := by decide +kernel
theorem dX5_generates_107 : decode cX5_generates 107 = .ok (.iconst 0, 1) := by decide +kernel
