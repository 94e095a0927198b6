theorem dX5_move_152 : decode cX5_move 152 = .ok (.iload_n 2, 1) := by decide +kernel
theorem dX5_move_153 : decode cX5_move 153 = .ok (.ifCond .ne 8, 3) := by decide +kernel
theorem dX5_move_156 : decode cX5_move 156 = .ok (.iload 5, 2) := by decide +kernel
theorem dX5_move_158 : decode cX5_move 158 = .ok (.goto 16, 3) := by decide +kernel
theorem dX5_move_161 : decode cX5_move 161 = .ok (.iload_n 2, 1) := by decide +kernel
theorem dX5_move_162 : decode cX5_move 162 = .ok (.iconst 1, 1) := by decide +kernel
theorem dX5_move_163 : decode cX5_move 163 = .ok (.if_icmp .ne 8, 3) := by decide +kernel
theorem dX5_move_166 : decode cX5_move 166 = .ok (.iload 4, 2) := by decide +kernel
theorem dX5_move_168 : decode cX5_move 168 = .ok (.goto 6, 3) := by decide +kernel
theorem dX5_move_171 : decode cX5_move 171 = .ok (.iload 4, 2) := by decide +kernel
theorem dX5_move_173 : decode cX5_move 173 = .ok (.ineg, 1) := by decide +kernel
theorem dX5_move_174 : decode cX5_move 174 = .ok (.iastore, 1) := by decide +kernel
theorem dX5_move_175 : decode cX5_move 175 = .ok (.aload_n 0, 1) := by decide +kernel
theorem dX5_move_176 : decode cX5_move 176 = .ok (.getfield 16, 3) := by decide +kernel
theorem dX5_move_179 : decode cX5_move 179 = .ok (.iload_n 3, 1) := by decide +kernel
theorem dX5_move_180 : decode cX5_move 180 = .ok (.iload_n 2, 1) := by decide +kernel
theorem dX5_move_181 : decode cX5_move 181 = .ok (.ifCond .ne 8, 3) := by decide +kernel
theorem dX5_move_184 : decode cX5_move 184 = .ok (.iload 4, 2) := by decide +kernel
theorem dX5_move_186 : decode cX5_move 186 = .ok (.goto 18, 3) := by decide +kernel
theorem dX5_move_189 : decode cX5_move 189 = .ok (.iload_n 2, 1) := by decide +kernel
theorem dX5_move_190 : decode cX5_move 190 = .ok (.iconst 1, 1) := by decide +kernel
theorem dX5_move_191 : decode cX5_move 191 = .ok (.if_icmp .ne 11, 3) := by decide +kernel
theorem dX5_move_194 : decode cX5_move 194 = .ok (.iload 5, 2) := by decide +kernel
theorem dX5_move_196 : decode cX5_move 196 = .ok (.iload 4, 2) := by decide +kernel
theorem dX5_move_198 : decode cX5_move 198 = .ok (.isub, 1) := by decide +kernel
theorem dX5_move_199 : decode cX5_move 199 = .ok (.goto 5, 3) := by decide +kernel
theorem dX5_move_202 : decode cX5_move 202 = .ok (.iload 5, 2) := by decide +kernel
theorem dX5_move_204 : decode cX5_move 204 = .ok (.iastore, 1) := by decide +kernel
theorem dX5_move_205 : decode cX5_move 205 = .ok (.iinc 3 1, 3) := by decide +kernel
theorem dX5_move_208 : decode cX5_move 208 = .ok (.goto (-92), 3) := by decide +kernel
theorem dX5_move_211 : decode cX5_move 211 = .ok (.aload_n 0, 1) := by decide +kernel
theorem dX5_move_212 : decode cX5_move 212 = .ok (.getfield 7, 3) := by decide +kernel
theorem dX5_move_215 : decode cX5_move 215 = .ok (.iload_n 1, 1) := by decide +kernel
theorem dX5_move_216 : decode cX5_move 216 = .ok (.iaload, 1) := by decide +kernel
theorem dX5_move_217 : decode cX5_move 217 = .ok (.ireturn, 1) := by decide +kernel
theorem dX5_inequality_0 : decode cX5_inequality 0 = .ok (.aload_n 0, 1) := by decide +kernel
theorem dX5_inequality_1 : decode cX5_inequality 1 = .ok (.aload_n 0, 1) := by decide +kernel
theorem dX5_inequality_2 : decode cX5_inequality 2 = .ok (.iload_n 1, 1) := by decide +kernel
theorem dX5_inequality_3 : decode cX5_inequality 3 = .ok (.iload_n 2, 1) := by decide +kernel
theorem dX5_inequality_4 : decode cX5_inequality 4 = .ok (.invokevirtual 70, 3) := by decide +kernel
theorem dX5_inequality_7 : decode cX5_inequality 7 = .ok (.ifCond .ne 7, 3) := by decide +kernel
theorem dX5_inequality_10 : decode cX5_inequality 10 = .ok (.iconst 1, 1) := by decide +kernel
theorem dX5_inequality_11 : decode cX5_inequality 11 = .ok (.goto 17, 3) := by decide +kernel
theorem dX5_inequality_14 : decode cX5_inequality 14 = .ok (.iload_n 3, 1) := by decide +kernel
theorem dX5_inequality_15 : decode cX5_inequality 15 = .ok (.iconst 0, 1) := by decide +kernel
theorem dX5_inequality_16 : decode cX5_inequality 16 = .ok (.iconst 3, 1) := by decide +kernel
theorem dX5_inequality_17 : decode cX5_inequality 17 = .ok (.invokestatic 58, 3) := by decide +kernel
theorem dX5_inequality_20 : decode cX5_inequality 20 = .ok (.ifCond .ne 7, 3) := by decide +kernel
theorem dX5_inequality_23 : decode cX5_inequality 23 = .ok (.iconst 2, 1) := by decide +kernel
theorem dX5_inequality_24 : decode cX5_inequality 24 = .ok (.goto 4, 3) := by decide +kernel
theorem dX5_inequality_27 : decode cX5_inequality 27 = .ok (.iconst 0, 1) := by decide +kernel
theorem dX5_inequality_28 : decode cX5_inequality 28 = .ok (.putfield 51, 3) := by decide +kernel
theorem dX5_inequality_31 : decode cX5_inequality 31 = .ok (.aload_n 0, 1) := by decide +kernel
theorem dX5_inequality_32 : decode cX5_inequality 32 = .ok (.getfield 51, 3) := by decide +kernel
theorem dX5_inequality_35 : decode cX5_inequality 35 = .ok (.ifCond .eq 5, 3) := by decide +kernel
theorem dX5_inequality_38 : decode cX5_inequality 38 = .ok (.iconst 0, 1) := by decide +kernel
theorem dX5_inequality_39 : decode cX5_inequality 39 = .ok (.ireturn, 1) := by decide +kernel
theorem dX5_inequality_40 : decode cX5_inequality 40 = .ok (.bipush 10, 2) := by decide +kernel
theorem dX5_inequality_42 : decode cX5_inequality 42 = .ok (.iload_n 1, 1) := by decide +kernel
theorem dX5_inequality_43 : decode cX5_inequality 43 = .ok (.imul, 1) := by decide +kernel
theorem dX5_inequality_44 : decode cX5_inequality 44 = .ok (.iload_n 2, 1) := by decide +kernel
theorem dX5_inequality_45 : decode cX5_inequality 45 = .ok (.iadd, 1) := by decide +kernel
theorem dX5_inequality_46 : decode cX5_inequality 46 = .ok (.istore 4, 2) := by decide +kernel
theorem dX5_inequality_48 : decode cX5_inequality 48 = .ok (.iload_n 3, 1) := by decide +kernel
theorem dX5_inequality_49 : decode cX5_inequality 49 = .ok (.ifCond .ne 13, 3) := by decide +kernel
theorem dX5_inequality_52 : decode cX5_inequality 52 = .ok (.aload_n 0, 1) := by decide +kernel
theorem dX5_inequality_53 : decode cX5_inequality 53 = .ok (.getfield 13, 3) := by decide +kernel
theorem dX5_inequality_56 : decode cX5_inequality 56 = .ok (.iload 4, 2) := by decide +kernel
theorem dX5_inequality_58 : decode cX5_inequality 58 = .ok (.iaload, 1) := by decide +kernel
theorem dX5_inequality_59 : decode cX5_inequality 59 = .ok (.goto 40, 3) := by decide +kernel
theorem dX5_inequality_62 : decode cX5_inequality 62 = .ok (.iload_n 3, 1) := by decide +kernel
theorem dX5_inequality_63 : decode cX5_inequality 63 = .ok (.iconst 1, 1) := by decide +kernel
theorem dX5_inequality_64 : decode cX5_inequality 64 = .ok (.if_icmp .ne 13, 3) := by decide +kernel
theorem dX5_inequality_67 : decode cX5_inequality 67 = .ok (.aload_n 0, 1) := by decide +kernel
theorem dX5_inequality_68 : decode cX5_inequality 68 = .ok (.getfield 16, 3) := by decide +kernel
theorem dX5_inequality_71 : decode cX5_inequality 71 = .ok (.iload 4, 2) := by decide +kernel
theorem dX5_inequality_73 : decode cX5_inequality 73 = .ok (.iaload, 1) := by decide +kernel
theorem dX5_inequality_74 : decode cX5_inequality 74 = .ok (.goto 25, 3) := by decide +kernel
theorem dX5_inequality_77 : decode cX5_inequality 77 = .ok (.iload_n 3, 1) := by decide +kernel
theorem dX5_inequality_78 : decode cX5_inequality 78 = .ok (.iconst 2, 1) := by decide +kernel
theorem dX5_inequality_79 : decode cX5_inequality 79 = .ok (.if_icmp .ne 13, 3) := by decide +kernel
theorem dX5_inequality_82 : decode cX5_inequality 82 = .ok (.aload_n 0, 1) := by decide +kernel
theorem dX5_inequality_83 : decode cX5_inequality 83 = .ok (.getfield 19, 3) := by decide +kernel
theorem dX5_inequality_86 : decode cX5_inequality 86 = .ok (.iload 4, 2) := by decide +kernel
theorem dX5_inequality_88 : decode cX5_inequality 88 = .ok (.iaload, 1) := by decide +kernel
theorem dX5_inequality_89 : decode cX5_inequality 89 = .ok (.goto 10, 3) := by decide +kernel
theorem dX5_inequality_92 : decode cX5_inequality 92 = .ok (.aload_n 0, 1) := by decide +kernel
theorem dX5_inequality_93 : decode cX5_inequality 93 = .ok (.getfield 22, 3) := by decide +kernel
theorem dX5_inequality_96 : decode cX5_inequality 96 = .ok (.iload 4, 2) := by decide +kernel
theorem dX5_inequality_98 : decode cX5_inequality 98 = .ok (.iaload, 1) := by decide +kernel
theorem dX5_inequality_99 : decode cX5_inequality 99 = .ok (.ireturn, 1) := by decide +kernel
theorem dX5_isStep_0 : decode cX5_isStep 0 = .ok (.iconst 1, 1) := by decide +kernel
theorem dX5_isStep_1 : decode cX5_isStep 1 = .ok (.istore 4, 2) := by decide +kernel
theorem dX5_isStep_3 : decode cX5_isStep 3 = .ok (.bipush 10, 2) := by decide +kernel
theorem dX5_isStep_5 : decode cX5_isStep 5 = .ok (.iload_n 1, 1) := by decide +kernel
theorem dX5_isStep_6 : decode cX5_isStep 6 = .ok (.imul, 1) := by decide +kernel
theorem dX5_isStep_7 : decode cX5_isStep 7 = .ok (.istore 5, 2) := by decide +kernel
theorem dX5_isStep_9 : decode cX5_isStep 9 = .ok (.iload 5, 2) := by decide +kernel
theorem dX5_isStep_11 : decode cX5_isStep 11 = .ok (.bipush 10, 2) := by decide +kernel
theorem dX5_isStep_13 : decode cX5_isStep 13 = .ok (.iload_n 1, 1) := by decide +kernel
theorem dX5_isStep_14 : decode cX5_isStep 14 = .ok (.imul, 1) := by decide +kernel
theorem dX5_isStep_15 : decode cX5_isStep 15 = .ok (.aload_n 0, 1) := by decide +kernel
theorem dX5_isStep_16 : decode cX5_isStep 16 = .ok (.getfield 7, 3) := by decide +kernel
theorem dX5_isStep_19 : decode cX5_isStep 19 = .ok (.iload_n 1, 1) := by decide +kernel
theorem dX5_isStep_20 : decode cX5_isStep 20 = .ok (.iaload, 1) := by decide +kernel
theorem dX5_isStep_21 : decode cX5_isStep 21 = .ok (.iadd, 1) := by decide +kernel
theorem dX5_isStep_22 : decode cX5_isStep 22 = .ok (.if_icmp .ge 43, 3) := by decide +kernel
theorem dX5_isStep_25 : decode cX5_isStep 25 = .ok (.iload 4, 2) := by decide +kernel
theorem dX5_isStep_27 : decode cX5_isStep 27 = .ok (.ifCond .eq 29, 3) := by decide +kernel
theorem dX5_isStep_30 : decode cX5_isStep 30 = .ok (.aload_n 0, 1) := by decide +kernel
theorem dX5_isStep_31 : decode cX5_isStep 31 = .ok (.getfield 13, 3) := by decide +kernel
theorem dX5_isStep_34 : decode cX5_isStep 34 = .ok (.iload 5, 2) := by decide +kernel
theorem dX5_isStep_36 : decode cX5_isStep 36 = .ok (.iaload, 1) := by decide +kernel
theorem dX5_isStep_37 : decode cX5_isStep 37 = .ok (.iload_n 2, 1) := by decide +kernel
theorem dX5_isStep_38 : decode cX5_isStep 38 = .ok (.imul, 1) := by decide +kernel
theorem dX5_isStep_39 : decode cX5_isStep 39 = .ok (.aload_n 0, 1) := by decide +kernel
theorem dX5_isStep_40 : decode cX5_isStep 40 = .ok (.getfield 16, 3) := by decide +kernel
theorem dX5_isStep_43 : decode cX5_isStep 43 = .ok (.iload 5, 2) := by decide +kernel
theorem dX5_isStep_45 : decode cX5_isStep 45 = .ok (.iaload, 1) := by decide +kernel
theorem dX5_isStep_46 : decode cX5_isStep 46 = .ok (.iload_n 3, 1) := by decide +kernel
theorem dX5_isStep_47 : decode cX5_isStep 47 = .ok (.imul, 1) := by decide +kernel
theorem dX5_isStep_48 : decode cX5_isStep 48 = .ok (.iadd, 1) := by decide +kernel
theorem dX5_isStep_49 : decode cX5_isStep 49 = .ok (.ifCond .gt 7, 3) := by decide +kernel
theorem dX5_isStep_52 : decode cX5_isStep 52 = .ok (.iconst 1, 1) := by decide +kernel
theorem dX5_isStep_53 : decode cX5_isStep 53 = .ok (.goto 4, 3) := by decide +kernel
theorem dX5_isStep_56 : decode cX5_isStep 56 = .ok (.iconst 0, 1) := by decide +kernel
theorem dX5_isStep_57 : decode cX5_isStep 57 = .ok (.istore 4, 2) := by decide +kernel
theorem dX5_isStep_59 : decode cX5_isStep 59 = .ok (.iinc 5 1, 3) := by decide +kernel
theorem dX5_isStep_62 : decode cX5_isStep 62 = .ok (.goto (-53), 3) := by decide +kernel
theorem dX5_isStep_65 : decode cX5_isStep 65 = .ok (.iload 4, 2) := by decide +kernel
theorem dX5_isStep_67 : decode cX5_isStep 67 = .ok (.ireturn, 1) := by decide +kernel
theorem dX5_holds_0 : decode cX5_holds 0 = .ok (.aload_n 0, 1) := by decide +kernel
theorem dX5_holds_1 : decode cX5_holds 1 = .ok (.getfield 7, 3) := by decide +kernel
theorem dX5_holds_4 : decode cX5_holds 4 = .ok (.iload_n 1, 1) := by decide +kernel
theorem dX5_holds_5 : decode cX5_holds 5 = .ok (.iaload, 1) := by decide +kernel
theorem dX5_holds_6 : decode cX5_holds 6 = .ok (.ifCond .le 7, 3) := by decide +kernel
theorem dX5_holds_9 : decode cX5_holds 9 = .ok (.iconst 1, 1) := by decide +kernel
theorem dX5_holds_10 : decode cX5_holds 10 = .ok (.goto 4, 3) := by decide +kernel
theorem dX5_holds_13 : decode cX5_holds 13 = .ok (.iconst 0, 1) := by decide +kernel
theorem dX5_holds_14 : decode cX5_holds 14 = .ok (.istore_n 2, 1) := by decide +kernel
theorem dX5_holds_15 : decode cX5_holds 15 = .ok (.bipush 10, 2) := by decide +kernel
theorem dX5_holds_17 : decode cX5_holds 17 = .ok (.iload_n 1, 1) := by decide +kernel
theorem dX5_holds_18 : decode cX5_holds 18 = .ok (.imul, 1) := by decide +kernel
theorem dX5_holds_19 : decode cX5_holds 19 = .ok (.istore_n 3, 1) := by decide +kernel
theorem dX5_holds_20 : decode cX5_holds 20 = .ok (.iload_n 3, 1) := by decide +kernel
theorem dX5_holds_21 : decode cX5_holds 21 = .ok (.bipush 10, 2) := by decide +kernel
theorem dX5_holds_23 : decode cX5_holds 23 = .ok (.iload_n 1, 1) := by decide +kernel
theorem dX5_holds_24 : decode cX5_holds 24 = .ok (.imul, 1) := by decide +kernel
theorem dX5_holds_25 : decode cX5_holds 25 = .ok (.aload_n 0, 1) := by decide +kernel
theorem dX5_holds_26 : decode cX5_holds 26 = .ok (.getfield 7, 3) := by decide +kernel
theorem dX5_holds_29 : decode cX5_holds 29 = .ok (.iload_n 1, 1) := by decide +kernel
theorem dX5_holds_30 : decode cX5_holds 30 = .ok (.iaload, 1) := by decide +kernel
theorem dX5_holds_31 : decode cX5_holds 31 = .ok (.iadd, 1) := by decide +kernel
theorem dX5_holds_32 : decode cX5_holds 32 = .ok (.if_icmp .ge 61, 3) := by decide +kernel
theorem dX5_holds_35 : decode cX5_holds 35 = .ok (.iload_n 2, 1) := by decide +kernel
theorem dX5_holds_36 : decode cX5_holds 36 = .ok (.ifCond .eq 49, 3) := by decide +kernel
theorem dX5_holds_39 : decode cX5_holds 39 = .ok (.aload_n 0, 1) := by decide +kernel
theorem dX5_holds_40 : decode cX5_holds 40 = .ok (.iload_n 1, 1) := by decide +kernel
theorem dX5_holds_41 : decode cX5_holds 41 = .ok (.aload_n 0, 1) := by decide +kernel
theorem dX5_holds_42 : decode cX5_holds 42 = .ok (.getfield 16, 3) := by decide +kernel
theorem dX5_holds_45 : decode cX5_holds 45 = .ok (.iload_n 3, 1) := by decide +kernel
theorem dX5_holds_46 : decode cX5_holds 46 = .ok (.iaload, 1) := by decide +kernel
theorem dX5_holds_47 : decode cX5_holds 47 = .ok (.aload_n 0, 1) := by decide +kernel
theorem dX5_holds_48 : decode cX5_holds 48 = .ok (.getfield 13, 3) := by decide +kernel
theorem dX5_holds_51 : decode cX5_holds 51 = .ok (.iload_n 3, 1) := by decide +kernel
theorem dX5_holds_52 : decode cX5_holds 52 = .ok (.iaload, 1) := by decide +kernel
theorem dX5_holds_53 : decode cX5_holds 53 = .ok (.ineg, 1) := by decide +kernel
theorem dX5_holds_54 : decode cX5_holds 54 = .ok (.invokevirtual 78, 3) := by decide +kernel
theorem dX5_holds_57 : decode cX5_holds 57 = .ok (.ifCond .ne 28, 3) := by decide +kernel
theorem dX5_holds_60 : decode cX5_holds 60 = .ok (.aload_n 0, 1) := by decide +kernel
theorem dX5_holds_61 : decode cX5_holds 61 = .ok (.iload_n 1, 1) := by decide +kernel
theorem dX5_holds_62 : decode cX5_holds 62 = .ok (.aload_n 0, 1) := by decide +kernel
theorem dX5_holds_63 : decode cX5_holds 63 = .ok (.getfield 16, 3) := by decide +kernel
theorem dX5_holds_66 : decode cX5_holds 66 = .ok (.iload_n 3, 1) := by decide +kernel
theorem dX5_holds_67 : decode cX5_holds 67 = .ok (.iaload, 1) := by decide +kernel
theorem dX5_holds_68 : decode cX5_holds 68 = .ok (.ineg, 1) := by decide +kernel
theorem dX5_holds_69 : decode cX5_holds 69 = .ok (.aload_n 0, 1) := by decide +kernel
theorem dX5_holds_70 : decode cX5_holds 70 = .ok (.getfield 13, 3) := by decide +kernel
theorem dX5_holds_73 : decode cX5_holds 73 = .ok (.iload_n 3, 1) := by decide +kernel
theorem dX5_holds_74 : decode cX5_holds 74 = .ok (.iaload, 1) := by decide +kernel
theorem dX5_holds_75 : decode cX5_holds 75 = .ok (.invokevirtual 78, 3) := by decide +kernel
theorem dX5_holds_78 : decode cX5_holds 78 = .ok (.ifCond .ne 7, 3) := by decide +kernel
theorem dX5_holds_81 : decode cX5_holds 81 = .ok (.iconst 1, 1) := by decide +kernel
theorem dX5_holds_82 : decode cX5_holds 82 = .ok (.goto 4, 3) := by decide +kernel
theorem dX5_holds_85 : decode cX5_holds 85 = .ok (.iconst 0, 1) := by decide +kernel
theorem dX5_holds_86 : decode cX5_holds 86 = .ok (.istore_n 2, 1) := by decide +kernel
theorem dX5_holds_87 : decode cX5_holds 87 = .ok (.iinc 3 1, 3) := by decide +kernel
theorem dX5_holds_90 : decode cX5_holds 90 = .ok (.goto (-70), 3) := by decide +kernel
theorem dX5_holds_93 : decode cX5_holds 93 = .ok (.iload_n 2, 1) := by decide +kernel
theorem dX5_holds_94 : decode cX5_holds 94 = .ok (.ireturn, 1) := by decide +kernel
theorem dX5_isPlace_0 : decode cX5_isPlace 0 = .ok (.aload_n 0, 1) := by decide +kernel
theorem dX5_isPlace_1 : decode cX5_isPlace 1 = .ok (.aload_n 0, 1) := by decide +kernel
theorem dX5_isPlace_2 : decode cX5_isPlace 2 = .ok (.iload_n 1, 1) := by decide +kernel
theorem dX5_isPlace_3 : decode cX5_isPlace 3 = .ok (.invokevirtual 62, 3) := by decide +kernel
theorem dX5_isPlace_6 : decode cX5_isPlace 6 = .ok (.ifCond .eq 7, 3) := by decide +kernel
theorem dX5_isPlace_9 : decode cX5_isPlace 9 = .ok (.iconst 0, 1) := by decide +kernel
theorem dX5_isPlace_10 : decode cX5_isPlace 10 = .ok (.goto 4, 3) := by decide +kernel
theorem dX5_isPlace_13 : decode cX5_isPlace 13 = .ok (.iconst 1, 1) := by decide +kernel
theorem dX5_isPlace_14 : decode cX5_isPlace 14 = .ok (.putfield 51, 3) := by decide +kernel
theorem dX5_isPlace_17 : decode cX5_isPlace 17 = .ok (.aload_n 0, 1) := by decide +kernel
theorem dX5_isPlace_18 : decode cX5_isPlace 18 = .ok (.getfield 51, 3) := by decide +kernel
theorem dX5_isPlace_21 : decode cX5_isPlace 21 = .ok (.ifCond .ne 15, 3) := by decide +kernel
theorem dX5_isPlace_24 : decode cX5_isPlace 24 = .ok (.aload_n 0, 1) := by decide +kernel
theorem dX5_isPlace_25 : decode cX5_isPlace 25 = .ok (.iload_n 1, 1) := by decide +kernel
theorem dX5_isPlace_26 : decode cX5_isPlace 26 = .ok (.invokevirtual 81, 3) := by decide +kernel
theorem dX5_isPlace_29 : decode cX5_isPlace 29 = .ok (.ifCond .eq 7, 3) := by decide +kernel
theorem dX5_isPlace_32 : decode cX5_isPlace 32 = .ok (.iconst 1, 1) := by decide +kernel
theorem dX5_isPlace_33 : decode cX5_isPlace 33 = .ok (.goto 4, 3) := by decide +kernel
theorem dX5_isPlace_36 : decode cX5_isPlace 36 = .ok (.iconst 0, 1) := by decide +kernel
theorem dX5_isPlace_37 : decode cX5_isPlace 37 = .ok (.ireturn, 1) := by decide +kernel
theorem dX5_looks_0 : decode cX5_looks 0 = .ok (.aload_n 0, 1) := by decide +kernel
theorem dX5_looks_1 : decode cX5_looks 1 = .ok (.aload_n 0, 1) := by decide +kernel
theorem dX5_looks_2 : decode cX5_looks 2 = .ok (.getfield 7, 3) := by decide +kernel
theorem dX5_looks_5 : decode cX5_looks 5 = .ok (.iload_n 1, 1) := by decide +kernel
theorem dX5_looks_6 : decode cX5_looks 6 = .ok (.iaload, 1) := by decide +kernel
theorem dX5_looks_7 : decode cX5_looks 7 = .ok (.putfield 84, 3) := by decide +kernel
theorem dX5_looks_10 : decode cX5_looks 10 = .ok (.iconst 0, 1) := by decide +kernel
theorem dX5_looks_11 : decode cX5_looks 11 = .ok (.istore 5, 2) := by decide +kernel
theorem dX5_looks_13 : decode cX5_looks 13 = .ok (.iload 5, 2) := by decide +kernel
theorem dX5_looks_15 : decode cX5_looks 15 = .ok (.aload_n 0, 1) := by decide +kernel
theorem dX5_looks_16 : decode cX5_looks 16 = .ok (.getfield 84, 3) := by decide +kernel
theorem dX5_looks_19 : decode cX5_looks 19 = .ok (.if_icmp .ge 100, 3) := by decide +kernel
theorem dX5_looks_22 : decode cX5_looks 22 = .ok (.bipush 10, 2) := by decide +kernel
theorem dX5_looks_24 : decode cX5_looks 24 = .ok (.iload_n 1, 1) := by decide +kernel
theorem dX5_looks_25 : decode cX5_looks 25 = .ok (.imul, 1) := by decide +kernel
theorem dX5_looks_26 : decode cX5_looks 26 = .ok (.iload 5, 2) := by decide +kernel
theorem dX5_looks_28 : decode cX5_looks 28 = .ok (.iadd, 1) := by decide +kernel
theorem dX5_looks_29 : decode cX5_looks 29 = .ok (.istore 6, 2) := by decide +kernel
theorem dX5_looks_31 : decode cX5_looks 31 = .ok (.aload_n 0, 1) := by decide +kernel
theorem dX5_looks_32 : decode cX5_looks 32 = .ok (.getfield 25, 3) := by decide +kernel
theorem dX5_looks_35 : decode cX5_looks 35 = .ok (.iload 5, 2) := by decide +kernel
theorem dX5_looks_37 : decode cX5_looks 37 = .ok (.aload_n 0, 1) := by decide +kernel
theorem dX5_looks_38 : decode cX5_looks 38 = .ok (.getfield 13, 3) := by decide +kernel
theorem dX5_looks_41 : decode cX5_looks 41 = .ok (.iload 6, 2) := by decide +kernel
theorem dX5_looks_43 : decode cX5_looks 43 = .ok (.iaload, 1) := by decide +kernel
theorem dX5_looks_44 : decode cX5_looks 44 = .ok (.i2l, 1) := by decide +kernel
theorem dX5_looks_45 : decode cX5_looks 45 = .ok (.lastore, 1) := by decide +kernel
theorem dX5_looks_46 : decode cX5_looks 46 = .ok (.aload_n 0, 1) := by decide +kernel
theorem dX5_looks_47 : decode cX5_looks 47 = .ok (.getfield 29, 3) := by decide +kernel
theorem dX5_looks_50 : decode cX5_looks 50 = .ok (.iload 5, 2) := by decide +kernel
theorem dX5_looks_52 : decode cX5_looks 52 = .ok (.aload_n 0, 1) := by decide +kernel
theorem dX5_looks_53 : decode cX5_looks 53 = .ok (.getfield 16, 3) := by decide +kernel
theorem dX5_looks_56 : decode cX5_looks 56 = .ok (.iload 6, 2) := by decide +kernel
theorem dX5_looks_58 : decode cX5_looks 58 = .ok (.iaload, 1) := by decide +kernel
theorem dX5_looks_59 : decode cX5_looks 59 = .ok (.i2l, 1) := by decide +kernel
theorem dX5_looks_60 : decode cX5_looks 60 = .ok (.lastore, 1) := by decide +kernel
theorem dX5_looks_61 : decode cX5_looks 61 = .ok (.aload_n 0, 1) := by decide +kernel
theorem dX5_looks_62 : decode cX5_looks 62 = .ok (.getfield 32, 3) := by decide +kernel
theorem dX5_looks_65 : decode cX5_looks 65 = .ok (.iload 5, 2) := by decide +kernel
theorem dX5_looks_67 : decode cX5_looks 67 = .ok (.iload_n 3, 1) := by decide +kernel
theorem dX5_looks_68 : decode cX5_looks 68 = .ok (.ifCond .ge 23, 3) := by decide +kernel
theorem dX5_looks_71 : decode cX5_looks 71 = .ok (.aload_n 0, 1) := by decide +kernel
theorem dX5_looks_72 : decode cX5_looks 72 = .ok (.getfield 19, 3) := by decide +kernel
theorem dX5_looks_75 : decode cX5_looks 75 = .ok (.iload 6, 2) := by decide +kernel
theorem dX5_looks_77 : decode cX5_looks 77 = .ok (.iaload, 1) := by decide +kernel
theorem dX5_looks_78 : decode cX5_looks 78 = .ok (.aload_n 0, 1) := by decide +kernel
theorem dX5_looks_79 : decode cX5_looks 79 = .ok (.getfield 22, 3) := by decide +kernel
theorem dX5_looks_82 : decode cX5_looks 82 = .ok (.iload 6, 2) := by decide +kernel
theorem dX5_looks_84 : decode cX5_looks 84 = .ok (.iaload, 1) := by decide +kernel
theorem dX5_looks_85 : decode cX5_looks 85 = .ok (.iload_n 2, 1) := by decide +kernel
theorem dX5_looks_86 : decode cX5_looks 86 = .ok (.imul, 1) := by decide +kernel
theorem dX5_looks_87 : decode cX5_looks 87 = .ok (.iadd, 1) := by decide +kernel
theorem dX5_looks_88 : decode cX5_looks 88 = .ok (.goto 12, 3) := by decide +kernel
theorem dX5_looks_91 : decode cX5_looks 91 = .ok (.aload_n 0, 1) := by decide +kernel
theorem dX5_looks_92 : decode cX5_looks 92 = .ok (.getfield 19, 3) := by decide +kernel
theorem dX5_looks_95 : decode cX5_looks 95 = .ok (.iload 6, 2) := by decide +kernel
theorem dX5_looks_97 : decode cX5_looks 97 = .ok (.iaload, 1) := by decide +kernel
theorem dX5_looks_98 : decode cX5_looks 98 = .ok (.iload_n 3, 1) := by decide +kernel
theorem dX5_looks_99 : decode cX5_looks 99 = .ok (.imul, 1) := by decide +kernel
theorem dX5_looks_100 : decode cX5_looks 100 = .ok (.iload 4, 2) := by decide +kernel
theorem dX5_looks_102 : decode cX5_looks 102 = .ok (.ifCond .eq 7, 3) := by decide +kernel
theorem dX5_looks_105 : decode cX5_looks 105 = .ok (.iconst 1, 1) := by decide +kernel
theorem dX5_looks_106 : decode cX5_looks 106 = .ok (.goto 4, 3) := by decide +kernel
theorem dX5_looks_109 : decode cX5_looks 109 = .ok (.iconst 0, 1) := by decide +kernel
theorem dX5_looks_110 : decode cX5_looks 110 = .ok (.isub, 1) := by decide +kernel
theorem dX5_looks_111 : decode cX5_looks 111 = .ok (.i2l, 1) := by decide +kernel
theorem dX5_looks_112 : decode cX5_looks 112 = .ok (.lastore, 1) := by decide +kernel
theorem dX5_looks_113 : decode cX5_looks 113 = .ok (.iinc 5 1, 3) := by decide +kernel
theorem dX5_looks_116 : decode cX5_looks 116 = .ok (.goto (-103), 3) := by decide +kernel
theorem dX5_looks_119 : decode cX5_looks 119 = .ok (.aload_n 0, 1) := by decide +kernel
theorem dX5_looks_120 : decode cX5_looks 120 = .ok (.lconst 1, 1) := by decide +kernel
theorem dX5_looks_121 : decode cX5_looks 121 = .ok (.putfield 87, 3) := by decide +kernel
theorem dX5_looks_124 : decode cX5_looks 124 = .ok (.aload_n 0, 1) := by decide +kernel
theorem dX5_looks_125 : decode cX5_looks 125 = .ok (.lconst 0, 1) := by decide +kernel
theorem dX5_looks_126 : decode cX5_looks 126 = .ok (.putfield 91, 3) := by decide +kernel
theorem dX5_looks_129 : decode cX5_looks 129 = .ok (.iconst 0, 1) := by decide +kernel
theorem dX5_looks_130 : decode cX5_looks 130 = .ok (.istore 5, 2) := by decide +kernel
theorem dX5_looks_132 : decode cX5_looks 132 = .ok (.iload 5, 2) := by decide +kernel
theorem dX5_looks_134 : decode cX5_looks 134 = .ok (.aload_n 0, 1) := by decide +kernel
theorem dX5_looks_135 : decode cX5_looks 135 = .ok (.getfield 84, 3) := by decide +kernel
theorem dX5_looks_138 : decode cX5_looks 138 = .ok (.if_icmp .ge 33, 3) := by decide +kernel
theorem dX5_looks_141 : decode cX5_looks 141 = .ok (.iconst 0, 1) := by decide +kernel
theorem dX5_looks_142 : decode cX5_looks 142 = .ok (.istore 6, 2) := by decide +kernel
theorem dX5_looks_144 : decode cX5_looks 144 = .ok (.iload 6, 2) := by decide +kernel
theorem dX5_looks_146 : decode cX5_looks 146 = .ok (.iload 5, 2) := by decide +kernel
theorem dX5_looks_148 : decode cX5_looks 148 = .ok (.if_icmp .ge 17, 3) := by decide +kernel
theorem dX5_looks_151 : decode cX5_looks 151 = .ok (.aload_n 0, 1) := by decide +kernel
theorem dX5_looks_152 : decode cX5_looks 152 = .ok (.iload 5, 2) := by decide +kernel
theorem dX5_looks_154 : decode cX5_looks 154 = .ok (.iload 6, 2) := by decide +kernel
theorem dX5_looks_156 : decode cX5_looks 156 = .ok (.invokevirtual 94, 3) := by decide +kernel
theorem dX5_looks_159 : decode cX5_looks 159 = .ok (.iinc 6 1, 3) := by decide +kernel
theorem dX5_looks_162 : decode cX5_looks 162 = .ok (.goto (-18), 3) := by decide +kernel
theorem dX5_looks_165 : decode cX5_looks 165 = .ok (.iinc 5 1, 3) := by decide +kernel
theorem dX5_looks_168 : decode cX5_looks 168 = .ok (.goto (-36), 3) := by decide +kernel
theorem dX5_looks_171 : decode cX5_looks 171 = .ok (.return_, 1) := by decide +kernel
theorem dX5_meets_0 : decode cX5_meets 0 = .ok (.aload_n 0, 1) := by decide +kernel
theorem dX5_meets_1 : decode cX5_meets 1 = .ok (.getfield 25, 3) := by decide +kernel
theorem dX5_meets_4 : decode cX5_meets 4 = .ok (.iload_n 1, 1) := by decide +kernel
theorem dX5_meets_5 : decode cX5_meets 5 = .ok (.laload, 1) := by decide +kernel
theorem dX5_meets_6 : decode cX5_meets 6 = .ok (.aload_n 0, 1) := by decide +kernel
theorem dX5_meets_7 : decode cX5_meets 7 = .ok (.getfield 29, 3) := by decide +kernel
theorem dX5_meets_10 : decode cX5_meets 10 = .ok (.iload_n 2, 1) := by decide +kernel
theorem dX5_meets_11 : decode cX5_meets 11 = .ok (.laload, 1) := by decide +kernel
theorem dX5_meets_12 : decode cX5_meets 12 = .ok (.lmul, 1) := by decide +kernel
theorem dX5_meets_13 : decode cX5_meets 13 = .ok (.aload_n 0, 1) := by decide +kernel
theorem dX5_meets_14 : decode cX5_meets 14 = .ok (.getfield 25, 3) := by decide +kernel
theorem dX5_meets_17 : decode cX5_meets 17 = .ok (.iload_n 2, 1) := by decide +kernel
theorem dX5_meets_18 : decode cX5_meets 18 = .ok (.laload, 1) := by decide +kernel
theorem dX5_meets_19 : decode cX5_meets 19 = .ok (.aload_n 0, 1) := by decide +kernel
theorem dX5_meets_20 : decode cX5_meets 20 = .ok (.getfield 29, 3) := by decide +kernel
theorem dX5_meets_23 : decode cX5_meets 23 = .ok (.iload_n 1, 1) := by decide +kernel
theorem dX5_meets_24 : decode cX5_meets 24 = .ok (.laload, 1) := by decide +kernel
theorem dX5_meets_25 : decode cX5_meets 25 = .ok (.lmul, 1) := by decide +kernel
theorem dX5_meets_26 : decode cX5_meets 26 = .ok (.lsub, 1) := by decide +kernel
theorem dX5_meets_27 : decode cX5_meets 27 = .ok (.lstore_n 3, 1) := by decide +kernel
theorem dX5_meets_28 : decode cX5_meets 28 = .ok (.lload_n 3, 1) := by decide +kernel
theorem dX5_meets_29 : decode cX5_meets 29 = .ok (.lconst 0, 1) := by decide +kernel
theorem dX5_meets_30 : decode cX5_meets 30 = .ok (.lcmp, 1) := by decide +kernel
theorem dX5_meets_31 : decode cX5_meets 31 = .ok (.ifCond .ne 4, 3) := by decide +kernel
theorem dX5_meets_34 : decode cX5_meets 34 = .ok (.return_, 1) := by decide +kernel
theorem dX5_meets_35 : decode cX5_meets 35 = .ok (.lload_n 3, 1) := by decide +kernel
theorem dX5_meets_36 : decode cX5_meets 36 = .ok (.lconst 0, 1) := by decide +kernel
theorem dX5_meets_37 : decode cX5_meets 37 = .ok (.lcmp, 1) := by decide +kernel
theorem dX5_meets_38 : decode cX5_meets 38 = .ok (.ifCond .ge 9, 3) := by decide +kernel
theorem dX5_meets_41 : decode cX5_meets 41 = .ok (.ldc2_w 98, 3) := by decide +kernel
theorem dX5_meets_44 : decode cX5_meets 44 = .ok (.goto 4, 3) := by decide +kernel
theorem dX5_meets_47 : decode cX5_meets 47 = .ok (.lconst 1, 1) := by decide +kernel
theorem dX5_meets_48 : decode cX5_meets 48 = .ok (.lstore 5, 2) := by decide +kernel
theorem dX5_meets_50 : decode cX5_meets 50 = .ok (.lload 5, 2) := by decide +kernel
theorem dX5_meets_52 : decode cX5_meets 52 = .ok (.aload_n 0, 1) := by decide +kernel
theorem dX5_meets_53 : decode cX5_meets 53 = .ok (.getfield 32, 3) := by decide +kernel
theorem dX5_meets_56 : decode cX5_meets 56 = .ok (.iload_n 1, 1) := by decide +kernel
theorem dX5_meets_57 : decode cX5_meets 57 = .ok (.laload, 1) := by decide +kernel
theorem dX5_meets_58 : decode cX5_meets 58 = .ok (.aload_n 0, 1) := by decide +kernel
theorem dX5_meets_59 : decode cX5_meets 59 = .ok (.getfield 29, 3) := by decide +kernel
theorem dX5_meets_62 : decode cX5_meets 62 = .ok (.iload_n 2, 1) := by decide +kernel
theorem dX5_meets_63 : decode cX5_meets 63 = .ok (.laload, 1) := by decide +kernel
theorem dX5_meets_64 : decode cX5_meets 64 = .ok (.lmul, 1) := by decide +kernel
theorem dX5_meets_65 : decode cX5_meets 65 = .ok (.aload_n 0, 1) := by decide +kernel
theorem dX5_meets_66 : decode cX5_meets 66 = .ok (.getfield 32, 3) := by decide +kernel
theorem dX5_meets_69 : decode cX5_meets 69 = .ok (.iload_n 2, 1) := by decide +kernel
theorem dX5_meets_70 : decode cX5_meets 70 = .ok (.laload, 1) := by decide +kernel
theorem dX5_meets_71 : decode cX5_meets 71 = .ok (.aload_n 0, 1) := by decide +kernel
theorem dX5_meets_72 : decode cX5_meets 72 = .ok (.getfield 29, 3) := by decide +kernel
theorem dX5_meets_75 : decode cX5_meets 75 = .ok (.iload_n 1, 1) := by decide +kernel
theorem dX5_meets_76 : decode cX5_meets 76 = .ok (.laload, 1) := by decide +kernel
theorem dX5_meets_77 : decode cX5_meets 77 = .ok (.lmul, 1) := by decide +kernel
theorem dX5_meets_78 : decode cX5_meets 78 = .ok (.lsub, 1) := by decide +kernel
theorem dX5_meets_79 : decode cX5_meets 79 = .ok (.lmul, 1) := by decide +kernel
theorem dX5_meets_80 : decode cX5_meets 80 = .ok (.lstore 7, 2) := by decide +kernel
theorem dX5_meets_82 : decode cX5_meets 82 = .ok (.lload 5, 2) := by decide +kernel
theorem dX5_meets_84 : decode cX5_meets 84 = .ok (.aload_n 0, 1) := by decide +kernel
theorem dX5_meets_85 : decode cX5_meets 85 = .ok (.getfield 25, 3) := by decide +kernel
theorem dX5_meets_88 : decode cX5_meets 88 = .ok (.iload_n 1, 1) := by decide +kernel
theorem dX5_meets_89 : decode cX5_meets 89 = .ok (.laload, 1) := by decide +kernel
theorem dX5_meets_90 : decode cX5_meets 90 = .ok (.aload_n 0, 1) := by decide +kernel
theorem dX5_meets_91 : decode cX5_meets 91 = .ok (.getfield 32, 3) := by decide +kernel
theorem dX5_meets_94 : decode cX5_meets 94 = .ok (.iload_n 2, 1) := by decide +kernel
theorem dX5_meets_95 : decode cX5_meets 95 = .ok (.laload, 1) := by decide +kernel
theorem dX5_meets_96 : decode cX5_meets 96 = .ok (.lmul, 1) := by decide +kernel
theorem dX5_meets_97 : decode cX5_meets 97 = .ok (.aload_n 0, 1) := by decide +kernel
theorem dX5_meets_98 : decode cX5_meets 98 = .ok (.getfield 25, 3) := by decide +kernel
theorem dX5_meets_101 : decode cX5_meets 101 = .ok (.iload_n 2, 1) := by decide +kernel
theorem dX5_meets_102 : decode cX5_meets 102 = .ok (.laload, 1) := by decide +kernel
theorem dX5_meets_103 : decode cX5_meets 103 = .ok (.aload_n 0, 1) := by decide +kernel
theorem dX5_meets_104 : decode cX5_meets 104 = .ok (.getfield 32, 3) := by decide +kernel
theorem dX5_meets_107 : decode cX5_meets 107 = .ok (.iload_n 1, 1) := by decide +kernel
theorem dX5_meets_108 : decode cX5_meets 108 = .ok (.laload, 1) := by decide +kernel
theorem dX5_meets_109 : decode cX5_meets 109 = .ok (.lmul, 1) := by decide +kernel
theorem dX5_meets_110 : decode cX5_meets 110 = .ok (.lsub, 1) := by decide +kernel
theorem dX5_meets_111 : decode cX5_meets 111 = .ok (.lmul, 1) := by decide +kernel
theorem dX5_meets_112 : decode cX5_meets 112 = .ok (.lstore 9, 2) := by decide +kernel
theorem dX5_meets_114 : decode cX5_meets 114 = .ok (.lload_n 3, 1) := by decide +kernel
theorem dX5_meets_115 : decode cX5_meets 115 = .ok (.lload 5, 2) := by decide +kernel
theorem dX5_meets_117 : decode cX5_meets 117 = .ok (.lmul, 1) := by decide +kernel
theorem dX5_meets_118 : decode cX5_meets 118 = .ok (.lstore_n 3, 1) := by decide +kernel
theorem dX5_meets_119 : decode cX5_meets 119 = .ok (.iconst 1, 1) := by decide +kernel
theorem dX5_meets_120 : decode cX5_meets 120 = .ok (.istore 11, 2) := by decide +kernel
theorem dX5_meets_122 : decode cX5_meets 122 = .ok (.iconst 0, 1) := by decide +kernel
theorem dX5_meets_123 : decode cX5_meets 123 = .ok (.istore 12, 2) := by decide +kernel
theorem dX5_meets_125 : decode cX5_meets 125 = .ok (.iload 12, 2) := by decide +kernel
theorem dX5_meets_127 : decode cX5_meets 127 = .ok (.aload_n 0, 1) := by decide +kernel
theorem dX5_meets_128 : decode cX5_meets 128 = .ok (.getfield 84, 3) := by decide +kernel
theorem dX5_meets_131 : decode cX5_meets 131 = .ok (.if_icmp .ge 55, 3) := by decide +kernel
theorem dX5_meets_134 : decode cX5_meets 134 = .ok (.iload 11, 2) := by decide +kernel
theorem dX5_meets_136 : decode cX5_meets 136 = .ok (.ifCond .eq 41, 3) := by decide +kernel
theorem dX5_meets_139 : decode cX5_meets 139 = .ok (.aload_n 0, 1) := by decide +kernel
theorem dX5_meets_140 : decode cX5_meets 140 = .ok (.getfield 25, 3) := by decide +kernel
theorem dX5_meets_143 : decode cX5_meets 143 = .ok (.iload 12, 2) := by decide +kernel
theorem dX5_meets_145 : decode cX5_meets 145 = .ok (.laload, 1) := by decide +kernel
theorem dX5_meets_146 : decode cX5_meets 146 = .ok (.lload 7, 2) := by decide +kernel
theorem dX5_meets_148 : decode cX5_meets 148 = .ok (.lmul, 1) := by decide +kernel
theorem dX5_meets_149 : decode cX5_meets 149 = .ok (.aload_n 0, 1) := by decide +kernel
theorem dX5_meets_150 : decode cX5_meets 150 = .ok (.getfield 29, 3) := by decide +kernel
theorem dX5_meets_153 : decode cX5_meets 153 = .ok (.iload 12, 2) := by decide +kernel
theorem dX5_meets_155 : decode cX5_meets 155 = .ok (.laload, 1) := by decide +kernel
theorem dX5_meets_156 : decode cX5_meets 156 = .ok (.lload 9, 2) := by decide +kernel
theorem dX5_meets_158 : decode cX5_meets 158 = .ok (.lmul, 1) := by decide +kernel
theorem dX5_meets_159 : decode cX5_meets 159 = .ok (.ladd, 1) := by decide +kernel
theorem dX5_meets_160 : decode cX5_meets 160 = .ok (.aload_n 0, 1) := by decide +kernel
theorem dX5_meets_161 : decode cX5_meets 161 = .ok (.getfield 32, 3) := by decide +kernel
theorem dX5_meets_164 : decode cX5_meets 164 = .ok (.iload 12, 2) := by decide +kernel
theorem dX5_meets_166 : decode cX5_meets 166 = .ok (.laload, 1) := by decide +kernel
theorem dX5_meets_167 : decode cX5_meets 167 = .ok (.lload_n 3, 1) := by decide +kernel
theorem dX5_meets_168 : decode cX5_meets 168 = .ok (.lmul, 1) := by decide +kernel
theorem dX5_meets_169 : decode cX5_meets 169 = .ok (.lcmp, 1) := by decide +kernel
theorem dX5_meets_170 : decode cX5_meets 170 = .ok (.ifCond .gt 7, 3) := by decide +kernel
theorem dX5_meets_173 : decode cX5_meets 173 = .ok (.iconst 1, 1) := by decide +kernel
theorem dX5_meets_174 : decode cX5_meets 174 = .ok (.goto 4, 3) := by decide +kernel
theorem dX5_meets_177 : decode cX5_meets 177 = .ok (.iconst 0, 1) := by decide +kernel
theorem dX5_meets_178 : decode cX5_meets 178 = .ok (.istore 11, 2) := by decide +kernel
theorem dX5_meets_180 : decode cX5_meets 180 = .ok (.iinc 12 1, 3) := by decide +kernel
theorem dX5_meets_183 : decode cX5_meets 183 = .ok (.goto (-58), 3) := by decide +kernel
theorem dX5_meets_186 : decode cX5_meets 186 = .ok (.iload 11, 2) := by decide +kernel
theorem dX5_meets_188 : decode cX5_meets 188 = .ok (.ifCond .eq 108, 3) := by decide +kernel
theorem dX5_meets_191 : decode cX5_meets 191 = .ok (.lload 7, 2) := by decide +kernel
theorem dX5_meets_193 : decode cX5_meets 193 = .ok (.lneg, 1) := by decide +kernel
theorem dX5_meets_194 : decode cX5_meets 194 = .ok (.lload_n 3, 1) := by decide +kernel
theorem dX5_meets_195 : decode cX5_meets 195 = .ok (.invokestatic 74, 3) := by decide +kernel
theorem dX5_meets_198 : decode cX5_meets 198 = .ok (.lneg, 1) := by decide +kernel
theorem dX5_meets_199 : decode cX5_meets 199 = .ok (.lstore 12, 2) := by decide +kernel
theorem dX5_meets_201 : decode cX5_meets 201 = .ok (.lload 7, 2) := by decide +kernel
theorem dX5_meets_203 : decode cX5_meets 203 = .ok (.lload_n 3, 1) := by decide +kernel
theorem dX5_meets_204 : decode cX5_meets 204 = .ok (.invokestatic 74, 3) := by decide +kernel
theorem dX5_meets_207 : decode cX5_meets 207 = .ok (.lstore 14, 2) := by decide +kernel
theorem dX5_meets_209 : decode cX5_meets 209 = .ok (.aload_n 0, 1) := by decide +kernel
theorem dX5_meets_210 : decode cX5_meets 210 = .ok (.getfield 87, 3) := by decide +kernel
theorem dX5_meets_213 : decode cX5_meets 213 = .ok (.aload_n 0, 1) := by decide +kernel
theorem dX5_meets_214 : decode cX5_meets 214 = .ok (.getfield 91, 3) := by decide +kernel
theorem dX5_meets_217 : decode cX5_meets 217 = .ok (.lcmp, 1) := by decide +kernel
theorem dX5_meets_218 : decode cX5_meets 218 = .ok (.ifCond .le 14, 3) := by decide +kernel
theorem dX5_meets_221 : decode cX5_meets 221 = .ok (.aload_n 0, 1) := by decide +kernel
theorem dX5_meets_222 : decode cX5_meets 222 = .ok (.getfield 100, 3) := by decide +kernel
theorem dX5_meets_225 : decode cX5_meets 225 = .ok (.ifCond .ne 7, 3) := by decide +kernel
theorem dX5_meets_228 : decode cX5_meets 228 = .ok (.iconst 1, 1) := by decide +kernel
theorem dX5_meets_229 : decode cX5_meets 229 = .ok (.goto 4, 3) := by decide +kernel
theorem dX5_meets_232 : decode cX5_meets 232 = .ok (.iconst 0, 1) := by decide +kernel
theorem dX5_meets_233 : decode cX5_meets 233 = .ok (.istore 16, 2) := by decide +kernel
theorem dX5_meets_235 : decode cX5_meets 235 = .ok (.aload_n 0, 1) := by decide +kernel
theorem dX5_meets_236 : decode cX5_meets 236 = .ok (.iload 16, 2) := by decide +kernel
theorem dX5_meets_238 : decode cX5_meets 238 = .ok (.ifCond .ne 13, 3) := by decide +kernel
theorem dX5_meets_241 : decode cX5_meets 241 = .ok (.lload 12, 2) := by decide +kernel
theorem dX5_meets_243 : decode cX5_meets 243 = .ok (.aload_n 0, 1) := by decide +kernel
theorem dX5_meets_244 : decode cX5_meets 244 = .ok (.getfield 87, 3) := by decide +kernel
theorem dX5_meets_247 : decode cX5_meets 247 = .ok (.lcmp, 1) := by decide +kernel
theorem dX5_meets_248 : decode cX5_meets 248 = .ok (.ifCond .ge 8, 3) := by decide +kernel
theorem dX5_meets_251 : decode cX5_meets 251 = .ok (.lload 12, 2) := by decide +kernel
theorem dX5_meets_253 : decode cX5_meets 253 = .ok (.goto 7, 3) := by decide +kernel
theorem dX5_meets_256 : decode cX5_meets 256 = .ok (.aload_n 0, 1) := by decide +kernel
theorem dX5_meets_257 : decode cX5_meets 257 = .ok (.getfield 87, 3) := by decide +kernel
theorem dX5_meets_260 : decode cX5_meets 260 = .ok (.putfield 87, 3) := by decide +kernel
theorem dX5_meets_263 : decode cX5_meets 263 = .ok (.aload_n 0, 1) := by decide +kernel
theorem dX5_meets_264 : decode cX5_meets 264 = .ok (.iload 16, 2) := by decide +kernel
theorem dX5_meets_266 : decode cX5_meets 266 = .ok (.ifCond .ne 13, 3) := by decide +kernel
theorem dX5_meets_269 : decode cX5_meets 269 = .ok (.lload 14, 2) := by decide +kernel
theorem dX5_meets_271 : decode cX5_meets 271 = .ok (.aload_n 0, 1) := by decide +kernel
theorem dX5_meets_272 : decode cX5_meets 272 = .ok (.getfield 91, 3) := by decide +kernel
theorem dX5_meets_275 : decode cX5_meets 275 = .ok (.lcmp, 1) := by decide +kernel
theorem dX5_meets_276 : decode cX5_meets 276 = .ok (.ifCond .le 8, 3) := by decide +kernel
theorem dX5_meets_279 : decode cX5_meets 279 = .ok (.lload 14, 2) := by decide +kernel
theorem dX5_meets_281 : decode cX5_meets 281 = .ok (.goto 7, 3) := by decide +kernel
theorem dX5_meets_284 : decode cX5_meets 284 = .ok (.aload_n 0, 1) := by decide +kernel
theorem dX5_meets_285 : decode cX5_meets 285 = .ok (.getfield 91, 3) := by decide +kernel
theorem dX5_meets_288 : decode cX5_meets 288 = .ok (.putfield 91, 3) := by decide +kernel
theorem dX5_meets_291 : decode cX5_meets 291 = .ok (.aload_n 0, 1) := by decide +kernel
theorem dX5_meets_292 : decode cX5_meets 292 = .ok (.iconst 1, 1) := by decide +kernel
theorem dX5_meets_293 : decode cX5_meets 293 = .ok (.putfield 100, 3) := by decide +kernel
theorem dX5_meets_296 : decode cX5_meets 296 = .ok (.return_, 1) := by decide +kernel
theorem dX5_column_0 : decode cX5_column 0 = .ok (.iconst 0, 1) := by decide +kernel
theorem dX5_column_1 : decode cX5_column 1 = .ok (.istore_n 3, 1) := by decide +kernel
theorem dX5_column_2 : decode cX5_column 2 = .ok (.iconst 0, 1) := by decide +kernel
theorem dX5_column_3 : decode cX5_column 3 = .ok (.istore 4, 2) := by decide +kernel
theorem dX5_column_5 : decode cX5_column 5 = .ok (.iconst 1, 1) := by decide +kernel
theorem dX5_column_6 : decode cX5_column 6 = .ok (.istore 5, 2) := by decide +kernel
theorem dX5_column_8 : decode cX5_column 8 = .ok (.iconst 0, 1) := by decide +kernel
theorem dX5_column_9 : decode cX5_column 9 = .ok (.istore 6, 2) := by decide +kernel
theorem dX5_column_11 : decode cX5_column 11 = .ok (.iload 6, 2) := by decide +kernel
theorem dX5_column_13 : decode cX5_column 13 = .ok (.aload_n 0, 1) := by decide +kernel
theorem dX5_column_14 : decode cX5_column 14 = .ok (.getfield 84, 3) := by decide +kernel
theorem dX5_column_17 : decode cX5_column 17 = .ok (.if_icmp .ge 167, 3) := by decide +kernel
theorem dX5_column_20 : decode cX5_column 20 = .ok (.aload_n 0, 1) := by decide +kernel
theorem dX5_column_21 : decode cX5_column 21 = .ok (.getfield 32, 3) := by decide +kernel
theorem dX5_column_24 : decode cX5_column 24 = .ok (.iload 6, 2) := by decide +kernel
theorem dX5_column_26 : decode cX5_column 26 = .ok (.laload, 1) := by decide +kernel
theorem dX5_column_27 : decode cX5_column 27 = .ok (.aload_n 0, 1) := by decide +kernel
theorem dX5_column_28 : decode cX5_column 28 = .ok (.getfield 25, 3) := by decide +kernel
theorem dX5_column_31 : decode cX5_column 31 = .ok (.iload 6, 2) := by decide +kernel
theorem dX5_column_33 : decode cX5_column 33 = .ok (.laload, 1) := by decide +kernel
theorem dX5_column_34 : decode cX5_column 34 = .ok (.lload_n 1, 1) := by decide +kernel
theorem dX5_column_35 : decode cX5_column 35 = .ok (.lmul, 1) := by decide +kernel
