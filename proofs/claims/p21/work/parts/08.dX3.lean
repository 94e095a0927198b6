theorem dX3_init_0 : decode cX3_init 0 = .ok (.aload_n 0, 1) := by decide +kernel
theorem dX3_init_1 : decode cX3_init 1 = .ok (.invokespecial 3, 3) := by decide +kernel
theorem dX3_init_4 : decode cX3_init 4 = .ok (.aload_n 0, 1) := by decide +kernel
theorem dX3_init_5 : decode cX3_init 5 = .ok (.bipush 10, 2) := by decide +kernel
theorem dX3_init_7 : decode cX3_init 7 = .ok (.newarray .int, 2) := by decide +kernel
theorem dX3_init_9 : decode cX3_init 9 = .ok (.putfield 9, 3) := by decide +kernel
theorem dX3_init_12 : decode cX3_init 12 = .ok (.aload_n 0, 1) := by decide +kernel
theorem dX3_init_13 : decode cX3_init 13 = .ok (.bipush 10, 2) := by decide +kernel
theorem dX3_init_15 : decode cX3_init 15 = .ok (.newarray .int, 2) := by decide +kernel
theorem dX3_init_17 : decode cX3_init 17 = .ok (.putfield 15, 3) := by decide +kernel
theorem dX3_init_20 : decode cX3_init 20 = .ok (.aload_n 0, 1) := by decide +kernel
theorem dX3_init_21 : decode cX3_init 21 = .ok (.bipush 10, 2) := by decide +kernel
theorem dX3_init_23 : decode cX3_init 23 = .ok (.newarray .int, 2) := by decide +kernel
theorem dX3_init_25 : decode cX3_init 25 = .ok (.putfield 18, 3) := by decide +kernel
theorem dX3_init_28 : decode cX3_init 28 = .ok (.aload_n 0, 1) := by decide +kernel
theorem dX3_init_29 : decode cX3_init 29 = .ok (.bipush 10, 2) := by decide +kernel
theorem dX3_init_31 : decode cX3_init 31 = .ok (.newarray .int, 2) := by decide +kernel
theorem dX3_init_33 : decode cX3_init 33 = .ok (.putfield 21, 3) := by decide +kernel
theorem dX3_init_36 : decode cX3_init 36 = .ok (.return_, 1) := by decide +kernel
theorem dX3_has_0 : decode cX3_has 0 = .ok (.iload_n 1, 1) := by decide +kernel
theorem dX3_has_1 : decode cX3_has 1 = .ok (.ifCond .lt 15, 3) := by decide +kernel
theorem dX3_has_4 : decode cX3_has 4 = .ok (.iload_n 1, 1) := by decide +kernel
theorem dX3_has_5 : decode cX3_has 5 = .ok (.aload_n 0, 1) := by decide +kernel
theorem dX3_has_6 : decode cX3_has 6 = .ok (.getfield 24, 3) := by decide +kernel
theorem dX3_has_9 : decode cX3_has 9 = .ok (.if_icmp .ge 7, 3) := by decide +kernel
theorem dX3_has_12 : decode cX3_has 12 = .ok (.iconst 1, 1) := by decide +kernel
theorem dX3_has_13 : decode cX3_has 13 = .ok (.goto 4, 3) := by decide +kernel
theorem dX3_has_16 : decode cX3_has 16 = .ok (.iconst 0, 1) := by decide +kernel
theorem dX3_has_17 : decode cX3_has 17 = .ok (.ireturn, 1) := by decide +kernel
theorem dX3_append_0 : decode cX3_append 0 = .ok (.aload_n 0, 1) := by decide +kernel
theorem dX3_append_1 : decode cX3_append 1 = .ok (.getfield 24, 3) := by decide +kernel
theorem dX3_append_4 : decode cX3_append 4 = .ok (.bipush 10, 2) := by decide +kernel
theorem dX3_append_6 : decode cX3_append 6 = .ok (.if_icmp .lt 5, 3) := by decide +kernel
theorem dX3_append_9 : decode cX3_append 9 = .ok (.iconst (-1), 1) := by decide +kernel
theorem dX3_append_10 : decode cX3_append 10 = .ok (.ireturn, 1) := by decide +kernel
theorem dX3_append_11 : decode cX3_append 11 = .ok (.aload_n 0, 1) := by decide +kernel
theorem dX3_append_12 : decode cX3_append 12 = .ok (.getfield 9, 3) := by decide +kernel
theorem dX3_append_15 : decode cX3_append 15 = .ok (.aload_n 0, 1) := by decide +kernel
theorem dX3_append_16 : decode cX3_append 16 = .ok (.getfield 24, 3) := by decide +kernel
theorem dX3_append_19 : decode cX3_append 19 = .ok (.iload_n 1, 1) := by decide +kernel
theorem dX3_append_20 : decode cX3_append 20 = .ok (.iastore, 1) := by decide +kernel
theorem dX3_append_21 : decode cX3_append 21 = .ok (.aload_n 0, 1) := by decide +kernel
theorem dX3_append_22 : decode cX3_append 22 = .ok (.getfield 15, 3) := by decide +kernel
theorem dX3_append_25 : decode cX3_append 25 = .ok (.aload_n 0, 1) := by decide +kernel
theorem dX3_append_26 : decode cX3_append 26 = .ok (.getfield 24, 3) := by decide +kernel
theorem dX3_append_29 : decode cX3_append 29 = .ok (.iload_n 2, 1) := by decide +kernel
theorem dX3_append_30 : decode cX3_append 30 = .ok (.iastore, 1) := by decide +kernel
theorem dX3_append_31 : decode cX3_append 31 = .ok (.aload_n 0, 1) := by decide +kernel
theorem dX3_append_32 : decode cX3_append 32 = .ok (.getfield 18, 3) := by decide +kernel
theorem dX3_append_35 : decode cX3_append 35 = .ok (.aload_n 0, 1) := by decide +kernel
theorem dX3_append_36 : decode cX3_append 36 = .ok (.getfield 24, 3) := by decide +kernel
theorem dX3_append_39 : decode cX3_append 39 = .ok (.iload_n 3, 1) := by decide +kernel
theorem dX3_append_40 : decode cX3_append 40 = .ok (.iastore, 1) := by decide +kernel
theorem dX3_append_41 : decode cX3_append 41 = .ok (.aload_n 0, 1) := by decide +kernel
theorem dX3_append_42 : decode cX3_append 42 = .ok (.getfield 21, 3) := by decide +kernel
theorem dX3_append_45 : decode cX3_append 45 = .ok (.aload_n 0, 1) := by decide +kernel
theorem dX3_append_46 : decode cX3_append 46 = .ok (.getfield 24, 3) := by decide +kernel
theorem dX3_append_49 : decode cX3_append 49 = .ok (.iload 4, 2) := by decide +kernel
theorem dX3_append_51 : decode cX3_append 51 = .ok (.iastore, 1) := by decide +kernel
theorem dX3_append_52 : decode cX3_append 52 = .ok (.aload_n 0, 1) := by decide +kernel
theorem dX3_append_53 : decode cX3_append 53 = .ok (.dup, 1) := by decide +kernel
theorem dX3_append_54 : decode cX3_append 54 = .ok (.getfield 24, 3) := by decide +kernel
theorem dX3_append_57 : decode cX3_append 57 = .ok (.iconst 1, 1) := by decide +kernel
theorem dX3_append_58 : decode cX3_append 58 = .ok (.iadd, 1) := by decide +kernel
theorem dX3_append_59 : decode cX3_append 59 = .ok (.putfield 24, 3) := by decide +kernel
theorem dX3_append_62 : decode cX3_append 62 = .ok (.aload_n 0, 1) := by decide +kernel
theorem dX3_append_63 : decode cX3_append 63 = .ok (.getfield 24, 3) := by decide +kernel
theorem dX3_append_66 : decode cX3_append 66 = .ok (.iconst 1, 1) := by decide +kernel
theorem dX3_append_67 : decode cX3_append 67 = .ok (.isub, 1) := by decide +kernel
theorem dX3_append_68 : decode cX3_append 68 = .ok (.ireturn, 1) := by decide +kernel
theorem dX3_appendCut_0 : decode cX3_appendCut 0 = .ok (.aload_n 0, 1) := by decide +kernel
theorem dX3_appendCut_1 : decode cX3_appendCut 1 = .ok (.iload_n 1, 1) := by decide +kernel
theorem dX3_appendCut_2 : decode cX3_appendCut 2 = .ok (.invokevirtual 28, 3) := by decide +kernel
theorem dX3_appendCut_5 : decode cX3_appendCut 5 = .ok (.ifCond .eq 35, 3) := by decide +kernel
theorem dX3_appendCut_8 : decode cX3_appendCut 8 = .ok (.aload_n 0, 1) := by decide +kernel
theorem dX3_appendCut_9 : decode cX3_appendCut 9 = .ok (.iload_n 3, 1) := by decide +kernel
theorem dX3_appendCut_10 : decode cX3_appendCut 10 = .ok (.invokevirtual 28, 3) := by decide +kernel
theorem dX3_appendCut_13 : decode cX3_appendCut 13 = .ok (.ifCond .eq 27, 3) := by decide +kernel
theorem dX3_appendCut_16 : decode cX3_appendCut 16 = .ok (.iload 5, 2) := by decide +kernel
theorem dX3_appendCut_18 : decode cX3_appendCut 18 = .ok (.iconst 1, 1) := by decide +kernel
theorem dX3_appendCut_19 : decode cX3_appendCut 19 = .ok (.if_icmp .lt 21, 3) := by decide +kernel
theorem dX3_appendCut_22 : decode cX3_appendCut 22 = .ok (.aload_n 0, 1) := by decide +kernel
theorem dX3_appendCut_23 : decode cX3_appendCut 23 = .ok (.getfield 21, 3) := by decide +kernel
theorem dX3_appendCut_26 : decode cX3_appendCut 26 = .ok (.iload_n 1, 1) := by decide +kernel
theorem dX3_appendCut_27 : decode cX3_appendCut 27 = .ok (.iaload, 1) := by decide +kernel
theorem dX3_appendCut_28 : decode cX3_appendCut 28 = .ok (.ifCond .ne 12, 3) := by decide +kernel
theorem dX3_appendCut_31 : decode cX3_appendCut 31 = .ok (.aload_n 0, 1) := by decide +kernel
theorem dX3_appendCut_32 : decode cX3_appendCut 32 = .ok (.getfield 21, 3) := by decide +kernel
theorem dX3_appendCut_35 : decode cX3_appendCut 35 = .ok (.iload_n 3, 1) := by decide +kernel
theorem dX3_appendCut_36 : decode cX3_appendCut 36 = .ok (.iaload, 1) := by decide +kernel
theorem dX3_appendCut_37 : decode cX3_appendCut 37 = .ok (.ifCond .eq 5, 3) := by decide +kernel
theorem dX3_appendCut_40 : decode cX3_appendCut 40 = .ok (.iconst (-1), 1) := by decide +kernel
theorem dX3_appendCut_41 : decode cX3_appendCut 41 = .ok (.ireturn, 1) := by decide +kernel
theorem dX3_appendCut_42 : decode cX3_appendCut 42 = .ok (.iload_n 2, 1) := by decide +kernel
theorem dX3_appendCut_43 : decode cX3_appendCut 43 = .ok (.aload_n 0, 1) := by decide +kernel
theorem dX3_appendCut_44 : decode cX3_appendCut 44 = .ok (.getfield 9, 3) := by decide +kernel
theorem dX3_appendCut_47 : decode cX3_appendCut 47 = .ok (.iload_n 1, 1) := by decide +kernel
theorem dX3_appendCut_48 : decode cX3_appendCut 48 = .ok (.iaload, 1) := by decide +kernel
theorem dX3_appendCut_49 : decode cX3_appendCut 49 = .ok (.imul, 1) := by decide +kernel
theorem dX3_appendCut_50 : decode cX3_appendCut 50 = .ok (.iload 4, 2) := by decide +kernel
theorem dX3_appendCut_52 : decode cX3_appendCut 52 = .ok (.aload_n 0, 1) := by decide +kernel
theorem dX3_appendCut_53 : decode cX3_appendCut 53 = .ok (.getfield 9, 3) := by decide +kernel
theorem dX3_appendCut_56 : decode cX3_appendCut 56 = .ok (.iload_n 3, 1) := by decide +kernel
theorem dX3_appendCut_57 : decode cX3_appendCut 57 = .ok (.iaload, 1) := by decide +kernel
theorem dX3_appendCut_58 : decode cX3_appendCut 58 = .ok (.imul, 1) := by decide +kernel
theorem dX3_appendCut_59 : decode cX3_appendCut 59 = .ok (.iadd, 1) := by decide +kernel
theorem dX3_appendCut_60 : decode cX3_appendCut 60 = .ok (.istore 6, 2) := by decide +kernel
theorem dX3_appendCut_62 : decode cX3_appendCut 62 = .ok (.iload_n 2, 1) := by decide +kernel
theorem dX3_appendCut_63 : decode cX3_appendCut 63 = .ok (.aload_n 0, 1) := by decide +kernel
theorem dX3_appendCut_64 : decode cX3_appendCut 64 = .ok (.getfield 15, 3) := by decide +kernel
theorem dX3_appendCut_67 : decode cX3_appendCut 67 = .ok (.iload_n 1, 1) := by decide +kernel
theorem dX3_appendCut_68 : decode cX3_appendCut 68 = .ok (.iaload, 1) := by decide +kernel
theorem dX3_appendCut_69 : decode cX3_appendCut 69 = .ok (.imul, 1) := by decide +kernel
theorem dX3_appendCut_70 : decode cX3_appendCut 70 = .ok (.iload 4, 2) := by decide +kernel
theorem dX3_appendCut_72 : decode cX3_appendCut 72 = .ok (.aload_n 0, 1) := by decide +kernel
theorem dX3_appendCut_73 : decode cX3_appendCut 73 = .ok (.getfield 15, 3) := by decide +kernel
theorem dX3_appendCut_76 : decode cX3_appendCut 76 = .ok (.iload_n 3, 1) := by decide +kernel
theorem dX3_appendCut_77 : decode cX3_appendCut 77 = .ok (.iaload, 1) := by decide +kernel
theorem dX3_appendCut_78 : decode cX3_appendCut 78 = .ok (.imul, 1) := by decide +kernel
theorem dX3_appendCut_79 : decode cX3_appendCut 79 = .ok (.iadd, 1) := by decide +kernel
theorem dX3_appendCut_80 : decode cX3_appendCut 80 = .ok (.istore 7, 2) := by decide +kernel
theorem dX3_appendCut_82 : decode cX3_appendCut 82 = .ok (.iload_n 2, 1) := by decide +kernel
theorem dX3_appendCut_83 : decode cX3_appendCut 83 = .ok (.aload_n 0, 1) := by decide +kernel
theorem dX3_appendCut_84 : decode cX3_appendCut 84 = .ok (.getfield 18, 3) := by decide +kernel
theorem dX3_appendCut_87 : decode cX3_appendCut 87 = .ok (.iload_n 1, 1) := by decide +kernel
theorem dX3_appendCut_88 : decode cX3_appendCut 88 = .ok (.iaload, 1) := by decide +kernel
theorem dX3_appendCut_89 : decode cX3_appendCut 89 = .ok (.imul, 1) := by decide +kernel
theorem dX3_appendCut_90 : decode cX3_appendCut 90 = .ok (.iload 4, 2) := by decide +kernel
theorem dX3_appendCut_92 : decode cX3_appendCut 92 = .ok (.aload_n 0, 1) := by decide +kernel
theorem dX3_appendCut_93 : decode cX3_appendCut 93 = .ok (.getfield 18, 3) := by decide +kernel
theorem dX3_appendCut_96 : decode cX3_appendCut 96 = .ok (.iload_n 3, 1) := by decide +kernel
theorem dX3_appendCut_97 : decode cX3_appendCut 97 = .ok (.iaload, 1) := by decide +kernel
theorem dX3_appendCut_98 : decode cX3_appendCut 98 = .ok (.imul, 1) := by decide +kernel
theorem dX3_appendCut_99 : decode cX3_appendCut 99 = .ok (.iadd, 1) := by decide +kernel
theorem dX3_appendCut_100 : decode cX3_appendCut 100 = .ok (.iload 5, 2) := by decide +kernel
theorem dX3_appendCut_102 : decode cX3_appendCut 102 = .ok (.invokestatic 32, 3) := by decide +kernel
theorem dX3_appendCut_105 : decode cX3_appendCut 105 = .ok (.istore 8, 2) := by decide +kernel
theorem dX3_appendCut_107 : decode cX3_appendCut 107 = .ok (.iload 6, 2) := by decide +kernel
theorem dX3_appendCut_109 : decode cX3_appendCut 109 = .ok (.iload 5, 2) := by decide +kernel
theorem dX3_appendCut_111 : decode cX3_appendCut 111 = .ok (.irem, 1) := by decide +kernel
theorem dX3_appendCut_112 : decode cX3_appendCut 112 = .ok (.ifCond .ne 21, 3) := by decide +kernel
theorem dX3_appendCut_115 : decode cX3_appendCut 115 = .ok (.iload 7, 2) := by decide +kernel
theorem dX3_appendCut_117 : decode cX3_appendCut 117 = .ok (.iload 5, 2) := by decide +kernel
theorem dX3_appendCut_119 : decode cX3_appendCut 119 = .ok (.irem, 1) := by decide +kernel
theorem dX3_appendCut_120 : decode cX3_appendCut 120 = .ok (.ifCond .ne 13, 3) := by decide +kernel
theorem dX3_appendCut_123 : decode cX3_appendCut 123 = .ok (.iload 6, 2) := by decide +kernel
theorem dX3_appendCut_125 : decode cX3_appendCut 125 = .ok (.ifCond .ne 10, 3) := by decide +kernel
theorem dX3_appendCut_128 : decode cX3_appendCut 128 = .ok (.iload 7, 2) := by decide +kernel
theorem dX3_appendCut_130 : decode cX3_appendCut 130 = .ok (.ifCond .ne 5, 3) := by decide +kernel
theorem dX3_appendCut_133 : decode cX3_appendCut 133 = .ok (.iconst (-1), 1) := by decide +kernel
theorem dX3_appendCut_134 : decode cX3_appendCut 134 = .ok (.ireturn, 1) := by decide +kernel
theorem dX3_appendCut_135 : decode cX3_appendCut 135 = .ok (.iload 6, 2) := by decide +kernel
theorem dX3_appendCut_137 : decode cX3_appendCut 137 = .ok (.iload 5, 2) := by decide +kernel
theorem dX3_appendCut_139 : decode cX3_appendCut 139 = .ok (.idiv, 1) := by decide +kernel
theorem dX3_appendCut_140 : decode cX3_appendCut 140 = .ok (.invokestatic 38, 3) := by decide +kernel
theorem dX3_appendCut_143 : decode cX3_appendCut 143 = .ok (.ifCond .eq 25, 3) := by decide +kernel
theorem dX3_appendCut_146 : decode cX3_appendCut 146 = .ok (.iload 7, 2) := by decide +kernel
theorem dX3_appendCut_148 : decode cX3_appendCut 148 = .ok (.iload 5, 2) := by decide +kernel
theorem dX3_appendCut_150 : decode cX3_appendCut 150 = .ok (.idiv, 1) := by decide +kernel
theorem dX3_appendCut_151 : decode cX3_appendCut 151 = .ok (.invokestatic 38, 3) := by decide +kernel
theorem dX3_appendCut_154 : decode cX3_appendCut 154 = .ok (.ifCond .eq 14, 3) := by decide +kernel
theorem dX3_appendCut_157 : decode cX3_appendCut 157 = .ok (.iload 8, 2) := by decide +kernel
theorem dX3_appendCut_159 : decode cX3_appendCut 159 = .ok (.invokestatic 41, 3) := by decide +kernel
theorem dX3_appendCut_162 : decode cX3_appendCut 162 = .ok (.sipush 999, 3) := by decide +kernel
theorem dX3_appendCut_165 : decode cX3_appendCut 165 = .ok (.if_icmp .le 5, 3) := by decide +kernel
theorem dX3_appendCut_168 : decode cX3_appendCut 168 = .ok (.iconst (-1), 1) := by decide +kernel
theorem dX3_appendCut_169 : decode cX3_appendCut 169 = .ok (.ireturn, 1) := by decide +kernel
theorem dX3_appendCut_170 : decode cX3_appendCut 170 = .ok (.aload_n 0, 1) := by decide +kernel
theorem dX3_appendCut_171 : decode cX3_appendCut 171 = .ok (.iload 6, 2) := by decide +kernel
theorem dX3_appendCut_173 : decode cX3_appendCut 173 = .ok (.iload 5, 2) := by decide +kernel
theorem dX3_appendCut_175 : decode cX3_appendCut 175 = .ok (.idiv, 1) := by decide +kernel
theorem dX3_appendCut_176 : decode cX3_appendCut 176 = .ok (.iload 7, 2) := by decide +kernel
theorem dX3_appendCut_178 : decode cX3_appendCut 178 = .ok (.iload 5, 2) := by decide +kernel
theorem dX3_appendCut_180 : decode cX3_appendCut 180 = .ok (.idiv, 1) := by decide +kernel
theorem dX3_appendCut_181 : decode cX3_appendCut 181 = .ok (.iload 8, 2) := by decide +kernel
theorem dX3_appendCut_183 : decode cX3_appendCut 183 = .ok (.iconst 0, 1) := by decide +kernel
theorem dX3_appendCut_184 : decode cX3_appendCut 184 = .ok (.invokevirtual 45, 3) := by decide +kernel
theorem dX3_appendCut_187 : decode cX3_appendCut 187 = .ok (.ireturn, 1) := by decide +kernel
theorem dX3_part_0 : decode cX3_part 0 = .ok (.aload_n 0, 1) := by decide +kernel
theorem dX3_part_1 : decode cX3_part 1 = .ok (.iload_n 1, 1) := by decide +kernel
theorem dX3_part_2 : decode cX3_part 2 = .ok (.invokevirtual 28, 3) := by decide +kernel
theorem dX3_part_5 : decode cX3_part 5 = .ok (.ifCond .ne 5, 3) := by decide +kernel
theorem dX3_part_8 : decode cX3_part 8 = .ok (.iconst (-1), 1) := by decide +kernel
theorem dX3_part_9 : decode cX3_part 9 = .ok (.ireturn, 1) := by decide +kernel
theorem dX3_part_10 : decode cX3_part 10 = .ok (.iload_n 2, 1) := by decide +kernel
theorem dX3_part_11 : decode cX3_part 11 = .ok (.tableswitch 46 0 2 #[25, 32, 39], 25) := by decide +kernel
theorem dX3_part_36 : decode cX3_part 36 = .ok (.aload_n 0, 1) := by decide +kernel
theorem dX3_part_37 : decode cX3_part 37 = .ok (.getfield 9, 3) := by decide +kernel
theorem dX3_part_40 : decode cX3_part 40 = .ok (.iload_n 1, 1) := by decide +kernel
theorem dX3_part_41 : decode cX3_part 41 = .ok (.iaload, 1) := by decide +kernel
theorem dX3_part_42 : decode cX3_part 42 = .ok (.ireturn, 1) := by decide +kernel
theorem dX3_part_43 : decode cX3_part 43 = .ok (.aload_n 0, 1) := by decide +kernel
theorem dX3_part_44 : decode cX3_part 44 = .ok (.getfield 15, 3) := by decide +kernel
theorem dX3_part_47 : decode cX3_part 47 = .ok (.iload_n 1, 1) := by decide +kernel
theorem dX3_part_48 : decode cX3_part 48 = .ok (.iaload, 1) := by decide +kernel
theorem dX3_part_49 : decode cX3_part 49 = .ok (.ireturn, 1) := by decide +kernel
theorem dX3_part_50 : decode cX3_part 50 = .ok (.aload_n 0, 1) := by decide +kernel
theorem dX3_part_51 : decode cX3_part 51 = .ok (.getfield 18, 3) := by decide +kernel
theorem dX3_part_54 : decode cX3_part 54 = .ok (.iload_n 1, 1) := by decide +kernel
theorem dX3_part_55 : decode cX3_part 55 = .ok (.iaload, 1) := by decide +kernel
theorem dX3_part_56 : decode cX3_part 56 = .ok (.ireturn, 1) := by decide +kernel
theorem dX3_part_57 : decode cX3_part 57 = .ok (.aload_n 0, 1) := by decide +kernel
theorem dX3_part_58 : decode cX3_part 58 = .ok (.getfield 21, 3) := by decide +kernel
theorem dX3_part_61 : decode cX3_part 61 = .ok (.iload_n 1, 1) := by decide +kernel
theorem dX3_part_62 : decode cX3_part 62 = .ok (.iaload, 1) := by decide +kernel
theorem dX3_part_63 : decode cX3_part 63 = .ok (.ireturn, 1) := by decide +kernel
theorem dX3_swap_0 : decode cX3_swap 0 = .ok (.iconst 0, 1) := by decide +kernel
theorem dX3_swap_1 : decode cX3_swap 1 = .ok (.istore_n 1, 1) := by decide +kernel
theorem dX3_swap_2 : decode cX3_swap 2 = .ok (.iload_n 1, 1) := by decide +kernel
theorem dX3_swap_3 : decode cX3_swap 3 = .ok (.aload_n 0, 1) := by decide +kernel
theorem dX3_swap_4 : decode cX3_swap 4 = .ok (.getfield 24, 3) := by decide +kernel
theorem dX3_swap_7 : decode cX3_swap 7 = .ok (.if_icmp .ge 35, 3) := by decide +kernel
theorem dX3_swap_10 : decode cX3_swap 10 = .ok (.aload_n 0, 1) := by decide +kernel
theorem dX3_swap_11 : decode cX3_swap 11 = .ok (.getfield 9, 3) := by decide +kernel
theorem dX3_swap_14 : decode cX3_swap 14 = .ok (.iload_n 1, 1) := by decide +kernel
theorem dX3_swap_15 : decode cX3_swap 15 = .ok (.iaload, 1) := by decide +kernel
theorem dX3_swap_16 : decode cX3_swap 16 = .ok (.istore_n 2, 1) := by decide +kernel
theorem dX3_swap_17 : decode cX3_swap 17 = .ok (.aload_n 0, 1) := by decide +kernel
theorem dX3_swap_18 : decode cX3_swap 18 = .ok (.getfield 9, 3) := by decide +kernel
theorem dX3_swap_21 : decode cX3_swap 21 = .ok (.iload_n 1, 1) := by decide +kernel
theorem dX3_swap_22 : decode cX3_swap 22 = .ok (.aload_n 0, 1) := by decide +kernel
theorem dX3_swap_23 : decode cX3_swap 23 = .ok (.getfield 15, 3) := by decide +kernel
theorem dX3_swap_26 : decode cX3_swap 26 = .ok (.iload_n 1, 1) := by decide +kernel
theorem dX3_swap_27 : decode cX3_swap 27 = .ok (.iaload, 1) := by decide +kernel
theorem dX3_swap_28 : decode cX3_swap 28 = .ok (.iastore, 1) := by decide +kernel
theorem dX3_swap_29 : decode cX3_swap 29 = .ok (.aload_n 0, 1) := by decide +kernel
theorem dX3_swap_30 : decode cX3_swap 30 = .ok (.getfield 15, 3) := by decide +kernel
theorem dX3_swap_33 : decode cX3_swap 33 = .ok (.iload_n 1, 1) := by decide +kernel
theorem dX3_swap_34 : decode cX3_swap 34 = .ok (.iload_n 2, 1) := by decide +kernel
theorem dX3_swap_35 : decode cX3_swap 35 = .ok (.iastore, 1) := by decide +kernel
theorem dX3_swap_36 : decode cX3_swap 36 = .ok (.iinc 1 1, 3) := by decide +kernel
theorem dX3_swap_39 : decode cX3_swap 39 = .ok (.goto (-37), 3) := by decide +kernel
theorem dX3_swap_42 : decode cX3_swap 42 = .ok (.return_, 1) := by decide +kernel
theorem dX3_flip_0 : decode cX3_flip 0 = .ok (.iconst 0, 1) := by decide +kernel
theorem dX3_flip_1 : decode cX3_flip 1 = .ok (.istore_n 1, 1) := by decide +kernel
theorem dX3_flip_2 : decode cX3_flip 2 = .ok (.iload_n 1, 1) := by decide +kernel
theorem dX3_flip_3 : decode cX3_flip 3 = .ok (.aload_n 0, 1) := by decide +kernel
theorem dX3_flip_4 : decode cX3_flip 4 = .ok (.getfield 24, 3) := by decide +kernel
theorem dX3_flip_7 : decode cX3_flip 7 = .ok (.if_icmp .ge 22, 3) := by decide +kernel
theorem dX3_flip_10 : decode cX3_flip 10 = .ok (.aload_n 0, 1) := by decide +kernel
theorem dX3_flip_11 : decode cX3_flip 11 = .ok (.getfield 9, 3) := by decide +kernel
theorem dX3_flip_14 : decode cX3_flip 14 = .ok (.iload_n 1, 1) := by decide +kernel
theorem dX3_flip_15 : decode cX3_flip 15 = .ok (.aload_n 0, 1) := by decide +kernel
theorem dX3_flip_16 : decode cX3_flip 16 = .ok (.getfield 9, 3) := by decide +kernel
theorem dX3_flip_19 : decode cX3_flip 19 = .ok (.iload_n 1, 1) := by decide +kernel
theorem dX3_flip_20 : decode cX3_flip 20 = .ok (.iaload, 1) := by decide +kernel
theorem dX3_flip_21 : decode cX3_flip 21 = .ok (.ineg, 1) := by decide +kernel
theorem dX3_flip_22 : decode cX3_flip 22 = .ok (.iastore, 1) := by decide +kernel
theorem dX3_flip_23 : decode cX3_flip 23 = .ok (.iinc 1 1, 3) := by decide +kernel
theorem dX3_flip_26 : decode cX3_flip 26 = .ok (.goto (-24), 3) := by decide +kernel
theorem dX3_flip_29 : decode cX3_flip 29 = .ok (.return_, 1) := by decide +kernel
theorem dX3_slide_0 : decode cX3_slide 0 = .ok (.iconst 0, 1) := by decide +kernel
theorem dX3_slide_1 : decode cX3_slide 1 = .ok (.istore_n 1, 1) := by decide +kernel
theorem dX3_slide_2 : decode cX3_slide 2 = .ok (.iload_n 1, 1) := by decide +kernel
theorem dX3_slide_3 : decode cX3_slide 3 = .ok (.aload_n 0, 1) := by decide +kernel
theorem dX3_slide_4 : decode cX3_slide 4 = .ok (.getfield 24, 3) := by decide +kernel
theorem dX3_slide_7 : decode cX3_slide 7 = .ok (.if_icmp .ge 30, 3) := by decide +kernel
theorem dX3_slide_10 : decode cX3_slide 10 = .ok (.aload_n 0, 1) := by decide +kernel
theorem dX3_slide_11 : decode cX3_slide 11 = .ok (.getfield 15, 3) := by decide +kernel
theorem dX3_slide_14 : decode cX3_slide 14 = .ok (.iload_n 1, 1) := by decide +kernel
theorem dX3_slide_15 : decode cX3_slide 15 = .ok (.iaload, 1) := by decide +kernel
theorem dX3_slide_16 : decode cX3_slide 16 = .ok (.aload_n 0, 1) := by decide +kernel
theorem dX3_slide_17 : decode cX3_slide 17 = .ok (.getfield 9, 3) := by decide +kernel
theorem dX3_slide_20 : decode cX3_slide 20 = .ok (.iload_n 1, 1) := by decide +kernel
theorem dX3_slide_21 : decode cX3_slide 21 = .ok (.iaload, 1) := by decide +kernel
theorem dX3_slide_22 : decode cX3_slide 22 = .ok (.isub, 1) := by decide +kernel
theorem dX3_slide_23 : decode cX3_slide 23 = .ok (.invokestatic 38, 3) := by decide +kernel
theorem dX3_slide_26 : decode cX3_slide 26 = .ok (.ifCond .ne 5, 3) := by decide +kernel
theorem dX3_slide_29 : decode cX3_slide 29 = .ok (.iconst 0, 1) := by decide +kernel
theorem dX3_slide_30 : decode cX3_slide 30 = .ok (.ireturn, 1) := by decide +kernel
theorem dX3_slide_31 : decode cX3_slide 31 = .ok (.iinc 1 1, 3) := by decide +kernel
theorem dX3_slide_34 : decode cX3_slide 34 = .ok (.goto (-32), 3) := by decide +kernel
theorem dX3_slide_37 : decode cX3_slide 37 = .ok (.iconst 0, 1) := by decide +kernel
theorem dX3_slide_38 : decode cX3_slide 38 = .ok (.istore_n 1, 1) := by decide +kernel
theorem dX3_slide_39 : decode cX3_slide 39 = .ok (.iload_n 1, 1) := by decide +kernel
theorem dX3_slide_40 : decode cX3_slide 40 = .ok (.aload_n 0, 1) := by decide +kernel
theorem dX3_slide_41 : decode cX3_slide 41 = .ok (.getfield 24, 3) := by decide +kernel
theorem dX3_slide_44 : decode cX3_slide 44 = .ok (.if_icmp .ge 24, 3) := by decide +kernel
theorem dX3_slide_47 : decode cX3_slide 47 = .ok (.aload_n 0, 1) := by decide +kernel
theorem dX3_slide_48 : decode cX3_slide 48 = .ok (.getfield 15, 3) := by decide +kernel
theorem dX3_slide_51 : decode cX3_slide 51 = .ok (.iload_n 1, 1) := by decide +kernel
theorem dX3_slide_52 : decode cX3_slide 52 = .ok (.dup2, 1) := by decide +kernel
theorem dX3_slide_53 : decode cX3_slide 53 = .ok (.iaload, 1) := by decide +kernel
theorem dX3_slide_54 : decode cX3_slide 54 = .ok (.aload_n 0, 1) := by decide +kernel
theorem dX3_slide_55 : decode cX3_slide 55 = .ok (.getfield 9, 3) := by decide +kernel
theorem dX3_slide_58 : decode cX3_slide 58 = .ok (.iload_n 1, 1) := by decide +kernel
theorem dX3_slide_59 : decode cX3_slide 59 = .ok (.iaload, 1) := by decide +kernel
theorem dX3_slide_60 : decode cX3_slide 60 = .ok (.isub, 1) := by decide +kernel
theorem dX3_slide_61 : decode cX3_slide 61 = .ok (.iastore, 1) := by decide +kernel
theorem dX3_slide_62 : decode cX3_slide 62 = .ok (.iinc 1 1, 3) := by decide +kernel
theorem dX3_slide_65 : decode cX3_slide 65 = .ok (.goto (-26), 3) := by decide +kernel
theorem dX3_slide_68 : decode cX3_slide 68 = .ok (.iconst 1, 1) := by decide +kernel
theorem dX3_slide_69 : decode cX3_slide 69 = .ok (.ireturn, 1) := by decide +kernel
theorem dX3_isClosed_0 : decode cX3_isClosed 0 = .ok (.iconst 0, 1) := by decide +kernel
theorem dX3_isClosed_1 : decode cX3_isClosed 1 = .ok (.istore_n 1, 1) := by decide +kernel
theorem dX3_isClosed_2 : decode cX3_isClosed 2 = .ok (.iload_n 1, 1) := by decide +kernel
theorem dX3_isClosed_3 : decode cX3_isClosed 3 = .ok (.aload_n 0, 1) := by decide +kernel
theorem dX3_isClosed_4 : decode cX3_isClosed 4 = .ok (.getfield 24, 3) := by decide +kernel
theorem dX3_isClosed_7 : decode cX3_isClosed 7 = .ok (.if_icmp .ge 51, 3) := by decide +kernel
theorem dX3_isClosed_10 : decode cX3_isClosed 10 = .ok (.aload_n 0, 1) := by decide +kernel
theorem dX3_isClosed_11 : decode cX3_isClosed 11 = .ok (.aload_n 0, 1) := by decide +kernel
theorem dX3_isClosed_12 : decode cX3_isClosed 12 = .ok (.getfield 15, 3) := by decide +kernel
theorem dX3_isClosed_15 : decode cX3_isClosed 15 = .ok (.iload_n 1, 1) := by decide +kernel
theorem dX3_isClosed_16 : decode cX3_isClosed 16 = .ok (.iaload, 1) := by decide +kernel
theorem dX3_isClosed_17 : decode cX3_isClosed 17 = .ok (.aload_n 0, 1) := by decide +kernel
theorem dX3_isClosed_18 : decode cX3_isClosed 18 = .ok (.getfield 9, 3) := by decide +kernel
theorem dX3_isClosed_21 : decode cX3_isClosed 21 = .ok (.iload_n 1, 1) := by decide +kernel
theorem dX3_isClosed_22 : decode cX3_isClosed 22 = .ok (.iaload, 1) := by decide +kernel
theorem dX3_isClosed_23 : decode cX3_isClosed 23 = .ok (.ineg, 1) := by decide +kernel
theorem dX3_isClosed_24 : decode cX3_isClosed 24 = .ok (.invokevirtual 49, 3) := by decide +kernel
theorem dX3_isClosed_27 : decode cX3_isClosed 27 = .ok (.ifCond .ne 23, 3) := by decide +kernel
theorem dX3_isClosed_30 : decode cX3_isClosed 30 = .ok (.aload_n 0, 1) := by decide +kernel
theorem dX3_isClosed_31 : decode cX3_isClosed 31 = .ok (.aload_n 0, 1) := by decide +kernel
theorem dX3_isClosed_32 : decode cX3_isClosed 32 = .ok (.getfield 15, 3) := by decide +kernel
theorem dX3_isClosed_35 : decode cX3_isClosed 35 = .ok (.iload_n 1, 1) := by decide +kernel
theorem dX3_isClosed_36 : decode cX3_isClosed 36 = .ok (.iaload, 1) := by decide +kernel
theorem dX3_isClosed_37 : decode cX3_isClosed 37 = .ok (.ineg, 1) := by decide +kernel
theorem dX3_isClosed_38 : decode cX3_isClosed 38 = .ok (.aload_n 0, 1) := by decide +kernel
theorem dX3_isClosed_39 : decode cX3_isClosed 39 = .ok (.getfield 9, 3) := by decide +kernel
theorem dX3_isClosed_42 : decode cX3_isClosed 42 = .ok (.iload_n 1, 1) := by decide +kernel
theorem dX3_isClosed_43 : decode cX3_isClosed 43 = .ok (.iaload, 1) := by decide +kernel
theorem dX3_isClosed_44 : decode cX3_isClosed 44 = .ok (.invokevirtual 49, 3) := by decide +kernel
theorem dX3_isClosed_47 : decode cX3_isClosed 47 = .ok (.ifCond .eq 5, 3) := by decide +kernel
theorem dX3_isClosed_50 : decode cX3_isClosed 50 = .ok (.iconst 0, 1) := by decide +kernel
theorem dX3_isClosed_51 : decode cX3_isClosed 51 = .ok (.ireturn, 1) := by decide +kernel
theorem dX3_isClosed_52 : decode cX3_isClosed 52 = .ok (.iinc 1 1, 3) := by decide +kernel
theorem dX3_isClosed_55 : decode cX3_isClosed 55 = .ok (.goto (-53), 3) := by decide +kernel
theorem dX3_isClosed_58 : decode cX3_isClosed 58 = .ok (.aload_n 0, 1) := by decide +kernel
theorem dX3_isClosed_59 : decode cX3_isClosed 59 = .ok (.getfield 24, 3) := by decide +kernel
theorem dX3_isClosed_62 : decode cX3_isClosed 62 = .ok (.ifCond .le 7, 3) := by decide +kernel
theorem dX3_isClosed_65 : decode cX3_isClosed 65 = .ok (.iconst 1, 1) := by decide +kernel
theorem dX3_isClosed_66 : decode cX3_isClosed 66 = .ok (.goto 4, 3) := by decide +kernel
theorem dX3_isClosed_69 : decode cX3_isClosed 69 = .ok (.iconst 0, 1) := by decide +kernel
theorem dX3_isClosed_70 : decode cX3_isClosed 70 = .ok (.ireturn, 1) := by decide +kernel
theorem dX3_isEndless_0 : decode cX3_isEndless 0 = .ok (.iconst 0, 1) := by decide +kernel
theorem dX3_isEndless_1 : decode cX3_isEndless 1 = .ok (.istore_n 3, 1) := by decide +kernel
theorem dX3_isEndless_2 : decode cX3_isEndless 2 = .ok (.iload_n 3, 1) := by decide +kernel
theorem dX3_isEndless_3 : decode cX3_isEndless 3 = .ok (.aload_n 0, 1) := by decide +kernel
theorem dX3_isEndless_4 : decode cX3_isEndless 4 = .ok (.getfield 24, 3) := by decide +kernel
theorem dX3_isEndless_7 : decode cX3_isEndless 7 = .ok (.if_icmp .ge 31, 3) := by decide +kernel
theorem dX3_isEndless_10 : decode cX3_isEndless 10 = .ok (.aload_n 0, 1) := by decide +kernel
theorem dX3_isEndless_11 : decode cX3_isEndless 11 = .ok (.getfield 9, 3) := by decide +kernel
theorem dX3_isEndless_14 : decode cX3_isEndless 14 = .ok (.iload_n 3, 1) := by decide +kernel
theorem dX3_isEndless_15 : decode cX3_isEndless 15 = .ok (.iaload, 1) := by decide +kernel
theorem dX3_isEndless_16 : decode cX3_isEndless 16 = .ok (.iload_n 1, 1) := by decide +kernel
theorem dX3_isEndless_17 : decode cX3_isEndless 17 = .ok (.imul, 1) := by decide +kernel
theorem dX3_isEndless_18 : decode cX3_isEndless 18 = .ok (.aload_n 0, 1) := by decide +kernel
theorem dX3_isEndless_19 : decode cX3_isEndless 19 = .ok (.getfield 15, 3) := by decide +kernel
theorem dX3_isEndless_22 : decode cX3_isEndless 22 = .ok (.iload_n 3, 1) := by decide +kernel
theorem dX3_isEndless_23 : decode cX3_isEndless 23 = .ok (.iaload, 1) := by decide +kernel
theorem dX3_isEndless_24 : decode cX3_isEndless 24 = .ok (.iload_n 2, 1) := by decide +kernel
theorem dX3_isEndless_25 : decode cX3_isEndless 25 = .ok (.imul, 1) := by decide +kernel
theorem dX3_isEndless_26 : decode cX3_isEndless 26 = .ok (.iadd, 1) := by decide +kernel
theorem dX3_isEndless_27 : decode cX3_isEndless 27 = .ok (.ifCond .le 5, 3) := by decide +kernel
theorem dX3_isEndless_30 : decode cX3_isEndless 30 = .ok (.iconst 0, 1) := by decide +kernel
theorem dX3_isEndless_31 : decode cX3_isEndless 31 = .ok (.ireturn, 1) := by decide +kernel
theorem dX3_isEndless_32 : decode cX3_isEndless 32 = .ok (.iinc 3 1, 3) := by decide +kernel
theorem dX3_isEndless_35 : decode cX3_isEndless 35 = .ok (.goto (-33), 3) := by decide +kernel
theorem dX3_isEndless_38 : decode cX3_isEndless 38 = .ok (.iconst 1, 1) := by decide +kernel
theorem dX3_isEndless_39 : decode cX3_isEndless 39 = .ok (.ireturn, 1) := by decide +kernel
theorem dX3_isFactor_0 : decode cX3_isFactor 0 = .ok (.iload_n 0, 1) := by decide +kernel
theorem dX3_isFactor_1 : decode cX3_isFactor 1 = .ok (.bipush (-60), 2) := by decide +kernel
theorem dX3_isFactor_3 : decode cX3_isFactor 3 = .ok (.if_icmp .lt 13, 3) := by decide +kernel
theorem dX3_isFactor_6 : decode cX3_isFactor 6 = .ok (.iload_n 0, 1) := by decide +kernel
theorem dX3_isFactor_7 : decode cX3_isFactor 7 = .ok (.bipush 60, 2) := by decide +kernel
theorem dX3_isFactor_9 : decode cX3_isFactor 9 = .ok (.if_icmp .gt 7, 3) := by decide +kernel
theorem dX3_isFactor_12 : decode cX3_isFactor 12 = .ok (.iconst 1, 1) := by decide +kernel
theorem dX3_isFactor_13 : decode cX3_isFactor 13 = .ok (.goto 4, 3) := by decide +kernel
theorem dX3_isFactor_16 : decode cX3_isFactor 16 = .ok (.iconst 0, 1) := by decide +kernel
theorem dX3_isFactor_17 : decode cX3_isFactor 17 = .ok (.ireturn, 1) := by decide +kernel
