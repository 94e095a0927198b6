theorem dX5_gap_98 : decode cX5_gap 98 = .ok (.iload_n 2, 1) := by decide +kernel
theorem dX5_gap_99 : decode cX5_gap 99 = .ok (.ireturn, 1) := by decide +kernel
theorem dX5_greatestGap_0 : decode cX5_greatestGap 0 = .ok (.aload_n 0, 1) := by decide +kernel
theorem dX5_greatestGap_1 : decode cX5_greatestGap 1 = .ok (.aload_n 0, 1) := by decide +kernel
theorem dX5_greatestGap_2 : decode cX5_greatestGap 2 = .ok (.invokevirtual 148, 3) := by decide +kernel
theorem dX5_greatestGap_5 : decode cX5_greatestGap 5 = .ok (.ifCond .eq 7, 3) := by decide +kernel
theorem dX5_greatestGap_8 : decode cX5_greatestGap 8 = .ok (.iconst 0, 1) := by decide +kernel
theorem dX5_greatestGap_9 : decode cX5_greatestGap 9 = .ok (.goto 4, 3) := by decide +kernel
theorem dX5_greatestGap_12 : decode cX5_greatestGap 12 = .ok (.iconst 1, 1) := by decide +kernel
theorem dX5_greatestGap_13 : decode cX5_greatestGap 13 = .ok (.putfield 51, 3) := by decide +kernel
theorem dX5_greatestGap_16 : decode cX5_greatestGap 16 = .ok (.aload_n 0, 1) := by decide +kernel
theorem dX5_greatestGap_17 : decode cX5_greatestGap 17 = .ok (.getfield 51, 3) := by decide +kernel
theorem dX5_greatestGap_20 : decode cX5_greatestGap 20 = .ok (.ifCond .eq 5, 3) := by decide +kernel
theorem dX5_greatestGap_23 : decode cX5_greatestGap 23 = .ok (.iconst 0, 1) := by decide +kernel
theorem dX5_greatestGap_24 : decode cX5_greatestGap 24 = .ok (.ireturn, 1) := by decide +kernel
theorem dX5_greatestGap_25 : decode cX5_greatestGap 25 = .ok (.aload_n 0, 1) := by decide +kernel
theorem dX5_greatestGap_26 : decode cX5_greatestGap 26 = .ok (.invokevirtual 152, 3) := by decide +kernel
theorem dX5_greatestGap_29 : decode cX5_greatestGap 29 = .ok (.iconst (-1), 1) := by decide +kernel
theorem dX5_greatestGap_30 : decode cX5_greatestGap 30 = .ok (.istore_n 1, 1) := by decide +kernel
theorem dX5_greatestGap_31 : decode cX5_greatestGap 31 = .ok (.iconst 0, 1) := by decide +kernel
theorem dX5_greatestGap_32 : decode cX5_greatestGap 32 = .ok (.istore_n 2, 1) := by decide +kernel
theorem dX5_greatestGap_33 : decode cX5_greatestGap 33 = .ok (.iload_n 2, 1) := by decide +kernel
theorem dX5_greatestGap_34 : decode cX5_greatestGap 34 = .ok (.sipush 3600, 3) := by decide +kernel
theorem dX5_greatestGap_37 : decode cX5_greatestGap 37 = .ok (.if_icmp .gt 24, 3) := by decide +kernel
theorem dX5_greatestGap_40 : decode cX5_greatestGap 40 = .ok (.aload_n 0, 1) := by decide +kernel
theorem dX5_greatestGap_41 : decode cX5_greatestGap 41 = .ok (.getfield 42, 3) := by decide +kernel
theorem dX5_greatestGap_44 : decode cX5_greatestGap 44 = .ok (.iload_n 2, 1) := by decide +kernel
theorem dX5_greatestGap_45 : decode cX5_greatestGap 45 = .ok (.baload, 1) := by decide +kernel
theorem dX5_greatestGap_46 : decode cX5_greatestGap 46 = .ok (.ifCond .eq 7, 3) := by decide +kernel
theorem dX5_greatestGap_49 : decode cX5_greatestGap 49 = .ok (.iload_n 1, 1) := by decide +kernel
theorem dX5_greatestGap_50 : decode cX5_greatestGap 50 = .ok (.goto 4, 3) := by decide +kernel
theorem dX5_greatestGap_53 : decode cX5_greatestGap 53 = .ok (.iload_n 2, 1) := by decide +kernel
theorem dX5_greatestGap_54 : decode cX5_greatestGap 54 = .ok (.istore_n 1, 1) := by decide +kernel
theorem dX5_greatestGap_55 : decode cX5_greatestGap 55 = .ok (.iinc 2 1, 3) := by decide +kernel
theorem dX5_greatestGap_58 : decode cX5_greatestGap 58 = .ok (.goto (-25), 3) := by decide +kernel
theorem dX5_greatestGap_61 : decode cX5_greatestGap 61 = .ok (.iload_n 1, 1) := by decide +kernel
theorem dX5_greatestGap_62 : decode cX5_greatestGap 62 = .ok (.ireturn, 1) := by decide +kernel
theorem dX5_tables_0 : decode cX5_tables 0 = .ok (.aload_n 0, 1) := by decide +kernel
theorem dX5_tables_1 : decode cX5_tables 1 = .ok (.iload_n 1, 1) := by decide +kernel
theorem dX5_tables_2 : decode cX5_tables 2 = .ok (.iconst 0, 1) := by decide +kernel
theorem dX5_tables_3 : decode cX5_tables 3 = .ok (.bipush 60, 2) := by decide +kernel
theorem dX5_tables_5 : decode cX5_tables 5 = .ok (.invokestatic 58, 3) := by decide +kernel
theorem dX5_tables_8 : decode cX5_tables 8 = .ok (.ifCond .eq 38, 3) := by decide +kernel
theorem dX5_tables_11 : decode cX5_tables 11 = .ok (.iload_n 2, 1) := by decide +kernel
theorem dX5_tables_12 : decode cX5_tables 12 = .ok (.iconst 0, 1) := by decide +kernel
theorem dX5_tables_13 : decode cX5_tables 13 = .ok (.bipush 60, 2) := by decide +kernel
theorem dX5_tables_15 : decode cX5_tables 15 = .ok (.invokestatic 58, 3) := by decide +kernel
theorem dX5_tables_18 : decode cX5_tables 18 = .ok (.ifCond .eq 28, 3) := by decide +kernel
theorem dX5_tables_21 : decode cX5_tables 21 = .ok (.iload_n 3, 1) := by decide +kernel
theorem dX5_tables_22 : decode cX5_tables 22 = .ok (.iconst 0, 1) := by decide +kernel
theorem dX5_tables_23 : decode cX5_tables 23 = .ok (.bipush 60, 2) := by decide +kernel
theorem dX5_tables_25 : decode cX5_tables 25 = .ok (.invokestatic 58, 3) := by decide +kernel
theorem dX5_tables_28 : decode cX5_tables 28 = .ok (.ifCond .eq 18, 3) := by decide +kernel
theorem dX5_tables_31 : decode cX5_tables 31 = .ok (.iload 4, 2) := by decide +kernel
theorem dX5_tables_33 : decode cX5_tables 33 = .ok (.iconst 0, 1) := by decide +kernel
theorem dX5_tables_34 : decode cX5_tables 34 = .ok (.bipush 60, 2) := by decide +kernel
theorem dX5_tables_36 : decode cX5_tables 36 = .ok (.invokestatic 58, 3) := by decide +kernel
theorem dX5_tables_39 : decode cX5_tables 39 = .ok (.ifCond .eq 7, 3) := by decide +kernel
theorem dX5_tables_42 : decode cX5_tables 42 = .ok (.iconst 0, 1) := by decide +kernel
theorem dX5_tables_43 : decode cX5_tables 43 = .ok (.goto 4, 3) := by decide +kernel
theorem dX5_tables_46 : decode cX5_tables 46 = .ok (.iconst 1, 1) := by decide +kernel
theorem dX5_tables_47 : decode cX5_tables 47 = .ok (.putfield 51, 3) := by decide +kernel
theorem dX5_tables_50 : decode cX5_tables 50 = .ok (.aload_n 0, 1) := by decide +kernel
theorem dX5_tables_51 : decode cX5_tables 51 = .ok (.getfield 51, 3) := by decide +kernel
theorem dX5_tables_54 : decode cX5_tables 54 = .ok (.ifCond .eq 5, 3) := by decide +kernel
theorem dX5_tables_57 : decode cX5_tables 57 = .ok (.iconst 0, 1) := by decide +kernel
theorem dX5_tables_58 : decode cX5_tables 58 = .ok (.ireturn, 1) := by decide +kernel
theorem dX5_tables_59 : decode cX5_tables 59 = .ok (.iload_n 1, 1) := by decide +kernel
theorem dX5_tables_60 : decode cX5_tables 60 = .ok (.iload_n 2, 1) := by decide +kernel
theorem dX5_tables_61 : decode cX5_tables 61 = .ok (.iadd, 1) := by decide +kernel
theorem dX5_tables_62 : decode cX5_tables 62 = .ok (.iload_n 3, 1) := by decide +kernel
theorem dX5_tables_63 : decode cX5_tables 63 = .ok (.isub, 1) := by decide +kernel
theorem dX5_tables_64 : decode cX5_tables 64 = .ok (.iload 4, 2) := by decide +kernel
theorem dX5_tables_66 : decode cX5_tables 66 = .ok (.isub, 1) := by decide +kernel
theorem dX5_tables_67 : decode cX5_tables 67 = .ok (.istore 5, 2) := by decide +kernel
theorem dX5_tables_69 : decode cX5_tables 69 = .ok (.iconst 0, 1) := by decide +kernel
theorem dX5_tables_70 : decode cX5_tables 70 = .ok (.istore 6, 2) := by decide +kernel
theorem dX5_tables_72 : decode cX5_tables 72 = .ok (.iconst 0, 1) := by decide +kernel
theorem dX5_tables_73 : decode cX5_tables 73 = .ok (.istore 7, 2) := by decide +kernel
theorem dX5_tables_75 : decode cX5_tables 75 = .ok (.iload 7, 2) := by decide +kernel
theorem dX5_tables_77 : decode cX5_tables 77 = .ok (.iload_n 1, 1) := by decide +kernel
theorem dX5_tables_78 : decode cX5_tables 78 = .ok (.if_icmp .gt 62, 3) := by decide +kernel
theorem dX5_tables_81 : decode cX5_tables 81 = .ok (.iload 7, 2) := by decide +kernel
theorem dX5_tables_83 : decode cX5_tables 83 = .ok (.iload_n 3, 1) := by decide +kernel
theorem dX5_tables_84 : decode cX5_tables 84 = .ok (.if_icmp .gt 56, 3) := by decide +kernel
theorem dX5_tables_87 : decode cX5_tables 87 = .ok (.iconst 0, 1) := by decide +kernel
theorem dX5_tables_88 : decode cX5_tables 88 = .ok (.istore 8, 2) := by decide +kernel
theorem dX5_tables_90 : decode cX5_tables 90 = .ok (.iload 8, 2) := by decide +kernel
theorem dX5_tables_92 : decode cX5_tables 92 = .ok (.iload_n 1, 1) := by decide +kernel
theorem dX5_tables_93 : decode cX5_tables 93 = .ok (.iload 7, 2) := by decide +kernel
theorem dX5_tables_95 : decode cX5_tables 95 = .ok (.isub, 1) := by decide +kernel
theorem dX5_tables_96 : decode cX5_tables 96 = .ok (.if_icmp .gt 38, 3) := by decide +kernel
theorem dX5_tables_99 : decode cX5_tables 99 = .ok (.iload 8, 2) := by decide +kernel
theorem dX5_tables_101 : decode cX5_tables 101 = .ok (.iload 4, 2) := by decide +kernel
theorem dX5_tables_103 : decode cX5_tables 103 = .ok (.if_icmp .gt 31, 3) := by decide +kernel
theorem dX5_tables_106 : decode cX5_tables 106 = .ok (.iload 6, 2) := by decide +kernel
theorem dX5_tables_108 : decode cX5_tables 108 = .ok (.iload 5, 2) := by decide +kernel
theorem dX5_tables_110 : decode cX5_tables 110 = .ok (.iload_n 1, 1) := by decide +kernel
theorem dX5_tables_111 : decode cX5_tables 111 = .ok (.iload 7, 2) := by decide +kernel
theorem dX5_tables_113 : decode cX5_tables 113 = .ok (.isub, 1) := by decide +kernel
theorem dX5_tables_114 : decode cX5_tables 114 = .ok (.iload 8, 2) := by decide +kernel
theorem dX5_tables_116 : decode cX5_tables 116 = .ok (.isub, 1) := by decide +kernel
theorem dX5_tables_117 : decode cX5_tables 117 = .ok (.if_icmp .lt 7, 3) := by decide +kernel
theorem dX5_tables_120 : decode cX5_tables 120 = .ok (.iconst 1, 1) := by decide +kernel
theorem dX5_tables_121 : decode cX5_tables 121 = .ok (.goto 4, 3) := by decide +kernel
theorem dX5_tables_124 : decode cX5_tables 124 = .ok (.iconst 0, 1) := by decide +kernel
theorem dX5_tables_125 : decode cX5_tables 125 = .ok (.iadd, 1) := by decide +kernel
theorem dX5_tables_126 : decode cX5_tables 126 = .ok (.istore 6, 2) := by decide +kernel
theorem dX5_tables_128 : decode cX5_tables 128 = .ok (.iinc 8 1, 3) := by decide +kernel
theorem dX5_tables_131 : decode cX5_tables 131 = .ok (.goto (-41), 3) := by decide +kernel
theorem dX5_tables_134 : decode cX5_tables 134 = .ok (.iinc 7 1, 3) := by decide +kernel
theorem dX5_tables_137 : decode cX5_tables 137 = .ok (.goto (-62), 3) := by decide +kernel
theorem dX5_tables_140 : decode cX5_tables 140 = .ok (.iload 5, 2) := by decide +kernel
theorem dX5_tables_142 : decode cX5_tables 142 = .ok (.ifCond .ge 7, 3) := by decide +kernel
theorem dX5_tables_145 : decode cX5_tables 145 = .ok (.iconst 0, 1) := by decide +kernel
theorem dX5_tables_146 : decode cX5_tables 146 = .ok (.goto 5, 3) := by decide +kernel
theorem dX5_tables_149 : decode cX5_tables 149 = .ok (.iload 6, 2) := by decide +kernel
theorem dX5_tables_151 : decode cX5_tables 151 = .ok (.ireturn, 1) := by decide +kernel
