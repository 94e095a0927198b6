theorem dX2_init_0 : decode cX2_init 0 = .ok (.aload_n 0, 1) := by decide +kernel
theorem dX2_init_1 : decode cX2_init 1 = .ok (.invokespecial 3, 3) := by decide +kernel
theorem dX2_init_4 : decode cX2_init 4 = .ok (.aload_n 0, 1) := by decide +kernel
theorem dX2_init_5 : decode cX2_init 5 = .ok (.bipush 10, 2) := by decide +kernel
theorem dX2_init_7 : decode cX2_init 7 = .ok (.newarray .int, 2) := by decide +kernel
theorem dX2_init_9 : decode cX2_init 9 = .ok (.putfield 9, 3) := by decide +kernel
theorem dX2_init_12 : decode cX2_init 12 = .ok (.aload_n 0, 1) := by decide +kernel
theorem dX2_init_13 : decode cX2_init 13 = .ok (.bipush 10, 2) := by decide +kernel
theorem dX2_init_15 : decode cX2_init 15 = .ok (.newarray .int, 2) := by decide +kernel
theorem dX2_init_17 : decode cX2_init 17 = .ok (.putfield 15, 3) := by decide +kernel
theorem dX2_init_20 : decode cX2_init 20 = .ok (.aload_n 0, 1) := by decide +kernel
theorem dX2_init_21 : decode cX2_init 21 = .ok (.bipush 10, 2) := by decide +kernel
theorem dX2_init_23 : decode cX2_init 23 = .ok (.newarray .int, 2) := by decide +kernel
theorem dX2_init_25 : decode cX2_init 25 = .ok (.putfield 18, 3) := by decide +kernel
theorem dX2_init_28 : decode cX2_init 28 = .ok (.return_, 1) := by decide +kernel
theorem dX2_take_0 : decode cX2_take 0 = .ok (.aload_n 0, 1) := by decide +kernel
theorem dX2_take_1 : decode cX2_take 1 = .ok (.aload_n 1, 1) := by decide +kernel
theorem dX2_take_2 : decode cX2_take 2 = .ok (.getfield 21, 3) := by decide +kernel
theorem dX2_take_5 : decode cX2_take 5 = .ok (.putfield 27, 3) := by decide +kernel
theorem dX2_take_8 : decode cX2_take 8 = .ok (.iconst 0, 1) := by decide +kernel
theorem dX2_take_9 : decode cX2_take 9 = .ok (.istore 4, 2) := by decide +kernel
theorem dX2_take_11 : decode cX2_take 11 = .ok (.iload 4, 2) := by decide +kernel
theorem dX2_take_13 : decode cX2_take 13 = .ok (.aload_n 0, 1) := by decide +kernel
theorem dX2_take_14 : decode cX2_take 14 = .ok (.getfield 27, 3) := by decide +kernel
theorem dX2_take_17 : decode cX2_take 17 = .ok (.if_icmp .ge 63, 3) := by decide +kernel
theorem dX2_take_20 : decode cX2_take 20 = .ok (.aload_n 0, 1) := by decide +kernel
theorem dX2_take_21 : decode cX2_take 21 = .ok (.getfield 9, 3) := by decide +kernel
theorem dX2_take_24 : decode cX2_take 24 = .ok (.iload 4, 2) := by decide +kernel
theorem dX2_take_26 : decode cX2_take 26 = .ok (.aload_n 1, 1) := by decide +kernel
theorem dX2_take_27 : decode cX2_take 27 = .ok (.getfield 28, 3) := by decide +kernel
theorem dX2_take_30 : decode cX2_take 30 = .ok (.iload 4, 2) := by decide +kernel
theorem dX2_take_32 : decode cX2_take 32 = .ok (.iaload, 1) := by decide +kernel
theorem dX2_take_33 : decode cX2_take 33 = .ok (.iastore, 1) := by decide +kernel
theorem dX2_take_34 : decode cX2_take 34 = .ok (.aload_n 0, 1) := by decide +kernel
theorem dX2_take_35 : decode cX2_take 35 = .ok (.getfield 15, 3) := by decide +kernel
theorem dX2_take_38 : decode cX2_take 38 = .ok (.iload 4, 2) := by decide +kernel
theorem dX2_take_40 : decode cX2_take 40 = .ok (.aload_n 1, 1) := by decide +kernel
theorem dX2_take_41 : decode cX2_take 41 = .ok (.getfield 31, 3) := by decide +kernel
theorem dX2_take_44 : decode cX2_take 44 = .ok (.iload 4, 2) := by decide +kernel
theorem dX2_take_46 : decode cX2_take 46 = .ok (.iaload, 1) := by decide +kernel
theorem dX2_take_47 : decode cX2_take 47 = .ok (.iastore, 1) := by decide +kernel
theorem dX2_take_48 : decode cX2_take 48 = .ok (.aload_n 0, 1) := by decide +kernel
theorem dX2_take_49 : decode cX2_take 49 = .ok (.getfield 18, 3) := by decide +kernel
theorem dX2_take_52 : decode cX2_take 52 = .ok (.iload 4, 2) := by decide +kernel
theorem dX2_take_54 : decode cX2_take 54 = .ok (.iload_n 2, 1) := by decide +kernel
theorem dX2_take_55 : decode cX2_take 55 = .ok (.aload_n 1, 1) := by decide +kernel
theorem dX2_take_56 : decode cX2_take 56 = .ok (.getfield 34, 3) := by decide +kernel
theorem dX2_take_59 : decode cX2_take 59 = .ok (.iload 4, 2) := by decide +kernel
theorem dX2_take_61 : decode cX2_take 61 = .ok (.iaload, 1) := by decide +kernel
theorem dX2_take_62 : decode cX2_take 62 = .ok (.imul, 1) := by decide +kernel
theorem dX2_take_63 : decode cX2_take 63 = .ok (.iload_n 3, 1) := by decide +kernel
theorem dX2_take_64 : decode cX2_take 64 = .ok (.aload_n 1, 1) := by decide +kernel
theorem dX2_take_65 : decode cX2_take 65 = .ok (.getfield 37, 3) := by decide +kernel
theorem dX2_take_68 : decode cX2_take 68 = .ok (.iload 4, 2) := by decide +kernel
theorem dX2_take_70 : decode cX2_take 70 = .ok (.iaload, 1) := by decide +kernel
theorem dX2_take_71 : decode cX2_take 71 = .ok (.imul, 1) := by decide +kernel
theorem dX2_take_72 : decode cX2_take 72 = .ok (.iadd, 1) := by decide +kernel
theorem dX2_take_73 : decode cX2_take 73 = .ok (.iastore, 1) := by decide +kernel
theorem dX2_take_74 : decode cX2_take 74 = .ok (.iinc 4 1, 3) := by decide +kernel
theorem dX2_take_77 : decode cX2_take 77 = .ok (.goto (-66), 3) := by decide +kernel
theorem dX2_take_80 : decode cX2_take 80 = .ok (.return_, 1) := by decide +kernel
theorem dX2_makeRowsColumns_0 : decode cX2_makeRowsColumns 0 = .ok (.iconst 0, 1) := by decide +kernel
theorem dX2_makeRowsColumns_1 : decode cX2_makeRowsColumns 1 = .ok (.istore_n 1, 1) := by decide +kernel
theorem dX2_makeRowsColumns_2 : decode cX2_makeRowsColumns 2 = .ok (.iload_n 1, 1) := by decide +kernel
theorem dX2_makeRowsColumns_3 : decode cX2_makeRowsColumns 3 = .ok (.aload_n 0, 1) := by decide +kernel
theorem dX2_makeRowsColumns_4 : decode cX2_makeRowsColumns 4 = .ok (.getfield 27, 3) := by decide +kernel
theorem dX2_makeRowsColumns_7 : decode cX2_makeRowsColumns 7 = .ok (.if_icmp .ge 35, 3) := by decide +kernel
theorem dX2_makeRowsColumns_10 : decode cX2_makeRowsColumns 10 = .ok (.aload_n 0, 1) := by decide +kernel
theorem dX2_makeRowsColumns_11 : decode cX2_makeRowsColumns 11 = .ok (.getfield 9, 3) := by decide +kernel
theorem dX2_makeRowsColumns_14 : decode cX2_makeRowsColumns 14 = .ok (.iload_n 1, 1) := by decide +kernel
theorem dX2_makeRowsColumns_15 : decode cX2_makeRowsColumns 15 = .ok (.iaload, 1) := by decide +kernel
theorem dX2_makeRowsColumns_16 : decode cX2_makeRowsColumns 16 = .ok (.istore_n 2, 1) := by decide +kernel
theorem dX2_makeRowsColumns_17 : decode cX2_makeRowsColumns 17 = .ok (.aload_n 0, 1) := by decide +kernel
theorem dX2_makeRowsColumns_18 : decode cX2_makeRowsColumns 18 = .ok (.getfield 9, 3) := by decide +kernel
theorem dX2_makeRowsColumns_21 : decode cX2_makeRowsColumns 21 = .ok (.iload_n 1, 1) := by decide +kernel
theorem dX2_makeRowsColumns_22 : decode cX2_makeRowsColumns 22 = .ok (.aload_n 0, 1) := by decide +kernel
theorem dX2_makeRowsColumns_23 : decode cX2_makeRowsColumns 23 = .ok (.getfield 15, 3) := by decide +kernel
theorem dX2_makeRowsColumns_26 : decode cX2_makeRowsColumns 26 = .ok (.iload_n 1, 1) := by decide +kernel
theorem dX2_makeRowsColumns_27 : decode cX2_makeRowsColumns 27 = .ok (.iaload, 1) := by decide +kernel
theorem dX2_makeRowsColumns_28 : decode cX2_makeRowsColumns 28 = .ok (.iastore, 1) := by decide +kernel
theorem dX2_makeRowsColumns_29 : decode cX2_makeRowsColumns 29 = .ok (.aload_n 0, 1) := by decide +kernel
theorem dX2_makeRowsColumns_30 : decode cX2_makeRowsColumns 30 = .ok (.getfield 15, 3) := by decide +kernel
theorem dX2_makeRowsColumns_33 : decode cX2_makeRowsColumns 33 = .ok (.iload_n 1, 1) := by decide +kernel
theorem dX2_makeRowsColumns_34 : decode cX2_makeRowsColumns 34 = .ok (.iload_n 2, 1) := by decide +kernel
theorem dX2_makeRowsColumns_35 : decode cX2_makeRowsColumns 35 = .ok (.iastore, 1) := by decide +kernel
theorem dX2_makeRowsColumns_36 : decode cX2_makeRowsColumns 36 = .ok (.iinc 1 1, 3) := by decide +kernel
theorem dX2_makeRowsColumns_39 : decode cX2_makeRowsColumns 39 = .ok (.goto (-37), 3) := by decide +kernel
theorem dX2_makeRowsColumns_42 : decode cX2_makeRowsColumns 42 = .ok (.return_, 1) := by decide +kernel
theorem dX2_leaveOutEdges_0 : decode cX2_leaveOutEdges 0 = .ok (.iconst 0, 1) := by decide +kernel
theorem dX2_leaveOutEdges_1 : decode cX2_leaveOutEdges 1 = .ok (.istore_n 1, 1) := by decide +kernel
theorem dX2_leaveOutEdges_2 : decode cX2_leaveOutEdges 2 = .ok (.iload_n 1, 1) := by decide +kernel
theorem dX2_leaveOutEdges_3 : decode cX2_leaveOutEdges 3 = .ok (.aload_n 0, 1) := by decide +kernel
theorem dX2_leaveOutEdges_4 : decode cX2_leaveOutEdges 4 = .ok (.getfield 27, 3) := by decide +kernel
theorem dX2_leaveOutEdges_7 : decode cX2_leaveOutEdges 7 = .ok (.if_icmp .ge 19, 3) := by decide +kernel
theorem dX2_leaveOutEdges_10 : decode cX2_leaveOutEdges 10 = .ok (.aload_n 0, 1) := by decide +kernel
theorem dX2_leaveOutEdges_11 : decode cX2_leaveOutEdges 11 = .ok (.getfield 18, 3) := by decide +kernel
theorem dX2_leaveOutEdges_14 : decode cX2_leaveOutEdges 14 = .ok (.iload_n 1, 1) := by decide +kernel
theorem dX2_leaveOutEdges_15 : decode cX2_leaveOutEdges 15 = .ok (.dup2, 1) := by decide +kernel
theorem dX2_leaveOutEdges_16 : decode cX2_leaveOutEdges 16 = .ok (.iaload, 1) := by decide +kernel
theorem dX2_leaveOutEdges_17 : decode cX2_leaveOutEdges 17 = .ok (.iconst 1, 1) := by decide +kernel
theorem dX2_leaveOutEdges_18 : decode cX2_leaveOutEdges 18 = .ok (.isub, 1) := by decide +kernel
theorem dX2_leaveOutEdges_19 : decode cX2_leaveOutEdges 19 = .ok (.iastore, 1) := by decide +kernel
theorem dX2_leaveOutEdges_20 : decode cX2_leaveOutEdges 20 = .ok (.iinc 1 1, 3) := by decide +kernel
theorem dX2_leaveOutEdges_23 : decode cX2_leaveOutEdges 23 = .ok (.goto (-21), 3) := by decide +kernel
theorem dX2_leaveOutEdges_26 : decode cX2_leaveOutEdges 26 = .ok (.return_, 1) := by decide +kernel
theorem dX2_points_0 : decode cX2_points 0 = .ok (.lconst 0, 1) := by decide +kernel
theorem dX2_points_1 : decode cX2_points 1 = .ok (.lstore_n 1, 1) := by decide +kernel
theorem dX2_points_2 : decode cX2_points 2 = .ok (.aload_n 0, 1) := by decide +kernel
theorem dX2_points_3 : decode cX2_points 3 = .ok (.invokevirtual 40, 3) := by decide +kernel
theorem dX2_points_6 : decode cX2_points 6 = .ok (.aload_n 0, 1) := by decide +kernel
theorem dX2_points_7 : decode cX2_points 7 = .ok (.getfield 43, 3) := by decide +kernel
theorem dX2_points_10 : decode cX2_points 10 = .ok (.istore_n 3, 1) := by decide +kernel
theorem dX2_points_11 : decode cX2_points 11 = .ok (.iload_n 3, 1) := by decide +kernel
theorem dX2_points_12 : decode cX2_points 12 = .ok (.aload_n 0, 1) := by decide +kernel
theorem dX2_points_13 : decode cX2_points 13 = .ok (.getfield 46, 3) := by decide +kernel
theorem dX2_points_16 : decode cX2_points 16 = .ok (.if_icmp .gt 33, 3) := by decide +kernel
theorem dX2_points_19 : decode cX2_points 19 = .ok (.aload_n 0, 1) := by decide +kernel
theorem dX2_points_20 : decode cX2_points 20 = .ok (.iload_n 3, 1) := by decide +kernel
theorem dX2_points_21 : decode cX2_points 21 = .ok (.invokevirtual 49, 3) := by decide +kernel
theorem dX2_points_24 : decode cX2_points 24 = .ok (.lload_n 1, 1) := by decide +kernel
theorem dX2_points_25 : decode cX2_points 25 = .ok (.iconst 0, 1) := by decide +kernel
theorem dX2_points_26 : decode cX2_points 26 = .ok (.aload_n 0, 1) := by decide +kernel
theorem dX2_points_27 : decode cX2_points 27 = .ok (.getfield 53, 3) := by decide +kernel
theorem dX2_points_30 : decode cX2_points 30 = .ok (.aload_n 0, 1) := by decide +kernel
theorem dX2_points_31 : decode cX2_points 31 = .ok (.getfield 56, 3) := by decide +kernel
theorem dX2_points_34 : decode cX2_points 34 = .ok (.isub, 1) := by decide +kernel
theorem dX2_points_35 : decode cX2_points 35 = .ok (.iconst 1, 1) := by decide +kernel
theorem dX2_points_36 : decode cX2_points 36 = .ok (.iadd, 1) := by decide +kernel
theorem dX2_points_37 : decode cX2_points 37 = .ok (.invokestatic 59, 3) := by decide +kernel
theorem dX2_points_40 : decode cX2_points 40 = .ok (.i2l, 1) := by decide +kernel
theorem dX2_points_41 : decode cX2_points 41 = .ok (.ladd, 1) := by decide +kernel
theorem dX2_points_42 : decode cX2_points 42 = .ok (.lstore_n 1, 1) := by decide +kernel
theorem dX2_points_43 : decode cX2_points 43 = .ok (.iinc 3 1, 3) := by decide +kernel
theorem dX2_points_46 : decode cX2_points 46 = .ok (.goto (-35), 3) := by decide +kernel
theorem dX2_points_49 : decode cX2_points 49 = .ok (.lload_n 1, 1) := by decide +kernel
theorem dX2_points_50 : decode cX2_points 50 = .ok (.lreturn, 1) := by decide +kernel
theorem dX2_findBest_0 : decode cX2_findBest 0 = .ok (.iconst 0, 1) := by decide +kernel
theorem dX2_findBest_1 : decode cX2_findBest 1 = .ok (.istore_n 3, 1) := by decide +kernel
theorem dX2_findBest_2 : decode cX2_findBest 2 = .ok (.aload_n 0, 1) := by decide +kernel
theorem dX2_findBest_3 : decode cX2_findBest 3 = .ok (.invokevirtual 40, 3) := by decide +kernel
theorem dX2_findBest_6 : decode cX2_findBest 6 = .ok (.aload_n 0, 1) := by decide +kernel
theorem dX2_findBest_7 : decode cX2_findBest 7 = .ok (.getfield 43, 3) := by decide +kernel
theorem dX2_findBest_10 : decode cX2_findBest 10 = .ok (.istore 4, 2) := by decide +kernel
theorem dX2_findBest_12 : decode cX2_findBest 12 = .ok (.iload 4, 2) := by decide +kernel
theorem dX2_findBest_14 : decode cX2_findBest 14 = .ok (.aload_n 0, 1) := by decide +kernel
theorem dX2_findBest_15 : decode cX2_findBest 15 = .ok (.getfield 46, 3) := by decide +kernel
theorem dX2_findBest_18 : decode cX2_findBest 18 = .ok (.if_icmp .gt 86, 3) := by decide +kernel
theorem dX2_findBest_21 : decode cX2_findBest 21 = .ok (.aload_n 0, 1) := by decide +kernel
theorem dX2_findBest_22 : decode cX2_findBest 22 = .ok (.iload 4, 2) := by decide +kernel
theorem dX2_findBest_24 : decode cX2_findBest 24 = .ok (.invokevirtual 49, 3) := by decide +kernel
theorem dX2_findBest_27 : decode cX2_findBest 27 = .ok (.iload_n 2, 1) := by decide +kernel
theorem dX2_findBest_28 : decode cX2_findBest 28 = .ok (.ifCond .le 10, 3) := by decide +kernel
theorem dX2_findBest_31 : decode cX2_findBest 31 = .ok (.aload_n 0, 1) := by decide +kernel
theorem dX2_findBest_32 : decode cX2_findBest 32 = .ok (.getfield 53, 3) := by decide +kernel
theorem dX2_findBest_35 : decode cX2_findBest 35 = .ok (.goto 7, 3) := by decide +kernel
theorem dX2_findBest_38 : decode cX2_findBest 38 = .ok (.aload_n 0, 1) := by decide +kernel
theorem dX2_findBest_39 : decode cX2_findBest 39 = .ok (.getfield 56, 3) := by decide +kernel
theorem dX2_findBest_42 : decode cX2_findBest 42 = .ok (.istore 5, 2) := by decide +kernel
theorem dX2_findBest_44 : decode cX2_findBest 44 = .ok (.aload_n 0, 1) := by decide +kernel
theorem dX2_findBest_45 : decode cX2_findBest 45 = .ok (.getfield 56, 3) := by decide +kernel
theorem dX2_findBest_48 : decode cX2_findBest 48 = .ok (.aload_n 0, 1) := by decide +kernel
theorem dX2_findBest_49 : decode cX2_findBest 49 = .ok (.getfield 53, 3) := by decide +kernel
theorem dX2_findBest_52 : decode cX2_findBest 52 = .ok (.if_icmp .gt 46, 3) := by decide +kernel
theorem dX2_findBest_55 : decode cX2_findBest 55 = .ok (.iload_n 3, 1) := by decide +kernel
theorem dX2_findBest_56 : decode cX2_findBest 56 = .ok (.ifCond .eq 28, 3) := by decide +kernel
theorem dX2_findBest_59 : decode cX2_findBest 59 = .ok (.iload_n 1, 1) := by decide +kernel
theorem dX2_findBest_60 : decode cX2_findBest 60 = .ok (.iload 4, 2) := by decide +kernel
theorem dX2_findBest_62 : decode cX2_findBest 62 = .ok (.imul, 1) := by decide +kernel
theorem dX2_findBest_63 : decode cX2_findBest 63 = .ok (.iload_n 2, 1) := by decide +kernel
theorem dX2_findBest_64 : decode cX2_findBest 64 = .ok (.iload 5, 2) := by decide +kernel
theorem dX2_findBest_66 : decode cX2_findBest 66 = .ok (.imul, 1) := by decide +kernel
theorem dX2_findBest_67 : decode cX2_findBest 67 = .ok (.iadd, 1) := by decide +kernel
theorem dX2_findBest_68 : decode cX2_findBest 68 = .ok (.iload_n 1, 1) := by decide +kernel
theorem dX2_findBest_69 : decode cX2_findBest 69 = .ok (.aload_n 0, 1) := by decide +kernel
theorem dX2_findBest_70 : decode cX2_findBest 70 = .ok (.getfield 65, 3) := by decide +kernel
theorem dX2_findBest_73 : decode cX2_findBest 73 = .ok (.imul, 1) := by decide +kernel
theorem dX2_findBest_74 : decode cX2_findBest 74 = .ok (.iload_n 2, 1) := by decide +kernel
theorem dX2_findBest_75 : decode cX2_findBest 75 = .ok (.aload_n 0, 1) := by decide +kernel
theorem dX2_findBest_76 : decode cX2_findBest 76 = .ok (.getfield 68, 3) := by decide +kernel
theorem dX2_findBest_79 : decode cX2_findBest 79 = .ok (.imul, 1) := by decide +kernel
theorem dX2_findBest_80 : decode cX2_findBest 80 = .ok (.iadd, 1) := by decide +kernel
theorem dX2_findBest_81 : decode cX2_findBest 81 = .ok (.if_icmp .le 17, 3) := by decide +kernel
theorem dX2_findBest_84 : decode cX2_findBest 84 = .ok (.iconst 1, 1) := by decide +kernel
theorem dX2_findBest_85 : decode cX2_findBest 85 = .ok (.istore_n 3, 1) := by decide +kernel
theorem dX2_findBest_86 : decode cX2_findBest 86 = .ok (.aload_n 0, 1) := by decide +kernel
theorem dX2_findBest_87 : decode cX2_findBest 87 = .ok (.iload 4, 2) := by decide +kernel
theorem dX2_findBest_89 : decode cX2_findBest 89 = .ok (.putfield 65, 3) := by decide +kernel
theorem dX2_findBest_92 : decode cX2_findBest 92 = .ok (.aload_n 0, 1) := by decide +kernel
theorem dX2_findBest_93 : decode cX2_findBest 93 = .ok (.iload 5, 2) := by decide +kernel
theorem dX2_findBest_95 : decode cX2_findBest 95 = .ok (.putfield 68, 3) := by decide +kernel
theorem dX2_findBest_98 : decode cX2_findBest 98 = .ok (.iinc 4 1, 3) := by decide +kernel
theorem dX2_findBest_101 : decode cX2_findBest 101 = .ok (.goto (-89), 3) := by decide +kernel
theorem dX2_findBest_104 : decode cX2_findBest 104 = .ok (.iload_n 3, 1) := by decide +kernel
theorem dX2_findBest_105 : decode cX2_findBest 105 = .ok (.ireturn, 1) := by decide +kernel
theorem dX2_findColumns_0 : decode cX2_findColumns 0 = .ok (.aload_n 0, 1) := by decide +kernel
theorem dX2_findColumns_1 : decode cX2_findColumns 1 = .ok (.ldc 71, 2) := by decide +kernel
theorem dX2_findColumns_3 : decode cX2_findColumns 3 = .ok (.putfield 43, 3) := by decide +kernel
theorem dX2_findColumns_6 : decode cX2_findColumns 6 = .ok (.aload_n 0, 1) := by decide +kernel
theorem dX2_findColumns_7 : decode cX2_findColumns 7 = .ok (.ldc 72, 2) := by decide +kernel
theorem dX2_findColumns_9 : decode cX2_findColumns 9 = .ok (.putfield 46, 3) := by decide +kernel
theorem dX2_findColumns_12 : decode cX2_findColumns 12 = .ok (.iconst 0, 1) := by decide +kernel
theorem dX2_findColumns_13 : decode cX2_findColumns 13 = .ok (.istore_n 1, 1) := by decide +kernel
theorem dX2_findColumns_14 : decode cX2_findColumns 14 = .ok (.iload_n 1, 1) := by decide +kernel
theorem dX2_findColumns_15 : decode cX2_findColumns 15 = .ok (.aload_n 0, 1) := by decide +kernel
theorem dX2_findColumns_16 : decode cX2_findColumns 16 = .ok (.getfield 27, 3) := by decide +kernel
theorem dX2_findColumns_19 : decode cX2_findColumns 19 = .ok (.if_icmp .ge 126, 3) := by decide +kernel
theorem dX2_findColumns_22 : decode cX2_findColumns 22 = .ok (.aload_n 0, 1) := by decide +kernel
theorem dX2_findColumns_23 : decode cX2_findColumns 23 = .ok (.getfield 15, 3) := by decide +kernel
theorem dX2_findColumns_26 : decode cX2_findColumns 26 = .ok (.iload_n 1, 1) := by decide +kernel
theorem dX2_findColumns_27 : decode cX2_findColumns 27 = .ok (.iaload, 1) := by decide +kernel
theorem dX2_findColumns_28 : decode cX2_findColumns 28 = .ok (.ifCond .ne 19, 3) := by decide +kernel
theorem dX2_findColumns_31 : decode cX2_findColumns 31 = .ok (.aload_n 0, 1) := by decide +kernel
theorem dX2_findColumns_32 : decode cX2_findColumns 32 = .ok (.aload_n 0, 1) := by decide +kernel
theorem dX2_findColumns_33 : decode cX2_findColumns 33 = .ok (.getfield 9, 3) := by decide +kernel
theorem dX2_findColumns_36 : decode cX2_findColumns 36 = .ok (.iload_n 1, 1) := by decide +kernel
theorem dX2_findColumns_37 : decode cX2_findColumns 37 = .ok (.iaload, 1) := by decide +kernel
theorem dX2_findColumns_38 : decode cX2_findColumns 38 = .ok (.aload_n 0, 1) := by decide +kernel
theorem dX2_findColumns_39 : decode cX2_findColumns 39 = .ok (.getfield 18, 3) := by decide +kernel
theorem dX2_findColumns_42 : decode cX2_findColumns 42 = .ok (.iload_n 1, 1) := by decide +kernel
theorem dX2_findColumns_43 : decode cX2_findColumns 43 = .ok (.iaload, 1) := by decide +kernel
theorem dX2_findColumns_44 : decode cX2_findColumns 44 = .ok (.invokevirtual 73, 3) := by decide +kernel
theorem dX2_findColumns_47 : decode cX2_findColumns 47 = .ok (.iconst 0, 1) := by decide +kernel
theorem dX2_findColumns_48 : decode cX2_findColumns 48 = .ok (.istore_n 2, 1) := by decide +kernel
theorem dX2_findColumns_49 : decode cX2_findColumns 49 = .ok (.iload_n 2, 1) := by decide +kernel
theorem dX2_findColumns_50 : decode cX2_findColumns 50 = .ok (.aload_n 0, 1) := by decide +kernel
theorem dX2_findColumns_51 : decode cX2_findColumns 51 = .ok (.getfield 27, 3) := by decide +kernel
theorem dX2_findColumns_54 : decode cX2_findColumns 54 = .ok (.if_icmp .ge 85, 3) := by decide +kernel
theorem dX2_findColumns_57 : decode cX2_findColumns 57 = .ok (.aload_n 0, 1) := by decide +kernel
theorem dX2_findColumns_58 : decode cX2_findColumns 58 = .ok (.getfield 15, 3) := by decide +kernel
theorem dX2_findColumns_61 : decode cX2_findColumns 61 = .ok (.iload_n 1, 1) := by decide +kernel
theorem dX2_findColumns_62 : decode cX2_findColumns 62 = .ok (.iaload, 1) := by decide +kernel
theorem dX2_findColumns_63 : decode cX2_findColumns 63 = .ok (.ifCond .le 70, 3) := by decide +kernel
theorem dX2_findColumns_66 : decode cX2_findColumns 66 = .ok (.aload_n 0, 1) := by decide +kernel
theorem dX2_findColumns_67 : decode cX2_findColumns 67 = .ok (.getfield 15, 3) := by decide +kernel
theorem dX2_findColumns_70 : decode cX2_findColumns 70 = .ok (.iload_n 2, 1) := by decide +kernel
theorem dX2_findColumns_71 : decode cX2_findColumns 71 = .ok (.iaload, 1) := by decide +kernel
theorem dX2_findColumns_72 : decode cX2_findColumns 72 = .ok (.ifCond .ge 61, 3) := by decide +kernel
theorem dX2_findColumns_75 : decode cX2_findColumns 75 = .ok (.aload_n 0, 1) := by decide +kernel
theorem dX2_findColumns_76 : decode cX2_findColumns 76 = .ok (.aload_n 0, 1) := by decide +kernel
theorem dX2_findColumns_77 : decode cX2_findColumns 77 = .ok (.getfield 9, 3) := by decide +kernel
theorem dX2_findColumns_80 : decode cX2_findColumns 80 = .ok (.iload_n 2, 1) := by decide +kernel
theorem dX2_findColumns_81 : decode cX2_findColumns 81 = .ok (.iaload, 1) := by decide +kernel
theorem dX2_findColumns_82 : decode cX2_findColumns 82 = .ok (.aload_n 0, 1) := by decide +kernel
theorem dX2_findColumns_83 : decode cX2_findColumns 83 = .ok (.getfield 15, 3) := by decide +kernel
theorem dX2_findColumns_86 : decode cX2_findColumns 86 = .ok (.iload_n 1, 1) := by decide +kernel
theorem dX2_findColumns_87 : decode cX2_findColumns 87 = .ok (.iaload, 1) := by decide +kernel
theorem dX2_findColumns_88 : decode cX2_findColumns 88 = .ok (.imul, 1) := by decide +kernel
theorem dX2_findColumns_89 : decode cX2_findColumns 89 = .ok (.aload_n 0, 1) := by decide +kernel
theorem dX2_findColumns_90 : decode cX2_findColumns 90 = .ok (.getfield 9, 3) := by decide +kernel
theorem dX2_findColumns_93 : decode cX2_findColumns 93 = .ok (.iload_n 1, 1) := by decide +kernel
theorem dX2_findColumns_94 : decode cX2_findColumns 94 = .ok (.iaload, 1) := by decide +kernel
theorem dX2_findColumns_95 : decode cX2_findColumns 95 = .ok (.aload_n 0, 1) := by decide +kernel
theorem dX2_findColumns_96 : decode cX2_findColumns 96 = .ok (.getfield 15, 3) := by decide +kernel
theorem dX2_findColumns_99 : decode cX2_findColumns 99 = .ok (.iload_n 2, 1) := by decide +kernel
theorem dX2_findColumns_100 : decode cX2_findColumns 100 = .ok (.iaload, 1) := by decide +kernel
theorem dX2_findColumns_101 : decode cX2_findColumns 101 = .ok (.imul, 1) := by decide +kernel
theorem dX2_findColumns_102 : decode cX2_findColumns 102 = .ok (.isub, 1) := by decide +kernel
theorem dX2_findColumns_103 : decode cX2_findColumns 103 = .ok (.aload_n 0, 1) := by decide +kernel
theorem dX2_findColumns_104 : decode cX2_findColumns 104 = .ok (.getfield 18, 3) := by decide +kernel
theorem dX2_findColumns_107 : decode cX2_findColumns 107 = .ok (.iload_n 2, 1) := by decide +kernel
theorem dX2_findColumns_108 : decode cX2_findColumns 108 = .ok (.iaload, 1) := by decide +kernel
theorem dX2_findColumns_109 : decode cX2_findColumns 109 = .ok (.aload_n 0, 1) := by decide +kernel
theorem dX2_findColumns_110 : decode cX2_findColumns 110 = .ok (.getfield 15, 3) := by decide +kernel
theorem dX2_findColumns_113 : decode cX2_findColumns 113 = .ok (.iload_n 1, 1) := by decide +kernel
theorem dX2_findColumns_114 : decode cX2_findColumns 114 = .ok (.iaload, 1) := by decide +kernel
theorem dX2_findColumns_115 : decode cX2_findColumns 115 = .ok (.imul, 1) := by decide +kernel
theorem dX2_findColumns_116 : decode cX2_findColumns 116 = .ok (.aload_n 0, 1) := by decide +kernel
theorem dX2_findColumns_117 : decode cX2_findColumns 117 = .ok (.getfield 18, 3) := by decide +kernel
theorem dX2_findColumns_120 : decode cX2_findColumns 120 = .ok (.iload_n 1, 1) := by decide +kernel
theorem dX2_findColumns_121 : decode cX2_findColumns 121 = .ok (.iaload, 1) := by decide +kernel
theorem dX2_findColumns_122 : decode cX2_findColumns 122 = .ok (.aload_n 0, 1) := by decide +kernel
theorem dX2_findColumns_123 : decode cX2_findColumns 123 = .ok (.getfield 15, 3) := by decide +kernel
theorem dX2_findColumns_126 : decode cX2_findColumns 126 = .ok (.iload_n 2, 1) := by decide +kernel
theorem dX2_findColumns_127 : decode cX2_findColumns 127 = .ok (.iaload, 1) := by decide +kernel
theorem dX2_findColumns_128 : decode cX2_findColumns 128 = .ok (.imul, 1) := by decide +kernel
theorem dX2_findColumns_129 : decode cX2_findColumns 129 = .ok (.isub, 1) := by decide +kernel
theorem dX2_findColumns_130 : decode cX2_findColumns 130 = .ok (.invokevirtual 73, 3) := by decide +kernel
theorem dX2_findColumns_133 : decode cX2_findColumns 133 = .ok (.iinc 2 1, 3) := by decide +kernel
theorem dX2_findColumns_136 : decode cX2_findColumns 136 = .ok (.goto (-87), 3) := by decide +kernel
theorem dX2_findColumns_139 : decode cX2_findColumns 139 = .ok (.iinc 1 1, 3) := by decide +kernel
theorem dX2_findColumns_142 : decode cX2_findColumns 142 = .ok (.goto (-128), 3) := by decide +kernel
theorem dX2_findColumns_145 : decode cX2_findColumns 145 = .ok (.return_, 1) := by decide +kernel
theorem dX2_narrow_0 : decode cX2_narrow 0 = .ok (.iload_n 1, 1) := by decide +kernel
theorem dX2_narrow_1 : decode cX2_narrow 1 = .ok (.ifCond .le 22, 3) := by decide +kernel
theorem dX2_narrow_4 : decode cX2_narrow 4 = .ok (.aload_n 0, 1) := by decide +kernel
theorem dX2_narrow_5 : decode cX2_narrow 5 = .ok (.aload_n 0, 1) := by decide +kernel
theorem dX2_narrow_6 : decode cX2_narrow 6 = .ok (.getfield 46, 3) := by decide +kernel
theorem dX2_narrow_9 : decode cX2_narrow 9 = .ok (.iload_n 2, 1) := by decide +kernel
theorem dX2_narrow_10 : decode cX2_narrow 10 = .ok (.iload_n 1, 1) := by decide +kernel
theorem dX2_narrow_11 : decode cX2_narrow 11 = .ok (.invokestatic 77, 3) := by decide +kernel
theorem dX2_narrow_14 : decode cX2_narrow 14 = .ok (.invokestatic 80, 3) := by decide +kernel
theorem dX2_narrow_17 : decode cX2_narrow 17 = .ok (.putfield 46, 3) := by decide +kernel
theorem dX2_narrow_20 : decode cX2_narrow 20 = .ok (.goto 25, 3) := by decide +kernel
theorem dX2_narrow_23 : decode cX2_narrow 23 = .ok (.iload_n 1, 1) := by decide +kernel
theorem dX2_narrow_24 : decode cX2_narrow 24 = .ok (.ifCond .ge 21, 3) := by decide +kernel
theorem dX2_narrow_27 : decode cX2_narrow 27 = .ok (.aload_n 0, 1) := by decide +kernel
theorem dX2_narrow_28 : decode cX2_narrow 28 = .ok (.aload_n 0, 1) := by decide +kernel
theorem dX2_narrow_29 : decode cX2_narrow 29 = .ok (.getfield 43, 3) := by decide +kernel
theorem dX2_narrow_32 : decode cX2_narrow 32 = .ok (.iload_n 2, 1) := by decide +kernel
theorem dX2_narrow_33 : decode cX2_narrow 33 = .ok (.iload_n 1, 1) := by decide +kernel
theorem dX2_narrow_34 : decode cX2_narrow 34 = .ok (.ineg, 1) := by decide +kernel
theorem dX2_narrow_35 : decode cX2_narrow 35 = .ok (.invokestatic 77, 3) := by decide +kernel
theorem dX2_narrow_38 : decode cX2_narrow 38 = .ok (.ineg, 1) := by decide +kernel
theorem dX2_narrow_39 : decode cX2_narrow 39 = .ok (.invokestatic 59, 3) := by decide +kernel
theorem dX2_narrow_42 : decode cX2_narrow 42 = .ok (.putfield 43, 3) := by decide +kernel
theorem dX2_narrow_45 : decode cX2_narrow 45 = .ok (.return_, 1) := by decide +kernel
theorem dX2_findEnds_0 : decode cX2_findEnds 0 = .ok (.aload_n 0, 1) := by decide +kernel
theorem dX2_findEnds_1 : decode cX2_findEnds 1 = .ok (.ldc 71, 2) := by decide +kernel
theorem dX2_findEnds_3 : decode cX2_findEnds 3 = .ok (.putfield 56, 3) := by decide +kernel
theorem dX2_findEnds_6 : decode cX2_findEnds 6 = .ok (.aload_n 0, 1) := by decide +kernel
theorem dX2_findEnds_7 : decode cX2_findEnds 7 = .ok (.ldc 72, 2) := by decide +kernel
theorem dX2_findEnds_9 : decode cX2_findEnds 9 = .ok (.putfield 53, 3) := by decide +kernel
theorem dX2_findEnds_12 : decode cX2_findEnds 12 = .ok (.iconst 0, 1) := by decide +kernel
theorem dX2_findEnds_13 : decode cX2_findEnds 13 = .ok (.istore_n 2, 1) := by decide +kernel
theorem dX2_findEnds_14 : decode cX2_findEnds 14 = .ok (.iload_n 2, 1) := by decide +kernel
theorem dX2_findEnds_15 : decode cX2_findEnds 15 = .ok (.aload_n 0, 1) := by decide +kernel
theorem dX2_findEnds_16 : decode cX2_findEnds 16 = .ok (.getfield 27, 3) := by decide +kernel
theorem dX2_findEnds_19 : decode cX2_findEnds 19 = .ok (.if_icmp .ge 82, 3) := by decide +kernel
theorem dX2_findEnds_22 : decode cX2_findEnds 22 = .ok (.aload_n 0, 1) := by decide +kernel
theorem dX2_findEnds_23 : decode cX2_findEnds 23 = .ok (.getfield 18, 3) := by decide +kernel
theorem dX2_findEnds_26 : decode cX2_findEnds 26 = .ok (.iload_n 2, 1) := by decide +kernel
theorem dX2_findEnds_27 : decode cX2_findEnds 27 = .ok (.iaload, 1) := by decide +kernel
theorem dX2_findEnds_28 : decode cX2_findEnds 28 = .ok (.aload_n 0, 1) := by decide +kernel
theorem dX2_findEnds_29 : decode cX2_findEnds 29 = .ok (.getfield 9, 3) := by decide +kernel
theorem dX2_findEnds_32 : decode cX2_findEnds 32 = .ok (.iload_n 2, 1) := by decide +kernel
theorem dX2_findEnds_33 : decode cX2_findEnds 33 = .ok (.iaload, 1) := by decide +kernel
theorem dX2_findEnds_34 : decode cX2_findEnds 34 = .ok (.iload_n 1, 1) := by decide +kernel
theorem dX2_findEnds_35 : decode cX2_findEnds 35 = .ok (.imul, 1) := by decide +kernel
theorem dX2_findEnds_36 : decode cX2_findEnds 36 = .ok (.isub, 1) := by decide +kernel
theorem dX2_findEnds_37 : decode cX2_findEnds 37 = .ok (.istore_n 3, 1) := by decide +kernel
theorem dX2_findEnds_38 : decode cX2_findEnds 38 = .ok (.aload_n 0, 1) := by decide +kernel
theorem dX2_findEnds_39 : decode cX2_findEnds 39 = .ok (.getfield 15, 3) := by decide +kernel
theorem dX2_findEnds_42 : decode cX2_findEnds 42 = .ok (.iload_n 2, 1) := by decide +kernel
theorem dX2_findEnds_43 : decode cX2_findEnds 43 = .ok (.iaload, 1) := by decide +kernel
theorem dX2_findEnds_44 : decode cX2_findEnds 44 = .ok (.istore 4, 2) := by decide +kernel
theorem dX2_findEnds_46 : decode cX2_findEnds 46 = .ok (.iload 4, 2) := by decide +kernel
theorem dX2_findEnds_48 : decode cX2_findEnds 48 = .ok (.ifCond .le 23, 3) := by decide +kernel
theorem dX2_findEnds_51 : decode cX2_findEnds 51 = .ok (.aload_n 0, 1) := by decide +kernel
theorem dX2_findEnds_52 : decode cX2_findEnds 52 = .ok (.aload_n 0, 1) := by decide +kernel
theorem dX2_findEnds_53 : decode cX2_findEnds 53 = .ok (.getfield 53, 3) := by decide +kernel
theorem dX2_findEnds_56 : decode cX2_findEnds 56 = .ok (.iload_n 3, 1) := by decide +kernel
theorem dX2_findEnds_57 : decode cX2_findEnds 57 = .ok (.iload 4, 2) := by decide +kernel
theorem dX2_findEnds_59 : decode cX2_findEnds 59 = .ok (.invokestatic 77, 3) := by decide +kernel
theorem dX2_findEnds_62 : decode cX2_findEnds 62 = .ok (.invokestatic 80, 3) := by decide +kernel
theorem dX2_findEnds_65 : decode cX2_findEnds 65 = .ok (.putfield 53, 3) := by decide +kernel
theorem dX2_findEnds_68 : decode cX2_findEnds 68 = .ok (.goto 27, 3) := by decide +kernel
theorem dX2_findEnds_71 : decode cX2_findEnds 71 = .ok (.iload 4, 2) := by decide +kernel
theorem dX2_findEnds_73 : decode cX2_findEnds 73 = .ok (.ifCond .ge 22, 3) := by decide +kernel
theorem dX2_findEnds_76 : decode cX2_findEnds 76 = .ok (.aload_n 0, 1) := by decide +kernel
theorem dX2_findEnds_77 : decode cX2_findEnds 77 = .ok (.aload_n 0, 1) := by decide +kernel
theorem dX2_findEnds_78 : decode cX2_findEnds 78 = .ok (.getfield 56, 3) := by decide +kernel
theorem dX2_findEnds_81 : decode cX2_findEnds 81 = .ok (.iload_n 3, 1) := by decide +kernel
theorem dX2_findEnds_82 : decode cX2_findEnds 82 = .ok (.iload 4, 2) := by decide +kernel
theorem dX2_findEnds_84 : decode cX2_findEnds 84 = .ok (.ineg, 1) := by decide +kernel
theorem dX2_findEnds_85 : decode cX2_findEnds 85 = .ok (.invokestatic 77, 3) := by decide +kernel
theorem dX2_findEnds_88 : decode cX2_findEnds 88 = .ok (.ineg, 1) := by decide +kernel
theorem dX2_findEnds_89 : decode cX2_findEnds 89 = .ok (.invokestatic 59, 3) := by decide +kernel
theorem dX2_findEnds_92 : decode cX2_findEnds 92 = .ok (.putfield 56, 3) := by decide +kernel
theorem dX2_findEnds_95 : decode cX2_findEnds 95 = .ok (.iinc 2 1, 3) := by decide +kernel
theorem dX2_findEnds_98 : decode cX2_findEnds 98 = .ok (.goto (-84), 3) := by decide +kernel
theorem dX2_findEnds_101 : decode cX2_findEnds 101 = .ok (.return_, 1) := by decide +kernel
