theorem dX4_init_0 : decode cX4_init 0 = .ok (.aload_n 0, 1) := by decide +kernel
theorem dX4_init_1 : decode cX4_init 1 = .ok (.invokespecial 1, 3) := by decide +kernel
theorem dX4_init_4 : decode cX4_init 4 = .ok (.aload_n 0, 1) := by decide +kernel
theorem dX4_init_5 : decode cX4_init 5 = .ok (.bipush 8, 2) := by decide +kernel
theorem dX4_init_7 : decode cX4_init 7 = .ok (.anewarray 9, 3) := by decide +kernel
theorem dX4_init_10 : decode cX4_init 10 = .ok (.putfield 11, 3) := by decide +kernel
theorem dX4_init_13 : decode cX4_init 13 = .ok (.iconst 0, 1) := by decide +kernel
theorem dX4_init_14 : decode cX4_init 14 = .ok (.istore_n 1, 1) := by decide +kernel
theorem dX4_init_15 : decode cX4_init 15 = .ok (.iload_n 1, 1) := by decide +kernel
theorem dX4_init_16 : decode cX4_init 16 = .ok (.aload_n 0, 1) := by decide +kernel
theorem dX4_init_17 : decode cX4_init 17 = .ok (.getfield 11, 3) := by decide +kernel
theorem dX4_init_20 : decode cX4_init 20 = .ok (.arraylength, 1) := by decide +kernel
theorem dX4_init_21 : decode cX4_init 21 = .ok (.if_icmp .ge 22, 3) := by decide +kernel
theorem dX4_init_24 : decode cX4_init 24 = .ok (.aload_n 0, 1) := by decide +kernel
theorem dX4_init_25 : decode cX4_init 25 = .ok (.getfield 11, 3) := by decide +kernel
theorem dX4_init_28 : decode cX4_init 28 = .ok (.iload_n 1, 1) := by decide +kernel
theorem dX4_init_29 : decode cX4_init 29 = .ok (.new 9, 3) := by decide +kernel
theorem dX4_init_32 : decode cX4_init 32 = .ok (.dup, 1) := by decide +kernel
theorem dX4_init_33 : decode cX4_init 33 = .ok (.invokespecial 15, 3) := by decide +kernel
theorem dX4_init_36 : decode cX4_init 36 = .ok (.aastore, 1) := by decide +kernel
theorem dX4_init_37 : decode cX4_init 37 = .ok (.iinc 1 1, 3) := by decide +kernel
theorem dX4_init_40 : decode cX4_init 40 = .ok (.goto (-25), 3) := by decide +kernel
theorem dX4_init_43 : decode cX4_init 43 = .ok (.aload_n 0, 1) := by decide +kernel
theorem dX4_init_44 : decode cX4_init 44 = .ok (.new 16, 3) := by decide +kernel
theorem dX4_init_47 : decode cX4_init 47 = .ok (.dup, 1) := by decide +kernel
theorem dX4_init_48 : decode cX4_init 48 = .ok (.invokespecial 18, 3) := by decide +kernel
theorem dX4_init_51 : decode cX4_init 51 = .ok (.putfield 19, 3) := by decide +kernel
theorem dX4_init_54 : decode cX4_init 54 = .ok (.aload_n 0, 1) := by decide +kernel
theorem dX4_init_55 : decode cX4_init 55 = .ok (.new 23, 3) := by decide +kernel
theorem dX4_init_58 : decode cX4_init 58 = .ok (.dup, 1) := by decide +kernel
theorem dX4_init_59 : decode cX4_init 59 = .ok (.invokespecial 25, 3) := by decide +kernel
theorem dX4_init_62 : decode cX4_init 62 = .ok (.putfield 26, 3) := by decide +kernel
theorem dX4_init_65 : decode cX4_init 65 = .ok (.aload_n 0, 1) := by decide +kernel
theorem dX4_init_66 : decode cX4_init 66 = .ok (.new 30, 3) := by decide +kernel
theorem dX4_init_69 : decode cX4_init 69 = .ok (.dup, 1) := by decide +kernel
theorem dX4_init_70 : decode cX4_init 70 = .ok (.invokespecial 32, 3) := by decide +kernel
theorem dX4_init_73 : decode cX4_init 73 = .ok (.putfield 33, 3) := by decide +kernel
theorem dX4_init_76 : decode cX4_init 76 = .ok (.return_, 1) := by decide +kernel
theorem dX4_shape_0 : decode cX4_shape 0 = .ok (.aload_n 0, 1) := by decide +kernel
theorem dX4_shape_1 : decode cX4_shape 1 = .ok (.getfield 37, 3) := by decide +kernel
theorem dX4_shape_4 : decode cX4_shape 4 = .ok (.bipush 8, 2) := by decide +kernel
theorem dX4_shape_6 : decode cX4_shape 6 = .ok (.if_icmp .lt 13, 3) := by decide +kernel
theorem dX4_shape_9 : decode cX4_shape 9 = .ok (.new 41, 3) := by decide +kernel
theorem dX4_shape_12 : decode cX4_shape 12 = .ok (.dup, 1) := by decide +kernel
theorem dX4_shape_13 : decode cX4_shape 13 = .ok (.ldc 43, 2) := by decide +kernel
theorem dX4_shape_15 : decode cX4_shape 15 = .ok (.invokespecial 45, 3) := by decide +kernel
theorem dX4_shape_18 : decode cX4_shape 18 = .ok (.athrow, 1) := by decide +kernel
theorem dX4_shape_19 : decode cX4_shape 19 = .ok (.aload_n 0, 1) := by decide +kernel
theorem dX4_shape_20 : decode cX4_shape 20 = .ok (.dup, 1) := by decide +kernel
theorem dX4_shape_21 : decode cX4_shape 21 = .ok (.getfield 37, 3) := by decide +kernel
theorem dX4_shape_24 : decode cX4_shape 24 = .ok (.iconst 1, 1) := by decide +kernel
theorem dX4_shape_25 : decode cX4_shape 25 = .ok (.iadd, 1) := by decide +kernel
theorem dX4_shape_26 : decode cX4_shape 26 = .ok (.putfield 37, 3) := by decide +kernel
theorem dX4_shape_29 : decode cX4_shape 29 = .ok (.aload_n 0, 1) := by decide +kernel
theorem dX4_shape_30 : decode cX4_shape 30 = .ok (.getfield 37, 3) := by decide +kernel
theorem dX4_shape_33 : decode cX4_shape 33 = .ok (.iconst 1, 1) := by decide +kernel
theorem dX4_shape_34 : decode cX4_shape 34 = .ok (.isub, 1) := by decide +kernel
theorem dX4_shape_35 : decode cX4_shape 35 = .ok (.ireturn, 1) := by decide +kernel
theorem dX4_add_0 : decode cX4_add 0 = .ok (.aload_n 0, 1) := by decide +kernel
theorem dX4_add_1 : decode cX4_add 1 = .ok (.iload_n 1, 1) := by decide +kernel
theorem dX4_add_2 : decode cX4_add 2 = .ok (.invokevirtual 48, 3) := by decide +kernel
theorem dX4_add_5 : decode cX4_add 5 = .ok (.astore 6, 2) := by decide +kernel
theorem dX4_add_7 : decode cX4_add 7 = .ok (.iload_n 2, 1) := by decide +kernel
theorem dX4_add_8 : decode cX4_add 8 = .ok (.bipush (-9), 2) := by decide +kernel
theorem dX4_add_10 : decode cX4_add 10 = .ok (.bipush 9, 2) := by decide +kernel
theorem dX4_add_12 : decode cX4_add 12 = .ok (.invokestatic 52, 3) := by decide +kernel
theorem dX4_add_15 : decode cX4_add 15 = .ok (.iload_n 3, 1) := by decide +kernel
theorem dX4_add_16 : decode cX4_add 16 = .ok (.bipush (-9), 2) := by decide +kernel
theorem dX4_add_18 : decode cX4_add 18 = .ok (.bipush 9, 2) := by decide +kernel
theorem dX4_add_20 : decode cX4_add 20 = .ok (.invokestatic 52, 3) := by decide +kernel
theorem dX4_add_23 : decode cX4_add 23 = .ok (.iload 4, 2) := by decide +kernel
theorem dX4_add_25 : decode cX4_add 25 = .ok (.bipush (-99), 2) := by decide +kernel
theorem dX4_add_27 : decode cX4_add 27 = .ok (.bipush 99, 2) := by decide +kernel
theorem dX4_add_29 : decode cX4_add 29 = .ok (.invokestatic 52, 3) := by decide +kernel
theorem dX4_add_32 : decode cX4_add 32 = .ok (.iload 5, 2) := by decide +kernel
theorem dX4_add_34 : decode cX4_add 34 = .ok (.bipush (-9), 2) := by decide +kernel
theorem dX4_add_36 : decode cX4_add 36 = .ok (.bipush 9, 2) := by decide +kernel
theorem dX4_add_38 : decode cX4_add 38 = .ok (.invokestatic 52, 3) := by decide +kernel
theorem dX4_add_41 : decode cX4_add 41 = .ok (.iload_n 2, 1) := by decide +kernel
theorem dX4_add_42 : decode cX4_add 42 = .ok (.ifCond .ne 17, 3) := by decide +kernel
theorem dX4_add_45 : decode cX4_add 45 = .ok (.iload_n 3, 1) := by decide +kernel
theorem dX4_add_46 : decode cX4_add 46 = .ok (.ifCond .ne 13, 3) := by decide +kernel
theorem dX4_add_49 : decode cX4_add 49 = .ok (.new 56, 3) := by decide +kernel
theorem dX4_add_52 : decode cX4_add 52 = .ok (.dup, 1) := by decide +kernel
theorem dX4_add_53 : decode cX4_add 53 = .ok (.ldc 58, 2) := by decide +kernel
theorem dX4_add_55 : decode cX4_add 55 = .ok (.invokespecial 60, 3) := by decide +kernel
theorem dX4_add_58 : decode cX4_add 58 = .ok (.athrow, 1) := by decide +kernel
theorem dX4_add_59 : decode cX4_add 59 = .ok (.aload 6, 2) := by decide +kernel
theorem dX4_add_61 : decode cX4_add 61 = .ok (.iload_n 2, 1) := by decide +kernel
theorem dX4_add_62 : decode cX4_add 62 = .ok (.iload_n 3, 1) := by decide +kernel
theorem dX4_add_63 : decode cX4_add 63 = .ok (.iload 4, 2) := by decide +kernel
theorem dX4_add_65 : decode cX4_add 65 = .ok (.iload 5, 2) := by decide +kernel
theorem dX4_add_67 : decode cX4_add 67 = .ok (.invokevirtual 61, 3) := by decide +kernel
theorem dX4_add_70 : decode cX4_add 70 = .ok (.istore 7, 2) := by decide +kernel
theorem dX4_add_72 : decode cX4_add 72 = .ok (.iload 7, 2) := by decide +kernel
theorem dX4_add_74 : decode cX4_add 74 = .ok (.iconst (-1), 1) := by decide +kernel
theorem dX4_add_75 : decode cX4_add 75 = .ok (.if_icmp .ne 13, 3) := by decide +kernel
theorem dX4_add_78 : decode cX4_add 78 = .ok (.new 41, 3) := by decide +kernel
theorem dX4_add_81 : decode cX4_add 81 = .ok (.dup, 1) := by decide +kernel
theorem dX4_add_82 : decode cX4_add 82 = .ok (.ldc 65, 2) := by decide +kernel
theorem dX4_add_84 : decode cX4_add 84 = .ok (.invokespecial 45, 3) := by decide +kernel
theorem dX4_add_87 : decode cX4_add 87 = .ok (.athrow, 1) := by decide +kernel
theorem dX4_add_88 : decode cX4_add 88 = .ok (.iload 7, 2) := by decide +kernel
theorem dX4_add_90 : decode cX4_add 90 = .ok (.ireturn, 1) := by decide +kernel
theorem dX4_cut_0 : decode cX4_cut 0 = .ok (.aload_n 0, 1) := by decide +kernel
theorem dX4_cut_1 : decode cX4_cut 1 = .ok (.iload_n 1, 1) := by decide +kernel
theorem dX4_cut_2 : decode cX4_cut 2 = .ok (.invokevirtual 48, 3) := by decide +kernel
theorem dX4_cut_5 : decode cX4_cut 5 = .ok (.astore 7, 2) := by decide +kernel
theorem dX4_cut_7 : decode cX4_cut 7 = .ok (.aload 7, 2) := by decide +kernel
theorem dX4_cut_9 : decode cX4_cut 9 = .ok (.iload_n 2, 1) := by decide +kernel
theorem dX4_cut_10 : decode cX4_cut 10 = .ok (.invokestatic 67, 3) := by decide +kernel
theorem dX4_cut_13 : decode cX4_cut 13 = .ok (.aload 7, 2) := by decide +kernel
theorem dX4_cut_15 : decode cX4_cut 15 = .ok (.iload 4, 2) := by decide +kernel
theorem dX4_cut_17 : decode cX4_cut 17 = .ok (.invokestatic 67, 3) := by decide +kernel
theorem dX4_cut_20 : decode cX4_cut 20 = .ok (.iload_n 3, 1) := by decide +kernel
theorem dX4_cut_21 : decode cX4_cut 21 = .ok (.iconst 0, 1) := by decide +kernel
theorem dX4_cut_22 : decode cX4_cut 22 = .ok (.bipush 9, 2) := by decide +kernel
theorem dX4_cut_24 : decode cX4_cut 24 = .ok (.invokestatic 52, 3) := by decide +kernel
theorem dX4_cut_27 : decode cX4_cut 27 = .ok (.iload 5, 2) := by decide +kernel
theorem dX4_cut_29 : decode cX4_cut 29 = .ok (.iconst 0, 1) := by decide +kernel
theorem dX4_cut_30 : decode cX4_cut 30 = .ok (.bipush 9, 2) := by decide +kernel
theorem dX4_cut_32 : decode cX4_cut 32 = .ok (.invokestatic 52, 3) := by decide +kernel
theorem dX4_cut_35 : decode cX4_cut 35 = .ok (.iload 6, 2) := by decide +kernel
theorem dX4_cut_37 : decode cX4_cut 37 = .ok (.iconst 1, 1) := by decide +kernel
theorem dX4_cut_38 : decode cX4_cut 38 = .ok (.bipush 20, 2) := by decide +kernel
theorem dX4_cut_40 : decode cX4_cut 40 = .ok (.invokestatic 52, 3) := by decide +kernel
theorem dX4_cut_43 : decode cX4_cut 43 = .ok (.aload 7, 2) := by decide +kernel
theorem dX4_cut_45 : decode cX4_cut 45 = .ok (.iload_n 2, 1) := by decide +kernel
theorem dX4_cut_46 : decode cX4_cut 46 = .ok (.iload_n 3, 1) := by decide +kernel
theorem dX4_cut_47 : decode cX4_cut 47 = .ok (.iload 4, 2) := by decide +kernel
theorem dX4_cut_49 : decode cX4_cut 49 = .ok (.iload 5, 2) := by decide +kernel
theorem dX4_cut_51 : decode cX4_cut 51 = .ok (.iload 6, 2) := by decide +kernel
theorem dX4_cut_53 : decode cX4_cut 53 = .ok (.invokevirtual 71, 3) := by decide +kernel
theorem dX4_cut_56 : decode cX4_cut 56 = .ok (.istore 8, 2) := by decide +kernel
theorem dX4_cut_58 : decode cX4_cut 58 = .ok (.iload 8, 2) := by decide +kernel
theorem dX4_cut_60 : decode cX4_cut 60 = .ok (.iconst (-1), 1) := by decide +kernel
theorem dX4_cut_61 : decode cX4_cut 61 = .ok (.if_icmp .ne 13, 3) := by decide +kernel
theorem dX4_cut_64 : decode cX4_cut 64 = .ok (.new 41, 3) := by decide +kernel
theorem dX4_cut_67 : decode cX4_cut 67 = .ok (.dup, 1) := by decide +kernel
theorem dX4_cut_68 : decode cX4_cut 68 = .ok (.ldc 75, 2) := by decide +kernel
theorem dX4_cut_70 : decode cX4_cut 70 = .ok (.invokespecial 45, 3) := by decide +kernel
theorem dX4_cut_73 : decode cX4_cut 73 = .ok (.athrow, 1) := by decide +kernel
theorem dX4_cut_74 : decode cX4_cut 74 = .ok (.iload 8, 2) := by decide +kernel
theorem dX4_cut_76 : decode cX4_cut 76 = .ok (.ireturn, 1) := by decide +kernel
theorem dX4_move_0 : decode cX4_move 0 = .ok (.aload_n 0, 1) := by decide +kernel
theorem dX4_move_1 : decode cX4_move 1 = .ok (.iload_n 1, 1) := by decide +kernel
theorem dX4_move_2 : decode cX4_move 2 = .ok (.invokevirtual 48, 3) := by decide +kernel
theorem dX4_move_5 : decode cX4_move 5 = .ok (.astore_n 3, 1) := by decide +kernel
theorem dX4_move_6 : decode cX4_move 6 = .ok (.iload_n 2, 1) := by decide +kernel
theorem dX4_move_7 : decode cX4_move 7 = .ok (.iconst 0, 1) := by decide +kernel
theorem dX4_move_8 : decode cX4_move 8 = .ok (.iconst 2, 1) := by decide +kernel
theorem dX4_move_9 : decode cX4_move 9 = .ok (.invokestatic 52, 3) := by decide +kernel
theorem dX4_move_12 : decode cX4_move 12 = .ok (.iload_n 2, 1) := by decide +kernel
theorem dX4_move_13 : decode cX4_move 13 = .ok (.ifCond .ne 10, 3) := by decide +kernel
theorem dX4_move_16 : decode cX4_move 16 = .ok (.aload_n 3, 1) := by decide +kernel
theorem dX4_move_17 : decode cX4_move 17 = .ok (.invokevirtual 77, 3) := by decide +kernel
theorem dX4_move_20 : decode cX4_move 20 = .ok (.goto 32, 3) := by decide +kernel
theorem dX4_move_23 : decode cX4_move 23 = .ok (.iload_n 2, 1) := by decide +kernel
theorem dX4_move_24 : decode cX4_move 24 = .ok (.iconst 2, 1) := by decide +kernel
theorem dX4_move_25 : decode cX4_move 25 = .ok (.if_icmp .ne 10, 3) := by decide +kernel
theorem dX4_move_28 : decode cX4_move 28 = .ok (.aload_n 3, 1) := by decide +kernel
theorem dX4_move_29 : decode cX4_move 29 = .ok (.invokevirtual 80, 3) := by decide +kernel
theorem dX4_move_32 : decode cX4_move 32 = .ok (.goto 20, 3) := by decide +kernel
theorem dX4_move_35 : decode cX4_move 35 = .ok (.aload_n 3, 1) := by decide +kernel
theorem dX4_move_36 : decode cX4_move 36 = .ok (.invokevirtual 83, 3) := by decide +kernel
theorem dX4_move_39 : decode cX4_move 39 = .ok (.ifCond .ne 13, 3) := by decide +kernel
theorem dX4_move_42 : decode cX4_move 42 = .ok (.new 41, 3) := by decide +kernel
theorem dX4_move_45 : decode cX4_move 45 = .ok (.dup, 1) := by decide +kernel
theorem dX4_move_46 : decode cX4_move 46 = .ok (.ldc 87, 2) := by decide +kernel
theorem dX4_move_48 : decode cX4_move 48 = .ok (.invokespecial 45, 3) := by decide +kernel
theorem dX4_move_51 : decode cX4_move 51 = .ok (.athrow, 1) := by decide +kernel
theorem dX4_move_52 : decode cX4_move 52 = .ok (.aload_n 3, 1) := by decide +kernel
theorem dX4_move_53 : decode cX4_move 53 = .ok (.getfield 89, 3) := by decide +kernel
theorem dX4_move_56 : decode cX4_move 56 = .ok (.ireturn, 1) := by decide +kernel
theorem dX4_inequality_0 : decode cX4_inequality 0 = .ok (.aload_n 0, 1) := by decide +kernel
theorem dX4_inequality_1 : decode cX4_inequality 1 = .ok (.iload_n 1, 1) := by decide +kernel
theorem dX4_inequality_2 : decode cX4_inequality 2 = .ok (.invokevirtual 48, 3) := by decide +kernel
theorem dX4_inequality_5 : decode cX4_inequality 5 = .ok (.astore 4, 2) := by decide +kernel
theorem dX4_inequality_7 : decode cX4_inequality 7 = .ok (.aload 4, 2) := by decide +kernel
theorem dX4_inequality_9 : decode cX4_inequality 9 = .ok (.iload_n 2, 1) := by decide +kernel
theorem dX4_inequality_10 : decode cX4_inequality 10 = .ok (.invokestatic 67, 3) := by decide +kernel
theorem dX4_inequality_13 : decode cX4_inequality 13 = .ok (.iload_n 3, 1) := by decide +kernel
theorem dX4_inequality_14 : decode cX4_inequality 14 = .ok (.iconst 0, 1) := by decide +kernel
theorem dX4_inequality_15 : decode cX4_inequality 15 = .ok (.iconst 3, 1) := by decide +kernel
theorem dX4_inequality_16 : decode cX4_inequality 16 = .ok (.invokestatic 52, 3) := by decide +kernel
theorem dX4_inequality_19 : decode cX4_inequality 19 = .ok (.aload 4, 2) := by decide +kernel
theorem dX4_inequality_21 : decode cX4_inequality 21 = .ok (.iload_n 2, 1) := by decide +kernel
theorem dX4_inequality_22 : decode cX4_inequality 22 = .ok (.iload_n 3, 1) := by decide +kernel
theorem dX4_inequality_23 : decode cX4_inequality 23 = .ok (.invokevirtual 92, 3) := by decide +kernel
theorem dX4_inequality_26 : decode cX4_inequality 26 = .ok (.ireturn, 1) := by decide +kernel
theorem dX4_isPlace_0 : decode cX4_isPlace 0 = .ok (.aload_n 0, 1) := by decide +kernel
theorem dX4_isPlace_1 : decode cX4_isPlace 1 = .ok (.iload_n 1, 1) := by decide +kernel
theorem dX4_isPlace_2 : decode cX4_isPlace 2 = .ok (.invokevirtual 48, 3) := by decide +kernel
theorem dX4_isPlace_5 : decode cX4_isPlace 5 = .ok (.invokevirtual 96, 3) := by decide +kernel
theorem dX4_isPlace_8 : decode cX4_isPlace 8 = .ok (.ireturn, 1) := by decide +kernel
theorem dX4_count_0 : decode cX4_count 0 = .ok (.aload_n 0, 1) := by decide +kernel
theorem dX4_count_1 : decode cX4_count 1 = .ok (.iload_n 1, 1) := by decide +kernel
theorem dX4_count_2 : decode cX4_count 2 = .ok (.iload_n 2, 1) := by decide +kernel
theorem dX4_count_3 : decode cX4_count 3 = .ok (.invokevirtual 99, 3) := by decide +kernel
theorem dX4_count_6 : decode cX4_count 6 = .ok (.aload_n 0, 1) := by decide +kernel
theorem dX4_count_7 : decode cX4_count 7 = .ok (.getfield 19, 3) := by decide +kernel
theorem dX4_count_10 : decode cX4_count 10 = .ok (.invokevirtual 103, 3) := by decide +kernel
theorem dX4_count_13 : decode cX4_count 13 = .ok (.lreturn, 1) := by decide +kernel
theorem dX4_countAnew_0 : decode cX4_countAnew 0 = .ok (.aload_n 0, 1) := by decide +kernel
theorem dX4_countAnew_1 : decode cX4_countAnew 1 = .ok (.iload_n 1, 1) := by decide +kernel
theorem dX4_countAnew_2 : decode cX4_countAnew 2 = .ok (.iload_n 2, 1) := by decide +kernel
theorem dX4_countAnew_3 : decode cX4_countAnew 3 = .ok (.invokevirtual 99, 3) := by decide +kernel
theorem dX4_countAnew_6 : decode cX4_countAnew 6 = .ok (.aload_n 0, 1) := by decide +kernel
theorem dX4_countAnew_7 : decode cX4_countAnew 7 = .ok (.getfield 19, 3) := by decide +kernel
theorem dX4_countAnew_10 : decode cX4_countAnew 10 = .ok (.invokevirtual 107, 3) := by decide +kernel
theorem dX4_countAnew_13 : decode cX4_countAnew 13 = .ok (.aload_n 0, 1) := by decide +kernel
theorem dX4_countAnew_14 : decode cX4_countAnew 14 = .ok (.getfield 19, 3) := by decide +kernel
theorem dX4_countAnew_17 : decode cX4_countAnew 17 = .ok (.invokevirtual 103, 3) := by decide +kernel
theorem dX4_countAnew_20 : decode cX4_countAnew 20 = .ok (.lreturn, 1) := by decide +kernel
theorem dX4_blown_0 : decode cX4_blown 0 = .ok (.aload_n 0, 1) := by decide +kernel
theorem dX4_blown_1 : decode cX4_blown 1 = .ok (.iload_n 1, 1) := by decide +kernel
theorem dX4_blown_2 : decode cX4_blown 2 = .ok (.invokevirtual 48, 3) := by decide +kernel
theorem dX4_blown_5 : decode cX4_blown 5 = .ok (.astore 4, 2) := by decide +kernel
theorem dX4_blown_7 : decode cX4_blown 7 = .ok (.iload_n 2, 1) := by decide +kernel
theorem dX4_blown_8 : decode cX4_blown 8 = .ok (.iconst 0, 1) := by decide +kernel
theorem dX4_blown_9 : decode cX4_blown 9 = .ok (.bipush 9, 2) := by decide +kernel
theorem dX4_blown_11 : decode cX4_blown 11 = .ok (.invokestatic 52, 3) := by decide +kernel
theorem dX4_blown_14 : decode cX4_blown 14 = .ok (.aload 4, 2) := by decide +kernel
theorem dX4_blown_16 : decode cX4_blown 16 = .ok (.invokestatic 110, 3) := by decide +kernel
theorem dX4_blown_19 : decode cX4_blown 19 = .ok (.aload_n 0, 1) := by decide +kernel
theorem dX4_blown_20 : decode cX4_blown 20 = .ok (.getfield 19, 3) := by decide +kernel
theorem dX4_blown_23 : decode cX4_blown 23 = .ok (.aload 4, 2) := by decide +kernel
theorem dX4_blown_25 : decode cX4_blown 25 = .ok (.iload_n 2, 1) := by decide +kernel
theorem dX4_blown_26 : decode cX4_blown 26 = .ok (.iconst 0, 1) := by decide +kernel
theorem dX4_blown_27 : decode cX4_blown 27 = .ok (.invokevirtual 114, 3) := by decide +kernel
theorem dX4_blown_30 : decode cX4_blown 30 = .ok (.iload_n 3, 1) := by decide +kernel
theorem dX4_blown_31 : decode cX4_blown 31 = .ok (.ifCond .eq 10, 3) := by decide +kernel
theorem dX4_blown_34 : decode cX4_blown 34 = .ok (.aload_n 0, 1) := by decide +kernel
theorem dX4_blown_35 : decode cX4_blown 35 = .ok (.getfield 19, 3) := by decide +kernel
theorem dX4_blown_38 : decode cX4_blown 38 = .ok (.invokevirtual 118, 3) := by decide +kernel
theorem dX4_blown_41 : decode cX4_blown 41 = .ok (.aload_n 0, 1) := by decide +kernel
theorem dX4_blown_42 : decode cX4_blown 42 = .ok (.getfield 19, 3) := by decide +kernel
theorem dX4_blown_45 : decode cX4_blown 45 = .ok (.invokevirtual 103, 3) := by decide +kernel
theorem dX4_blown_48 : decode cX4_blown 48 = .ok (.lreturn, 1) := by decide +kernel
theorem dX4_best_0 : decode cX4_best 0 = .ok (.aload_n 0, 1) := by decide +kernel
theorem dX4_best_1 : decode cX4_best 1 = .ok (.iload_n 1, 1) := by decide +kernel
theorem dX4_best_2 : decode cX4_best 2 = .ok (.invokevirtual 48, 3) := by decide +kernel
theorem dX4_best_5 : decode cX4_best 5 = .ok (.astore 6, 2) := by decide +kernel
theorem dX4_best_7 : decode cX4_best 7 = .ok (.iload_n 2, 1) := by decide +kernel
theorem dX4_best_8 : decode cX4_best 8 = .ok (.iconst 0, 1) := by decide +kernel
theorem dX4_best_9 : decode cX4_best 9 = .ok (.bipush 9, 2) := by decide +kernel
theorem dX4_best_11 : decode cX4_best 11 = .ok (.invokestatic 52, 3) := by decide +kernel
theorem dX4_best_14 : decode cX4_best 14 = .ok (.iload_n 3, 1) := by decide +kernel
theorem dX4_best_15 : decode cX4_best 15 = .ok (.bipush (-99), 2) := by decide +kernel
theorem dX4_best_17 : decode cX4_best 17 = .ok (.bipush 99, 2) := by decide +kernel
theorem dX4_best_19 : decode cX4_best 19 = .ok (.invokestatic 52, 3) := by decide +kernel
theorem dX4_best_22 : decode cX4_best 22 = .ok (.iload 4, 2) := by decide +kernel
theorem dX4_best_24 : decode cX4_best 24 = .ok (.bipush (-99), 2) := by decide +kernel
theorem dX4_best_26 : decode cX4_best 26 = .ok (.bipush 99, 2) := by decide +kernel
theorem dX4_best_28 : decode cX4_best 28 = .ok (.invokestatic 52, 3) := by decide +kernel
theorem dX4_best_31 : decode cX4_best 31 = .ok (.iload 5, 2) := by decide +kernel
theorem dX4_best_33 : decode cX4_best 33 = .ok (.iconst 0, 1) := by decide +kernel
theorem dX4_best_34 : decode cX4_best 34 = .ok (.iconst 2, 1) := by decide +kernel
theorem dX4_best_35 : decode cX4_best 35 = .ok (.invokestatic 52, 3) := by decide +kernel
theorem dX4_best_38 : decode cX4_best 38 = .ok (.aload 6, 2) := by decide +kernel
theorem dX4_best_40 : decode cX4_best 40 = .ok (.invokestatic 110, 3) := by decide +kernel
theorem dX4_best_43 : decode cX4_best 43 = .ok (.aload_n 0, 1) := by decide +kernel
theorem dX4_best_44 : decode cX4_best 44 = .ok (.getfield 19, 3) := by decide +kernel
theorem dX4_best_47 : decode cX4_best 47 = .ok (.aload 6, 2) := by decide +kernel
theorem dX4_best_49 : decode cX4_best 49 = .ok (.iconst 1, 1) := by decide +kernel
theorem dX4_best_50 : decode cX4_best 50 = .ok (.iload_n 2, 1) := by decide +kernel
theorem dX4_best_51 : decode cX4_best 51 = .ok (.invokevirtual 114, 3) := by decide +kernel
theorem dX4_best_54 : decode cX4_best 54 = .ok (.aload_n 0, 1) := by decide +kernel
theorem dX4_best_55 : decode cX4_best 55 = .ok (.getfield 19, 3) := by decide +kernel
theorem dX4_best_58 : decode cX4_best 58 = .ok (.iload_n 3, 1) := by decide +kernel
theorem dX4_best_59 : decode cX4_best 59 = .ok (.iload 4, 2) := by decide +kernel
theorem dX4_best_61 : decode cX4_best 61 = .ok (.invokevirtual 121, 3) := by decide +kernel
theorem dX4_best_64 : decode cX4_best 64 = .ok (.ifCond .ne 13, 3) := by decide +kernel
theorem dX4_best_67 : decode cX4_best 67 = .ok (.new 41, 3) := by decide +kernel
theorem dX4_best_70 : decode cX4_best 70 = .ok (.dup, 1) := by decide +kernel
theorem dX4_best_71 : decode cX4_best 71 = .ok (.ldc 125, 2) := by decide +kernel
theorem dX4_best_73 : decode cX4_best 73 = .ok (.invokespecial 45, 3) := by decide +kernel
theorem dX4_best_76 : decode cX4_best 76 = .ok (.athrow, 1) := by decide +kernel
theorem dX4_best_77 : decode cX4_best 77 = .ok (.iload 5, 2) := by decide +kernel
theorem dX4_best_79 : decode cX4_best 79 = .ok (.ifCond .ne 24, 3) := by decide +kernel
theorem dX4_best_82 : decode cX4_best 82 = .ok (.iload_n 3, 1) := by decide +kernel
theorem dX4_best_83 : decode cX4_best 83 = .ok (.aload_n 0, 1) := by decide +kernel
theorem dX4_best_84 : decode cX4_best 84 = .ok (.getfield 19, 3) := by decide +kernel
theorem dX4_best_87 : decode cX4_best 87 = .ok (.getfield 127, 3) := by decide +kernel
theorem dX4_best_90 : decode cX4_best 90 = .ok (.imul, 1) := by decide +kernel
theorem dX4_best_91 : decode cX4_best 91 = .ok (.iload 4, 2) := by decide +kernel
theorem dX4_best_93 : decode cX4_best 93 = .ok (.aload_n 0, 1) := by decide +kernel
theorem dX4_best_94 : decode cX4_best 94 = .ok (.getfield 19, 3) := by decide +kernel
theorem dX4_best_97 : decode cX4_best 97 = .ok (.getfield 130, 3) := by decide +kernel
theorem dX4_best_100 : decode cX4_best 100 = .ok (.imul, 1) := by decide +kernel
theorem dX4_best_101 : decode cX4_best 101 = .ok (.iadd, 1) := by decide +kernel
theorem dX4_best_102 : decode cX4_best 102 = .ok (.ireturn, 1) := by decide +kernel
theorem dX4_best_103 : decode cX4_best 103 = .ok (.iload 5, 2) := by decide +kernel
theorem dX4_best_105 : decode cX4_best 105 = .ok (.iconst 1, 1) := by decide +kernel
theorem dX4_best_106 : decode cX4_best 106 = .ok (.if_icmp .ne 13, 3) := by decide +kernel
theorem dX4_best_109 : decode cX4_best 109 = .ok (.aload_n 0, 1) := by decide +kernel
theorem dX4_best_110 : decode cX4_best 110 = .ok (.getfield 19, 3) := by decide +kernel
theorem dX4_best_113 : decode cX4_best 113 = .ok (.getfield 127, 3) := by decide +kernel
theorem dX4_best_116 : decode cX4_best 116 = .ok (.goto 10, 3) := by decide +kernel
theorem dX4_best_119 : decode cX4_best 119 = .ok (.aload_n 0, 1) := by decide +kernel
theorem dX4_best_120 : decode cX4_best 120 = .ok (.getfield 19, 3) := by decide +kernel
theorem dX4_best_123 : decode cX4_best 123 = .ok (.getfield 130, 3) := by decide +kernel
theorem dX4_best_126 : decode cX4_best 126 = .ok (.ireturn, 1) := by decide +kernel
theorem dX4_index_0 : decode cX4_index 0 = .ok (.aload_n 0, 1) := by decide +kernel
theorem dX4_index_1 : decode cX4_index 1 = .ok (.iload_n 1, 1) := by decide +kernel
theorem dX4_index_2 : decode cX4_index 2 = .ok (.iload_n 2, 1) := by decide +kernel
theorem dX4_index_3 : decode cX4_index 3 = .ok (.iload_n 3, 1) := by decide +kernel
theorem dX4_index_4 : decode cX4_index 4 = .ok (.iload 4, 2) := by decide +kernel
theorem dX4_index_6 : decode cX4_index 6 = .ok (.invokevirtual 133, 3) := by decide +kernel
theorem dX4_index_9 : decode cX4_index 9 = .ok (.aload_n 0, 1) := by decide +kernel
theorem dX4_index_10 : decode cX4_index 10 = .ok (.getfield 26, 3) := by decide +kernel
theorem dX4_index_13 : decode cX4_index 13 = .ok (.getfield 137, 3) := by decide +kernel
theorem dX4_index_16 : decode cX4_index 16 = .ok (.ireturn, 1) := by decide +kernel
theorem dX4_generator_0 : decode cX4_generator 0 = .ok (.iload 5, 2) := by decide +kernel
theorem dX4_generator_2 : decode cX4_generator 2 = .ok (.invokestatic 140, 3) := by decide +kernel
theorem dX4_generator_5 : decode cX4_generator 5 = .ok (.aload_n 0, 1) := by decide +kernel
theorem dX4_generator_6 : decode cX4_generator 6 = .ok (.iload_n 1, 1) := by decide +kernel
theorem dX4_generator_7 : decode cX4_generator 7 = .ok (.iload_n 2, 1) := by decide +kernel
theorem dX4_generator_8 : decode cX4_generator 8 = .ok (.iload_n 3, 1) := by decide +kernel
theorem dX4_generator_9 : decode cX4_generator 9 = .ok (.iload 4, 2) := by decide +kernel
theorem dX4_generator_11 : decode cX4_generator 11 = .ok (.invokevirtual 133, 3) := by decide +kernel
theorem dX4_generator_14 : decode cX4_generator 14 = .ok (.aload_n 0, 1) := by decide +kernel
theorem dX4_generator_15 : decode cX4_generator 15 = .ok (.aload_n 0, 1) := by decide +kernel
theorem dX4_generator_16 : decode cX4_generator 16 = .ok (.getfield 26, 3) := by decide +kernel
theorem dX4_generator_19 : decode cX4_generator 19 = .ok (.iload 5, 2) := by decide +kernel
theorem dX4_generator_21 : decode cX4_generator 21 = .ok (.invokevirtual 144, 3) := by decide +kernel
theorem dX4_generator_24 : decode cX4_generator 24 = .ok (.iload 5, 2) := by decide +kernel
theorem dX4_generator_26 : decode cX4_generator 26 = .ok (.iload 6, 2) := by decide +kernel
theorem dX4_generator_28 : decode cX4_generator 28 = .ok (.invokevirtual 148, 3) := by decide +kernel
theorem dX4_generator_31 : decode cX4_generator 31 = .ok (.ireturn, 1) := by decide +kernel
theorem dX4_generatorAnew_0 : decode cX4_generatorAnew 0 = .ok (.iload 5, 2) := by decide +kernel
theorem dX4_generatorAnew_2 : decode cX4_generatorAnew 2 = .ok (.invokestatic 140, 3) := by decide +kernel
theorem dX4_generatorAnew_5 : decode cX4_generatorAnew 5 = .ok (.aload_n 0, 1) := by decide +kernel
theorem dX4_generatorAnew_6 : decode cX4_generatorAnew 6 = .ok (.iload_n 1, 1) := by decide +kernel
theorem dX4_generatorAnew_7 : decode cX4_generatorAnew 7 = .ok (.iload_n 2, 1) := by decide +kernel
theorem dX4_generatorAnew_8 : decode cX4_generatorAnew 8 = .ok (.iload_n 3, 1) := by decide +kernel
theorem dX4_generatorAnew_9 : decode cX4_generatorAnew 9 = .ok (.iload 4, 2) := by decide +kernel
theorem dX4_generatorAnew_11 : decode cX4_generatorAnew 11 = .ok (.invokevirtual 133, 3) := by decide +kernel
theorem dX4_generatorAnew_14 : decode cX4_generatorAnew 14 = .ok (.aload_n 0, 1) := by decide +kernel
theorem dX4_generatorAnew_15 : decode cX4_generatorAnew 15 = .ok (.aload_n 0, 1) := by decide +kernel
theorem dX4_generatorAnew_16 : decode cX4_generatorAnew 16 = .ok (.getfield 26, 3) := by decide +kernel
theorem dX4_generatorAnew_19 : decode cX4_generatorAnew 19 = .ok (.iload 5, 2) := by decide +kernel
theorem dX4_generatorAnew_21 : decode cX4_generatorAnew 21 = .ok (.invokevirtual 152, 3) := by decide +kernel
theorem dX4_generatorAnew_24 : decode cX4_generatorAnew 24 = .ok (.iload 5, 2) := by decide +kernel
theorem dX4_generatorAnew_26 : decode cX4_generatorAnew 26 = .ok (.iload 6, 2) := by decide +kernel
theorem dX4_generatorAnew_28 : decode cX4_generatorAnew 28 = .ok (.invokevirtual 148, 3) := by decide +kernel
theorem dX4_generatorAnew_31 : decode cX4_generatorAnew 31 = .ok (.ireturn, 1) := by decide +kernel
theorem dX4_coin_0 : decode cX4_coin 0 = .ok (.iload_n 1, 1) := by decide +kernel
theorem dX4_coin_1 : decode cX4_coin 1 = .ok (.iconst 1, 1) := by decide +kernel
theorem dX4_coin_2 : decode cX4_coin 2 = .ok (.bipush 60, 2) := by decide +kernel
theorem dX4_coin_4 : decode cX4_coin 4 = .ok (.invokestatic 52, 3) := by decide +kernel
theorem dX4_coin_7 : decode cX4_coin 7 = .ok (.aload_n 0, 1) := by decide +kernel
theorem dX4_coin_8 : decode cX4_coin 8 = .ok (.getfield 33, 3) := by decide +kernel
theorem dX4_coin_11 : decode cX4_coin 11 = .ok (.iload_n 1, 1) := by decide +kernel
theorem dX4_coin_12 : decode cX4_coin 12 = .ok (.invokevirtual 155, 3) := by decide +kernel
theorem dX4_coin_15 : decode cX4_coin 15 = .ok (.ifCond .ne 25, 3) := by decide +kernel
theorem dX4_coin_18 : decode cX4_coin 18 = .ok (.aload_n 0, 1) := by decide +kernel
theorem dX4_coin_19 : decode cX4_coin 19 = .ok (.getfield 33, 3) := by decide +kernel
theorem dX4_coin_22 : decode cX4_coin 22 = .ok (.invokevirtual 159, 3) := by decide +kernel
theorem dX4_coin_25 : decode cX4_coin 25 = .ok (.bipush 6, 2) := by decide +kernel
theorem dX4_coin_27 : decode cX4_coin 27 = .ok (.if_icmp .lt 13, 3) := by decide +kernel
theorem dX4_coin_30 : decode cX4_coin 30 = .ok (.new 41, 3) := by decide +kernel
theorem dX4_coin_33 : decode cX4_coin 33 = .ok (.dup, 1) := by decide +kernel
theorem dX4_coin_34 : decode cX4_coin 34 = .ok (.ldc 162, 2) := by decide +kernel
theorem dX4_coin_36 : decode cX4_coin 36 = .ok (.invokespecial 45, 3) := by decide +kernel
theorem dX4_coin_39 : decode cX4_coin 39 = .ok (.athrow, 1) := by decide +kernel
theorem dX4_coin_40 : decode cX4_coin 40 = .ok (.aload_n 0, 1) := by decide +kernel
theorem dX4_coin_41 : decode cX4_coin 41 = .ok (.getfield 33, 3) := by decide +kernel
theorem dX4_coin_44 : decode cX4_coin 44 = .ok (.iload_n 1, 1) := by decide +kernel
theorem dX4_coin_45 : decode cX4_coin 45 = .ok (.invokevirtual 164, 3) := by decide +kernel
theorem dX4_coin_48 : decode cX4_coin 48 = .ok (.aload_n 0, 1) := by decide +kernel
theorem dX4_coin_49 : decode cX4_coin 49 = .ok (.getfield 33, 3) := by decide +kernel
theorem dX4_coin_52 : decode cX4_coin 52 = .ok (.invokevirtual 159, 3) := by decide +kernel
theorem dX4_coin_55 : decode cX4_coin 55 = .ok (.ireturn, 1) := by decide +kernel
theorem dX4_ways_0 : decode cX4_ways 0 = .ok (.iload_n 1, 1) := by decide +kernel
theorem dX4_ways_1 : decode cX4_ways 1 = .ok (.iconst 0, 1) := by decide +kernel
theorem dX4_ways_2 : decode cX4_ways 2 = .ok (.sipush 1000, 3) := by decide +kernel
theorem dX4_ways_5 : decode cX4_ways 5 = .ok (.invokestatic 52, 3) := by decide +kernel
theorem dX4_ways_8 : decode cX4_ways 8 = .ok (.aload_n 0, 1) := by decide +kernel
theorem dX4_ways_9 : decode cX4_ways 9 = .ok (.getfield 33, 3) := by decide +kernel
theorem dX4_ways_12 : decode cX4_ways 12 = .ok (.iload_n 1, 1) := by decide +kernel
theorem dX4_ways_13 : decode cX4_ways 13 = .ok (.invokevirtual 167, 3) := by decide +kernel
theorem dX4_ways_16 : decode cX4_ways 16 = .ok (.lreturn, 1) := by decide +kernel
theorem dX4_gap_0 : decode cX4_gap 0 = .ok (.iload_n 1, 1) := by decide +kernel
theorem dX4_gap_1 : decode cX4_gap 1 = .ok (.invokestatic 140, 3) := by decide +kernel
theorem dX4_gap_4 : decode cX4_gap 4 = .ok (.aload_n 0, 1) := by decide +kernel
theorem dX4_gap_5 : decode cX4_gap 5 = .ok (.invokevirtual 171, 3) := by decide +kernel
theorem dX4_gap_8 : decode cX4_gap 8 = .ok (.aload_n 0, 1) := by decide +kernel
theorem dX4_gap_9 : decode cX4_gap 9 = .ok (.getfield 33, 3) := by decide +kernel
theorem dX4_gap_12 : decode cX4_gap 12 = .ok (.iload_n 1, 1) := by decide +kernel
theorem dX4_gap_13 : decode cX4_gap 13 = .ok (.invokevirtual 174, 3) := by decide +kernel
theorem dX4_gap_16 : decode cX4_gap 16 = .ok (.istore_n 2, 1) := by decide +kernel
theorem dX4_gap_17 : decode cX4_gap 17 = .ok (.iload_n 1, 1) := by decide +kernel
theorem dX4_gap_18 : decode cX4_gap 18 = .ok (.iconst (-1), 1) := by decide +kernel
theorem dX4_gap_19 : decode cX4_gap 19 = .ok (.if_icmp .ne 5, 3) := by decide +kernel
theorem dX4_gap_22 : decode cX4_gap 22 = .ok (.iload_n 2, 1) := by decide +kernel
theorem dX4_gap_23 : decode cX4_gap 23 = .ok (.ireturn, 1) := by decide +kernel
theorem dX4_gap_24 : decode cX4_gap 24 = .ok (.iload_n 1, 1) := by decide +kernel
theorem dX4_gap_25 : decode cX4_gap 25 = .ok (.iload_n 2, 1) := by decide +kernel
theorem dX4_gap_26 : decode cX4_gap 26 = .ok (.if_icmp .lt 13, 3) := by decide +kernel
theorem dX4_gap_29 : decode cX4_gap 29 = .ok (.new 177, 3) := by decide +kernel
theorem dX4_gap_32 : decode cX4_gap 32 = .ok (.dup, 1) := by decide +kernel
theorem dX4_gap_33 : decode cX4_gap 33 = .ok (.ldc 179, 2) := by decide +kernel
theorem dX4_gap_35 : decode cX4_gap 35 = .ok (.invokespecial 181, 3) := by decide +kernel
theorem dX4_gap_38 : decode cX4_gap 38 = .ok (.athrow, 1) := by decide +kernel
theorem dX4_gap_39 : decode cX4_gap 39 = .ok (.aload_n 0, 1) := by decide +kernel
theorem dX4_gap_40 : decode cX4_gap 40 = .ok (.getfield 33, 3) := by decide +kernel
theorem dX4_gap_43 : decode cX4_gap 43 = .ok (.getfield 182, 3) := by decide +kernel
theorem dX4_gap_46 : decode cX4_gap 46 = .ok (.ireturn, 1) := by decide +kernel
theorem dX4_greatestGap_0 : decode cX4_greatestGap 0 = .ok (.aload_n 0, 1) := by decide +kernel
theorem dX4_greatestGap_1 : decode cX4_greatestGap 1 = .ok (.invokevirtual 171, 3) := by decide +kernel
theorem dX4_greatestGap_4 : decode cX4_greatestGap 4 = .ok (.aload_n 0, 1) := by decide +kernel
theorem dX4_greatestGap_5 : decode cX4_greatestGap 5 = .ok (.getfield 33, 3) := by decide +kernel
theorem dX4_greatestGap_8 : decode cX4_greatestGap 8 = .ok (.invokevirtual 185, 3) := by decide +kernel
theorem dX4_greatestGap_11 : decode cX4_greatestGap 11 = .ok (.ireturn, 1) := by decide +kernel
theorem dX4_tables_0 : decode cX4_tables 0 = .ok (.iload_n 1, 1) := by decide +kernel
theorem dX4_tables_1 : decode cX4_tables 1 = .ok (.iconst 0, 1) := by decide +kernel
theorem dX4_tables_2 : decode cX4_tables 2 = .ok (.bipush 60, 2) := by decide +kernel
theorem dX4_tables_4 : decode cX4_tables 4 = .ok (.invokestatic 52, 3) := by decide +kernel
theorem dX4_tables_7 : decode cX4_tables 7 = .ok (.iload_n 2, 1) := by decide +kernel
theorem dX4_tables_8 : decode cX4_tables 8 = .ok (.iconst 0, 1) := by decide +kernel
theorem dX4_tables_9 : decode cX4_tables 9 = .ok (.bipush 60, 2) := by decide +kernel
theorem dX4_tables_11 : decode cX4_tables 11 = .ok (.invokestatic 52, 3) := by decide +kernel
theorem dX4_tables_14 : decode cX4_tables 14 = .ok (.iload_n 3, 1) := by decide +kernel
theorem dX4_tables_15 : decode cX4_tables 15 = .ok (.iconst 0, 1) := by decide +kernel
theorem dX4_tables_16 : decode cX4_tables 16 = .ok (.bipush 60, 2) := by decide +kernel
theorem dX4_tables_18 : decode cX4_tables 18 = .ok (.invokestatic 52, 3) := by decide +kernel
theorem dX4_tables_21 : decode cX4_tables 21 = .ok (.iload 4, 2) := by decide +kernel
theorem dX4_tables_23 : decode cX4_tables 23 = .ok (.iconst 0, 1) := by decide +kernel
theorem dX4_tables_24 : decode cX4_tables 24 = .ok (.bipush 60, 2) := by decide +kernel
theorem dX4_tables_26 : decode cX4_tables 26 = .ok (.invokestatic 52, 3) := by decide +kernel
theorem dX4_tables_29 : decode cX4_tables 29 = .ok (.iload_n 1, 1) := by decide +kernel
theorem dX4_tables_30 : decode cX4_tables 30 = .ok (.iload_n 2, 1) := by decide +kernel
theorem dX4_tables_31 : decode cX4_tables 31 = .ok (.iadd, 1) := by decide +kernel
theorem dX4_tables_32 : decode cX4_tables 32 = .ok (.iload_n 3, 1) := by decide +kernel
theorem dX4_tables_33 : decode cX4_tables 33 = .ok (.isub, 1) := by decide +kernel
theorem dX4_tables_34 : decode cX4_tables 34 = .ok (.iload 4, 2) := by decide +kernel
theorem dX4_tables_36 : decode cX4_tables 36 = .ok (.isub, 1) := by decide +kernel
theorem dX4_tables_37 : decode cX4_tables 37 = .ok (.istore 5, 2) := by decide +kernel
theorem dX4_tables_39 : decode cX4_tables 39 = .ok (.iload 5, 2) := by decide +kernel
theorem dX4_tables_41 : decode cX4_tables 41 = .ok (.ifCond .ge 5, 3) := by decide +kernel
theorem dX4_tables_44 : decode cX4_tables 44 = .ok (.iconst 0, 1) := by decide +kernel
theorem dX4_tables_45 : decode cX4_tables 45 = .ok (.ireturn, 1) := by decide +kernel
theorem dX4_tables_46 : decode cX4_tables 46 = .ok (.iconst 0, 1) := by decide +kernel
theorem dX4_tables_47 : decode cX4_tables 47 = .ok (.istore 6, 2) := by decide +kernel
theorem dX4_tables_49 : decode cX4_tables 49 = .ok (.iconst 0, 1) := by decide +kernel
theorem dX4_tables_50 : decode cX4_tables 50 = .ok (.istore 7, 2) := by decide +kernel
theorem dX4_tables_52 : decode cX4_tables 52 = .ok (.iload 7, 2) := by decide +kernel
theorem dX4_tables_54 : decode cX4_tables 54 = .ok (.iload_n 1, 1) := by decide +kernel
theorem dX4_tables_55 : decode cX4_tables 55 = .ok (.iload_n 3, 1) := by decide +kernel
theorem dX4_tables_56 : decode cX4_tables 56 = .ok (.invokestatic 188, 3) := by decide +kernel
theorem dX4_tables_59 : decode cX4_tables 59 = .ok (.if_icmp .gt 49, 3) := by decide +kernel
theorem dX4_tables_62 : decode cX4_tables 62 = .ok (.iconst 0, 1) := by decide +kernel
theorem dX4_tables_63 : decode cX4_tables 63 = .ok (.iload_n 1, 1) := by decide +kernel
theorem dX4_tables_64 : decode cX4_tables 64 = .ok (.iload 7, 2) := by decide +kernel
theorem dX4_tables_66 : decode cX4_tables 66 = .ok (.isub, 1) := by decide +kernel
theorem dX4_tables_67 : decode cX4_tables 67 = .ok (.iload 5, 2) := by decide +kernel
theorem dX4_tables_69 : decode cX4_tables 69 = .ok (.isub, 1) := by decide +kernel
theorem dX4_tables_70 : decode cX4_tables 70 = .ok (.invokestatic 193, 3) := by decide +kernel
theorem dX4_tables_73 : decode cX4_tables 73 = .ok (.istore 8, 2) := by decide +kernel
theorem dX4_tables_75 : decode cX4_tables 75 = .ok (.iload 4, 2) := by decide +kernel
theorem dX4_tables_77 : decode cX4_tables 77 = .ok (.iload_n 1, 1) := by decide +kernel
theorem dX4_tables_78 : decode cX4_tables 78 = .ok (.iload 7, 2) := by decide +kernel
theorem dX4_tables_80 : decode cX4_tables 80 = .ok (.isub, 1) := by decide +kernel
theorem dX4_tables_81 : decode cX4_tables 81 = .ok (.invokestatic 188, 3) := by decide +kernel
theorem dX4_tables_84 : decode cX4_tables 84 = .ok (.istore 9, 2) := by decide +kernel
theorem dX4_tables_86 : decode cX4_tables 86 = .ok (.iload 6, 2) := by decide +kernel
theorem dX4_tables_88 : decode cX4_tables 88 = .ok (.iconst 0, 1) := by decide +kernel
theorem dX4_tables_89 : decode cX4_tables 89 = .ok (.iload 9, 2) := by decide +kernel
theorem dX4_tables_91 : decode cX4_tables 91 = .ok (.iload 8, 2) := by decide +kernel
theorem dX4_tables_93 : decode cX4_tables 93 = .ok (.isub, 1) := by decide +kernel
theorem dX4_tables_94 : decode cX4_tables 94 = .ok (.iconst 1, 1) := by decide +kernel
theorem dX4_tables_95 : decode cX4_tables 95 = .ok (.iadd, 1) := by decide +kernel
theorem dX4_tables_96 : decode cX4_tables 96 = .ok (.invokestatic 193, 3) := by decide +kernel
theorem dX4_tables_99 : decode cX4_tables 99 = .ok (.iadd, 1) := by decide +kernel
theorem dX4_tables_100 : decode cX4_tables 100 = .ok (.istore 6, 2) := by decide +kernel
theorem dX4_tables_102 : decode cX4_tables 102 = .ok (.iinc 7 1, 3) := by decide +kernel
theorem dX4_tables_105 : decode cX4_tables 105 = .ok (.goto (-53), 3) := by decide +kernel
theorem dX4_tables_108 : decode cX4_tables 108 = .ok (.iload 6, 2) := by decide +kernel
theorem dX4_tables_110 : decode cX4_tables 110 = .ok (.ireturn, 1) := by decide +kernel
theorem dX4_shapeOf_0 : decode cX4_shapeOf 0 = .ok (.iload_n 1, 1) := by decide +kernel
theorem dX4_shapeOf_1 : decode cX4_shapeOf 1 = .ok (.ifCond .lt 20, 3) := by decide +kernel
theorem dX4_shapeOf_4 : decode cX4_shapeOf 4 = .ok (.iload_n 1, 1) := by decide +kernel
theorem dX4_shapeOf_5 : decode cX4_shapeOf 5 = .ok (.aload_n 0, 1) := by decide +kernel
theorem dX4_shapeOf_6 : decode cX4_shapeOf 6 = .ok (.getfield 37, 3) := by decide +kernel
theorem dX4_shapeOf_9 : decode cX4_shapeOf 9 = .ok (.if_icmp .ge 12, 3) := by decide +kernel
theorem dX4_shapeOf_12 : decode cX4_shapeOf 12 = .ok (.iload_n 1, 1) := by decide +kernel
theorem dX4_shapeOf_13 : decode cX4_shapeOf 13 = .ok (.aload_n 0, 1) := by decide +kernel
theorem dX4_shapeOf_14 : decode cX4_shapeOf 14 = .ok (.getfield 11, 3) := by decide +kernel
theorem dX4_shapeOf_17 : decode cX4_shapeOf 17 = .ok (.arraylength, 1) := by decide +kernel
theorem dX4_shapeOf_18 : decode cX4_shapeOf 18 = .ok (.if_icmp .lt 13, 3) := by decide +kernel
theorem dX4_shapeOf_21 : decode cX4_shapeOf 21 = .ok (.new 177, 3) := by decide +kernel
theorem dX4_shapeOf_24 : decode cX4_shapeOf 24 = .ok (.dup, 1) := by decide +kernel
theorem dX4_shapeOf_25 : decode cX4_shapeOf 25 = .ok (.ldc 196, 2) := by decide +kernel
theorem dX4_shapeOf_27 : decode cX4_shapeOf 27 = .ok (.invokespecial 181, 3) := by decide +kernel
theorem dX4_shapeOf_30 : decode cX4_shapeOf 30 = .ok (.athrow, 1) := by decide +kernel
theorem dX4_shapeOf_31 : decode cX4_shapeOf 31 = .ok (.aload_n 0, 1) := by decide +kernel
theorem dX4_shapeOf_32 : decode cX4_shapeOf 32 = .ok (.getfield 11, 3) := by decide +kernel
theorem dX4_shapeOf_35 : decode cX4_shapeOf 35 = .ok (.iload_n 1, 1) := by decide +kernel
theorem dX4_shapeOf_36 : decode cX4_shapeOf 36 = .ok (.aaload, 1) := by decide +kernel
