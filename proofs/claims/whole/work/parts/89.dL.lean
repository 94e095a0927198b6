theorem dL_shape_0 : decode cL_shape 0 = .ok (.aload_n 1, 1) := by decide +kernel
theorem dL_shape_1 : decode cL_shape 1 = .ok (.iconst 0, 1) := by decide +kernel
theorem dL_shape_2 : decode cL_shape 2 = .ok (.aload_n 0, 1) := by decide +kernel
theorem dL_shape_3 : decode cL_shape 3 = .ok (.invokevirtual 7, 3) := by decide +kernel
theorem dL_shape_6 : decode cL_shape 6 = .ok (.i2l, 1) := by decide +kernel
theorem dL_shape_7 : decode cL_shape 7 = .ok (.lastore, 1) := by decide +kernel
theorem dL_shape_8 : decode cL_shape 8 = .ok (.goto 6, 3) := by decide +kernel
theorem dL_shape_11 : decode cL_shape 11 = .ok (.astore_n 2, 1) := by decide +kernel
theorem dL_shape_12 : decode cL_shape 12 = .ok (.iconst 1, 1) := by decide +kernel
theorem dL_shape_13 : decode cL_shape 13 = .ok (.ireturn, 1) := by decide +kernel
theorem dL_shape_14 : decode cL_shape 14 = .ok (.iconst 0, 1) := by decide +kernel
theorem dL_shape_15 : decode cL_shape 15 = .ok (.ireturn, 1) := by decide +kernel
theorem dL_add_0 : decode cL_add 0 = .ok (.aload 6, 2) := by decide +kernel
theorem dL_add_2 : decode cL_add 2 = .ok (.iconst 0, 1) := by decide +kernel
theorem dL_add_3 : decode cL_add 3 = .ok (.aload_n 0, 1) := by decide +kernel
theorem dL_add_4 : decode cL_add 4 = .ok (.iload_n 1, 1) := by decide +kernel
theorem dL_add_5 : decode cL_add 5 = .ok (.iload_n 2, 1) := by decide +kernel
theorem dL_add_6 : decode cL_add 6 = .ok (.iload_n 3, 1) := by decide +kernel
theorem dL_add_7 : decode cL_add 7 = .ok (.iload 4, 2) := by decide +kernel
theorem dL_add_9 : decode cL_add 9 = .ok (.iload 5, 2) := by decide +kernel
theorem dL_add_11 : decode cL_add 11 = .ok (.invokevirtual 15, 3) := by decide +kernel
theorem dL_add_14 : decode cL_add 14 = .ok (.i2l, 1) := by decide +kernel
theorem dL_add_15 : decode cL_add 15 = .ok (.lastore, 1) := by decide +kernel
theorem dL_add_16 : decode cL_add 16 = .ok (.goto 15, 3) := by decide +kernel
theorem dL_add_19 : decode cL_add 19 = .ok (.astore 7, 2) := by decide +kernel
theorem dL_add_21 : decode cL_add 21 = .ok (.iconst 1, 1) := by decide +kernel
theorem dL_add_22 : decode cL_add 22 = .ok (.ireturn, 1) := by decide +kernel
theorem dL_add_23 : decode cL_add 23 = .ok (.astore 7, 2) := by decide +kernel
theorem dL_add_25 : decode cL_add 25 = .ok (.iconst 2, 1) := by decide +kernel
theorem dL_add_26 : decode cL_add 26 = .ok (.ireturn, 1) := by decide +kernel
theorem dL_add_27 : decode cL_add 27 = .ok (.astore 7, 2) := by decide +kernel
theorem dL_add_29 : decode cL_add 29 = .ok (.iconst 3, 1) := by decide +kernel
theorem dL_add_30 : decode cL_add 30 = .ok (.ireturn, 1) := by decide +kernel
theorem dL_add_31 : decode cL_add 31 = .ok (.iconst 0, 1) := by decide +kernel
theorem dL_add_32 : decode cL_add 32 = .ok (.ireturn, 1) := by decide +kernel
theorem dL_cut_0 : decode cL_cut 0 = .ok (.aload 7, 2) := by decide +kernel
theorem dL_cut_2 : decode cL_cut 2 = .ok (.iconst 0, 1) := by decide +kernel
theorem dL_cut_3 : decode cL_cut 3 = .ok (.aload_n 0, 1) := by decide +kernel
theorem dL_cut_4 : decode cL_cut 4 = .ok (.iload_n 1, 1) := by decide +kernel
theorem dL_cut_5 : decode cL_cut 5 = .ok (.iload_n 2, 1) := by decide +kernel
theorem dL_cut_6 : decode cL_cut 6 = .ok (.iload_n 3, 1) := by decide +kernel
theorem dL_cut_7 : decode cL_cut 7 = .ok (.iload 4, 2) := by decide +kernel
theorem dL_cut_9 : decode cL_cut 9 = .ok (.iload 5, 2) := by decide +kernel
theorem dL_cut_11 : decode cL_cut 11 = .ok (.iload 6, 2) := by decide +kernel
theorem dL_cut_13 : decode cL_cut 13 = .ok (.invokevirtual 23, 3) := by decide +kernel
theorem dL_cut_16 : decode cL_cut 16 = .ok (.i2l, 1) := by decide +kernel
theorem dL_cut_17 : decode cL_cut 17 = .ok (.lastore, 1) := by decide +kernel
theorem dL_cut_18 : decode cL_cut 18 = .ok (.goto 15, 3) := by decide +kernel
theorem dL_cut_21 : decode cL_cut 21 = .ok (.astore 8, 2) := by decide +kernel
theorem dL_cut_23 : decode cL_cut 23 = .ok (.iconst 1, 1) := by decide +kernel
theorem dL_cut_24 : decode cL_cut 24 = .ok (.ireturn, 1) := by decide +kernel
theorem dL_cut_25 : decode cL_cut 25 = .ok (.astore 8, 2) := by decide +kernel
theorem dL_cut_27 : decode cL_cut 27 = .ok (.iconst 2, 1) := by decide +kernel
theorem dL_cut_28 : decode cL_cut 28 = .ok (.ireturn, 1) := by decide +kernel
theorem dL_cut_29 : decode cL_cut 29 = .ok (.astore 8, 2) := by decide +kernel
theorem dL_cut_31 : decode cL_cut 31 = .ok (.iconst 3, 1) := by decide +kernel
theorem dL_cut_32 : decode cL_cut 32 = .ok (.ireturn, 1) := by decide +kernel
theorem dL_cut_33 : decode cL_cut 33 = .ok (.iconst 0, 1) := by decide +kernel
theorem dL_cut_34 : decode cL_cut 34 = .ok (.ireturn, 1) := by decide +kernel
theorem dL_move_0 : decode cL_move 0 = .ok (.aload_n 3, 1) := by decide +kernel
theorem dL_move_1 : decode cL_move 1 = .ok (.iconst 0, 1) := by decide +kernel
theorem dL_move_2 : decode cL_move 2 = .ok (.aload_n 0, 1) := by decide +kernel
theorem dL_move_3 : decode cL_move 3 = .ok (.iload_n 1, 1) := by decide +kernel
theorem dL_move_4 : decode cL_move 4 = .ok (.iload_n 2, 1) := by decide +kernel
theorem dL_move_5 : decode cL_move 5 = .ok (.invokevirtual 27, 3) := by decide +kernel
theorem dL_move_8 : decode cL_move 8 = .ok (.i2l, 1) := by decide +kernel
theorem dL_move_9 : decode cL_move 9 = .ok (.lastore, 1) := by decide +kernel
theorem dL_move_10 : decode cL_move 10 = .ok (.goto 15, 3) := by decide +kernel
theorem dL_move_13 : decode cL_move 13 = .ok (.astore 4, 2) := by decide +kernel
theorem dL_move_15 : decode cL_move 15 = .ok (.iconst 1, 1) := by decide +kernel
theorem dL_move_16 : decode cL_move 16 = .ok (.ireturn, 1) := by decide +kernel
theorem dL_move_17 : decode cL_move 17 = .ok (.astore 4, 2) := by decide +kernel
theorem dL_move_19 : decode cL_move 19 = .ok (.iconst 2, 1) := by decide +kernel
theorem dL_move_20 : decode cL_move 20 = .ok (.ireturn, 1) := by decide +kernel
theorem dL_move_21 : decode cL_move 21 = .ok (.astore 4, 2) := by decide +kernel
theorem dL_move_23 : decode cL_move 23 = .ok (.iconst 3, 1) := by decide +kernel
theorem dL_move_24 : decode cL_move 24 = .ok (.ireturn, 1) := by decide +kernel
theorem dL_move_25 : decode cL_move 25 = .ok (.iconst 0, 1) := by decide +kernel
theorem dL_move_26 : decode cL_move 26 = .ok (.ireturn, 1) := by decide +kernel
theorem dL_inequality_0 : decode cL_inequality 0 = .ok (.aload 4, 2) := by decide +kernel
theorem dL_inequality_2 : decode cL_inequality 2 = .ok (.iconst 0, 1) := by decide +kernel
theorem dL_inequality_3 : decode cL_inequality 3 = .ok (.aload_n 0, 1) := by decide +kernel
theorem dL_inequality_4 : decode cL_inequality 4 = .ok (.iload_n 1, 1) := by decide +kernel
theorem dL_inequality_5 : decode cL_inequality 5 = .ok (.iload_n 2, 1) := by decide +kernel
theorem dL_inequality_6 : decode cL_inequality 6 = .ok (.iload_n 3, 1) := by decide +kernel
theorem dL_inequality_7 : decode cL_inequality 7 = .ok (.invokevirtual 31, 3) := by decide +kernel
theorem dL_inequality_10 : decode cL_inequality 10 = .ok (.i2l, 1) := by decide +kernel
theorem dL_inequality_11 : decode cL_inequality 11 = .ok (.lastore, 1) := by decide +kernel
theorem dL_inequality_12 : decode cL_inequality 12 = .ok (.goto 11, 3) := by decide +kernel
theorem dL_inequality_15 : decode cL_inequality 15 = .ok (.astore 5, 2) := by decide +kernel
theorem dL_inequality_17 : decode cL_inequality 17 = .ok (.iconst 1, 1) := by decide +kernel
theorem dL_inequality_18 : decode cL_inequality 18 = .ok (.ireturn, 1) := by decide +kernel
theorem dL_inequality_19 : decode cL_inequality 19 = .ok (.astore 5, 2) := by decide +kernel
theorem dL_inequality_21 : decode cL_inequality 21 = .ok (.iconst 2, 1) := by decide +kernel
theorem dL_inequality_22 : decode cL_inequality 22 = .ok (.ireturn, 1) := by decide +kernel
theorem dL_inequality_23 : decode cL_inequality 23 = .ok (.iconst 0, 1) := by decide +kernel
theorem dL_inequality_24 : decode cL_inequality 24 = .ok (.ireturn, 1) := by decide +kernel
theorem dL_isPlace_0 : decode cL_isPlace 0 = .ok (.aload_n 2, 1) := by decide +kernel
theorem dL_isPlace_1 : decode cL_isPlace 1 = .ok (.iconst 0, 1) := by decide +kernel
theorem dL_isPlace_2 : decode cL_isPlace 2 = .ok (.aload_n 0, 1) := by decide +kernel
theorem dL_isPlace_3 : decode cL_isPlace 3 = .ok (.iload_n 1, 1) := by decide +kernel
theorem dL_isPlace_4 : decode cL_isPlace 4 = .ok (.invokevirtual 35, 3) := by decide +kernel
theorem dL_isPlace_7 : decode cL_isPlace 7 = .ok (.ifCond .eq 7, 3) := by decide +kernel
theorem dL_isPlace_10 : decode cL_isPlace 10 = .ok (.lconst 1, 1) := by decide +kernel
theorem dL_isPlace_11 : decode cL_isPlace 11 = .ok (.goto 4, 3) := by decide +kernel
theorem dL_isPlace_14 : decode cL_isPlace 14 = .ok (.lconst 0, 1) := by decide +kernel
theorem dL_isPlace_15 : decode cL_isPlace 15 = .ok (.lastore, 1) := by decide +kernel
theorem dL_isPlace_16 : decode cL_isPlace 16 = .ok (.goto 6, 3) := by decide +kernel
theorem dL_isPlace_19 : decode cL_isPlace 19 = .ok (.astore_n 3, 1) := by decide +kernel
theorem dL_isPlace_20 : decode cL_isPlace 20 = .ok (.iconst 1, 1) := by decide +kernel
theorem dL_isPlace_21 : decode cL_isPlace 21 = .ok (.ireturn, 1) := by decide +kernel
theorem dL_isPlace_22 : decode cL_isPlace 22 = .ok (.iconst 0, 1) := by decide +kernel
theorem dL_isPlace_23 : decode cL_isPlace 23 = .ok (.ireturn, 1) := by decide +kernel
theorem dL_count_0 : decode cL_count 0 = .ok (.aload_n 3, 1) := by decide +kernel
theorem dL_count_1 : decode cL_count 1 = .ok (.iconst 0, 1) := by decide +kernel
theorem dL_count_2 : decode cL_count 2 = .ok (.aload_n 0, 1) := by decide +kernel
theorem dL_count_3 : decode cL_count 3 = .ok (.iload_n 1, 1) := by decide +kernel
theorem dL_count_4 : decode cL_count 4 = .ok (.iload_n 2, 1) := by decide +kernel
theorem dL_count_5 : decode cL_count 5 = .ok (.invokevirtual 39, 3) := by decide +kernel
theorem dL_count_8 : decode cL_count 8 = .ok (.lastore, 1) := by decide +kernel
theorem dL_count_9 : decode cL_count 9 = .ok (.goto 15, 3) := by decide +kernel
theorem dL_count_12 : decode cL_count 12 = .ok (.astore 4, 2) := by decide +kernel
theorem dL_count_14 : decode cL_count 14 = .ok (.iconst 1, 1) := by decide +kernel
theorem dL_count_15 : decode cL_count 15 = .ok (.ireturn, 1) := by decide +kernel
theorem dL_count_16 : decode cL_count 16 = .ok (.astore 4, 2) := by decide +kernel
theorem dL_count_18 : decode cL_count 18 = .ok (.iconst 2, 1) := by decide +kernel
theorem dL_count_19 : decode cL_count 19 = .ok (.ireturn, 1) := by decide +kernel
theorem dL_count_20 : decode cL_count 20 = .ok (.astore 4, 2) := by decide +kernel
theorem dL_count_22 : decode cL_count 22 = .ok (.iconst 3, 1) := by decide +kernel
theorem dL_count_23 : decode cL_count 23 = .ok (.ireturn, 1) := by decide +kernel
theorem dL_count_24 : decode cL_count 24 = .ok (.iconst 0, 1) := by decide +kernel
theorem dL_count_25 : decode cL_count 25 = .ok (.ireturn, 1) := by decide +kernel
theorem dL_countAnew_0 : decode cL_countAnew 0 = .ok (.aload_n 3, 1) := by decide +kernel
theorem dL_countAnew_1 : decode cL_countAnew 1 = .ok (.iconst 0, 1) := by decide +kernel
theorem dL_countAnew_2 : decode cL_countAnew 2 = .ok (.aload_n 0, 1) := by decide +kernel
theorem dL_countAnew_3 : decode cL_countAnew 3 = .ok (.iload_n 1, 1) := by decide +kernel
theorem dL_countAnew_4 : decode cL_countAnew 4 = .ok (.iload_n 2, 1) := by decide +kernel
theorem dL_countAnew_5 : decode cL_countAnew 5 = .ok (.invokevirtual 43, 3) := by decide +kernel
theorem dL_countAnew_8 : decode cL_countAnew 8 = .ok (.lastore, 1) := by decide +kernel
theorem dL_countAnew_9 : decode cL_countAnew 9 = .ok (.goto 15, 3) := by decide +kernel
theorem dL_countAnew_12 : decode cL_countAnew 12 = .ok (.astore 4, 2) := by decide +kernel
theorem dL_countAnew_14 : decode cL_countAnew 14 = .ok (.iconst 1, 1) := by decide +kernel
theorem dL_countAnew_15 : decode cL_countAnew 15 = .ok (.ireturn, 1) := by decide +kernel
theorem dL_countAnew_16 : decode cL_countAnew 16 = .ok (.astore 4, 2) := by decide +kernel
theorem dL_countAnew_18 : decode cL_countAnew 18 = .ok (.iconst 2, 1) := by decide +kernel
theorem dL_countAnew_19 : decode cL_countAnew 19 = .ok (.ireturn, 1) := by decide +kernel
theorem dL_countAnew_20 : decode cL_countAnew 20 = .ok (.astore 4, 2) := by decide +kernel
theorem dL_countAnew_22 : decode cL_countAnew 22 = .ok (.iconst 3, 1) := by decide +kernel
theorem dL_countAnew_23 : decode cL_countAnew 23 = .ok (.ireturn, 1) := by decide +kernel
theorem dL_countAnew_24 : decode cL_countAnew 24 = .ok (.iconst 0, 1) := by decide +kernel
theorem dL_countAnew_25 : decode cL_countAnew 25 = .ok (.ireturn, 1) := by decide +kernel
theorem dL_blown_0 : decode cL_blown 0 = .ok (.aload 4, 2) := by decide +kernel
theorem dL_blown_2 : decode cL_blown 2 = .ok (.iconst 0, 1) := by decide +kernel
theorem dL_blown_3 : decode cL_blown 3 = .ok (.aload_n 0, 1) := by decide +kernel
theorem dL_blown_4 : decode cL_blown 4 = .ok (.iload_n 1, 1) := by decide +kernel
theorem dL_blown_5 : decode cL_blown 5 = .ok (.iload_n 2, 1) := by decide +kernel
theorem dL_blown_6 : decode cL_blown 6 = .ok (.iload_n 3, 1) := by decide +kernel
theorem dL_blown_7 : decode cL_blown 7 = .ok (.invokevirtual 46, 3) := by decide +kernel
theorem dL_blown_10 : decode cL_blown 10 = .ok (.lastore, 1) := by decide +kernel
theorem dL_blown_11 : decode cL_blown 11 = .ok (.goto 15, 3) := by decide +kernel
theorem dL_blown_14 : decode cL_blown 14 = .ok (.astore 5, 2) := by decide +kernel
theorem dL_blown_16 : decode cL_blown 16 = .ok (.iconst 1, 1) := by decide +kernel
theorem dL_blown_17 : decode cL_blown 17 = .ok (.ireturn, 1) := by decide +kernel
theorem dL_blown_18 : decode cL_blown 18 = .ok (.astore 5, 2) := by decide +kernel
theorem dL_blown_20 : decode cL_blown 20 = .ok (.iconst 2, 1) := by decide +kernel
theorem dL_blown_21 : decode cL_blown 21 = .ok (.ireturn, 1) := by decide +kernel
theorem dL_blown_22 : decode cL_blown 22 = .ok (.astore 5, 2) := by decide +kernel
theorem dL_blown_24 : decode cL_blown 24 = .ok (.iconst 3, 1) := by decide +kernel
theorem dL_blown_25 : decode cL_blown 25 = .ok (.ireturn, 1) := by decide +kernel
theorem dL_blown_26 : decode cL_blown 26 = .ok (.iconst 0, 1) := by decide +kernel
theorem dL_blown_27 : decode cL_blown 27 = .ok (.ireturn, 1) := by decide +kernel
theorem dL_best_0 : decode cL_best 0 = .ok (.aload 6, 2) := by decide +kernel
theorem dL_best_2 : decode cL_best 2 = .ok (.iconst 0, 1) := by decide +kernel
theorem dL_best_3 : decode cL_best 3 = .ok (.aload_n 0, 1) := by decide +kernel
theorem dL_best_4 : decode cL_best 4 = .ok (.iload_n 1, 1) := by decide +kernel
theorem dL_best_5 : decode cL_best 5 = .ok (.iload_n 2, 1) := by decide +kernel
theorem dL_best_6 : decode cL_best 6 = .ok (.iload_n 3, 1) := by decide +kernel
theorem dL_best_7 : decode cL_best 7 = .ok (.iload 4, 2) := by decide +kernel
theorem dL_best_9 : decode cL_best 9 = .ok (.iload 5, 2) := by decide +kernel
theorem dL_best_11 : decode cL_best 11 = .ok (.invokevirtual 50, 3) := by decide +kernel
theorem dL_best_14 : decode cL_best 14 = .ok (.i2l, 1) := by decide +kernel
theorem dL_best_15 : decode cL_best 15 = .ok (.lastore, 1) := by decide +kernel
theorem dL_best_16 : decode cL_best 16 = .ok (.goto 15, 3) := by decide +kernel
theorem dL_best_19 : decode cL_best 19 = .ok (.astore 7, 2) := by decide +kernel
theorem dL_best_21 : decode cL_best 21 = .ok (.iconst 1, 1) := by decide +kernel
theorem dL_best_22 : decode cL_best 22 = .ok (.ireturn, 1) := by decide +kernel
theorem dL_best_23 : decode cL_best 23 = .ok (.astore 7, 2) := by decide +kernel
theorem dL_best_25 : decode cL_best 25 = .ok (.iconst 2, 1) := by decide +kernel
theorem dL_best_26 : decode cL_best 26 = .ok (.ireturn, 1) := by decide +kernel
theorem dL_best_27 : decode cL_best 27 = .ok (.astore 7, 2) := by decide +kernel
theorem dL_best_29 : decode cL_best 29 = .ok (.iconst 3, 1) := by decide +kernel
theorem dL_best_30 : decode cL_best 30 = .ok (.ireturn, 1) := by decide +kernel
theorem dL_best_31 : decode cL_best 31 = .ok (.iconst 0, 1) := by decide +kernel
theorem dL_best_32 : decode cL_best 32 = .ok (.ireturn, 1) := by decide +kernel
theorem dL_index_0 : decode cL_index 0 = .ok (.aload 5, 2) := by decide +kernel
theorem dL_index_2 : decode cL_index 2 = .ok (.iconst 0, 1) := by decide +kernel
theorem dL_index_3 : decode cL_index 3 = .ok (.aload_n 0, 1) := by decide +kernel
theorem dL_index_4 : decode cL_index 4 = .ok (.iload_n 1, 1) := by decide +kernel
theorem dL_index_5 : decode cL_index 5 = .ok (.iload_n 2, 1) := by decide +kernel
theorem dL_index_6 : decode cL_index 6 = .ok (.iload_n 3, 1) := by decide +kernel
theorem dL_index_7 : decode cL_index 7 = .ok (.iload 4, 2) := by decide +kernel
theorem dL_index_9 : decode cL_index 9 = .ok (.invokevirtual 53, 3) := by decide +kernel
theorem dL_index_12 : decode cL_index 12 = .ok (.i2l, 1) := by decide +kernel
theorem dL_index_13 : decode cL_index 13 = .ok (.lastore, 1) := by decide +kernel
theorem dL_index_14 : decode cL_index 14 = .ok (.goto 7, 3) := by decide +kernel
theorem dL_index_17 : decode cL_index 17 = .ok (.astore 6, 2) := by decide +kernel
theorem dL_index_19 : decode cL_index 19 = .ok (.iconst 1, 1) := by decide +kernel
theorem dL_index_20 : decode cL_index 20 = .ok (.ireturn, 1) := by decide +kernel
theorem dL_index_21 : decode cL_index 21 = .ok (.iconst 0, 1) := by decide +kernel
theorem dL_index_22 : decode cL_index 22 = .ok (.ireturn, 1) := by decide +kernel
theorem dL_generator_0 : decode cL_generator 0 = .ok (.aload 7, 2) := by decide +kernel
theorem dL_generator_2 : decode cL_generator 2 = .ok (.iconst 0, 1) := by decide +kernel
theorem dL_generator_3 : decode cL_generator 3 = .ok (.aload_n 0, 1) := by decide +kernel
theorem dL_generator_4 : decode cL_generator 4 = .ok (.iload_n 1, 1) := by decide +kernel
theorem dL_generator_5 : decode cL_generator 5 = .ok (.iload_n 2, 1) := by decide +kernel
theorem dL_generator_6 : decode cL_generator 6 = .ok (.iload_n 3, 1) := by decide +kernel
theorem dL_generator_7 : decode cL_generator 7 = .ok (.iload 4, 2) := by decide +kernel
theorem dL_generator_9 : decode cL_generator 9 = .ok (.iload 5, 2) := by decide +kernel
theorem dL_generator_11 : decode cL_generator 11 = .ok (.iload 6, 2) := by decide +kernel
theorem dL_generator_13 : decode cL_generator 13 = .ok (.invokevirtual 57, 3) := by decide +kernel
theorem dL_generator_16 : decode cL_generator 16 = .ok (.i2l, 1) := by decide +kernel
theorem dL_generator_17 : decode cL_generator 17 = .ok (.lastore, 1) := by decide +kernel
theorem dL_generator_18 : decode cL_generator 18 = .ok (.goto 11, 3) := by decide +kernel
theorem dL_generator_21 : decode cL_generator 21 = .ok (.astore 8, 2) := by decide +kernel
theorem dL_generator_23 : decode cL_generator 23 = .ok (.iconst 1, 1) := by decide +kernel
theorem dL_generator_24 : decode cL_generator 24 = .ok (.ireturn, 1) := by decide +kernel
theorem dL_generator_25 : decode cL_generator 25 = .ok (.astore 8, 2) := by decide +kernel
theorem dL_generator_27 : decode cL_generator 27 = .ok (.iconst 2, 1) := by decide +kernel
theorem dL_generator_28 : decode cL_generator 28 = .ok (.ireturn, 1) := by decide +kernel
theorem dL_generator_29 : decode cL_generator 29 = .ok (.iconst 0, 1) := by decide +kernel
theorem dL_generator_30 : decode cL_generator 30 = .ok (.ireturn, 1) := by decide +kernel
theorem dL_generatorAnew_0 : decode cL_generatorAnew 0 = .ok (.aload 7, 2) := by decide +kernel
theorem dL_generatorAnew_2 : decode cL_generatorAnew 2 = .ok (.iconst 0, 1) := by decide +kernel
theorem dL_generatorAnew_3 : decode cL_generatorAnew 3 = .ok (.aload_n 0, 1) := by decide +kernel
theorem dL_generatorAnew_4 : decode cL_generatorAnew 4 = .ok (.iload_n 1, 1) := by decide +kernel
theorem dL_generatorAnew_5 : decode cL_generatorAnew 5 = .ok (.iload_n 2, 1) := by decide +kernel
theorem dL_generatorAnew_6 : decode cL_generatorAnew 6 = .ok (.iload_n 3, 1) := by decide +kernel
theorem dL_generatorAnew_7 : decode cL_generatorAnew 7 = .ok (.iload 4, 2) := by decide +kernel
theorem dL_generatorAnew_9 : decode cL_generatorAnew 9 = .ok (.iload 5, 2) := by decide +kernel
theorem dL_generatorAnew_11 : decode cL_generatorAnew 11 = .ok (.iload 6, 2) := by decide +kernel
theorem dL_generatorAnew_13 : decode cL_generatorAnew 13 = .ok (.invokevirtual 61, 3) := by decide +kernel
theorem dL_generatorAnew_16 : decode cL_generatorAnew 16 = .ok (.i2l, 1) := by decide +kernel
theorem dL_generatorAnew_17 : decode cL_generatorAnew 17 = .ok (.lastore, 1) := by decide +kernel
theorem dL_generatorAnew_18 : decode cL_generatorAnew 18 = .ok (.goto 11, 3) := by decide +kernel
theorem dL_generatorAnew_21 : decode cL_generatorAnew 21 = .ok (.astore 8, 2) := by decide +kernel
theorem dL_generatorAnew_23 : decode cL_generatorAnew 23 = .ok (.iconst 1, 1) := by decide +kernel
theorem dL_generatorAnew_24 : decode cL_generatorAnew 24 = .ok (.ireturn, 1) := by decide +kernel
theorem dL_generatorAnew_25 : decode cL_generatorAnew 25 = .ok (.astore 8, 2) := by decide +kernel
theorem dL_generatorAnew_27 : decode cL_generatorAnew 27 = .ok (.iconst 2, 1) := by decide +kernel
theorem dL_generatorAnew_28 : decode cL_generatorAnew 28 = .ok (.ireturn, 1) := by decide +kernel
theorem dL_generatorAnew_29 : decode cL_generatorAnew 29 = .ok (.iconst 0, 1) := by decide +kernel
theorem dL_generatorAnew_30 : decode cL_generatorAnew 30 = .ok (.ireturn, 1) := by decide +kernel
theorem dL_coin_0 : decode cL_coin 0 = .ok (.aload_n 2, 1) := by decide +kernel
theorem dL_coin_1 : decode cL_coin 1 = .ok (.iconst 0, 1) := by decide +kernel
theorem dL_coin_2 : decode cL_coin 2 = .ok (.aload_n 0, 1) := by decide +kernel
theorem dL_coin_3 : decode cL_coin 3 = .ok (.iload_n 1, 1) := by decide +kernel
theorem dL_coin_4 : decode cL_coin 4 = .ok (.invokevirtual 64, 3) := by decide +kernel
theorem dL_coin_7 : decode cL_coin 7 = .ok (.i2l, 1) := by decide +kernel
theorem dL_coin_8 : decode cL_coin 8 = .ok (.lastore, 1) := by decide +kernel
theorem dL_coin_9 : decode cL_coin 9 = .ok (.goto 9, 3) := by decide +kernel
theorem dL_coin_12 : decode cL_coin 12 = .ok (.astore_n 3, 1) := by decide +kernel
theorem dL_coin_13 : decode cL_coin 13 = .ok (.iconst 1, 1) := by decide +kernel
theorem dL_coin_14 : decode cL_coin 14 = .ok (.ireturn, 1) := by decide +kernel
theorem dL_coin_15 : decode cL_coin 15 = .ok (.astore_n 3, 1) := by decide +kernel
theorem dL_coin_16 : decode cL_coin 16 = .ok (.iconst 2, 1) := by decide +kernel
theorem dL_coin_17 : decode cL_coin 17 = .ok (.ireturn, 1) := by decide +kernel
theorem dL_coin_18 : decode cL_coin 18 = .ok (.iconst 0, 1) := by decide +kernel
theorem dL_coin_19 : decode cL_coin 19 = .ok (.ireturn, 1) := by decide +kernel
theorem dL_ways_0 : decode cL_ways 0 = .ok (.aload_n 2, 1) := by decide +kernel
theorem dL_ways_1 : decode cL_ways 1 = .ok (.iconst 0, 1) := by decide +kernel
theorem dL_ways_2 : decode cL_ways 2 = .ok (.aload_n 0, 1) := by decide +kernel
theorem dL_ways_3 : decode cL_ways 3 = .ok (.iload_n 1, 1) := by decide +kernel
theorem dL_ways_4 : decode cL_ways 4 = .ok (.invokevirtual 68, 3) := by decide +kernel
theorem dL_ways_7 : decode cL_ways 7 = .ok (.lastore, 1) := by decide +kernel
theorem dL_ways_8 : decode cL_ways 8 = .ok (.goto 6, 3) := by decide +kernel
theorem dL_ways_11 : decode cL_ways 11 = .ok (.astore_n 3, 1) := by decide +kernel
theorem dL_ways_12 : decode cL_ways 12 = .ok (.iconst 1, 1) := by decide +kernel
theorem dL_ways_13 : decode cL_ways 13 = .ok (.ireturn, 1) := by decide +kernel
theorem dL_ways_14 : decode cL_ways 14 = .ok (.iconst 0, 1) := by decide +kernel
theorem dL_ways_15 : decode cL_ways 15 = .ok (.ireturn, 1) := by decide +kernel
theorem dL_gap_0 : decode cL_gap 0 = .ok (.aload_n 2, 1) := by decide +kernel
theorem dL_gap_1 : decode cL_gap 1 = .ok (.iconst 0, 1) := by decide +kernel
theorem dL_gap_2 : decode cL_gap 2 = .ok (.aload_n 0, 1) := by decide +kernel
theorem dL_gap_3 : decode cL_gap 3 = .ok (.iload_n 1, 1) := by decide +kernel
theorem dL_gap_4 : decode cL_gap 4 = .ok (.invokevirtual 72, 3) := by decide +kernel
theorem dL_gap_7 : decode cL_gap 7 = .ok (.i2l, 1) := by decide +kernel
theorem dL_gap_8 : decode cL_gap 8 = .ok (.lastore, 1) := by decide +kernel
theorem dL_gap_9 : decode cL_gap 9 = .ok (.goto 9, 3) := by decide +kernel
theorem dL_gap_12 : decode cL_gap 12 = .ok (.astore_n 3, 1) := by decide +kernel
theorem dL_gap_13 : decode cL_gap 13 = .ok (.iconst 1, 1) := by decide +kernel
theorem dL_gap_14 : decode cL_gap 14 = .ok (.ireturn, 1) := by decide +kernel
theorem dL_gap_15 : decode cL_gap 15 = .ok (.astore_n 3, 1) := by decide +kernel
theorem dL_gap_16 : decode cL_gap 16 = .ok (.iconst 2, 1) := by decide +kernel
theorem dL_gap_17 : decode cL_gap 17 = .ok (.ireturn, 1) := by decide +kernel
theorem dL_gap_18 : decode cL_gap 18 = .ok (.iconst 0, 1) := by decide +kernel
theorem dL_gap_19 : decode cL_gap 19 = .ok (.ireturn, 1) := by decide +kernel
theorem dL_greatestGap_0 : decode cL_greatestGap 0 = .ok (.aload_n 1, 1) := by decide +kernel
theorem dL_greatestGap_1 : decode cL_greatestGap 1 = .ok (.iconst 0, 1) := by decide +kernel
theorem dL_greatestGap_2 : decode cL_greatestGap 2 = .ok (.aload_n 0, 1) := by decide +kernel
theorem dL_greatestGap_3 : decode cL_greatestGap 3 = .ok (.invokevirtual 75, 3) := by decide +kernel
theorem dL_greatestGap_6 : decode cL_greatestGap 6 = .ok (.i2l, 1) := by decide +kernel
theorem dL_greatestGap_7 : decode cL_greatestGap 7 = .ok (.lastore, 1) := by decide +kernel
theorem dL_greatestGap_8 : decode cL_greatestGap 8 = .ok (.goto 6, 3) := by decide +kernel
theorem dL_greatestGap_11 : decode cL_greatestGap 11 = .ok (.astore_n 2, 1) := by decide +kernel
theorem dL_greatestGap_12 : decode cL_greatestGap 12 = .ok (.iconst 1, 1) := by decide +kernel
theorem dL_greatestGap_13 : decode cL_greatestGap 13 = .ok (.ireturn, 1) := by decide +kernel
theorem dL_greatestGap_14 : decode cL_greatestGap 14 = .ok (.iconst 0, 1) := by decide +kernel
theorem dL_greatestGap_15 : decode cL_greatestGap 15 = .ok (.ireturn, 1) := by decide +kernel
theorem dL_tables_0 : decode cL_tables 0 = .ok (.aload 5, 2) := by decide +kernel
theorem dL_tables_2 : decode cL_tables 2 = .ok (.iconst 0, 1) := by decide +kernel
theorem dL_tables_3 : decode cL_tables 3 = .ok (.aload_n 0, 1) := by decide +kernel
theorem dL_tables_4 : decode cL_tables 4 = .ok (.iload_n 1, 1) := by decide +kernel
theorem dL_tables_5 : decode cL_tables 5 = .ok (.iload_n 2, 1) := by decide +kernel
theorem dL_tables_6 : decode cL_tables 6 = .ok (.iload_n 3, 1) := by decide +kernel
theorem dL_tables_7 : decode cL_tables 7 = .ok (.iload 4, 2) := by decide +kernel
theorem dL_tables_9 : decode cL_tables 9 = .ok (.invokevirtual 78, 3) := by decide +kernel
theorem dL_tables_12 : decode cL_tables 12 = .ok (.i2l, 1) := by decide +kernel
theorem dL_tables_13 : decode cL_tables 13 = .ok (.lastore, 1) := by decide +kernel
theorem dL_tables_14 : decode cL_tables 14 = .ok (.goto 7, 3) := by decide +kernel
theorem dL_tables_17 : decode cL_tables 17 = .ok (.astore 6, 2) := by decide +kernel
theorem dL_tables_19 : decode cL_tables 19 = .ok (.iconst 1, 1) := by decide +kernel
theorem dL_tables_20 : decode cL_tables 20 = .ok (.ireturn, 1) := by decide +kernel
theorem dL_tables_21 : decode cL_tables 21 = .ok (.iconst 0, 1) := by decide +kernel
theorem dL_tables_22 : decode cL_tables 22 = .ok (.ireturn, 1) := by decide +kernel
