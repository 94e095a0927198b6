theorem dX5_init_0 : decode cX5_init 0 = .ok (.aload_n 0, 1) := by decide +kernel
theorem dX5_init_1 : decode cX5_init 1 = .ok (.invokespecial 1, 3) := by decide +kernel
theorem dX5_init_4 : decode cX5_init 4 = .ok (.aload_n 0, 1) := by decide +kernel
theorem dX5_init_5 : decode cX5_init 5 = .ok (.bipush 8, 2) := by decide +kernel
theorem dX5_init_7 : decode cX5_init 7 = .ok (.newarray .int, 2) := by decide +kernel
theorem dX5_init_9 : decode cX5_init 9 = .ok (.putfield 7, 3) := by decide +kernel
theorem dX5_init_12 : decode cX5_init 12 = .ok (.aload_n 0, 1) := by decide +kernel
theorem dX5_init_13 : decode cX5_init 13 = .ok (.bipush 80, 2) := by decide +kernel
theorem dX5_init_15 : decode cX5_init 15 = .ok (.newarray .int, 2) := by decide +kernel
theorem dX5_init_17 : decode cX5_init 17 = .ok (.putfield 13, 3) := by decide +kernel
theorem dX5_init_20 : decode cX5_init 20 = .ok (.aload_n 0, 1) := by decide +kernel
theorem dX5_init_21 : decode cX5_init 21 = .ok (.bipush 80, 2) := by decide +kernel
theorem dX5_init_23 : decode cX5_init 23 = .ok (.newarray .int, 2) := by decide +kernel
theorem dX5_init_25 : decode cX5_init 25 = .ok (.putfield 16, 3) := by decide +kernel
theorem dX5_init_28 : decode cX5_init 28 = .ok (.aload_n 0, 1) := by decide +kernel
theorem dX5_init_29 : decode cX5_init 29 = .ok (.bipush 80, 2) := by decide +kernel
theorem dX5_init_31 : decode cX5_init 31 = .ok (.newarray .int, 2) := by decide +kernel
theorem dX5_init_33 : decode cX5_init 33 = .ok (.putfield 19, 3) := by decide +kernel
theorem dX5_init_36 : decode cX5_init 36 = .ok (.aload_n 0, 1) := by decide +kernel
theorem dX5_init_37 : decode cX5_init 37 = .ok (.bipush 80, 2) := by decide +kernel
theorem dX5_init_39 : decode cX5_init 39 = .ok (.newarray .int, 2) := by decide +kernel
theorem dX5_init_41 : decode cX5_init 41 = .ok (.putfield 22, 3) := by decide +kernel
theorem dX5_init_44 : decode cX5_init 44 = .ok (.aload_n 0, 1) := by decide +kernel
theorem dX5_init_45 : decode cX5_init 45 = .ok (.bipush 10, 2) := by decide +kernel
theorem dX5_init_47 : decode cX5_init 47 = .ok (.newarray .long, 2) := by decide +kernel
theorem dX5_init_49 : decode cX5_init 49 = .ok (.putfield 25, 3) := by decide +kernel
theorem dX5_init_52 : decode cX5_init 52 = .ok (.aload_n 0, 1) := by decide +kernel
theorem dX5_init_53 : decode cX5_init 53 = .ok (.bipush 10, 2) := by decide +kernel
theorem dX5_init_55 : decode cX5_init 55 = .ok (.newarray .long, 2) := by decide +kernel
theorem dX5_init_57 : decode cX5_init 57 = .ok (.putfield 29, 3) := by decide +kernel
theorem dX5_init_60 : decode cX5_init 60 = .ok (.aload_n 0, 1) := by decide +kernel
theorem dX5_init_61 : decode cX5_init 61 = .ok (.bipush 10, 2) := by decide +kernel
theorem dX5_init_63 : decode cX5_init 63 = .ok (.newarray .long, 2) := by decide +kernel
theorem dX5_init_65 : decode cX5_init 65 = .ok (.putfield 32, 3) := by decide +kernel
theorem dX5_init_68 : decode cX5_init 68 = .ok (.aload_n 0, 1) := by decide +kernel
theorem dX5_init_69 : decode cX5_init 69 = .ok (.bipush 61, 2) := by decide +kernel
theorem dX5_init_71 : decode cX5_init 71 = .ok (.newarray .boolean, 2) := by decide +kernel
theorem dX5_init_73 : decode cX5_init 73 = .ok (.putfield 35, 3) := by decide +kernel
theorem dX5_init_76 : decode cX5_init 76 = .ok (.aload_n 0, 1) := by decide +kernel
theorem dX5_init_77 : decode cX5_init 77 = .ok (.sipush 1001, 3) := by decide +kernel
theorem dX5_init_80 : decode cX5_init 80 = .ok (.newarray .long, 2) := by decide +kernel
theorem dX5_init_82 : decode cX5_init 82 = .ok (.putfield 39, 3) := by decide +kernel
theorem dX5_init_85 : decode cX5_init 85 = .ok (.aload_n 0, 1) := by decide +kernel
theorem dX5_init_86 : decode cX5_init 86 = .ok (.sipush 3601, 3) := by decide +kernel
theorem dX5_init_89 : decode cX5_init 89 = .ok (.newarray .boolean, 2) := by decide +kernel
theorem dX5_init_91 : decode cX5_init 91 = .ok (.putfield 42, 3) := by decide +kernel
theorem dX5_init_94 : decode cX5_init 94 = .ok (.aload_n 0, 1) := by decide +kernel
theorem dX5_init_95 : decode cX5_init 95 = .ok (.sipush 900, 3) := by decide +kernel
theorem dX5_init_98 : decode cX5_init 98 = .ok (.newarray .int, 2) := by decide +kernel
theorem dX5_init_100 : decode cX5_init 100 = .ok (.putfield 45, 3) := by decide +kernel
theorem dX5_init_103 : decode cX5_init 103 = .ok (.aload_n 0, 1) := by decide +kernel
theorem dX5_init_104 : decode cX5_init 104 = .ok (.sipush 900, 3) := by decide +kernel
theorem dX5_init_107 : decode cX5_init 107 = .ok (.newarray .int, 2) := by decide +kernel
theorem dX5_init_109 : decode cX5_init 109 = .ok (.putfield 48, 3) := by decide +kernel
theorem dX5_init_112 : decode cX5_init 112 = .ok (.return_, 1) := by decide +kernel
theorem dX5_thrown_0 : decode cX5_thrown 0 = .ok (.aload_n 0, 1) := by decide +kernel
theorem dX5_thrown_1 : decode cX5_thrown 1 = .ok (.getfield 51, 3) := by decide +kernel
theorem dX5_thrown_4 : decode cX5_thrown 4 = .ok (.ireturn, 1) := by decide +kernel
theorem dX5_in_0 : decode cX5_in 0 = .ok (.iload_n 0, 1) := by decide +kernel
theorem dX5_in_1 : decode cX5_in 1 = .ok (.iload_n 1, 1) := by decide +kernel
theorem dX5_in_2 : decode cX5_in 2 = .ok (.if_icmp .lt 12, 3) := by decide +kernel
theorem dX5_in_5 : decode cX5_in 5 = .ok (.iload_n 0, 1) := by decide +kernel
theorem dX5_in_6 : decode cX5_in 6 = .ok (.iload_n 2, 1) := by decide +kernel
theorem dX5_in_7 : decode cX5_in 7 = .ok (.if_icmp .gt 7, 3) := by decide +kernel
theorem dX5_in_10 : decode cX5_in 10 = .ok (.iconst 1, 1) := by decide +kernel
theorem dX5_in_11 : decode cX5_in 11 = .ok (.goto 4, 3) := by decide +kernel
theorem dX5_in_14 : decode cX5_in 14 = .ok (.iconst 0, 1) := by decide +kernel
theorem dX5_in_15 : decode cX5_in 15 = .ok (.ireturn, 1) := by decide +kernel
theorem dX5_isShape_0 : decode cX5_isShape 0 = .ok (.iload_n 1, 1) := by decide +kernel
theorem dX5_isShape_1 : decode cX5_isShape 1 = .ok (.iconst 0, 1) := by decide +kernel
theorem dX5_isShape_2 : decode cX5_isShape 2 = .ok (.aload_n 0, 1) := by decide +kernel
theorem dX5_isShape_3 : decode cX5_isShape 3 = .ok (.getfield 55, 3) := by decide +kernel
theorem dX5_isShape_6 : decode cX5_isShape 6 = .ok (.iconst 1, 1) := by decide +kernel
theorem dX5_isShape_7 : decode cX5_isShape 7 = .ok (.isub, 1) := by decide +kernel
theorem dX5_isShape_8 : decode cX5_isShape 8 = .ok (.invokestatic 58, 3) := by decide +kernel
theorem dX5_isShape_11 : decode cX5_isShape 11 = .ok (.ireturn, 1) := by decide +kernel
theorem dX5_isRow_0 : decode cX5_isRow 0 = .ok (.aload_n 0, 1) := by decide +kernel
theorem dX5_isRow_1 : decode cX5_isRow 1 = .ok (.iload_n 1, 1) := by decide +kernel
theorem dX5_isRow_2 : decode cX5_isRow 2 = .ok (.invokevirtual 62, 3) := by decide +kernel
theorem dX5_isRow_5 : decode cX5_isRow 5 = .ok (.ifCond .eq 23, 3) := by decide +kernel
theorem dX5_isRow_8 : decode cX5_isRow 8 = .ok (.iload_n 2, 1) := by decide +kernel
theorem dX5_isRow_9 : decode cX5_isRow 9 = .ok (.iconst 0, 1) := by decide +kernel
theorem dX5_isRow_10 : decode cX5_isRow 10 = .ok (.aload_n 0, 1) := by decide +kernel
theorem dX5_isRow_11 : decode cX5_isRow 11 = .ok (.getfield 7, 3) := by decide +kernel
theorem dX5_isRow_14 : decode cX5_isRow 14 = .ok (.iload_n 1, 1) := by decide +kernel
theorem dX5_isRow_15 : decode cX5_isRow 15 = .ok (.iaload, 1) := by decide +kernel
theorem dX5_isRow_16 : decode cX5_isRow 16 = .ok (.iconst 1, 1) := by decide +kernel
theorem dX5_isRow_17 : decode cX5_isRow 17 = .ok (.isub, 1) := by decide +kernel
theorem dX5_isRow_18 : decode cX5_isRow 18 = .ok (.invokestatic 58, 3) := by decide +kernel
theorem dX5_isRow_21 : decode cX5_isRow 21 = .ok (.ifCond .eq 7, 3) := by decide +kernel
theorem dX5_isRow_24 : decode cX5_isRow 24 = .ok (.iconst 1, 1) := by decide +kernel
theorem dX5_isRow_25 : decode cX5_isRow 25 = .ok (.goto 4, 3) := by decide +kernel
theorem dX5_isRow_28 : decode cX5_isRow 28 = .ok (.iconst 0, 1) := by decide +kernel
theorem dX5_isRow_29 : decode cX5_isRow 29 = .ok (.ireturn, 1) := by decide +kernel
theorem dX5_floor_0 : decode cX5_floor 0 = .ok (.lload_n 0, 1) := by decide +kernel
theorem dX5_floor_1 : decode cX5_floor 1 = .ok (.lload_n 2, 1) := by decide +kernel
theorem dX5_floor_2 : decode cX5_floor 2 = .ok (.ldiv, 1) := by decide +kernel
theorem dX5_floor_3 : decode cX5_floor 3 = .ok (.lstore 4, 2) := by decide +kernel
theorem dX5_floor_5 : decode cX5_floor 5 = .ok (.lload 4, 2) := by decide +kernel
theorem dX5_floor_7 : decode cX5_floor 7 = .ok (.lload_n 2, 1) := by decide +kernel
theorem dX5_floor_8 : decode cX5_floor 8 = .ok (.lmul, 1) := by decide +kernel
theorem dX5_floor_9 : decode cX5_floor 9 = .ok (.lload_n 0, 1) := by decide +kernel
theorem dX5_floor_10 : decode cX5_floor 10 = .ok (.lcmp, 1) := by decide +kernel
theorem dX5_floor_11 : decode cX5_floor 11 = .ok (.ifCond .le 10, 3) := by decide +kernel
theorem dX5_floor_14 : decode cX5_floor 14 = .ok (.lload 4, 2) := by decide +kernel
theorem dX5_floor_16 : decode cX5_floor 16 = .ok (.lconst 1, 1) := by decide +kernel
theorem dX5_floor_17 : decode cX5_floor 17 = .ok (.lsub, 1) := by decide +kernel
theorem dX5_floor_18 : decode cX5_floor 18 = .ok (.goto 5, 3) := by decide +kernel
theorem dX5_floor_21 : decode cX5_floor 21 = .ok (.lload 4, 2) := by decide +kernel
theorem dX5_floor_23 : decode cX5_floor 23 = .ok (.lreturn, 1) := by decide +kernel
theorem dX5_shape_0 : decode cX5_shape 0 = .ok (.aload_n 0, 1) := by decide +kernel
theorem dX5_shape_1 : decode cX5_shape 1 = .ok (.aload_n 0, 1) := by decide +kernel
theorem dX5_shape_2 : decode cX5_shape 2 = .ok (.getfield 55, 3) := by decide +kernel
theorem dX5_shape_5 : decode cX5_shape 5 = .ok (.bipush 8, 2) := by decide +kernel
theorem dX5_shape_7 : decode cX5_shape 7 = .ok (.if_icmp .ne 7, 3) := by decide +kernel
theorem dX5_shape_10 : decode cX5_shape 10 = .ok (.iconst 1, 1) := by decide +kernel
theorem dX5_shape_11 : decode cX5_shape 11 = .ok (.goto 4, 3) := by decide +kernel
theorem dX5_shape_14 : decode cX5_shape 14 = .ok (.iconst 0, 1) := by decide +kernel
theorem dX5_shape_15 : decode cX5_shape 15 = .ok (.putfield 51, 3) := by decide +kernel
theorem dX5_shape_18 : decode cX5_shape 18 = .ok (.aload_n 0, 1) := by decide +kernel
theorem dX5_shape_19 : decode cX5_shape 19 = .ok (.getfield 51, 3) := by decide +kernel
theorem dX5_shape_22 : decode cX5_shape 22 = .ok (.ifCond .eq 5, 3) := by decide +kernel
theorem dX5_shape_25 : decode cX5_shape 25 = .ok (.iconst 0, 1) := by decide +kernel
theorem dX5_shape_26 : decode cX5_shape 26 = .ok (.ireturn, 1) := by decide +kernel
theorem dX5_shape_27 : decode cX5_shape 27 = .ok (.aload_n 0, 1) := by decide +kernel
theorem dX5_shape_28 : decode cX5_shape 28 = .ok (.dup, 1) := by decide +kernel
theorem dX5_shape_29 : decode cX5_shape 29 = .ok (.getfield 55, 3) := by decide +kernel
theorem dX5_shape_32 : decode cX5_shape 32 = .ok (.iconst 1, 1) := by decide +kernel
theorem dX5_shape_33 : decode cX5_shape 33 = .ok (.iadd, 1) := by decide +kernel
theorem dX5_shape_34 : decode cX5_shape 34 = .ok (.putfield 55, 3) := by decide +kernel
theorem dX5_shape_37 : decode cX5_shape 37 = .ok (.aload_n 0, 1) := by decide +kernel
theorem dX5_shape_38 : decode cX5_shape 38 = .ok (.getfield 55, 3) := by decide +kernel
theorem dX5_shape_41 : decode cX5_shape 41 = .ok (.iconst 1, 1) := by decide +kernel
theorem dX5_shape_42 : decode cX5_shape 42 = .ok (.isub, 1) := by decide +kernel
theorem dX5_shape_43 : decode cX5_shape 43 = .ok (.ireturn, 1) := by decide +kernel
theorem dX5_puts_0 : decode cX5_puts 0 = .ok (.bipush 10, 2) := by decide +kernel
theorem dX5_puts_2 : decode cX5_puts 2 = .ok (.iload_n 1, 1) := by decide +kernel
theorem dX5_puts_3 : decode cX5_puts 3 = .ok (.imul, 1) := by decide +kernel
theorem dX5_puts_4 : decode cX5_puts 4 = .ok (.aload_n 0, 1) := by decide +kernel
theorem dX5_puts_5 : decode cX5_puts 5 = .ok (.getfield 7, 3) := by decide +kernel
theorem dX5_puts_8 : decode cX5_puts 8 = .ok (.iload_n 1, 1) := by decide +kernel
theorem dX5_puts_9 : decode cX5_puts 9 = .ok (.iaload, 1) := by decide +kernel
theorem dX5_puts_10 : decode cX5_puts 10 = .ok (.iadd, 1) := by decide +kernel
theorem dX5_puts_11 : decode cX5_puts 11 = .ok (.istore 6, 2) := by decide +kernel
theorem dX5_puts_13 : decode cX5_puts 13 = .ok (.aload_n 0, 1) := by decide +kernel
theorem dX5_puts_14 : decode cX5_puts 14 = .ok (.getfield 13, 3) := by decide +kernel
theorem dX5_puts_17 : decode cX5_puts 17 = .ok (.iload 6, 2) := by decide +kernel
theorem dX5_puts_19 : decode cX5_puts 19 = .ok (.iload_n 2, 1) := by decide +kernel
theorem dX5_puts_20 : decode cX5_puts 20 = .ok (.iastore, 1) := by decide +kernel
theorem dX5_puts_21 : decode cX5_puts 21 = .ok (.aload_n 0, 1) := by decide +kernel
theorem dX5_puts_22 : decode cX5_puts 22 = .ok (.getfield 16, 3) := by decide +kernel
theorem dX5_puts_25 : decode cX5_puts 25 = .ok (.iload 6, 2) := by decide +kernel
theorem dX5_puts_27 : decode cX5_puts 27 = .ok (.iload_n 3, 1) := by decide +kernel
theorem dX5_puts_28 : decode cX5_puts 28 = .ok (.iastore, 1) := by decide +kernel
theorem dX5_puts_29 : decode cX5_puts 29 = .ok (.aload_n 0, 1) := by decide +kernel
theorem dX5_puts_30 : decode cX5_puts 30 = .ok (.getfield 19, 3) := by decide +kernel
theorem dX5_puts_33 : decode cX5_puts 33 = .ok (.iload 6, 2) := by decide +kernel
theorem dX5_puts_35 : decode cX5_puts 35 = .ok (.iload 4, 2) := by decide +kernel
theorem dX5_puts_37 : decode cX5_puts 37 = .ok (.iastore, 1) := by decide +kernel
theorem dX5_puts_38 : decode cX5_puts 38 = .ok (.aload_n 0, 1) := by decide +kernel
theorem dX5_puts_39 : decode cX5_puts 39 = .ok (.getfield 22, 3) := by decide +kernel
theorem dX5_puts_42 : decode cX5_puts 42 = .ok (.iload 6, 2) := by decide +kernel
theorem dX5_puts_44 : decode cX5_puts 44 = .ok (.iload 5, 2) := by decide +kernel
theorem dX5_puts_46 : decode cX5_puts 46 = .ok (.iastore, 1) := by decide +kernel
theorem dX5_puts_47 : decode cX5_puts 47 = .ok (.aload_n 0, 1) := by decide +kernel
theorem dX5_puts_48 : decode cX5_puts 48 = .ok (.getfield 7, 3) := by decide +kernel
theorem dX5_puts_51 : decode cX5_puts 51 = .ok (.iload_n 1, 1) := by decide +kernel
theorem dX5_puts_52 : decode cX5_puts 52 = .ok (.dup2, 1) := by decide +kernel
theorem dX5_puts_53 : decode cX5_puts 53 = .ok (.iaload, 1) := by decide +kernel
theorem dX5_puts_54 : decode cX5_puts 54 = .ok (.iconst 1, 1) := by decide +kernel
theorem dX5_puts_55 : decode cX5_puts 55 = .ok (.iadd, 1) := by decide +kernel
theorem dX5_puts_56 : decode cX5_puts 56 = .ok (.iastore, 1) := by decide +kernel
theorem dX5_puts_57 : decode cX5_puts 57 = .ok (.aload_n 0, 1) := by decide +kernel
theorem dX5_puts_58 : decode cX5_puts 58 = .ok (.getfield 7, 3) := by decide +kernel
theorem dX5_puts_61 : decode cX5_puts 61 = .ok (.iload_n 1, 1) := by decide +kernel
theorem dX5_puts_62 : decode cX5_puts 62 = .ok (.iaload, 1) := by decide +kernel
theorem dX5_puts_63 : decode cX5_puts 63 = .ok (.iconst 1, 1) := by decide +kernel
theorem dX5_puts_64 : decode cX5_puts 64 = .ok (.isub, 1) := by decide +kernel
theorem dX5_puts_65 : decode cX5_puts 65 = .ok (.ireturn, 1) := by decide +kernel
theorem dX5_add_0 : decode cX5_add 0 = .ok (.iload_n 2, 1) := by decide +kernel
theorem dX5_add_1 : decode cX5_add 1 = .ok (.bipush (-9), 2) := by decide +kernel
theorem dX5_add_3 : decode cX5_add 3 = .ok (.bipush 9, 2) := by decide +kernel
theorem dX5_add_5 : decode cX5_add 5 = .ok (.invokestatic 58, 3) := by decide +kernel
theorem dX5_add_8 : decode cX5_add 8 = .ok (.ifCond .eq 50, 3) := by decide +kernel
theorem dX5_add_11 : decode cX5_add 11 = .ok (.iload_n 3, 1) := by decide +kernel
theorem dX5_add_12 : decode cX5_add 12 = .ok (.bipush (-9), 2) := by decide +kernel
theorem dX5_add_14 : decode cX5_add 14 = .ok (.bipush 9, 2) := by decide +kernel
theorem dX5_add_16 : decode cX5_add 16 = .ok (.invokestatic 58, 3) := by decide +kernel
theorem dX5_add_19 : decode cX5_add 19 = .ok (.ifCond .eq 39, 3) := by decide +kernel
theorem dX5_add_22 : decode cX5_add 22 = .ok (.iload 4, 2) := by decide +kernel
theorem dX5_add_24 : decode cX5_add 24 = .ok (.bipush (-99), 2) := by decide +kernel
theorem dX5_add_26 : decode cX5_add 26 = .ok (.bipush 99, 2) := by decide +kernel
theorem dX5_add_28 : decode cX5_add 28 = .ok (.invokestatic 58, 3) := by decide +kernel
theorem dX5_add_31 : decode cX5_add 31 = .ok (.ifCond .eq 27, 3) := by decide +kernel
theorem dX5_add_34 : decode cX5_add 34 = .ok (.iload 5, 2) := by decide +kernel
theorem dX5_add_36 : decode cX5_add 36 = .ok (.bipush (-9), 2) := by decide +kernel
theorem dX5_add_38 : decode cX5_add 38 = .ok (.bipush 9, 2) := by decide +kernel
theorem dX5_add_40 : decode cX5_add 40 = .ok (.invokestatic 58, 3) := by decide +kernel
theorem dX5_add_43 : decode cX5_add 43 = .ok (.ifCond .eq 15, 3) := by decide +kernel
theorem dX5_add_46 : decode cX5_add 46 = .ok (.iload_n 2, 1) := by decide +kernel
theorem dX5_add_47 : decode cX5_add 47 = .ok (.ifCond .ne 7, 3) := by decide +kernel
theorem dX5_add_50 : decode cX5_add 50 = .ok (.iload_n 3, 1) := by decide +kernel
theorem dX5_add_51 : decode cX5_add 51 = .ok (.ifCond .eq 7, 3) := by decide +kernel
theorem dX5_add_54 : decode cX5_add 54 = .ok (.iconst 1, 1) := by decide +kernel
theorem dX5_add_55 : decode cX5_add 55 = .ok (.goto 4, 3) := by decide +kernel
theorem dX5_add_58 : decode cX5_add 58 = .ok (.iconst 0, 1) := by decide +kernel
theorem dX5_add_59 : decode cX5_add 59 = .ok (.istore 6, 2) := by decide +kernel
theorem dX5_add_61 : decode cX5_add 61 = .ok (.aload_n 0, 1) := by decide +kernel
theorem dX5_add_62 : decode cX5_add 62 = .ok (.aload_n 0, 1) := by decide +kernel
theorem dX5_add_63 : decode cX5_add 63 = .ok (.iload_n 1, 1) := by decide +kernel
theorem dX5_add_64 : decode cX5_add 64 = .ok (.invokevirtual 62, 3) := by decide +kernel
theorem dX5_add_67 : decode cX5_add 67 = .ok (.ifCond .ne 7, 3) := by decide +kernel
theorem dX5_add_70 : decode cX5_add 70 = .ok (.iconst 1, 1) := by decide +kernel
theorem dX5_add_71 : decode cX5_add 71 = .ok (.goto 28, 3) := by decide +kernel
theorem dX5_add_74 : decode cX5_add 74 = .ok (.iload 6, 2) := by decide +kernel
theorem dX5_add_76 : decode cX5_add 76 = .ok (.ifCond .ne 7, 3) := by decide +kernel
theorem dX5_add_79 : decode cX5_add 79 = .ok (.iconst 2, 1) := by decide +kernel
theorem dX5_add_80 : decode cX5_add 80 = .ok (.goto 19, 3) := by decide +kernel
theorem dX5_add_83 : decode cX5_add 83 = .ok (.aload_n 0, 1) := by decide +kernel
theorem dX5_add_84 : decode cX5_add 84 = .ok (.getfield 7, 3) := by decide +kernel
theorem dX5_add_87 : decode cX5_add 87 = .ok (.iload_n 1, 1) := by decide +kernel
theorem dX5_add_88 : decode cX5_add 88 = .ok (.iaload, 1) := by decide +kernel
theorem dX5_add_89 : decode cX5_add 89 = .ok (.bipush 10, 2) := by decide +kernel
theorem dX5_add_91 : decode cX5_add 91 = .ok (.if_icmp .ne 7, 3) := by decide +kernel
theorem dX5_add_94 : decode cX5_add 94 = .ok (.iconst 3, 1) := by decide +kernel
theorem dX5_add_95 : decode cX5_add 95 = .ok (.goto 4, 3) := by decide +kernel
theorem dX5_add_98 : decode cX5_add 98 = .ok (.iconst 0, 1) := by decide +kernel
theorem dX5_add_99 : decode cX5_add 99 = .ok (.putfield 51, 3) := by decide +kernel
theorem dX5_add_102 : decode cX5_add 102 = .ok (.aload_n 0, 1) := by decide +kernel
theorem dX5_add_103 : decode cX5_add 103 = .ok (.getfield 51, 3) := by decide +kernel
theorem dX5_add_106 : decode cX5_add 106 = .ok (.ifCond .eq 7, 3) := by decide +kernel
theorem dX5_add_109 : decode cX5_add 109 = .ok (.iconst 0, 1) := by decide +kernel
theorem dX5_add_110 : decode cX5_add 110 = .ok (.goto 14, 3) := by decide +kernel
theorem dX5_add_113 : decode cX5_add 113 = .ok (.aload_n 0, 1) := by decide +kernel
theorem dX5_add_114 : decode cX5_add 114 = .ok (.iload_n 1, 1) := by decide +kernel
theorem dX5_add_115 : decode cX5_add 115 = .ok (.iload_n 2, 1) := by decide +kernel
theorem dX5_add_116 : decode cX5_add 116 = .ok (.iload_n 3, 1) := by decide +kernel
theorem dX5_add_117 : decode cX5_add 117 = .ok (.iload 4, 2) := by decide +kernel
theorem dX5_add_119 : decode cX5_add 119 = .ok (.iload 5, 2) := by decide +kernel
theorem dX5_add_121 : decode cX5_add 121 = .ok (.invokevirtual 66, 3) := by decide +kernel
theorem dX5_add_124 : decode cX5_add 124 = .ok (.ireturn, 1) := by decide +kernel
theorem dX5_cut_0 : decode cX5_cut 0 = .ok (.aload_n 0, 1) := by decide +kernel
theorem dX5_cut_1 : decode cX5_cut 1 = .ok (.iload_n 1, 1) := by decide +kernel
theorem dX5_cut_2 : decode cX5_cut 2 = .ok (.iload_n 2, 1) := by decide +kernel
theorem dX5_cut_3 : decode cX5_cut 3 = .ok (.invokevirtual 70, 3) := by decide +kernel
theorem dX5_cut_6 : decode cX5_cut 6 = .ok (.ifCond .eq 13, 3) := by decide +kernel
theorem dX5_cut_9 : decode cX5_cut 9 = .ok (.aload_n 0, 1) := by decide +kernel
theorem dX5_cut_10 : decode cX5_cut 10 = .ok (.iload_n 1, 1) := by decide +kernel
theorem dX5_cut_11 : decode cX5_cut 11 = .ok (.iload 4, 2) := by decide +kernel
theorem dX5_cut_13 : decode cX5_cut 13 = .ok (.invokevirtual 70, 3) := by decide +kernel
theorem dX5_cut_16 : decode cX5_cut 16 = .ok (.ifCond .ne 10, 3) := by decide +kernel
theorem dX5_cut_19 : decode cX5_cut 19 = .ok (.aload_n 0, 1) := by decide +kernel
theorem dX5_cut_20 : decode cX5_cut 20 = .ok (.iconst 1, 1) := by decide +kernel
theorem dX5_cut_21 : decode cX5_cut 21 = .ok (.putfield 51, 3) := by decide +kernel
theorem dX5_cut_24 : decode cX5_cut 24 = .ok (.iconst 0, 1) := by decide +kernel
theorem dX5_cut_25 : decode cX5_cut 25 = .ok (.ireturn, 1) := by decide +kernel
theorem dX5_cut_26 : decode cX5_cut 26 = .ok (.iload_n 3, 1) := by decide +kernel
theorem dX5_cut_27 : decode cX5_cut 27 = .ok (.iconst 0, 1) := by decide +kernel
theorem dX5_cut_28 : decode cX5_cut 28 = .ok (.bipush 9, 2) := by decide +kernel
theorem dX5_cut_30 : decode cX5_cut 30 = .ok (.invokestatic 58, 3) := by decide +kernel
theorem dX5_cut_33 : decode cX5_cut 33 = .ok (.ifCond .eq 25, 3) := by decide +kernel
theorem dX5_cut_36 : decode cX5_cut 36 = .ok (.iload 5, 2) := by decide +kernel
theorem dX5_cut_38 : decode cX5_cut 38 = .ok (.iconst 0, 1) := by decide +kernel
theorem dX5_cut_39 : decode cX5_cut 39 = .ok (.bipush 9, 2) := by decide +kernel
theorem dX5_cut_41 : decode cX5_cut 41 = .ok (.invokestatic 58, 3) := by decide +kernel
theorem dX5_cut_44 : decode cX5_cut 44 = .ok (.ifCond .eq 14, 3) := by decide +kernel
theorem dX5_cut_47 : decode cX5_cut 47 = .ok (.iload 6, 2) := by decide +kernel
theorem dX5_cut_49 : decode cX5_cut 49 = .ok (.iconst 1, 1) := by decide +kernel
theorem dX5_cut_50 : decode cX5_cut 50 = .ok (.bipush 20, 2) := by decide +kernel
theorem dX5_cut_52 : decode cX5_cut 52 = .ok (.invokestatic 58, 3) := by decide +kernel
theorem dX5_cut_55 : decode cX5_cut 55 = .ok (.ifCond .ne 10, 3) := by decide +kernel
theorem dX5_cut_58 : decode cX5_cut 58 = .ok (.aload_n 0, 1) := by decide +kernel
theorem dX5_cut_59 : decode cX5_cut 59 = .ok (.iconst 2, 1) := by decide +kernel
theorem dX5_cut_60 : decode cX5_cut 60 = .ok (.putfield 51, 3) := by decide +kernel
theorem dX5_cut_63 : decode cX5_cut 63 = .ok (.iconst 0, 1) := by decide +kernel
theorem dX5_cut_64 : decode cX5_cut 64 = .ok (.ireturn, 1) := by decide +kernel
theorem dX5_cut_65 : decode cX5_cut 65 = .ok (.bipush 10, 2) := by decide +kernel
theorem dX5_cut_67 : decode cX5_cut 67 = .ok (.iload_n 1, 1) := by decide +kernel
theorem dX5_cut_68 : decode cX5_cut 68 = .ok (.imul, 1) := by decide +kernel
theorem dX5_cut_69 : decode cX5_cut 69 = .ok (.iload_n 2, 1) := by decide +kernel
theorem dX5_cut_70 : decode cX5_cut 70 = .ok (.iadd, 1) := by decide +kernel
theorem dX5_cut_71 : decode cX5_cut 71 = .ok (.istore 7, 2) := by decide +kernel
theorem dX5_cut_73 : decode cX5_cut 73 = .ok (.bipush 10, 2) := by decide +kernel
theorem dX5_cut_75 : decode cX5_cut 75 = .ok (.iload_n 1, 1) := by decide +kernel
theorem dX5_cut_76 : decode cX5_cut 76 = .ok (.imul, 1) := by decide +kernel
theorem dX5_cut_77 : decode cX5_cut 77 = .ok (.iload 4, 2) := by decide +kernel
theorem dX5_cut_79 : decode cX5_cut 79 = .ok (.iadd, 1) := by decide +kernel
theorem dX5_cut_80 : decode cX5_cut 80 = .ok (.istore 8, 2) := by decide +kernel
theorem dX5_cut_82 : decode cX5_cut 82 = .ok (.iload_n 3, 1) := by decide +kernel
theorem dX5_cut_83 : decode cX5_cut 83 = .ok (.aload_n 0, 1) := by decide +kernel
theorem dX5_cut_84 : decode cX5_cut 84 = .ok (.getfield 13, 3) := by decide +kernel
theorem dX5_cut_87 : decode cX5_cut 87 = .ok (.iload 7, 2) := by decide +kernel
theorem dX5_cut_89 : decode cX5_cut 89 = .ok (.iaload, 1) := by decide +kernel
theorem dX5_cut_90 : decode cX5_cut 90 = .ok (.imul, 1) := by decide +kernel
theorem dX5_cut_91 : decode cX5_cut 91 = .ok (.iload 5, 2) := by decide +kernel
theorem dX5_cut_93 : decode cX5_cut 93 = .ok (.aload_n 0, 1) := by decide +kernel
theorem dX5_cut_94 : decode cX5_cut 94 = .ok (.getfield 13, 3) := by decide +kernel
theorem dX5_cut_97 : decode cX5_cut 97 = .ok (.iload 8, 2) := by decide +kernel
theorem dX5_cut_99 : decode cX5_cut 99 = .ok (.iaload, 1) := by decide +kernel
theorem dX5_cut_100 : decode cX5_cut 100 = .ok (.imul, 1) := by decide +kernel
theorem dX5_cut_101 : decode cX5_cut 101 = .ok (.iadd, 1) := by decide +kernel
theorem dX5_cut_102 : decode cX5_cut 102 = .ok (.istore 9, 2) := by decide +kernel
theorem dX5_cut_104 : decode cX5_cut 104 = .ok (.iload_n 3, 1) := by decide +kernel
theorem dX5_cut_105 : decode cX5_cut 105 = .ok (.aload_n 0, 1) := by decide +kernel
theorem dX5_cut_106 : decode cX5_cut 106 = .ok (.getfield 16, 3) := by decide +kernel
theorem dX5_cut_109 : decode cX5_cut 109 = .ok (.iload 7, 2) := by decide +kernel
theorem dX5_cut_111 : decode cX5_cut 111 = .ok (.iaload, 1) := by decide +kernel
theorem dX5_cut_112 : decode cX5_cut 112 = .ok (.imul, 1) := by decide +kernel
theorem dX5_cut_113 : decode cX5_cut 113 = .ok (.iload 5, 2) := by decide +kernel
theorem dX5_cut_115 : decode cX5_cut 115 = .ok (.aload_n 0, 1) := by decide +kernel
theorem dX5_cut_116 : decode cX5_cut 116 = .ok (.getfield 16, 3) := by decide +kernel
theorem dX5_cut_119 : decode cX5_cut 119 = .ok (.iload 8, 2) := by decide +kernel
theorem dX5_cut_121 : decode cX5_cut 121 = .ok (.iaload, 1) := by decide +kernel
theorem dX5_cut_122 : decode cX5_cut 122 = .ok (.imul, 1) := by decide +kernel
theorem dX5_cut_123 : decode cX5_cut 123 = .ok (.iadd, 1) := by decide +kernel
theorem dX5_cut_124 : decode cX5_cut 124 = .ok (.istore 10, 2) := by decide +kernel
theorem dX5_cut_126 : decode cX5_cut 126 = .ok (.iload_n 3, 1) := by decide +kernel
theorem dX5_cut_127 : decode cX5_cut 127 = .ok (.aload_n 0, 1) := by decide +kernel
theorem dX5_cut_128 : decode cX5_cut 128 = .ok (.getfield 19, 3) := by decide +kernel
theorem dX5_cut_131 : decode cX5_cut 131 = .ok (.iload 7, 2) := by decide +kernel
theorem dX5_cut_133 : decode cX5_cut 133 = .ok (.iaload, 1) := by decide +kernel
theorem dX5_cut_134 : decode cX5_cut 134 = .ok (.imul, 1) := by decide +kernel
theorem dX5_cut_135 : decode cX5_cut 135 = .ok (.iload 5, 2) := by decide +kernel
theorem dX5_cut_137 : decode cX5_cut 137 = .ok (.aload_n 0, 1) := by decide +kernel
theorem dX5_cut_138 : decode cX5_cut 138 = .ok (.getfield 19, 3) := by decide +kernel
theorem dX5_cut_141 : decode cX5_cut 141 = .ok (.iload 8, 2) := by decide +kernel
theorem dX5_cut_143 : decode cX5_cut 143 = .ok (.iaload, 1) := by decide +kernel
theorem dX5_cut_144 : decode cX5_cut 144 = .ok (.imul, 1) := by decide +kernel
theorem dX5_cut_145 : decode cX5_cut 145 = .ok (.iadd, 1) := by decide +kernel
theorem dX5_cut_146 : decode cX5_cut 146 = .ok (.i2l, 1) := by decide +kernel
theorem dX5_cut_147 : decode cX5_cut 147 = .ok (.iload 6, 2) := by decide +kernel
theorem dX5_cut_149 : decode cX5_cut 149 = .ok (.i2l, 1) := by decide +kernel
theorem dX5_cut_150 : decode cX5_cut 150 = .ok (.invokestatic 74, 3) := by decide +kernel
theorem dX5_cut_153 : decode cX5_cut 153 = .ok (.l2i, 1) := by decide +kernel
theorem dX5_cut_154 : decode cX5_cut 154 = .ok (.istore 11, 2) := by decide +kernel
theorem dX5_cut_156 : decode cX5_cut 156 = .ok (.aload_n 0, 1) := by decide +kernel
theorem dX5_cut_157 : decode cX5_cut 157 = .ok (.getfield 22, 3) := by decide +kernel
theorem dX5_cut_160 : decode cX5_cut 160 = .ok (.iload 7, 2) := by decide +kernel
theorem dX5_cut_162 : decode cX5_cut 162 = .ok (.iaload, 1) := by decide +kernel
theorem dX5_cut_163 : decode cX5_cut 163 = .ok (.ifCond .ne 87, 3) := by decide +kernel
theorem dX5_cut_166 : decode cX5_cut 166 = .ok (.aload_n 0, 1) := by decide +kernel
theorem dX5_cut_167 : decode cX5_cut 167 = .ok (.getfield 22, 3) := by decide +kernel
theorem dX5_cut_170 : decode cX5_cut 170 = .ok (.iload 8, 2) := by decide +kernel
theorem dX5_cut_172 : decode cX5_cut 172 = .ok (.iaload, 1) := by decide +kernel
theorem dX5_cut_173 : decode cX5_cut 173 = .ok (.ifCond .ne 77, 3) := by decide +kernel
theorem dX5_cut_176 : decode cX5_cut 176 = .ok (.iload 9, 2) := by decide +kernel
theorem dX5_cut_178 : decode cX5_cut 178 = .ok (.iload 6, 2) := by decide +kernel
theorem dX5_cut_180 : decode cX5_cut 180 = .ok (.irem, 1) := by decide +kernel
theorem dX5_cut_181 : decode cX5_cut 181 = .ok (.ifCond .ne 69, 3) := by decide +kernel
theorem dX5_cut_184 : decode cX5_cut 184 = .ok (.iload 10, 2) := by decide +kernel
theorem dX5_cut_186 : decode cX5_cut 186 = .ok (.iload 6, 2) := by decide +kernel
theorem dX5_cut_188 : decode cX5_cut 188 = .ok (.irem, 1) := by decide +kernel
theorem dX5_cut_189 : decode cX5_cut 189 = .ok (.ifCond .ne 61, 3) := by decide +kernel
theorem dX5_cut_192 : decode cX5_cut 192 = .ok (.iload 9, 2) := by decide +kernel
theorem dX5_cut_194 : decode cX5_cut 194 = .ok (.ifCond .ne 8, 3) := by decide +kernel
theorem dX5_cut_197 : decode cX5_cut 197 = .ok (.iload 10, 2) := by decide +kernel
theorem dX5_cut_199 : decode cX5_cut 199 = .ok (.ifCond .eq 51, 3) := by decide +kernel
theorem dX5_cut_202 : decode cX5_cut 202 = .ok (.iload 9, 2) := by decide +kernel
theorem dX5_cut_204 : decode cX5_cut 204 = .ok (.iload 6, 2) := by decide +kernel
theorem dX5_cut_206 : decode cX5_cut 206 = .ok (.idiv, 1) := by decide +kernel
theorem dX5_cut_207 : decode cX5_cut 207 = .ok (.bipush (-60), 2) := by decide +kernel
theorem dX5_cut_209 : decode cX5_cut 209 = .ok (.bipush 60, 2) := by decide +kernel
theorem dX5_cut_211 : decode cX5_cut 211 = .ok (.invokestatic 58, 3) := by decide +kernel
theorem dX5_cut_214 : decode cX5_cut 214 = .ok (.ifCond .eq 36, 3) := by decide +kernel
theorem dX5_cut_217 : decode cX5_cut 217 = .ok (.iload 10, 2) := by decide +kernel
theorem dX5_cut_219 : decode cX5_cut 219 = .ok (.iload 6, 2) := by decide +kernel
theorem dX5_cut_221 : decode cX5_cut 221 = .ok (.idiv, 1) := by decide +kernel
theorem dX5_cut_222 : decode cX5_cut 222 = .ok (.bipush (-60), 2) := by decide +kernel
theorem dX5_cut_224 : decode cX5_cut 224 = .ok (.bipush 60, 2) := by decide +kernel
theorem dX5_cut_226 : decode cX5_cut 226 = .ok (.invokestatic 58, 3) := by decide +kernel
theorem dX5_cut_229 : decode cX5_cut 229 = .ok (.ifCond .eq 21, 3) := by decide +kernel
theorem dX5_cut_232 : decode cX5_cut 232 = .ok (.iload 11, 2) := by decide +kernel
theorem dX5_cut_234 : decode cX5_cut 234 = .ok (.sipush (-999), 3) := by decide +kernel
theorem dX5_cut_237 : decode cX5_cut 237 = .ok (.sipush 999, 3) := by decide +kernel
theorem dX5_cut_240 : decode cX5_cut 240 = .ok (.invokestatic 58, 3) := by decide +kernel
theorem dX5_cut_243 : decode cX5_cut 243 = .ok (.ifCond .eq 7, 3) := by decide +kernel
theorem dX5_cut_246 : decode cX5_cut 246 = .ok (.iconst 1, 1) := by decide +kernel
theorem dX5_cut_247 : decode cX5_cut 247 = .ok (.goto 4, 3) := by decide +kernel
theorem dX5_cut_250 : decode cX5_cut 250 = .ok (.iconst 0, 1) := by decide +kernel
theorem dX5_cut_251 : decode cX5_cut 251 = .ok (.istore 12, 2) := by decide +kernel
theorem dX5_cut_253 : decode cX5_cut 253 = .ok (.aload_n 0, 1) := by decide +kernel
theorem dX5_cut_254 : decode cX5_cut 254 = .ok (.iload 12, 2) := by decide +kernel
theorem dX5_cut_256 : decode cX5_cut 256 = .ok (.ifCond .eq 18, 3) := by decide +kernel
theorem dX5_cut_259 : decode cX5_cut 259 = .ok (.aload_n 0, 1) := by decide +kernel
theorem dX5_cut_260 : decode cX5_cut 260 = .ok (.getfield 7, 3) := by decide +kernel
theorem dX5_cut_263 : decode cX5_cut 263 = .ok (.iload_n 1, 1) := by decide +kernel
theorem dX5_cut_264 : decode cX5_cut 264 = .ok (.iaload, 1) := by decide +kernel
theorem dX5_cut_265 : decode cX5_cut 265 = .ok (.bipush 10, 2) := by decide +kernel
theorem dX5_cut_267 : decode cX5_cut 267 = .ok (.if_icmp .ge 7, 3) := by decide +kernel
theorem dX5_cut_270 : decode cX5_cut 270 = .ok (.iconst 0, 1) := by decide +kernel
theorem dX5_cut_271 : decode cX5_cut 271 = .ok (.goto 4, 3) := by decide +kernel
theorem dX5_cut_274 : decode cX5_cut 274 = .ok (.iconst 3, 1) := by decide +kernel
theorem dX5_cut_275 : decode cX5_cut 275 = .ok (.putfield 51, 3) := by decide +kernel
theorem dX5_cut_278 : decode cX5_cut 278 = .ok (.aload_n 0, 1) := by decide +kernel
theorem dX5_cut_279 : decode cX5_cut 279 = .ok (.getfield 51, 3) := by decide +kernel
theorem dX5_cut_282 : decode cX5_cut 282 = .ok (.ifCond .eq 7, 3) := by decide +kernel
theorem dX5_cut_285 : decode cX5_cut 285 = .ok (.iconst 0, 1) := by decide +kernel
theorem dX5_cut_286 : decode cX5_cut 286 = .ok (.goto 21, 3) := by decide +kernel
theorem dX5_cut_289 : decode cX5_cut 289 = .ok (.aload_n 0, 1) := by decide +kernel
theorem dX5_cut_290 : decode cX5_cut 290 = .ok (.iload_n 1, 1) := by decide +kernel
theorem dX5_cut_291 : decode cX5_cut 291 = .ok (.iload 9, 2) := by decide +kernel
theorem dX5_cut_293 : decode cX5_cut 293 = .ok (.iload 6, 2) := by decide +kernel
theorem dX5_cut_295 : decode cX5_cut 295 = .ok (.idiv, 1) := by decide +kernel
theorem dX5_cut_296 : decode cX5_cut 296 = .ok (.iload 10, 2) := by decide +kernel
theorem dX5_cut_298 : decode cX5_cut 298 = .ok (.iload 6, 2) := by decide +kernel
theorem dX5_cut_300 : decode cX5_cut 300 = .ok (.idiv, 1) := by decide +kernel
theorem dX5_cut_301 : decode cX5_cut 301 = .ok (.iload 11, 2) := by decide +kernel
theorem dX5_cut_303 : decode cX5_cut 303 = .ok (.iconst 0, 1) := by decide +kernel
theorem dX5_cut_304 : decode cX5_cut 304 = .ok (.invokevirtual 66, 3) := by decide +kernel
theorem dX5_cut_307 : decode cX5_cut 307 = .ok (.ireturn, 1) := by decide +kernel
theorem dX5_move_0 : decode cX5_move 0 = .ok (.aload_n 0, 1) := by decide +kernel
theorem dX5_move_1 : decode cX5_move 1 = .ok (.aload_n 0, 1) := by decide +kernel
theorem dX5_move_2 : decode cX5_move 2 = .ok (.iload_n 1, 1) := by decide +kernel
theorem dX5_move_3 : decode cX5_move 3 = .ok (.invokevirtual 62, 3) := by decide +kernel
theorem dX5_move_6 : decode cX5_move 6 = .ok (.ifCond .ne 7, 3) := by decide +kernel
theorem dX5_move_9 : decode cX5_move 9 = .ok (.iconst 1, 1) := by decide +kernel
theorem dX5_move_10 : decode cX5_move 10 = .ok (.goto 17, 3) := by decide +kernel
theorem dX5_move_13 : decode cX5_move 13 = .ok (.iload_n 2, 1) := by decide +kernel
theorem dX5_move_14 : decode cX5_move 14 = .ok (.iconst 0, 1) := by decide +kernel
theorem dX5_move_15 : decode cX5_move 15 = .ok (.iconst 2, 1) := by decide +kernel
theorem dX5_move_16 : decode cX5_move 16 = .ok (.invokestatic 58, 3) := by decide +kernel
theorem dX5_move_19 : decode cX5_move 19 = .ok (.ifCond .ne 7, 3) := by decide +kernel
theorem dX5_move_22 : decode cX5_move 22 = .ok (.iconst 2, 1) := by decide +kernel
theorem dX5_move_23 : decode cX5_move 23 = .ok (.goto 4, 3) := by decide +kernel
theorem dX5_move_26 : decode cX5_move 26 = .ok (.iconst 0, 1) := by decide +kernel
theorem dX5_move_27 : decode cX5_move 27 = .ok (.putfield 51, 3) := by decide +kernel
theorem dX5_move_30 : decode cX5_move 30 = .ok (.iconst 0, 1) := by decide +kernel
theorem dX5_move_31 : decode cX5_move 31 = .ok (.istore_n 3, 1) := by decide +kernel
theorem dX5_move_32 : decode cX5_move 32 = .ok (.aload_n 0, 1) := by decide +kernel
theorem dX5_move_33 : decode cX5_move 33 = .ok (.getfield 51, 3) := by decide +kernel
theorem dX5_move_36 : decode cX5_move 36 = .ok (.ifCond .ne 66, 3) := by decide +kernel
theorem dX5_move_39 : decode cX5_move 39 = .ok (.iload_n 2, 1) := by decide +kernel
theorem dX5_move_40 : decode cX5_move 40 = .ok (.iconst 1, 1) := by decide +kernel
theorem dX5_move_41 : decode cX5_move 41 = .ok (.if_icmp .ne 61, 3) := by decide +kernel
theorem dX5_move_44 : decode cX5_move 44 = .ok (.iload_n 3, 1) := by decide +kernel
theorem dX5_move_45 : decode cX5_move 45 = .ok (.aload_n 0, 1) := by decide +kernel
theorem dX5_move_46 : decode cX5_move 46 = .ok (.getfield 7, 3) := by decide +kernel
theorem dX5_move_49 : decode cX5_move 49 = .ok (.iload_n 1, 1) := by decide +kernel
theorem dX5_move_50 : decode cX5_move 50 = .ok (.iaload, 1) := by decide +kernel
theorem dX5_move_51 : decode cX5_move 51 = .ok (.if_icmp .ge 51, 3) := by decide +kernel
theorem dX5_move_54 : decode cX5_move 54 = .ok (.aload_n 0, 1) := by decide +kernel
theorem dX5_move_55 : decode cX5_move 55 = .ok (.aload_n 0, 1) := by decide +kernel
theorem dX5_move_56 : decode cX5_move 56 = .ok (.getfield 16, 3) := by decide +kernel
theorem dX5_move_59 : decode cX5_move 59 = .ok (.bipush 10, 2) := by decide +kernel
theorem dX5_move_61 : decode cX5_move 61 = .ok (.iload_n 1, 1) := by decide +kernel
theorem dX5_move_62 : decode cX5_move 62 = .ok (.imul, 1) := by decide +kernel
theorem dX5_move_63 : decode cX5_move 63 = .ok (.iload_n 3, 1) := by decide +kernel
theorem dX5_move_64 : decode cX5_move 64 = .ok (.iadd, 1) := by decide +kernel
theorem dX5_move_65 : decode cX5_move 65 = .ok (.iaload, 1) := by decide +kernel
theorem dX5_move_66 : decode cX5_move 66 = .ok (.aload_n 0, 1) := by decide +kernel
theorem dX5_move_67 : decode cX5_move 67 = .ok (.getfield 13, 3) := by decide +kernel
theorem dX5_move_70 : decode cX5_move 70 = .ok (.bipush 10, 2) := by decide +kernel
theorem dX5_move_72 : decode cX5_move 72 = .ok (.iload_n 1, 1) := by decide +kernel
theorem dX5_move_73 : decode cX5_move 73 = .ok (.imul, 1) := by decide +kernel
theorem dX5_move_74 : decode cX5_move 74 = .ok (.iload_n 3, 1) := by decide +kernel
theorem dX5_move_75 : decode cX5_move 75 = .ok (.iadd, 1) := by decide +kernel
theorem dX5_move_76 : decode cX5_move 76 = .ok (.iaload, 1) := by decide +kernel
theorem dX5_move_77 : decode cX5_move 77 = .ok (.isub, 1) := by decide +kernel
theorem dX5_move_78 : decode cX5_move 78 = .ok (.bipush (-60), 2) := by decide +kernel
theorem dX5_move_80 : decode cX5_move 80 = .ok (.bipush 60, 2) := by decide +kernel
theorem dX5_move_82 : decode cX5_move 82 = .ok (.invokestatic 58, 3) := by decide +kernel
theorem dX5_move_85 : decode cX5_move 85 = .ok (.ifCond .eq 7, 3) := by decide +kernel
theorem dX5_move_88 : decode cX5_move 88 = .ok (.iconst 0, 1) := by decide +kernel
theorem dX5_move_89 : decode cX5_move 89 = .ok (.goto 4, 3) := by decide +kernel
theorem dX5_move_92 : decode cX5_move 92 = .ok (.iconst 3, 1) := by decide +kernel
theorem dX5_move_93 : decode cX5_move 93 = .ok (.putfield 51, 3) := by decide +kernel
theorem dX5_move_96 : decode cX5_move 96 = .ok (.iinc 3 1, 3) := by decide +kernel
theorem dX5_move_99 : decode cX5_move 99 = .ok (.goto (-67), 3) := by decide +kernel
theorem dX5_move_102 : decode cX5_move 102 = .ok (.aload_n 0, 1) := by decide +kernel
theorem dX5_move_103 : decode cX5_move 103 = .ok (.getfield 51, 3) := by decide +kernel
theorem dX5_move_106 : decode cX5_move 106 = .ok (.ifCond .eq 5, 3) := by decide +kernel
theorem dX5_move_109 : decode cX5_move 109 = .ok (.iconst 0, 1) := by decide +kernel
theorem dX5_move_110 : decode cX5_move 110 = .ok (.ireturn, 1) := by decide +kernel
theorem dX5_move_111 : decode cX5_move 111 = .ok (.bipush 10, 2) := by decide +kernel
theorem dX5_move_113 : decode cX5_move 113 = .ok (.iload_n 1, 1) := by decide +kernel
theorem dX5_move_114 : decode cX5_move 114 = .ok (.imul, 1) := by decide +kernel
theorem dX5_move_115 : decode cX5_move 115 = .ok (.istore_n 3, 1) := by decide +kernel
theorem dX5_move_116 : decode cX5_move 116 = .ok (.iload_n 3, 1) := by decide +kernel
theorem dX5_move_117 : decode cX5_move 117 = .ok (.bipush 10, 2) := by decide +kernel
theorem dX5_move_119 : decode cX5_move 119 = .ok (.iload_n 1, 1) := by decide +kernel
theorem dX5_move_120 : decode cX5_move 120 = .ok (.imul, 1) := by decide +kernel
theorem dX5_move_121 : decode cX5_move 121 = .ok (.aload_n 0, 1) := by decide +kernel
theorem dX5_move_122 : decode cX5_move 122 = .ok (.getfield 7, 3) := by decide +kernel
theorem dX5_move_125 : decode cX5_move 125 = .ok (.iload_n 1, 1) := by decide +kernel
theorem dX5_move_126 : decode cX5_move 126 = .ok (.iaload, 1) := by decide +kernel
theorem dX5_move_127 : decode cX5_move 127 = .ok (.iadd, 1) := by decide +kernel
theorem dX5_move_128 : decode cX5_move 128 = .ok (.if_icmp .ge 83, 3) := by decide +kernel
theorem dX5_move_131 : decode cX5_move 131 = .ok (.aload_n 0, 1) := by decide +kernel
theorem dX5_move_132 : decode cX5_move 132 = .ok (.getfield 13, 3) := by decide +kernel
theorem dX5_move_135 : decode cX5_move 135 = .ok (.iload_n 3, 1) := by decide +kernel
theorem dX5_move_136 : decode cX5_move 136 = .ok (.iaload, 1) := by decide +kernel
theorem dX5_move_137 : decode cX5_move 137 = .ok (.istore 4, 2) := by decide +kernel
theorem dX5_move_139 : decode cX5_move 139 = .ok (.aload_n 0, 1) := by decide +kernel
theorem dX5_move_140 : decode cX5_move 140 = .ok (.getfield 16, 3) := by decide +kernel
theorem dX5_move_143 : decode cX5_move 143 = .ok (.iload_n 3, 1) := by decide +kernel
theorem dX5_move_144 : decode cX5_move 144 = .ok (.iaload, 1) := by decide +kernel
theorem dX5_move_145 : decode cX5_move 145 = .ok (.istore 5, 2) := by decide +kernel
theorem dX5_move_147 : decode cX5_move 147 = .ok (.aload_n 0, 1) := by decide +kernel
theorem dX5_move_148 : decode cX5_move 148 = .ok (.getfield 13, 3) := by decide +kernel
theorem dX5_move_151 : decode cX5_move 151 = .ok (.iload_n 3, 1) := by decide +kernel
