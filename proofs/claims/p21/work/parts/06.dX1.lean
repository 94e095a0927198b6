theorem dX1_init_0 : decode cX1_init 0 = .ok (.aload_n 0, 1) := by decide +kernel
theorem dX1_init_1 : decode cX1_init 1 = .ok (.invokespecial 3, 3) := by decide +kernel
theorem dX1_init_4 : decode cX1_init 4 = .ok (.aload_n 0, 1) := by decide +kernel
theorem dX1_init_5 : decode cX1_init 5 = .ok (.sipush 801, 3) := by decide +kernel
theorem dX1_init_8 : decode cX1_init 8 = .ok (.newarray .int, 2) := by decide +kernel
theorem dX1_init_10 : decode cX1_init 10 = .ok (.putfield 11, 3) := by decide +kernel
theorem dX1_init_13 : decode cX1_init 13 = .ok (.return_, 1) := by decide +kernel
theorem dX1_span_0 : decode cX1_span 0 = .ok (.iload_n 1, 1) := by decide +kernel
theorem dX1_span_1 : decode cX1_span 1 = .ok (.iload_n 2, 1) := by decide +kernel
theorem dX1_span_2 : decode cX1_span 2 = .ok (.invokestatic 15, 3) := by decide +kernel
theorem dX1_span_5 : decode cX1_span 5 = .ok (.istore 5, 2) := by decide +kernel
theorem dX1_span_7 : decode cX1_span 7 = .ok (.iload_n 3, 1) := by decide +kernel
theorem dX1_span_8 : decode cX1_span 8 = .ok (.iload 4, 2) := by decide +kernel
theorem dX1_span_10 : decode cX1_span 10 = .ok (.invokestatic 15, 3) := by decide +kernel
theorem dX1_span_13 : decode cX1_span 13 = .ok (.istore 6, 2) := by decide +kernel
theorem dX1_span_15 : decode cX1_span 15 = .ok (.iload 5, 2) := by decide +kernel
theorem dX1_span_17 : decode cX1_span 17 = .ok (.ifCond .eq 8, 3) := by decide +kernel
theorem dX1_span_20 : decode cX1_span 20 = .ok (.iload 6, 2) := by decide +kernel
theorem dX1_span_22 : decode cX1_span 22 = .ok (.ifCond .ne 5, 3) := by decide +kernel
theorem dX1_span_25 : decode cX1_span 25 = .ok (.iconst 0, 1) := by decide +kernel
theorem dX1_span_26 : decode cX1_span 26 = .ok (.ireturn, 1) := by decide +kernel
theorem dX1_span_27 : decode cX1_span 27 = .ok (.aload_n 0, 1) := by decide +kernel
theorem dX1_span_28 : decode cX1_span 28 = .ok (.iload_n 1, 1) := by decide +kernel
theorem dX1_span_29 : decode cX1_span 29 = .ok (.iload 5, 2) := by decide +kernel
theorem dX1_span_31 : decode cX1_span 31 = .ok (.idiv, 1) := by decide +kernel
theorem dX1_span_32 : decode cX1_span 32 = .ok (.putfield 19, 3) := by decide +kernel
theorem dX1_span_35 : decode cX1_span 35 = .ok (.aload_n 0, 1) := by decide +kernel
theorem dX1_span_36 : decode cX1_span 36 = .ok (.iload_n 2, 1) := by decide +kernel
theorem dX1_span_37 : decode cX1_span 37 = .ok (.iload 5, 2) := by decide +kernel
theorem dX1_span_39 : decode cX1_span 39 = .ok (.idiv, 1) := by decide +kernel
theorem dX1_span_40 : decode cX1_span 40 = .ok (.putfield 23, 3) := by decide +kernel
theorem dX1_span_43 : decode cX1_span 43 = .ok (.aload_n 0, 1) := by decide +kernel
theorem dX1_span_44 : decode cX1_span 44 = .ok (.iload_n 3, 1) := by decide +kernel
theorem dX1_span_45 : decode cX1_span 45 = .ok (.iload 6, 2) := by decide +kernel
theorem dX1_span_47 : decode cX1_span 47 = .ok (.idiv, 1) := by decide +kernel
theorem dX1_span_48 : decode cX1_span 48 = .ok (.putfield 26, 3) := by decide +kernel
theorem dX1_span_51 : decode cX1_span 51 = .ok (.aload_n 0, 1) := by decide +kernel
theorem dX1_span_52 : decode cX1_span 52 = .ok (.iload 4, 2) := by decide +kernel
theorem dX1_span_54 : decode cX1_span 54 = .ok (.iload 6, 2) := by decide +kernel
theorem dX1_span_56 : decode cX1_span 56 = .ok (.idiv, 1) := by decide +kernel
theorem dX1_span_57 : decode cX1_span 57 = .ok (.putfield 29, 3) := by decide +kernel
theorem dX1_span_60 : decode cX1_span 60 = .ok (.aload_n 0, 1) := by decide +kernel
theorem dX1_span_61 : decode cX1_span 61 = .ok (.getfield 19, 3) := by decide +kernel
theorem dX1_span_64 : decode cX1_span 64 = .ok (.aload_n 0, 1) := by decide +kernel
theorem dX1_span_65 : decode cX1_span 65 = .ok (.getfield 29, 3) := by decide +kernel
theorem dX1_span_68 : decode cX1_span 68 = .ok (.imul, 1) := by decide +kernel
theorem dX1_span_69 : decode cX1_span 69 = .ok (.aload_n 0, 1) := by decide +kernel
theorem dX1_span_70 : decode cX1_span 70 = .ok (.getfield 23, 3) := by decide +kernel
theorem dX1_span_73 : decode cX1_span 73 = .ok (.aload_n 0, 1) := by decide +kernel
theorem dX1_span_74 : decode cX1_span 74 = .ok (.getfield 26, 3) := by decide +kernel
theorem dX1_span_77 : decode cX1_span 77 = .ok (.imul, 1) := by decide +kernel
theorem dX1_span_78 : decode cX1_span 78 = .ok (.isub, 1) := by decide +kernel
theorem dX1_span_79 : decode cX1_span 79 = .ok (.istore 7, 2) := by decide +kernel
theorem dX1_span_81 : decode cX1_span 81 = .ok (.aload_n 0, 1) := by decide +kernel
theorem dX1_span_82 : decode cX1_span 82 = .ok (.iload 7, 2) := by decide +kernel
theorem dX1_span_84 : decode cX1_span 84 = .ok (.ifCond .ge 7, 3) := by decide +kernel
theorem dX1_span_87 : decode cX1_span 87 = .ok (.iconst (-1), 1) := by decide +kernel
theorem dX1_span_88 : decode cX1_span 88 = .ok (.goto 4, 3) := by decide +kernel
theorem dX1_span_91 : decode cX1_span 91 = .ok (.iconst 1, 1) := by decide +kernel
theorem dX1_span_92 : decode cX1_span 92 = .ok (.putfield 32, 3) := by decide +kernel
theorem dX1_span_95 : decode cX1_span 95 = .ok (.aload_n 0, 1) := by decide +kernel
theorem dX1_span_96 : decode cX1_span 96 = .ok (.iload 7, 2) := by decide +kernel
theorem dX1_span_98 : decode cX1_span 98 = .ok (.invokestatic 35, 3) := by decide +kernel
theorem dX1_span_101 : decode cX1_span 101 = .ok (.putfield 41, 3) := by decide +kernel
theorem dX1_span_104 : decode cX1_span 104 = .ok (.aload_n 0, 1) := by decide +kernel
theorem dX1_span_105 : decode cX1_span 105 = .ok (.getfield 41, 3) := by decide +kernel
theorem dX1_span_108 : decode cX1_span 108 = .ok (.ifCond .eq 7, 3) := by decide +kernel
theorem dX1_span_111 : decode cX1_span 111 = .ok (.iconst 1, 1) := by decide +kernel
theorem dX1_span_112 : decode cX1_span 112 = .ok (.goto 4, 3) := by decide +kernel
theorem dX1_span_115 : decode cX1_span 115 = .ok (.iconst 0, 1) := by decide +kernel
theorem dX1_span_116 : decode cX1_span 116 = .ok (.ireturn, 1) := by decide +kernel
theorem dX1_lookForGenerators_0 : decode cX1_lookForGenerators 0 = .ok (.aload_n 0, 1) := by decide +kernel
theorem dX1_lookForGenerators_1 : decode cX1_lookForGenerators 1 = .ok (.invokevirtual 44, 3) := by decide +kernel
theorem dX1_lookForGenerators_4 : decode cX1_lookForGenerators 4 = .ok (.ldc 47, 2) := by decide +kernel
theorem dX1_lookForGenerators_6 : decode cX1_lookForGenerators 6 = .ok (.istore_n 2, 1) := by decide +kernel
theorem dX1_lookForGenerators_7 : decode cX1_lookForGenerators 7 = .ok (.iconst 0, 1) := by decide +kernel
theorem dX1_lookForGenerators_8 : decode cX1_lookForGenerators 8 = .ok (.istore_n 3, 1) := by decide +kernel
theorem dX1_lookForGenerators_9 : decode cX1_lookForGenerators 9 = .ok (.iconst 0, 1) := by decide +kernel
theorem dX1_lookForGenerators_10 : decode cX1_lookForGenerators 10 = .ok (.istore 4, 2) := by decide +kernel
theorem dX1_lookForGenerators_12 : decode cX1_lookForGenerators 12 = .ok (.iload 4, 2) := by decide +kernel
theorem dX1_lookForGenerators_14 : decode cX1_lookForGenerators 14 = .ok (.aload_n 0, 1) := by decide +kernel
theorem dX1_lookForGenerators_15 : decode cX1_lookForGenerators 15 = .ok (.getfield 41, 3) := by decide +kernel
theorem dX1_lookForGenerators_18 : decode cX1_lookForGenerators 18 = .ok (.if_icmp .gt 51, 3) := by decide +kernel
theorem dX1_lookForGenerators_21 : decode cX1_lookForGenerators 21 = .ok (.iload 4, 2) := by decide +kernel
theorem dX1_lookForGenerators_23 : decode cX1_lookForGenerators 23 = .ok (.sipush 800, 3) := by decide +kernel
theorem dX1_lookForGenerators_26 : decode cX1_lookForGenerators 26 = .ok (.if_icmp .gt 43, 3) := by decide +kernel
theorem dX1_lookForGenerators_29 : decode cX1_lookForGenerators 29 = .ok (.aload_n 0, 1) := by decide +kernel
theorem dX1_lookForGenerators_30 : decode cX1_lookForGenerators 30 = .ok (.getfield 11, 3) := by decide +kernel
theorem dX1_lookForGenerators_33 : decode cX1_lookForGenerators 33 = .ok (.iload 4, 2) := by decide +kernel
theorem dX1_lookForGenerators_35 : decode cX1_lookForGenerators 35 = .ok (.iaload, 1) := by decide +kernel
theorem dX1_lookForGenerators_36 : decode cX1_lookForGenerators 36 = .ok (.istore 5, 2) := by decide +kernel
theorem dX1_lookForGenerators_38 : decode cX1_lookForGenerators 38 = .ok (.iload 5, 2) := by decide +kernel
theorem dX1_lookForGenerators_40 : decode cX1_lookForGenerators 40 = .ok (.iload_n 2, 1) := by decide +kernel
theorem dX1_lookForGenerators_41 : decode cX1_lookForGenerators 41 = .ok (.if_icmp .ge 22, 3) := by decide +kernel
theorem dX1_lookForGenerators_44 : decode cX1_lookForGenerators 44 = .ok (.iload 5, 2) := by decide +kernel
theorem dX1_lookForGenerators_46 : decode cX1_lookForGenerators 46 = .ok (.istore_n 2, 1) := by decide +kernel
theorem dX1_lookForGenerators_47 : decode cX1_lookForGenerators 47 = .ok (.iload_n 3, 1) := by decide +kernel
theorem dX1_lookForGenerators_48 : decode cX1_lookForGenerators 48 = .ok (.iload_n 1, 1) := by decide +kernel
theorem dX1_lookForGenerators_49 : decode cX1_lookForGenerators 49 = .ok (.if_icmp .ne 11, 3) := by decide +kernel
theorem dX1_lookForGenerators_52 : decode cX1_lookForGenerators 52 = .ok (.aload_n 0, 1) := by decide +kernel
theorem dX1_lookForGenerators_53 : decode cX1_lookForGenerators 53 = .ok (.iload 4, 2) := by decide +kernel
theorem dX1_lookForGenerators_55 : decode cX1_lookForGenerators 55 = .ok (.iload 5, 2) := by decide +kernel
theorem dX1_lookForGenerators_57 : decode cX1_lookForGenerators 57 = .ok (.invokevirtual 48, 3) := by decide +kernel
theorem dX1_lookForGenerators_60 : decode cX1_lookForGenerators 60 = .ok (.iinc 3 1, 3) := by decide +kernel
theorem dX1_lookForGenerators_63 : decode cX1_lookForGenerators 63 = .ok (.iinc 4 1, 3) := by decide +kernel
theorem dX1_lookForGenerators_66 : decode cX1_lookForGenerators 66 = .ok (.goto (-54), 3) := by decide +kernel
theorem dX1_lookForGenerators_69 : decode cX1_lookForGenerators 69 = .ok (.iload_n 3, 1) := by decide +kernel
theorem dX1_lookForGenerators_70 : decode cX1_lookForGenerators 70 = .ok (.ireturn, 1) := by decide +kernel
theorem dX1_lookAtVectors_0 : decode cX1_lookAtVectors 0 = .ok (.iconst 0, 1) := by decide +kernel
theorem dX1_lookAtVectors_1 : decode cX1_lookAtVectors 1 = .ok (.istore_n 1, 1) := by decide +kernel
theorem dX1_lookAtVectors_2 : decode cX1_lookAtVectors 2 = .ok (.iload_n 1, 1) := by decide +kernel
theorem dX1_lookAtVectors_3 : decode cX1_lookAtVectors 3 = .ok (.sipush 800, 3) := by decide +kernel
theorem dX1_lookAtVectors_6 : decode cX1_lookAtVectors 6 = .ok (.if_icmp .gt 17, 3) := by decide +kernel
theorem dX1_lookAtVectors_9 : decode cX1_lookAtVectors 9 = .ok (.aload_n 0, 1) := by decide +kernel
theorem dX1_lookAtVectors_10 : decode cX1_lookAtVectors 10 = .ok (.getfield 11, 3) := by decide +kernel
theorem dX1_lookAtVectors_13 : decode cX1_lookAtVectors 13 = .ok (.iload_n 1, 1) := by decide +kernel
theorem dX1_lookAtVectors_14 : decode cX1_lookAtVectors 14 = .ok (.ldc 47, 2) := by decide +kernel
theorem dX1_lookAtVectors_16 : decode cX1_lookAtVectors 16 = .ok (.iastore, 1) := by decide +kernel
theorem dX1_lookAtVectors_17 : decode cX1_lookAtVectors 17 = .ok (.iinc 1 1, 3) := by decide +kernel
theorem dX1_lookAtVectors_20 : decode cX1_lookAtVectors 20 = .ok (.goto (-18), 3) := by decide +kernel
theorem dX1_lookAtVectors_23 : decode cX1_lookAtVectors 23 = .ok (.iconst 0, 1) := by decide +kernel
theorem dX1_lookAtVectors_24 : decode cX1_lookAtVectors 24 = .ok (.aload_n 0, 1) := by decide +kernel
theorem dX1_lookAtVectors_25 : decode cX1_lookAtVectors 25 = .ok (.getfield 19, 3) := by decide +kernel
theorem dX1_lookAtVectors_28 : decode cX1_lookAtVectors 28 = .ok (.invokestatic 52, 3) := by decide +kernel
theorem dX1_lookAtVectors_31 : decode cX1_lookAtVectors 31 = .ok (.iconst 0, 1) := by decide +kernel
theorem dX1_lookAtVectors_32 : decode cX1_lookAtVectors 32 = .ok (.aload_n 0, 1) := by decide +kernel
theorem dX1_lookAtVectors_33 : decode cX1_lookAtVectors 33 = .ok (.getfield 26, 3) := by decide +kernel
theorem dX1_lookAtVectors_36 : decode cX1_lookAtVectors 36 = .ok (.invokestatic 52, 3) := by decide +kernel
theorem dX1_lookAtVectors_39 : decode cX1_lookAtVectors 39 = .ok (.iadd, 1) := by decide +kernel
theorem dX1_lookAtVectors_40 : decode cX1_lookAtVectors 40 = .ok (.istore_n 1, 1) := by decide +kernel
theorem dX1_lookAtVectors_41 : decode cX1_lookAtVectors 41 = .ok (.iconst 0, 1) := by decide +kernel
theorem dX1_lookAtVectors_42 : decode cX1_lookAtVectors 42 = .ok (.aload_n 0, 1) := by decide +kernel
theorem dX1_lookAtVectors_43 : decode cX1_lookAtVectors 43 = .ok (.getfield 23, 3) := by decide +kernel
theorem dX1_lookAtVectors_46 : decode cX1_lookAtVectors 46 = .ok (.invokestatic 52, 3) := by decide +kernel
theorem dX1_lookAtVectors_49 : decode cX1_lookAtVectors 49 = .ok (.iconst 0, 1) := by decide +kernel
theorem dX1_lookAtVectors_50 : decode cX1_lookAtVectors 50 = .ok (.aload_n 0, 1) := by decide +kernel
theorem dX1_lookAtVectors_51 : decode cX1_lookAtVectors 51 = .ok (.getfield 29, 3) := by decide +kernel
theorem dX1_lookAtVectors_54 : decode cX1_lookAtVectors 54 = .ok (.invokestatic 52, 3) := by decide +kernel
theorem dX1_lookAtVectors_57 : decode cX1_lookAtVectors 57 = .ok (.iadd, 1) := by decide +kernel
theorem dX1_lookAtVectors_58 : decode cX1_lookAtVectors 58 = .ok (.istore_n 2, 1) := by decide +kernel
theorem dX1_lookAtVectors_59 : decode cX1_lookAtVectors 59 = .ok (.iconst 0, 1) := by decide +kernel
theorem dX1_lookAtVectors_60 : decode cX1_lookAtVectors 60 = .ok (.aload_n 0, 1) := by decide +kernel
theorem dX1_lookAtVectors_61 : decode cX1_lookAtVectors 61 = .ok (.getfield 19, 3) := by decide +kernel
theorem dX1_lookAtVectors_64 : decode cX1_lookAtVectors 64 = .ok (.invokestatic 55, 3) := by decide +kernel
theorem dX1_lookAtVectors_67 : decode cX1_lookAtVectors 67 = .ok (.iconst 0, 1) := by decide +kernel
theorem dX1_lookAtVectors_68 : decode cX1_lookAtVectors 68 = .ok (.aload_n 0, 1) := by decide +kernel
theorem dX1_lookAtVectors_69 : decode cX1_lookAtVectors 69 = .ok (.getfield 26, 3) := by decide +kernel
theorem dX1_lookAtVectors_72 : decode cX1_lookAtVectors 72 = .ok (.invokestatic 55, 3) := by decide +kernel
theorem dX1_lookAtVectors_75 : decode cX1_lookAtVectors 75 = .ok (.iadd, 1) := by decide +kernel
theorem dX1_lookAtVectors_76 : decode cX1_lookAtVectors 76 = .ok (.istore_n 3, 1) := by decide +kernel
theorem dX1_lookAtVectors_77 : decode cX1_lookAtVectors 77 = .ok (.iload_n 3, 1) := by decide +kernel
theorem dX1_lookAtVectors_78 : decode cX1_lookAtVectors 78 = .ok (.iload_n 1, 1) := by decide +kernel
theorem dX1_lookAtVectors_79 : decode cX1_lookAtVectors 79 = .ok (.if_icmp .gt 58, 3) := by decide +kernel
theorem dX1_lookAtVectors_82 : decode cX1_lookAtVectors 82 = .ok (.iconst 0, 1) := by decide +kernel
theorem dX1_lookAtVectors_83 : decode cX1_lookAtVectors 83 = .ok (.aload_n 0, 1) := by decide +kernel
theorem dX1_lookAtVectors_84 : decode cX1_lookAtVectors 84 = .ok (.getfield 23, 3) := by decide +kernel
theorem dX1_lookAtVectors_87 : decode cX1_lookAtVectors 87 = .ok (.invokestatic 55, 3) := by decide +kernel
theorem dX1_lookAtVectors_90 : decode cX1_lookAtVectors 90 = .ok (.iconst 0, 1) := by decide +kernel
theorem dX1_lookAtVectors_91 : decode cX1_lookAtVectors 91 = .ok (.aload_n 0, 1) := by decide +kernel
theorem dX1_lookAtVectors_92 : decode cX1_lookAtVectors 92 = .ok (.getfield 29, 3) := by decide +kernel
theorem dX1_lookAtVectors_95 : decode cX1_lookAtVectors 95 = .ok (.invokestatic 55, 3) := by decide +kernel
theorem dX1_lookAtVectors_98 : decode cX1_lookAtVectors 98 = .ok (.iadd, 1) := by decide +kernel
theorem dX1_lookAtVectors_99 : decode cX1_lookAtVectors 99 = .ok (.istore 4, 2) := by decide +kernel
theorem dX1_lookAtVectors_101 : decode cX1_lookAtVectors 101 = .ok (.iload 4, 2) := by decide +kernel
theorem dX1_lookAtVectors_103 : decode cX1_lookAtVectors 103 = .ok (.iload_n 2, 1) := by decide +kernel
theorem dX1_lookAtVectors_104 : decode cX1_lookAtVectors 104 = .ok (.if_icmp .gt 27, 3) := by decide +kernel
theorem dX1_lookAtVectors_107 : decode cX1_lookAtVectors 107 = .ok (.aload_n 0, 1) := by decide +kernel
theorem dX1_lookAtVectors_108 : decode cX1_lookAtVectors 108 = .ok (.aload_n 0, 1) := by decide +kernel
theorem dX1_lookAtVectors_109 : decode cX1_lookAtVectors 109 = .ok (.iload_n 3, 1) := by decide +kernel
theorem dX1_lookAtVectors_110 : decode cX1_lookAtVectors 110 = .ok (.iload 4, 2) := by decide +kernel
theorem dX1_lookAtVectors_112 : decode cX1_lookAtVectors 112 = .ok (.invokevirtual 58, 3) := by decide +kernel
theorem dX1_lookAtVectors_115 : decode cX1_lookAtVectors 115 = .ok (.aload_n 0, 1) := by decide +kernel
theorem dX1_lookAtVectors_116 : decode cX1_lookAtVectors 116 = .ok (.iload_n 3, 1) := by decide +kernel
theorem dX1_lookAtVectors_117 : decode cX1_lookAtVectors 117 = .ok (.iload 4, 2) := by decide +kernel
theorem dX1_lookAtVectors_119 : decode cX1_lookAtVectors 119 = .ok (.invokevirtual 61, 3) := by decide +kernel
theorem dX1_lookAtVectors_122 : decode cX1_lookAtVectors 122 = .ok (.invokevirtual 64, 3) := by decide +kernel
theorem dX1_lookAtVectors_125 : decode cX1_lookAtVectors 125 = .ok (.iinc 4 1, 3) := by decide +kernel
theorem dX1_lookAtVectors_128 : decode cX1_lookAtVectors 128 = .ok (.goto (-27), 3) := by decide +kernel
theorem dX1_lookAtVectors_131 : decode cX1_lookAtVectors 131 = .ok (.iinc 3 1, 3) := by decide +kernel
theorem dX1_lookAtVectors_134 : decode cX1_lookAtVectors 134 = .ok (.goto (-57), 3) := by decide +kernel
theorem dX1_lookAtVectors_137 : decode cX1_lookAtVectors 137 = .ok (.return_, 1) := by decide +kernel
theorem dX1_lookAt_0 : decode cX1_lookAt 0 = .ok (.iload_n 1, 1) := by decide +kernel
theorem dX1_lookAt_1 : decode cX1_lookAt 1 = .ok (.ifCond .ne 11, 3) := by decide +kernel
theorem dX1_lookAt_4 : decode cX1_lookAt 4 = .ok (.iload_n 2, 1) := by decide +kernel
theorem dX1_lookAt_5 : decode cX1_lookAt 5 = .ok (.ifCond .ne 7, 3) := by decide +kernel
theorem dX1_lookAt_8 : decode cX1_lookAt 8 = .ok (.iconst 1, 1) := by decide +kernel
theorem dX1_lookAt_9 : decode cX1_lookAt 9 = .ok (.goto 4, 3) := by decide +kernel
theorem dX1_lookAt_12 : decode cX1_lookAt 12 = .ok (.iconst 0, 1) := by decide +kernel
theorem dX1_lookAt_13 : decode cX1_lookAt 13 = .ok (.istore_n 3, 1) := by decide +kernel
theorem dX1_lookAt_14 : decode cX1_lookAt 14 = .ok (.iload_n 1, 1) := by decide +kernel
theorem dX1_lookAt_15 : decode cX1_lookAt 15 = .ok (.ifCond .lt 27, 3) := by decide +kernel
theorem dX1_lookAt_18 : decode cX1_lookAt 18 = .ok (.iload_n 1, 1) := by decide +kernel
theorem dX1_lookAt_19 : decode cX1_lookAt 19 = .ok (.aload_n 0, 1) := by decide +kernel
theorem dX1_lookAt_20 : decode cX1_lookAt 20 = .ok (.getfield 41, 3) := by decide +kernel
theorem dX1_lookAt_23 : decode cX1_lookAt 23 = .ok (.if_icmp .gt 19, 3) := by decide +kernel
theorem dX1_lookAt_26 : decode cX1_lookAt 26 = .ok (.iload_n 2, 1) := by decide +kernel
theorem dX1_lookAt_27 : decode cX1_lookAt 27 = .ok (.ifCond .lt 15, 3) := by decide +kernel
theorem dX1_lookAt_30 : decode cX1_lookAt 30 = .ok (.iload_n 2, 1) := by decide +kernel
theorem dX1_lookAt_31 : decode cX1_lookAt 31 = .ok (.aload_n 0, 1) := by decide +kernel
theorem dX1_lookAt_32 : decode cX1_lookAt 32 = .ok (.getfield 41, 3) := by decide +kernel
theorem dX1_lookAt_35 : decode cX1_lookAt 35 = .ok (.if_icmp .gt 7, 3) := by decide +kernel
theorem dX1_lookAt_38 : decode cX1_lookAt 38 = .ok (.iconst 1, 1) := by decide +kernel
theorem dX1_lookAt_39 : decode cX1_lookAt 39 = .ok (.goto 4, 3) := by decide +kernel
theorem dX1_lookAt_42 : decode cX1_lookAt 42 = .ok (.iconst 0, 1) := by decide +kernel
theorem dX1_lookAt_43 : decode cX1_lookAt 43 = .ok (.istore 4, 2) := by decide +kernel
theorem dX1_lookAt_45 : decode cX1_lookAt 45 = .ok (.iload_n 3, 1) := by decide +kernel
theorem dX1_lookAt_46 : decode cX1_lookAt 46 = .ok (.ifCond .ne 31, 3) := by decide +kernel
theorem dX1_lookAt_49 : decode cX1_lookAt 49 = .ok (.iload 4, 2) := by decide +kernel
theorem dX1_lookAt_51 : decode cX1_lookAt 51 = .ok (.ifCond .eq 26, 3) := by decide +kernel
theorem dX1_lookAt_54 : decode cX1_lookAt 54 = .ok (.iload_n 1, 1) := by decide +kernel
theorem dX1_lookAt_55 : decode cX1_lookAt 55 = .ok (.sipush 800, 3) := by decide +kernel
theorem dX1_lookAt_58 : decode cX1_lookAt 58 = .ok (.if_icmp .gt 19, 3) := by decide +kernel
theorem dX1_lookAt_61 : decode cX1_lookAt 61 = .ok (.aload_n 0, 1) := by decide +kernel
theorem dX1_lookAt_62 : decode cX1_lookAt 62 = .ok (.getfield 11, 3) := by decide +kernel
theorem dX1_lookAt_65 : decode cX1_lookAt 65 = .ok (.iload_n 1, 1) := by decide +kernel
theorem dX1_lookAt_66 : decode cX1_lookAt 66 = .ok (.aload_n 0, 1) := by decide +kernel
theorem dX1_lookAt_67 : decode cX1_lookAt 67 = .ok (.getfield 11, 3) := by decide +kernel
theorem dX1_lookAt_70 : decode cX1_lookAt 70 = .ok (.iload_n 1, 1) := by decide +kernel
theorem dX1_lookAt_71 : decode cX1_lookAt 71 = .ok (.iaload, 1) := by decide +kernel
theorem dX1_lookAt_72 : decode cX1_lookAt 72 = .ok (.iload_n 2, 1) := by decide +kernel
theorem dX1_lookAt_73 : decode cX1_lookAt 73 = .ok (.invokestatic 55, 3) := by decide +kernel
theorem dX1_lookAt_76 : decode cX1_lookAt 76 = .ok (.iastore, 1) := by decide +kernel
theorem dX1_lookAt_77 : decode cX1_lookAt 77 = .ok (.return_, 1) := by decide +kernel
theorem dX1_keepByDistances_0 : decode cX1_keepByDistances 0 = .ok (.aload_n 0, 1) := by decide +kernel
theorem dX1_keepByDistances_1 : decode cX1_keepByDistances 1 = .ok (.getfield 41, 3) := by decide +kernel
theorem dX1_keepByDistances_4 : decode cX1_keepByDistances 4 = .ok (.ifCond .eq 47, 3) := by decide +kernel
theorem dX1_keepByDistances_7 : decode cX1_keepByDistances 7 = .ok (.aload_n 0, 1) := by decide +kernel
theorem dX1_keepByDistances_8 : decode cX1_keepByDistances 8 = .ok (.iload_n 2, 1) := by decide +kernel
theorem dX1_keepByDistances_9 : decode cX1_keepByDistances 9 = .ok (.aload_n 0, 1) := by decide +kernel
theorem dX1_keepByDistances_10 : decode cX1_keepByDistances 10 = .ok (.getfield 19, 3) := by decide +kernel
theorem dX1_keepByDistances_13 : decode cX1_keepByDistances 13 = .ok (.imul, 1) := by decide +kernel
theorem dX1_keepByDistances_14 : decode cX1_keepByDistances 14 = .ok (.iload_n 1, 1) := by decide +kernel
theorem dX1_keepByDistances_15 : decode cX1_keepByDistances 15 = .ok (.aload_n 0, 1) := by decide +kernel
theorem dX1_keepByDistances_16 : decode cX1_keepByDistances 16 = .ok (.getfield 26, 3) := by decide +kernel
theorem dX1_keepByDistances_19 : decode cX1_keepByDistances 19 = .ok (.imul, 1) := by decide +kernel
theorem dX1_keepByDistances_20 : decode cX1_keepByDistances 20 = .ok (.iadd, 1) := by decide +kernel
theorem dX1_keepByDistances_21 : decode cX1_keepByDistances 21 = .ok (.aload_n 0, 1) := by decide +kernel
theorem dX1_keepByDistances_22 : decode cX1_keepByDistances 22 = .ok (.getfield 41, 3) := by decide +kernel
theorem dX1_keepByDistances_25 : decode cX1_keepByDistances 25 = .ok (.idiv, 1) := by decide +kernel
theorem dX1_keepByDistances_26 : decode cX1_keepByDistances 26 = .ok (.putfield 67, 3) := by decide +kernel
theorem dX1_keepByDistances_29 : decode cX1_keepByDistances 29 = .ok (.aload_n 0, 1) := by decide +kernel
theorem dX1_keepByDistances_30 : decode cX1_keepByDistances 30 = .ok (.iload_n 2, 1) := by decide +kernel
theorem dX1_keepByDistances_31 : decode cX1_keepByDistances 31 = .ok (.aload_n 0, 1) := by decide +kernel
theorem dX1_keepByDistances_32 : decode cX1_keepByDistances 32 = .ok (.getfield 23, 3) := by decide +kernel
theorem dX1_keepByDistances_35 : decode cX1_keepByDistances 35 = .ok (.imul, 1) := by decide +kernel
theorem dX1_keepByDistances_36 : decode cX1_keepByDistances 36 = .ok (.iload_n 1, 1) := by decide +kernel
theorem dX1_keepByDistances_37 : decode cX1_keepByDistances 37 = .ok (.aload_n 0, 1) := by decide +kernel
theorem dX1_keepByDistances_38 : decode cX1_keepByDistances 38 = .ok (.getfield 29, 3) := by decide +kernel
theorem dX1_keepByDistances_41 : decode cX1_keepByDistances 41 = .ok (.imul, 1) := by decide +kernel
theorem dX1_keepByDistances_42 : decode cX1_keepByDistances 42 = .ok (.iadd, 1) := by decide +kernel
theorem dX1_keepByDistances_43 : decode cX1_keepByDistances 43 = .ok (.aload_n 0, 1) := by decide +kernel
theorem dX1_keepByDistances_44 : decode cX1_keepByDistances 44 = .ok (.getfield 41, 3) := by decide +kernel
theorem dX1_keepByDistances_47 : decode cX1_keepByDistances 47 = .ok (.idiv, 1) := by decide +kernel
theorem dX1_keepByDistances_48 : decode cX1_keepByDistances 48 = .ok (.putfield 70, 3) := by decide +kernel
theorem dX1_keepByDistances_51 : decode cX1_keepByDistances 51 = .ok (.return_, 1) := by decide +kernel
theorem dX1_followGenerators_0 : decode cX1_followGenerators 0 = .ok (.aload_n 0, 1) := by decide +kernel
theorem dX1_followGenerators_1 : decode cX1_followGenerators 1 = .ok (.getfield 19, 3) := by decide +kernel
theorem dX1_followGenerators_4 : decode cX1_followGenerators 4 = .ok (.istore_n 2, 1) := by decide +kernel
theorem dX1_followGenerators_5 : decode cX1_followGenerators 5 = .ok (.aload_n 0, 1) := by decide +kernel
theorem dX1_followGenerators_6 : decode cX1_followGenerators 6 = .ok (.getfield 23, 3) := by decide +kernel
theorem dX1_followGenerators_9 : decode cX1_followGenerators 9 = .ok (.istore_n 3, 1) := by decide +kernel
theorem dX1_followGenerators_10 : decode cX1_followGenerators 10 = .ok (.aload_n 0, 1) := by decide +kernel
theorem dX1_followGenerators_11 : decode cX1_followGenerators 11 = .ok (.invokevirtual 73, 3) := by decide +kernel
theorem dX1_followGenerators_14 : decode cX1_followGenerators 14 = .ok (.istore 4, 2) := by decide +kernel
theorem dX1_followGenerators_16 : decode cX1_followGenerators 16 = .ok (.aload_n 0, 1) := by decide +kernel
theorem dX1_followGenerators_17 : decode cX1_followGenerators 17 = .ok (.iload 4, 2) := by decide +kernel
theorem dX1_followGenerators_19 : decode cX1_followGenerators 19 = .ok (.invokevirtual 77, 3) := by decide +kernel
theorem dX1_followGenerators_22 : decode cX1_followGenerators 22 = .ok (.istore 5, 2) := by decide +kernel
theorem dX1_followGenerators_24 : decode cX1_followGenerators 24 = .ok (.aload_n 0, 1) := by decide +kernel
theorem dX1_followGenerators_25 : decode cX1_followGenerators 25 = .ok (.getfield 41, 3) := by decide +kernel
theorem dX1_followGenerators_28 : decode cX1_followGenerators 28 = .ok (.ifCond .ne 7, 3) := by decide +kernel
theorem dX1_followGenerators_31 : decode cX1_followGenerators 31 = .ok (.iconst 0, 1) := by decide +kernel
theorem dX1_followGenerators_32 : decode cX1_followGenerators 32 = .ok (.goto 18, 3) := by decide +kernel
theorem dX1_followGenerators_35 : decode cX1_followGenerators 35 = .ok (.aload_n 0, 1) := by decide +kernel
theorem dX1_followGenerators_36 : decode cX1_followGenerators 36 = .ok (.iload 4, 2) := by decide +kernel
theorem dX1_followGenerators_38 : decode cX1_followGenerators 38 = .ok (.iload 5, 2) := by decide +kernel
theorem dX1_followGenerators_40 : decode cX1_followGenerators 40 = .ok (.invokevirtual 61, 3) := by decide +kernel
theorem dX1_followGenerators_43 : decode cX1_followGenerators 43 = .ok (.aload_n 0, 1) := by decide +kernel
theorem dX1_followGenerators_44 : decode cX1_followGenerators 44 = .ok (.getfield 41, 3) := by decide +kernel
theorem dX1_followGenerators_47 : decode cX1_followGenerators 47 = .ok (.invokestatic 80, 3) := by decide +kernel
theorem dX1_followGenerators_50 : decode cX1_followGenerators 50 = .ok (.istore 6, 2) := by decide +kernel
theorem dX1_followGenerators_52 : decode cX1_followGenerators 52 = .ok (.iload 4, 2) := by decide +kernel
theorem dX1_followGenerators_54 : decode cX1_followGenerators 54 = .ok (.iload 6, 2) := by decide +kernel
theorem dX1_followGenerators_56 : decode cX1_followGenerators 56 = .ok (.aload_n 0, 1) := by decide +kernel
theorem dX1_followGenerators_57 : decode cX1_followGenerators 57 = .ok (.getfield 19, 3) := by decide +kernel
theorem dX1_followGenerators_60 : decode cX1_followGenerators 60 = .ok (.imul, 1) := by decide +kernel
theorem dX1_followGenerators_61 : decode cX1_followGenerators 61 = .ok (.isub, 1) := by decide +kernel
theorem dX1_followGenerators_62 : decode cX1_followGenerators 62 = .ok (.istore 4, 2) := by decide +kernel
theorem dX1_followGenerators_64 : decode cX1_followGenerators 64 = .ok (.iload 5, 2) := by decide +kernel
theorem dX1_followGenerators_66 : decode cX1_followGenerators 66 = .ok (.iload 6, 2) := by decide +kernel
theorem dX1_followGenerators_68 : decode cX1_followGenerators 68 = .ok (.aload_n 0, 1) := by decide +kernel
theorem dX1_followGenerators_69 : decode cX1_followGenerators 69 = .ok (.getfield 23, 3) := by decide +kernel
theorem dX1_followGenerators_72 : decode cX1_followGenerators 72 = .ok (.imul, 1) := by decide +kernel
theorem dX1_followGenerators_73 : decode cX1_followGenerators 73 = .ok (.isub, 1) := by decide +kernel
theorem dX1_followGenerators_74 : decode cX1_followGenerators 74 = .ok (.istore 5, 2) := by decide +kernel
theorem dX1_followGenerators_76 : decode cX1_followGenerators 76 = .ok (.aload_n 0, 1) := by decide +kernel
theorem dX1_followGenerators_77 : decode cX1_followGenerators 77 = .ok (.aload_n 0, 1) := by decide +kernel
theorem dX1_followGenerators_78 : decode cX1_followGenerators 78 = .ok (.getfield 19, 3) := by decide +kernel
theorem dX1_followGenerators_81 : decode cX1_followGenerators 81 = .ok (.putfield 67, 3) := by decide +kernel
theorem dX1_followGenerators_84 : decode cX1_followGenerators 84 = .ok (.aload_n 0, 1) := by decide +kernel
theorem dX1_followGenerators_85 : decode cX1_followGenerators 85 = .ok (.aload_n 0, 1) := by decide +kernel
theorem dX1_followGenerators_86 : decode cX1_followGenerators 86 = .ok (.getfield 23, 3) := by decide +kernel
theorem dX1_followGenerators_89 : decode cX1_followGenerators 89 = .ok (.putfield 70, 3) := by decide +kernel
theorem dX1_followGenerators_92 : decode cX1_followGenerators 92 = .ok (.iconst 1, 1) := by decide +kernel
theorem dX1_followGenerators_93 : decode cX1_followGenerators 93 = .ok (.istore 7, 2) := by decide +kernel
theorem dX1_followGenerators_95 : decode cX1_followGenerators 95 = .ok (.iload 7, 2) := by decide +kernel
theorem dX1_followGenerators_97 : decode cX1_followGenerators 97 = .ok (.aload_n 0, 1) := by decide +kernel
theorem dX1_followGenerators_98 : decode cX1_followGenerators 98 = .ok (.getfield 41, 3) := by decide +kernel
theorem dX1_followGenerators_101 : decode cX1_followGenerators 101 = .ok (.if_icmp .gt 94, 3) := by decide +kernel
theorem dX1_followGenerators_104 : decode cX1_followGenerators 104 = .ok (.iload 7, 2) := by decide +kernel
theorem dX1_followGenerators_106 : decode cX1_followGenerators 106 = .ok (.iload_n 1, 1) := by decide +kernel
theorem dX1_followGenerators_107 : decode cX1_followGenerators 107 = .ok (.if_icmp .ne 15, 3) := by decide +kernel
theorem dX1_followGenerators_110 : decode cX1_followGenerators 110 = .ok (.aload_n 0, 1) := by decide +kernel
theorem dX1_followGenerators_111 : decode cX1_followGenerators 111 = .ok (.iload 4, 2) := by decide +kernel
theorem dX1_followGenerators_113 : decode cX1_followGenerators 113 = .ok (.putfield 67, 3) := by decide +kernel
theorem dX1_followGenerators_116 : decode cX1_followGenerators 116 = .ok (.aload_n 0, 1) := by decide +kernel
theorem dX1_followGenerators_117 : decode cX1_followGenerators 117 = .ok (.iload 5, 2) := by decide +kernel
theorem dX1_followGenerators_119 : decode cX1_followGenerators 119 = .ok (.putfield 70, 3) := by decide +kernel
theorem dX1_followGenerators_122 : decode cX1_followGenerators 122 = .ok (.aload_n 0, 1) := by decide +kernel
theorem dX1_followGenerators_123 : decode cX1_followGenerators 123 = .ok (.iload 4, 2) := by decide +kernel
theorem dX1_followGenerators_125 : decode cX1_followGenerators 125 = .ok (.iload 5, 2) := by decide +kernel
theorem dX1_followGenerators_127 : decode cX1_followGenerators 127 = .ok (.invokevirtual 61, 3) := by decide +kernel
theorem dX1_followGenerators_130 : decode cX1_followGenerators 130 = .ok (.istore 8, 2) := by decide +kernel
theorem dX1_followGenerators_132 : decode cX1_followGenerators 132 = .ok (.iload 8, 2) := by decide +kernel
theorem dX1_followGenerators_134 : decode cX1_followGenerators 134 = .ok (.ifCond .gt 8, 3) := by decide +kernel
theorem dX1_followGenerators_137 : decode cX1_followGenerators 137 = .ok (.iload 7, 2) := by decide +kernel
theorem dX1_followGenerators_139 : decode cX1_followGenerators 139 = .ok (.iconst 1, 1) := by decide +kernel
theorem dX1_followGenerators_140 : decode cX1_followGenerators 140 = .ok (.iadd, 1) := by decide +kernel
theorem dX1_followGenerators_141 : decode cX1_followGenerators 141 = .ok (.ireturn, 1) := by decide +kernel
theorem dX1_followGenerators_142 : decode cX1_followGenerators 142 = .ok (.aload_n 0, 1) := by decide +kernel
theorem dX1_followGenerators_143 : decode cX1_followGenerators 143 = .ok (.iload_n 2, 1) := by decide +kernel
theorem dX1_followGenerators_144 : decode cX1_followGenerators 144 = .ok (.iload_n 3, 1) := by decide +kernel
theorem dX1_followGenerators_145 : decode cX1_followGenerators 145 = .ok (.invokevirtual 61, 3) := by decide +kernel
theorem dX1_followGenerators_148 : decode cX1_followGenerators 148 = .ok (.ineg, 1) := by decide +kernel
theorem dX1_followGenerators_149 : decode cX1_followGenerators 149 = .ok (.iload 8, 2) := by decide +kernel
theorem dX1_followGenerators_151 : decode cX1_followGenerators 151 = .ok (.invokestatic 80, 3) := by decide +kernel
theorem dX1_followGenerators_154 : decode cX1_followGenerators 154 = .ok (.ineg, 1) := by decide +kernel
theorem dX1_followGenerators_155 : decode cX1_followGenerators 155 = .ok (.istore 9, 2) := by decide +kernel
theorem dX1_followGenerators_157 : decode cX1_followGenerators 157 = .ok (.iload 9, 2) := by decide +kernel
theorem dX1_followGenerators_159 : decode cX1_followGenerators 159 = .ok (.iload 4, 2) := by decide +kernel
theorem dX1_followGenerators_161 : decode cX1_followGenerators 161 = .ok (.imul, 1) := by decide +kernel
theorem dX1_followGenerators_162 : decode cX1_followGenerators 162 = .ok (.iload_n 2, 1) := by decide +kernel
theorem dX1_followGenerators_163 : decode cX1_followGenerators 163 = .ok (.isub, 1) := by decide +kernel
theorem dX1_followGenerators_164 : decode cX1_followGenerators 164 = .ok (.istore 10, 2) := by decide +kernel
theorem dX1_followGenerators_166 : decode cX1_followGenerators 166 = .ok (.iload 9, 2) := by decide +kernel
theorem dX1_followGenerators_168 : decode cX1_followGenerators 168 = .ok (.iload 5, 2) := by decide +kernel
theorem dX1_followGenerators_170 : decode cX1_followGenerators 170 = .ok (.imul, 1) := by decide +kernel
theorem dX1_followGenerators_171 : decode cX1_followGenerators 171 = .ok (.iload_n 3, 1) := by decide +kernel
theorem dX1_followGenerators_172 : decode cX1_followGenerators 172 = .ok (.isub, 1) := by decide +kernel
theorem dX1_followGenerators_173 : decode cX1_followGenerators 173 = .ok (.istore 11, 2) := by decide +kernel
theorem dX1_followGenerators_175 : decode cX1_followGenerators 175 = .ok (.iload 4, 2) := by decide +kernel
theorem dX1_followGenerators_177 : decode cX1_followGenerators 177 = .ok (.istore_n 2, 1) := by decide +kernel
theorem dX1_followGenerators_178 : decode cX1_followGenerators 178 = .ok (.iload 5, 2) := by decide +kernel
theorem dX1_followGenerators_180 : decode cX1_followGenerators 180 = .ok (.istore_n 3, 1) := by decide +kernel
theorem dX1_followGenerators_181 : decode cX1_followGenerators 181 = .ok (.iload 10, 2) := by decide +kernel
theorem dX1_followGenerators_183 : decode cX1_followGenerators 183 = .ok (.istore 4, 2) := by decide +kernel
theorem dX1_followGenerators_185 : decode cX1_followGenerators 185 = .ok (.iload 11, 2) := by decide +kernel
theorem dX1_followGenerators_187 : decode cX1_followGenerators 187 = .ok (.istore 5, 2) := by decide +kernel
theorem dX1_followGenerators_189 : decode cX1_followGenerators 189 = .ok (.iinc 7 1, 3) := by decide +kernel
theorem dX1_followGenerators_192 : decode cX1_followGenerators 192 = .ok (.goto (-97), 3) := by decide +kernel
theorem dX1_followGenerators_195 : decode cX1_followGenerators 195 = .ok (.aload_n 0, 1) := by decide +kernel
theorem dX1_followGenerators_196 : decode cX1_followGenerators 196 = .ok (.getfield 41, 3) := by decide +kernel
theorem dX1_followGenerators_199 : decode cX1_followGenerators 199 = .ok (.iconst 1, 1) := by decide +kernel
theorem dX1_followGenerators_200 : decode cX1_followGenerators 200 = .ok (.iadd, 1) := by decide +kernel
theorem dX1_followGenerators_201 : decode cX1_followGenerators 201 = .ok (.ireturn, 1) := by decide +kernel
theorem dX1_secondX_0 : decode cX1_secondX 0 = .ok (.aload_n 0, 1) := by decide +kernel
theorem dX1_secondX_1 : decode cX1_secondX 1 = .ok (.getfield 19, 3) := by decide +kernel
theorem dX1_secondX_4 : decode cX1_secondX 4 = .ok (.ifCond .ne 14, 3) := by decide +kernel
theorem dX1_secondX_7 : decode cX1_secondX 7 = .ok (.aload_n 0, 1) := by decide +kernel
theorem dX1_secondX_8 : decode cX1_secondX 8 = .ok (.getfield 32, 3) := by decide +kernel
theorem dX1_secondX_11 : decode cX1_secondX 11 = .ok (.ineg, 1) := by decide +kernel
theorem dX1_secondX_12 : decode cX1_secondX 12 = .ok (.aload_n 0, 1) := by decide +kernel
theorem dX1_secondX_13 : decode cX1_secondX 13 = .ok (.getfield 23, 3) := by decide +kernel
theorem dX1_secondX_16 : decode cX1_secondX 16 = .ok (.imul, 1) := by decide +kernel
theorem dX1_secondX_17 : decode cX1_secondX 17 = .ok (.ireturn, 1) := by decide +kernel
theorem dX1_secondX_18 : decode cX1_secondX 18 = .ok (.aload_n 0, 1) := by decide +kernel
theorem dX1_secondX_19 : decode cX1_secondX 19 = .ok (.getfield 19, 3) := by decide +kernel
theorem dX1_secondX_22 : decode cX1_secondX 22 = .ok (.invokestatic 35, 3) := by decide +kernel
theorem dX1_secondX_25 : decode cX1_secondX 25 = .ok (.istore_n 1, 1) := by decide +kernel
theorem dX1_secondX_26 : decode cX1_secondX 26 = .ok (.iconst 0, 1) := by decide +kernel
theorem dX1_secondX_27 : decode cX1_secondX 27 = .ok (.istore_n 2, 1) := by decide +kernel
theorem dX1_secondX_28 : decode cX1_secondX 28 = .ok (.iload_n 2, 1) := by decide +kernel
theorem dX1_secondX_29 : decode cX1_secondX 29 = .ok (.iload_n 1, 1) := by decide +kernel
theorem dX1_secondX_30 : decode cX1_secondX 30 = .ok (.if_icmp .ge 27, 3) := by decide +kernel
theorem dX1_secondX_33 : decode cX1_secondX 33 = .ok (.aload_n 0, 1) := by decide +kernel
theorem dX1_secondX_34 : decode cX1_secondX 34 = .ok (.getfield 32, 3) := by decide +kernel
theorem dX1_secondX_37 : decode cX1_secondX 37 = .ok (.aload_n 0, 1) := by decide +kernel
theorem dX1_secondX_38 : decode cX1_secondX 38 = .ok (.getfield 23, 3) := by decide +kernel
theorem dX1_secondX_41 : decode cX1_secondX 41 = .ok (.iload_n 2, 1) := by decide +kernel
theorem dX1_secondX_42 : decode cX1_secondX 42 = .ok (.imul, 1) := by decide +kernel
theorem dX1_secondX_43 : decode cX1_secondX 43 = .ok (.iadd, 1) := by decide +kernel
theorem dX1_secondX_44 : decode cX1_secondX 44 = .ok (.iload_n 1, 1) := by decide +kernel
theorem dX1_secondX_45 : decode cX1_secondX 45 = .ok (.irem, 1) := by decide +kernel
theorem dX1_secondX_46 : decode cX1_secondX 46 = .ok (.ifCond .ne 5, 3) := by decide +kernel
theorem dX1_secondX_49 : decode cX1_secondX 49 = .ok (.iload_n 2, 1) := by decide +kernel
theorem dX1_secondX_50 : decode cX1_secondX 50 = .ok (.ireturn, 1) := by decide +kernel
theorem dX1_secondX_51 : decode cX1_secondX 51 = .ok (.iinc 2 1, 3) := by decide +kernel
theorem dX1_secondX_54 : decode cX1_secondX 54 = .ok (.goto (-26), 3) := by decide +kernel
theorem dX1_secondX_57 : decode cX1_secondX 57 = .ok (.iconst 0, 1) := by decide +kernel
theorem dX1_secondX_58 : decode cX1_secondX 58 = .ok (.ireturn, 1) := by decide +kernel
theorem dX1_secondY_0 : decode cX1_secondY 0 = .ok (.aload_n 0, 1) := by decide +kernel
theorem dX1_secondY_1 : decode cX1_secondY 1 = .ok (.getfield 19, 3) := by decide +kernel
theorem dX1_secondY_4 : decode cX1_secondY 4 = .ok (.ifCond .ne 7, 3) := by decide +kernel
theorem dX1_secondY_7 : decode cX1_secondY 7 = .ok (.iconst 0, 1) := by decide +kernel
theorem dX1_secondY_8 : decode cX1_secondY 8 = .ok (.goto 19, 3) := by decide +kernel
theorem dX1_secondY_11 : decode cX1_secondY 11 = .ok (.aload_n 0, 1) := by decide +kernel
theorem dX1_secondY_12 : decode cX1_secondY 12 = .ok (.getfield 32, 3) := by decide +kernel
theorem dX1_secondY_15 : decode cX1_secondY 15 = .ok (.aload_n 0, 1) := by decide +kernel
theorem dX1_secondY_16 : decode cX1_secondY 16 = .ok (.getfield 23, 3) := by decide +kernel
theorem dX1_secondY_19 : decode cX1_secondY 19 = .ok (.iload_n 1, 1) := by decide +kernel
theorem dX1_secondY_20 : decode cX1_secondY 20 = .ok (.imul, 1) := by decide +kernel
theorem dX1_secondY_21 : decode cX1_secondY 21 = .ok (.iadd, 1) := by decide +kernel
theorem dX1_secondY_22 : decode cX1_secondY 22 = .ok (.aload_n 0, 1) := by decide +kernel
theorem dX1_secondY_23 : decode cX1_secondY 23 = .ok (.getfield 19, 3) := by decide +kernel
theorem dX1_secondY_26 : decode cX1_secondY 26 = .ok (.idiv, 1) := by decide +kernel
theorem dX1_secondY_27 : decode cX1_secondY 27 = .ok (.ireturn, 1) := by decide +kernel
theorem dX1_fromFirst_0 : decode cX1_fromFirst 0 = .ok (.aload_n 0, 1) := by decide +kernel
theorem dX1_fromFirst_1 : decode cX1_fromFirst 1 = .ok (.getfield 32, 3) := by decide +kernel
theorem dX1_fromFirst_4 : decode cX1_fromFirst 4 = .ok (.aload_n 0, 1) := by decide +kernel
theorem dX1_fromFirst_5 : decode cX1_fromFirst 5 = .ok (.getfield 19, 3) := by decide +kernel
theorem dX1_fromFirst_8 : decode cX1_fromFirst 8 = .ok (.iload_n 2, 1) := by decide +kernel
theorem dX1_fromFirst_9 : decode cX1_fromFirst 9 = .ok (.imul, 1) := by decide +kernel
theorem dX1_fromFirst_10 : decode cX1_fromFirst 10 = .ok (.aload_n 0, 1) := by decide +kernel
theorem dX1_fromFirst_11 : decode cX1_fromFirst 11 = .ok (.getfield 23, 3) := by decide +kernel
theorem dX1_fromFirst_14 : decode cX1_fromFirst 14 = .ok (.iload_n 1, 1) := by decide +kernel
theorem dX1_fromFirst_15 : decode cX1_fromFirst 15 = .ok (.imul, 1) := by decide +kernel
theorem dX1_fromFirst_16 : decode cX1_fromFirst 16 = .ok (.isub, 1) := by decide +kernel
theorem dX1_fromFirst_17 : decode cX1_fromFirst 17 = .ok (.imul, 1) := by decide +kernel
theorem dX1_fromFirst_18 : decode cX1_fromFirst 18 = .ok (.ireturn, 1) := by decide +kernel
theorem dX1_fromLast_0 : decode cX1_fromLast 0 = .ok (.aload_n 0, 1) := by decide +kernel
theorem dX1_fromLast_1 : decode cX1_fromLast 1 = .ok (.getfield 32, 3) := by decide +kernel
theorem dX1_fromLast_4 : decode cX1_fromLast 4 = .ok (.iload_n 1, 1) := by decide +kernel
theorem dX1_fromLast_5 : decode cX1_fromLast 5 = .ok (.aload_n 0, 1) := by decide +kernel
theorem dX1_fromLast_6 : decode cX1_fromLast 6 = .ok (.getfield 29, 3) := by decide +kernel
theorem dX1_fromLast_9 : decode cX1_fromLast 9 = .ok (.imul, 1) := by decide +kernel
theorem dX1_fromLast_10 : decode cX1_fromLast 10 = .ok (.iload_n 2, 1) := by decide +kernel
theorem dX1_fromLast_11 : decode cX1_fromLast 11 = .ok (.aload_n 0, 1) := by decide +kernel
theorem dX1_fromLast_12 : decode cX1_fromLast 12 = .ok (.getfield 26, 3) := by decide +kernel
theorem dX1_fromLast_15 : decode cX1_fromLast 15 = .ok (.imul, 1) := by decide +kernel
theorem dX1_fromLast_16 : decode cX1_fromLast 16 = .ok (.isub, 1) := by decide +kernel
theorem dX1_fromLast_17 : decode cX1_fromLast 17 = .ok (.imul, 1) := by decide +kernel
theorem dX1_fromLast_18 : decode cX1_fromLast 18 = .ok (.ireturn, 1) := by decide +kernel
