theorem dX4_shapeOf_37 : decode cX4_shapeOf 37 = .ok (.areturn, 1) := by decide +kernel
theorem dX4_requireInequality_0 : decode cX4_requireInequality 0 = .ok (.aload_n 0, 1) := by decide +kernel
theorem dX4_requireInequality_1 : decode cX4_requireInequality 1 = .ok (.iload_n 1, 1) := by decide +kernel
theorem dX4_requireInequality_2 : decode cX4_requireInequality 2 = .ok (.invokevirtual 198, 3) := by decide +kernel
theorem dX4_requireInequality_5 : decode cX4_requireInequality 5 = .ok (.ifCond .ne 13, 3) := by decide +kernel
theorem dX4_requireInequality_8 : decode cX4_requireInequality 8 = .ok (.new 177, 3) := by decide +kernel
theorem dX4_requireInequality_11 : decode cX4_requireInequality 11 = .ok (.dup, 1) := by decide +kernel
theorem dX4_requireInequality_12 : decode cX4_requireInequality 12 = .ok (.ldc 199, 2) := by decide +kernel
theorem dX4_requireInequality_14 : decode cX4_requireInequality 14 = .ok (.invokespecial 181, 3) := by decide +kernel
theorem dX4_requireInequality_17 : decode cX4_requireInequality 17 = .ok (.athrow, 1) := by decide +kernel
theorem dX4_requireInequality_18 : decode cX4_requireInequality 18 = .ok (.return_, 1) := by decide +kernel
theorem dX4_requireRange_0 : decode cX4_requireRange 0 = .ok (.iload_n 0, 1) := by decide +kernel
theorem dX4_requireRange_1 : decode cX4_requireRange 1 = .ok (.iload_n 1, 1) := by decide +kernel
theorem dX4_requireRange_2 : decode cX4_requireRange 2 = .ok (.if_icmp .lt 8, 3) := by decide +kernel
theorem dX4_requireRange_5 : decode cX4_requireRange 5 = .ok (.iload_n 0, 1) := by decide +kernel
theorem dX4_requireRange_6 : decode cX4_requireRange 6 = .ok (.iload_n 2, 1) := by decide +kernel
theorem dX4_requireRange_7 : decode cX4_requireRange 7 = .ok (.if_icmp .le 13, 3) := by decide +kernel
theorem dX4_requireRange_10 : decode cX4_requireRange 10 = .ok (.new 56, 3) := by decide +kernel
theorem dX4_requireRange_13 : decode cX4_requireRange 13 = .ok (.dup, 1) := by decide +kernel
theorem dX4_requireRange_14 : decode cX4_requireRange 14 = .ok (.ldc 201, 2) := by decide +kernel
theorem dX4_requireRange_16 : decode cX4_requireRange 16 = .ok (.invokespecial 60, 3) := by decide +kernel
theorem dX4_requireRange_19 : decode cX4_requireRange 19 = .ok (.athrow, 1) := by decide +kernel
theorem dX4_requireRange_20 : decode cX4_requireRange 20 = .ok (.return_, 1) := by decide +kernel
theorem dX4_requirePlace_0 : decode cX4_requirePlace 0 = .ok (.aload_n 0, 1) := by decide +kernel
theorem dX4_requirePlace_1 : decode cX4_requirePlace 1 = .ok (.invokevirtual 96, 3) := by decide +kernel
theorem dX4_requirePlace_4 : decode cX4_requirePlace 4 = .ok (.ifCond .ne 13, 3) := by decide +kernel
theorem dX4_requirePlace_7 : decode cX4_requirePlace 7 = .ok (.new 41, 3) := by decide +kernel
theorem dX4_requirePlace_10 : decode cX4_requirePlace 10 = .ok (.dup, 1) := by decide +kernel
theorem dX4_requirePlace_11 : decode cX4_requirePlace 11 = .ok (.ldc 203, 2) := by decide +kernel
theorem dX4_requirePlace_13 : decode cX4_requirePlace 13 = .ok (.invokespecial 45, 3) := by decide +kernel
theorem dX4_requirePlace_16 : decode cX4_requirePlace 16 = .ok (.athrow, 1) := by decide +kernel
theorem dX4_requirePlace_17 : decode cX4_requirePlace 17 = .ok (.return_, 1) := by decide +kernel
theorem dX4_takeWithLetter_0 : decode cX4_takeWithLetter 0 = .ok (.aload_n 0, 1) := by decide +kernel
theorem dX4_takeWithLetter_1 : decode cX4_takeWithLetter 1 = .ok (.iload_n 1, 1) := by decide +kernel
theorem dX4_takeWithLetter_2 : decode cX4_takeWithLetter 2 = .ok (.invokevirtual 48, 3) := by decide +kernel
theorem dX4_takeWithLetter_5 : decode cX4_takeWithLetter 5 = .ok (.astore_n 3, 1) := by decide +kernel
theorem dX4_takeWithLetter_6 : decode cX4_takeWithLetter 6 = .ok (.iload_n 2, 1) := by decide +kernel
theorem dX4_takeWithLetter_7 : decode cX4_takeWithLetter 7 = .ok (.iconst 0, 1) := by decide +kernel
theorem dX4_takeWithLetter_8 : decode cX4_takeWithLetter 8 = .ok (.bipush 9, 2) := by decide +kernel
theorem dX4_takeWithLetter_10 : decode cX4_takeWithLetter 10 = .ok (.invokestatic 52, 3) := by decide +kernel
theorem dX4_takeWithLetter_13 : decode cX4_takeWithLetter 13 = .ok (.aload_n 3, 1) := by decide +kernel
theorem dX4_takeWithLetter_14 : decode cX4_takeWithLetter 14 = .ok (.invokestatic 110, 3) := by decide +kernel
theorem dX4_takeWithLetter_17 : decode cX4_takeWithLetter 17 = .ok (.aload_n 0, 1) := by decide +kernel
theorem dX4_takeWithLetter_18 : decode cX4_takeWithLetter 18 = .ok (.getfield 19, 3) := by decide +kernel
theorem dX4_takeWithLetter_21 : decode cX4_takeWithLetter 21 = .ok (.aload_n 3, 1) := by decide +kernel
theorem dX4_takeWithLetter_22 : decode cX4_takeWithLetter 22 = .ok (.iconst 1, 1) := by decide +kernel
theorem dX4_takeWithLetter_23 : decode cX4_takeWithLetter 23 = .ok (.iload_n 2, 1) := by decide +kernel
theorem dX4_takeWithLetter_24 : decode cX4_takeWithLetter 24 = .ok (.invokevirtual 114, 3) := by decide +kernel
theorem dX4_takeWithLetter_27 : decode cX4_takeWithLetter 27 = .ok (.return_, 1) := by decide +kernel
theorem dX4_requireNoneOrMore_0 : decode cX4_requireNoneOrMore 0 = .ok (.iload_n 0, 1) := by decide +kernel
theorem dX4_requireNoneOrMore_1 : decode cX4_requireNoneOrMore 1 = .ok (.iconst (-1), 1) := by decide +kernel
theorem dX4_requireNoneOrMore_2 : decode cX4_requireNoneOrMore 2 = .ok (.if_icmp .ge 13, 3) := by decide +kernel
theorem dX4_requireNoneOrMore_5 : decode cX4_requireNoneOrMore 5 = .ok (.new 177, 3) := by decide +kernel
theorem dX4_requireNoneOrMore_8 : decode cX4_requireNoneOrMore 8 = .ok (.dup, 1) := by decide +kernel
theorem dX4_requireNoneOrMore_9 : decode cX4_requireNoneOrMore 9 = .ok (.ldc 205, 2) := by decide +kernel
theorem dX4_requireNoneOrMore_11 : decode cX4_requireNoneOrMore 11 = .ok (.invokespecial 181, 3) := by decide +kernel
theorem dX4_requireNoneOrMore_14 : decode cX4_requireNoneOrMore 14 = .ok (.athrow, 1) := by decide +kernel
theorem dX4_requireNoneOrMore_15 : decode cX4_requireNoneOrMore 15 = .ok (.return_, 1) := by decide +kernel
theorem dX4_requireLastGap_0 : decode cX4_requireLastGap 0 = .ok (.aload_n 0, 1) := by decide +kernel
theorem dX4_requireLastGap_1 : decode cX4_requireLastGap 1 = .ok (.getfield 33, 3) := by decide +kernel
theorem dX4_requireLastGap_4 : decode cX4_requireLastGap 4 = .ok (.invokevirtual 207, 3) := by decide +kernel
theorem dX4_requireLastGap_7 : decode cX4_requireLastGap 7 = .ok (.iconst 1, 1) := by decide +kernel
theorem dX4_requireLastGap_8 : decode cX4_requireLastGap 8 = .ok (.if_icmp .eq 13, 3) := by decide +kernel
theorem dX4_requireLastGap_11 : decode cX4_requireLastGap 11 = .ok (.new 41, 3) := by decide +kernel
theorem dX4_requireLastGap_14 : decode cX4_requireLastGap 14 = .ok (.dup, 1) := by decide +kernel
theorem dX4_requireLastGap_15 : decode cX4_requireLastGap 15 = .ok (.ldc 210, 2) := by decide +kernel
theorem dX4_requireLastGap_17 : decode cX4_requireLastGap 17 = .ok (.invokespecial 45, 3) := by decide +kernel
theorem dX4_requireLastGap_20 : decode cX4_requireLastGap 20 = .ok (.athrow, 1) := by decide +kernel
theorem dX4_requireLastGap_21 : decode cX4_requireLastGap 21 = .ok (.return_, 1) := by decide +kernel
theorem dX4_makeCone_0 : decode cX4_makeCone 0 = .ok (.iload_n 1, 1) := by decide +kernel
theorem dX4_makeCone_1 : decode cX4_makeCone 1 = .ok (.bipush (-20), 2) := by decide +kernel
theorem dX4_makeCone_3 : decode cX4_makeCone 3 = .ok (.bipush 20, 2) := by decide +kernel
theorem dX4_makeCone_5 : decode cX4_makeCone 5 = .ok (.invokestatic 52, 3) := by decide +kernel
theorem dX4_makeCone_8 : decode cX4_makeCone 8 = .ok (.iload_n 2, 1) := by decide +kernel
theorem dX4_makeCone_9 : decode cX4_makeCone 9 = .ok (.bipush (-20), 2) := by decide +kernel
theorem dX4_makeCone_11 : decode cX4_makeCone 11 = .ok (.bipush 20, 2) := by decide +kernel
theorem dX4_makeCone_13 : decode cX4_makeCone 13 = .ok (.invokestatic 52, 3) := by decide +kernel
theorem dX4_makeCone_16 : decode cX4_makeCone 16 = .ok (.iload_n 3, 1) := by decide +kernel
theorem dX4_makeCone_17 : decode cX4_makeCone 17 = .ok (.bipush (-20), 2) := by decide +kernel
theorem dX4_makeCone_19 : decode cX4_makeCone 19 = .ok (.bipush 20, 2) := by decide +kernel
theorem dX4_makeCone_21 : decode cX4_makeCone 21 = .ok (.invokestatic 52, 3) := by decide +kernel
theorem dX4_makeCone_24 : decode cX4_makeCone 24 = .ok (.iload 4, 2) := by decide +kernel
theorem dX4_makeCone_26 : decode cX4_makeCone 26 = .ok (.bipush (-20), 2) := by decide +kernel
theorem dX4_makeCone_28 : decode cX4_makeCone 28 = .ok (.bipush 20, 2) := by decide +kernel
theorem dX4_makeCone_30 : decode cX4_makeCone 30 = .ok (.invokestatic 52, 3) := by decide +kernel
theorem dX4_makeCone_33 : decode cX4_makeCone 33 = .ok (.aload_n 0, 1) := by decide +kernel
theorem dX4_makeCone_34 : decode cX4_makeCone 34 = .ok (.getfield 26, 3) := by decide +kernel
theorem dX4_makeCone_37 : decode cX4_makeCone 37 = .ok (.iload_n 1, 1) := by decide +kernel
theorem dX4_makeCone_38 : decode cX4_makeCone 38 = .ok (.iload_n 2, 1) := by decide +kernel
theorem dX4_makeCone_39 : decode cX4_makeCone 39 = .ok (.iload_n 3, 1) := by decide +kernel
theorem dX4_makeCone_40 : decode cX4_makeCone 40 = .ok (.iload 4, 2) := by decide +kernel
theorem dX4_makeCone_42 : decode cX4_makeCone 42 = .ok (.invokevirtual 212, 3) := by decide +kernel
theorem dX4_makeCone_45 : decode cX4_makeCone 45 = .ok (.ifCond .ne 13, 3) := by decide +kernel
theorem dX4_makeCone_48 : decode cX4_makeCone 48 = .ok (.new 56, 3) := by decide +kernel
theorem dX4_makeCone_51 : decode cX4_makeCone 51 = .ok (.dup, 1) := by decide +kernel
theorem dX4_makeCone_52 : decode cX4_makeCone 52 = .ok (.ldc 216, 2) := by decide +kernel
theorem dX4_makeCone_54 : decode cX4_makeCone 54 = .ok (.invokespecial 60, 3) := by decide +kernel
theorem dX4_makeCone_57 : decode cX4_makeCone 57 = .ok (.athrow, 1) := by decide +kernel
theorem dX4_makeCone_58 : decode cX4_makeCone 58 = .ok (.return_, 1) := by decide +kernel
theorem dX4_generatorPart_0 : decode cX4_generatorPart 0 = .ok (.iload_n 2, 1) := by decide +kernel
theorem dX4_generatorPart_1 : decode cX4_generatorPart 1 = .ok (.iconst (-1), 1) := by decide +kernel
theorem dX4_generatorPart_2 : decode cX4_generatorPart 2 = .ok (.if_icmp .ne 5, 3) := by decide +kernel
theorem dX4_generatorPart_5 : decode cX4_generatorPart 5 = .ok (.iload_n 1, 1) := by decide +kernel
theorem dX4_generatorPart_6 : decode cX4_generatorPart 6 = .ok (.ireturn, 1) := by decide +kernel
theorem dX4_generatorPart_7 : decode cX4_generatorPart 7 = .ok (.iload_n 2, 1) := by decide +kernel
theorem dX4_generatorPart_8 : decode cX4_generatorPart 8 = .ok (.iload_n 1, 1) := by decide +kernel
theorem dX4_generatorPart_9 : decode cX4_generatorPart 9 = .ok (.if_icmp .lt 13, 3) := by decide +kernel
theorem dX4_generatorPart_12 : decode cX4_generatorPart 12 = .ok (.new 177, 3) := by decide +kernel
theorem dX4_generatorPart_15 : decode cX4_generatorPart 15 = .ok (.dup, 1) := by decide +kernel
theorem dX4_generatorPart_16 : decode cX4_generatorPart 16 = .ok (.ldc 218, 2) := by decide +kernel
theorem dX4_generatorPart_18 : decode cX4_generatorPart 18 = .ok (.invokespecial 181, 3) := by decide +kernel
theorem dX4_generatorPart_21 : decode cX4_generatorPart 21 = .ok (.athrow, 1) := by decide +kernel
theorem dX4_generatorPart_22 : decode cX4_generatorPart 22 = .ok (.iload_n 3, 1) := by decide +kernel
theorem dX4_generatorPart_23 : decode cX4_generatorPart 23 = .ok (.ifCond .eq 13, 3) := by decide +kernel
theorem dX4_generatorPart_26 : decode cX4_generatorPart 26 = .ok (.aload_n 0, 1) := by decide +kernel
theorem dX4_generatorPart_27 : decode cX4_generatorPart 27 = .ok (.getfield 26, 3) := by decide +kernel
theorem dX4_generatorPart_30 : decode cX4_generatorPart 30 = .ok (.getfield 220, 3) := by decide +kernel
theorem dX4_generatorPart_33 : decode cX4_generatorPart 33 = .ok (.goto 10, 3) := by decide +kernel
theorem dX4_generatorPart_36 : decode cX4_generatorPart 36 = .ok (.aload_n 0, 1) := by decide +kernel
theorem dX4_generatorPart_37 : decode cX4_generatorPart 37 = .ok (.getfield 26, 3) := by decide +kernel
theorem dX4_generatorPart_40 : decode cX4_generatorPart 40 = .ok (.getfield 223, 3) := by decide +kernel
theorem dX4_generatorPart_43 : decode cX4_generatorPart 43 = .ok (.ireturn, 1) := by decide +kernel
theorem dX4_greatestDivisor_0 : decode cX4_greatestDivisor 0 = .ok (.iload_n 0, 1) := by decide +kernel
theorem dX4_greatestDivisor_1 : decode cX4_greatestDivisor 1 = .ok (.invokestatic 226, 3) := by decide +kernel
theorem dX4_greatestDivisor_4 : decode cX4_greatestDivisor 4 = .ok (.istore_n 2, 1) := by decide +kernel
theorem dX4_greatestDivisor_5 : decode cX4_greatestDivisor 5 = .ok (.iload_n 1, 1) := by decide +kernel
theorem dX4_greatestDivisor_6 : decode cX4_greatestDivisor 6 = .ok (.invokestatic 226, 3) := by decide +kernel
theorem dX4_greatestDivisor_9 : decode cX4_greatestDivisor 9 = .ok (.istore_n 3, 1) := by decide +kernel
theorem dX4_greatestDivisor_10 : decode cX4_greatestDivisor 10 = .ok (.iconst 0, 1) := by decide +kernel
theorem dX4_greatestDivisor_11 : decode cX4_greatestDivisor 11 = .ok (.istore 4, 2) := by decide +kernel
theorem dX4_greatestDivisor_13 : decode cX4_greatestDivisor 13 = .ok (.iload 4, 2) := by decide +kernel
theorem dX4_greatestDivisor_15 : decode cX4_greatestDivisor 15 = .ok (.bipush 64, 2) := by decide +kernel
theorem dX4_greatestDivisor_17 : decode cX4_greatestDivisor 17 = .ok (.if_icmp .ge 23, 3) := by decide +kernel
theorem dX4_greatestDivisor_20 : decode cX4_greatestDivisor 20 = .ok (.iload_n 3, 1) := by decide +kernel
theorem dX4_greatestDivisor_21 : decode cX4_greatestDivisor 21 = .ok (.ifCond .eq 19, 3) := by decide +kernel
theorem dX4_greatestDivisor_24 : decode cX4_greatestDivisor 24 = .ok (.iload_n 2, 1) := by decide +kernel
theorem dX4_greatestDivisor_25 : decode cX4_greatestDivisor 25 = .ok (.iload_n 3, 1) := by decide +kernel
theorem dX4_greatestDivisor_26 : decode cX4_greatestDivisor 26 = .ok (.irem, 1) := by decide +kernel
theorem dX4_greatestDivisor_27 : decode cX4_greatestDivisor 27 = .ok (.istore 5, 2) := by decide +kernel
theorem dX4_greatestDivisor_29 : decode cX4_greatestDivisor 29 = .ok (.iload_n 3, 1) := by decide +kernel
theorem dX4_greatestDivisor_30 : decode cX4_greatestDivisor 30 = .ok (.istore_n 2, 1) := by decide +kernel
theorem dX4_greatestDivisor_31 : decode cX4_greatestDivisor 31 = .ok (.iload 5, 2) := by decide +kernel
theorem dX4_greatestDivisor_33 : decode cX4_greatestDivisor 33 = .ok (.istore_n 3, 1) := by decide +kernel
theorem dX4_greatestDivisor_34 : decode cX4_greatestDivisor 34 = .ok (.iinc 4 1, 3) := by decide +kernel
theorem dX4_greatestDivisor_37 : decode cX4_greatestDivisor 37 = .ok (.goto (-24), 3) := by decide +kernel
theorem dX4_greatestDivisor_40 : decode cX4_greatestDivisor 40 = .ok (.iload_n 2, 1) := by decide +kernel
theorem dX4_greatestDivisor_41 : decode cX4_greatestDivisor 41 = .ok (.ireturn, 1) := by decide +kernel
