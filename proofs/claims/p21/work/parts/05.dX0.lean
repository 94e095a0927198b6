theorem dX0_init_0 : decode cX0_init 0 = .ok (.aload_n 0, 1) := by decide +kernel
theorem dX0_init_1 : decode cX0_init 1 = .ok (.invokespecial 3, 3) := by decide +kernel
theorem dX0_init_4 : decode cX0_init 4 = .ok (.aload_n 0, 1) := by decide +kernel
theorem dX0_init_5 : decode cX0_init 5 = .ok (.sipush 1001, 3) := by decide +kernel
theorem dX0_init_8 : decode cX0_init 8 = .ok (.newarray .long, 2) := by decide +kernel
theorem dX0_init_10 : decode cX0_init 10 = .ok (.putfield 9, 3) := by decide +kernel
theorem dX0_init_13 : decode cX0_init 13 = .ok (.aload_n 0, 1) := by decide +kernel
theorem dX0_init_14 : decode cX0_init 14 = .ok (.bipush 60, 2) := by decide +kernel
theorem dX0_init_16 : decode cX0_init 16 = .ok (.newarray .int, 2) := by decide +kernel
theorem dX0_init_18 : decode cX0_init 18 = .ok (.putfield 15, 3) := by decide +kernel
theorem dX0_init_21 : decode cX0_init 21 = .ok (.return_, 1) := by decide +kernel
theorem dX0_size_0 : decode cX0_size 0 = .ok (.aload_n 0, 1) := by decide +kernel
theorem dX0_size_1 : decode cX0_size 1 = .ok (.getfield 19, 3) := by decide +kernel
theorem dX0_size_4 : decode cX0_size 4 = .ok (.invokestatic 23, 3) := by decide +kernel
theorem dX0_size_7 : decode cX0_size 7 = .ok (.ireturn, 1) := by decide +kernel
theorem dX0_has_0 : decode cX0_has 0 = .ok (.iload_n 1, 1) := by decide +kernel
theorem dX0_has_1 : decode cX0_has 1 = .ok (.iconst 1, 1) := by decide +kernel
theorem dX0_has_2 : decode cX0_has 2 = .ok (.if_icmp .lt 28, 3) := by decide +kernel
theorem dX0_has_5 : decode cX0_has 5 = .ok (.iload_n 1, 1) := by decide +kernel
theorem dX0_has_6 : decode cX0_has 6 = .ok (.bipush 60, 2) := by decide +kernel
theorem dX0_has_8 : decode cX0_has 8 = .ok (.if_icmp .gt 22, 3) := by decide +kernel
theorem dX0_has_11 : decode cX0_has 11 = .ok (.aload_n 0, 1) := by decide +kernel
theorem dX0_has_12 : decode cX0_has 12 = .ok (.getfield 19, 3) := by decide +kernel
theorem dX0_has_15 : decode cX0_has 15 = .ok (.iload_n 1, 1) := by decide +kernel
theorem dX0_has_16 : decode cX0_has 16 = .ok (.iconst 1, 1) := by decide +kernel
theorem dX0_has_17 : decode cX0_has 17 = .ok (.isub, 1) := by decide +kernel
theorem dX0_has_18 : decode cX0_has 18 = .ok (.lshr, 1) := by decide +kernel
theorem dX0_has_19 : decode cX0_has 19 = .ok (.lconst 1, 1) := by decide +kernel
theorem dX0_has_20 : decode cX0_has 20 = .ok (.land, 1) := by decide +kernel
theorem dX0_has_21 : decode cX0_has 21 = .ok (.lconst 1, 1) := by decide +kernel
theorem dX0_has_22 : decode cX0_has 22 = .ok (.lcmp, 1) := by decide +kernel
theorem dX0_has_23 : decode cX0_has 23 = .ok (.ifCond .ne 7, 3) := by decide +kernel
theorem dX0_has_26 : decode cX0_has 26 = .ok (.iconst 1, 1) := by decide +kernel
theorem dX0_has_27 : decode cX0_has 27 = .ok (.goto 4, 3) := by decide +kernel
theorem dX0_has_30 : decode cX0_has 30 = .ok (.iconst 0, 1) := by decide +kernel
theorem dX0_has_31 : decode cX0_has 31 = .ok (.ireturn, 1) := by decide +kernel
theorem dX0_change_0 : decode cX0_change 0 = .ok (.aload_n 0, 1) := by decide +kernel
theorem dX0_change_1 : decode cX0_change 1 = .ok (.dup, 1) := by decide +kernel
theorem dX0_change_2 : decode cX0_change 2 = .ok (.getfield 19, 3) := by decide +kernel
theorem dX0_change_5 : decode cX0_change 5 = .ok (.lconst 1, 1) := by decide +kernel
theorem dX0_change_6 : decode cX0_change 6 = .ok (.iload_n 1, 1) := by decide +kernel
theorem dX0_change_7 : decode cX0_change 7 = .ok (.iconst 1, 1) := by decide +kernel
theorem dX0_change_8 : decode cX0_change 8 = .ok (.isub, 1) := by decide +kernel
theorem dX0_change_9 : decode cX0_change 9 = .ok (.lshl, 1) := by decide +kernel
theorem dX0_change_10 : decode cX0_change 10 = .ok (.lxor, 1) := by decide +kernel
theorem dX0_change_11 : decode cX0_change 11 = .ok (.putfield 19, 3) := by decide +kernel
theorem dX0_change_14 : decode cX0_change 14 = .ok (.return_, 1) := by decide +kernel
theorem dX0_commonDivisor_0 : decode cX0_commonDivisor 0 = .ok (.iconst 0, 1) := by decide +kernel
theorem dX0_commonDivisor_1 : decode cX0_commonDivisor 1 = .ok (.istore_n 1, 1) := by decide +kernel
theorem dX0_commonDivisor_2 : decode cX0_commonDivisor 2 = .ok (.iconst 1, 1) := by decide +kernel
theorem dX0_commonDivisor_3 : decode cX0_commonDivisor 3 = .ok (.istore_n 2, 1) := by decide +kernel
theorem dX0_commonDivisor_4 : decode cX0_commonDivisor 4 = .ok (.iload_n 2, 1) := by decide +kernel
theorem dX0_commonDivisor_5 : decode cX0_commonDivisor 5 = .ok (.bipush 60, 2) := by decide +kernel
theorem dX0_commonDivisor_7 : decode cX0_commonDivisor 7 = .ok (.if_icmp .gt 23, 3) := by decide +kernel
theorem dX0_commonDivisor_10 : decode cX0_commonDivisor 10 = .ok (.aload_n 0, 1) := by decide +kernel
theorem dX0_commonDivisor_11 : decode cX0_commonDivisor 11 = .ok (.iload_n 2, 1) := by decide +kernel
theorem dX0_commonDivisor_12 : decode cX0_commonDivisor 12 = .ok (.invokevirtual 29, 3) := by decide +kernel
theorem dX0_commonDivisor_15 : decode cX0_commonDivisor 15 = .ok (.ifCond .eq 9, 3) := by decide +kernel
theorem dX0_commonDivisor_18 : decode cX0_commonDivisor 18 = .ok (.iload_n 1, 1) := by decide +kernel
theorem dX0_commonDivisor_19 : decode cX0_commonDivisor 19 = .ok (.iload_n 2, 1) := by decide +kernel
theorem dX0_commonDivisor_20 : decode cX0_commonDivisor 20 = .ok (.invokestatic 33, 3) := by decide +kernel
theorem dX0_commonDivisor_23 : decode cX0_commonDivisor 23 = .ok (.istore_n 1, 1) := by decide +kernel
theorem dX0_commonDivisor_24 : decode cX0_commonDivisor 24 = .ok (.iinc 2 1, 3) := by decide +kernel
theorem dX0_commonDivisor_27 : decode cX0_commonDivisor 27 = .ok (.goto (-23), 3) := by decide +kernel
theorem dX0_commonDivisor_30 : decode cX0_commonDivisor 30 = .ok (.iload_n 1, 1) := by decide +kernel
theorem dX0_commonDivisor_31 : decode cX0_commonDivisor 31 = .ok (.ireturn, 1) := by decide +kernel
theorem dX0_waysToPay_0 : decode cX0_waysToPay 0 = .ok (.iload_n 1, 1) := by decide +kernel
theorem dX0_waysToPay_1 : decode cX0_waysToPay 1 = .ok (.ifCond .lt 10, 3) := by decide +kernel
theorem dX0_waysToPay_4 : decode cX0_waysToPay 4 = .ok (.iload_n 1, 1) := by decide +kernel
theorem dX0_waysToPay_5 : decode cX0_waysToPay 5 = .ok (.sipush 1000, 3) := by decide +kernel
theorem dX0_waysToPay_8 : decode cX0_waysToPay 8 = .ok (.if_icmp .le 5, 3) := by decide +kernel
theorem dX0_waysToPay_11 : decode cX0_waysToPay 11 = .ok (.lconst 0, 1) := by decide +kernel
theorem dX0_waysToPay_12 : decode cX0_waysToPay 12 = .ok (.lreturn, 1) := by decide +kernel
theorem dX0_waysToPay_13 : decode cX0_waysToPay 13 = .ok (.iconst 1, 1) := by decide +kernel
theorem dX0_waysToPay_14 : decode cX0_waysToPay 14 = .ok (.istore_n 2, 1) := by decide +kernel
theorem dX0_waysToPay_15 : decode cX0_waysToPay 15 = .ok (.iload_n 2, 1) := by decide +kernel
theorem dX0_waysToPay_16 : decode cX0_waysToPay 16 = .ok (.iload_n 1, 1) := by decide +kernel
theorem dX0_waysToPay_17 : decode cX0_waysToPay 17 = .ok (.if_icmp .gt 16, 3) := by decide +kernel
theorem dX0_waysToPay_20 : decode cX0_waysToPay 20 = .ok (.aload_n 0, 1) := by decide +kernel
theorem dX0_waysToPay_21 : decode cX0_waysToPay 21 = .ok (.getfield 9, 3) := by decide +kernel
theorem dX0_waysToPay_24 : decode cX0_waysToPay 24 = .ok (.iload_n 2, 1) := by decide +kernel
theorem dX0_waysToPay_25 : decode cX0_waysToPay 25 = .ok (.lconst 0, 1) := by decide +kernel
theorem dX0_waysToPay_26 : decode cX0_waysToPay 26 = .ok (.lastore, 1) := by decide +kernel
theorem dX0_waysToPay_27 : decode cX0_waysToPay 27 = .ok (.iinc 2 1, 3) := by decide +kernel
theorem dX0_waysToPay_30 : decode cX0_waysToPay 30 = .ok (.goto (-15), 3) := by decide +kernel
theorem dX0_waysToPay_33 : decode cX0_waysToPay 33 = .ok (.aload_n 0, 1) := by decide +kernel
theorem dX0_waysToPay_34 : decode cX0_waysToPay 34 = .ok (.getfield 9, 3) := by decide +kernel
theorem dX0_waysToPay_37 : decode cX0_waysToPay 37 = .ok (.iconst 0, 1) := by decide +kernel
theorem dX0_waysToPay_38 : decode cX0_waysToPay 38 = .ok (.lconst 1, 1) := by decide +kernel
theorem dX0_waysToPay_39 : decode cX0_waysToPay 39 = .ok (.lastore, 1) := by decide +kernel
theorem dX0_waysToPay_40 : decode cX0_waysToPay 40 = .ok (.iconst 1, 1) := by decide +kernel
theorem dX0_waysToPay_41 : decode cX0_waysToPay 41 = .ok (.istore_n 2, 1) := by decide +kernel
theorem dX0_waysToPay_42 : decode cX0_waysToPay 42 = .ok (.iload_n 2, 1) := by decide +kernel
theorem dX0_waysToPay_43 : decode cX0_waysToPay 43 = .ok (.bipush 60, 2) := by decide +kernel
theorem dX0_waysToPay_45 : decode cX0_waysToPay 45 = .ok (.if_icmp .gt 47, 3) := by decide +kernel
theorem dX0_waysToPay_48 : decode cX0_waysToPay 48 = .ok (.aload_n 0, 1) := by decide +kernel
theorem dX0_waysToPay_49 : decode cX0_waysToPay 49 = .ok (.iload_n 2, 1) := by decide +kernel
theorem dX0_waysToPay_50 : decode cX0_waysToPay 50 = .ok (.invokevirtual 29, 3) := by decide +kernel
theorem dX0_waysToPay_53 : decode cX0_waysToPay 53 = .ok (.ifCond .eq 33, 3) := by decide +kernel
theorem dX0_waysToPay_56 : decode cX0_waysToPay 56 = .ok (.iload_n 2, 1) := by decide +kernel
theorem dX0_waysToPay_57 : decode cX0_waysToPay 57 = .ok (.istore_n 3, 1) := by decide +kernel
theorem dX0_waysToPay_58 : decode cX0_waysToPay 58 = .ok (.iload_n 3, 1) := by decide +kernel
theorem dX0_waysToPay_59 : decode cX0_waysToPay 59 = .ok (.iload_n 1, 1) := by decide +kernel
theorem dX0_waysToPay_60 : decode cX0_waysToPay 60 = .ok (.if_icmp .gt 26, 3) := by decide +kernel
theorem dX0_waysToPay_63 : decode cX0_waysToPay 63 = .ok (.aload_n 0, 1) := by decide +kernel
theorem dX0_waysToPay_64 : decode cX0_waysToPay 64 = .ok (.getfield 9, 3) := by decide +kernel
theorem dX0_waysToPay_67 : decode cX0_waysToPay 67 = .ok (.iload_n 3, 1) := by decide +kernel
theorem dX0_waysToPay_68 : decode cX0_waysToPay 68 = .ok (.dup2, 1) := by decide +kernel
theorem dX0_waysToPay_69 : decode cX0_waysToPay 69 = .ok (.laload, 1) := by decide +kernel
theorem dX0_waysToPay_70 : decode cX0_waysToPay 70 = .ok (.aload_n 0, 1) := by decide +kernel
theorem dX0_waysToPay_71 : decode cX0_waysToPay 71 = .ok (.getfield 9, 3) := by decide +kernel
theorem dX0_waysToPay_74 : decode cX0_waysToPay 74 = .ok (.iload_n 3, 1) := by decide +kernel
theorem dX0_waysToPay_75 : decode cX0_waysToPay 75 = .ok (.iload_n 2, 1) := by decide +kernel
theorem dX0_waysToPay_76 : decode cX0_waysToPay 76 = .ok (.isub, 1) := by decide +kernel
theorem dX0_waysToPay_77 : decode cX0_waysToPay 77 = .ok (.laload, 1) := by decide +kernel
theorem dX0_waysToPay_78 : decode cX0_waysToPay 78 = .ok (.ladd, 1) := by decide +kernel
theorem dX0_waysToPay_79 : decode cX0_waysToPay 79 = .ok (.lastore, 1) := by decide +kernel
theorem dX0_waysToPay_80 : decode cX0_waysToPay 80 = .ok (.iinc 3 1, 3) := by decide +kernel
theorem dX0_waysToPay_83 : decode cX0_waysToPay 83 = .ok (.goto (-25), 3) := by decide +kernel
theorem dX0_waysToPay_86 : decode cX0_waysToPay 86 = .ok (.iinc 2 1, 3) := by decide +kernel
theorem dX0_waysToPay_89 : decode cX0_waysToPay 89 = .ok (.goto (-47), 3) := by decide +kernel
theorem dX0_waysToPay_92 : decode cX0_waysToPay 92 = .ok (.aload_n 0, 1) := by decide +kernel
theorem dX0_waysToPay_93 : decode cX0_waysToPay 93 = .ok (.getfield 9, 3) := by decide +kernel
theorem dX0_waysToPay_96 : decode cX0_waysToPay 96 = .ok (.iload_n 1, 1) := by decide +kernel
theorem dX0_waysToPay_97 : decode cX0_waysToPay 97 = .ok (.laload, 1) := by decide +kernel
theorem dX0_waysToPay_98 : decode cX0_waysToPay 98 = .ok (.lreturn, 1) := by decide +kernel
theorem dX0_lookForGaps_0 : decode cX0_lookForGaps 0 = .ok (.iconst 0, 1) := by decide +kernel
theorem dX0_lookForGaps_1 : decode cX0_lookForGaps 1 = .ok (.istore_n 2, 1) := by decide +kernel
theorem dX0_lookForGaps_2 : decode cX0_lookForGaps 2 = .ok (.lconst 1, 1) := by decide +kernel
theorem dX0_lookForGaps_3 : decode cX0_lookForGaps 3 = .ok (.lstore_n 3, 1) := by decide +kernel
theorem dX0_lookForGaps_4 : decode cX0_lookForGaps 4 = .ok (.iconst 1, 1) := by decide +kernel
theorem dX0_lookForGaps_5 : decode cX0_lookForGaps 5 = .ok (.istore 5, 2) := by decide +kernel
theorem dX0_lookForGaps_7 : decode cX0_lookForGaps 7 = .ok (.iload 5, 2) := by decide +kernel
theorem dX0_lookForGaps_9 : decode cX0_lookForGaps 9 = .ok (.sipush 3600, 3) := by decide +kernel
theorem dX0_lookForGaps_12 : decode cX0_lookForGaps 12 = .ok (.if_icmp .gt 47, 3) := by decide +kernel
theorem dX0_lookForGaps_15 : decode cX0_lookForGaps 15 = .ok (.lconst 1, 1) := by decide +kernel
theorem dX0_lookForGaps_16 : decode cX0_lookForGaps 16 = .ok (.lstore 6, 2) := by decide +kernel
theorem dX0_lookForGaps_18 : decode cX0_lookForGaps 18 = .ok (.lload_n 3, 1) := by decide +kernel
theorem dX0_lookForGaps_19 : decode cX0_lookForGaps 19 = .ok (.aload_n 0, 1) := by decide +kernel
theorem dX0_lookForGaps_20 : decode cX0_lookForGaps 20 = .ok (.getfield 19, 3) := by decide +kernel
theorem dX0_lookForGaps_23 : decode cX0_lookForGaps 23 = .ok (.land, 1) := by decide +kernel
theorem dX0_lookForGaps_24 : decode cX0_lookForGaps 24 = .ok (.lconst 0, 1) := by decide +kernel
theorem dX0_lookForGaps_25 : decode cX0_lookForGaps 25 = .ok (.lcmp, 1) := by decide +kernel
theorem dX0_lookForGaps_26 : decode cX0_lookForGaps 26 = .ok (.ifCond .ne 20, 3) := by decide +kernel
theorem dX0_lookForGaps_29 : decode cX0_lookForGaps 29 = .ok (.lconst 0, 1) := by decide +kernel
theorem dX0_lookForGaps_30 : decode cX0_lookForGaps 30 = .ok (.lstore 6, 2) := by decide +kernel
theorem dX0_lookForGaps_32 : decode cX0_lookForGaps 32 = .ok (.iload_n 2, 1) := by decide +kernel
theorem dX0_lookForGaps_33 : decode cX0_lookForGaps 33 = .ok (.iload_n 1, 1) := by decide +kernel
theorem dX0_lookForGaps_34 : decode cX0_lookForGaps 34 = .ok (.if_icmp .ne 9, 3) := by decide +kernel
theorem dX0_lookForGaps_37 : decode cX0_lookForGaps 37 = .ok (.aload_n 0, 1) := by decide +kernel
theorem dX0_lookForGaps_38 : decode cX0_lookForGaps 38 = .ok (.iload 5, 2) := by decide +kernel
theorem dX0_lookForGaps_40 : decode cX0_lookForGaps 40 = .ok (.putfield 37, 3) := by decide +kernel
theorem dX0_lookForGaps_43 : decode cX0_lookForGaps 43 = .ok (.iinc 2 1, 3) := by decide +kernel
theorem dX0_lookForGaps_46 : decode cX0_lookForGaps 46 = .ok (.lload_n 3, 1) := by decide +kernel
theorem dX0_lookForGaps_47 : decode cX0_lookForGaps 47 = .ok (.iconst 1, 1) := by decide +kernel
theorem dX0_lookForGaps_48 : decode cX0_lookForGaps 48 = .ok (.lshl, 1) := by decide +kernel
theorem dX0_lookForGaps_49 : decode cX0_lookForGaps 49 = .ok (.lload 6, 2) := by decide +kernel
theorem dX0_lookForGaps_51 : decode cX0_lookForGaps 51 = .ok (.lor, 1) := by decide +kernel
theorem dX0_lookForGaps_52 : decode cX0_lookForGaps 52 = .ok (.lstore_n 3, 1) := by decide +kernel
theorem dX0_lookForGaps_53 : decode cX0_lookForGaps 53 = .ok (.iinc 5 1, 3) := by decide +kernel
theorem dX0_lookForGaps_56 : decode cX0_lookForGaps 56 = .ok (.goto (-49), 3) := by decide +kernel
theorem dX0_lookForGaps_59 : decode cX0_lookForGaps 59 = .ok (.iload_n 2, 1) := by decide +kernel
theorem dX0_lookForGaps_60 : decode cX0_lookForGaps 60 = .ok (.ireturn, 1) := by decide +kernel
theorem dX0_lastGap_0 : decode cX0_lastGap 0 = .ok (.aload_n 0, 1) := by decide +kernel
theorem dX0_lastGap_1 : decode cX0_lastGap 1 = .ok (.invokevirtual 41, 3) := by decide +kernel
theorem dX0_lastGap_4 : decode cX0_lastGap 4 = .ok (.istore_n 1, 1) := by decide +kernel
theorem dX0_lastGap_5 : decode cX0_lastGap 5 = .ok (.aload_n 0, 1) := by decide +kernel
theorem dX0_lastGap_6 : decode cX0_lastGap 6 = .ok (.iload_n 1, 1) := by decide +kernel
theorem dX0_lastGap_7 : decode cX0_lastGap 7 = .ok (.invokevirtual 45, 3) := by decide +kernel
theorem dX0_lastGap_10 : decode cX0_lastGap 10 = .ok (.iconst 0, 1) := by decide +kernel
theorem dX0_lastGap_11 : decode cX0_lastGap 11 = .ok (.istore_n 2, 1) := by decide +kernel
theorem dX0_lastGap_12 : decode cX0_lastGap 12 = .ok (.iconst 0, 1) := by decide +kernel
theorem dX0_lastGap_13 : decode cX0_lastGap 13 = .ok (.istore_n 3, 1) := by decide +kernel
theorem dX0_lastGap_14 : decode cX0_lastGap 14 = .ok (.iload_n 3, 1) := by decide +kernel
theorem dX0_lastGap_15 : decode cX0_lastGap 15 = .ok (.iload_n 1, 1) := by decide +kernel
theorem dX0_lastGap_16 : decode cX0_lastGap 16 = .ok (.if_icmp .ge 20, 3) := by decide +kernel
theorem dX0_lastGap_19 : decode cX0_lastGap 19 = .ok (.iload_n 2, 1) := by decide +kernel
theorem dX0_lastGap_20 : decode cX0_lastGap 20 = .ok (.aload_n 0, 1) := by decide +kernel
theorem dX0_lastGap_21 : decode cX0_lastGap 21 = .ok (.getfield 15, 3) := by decide +kernel
theorem dX0_lastGap_24 : decode cX0_lastGap 24 = .ok (.iload_n 3, 1) := by decide +kernel
theorem dX0_lastGap_25 : decode cX0_lastGap 25 = .ok (.iaload, 1) := by decide +kernel
theorem dX0_lastGap_26 : decode cX0_lastGap 26 = .ok (.invokestatic 49, 3) := by decide +kernel
theorem dX0_lastGap_29 : decode cX0_lastGap 29 = .ok (.istore_n 2, 1) := by decide +kernel
theorem dX0_lastGap_30 : decode cX0_lastGap 30 = .ok (.iinc 3 1, 3) := by decide +kernel
theorem dX0_lastGap_33 : decode cX0_lastGap 33 = .ok (.goto (-19), 3) := by decide +kernel
theorem dX0_lastGap_36 : decode cX0_lastGap 36 = .ok (.iload_n 2, 1) := by decide +kernel
theorem dX0_lastGap_37 : decode cX0_lastGap 37 = .ok (.iload_n 1, 1) := by decide +kernel
theorem dX0_lastGap_38 : decode cX0_lastGap 38 = .ok (.isub, 1) := by decide +kernel
theorem dX0_lastGap_39 : decode cX0_lastGap 39 = .ok (.ireturn, 1) := by decide +kernel
theorem dX0_leastCoin_0 : decode cX0_leastCoin 0 = .ok (.iconst 1, 1) := by decide +kernel
theorem dX0_leastCoin_1 : decode cX0_leastCoin 1 = .ok (.istore_n 1, 1) := by decide +kernel
theorem dX0_leastCoin_2 : decode cX0_leastCoin 2 = .ok (.iload_n 1, 1) := by decide +kernel
theorem dX0_leastCoin_3 : decode cX0_leastCoin 3 = .ok (.bipush 60, 2) := by decide +kernel
theorem dX0_leastCoin_5 : decode cX0_leastCoin 5 = .ok (.if_icmp .gt 19, 3) := by decide +kernel
theorem dX0_leastCoin_8 : decode cX0_leastCoin 8 = .ok (.aload_n 0, 1) := by decide +kernel
theorem dX0_leastCoin_9 : decode cX0_leastCoin 9 = .ok (.iload_n 1, 1) := by decide +kernel
theorem dX0_leastCoin_10 : decode cX0_leastCoin 10 = .ok (.invokevirtual 29, 3) := by decide +kernel
theorem dX0_leastCoin_13 : decode cX0_leastCoin 13 = .ok (.ifCond .eq 5, 3) := by decide +kernel
theorem dX0_leastCoin_16 : decode cX0_leastCoin 16 = .ok (.iload_n 1, 1) := by decide +kernel
theorem dX0_leastCoin_17 : decode cX0_leastCoin 17 = .ok (.ireturn, 1) := by decide +kernel
theorem dX0_leastCoin_18 : decode cX0_leastCoin 18 = .ok (.iinc 1 1, 3) := by decide +kernel
theorem dX0_leastCoin_21 : decode cX0_leastCoin 21 = .ok (.goto (-19), 3) := by decide +kernel
theorem dX0_leastCoin_24 : decode cX0_leastCoin 24 = .ok (.iconst 1, 1) := by decide +kernel
theorem dX0_leastCoin_25 : decode cX0_leastCoin 25 = .ok (.ireturn, 1) := by decide +kernel
theorem dX0_findLeastSums_0 : decode cX0_findLeastSums 0 = .ok (.aload_n 0, 1) := by decide +kernel
theorem dX0_findLeastSums_1 : decode cX0_findLeastSums 1 = .ok (.getfield 15, 3) := by decide +kernel
theorem dX0_findLeastSums_4 : decode cX0_findLeastSums 4 = .ok (.iconst 0, 1) := by decide +kernel
theorem dX0_findLeastSums_5 : decode cX0_findLeastSums 5 = .ok (.iconst 0, 1) := by decide +kernel
theorem dX0_findLeastSums_6 : decode cX0_findLeastSums 6 = .ok (.iastore, 1) := by decide +kernel
theorem dX0_findLeastSums_7 : decode cX0_findLeastSums 7 = .ok (.iconst 1, 1) := by decide +kernel
theorem dX0_findLeastSums_8 : decode cX0_findLeastSums 8 = .ok (.istore_n 2, 1) := by decide +kernel
theorem dX0_findLeastSums_9 : decode cX0_findLeastSums 9 = .ok (.iload_n 2, 1) := by decide +kernel
theorem dX0_findLeastSums_10 : decode cX0_findLeastSums 10 = .ok (.iload_n 1, 1) := by decide +kernel
theorem dX0_findLeastSums_11 : decode cX0_findLeastSums 11 = .ok (.if_icmp .ge 17, 3) := by decide +kernel
theorem dX0_findLeastSums_14 : decode cX0_findLeastSums 14 = .ok (.aload_n 0, 1) := by decide +kernel
theorem dX0_findLeastSums_15 : decode cX0_findLeastSums 15 = .ok (.getfield 15, 3) := by decide +kernel
theorem dX0_findLeastSums_18 : decode cX0_findLeastSums 18 = .ok (.iload_n 2, 1) := by decide +kernel
theorem dX0_findLeastSums_19 : decode cX0_findLeastSums 19 = .ok (.ldc 54, 2) := by decide +kernel
theorem dX0_findLeastSums_21 : decode cX0_findLeastSums 21 = .ok (.iastore, 1) := by decide +kernel
theorem dX0_findLeastSums_22 : decode cX0_findLeastSums 22 = .ok (.iinc 2 1, 3) := by decide +kernel
theorem dX0_findLeastSums_25 : decode cX0_findLeastSums 25 = .ok (.goto (-16), 3) := by decide +kernel
theorem dX0_findLeastSums_28 : decode cX0_findLeastSums 28 = .ok (.iconst 1, 1) := by decide +kernel
theorem dX0_findLeastSums_29 : decode cX0_findLeastSums 29 = .ok (.istore_n 2, 1) := by decide +kernel
theorem dX0_findLeastSums_30 : decode cX0_findLeastSums 30 = .ok (.iconst 0, 1) := by decide +kernel
theorem dX0_findLeastSums_31 : decode cX0_findLeastSums 31 = .ok (.istore_n 3, 1) := by decide +kernel
theorem dX0_findLeastSums_32 : decode cX0_findLeastSums 32 = .ok (.iload_n 3, 1) := by decide +kernel
theorem dX0_findLeastSums_33 : decode cX0_findLeastSums 33 = .ok (.iload_n 1, 1) := by decide +kernel
theorem dX0_findLeastSums_34 : decode cX0_findLeastSums 34 = .ok (.if_icmp .ge 54, 3) := by decide +kernel
theorem dX0_findLeastSums_37 : decode cX0_findLeastSums 37 = .ok (.iload_n 2, 1) := by decide +kernel
theorem dX0_findLeastSums_38 : decode cX0_findLeastSums 38 = .ok (.ifCond .eq 50, 3) := by decide +kernel
theorem dX0_findLeastSums_41 : decode cX0_findLeastSums 41 = .ok (.iconst 0, 1) := by decide +kernel
theorem dX0_findLeastSums_42 : decode cX0_findLeastSums 42 = .ok (.istore_n 2, 1) := by decide +kernel
theorem dX0_findLeastSums_43 : decode cX0_findLeastSums 43 = .ok (.iload_n 1, 1) := by decide +kernel
theorem dX0_findLeastSums_44 : decode cX0_findLeastSums 44 = .ok (.iconst 1, 1) := by decide +kernel
theorem dX0_findLeastSums_45 : decode cX0_findLeastSums 45 = .ok (.iadd, 1) := by decide +kernel
theorem dX0_findLeastSums_46 : decode cX0_findLeastSums 46 = .ok (.istore 4, 2) := by decide +kernel
theorem dX0_findLeastSums_48 : decode cX0_findLeastSums 48 = .ok (.iload 4, 2) := by decide +kernel
theorem dX0_findLeastSums_50 : decode cX0_findLeastSums 50 = .ok (.bipush 60, 2) := by decide +kernel
theorem dX0_findLeastSums_52 : decode cX0_findLeastSums 52 = .ok (.if_icmp .gt 30, 3) := by decide +kernel
theorem dX0_findLeastSums_55 : decode cX0_findLeastSums 55 = .ok (.aload_n 0, 1) := by decide +kernel
theorem dX0_findLeastSums_56 : decode cX0_findLeastSums 56 = .ok (.iload 4, 2) := by decide +kernel
theorem dX0_findLeastSums_58 : decode cX0_findLeastSums 58 = .ok (.invokevirtual 29, 3) := by decide +kernel
theorem dX0_findLeastSums_61 : decode cX0_findLeastSums 61 = .ok (.ifCond .eq 15, 3) := by decide +kernel
theorem dX0_findLeastSums_64 : decode cX0_findLeastSums 64 = .ok (.aload_n 0, 1) := by decide +kernel
theorem dX0_findLeastSums_65 : decode cX0_findLeastSums 65 = .ok (.iload 4, 2) := by decide +kernel
theorem dX0_findLeastSums_67 : decode cX0_findLeastSums 67 = .ok (.iload_n 1, 1) := by decide +kernel
theorem dX0_findLeastSums_68 : decode cX0_findLeastSums 68 = .ok (.invokevirtual 55, 3) := by decide +kernel
theorem dX0_findLeastSums_71 : decode cX0_findLeastSums 71 = .ok (.ifCond .eq 5, 3) := by decide +kernel
theorem dX0_findLeastSums_74 : decode cX0_findLeastSums 74 = .ok (.iconst 1, 1) := by decide +kernel
theorem dX0_findLeastSums_75 : decode cX0_findLeastSums 75 = .ok (.istore_n 2, 1) := by decide +kernel
theorem dX0_findLeastSums_76 : decode cX0_findLeastSums 76 = .ok (.iinc 4 1, 3) := by decide +kernel
theorem dX0_findLeastSums_79 : decode cX0_findLeastSums 79 = .ok (.goto (-31), 3) := by decide +kernel
theorem dX0_findLeastSums_82 : decode cX0_findLeastSums 82 = .ok (.iinc 3 1, 3) := by decide +kernel
theorem dX0_findLeastSums_85 : decode cX0_findLeastSums 85 = .ok (.goto (-53), 3) := by decide +kernel
theorem dX0_findLeastSums_88 : decode cX0_findLeastSums 88 = .ok (.return_, 1) := by decide +kernel
theorem dX0_payOneMore_0 : decode cX0_payOneMore 0 = .ok (.iconst 0, 1) := by decide +kernel
theorem dX0_payOneMore_1 : decode cX0_payOneMore 1 = .ok (.istore_n 3, 1) := by decide +kernel
theorem dX0_payOneMore_2 : decode cX0_payOneMore 2 = .ok (.iconst 0, 1) := by decide +kernel
theorem dX0_payOneMore_3 : decode cX0_payOneMore 3 = .ok (.istore 4, 2) := by decide +kernel
theorem dX0_payOneMore_5 : decode cX0_payOneMore 5 = .ok (.iload 4, 2) := by decide +kernel
theorem dX0_payOneMore_7 : decode cX0_payOneMore 7 = .ok (.iload_n 2, 1) := by decide +kernel
theorem dX0_payOneMore_8 : decode cX0_payOneMore 8 = .ok (.if_icmp .ge 53, 3) := by decide +kernel
theorem dX0_payOneMore_11 : decode cX0_payOneMore 11 = .ok (.aload_n 0, 1) := by decide +kernel
theorem dX0_payOneMore_12 : decode cX0_payOneMore 12 = .ok (.getfield 15, 3) := by decide +kernel
theorem dX0_payOneMore_15 : decode cX0_payOneMore 15 = .ok (.iload 4, 2) := by decide +kernel
theorem dX0_payOneMore_17 : decode cX0_payOneMore 17 = .ok (.iaload, 1) := by decide +kernel
theorem dX0_payOneMore_18 : decode cX0_payOneMore 18 = .ok (.iload_n 1, 1) := by decide +kernel
theorem dX0_payOneMore_19 : decode cX0_payOneMore 19 = .ok (.iadd, 1) := by decide +kernel
theorem dX0_payOneMore_20 : decode cX0_payOneMore 20 = .ok (.istore 5, 2) := by decide +kernel
theorem dX0_payOneMore_22 : decode cX0_payOneMore 22 = .ok (.iload 4, 2) := by decide +kernel
theorem dX0_payOneMore_24 : decode cX0_payOneMore 24 = .ok (.iload_n 1, 1) := by decide +kernel
theorem dX0_payOneMore_25 : decode cX0_payOneMore 25 = .ok (.iadd, 1) := by decide +kernel
theorem dX0_payOneMore_26 : decode cX0_payOneMore 26 = .ok (.iload_n 2, 1) := by decide +kernel
theorem dX0_payOneMore_27 : decode cX0_payOneMore 27 = .ok (.invokestatic 59, 3) := by decide +kernel
theorem dX0_payOneMore_30 : decode cX0_payOneMore 30 = .ok (.istore 6, 2) := by decide +kernel
theorem dX0_payOneMore_32 : decode cX0_payOneMore 32 = .ok (.iload 5, 2) := by decide +kernel
theorem dX0_payOneMore_34 : decode cX0_payOneMore 34 = .ok (.aload_n 0, 1) := by decide +kernel
theorem dX0_payOneMore_35 : decode cX0_payOneMore 35 = .ok (.getfield 15, 3) := by decide +kernel
theorem dX0_payOneMore_38 : decode cX0_payOneMore 38 = .ok (.iload 6, 2) := by decide +kernel
theorem dX0_payOneMore_40 : decode cX0_payOneMore 40 = .ok (.iaload, 1) := by decide +kernel
theorem dX0_payOneMore_41 : decode cX0_payOneMore 41 = .ok (.if_icmp .ge 14, 3) := by decide +kernel
theorem dX0_payOneMore_44 : decode cX0_payOneMore 44 = .ok (.aload_n 0, 1) := by decide +kernel
theorem dX0_payOneMore_45 : decode cX0_payOneMore 45 = .ok (.getfield 15, 3) := by decide +kernel
theorem dX0_payOneMore_48 : decode cX0_payOneMore 48 = .ok (.iload 6, 2) := by decide +kernel
theorem dX0_payOneMore_50 : decode cX0_payOneMore 50 = .ok (.iload 5, 2) := by decide +kernel
theorem dX0_payOneMore_52 : decode cX0_payOneMore 52 = .ok (.iastore, 1) := by decide +kernel
theorem dX0_payOneMore_53 : decode cX0_payOneMore 53 = .ok (.iconst 1, 1) := by decide +kernel
theorem dX0_payOneMore_54 : decode cX0_payOneMore 54 = .ok (.istore_n 3, 1) := by decide +kernel
theorem dX0_payOneMore_55 : decode cX0_payOneMore 55 = .ok (.iinc 4 1, 3) := by decide +kernel
theorem dX0_payOneMore_58 : decode cX0_payOneMore 58 = .ok (.goto (-53), 3) := by decide +kernel
theorem dX0_payOneMore_61 : decode cX0_payOneMore 61 = .ok (.iload_n 3, 1) := by decide +kernel
theorem dX0_payOneMore_62 : decode cX0_payOneMore 62 = .ok (.ireturn, 1) := by decide +kernel
