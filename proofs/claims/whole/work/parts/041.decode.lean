theorem dX8_tally_0 : decode cX8_tally 0 = .ok (.aload_n 0, 1) := by decide +kernel
theorem dX8_tally_1 : decode cX8_tally 1 = .ok (.iconst 0, 1) := by decide +kernel
theorem dX8_tally_2 : decode cX8_tally 2 = .ok (.putfield 42, 3) := by decide +kernel
theorem dX8_tally_5 : decode cX8_tally 5 = .ok (.aload_n 0, 1) := by decide +kernel
theorem dX8_tally_6 : decode cX8_tally 6 = .ok (.iconst 0, 1) := by decide +kernel
theorem dX8_tally_7 : decode cX8_tally 7 = .ok (.putfield 45, 3) := by decide +kernel
theorem dX8_tally_10 : decode cX8_tally 10 = .ok (.aload_n 0, 1) := by decide +kernel
theorem dX8_tally_11 : decode cX8_tally 11 = .ok (.iconst 0, 1) := by decide +kernel
theorem dX8_tally_12 : decode cX8_tally 12 = .ok (.putfield 48, 3) := by decide +kernel
theorem dX8_tally_15 : decode cX8_tally 15 = .ok (.aload_n 0, 1) := by decide +kernel
theorem dX8_tally_16 : decode cX8_tally 16 = .ok (.iconst 0, 1) := by decide +kernel
theorem dX8_tally_17 : decode cX8_tally 17 = .ok (.putfield 51, 3) := by decide +kernel
theorem dX8_tally_20 : decode cX8_tally 20 = .ok (.iconst 0, 1) := by decide +kernel
theorem dX8_tally_21 : decode cX8_tally 21 = .ok (.istore_n 1, 1) := by decide +kernel
theorem dX8_tally_22 : decode cX8_tally 22 = .ok (.iload_n 1, 1) := by decide +kernel
theorem dX8_tally_23 : decode cX8_tally 23 = .ok (.sipush 1681, 3) := by decide +kernel
theorem dX8_tally_26 : decode cX8_tally 26 = .ok (.if_icmp .ge 81, 3) := by decide +kernel
theorem dX8_tally_29 : decode cX8_tally 29 = .ok (.aload_n 0, 1) := by decide +kernel
theorem dX8_tally_30 : decode cX8_tally 30 = .ok (.aload_n 0, 1) := by decide +kernel
theorem dX8_tally_31 : decode cX8_tally 31 = .ok (.getfield 42, 3) := by decide +kernel
theorem dX8_tally_34 : decode cX8_tally 34 = .ok (.aload_n 0, 1) := by decide +kernel
theorem dX8_tally_35 : decode cX8_tally 35 = .ok (.getfield 33, 3) := by decide +kernel
theorem dX8_tally_38 : decode cX8_tally 38 = .ok (.iload_n 1, 1) := by decide +kernel
theorem dX8_tally_39 : decode cX8_tally 39 = .ok (.iaload, 1) := by decide +kernel
theorem dX8_tally_40 : decode cX8_tally 40 = .ok (.invokestatic 85, 3) := by decide +kernel
theorem dX8_tally_43 : decode cX8_tally 43 = .ok (.putfield 42, 3) := by decide +kernel
theorem dX8_tally_46 : decode cX8_tally 46 = .ok (.aload_n 0, 1) := by decide +kernel
theorem dX8_tally_47 : decode cX8_tally 47 = .ok (.aload_n 0, 1) := by decide +kernel
theorem dX8_tally_48 : decode cX8_tally 48 = .ok (.getfield 45, 3) := by decide +kernel
theorem dX8_tally_51 : decode cX8_tally 51 = .ok (.aload_n 0, 1) := by decide +kernel
theorem dX8_tally_52 : decode cX8_tally 52 = .ok (.getfield 36, 3) := by decide +kernel
theorem dX8_tally_55 : decode cX8_tally 55 = .ok (.iload_n 1, 1) := by decide +kernel
theorem dX8_tally_56 : decode cX8_tally 56 = .ok (.iaload, 1) := by decide +kernel
theorem dX8_tally_57 : decode cX8_tally 57 = .ok (.invokestatic 85, 3) := by decide +kernel
theorem dX8_tally_60 : decode cX8_tally 60 = .ok (.putfield 45, 3) := by decide +kernel
theorem dX8_tally_63 : decode cX8_tally 63 = .ok (.aload_n 0, 1) := by decide +kernel
theorem dX8_tally_64 : decode cX8_tally 64 = .ok (.dup, 1) := by decide +kernel
theorem dX8_tally_65 : decode cX8_tally 65 = .ok (.getfield 48, 3) := by decide +kernel
theorem dX8_tally_68 : decode cX8_tally 68 = .ok (.aload_n 0, 1) := by decide +kernel
theorem dX8_tally_69 : decode cX8_tally 69 = .ok (.getfield 33, 3) := by decide +kernel
theorem dX8_tally_72 : decode cX8_tally 72 = .ok (.iload_n 1, 1) := by decide +kernel
theorem dX8_tally_73 : decode cX8_tally 73 = .ok (.iaload, 1) := by decide +kernel
theorem dX8_tally_74 : decode cX8_tally 74 = .ok (.ifCond .ne 7, 3) := by decide +kernel
theorem dX8_tally_77 : decode cX8_tally 77 = .ok (.iconst 1, 1) := by decide +kernel
theorem dX8_tally_78 : decode cX8_tally 78 = .ok (.goto 4, 3) := by decide +kernel
theorem dX8_tally_81 : decode cX8_tally 81 = .ok (.iconst 0, 1) := by decide +kernel
theorem dX8_tally_82 : decode cX8_tally 82 = .ok (.iadd, 1) := by decide +kernel
theorem dX8_tally_83 : decode cX8_tally 83 = .ok (.putfield 48, 3) := by decide +kernel
theorem dX8_tally_86 : decode cX8_tally 86 = .ok (.aload_n 0, 1) := by decide +kernel
theorem dX8_tally_87 : decode cX8_tally 87 = .ok (.dup, 1) := by decide +kernel
theorem dX8_tally_88 : decode cX8_tally 88 = .ok (.getfield 51, 3) := by decide +kernel
theorem dX8_tally_91 : decode cX8_tally 91 = .ok (.aload_n 0, 1) := by decide +kernel
theorem dX8_tally_92 : decode cX8_tally 92 = .ok (.getfield 33, 3) := by decide +kernel
theorem dX8_tally_95 : decode cX8_tally 95 = .ok (.iload_n 1, 1) := by decide +kernel
theorem dX8_tally_96 : decode cX8_tally 96 = .ok (.iaload, 1) := by decide +kernel
theorem dX8_tally_97 : decode cX8_tally 97 = .ok (.iadd, 1) := by decide +kernel
theorem dX8_tally_98 : decode cX8_tally 98 = .ok (.putfield 51, 3) := by decide +kernel
theorem dX8_tally_101 : decode cX8_tally 101 = .ok (.iinc 1 1, 3) := by decide +kernel
theorem dX8_tally_104 : decode cX8_tally 104 = .ok (.goto (-82), 3) := by decide +kernel
theorem dX8_tally_107 : decode cX8_tally 107 = .ok (.return_, 1) := by decide +kernel
theorem dX8_valueAt_0 : decode cX8_valueAt 0 = .ok (.iload_n 1, 1) := by decide +kernel
theorem dX8_valueAt_1 : decode cX8_valueAt 1 = .ok (.ifCond .lt 33, 3) := by decide +kernel
theorem dX8_valueAt_4 : decode cX8_valueAt 4 = .ok (.iload_n 1, 1) := by decide +kernel
theorem dX8_valueAt_5 : decode cX8_valueAt 5 = .ok (.bipush 41, 2) := by decide +kernel
theorem dX8_valueAt_7 : decode cX8_valueAt 7 = .ok (.if_icmp .ge 27, 3) := by decide +kernel
theorem dX8_valueAt_10 : decode cX8_valueAt 10 = .ok (.iload_n 2, 1) := by decide +kernel
theorem dX8_valueAt_11 : decode cX8_valueAt 11 = .ok (.ifCond .lt 23, 3) := by decide +kernel
theorem dX8_valueAt_14 : decode cX8_valueAt 14 = .ok (.iload_n 2, 1) := by decide +kernel
theorem dX8_valueAt_15 : decode cX8_valueAt 15 = .ok (.bipush 41, 2) := by decide +kernel
theorem dX8_valueAt_17 : decode cX8_valueAt 17 = .ok (.if_icmp .ge 17, 3) := by decide +kernel
theorem dX8_valueAt_20 : decode cX8_valueAt 20 = .ok (.aload_n 0, 1) := by decide +kernel
theorem dX8_valueAt_21 : decode cX8_valueAt 21 = .ok (.getfield 33, 3) := by decide +kernel
theorem dX8_valueAt_24 : decode cX8_valueAt 24 = .ok (.iload_n 1, 1) := by decide +kernel
theorem dX8_valueAt_25 : decode cX8_valueAt 25 = .ok (.bipush 41, 2) := by decide +kernel
theorem dX8_valueAt_27 : decode cX8_valueAt 27 = .ok (.imul, 1) := by decide +kernel
theorem dX8_valueAt_28 : decode cX8_valueAt 28 = .ok (.iload_n 2, 1) := by decide +kernel
theorem dX8_valueAt_29 : decode cX8_valueAt 29 = .ok (.iadd, 1) := by decide +kernel
theorem dX8_valueAt_30 : decode cX8_valueAt 30 = .ok (.iaload, 1) := by decide +kernel
theorem dX8_valueAt_31 : decode cX8_valueAt 31 = .ok (.goto 4, 3) := by decide +kernel
theorem dX8_valueAt_34 : decode cX8_valueAt 34 = .ok (.iconst 0, 1) := by decide +kernel
theorem dX8_valueAt_35 : decode cX8_valueAt 35 = .ok (.ireturn, 1) := by decide +kernel
theorem dX8_spanAt_0 : decode cX8_spanAt 0 = .ok (.iload_n 1, 1) := by decide +kernel
theorem dX8_spanAt_1 : decode cX8_spanAt 1 = .ok (.ifCond .lt 33, 3) := by decide +kernel
theorem dX8_spanAt_4 : decode cX8_spanAt 4 = .ok (.iload_n 1, 1) := by decide +kernel
theorem dX8_spanAt_5 : decode cX8_spanAt 5 = .ok (.bipush 41, 2) := by decide +kernel
theorem dX8_spanAt_7 : decode cX8_spanAt 7 = .ok (.if_icmp .ge 27, 3) := by decide +kernel
theorem dX8_spanAt_10 : decode cX8_spanAt 10 = .ok (.iload_n 2, 1) := by decide +kernel
theorem dX8_spanAt_11 : decode cX8_spanAt 11 = .ok (.ifCond .lt 23, 3) := by decide +kernel
theorem dX8_spanAt_14 : decode cX8_spanAt 14 = .ok (.iload_n 2, 1) := by decide +kernel
theorem dX8_spanAt_15 : decode cX8_spanAt 15 = .ok (.bipush 41, 2) := by decide +kernel
theorem dX8_spanAt_17 : decode cX8_spanAt 17 = .ok (.if_icmp .ge 17, 3) := by decide +kernel
theorem dX8_spanAt_20 : decode cX8_spanAt 20 = .ok (.aload_n 0, 1) := by decide +kernel
theorem dX8_spanAt_21 : decode cX8_spanAt 21 = .ok (.getfield 36, 3) := by decide +kernel
theorem dX8_spanAt_24 : decode cX8_spanAt 24 = .ok (.iload_n 1, 1) := by decide +kernel
theorem dX8_spanAt_25 : decode cX8_spanAt 25 = .ok (.bipush 41, 2) := by decide +kernel
theorem dX8_spanAt_27 : decode cX8_spanAt 27 = .ok (.imul, 1) := by decide +kernel
theorem dX8_spanAt_28 : decode cX8_spanAt 28 = .ok (.iload_n 2, 1) := by decide +kernel
theorem dX8_spanAt_29 : decode cX8_spanAt 29 = .ok (.iadd, 1) := by decide +kernel
theorem dX8_spanAt_30 : decode cX8_spanAt 30 = .ok (.iaload, 1) := by decide +kernel
theorem dX8_spanAt_31 : decode cX8_spanAt 31 = .ok (.goto 4, 3) := by decide +kernel
theorem dX8_spanAt_34 : decode cX8_spanAt 34 = .ok (.iconst 0, 1) := by decide +kernel
theorem dX8_spanAt_35 : decode cX8_spanAt 35 = .ok (.ireturn, 1) := by decide +kernel
theorem dX8_losingPlace_0 : decode cX8_losingPlace 0 = .ok (.iconst 0, 1) := by decide +kernel
theorem dX8_losingPlace_1 : decode cX8_losingPlace 1 = .ok (.istore_n 2, 1) := by decide +kernel
theorem dX8_losingPlace_2 : decode cX8_losingPlace 2 = .ok (.iconst 0, 1) := by decide +kernel
theorem dX8_losingPlace_3 : decode cX8_losingPlace 3 = .ok (.istore_n 3, 1) := by decide +kernel
theorem dX8_losingPlace_4 : decode cX8_losingPlace 4 = .ok (.iload_n 3, 1) := by decide +kernel
theorem dX8_losingPlace_5 : decode cX8_losingPlace 5 = .ok (.sipush 1681, 3) := by decide +kernel
theorem dX8_losingPlace_8 : decode cX8_losingPlace 8 = .ok (.if_icmp .ge 28, 3) := by decide +kernel
theorem dX8_losingPlace_11 : decode cX8_losingPlace 11 = .ok (.aload_n 0, 1) := by decide +kernel
theorem dX8_losingPlace_12 : decode cX8_losingPlace 12 = .ok (.getfield 33, 3) := by decide +kernel
theorem dX8_losingPlace_15 : decode cX8_losingPlace 15 = .ok (.iload_n 3, 1) := by decide +kernel
theorem dX8_losingPlace_16 : decode cX8_losingPlace 16 = .ok (.iaload, 1) := by decide +kernel
theorem dX8_losingPlace_17 : decode cX8_losingPlace 17 = .ok (.ifCond .ne 13, 3) := by decide +kernel
theorem dX8_losingPlace_20 : decode cX8_losingPlace 20 = .ok (.iload_n 2, 1) := by decide +kernel
theorem dX8_losingPlace_21 : decode cX8_losingPlace 21 = .ok (.iload_n 1, 1) := by decide +kernel
theorem dX8_losingPlace_22 : decode cX8_losingPlace 22 = .ok (.if_icmp .ne 5, 3) := by decide +kernel
theorem dX8_losingPlace_25 : decode cX8_losingPlace 25 = .ok (.iload_n 3, 1) := by decide +kernel
theorem dX8_losingPlace_26 : decode cX8_losingPlace 26 = .ok (.ireturn, 1) := by decide +kernel
theorem dX8_losingPlace_27 : decode cX8_losingPlace 27 = .ok (.iinc 2 1, 3) := by decide +kernel
theorem dX8_losingPlace_30 : decode cX8_losingPlace 30 = .ok (.iinc 3 1, 3) := by decide +kernel
theorem dX8_losingPlace_33 : decode cX8_losingPlace 33 = .ok (.goto (-29), 3) := by decide +kernel
theorem dX8_losingPlace_36 : decode cX8_losingPlace 36 = .ok (.iconst (-1), 1) := by decide +kernel
theorem dX8_losingPlace_37 : decode cX8_losingPlace 37 = .ok (.ireturn, 1) := by decide +kernel
theorem dX8_losingDifference_0 : decode cX8_losingDifference 0 = .ok (.iconst 0, 1) := by decide +kernel
theorem dX8_losingDifference_1 : decode cX8_losingDifference 1 = .ok (.istore_n 2, 1) := by decide +kernel
theorem dX8_losingDifference_2 : decode cX8_losingDifference 2 = .ok (.iconst 0, 1) := by decide +kernel
theorem dX8_losingDifference_3 : decode cX8_losingDifference 3 = .ok (.istore_n 3, 1) := by decide +kernel
theorem dX8_losingDifference_4 : decode cX8_losingDifference 4 = .ok (.iload_n 3, 1) := by decide +kernel
theorem dX8_losingDifference_5 : decode cX8_losingDifference 5 = .ok (.sipush 1681, 3) := by decide +kernel
theorem dX8_losingDifference_8 : decode cX8_losingDifference 8 = .ok (.if_icmp .ge 43, 3) := by decide +kernel
theorem dX8_losingDifference_11 : decode cX8_losingDifference 11 = .ok (.aload_n 0, 1) := by decide +kernel
theorem dX8_losingDifference_12 : decode cX8_losingDifference 12 = .ok (.getfield 33, 3) := by decide +kernel
theorem dX8_losingDifference_15 : decode cX8_losingDifference 15 = .ok (.iload_n 3, 1) := by decide +kernel
theorem dX8_losingDifference_16 : decode cX8_losingDifference 16 = .ok (.iaload, 1) := by decide +kernel
theorem dX8_losingDifference_17 : decode cX8_losingDifference 17 = .ok (.ifCond .ne 7, 3) := by decide +kernel
theorem dX8_losingDifference_20 : decode cX8_losingDifference 20 = .ok (.iconst 1, 1) := by decide +kernel
theorem dX8_losingDifference_21 : decode cX8_losingDifference 21 = .ok (.goto 4, 3) := by decide +kernel
theorem dX8_losingDifference_24 : decode cX8_losingDifference 24 = .ok (.iconst 0, 1) := by decide +kernel
theorem dX8_losingDifference_25 : decode cX8_losingDifference 25 = .ok (.aload_n 1, 1) := by decide +kernel
theorem dX8_losingDifference_26 : decode cX8_losingDifference 26 = .ok (.getfield 33, 3) := by decide +kernel
theorem dX8_losingDifference_29 : decode cX8_losingDifference 29 = .ok (.iload_n 3, 1) := by decide +kernel
theorem dX8_losingDifference_30 : decode cX8_losingDifference 30 = .ok (.iaload, 1) := by decide +kernel
theorem dX8_losingDifference_31 : decode cX8_losingDifference 31 = .ok (.ifCond .ne 7, 3) := by decide +kernel
theorem dX8_losingDifference_34 : decode cX8_losingDifference 34 = .ok (.iconst 1, 1) := by decide +kernel
theorem dX8_losingDifference_35 : decode cX8_losingDifference 35 = .ok (.goto 4, 3) := by decide +kernel
theorem dX8_losingDifference_38 : decode cX8_losingDifference 38 = .ok (.iconst 0, 1) := by decide +kernel
theorem dX8_losingDifference_39 : decode cX8_losingDifference 39 = .ok (.if_icmp .eq 6, 3) := by decide +kernel
theorem dX8_losingDifference_42 : decode cX8_losingDifference 42 = .ok (.iinc 2 1, 3) := by decide +kernel
theorem dX8_losingDifference_45 : decode cX8_losingDifference 45 = .ok (.iinc 3 1, 3) := by decide +kernel
theorem dX8_losingDifference_48 : decode cX8_losingDifference 48 = .ok (.goto (-44), 3) := by decide +kernel
theorem dX8_losingDifference_51 : decode cX8_losingDifference 51 = .ok (.iload_n 2, 1) := by decide +kernel
theorem dX8_losingDifference_52 : decode cX8_losingDifference 52 = .ok (.ireturn, 1) := by decide +kernel
theorem dX8_leadsTo_0 : decode cX8_leadsTo 0 = .ok (.aload_n 0, 1) := by decide +kernel
theorem dX8_leadsTo_1 : decode cX8_leadsTo 1 = .ok (.getfield 22, 3) := by decide +kernel
theorem dX8_leadsTo_4 : decode cX8_leadsTo 4 = .ok (.iload_n 1, 1) := by decide +kernel
theorem dX8_leadsTo_5 : decode cX8_leadsTo 5 = .ok (.iaload, 1) := by decide +kernel
theorem dX8_leadsTo_6 : decode cX8_leadsTo 6 = .ok (.iload_n 2, 1) := by decide +kernel
theorem dX8_leadsTo_7 : decode cX8_leadsTo 7 = .ok (.if_icmp .gt 13, 3) := by decide +kernel
theorem dX8_leadsTo_10 : decode cX8_leadsTo 10 = .ok (.aload_n 0, 1) := by decide +kernel
theorem dX8_leadsTo_11 : decode cX8_leadsTo 11 = .ok (.getfield 26, 3) := by decide +kernel
theorem dX8_leadsTo_14 : decode cX8_leadsTo 14 = .ok (.iload_n 1, 1) := by decide +kernel
theorem dX8_leadsTo_15 : decode cX8_leadsTo 15 = .ok (.iaload, 1) := by decide +kernel
theorem dX8_leadsTo_16 : decode cX8_leadsTo 16 = .ok (.iload_n 3, 1) := by decide +kernel
theorem dX8_leadsTo_17 : decode cX8_leadsTo 17 = .ok (.if_icmp .le 5, 3) := by decide +kernel
theorem dX8_leadsTo_20 : decode cX8_leadsTo 20 = .ok (.iconst 0, 1) := by decide +kernel
theorem dX8_leadsTo_21 : decode cX8_leadsTo 21 = .ok (.ireturn, 1) := by decide +kernel
theorem dX8_leadsTo_22 : decode cX8_leadsTo 22 = .ok (.iload 4, 2) := by decide +kernel
theorem dX8_leadsTo_24 : decode cX8_leadsTo 24 = .ok (.iconst (-1), 1) := by decide +kernel
theorem dX8_leadsTo_25 : decode cX8_leadsTo 25 = .ok (.if_icmp .eq 28, 3) := by decide +kernel
theorem dX8_leadsTo_28 : decode cX8_leadsTo 28 = .ok (.aload_n 0, 1) := by decide +kernel
theorem dX8_leadsTo_29 : decode cX8_leadsTo 29 = .ok (.iload_n 2, 1) := by decide +kernel
theorem dX8_leadsTo_30 : decode cX8_leadsTo 30 = .ok (.aload_n 0, 1) := by decide +kernel
theorem dX8_leadsTo_31 : decode cX8_leadsTo 31 = .ok (.getfield 22, 3) := by decide +kernel
theorem dX8_leadsTo_34 : decode cX8_leadsTo 34 = .ok (.iload_n 1, 1) := by decide +kernel
theorem dX8_leadsTo_35 : decode cX8_leadsTo 35 = .ok (.iaload, 1) := by decide +kernel
theorem dX8_leadsTo_36 : decode cX8_leadsTo 36 = .ok (.isub, 1) := by decide +kernel
theorem dX8_leadsTo_37 : decode cX8_leadsTo 37 = .ok (.iload_n 3, 1) := by decide +kernel
theorem dX8_leadsTo_38 : decode cX8_leadsTo 38 = .ok (.aload_n 0, 1) := by decide +kernel
theorem dX8_leadsTo_39 : decode cX8_leadsTo 39 = .ok (.getfield 26, 3) := by decide +kernel
theorem dX8_leadsTo_42 : decode cX8_leadsTo 42 = .ok (.iload_n 1, 1) := by decide +kernel
theorem dX8_leadsTo_43 : decode cX8_leadsTo 43 = .ok (.iaload, 1) := by decide +kernel
theorem dX8_leadsTo_44 : decode cX8_leadsTo 44 = .ok (.isub, 1) := by decide +kernel
theorem dX8_leadsTo_45 : decode cX8_leadsTo 45 = .ok (.invokevirtual 90, 3) := by decide +kernel
theorem dX8_leadsTo_48 : decode cX8_leadsTo 48 = .ok (.iload 4, 2) := by decide +kernel
theorem dX8_leadsTo_50 : decode cX8_leadsTo 50 = .ok (.if_icmp .ne 7, 3) := by decide +kernel
theorem dX8_leadsTo_53 : decode cX8_leadsTo 53 = .ok (.iconst 1, 1) := by decide +kernel
theorem dX8_leadsTo_54 : decode cX8_leadsTo 54 = .ok (.goto 4, 3) := by decide +kernel
theorem dX8_leadsTo_57 : decode cX8_leadsTo 57 = .ok (.iconst 0, 1) := by decide +kernel
theorem dX8_leadsTo_58 : decode cX8_leadsTo 58 = .ok (.ireturn, 1) := by decide +kernel
theorem dX8_movesTo_0 : decode cX8_movesTo 0 = .ok (.iconst 0, 1) := by decide +kernel
theorem dX8_movesTo_1 : decode cX8_movesTo 1 = .ok (.istore 4, 2) := by decide +kernel
theorem dX8_movesTo_3 : decode cX8_movesTo 3 = .ok (.iconst 0, 1) := by decide +kernel
theorem dX8_movesTo_4 : decode cX8_movesTo 4 = .ok (.istore 5, 2) := by decide +kernel
theorem dX8_movesTo_6 : decode cX8_movesTo 6 = .ok (.iload 5, 2) := by decide +kernel
theorem dX8_movesTo_8 : decode cX8_movesTo 8 = .ok (.aload_n 0, 1) := by decide +kernel
theorem dX8_movesTo_9 : decode cX8_movesTo 9 = .ok (.getfield 29, 3) := by decide +kernel
theorem dX8_movesTo_12 : decode cX8_movesTo 12 = .ok (.if_icmp .ge 35, 3) := by decide +kernel
theorem dX8_movesTo_15 : decode cX8_movesTo 15 = .ok (.aload_n 0, 1) := by decide +kernel
theorem dX8_movesTo_16 : decode cX8_movesTo 16 = .ok (.getfield 22, 3) := by decide +kernel
theorem dX8_movesTo_19 : decode cX8_movesTo 19 = .ok (.iload 5, 2) := by decide +kernel
theorem dX8_movesTo_21 : decode cX8_movesTo 21 = .ok (.iaload, 1) := by decide +kernel
theorem dX8_movesTo_22 : decode cX8_movesTo 22 = .ok (.iload_n 1, 1) := by decide +kernel
theorem dX8_movesTo_23 : decode cX8_movesTo 23 = .ok (.if_icmp .gt 24, 3) := by decide +kernel
theorem dX8_movesTo_26 : decode cX8_movesTo 26 = .ok (.aload_n 0, 1) := by decide +kernel
theorem dX8_movesTo_27 : decode cX8_movesTo 27 = .ok (.iload 5, 2) := by decide +kernel
theorem dX8_movesTo_29 : decode cX8_movesTo 29 = .ok (.iload_n 1, 1) := by decide +kernel
theorem dX8_movesTo_30 : decode cX8_movesTo 30 = .ok (.iload_n 2, 1) := by decide +kernel
theorem dX8_movesTo_31 : decode cX8_movesTo 31 = .ok (.iload_n 3, 1) := by decide +kernel
theorem dX8_movesTo_32 : decode cX8_movesTo 32 = .ok (.invokevirtual 93, 3) := by decide +kernel
theorem dX8_movesTo_35 : decode cX8_movesTo 35 = .ok (.ifCond .eq 6, 3) := by decide +kernel
theorem dX8_movesTo_38 : decode cX8_movesTo 38 = .ok (.iinc 4 1, 3) := by decide +kernel
theorem dX8_movesTo_41 : decode cX8_movesTo 41 = .ok (.iinc 5 1, 3) := by decide +kernel
theorem dX8_movesTo_44 : decode cX8_movesTo 44 = .ok (.goto (-38), 3) := by decide +kernel
theorem dX8_movesTo_47 : decode cX8_movesTo 47 = .ok (.iload 4, 2) := by decide +kernel
theorem dX8_movesTo_49 : decode cX8_movesTo 49 = .ok (.ireturn, 1) := by decide +kernel
theorem dX8_findMove_0 : decode cX8_findMove 0 = .ok (.iconst 0, 1) := by decide +kernel
theorem dX8_findMove_1 : decode cX8_findMove 1 = .ok (.istore 5, 2) := by decide +kernel
theorem dX8_findMove_3 : decode cX8_findMove 3 = .ok (.iload 5, 2) := by decide +kernel
theorem dX8_findMove_5 : decode cX8_findMove 5 = .ok (.aload_n 0, 1) := by decide +kernel
theorem dX8_findMove_6 : decode cX8_findMove 6 = .ok (.getfield 29, 3) := by decide +kernel
theorem dX8_findMove_9 : decode cX8_findMove 9 = .ok (.if_icmp .ge 58, 3) := by decide +kernel
theorem dX8_findMove_12 : decode cX8_findMove 12 = .ok (.aload_n 0, 1) := by decide +kernel
theorem dX8_findMove_13 : decode cX8_findMove 13 = .ok (.getfield 22, 3) := by decide +kernel
theorem dX8_findMove_16 : decode cX8_findMove 16 = .ok (.iload 5, 2) := by decide +kernel
theorem dX8_findMove_18 : decode cX8_findMove 18 = .ok (.iaload, 1) := by decide +kernel
theorem dX8_findMove_19 : decode cX8_findMove 19 = .ok (.iload_n 1, 1) := by decide +kernel
theorem dX8_findMove_20 : decode cX8_findMove 20 = .ok (.if_icmp .gt 47, 3) := by decide +kernel
theorem dX8_findMove_23 : decode cX8_findMove 23 = .ok (.aload_n 0, 1) := by decide +kernel
theorem dX8_findMove_24 : decode cX8_findMove 24 = .ok (.iload 5, 2) := by decide +kernel
theorem dX8_findMove_26 : decode cX8_findMove 26 = .ok (.iload_n 1, 1) := by decide +kernel
theorem dX8_findMove_27 : decode cX8_findMove 27 = .ok (.iload_n 2, 1) := by decide +kernel
theorem dX8_findMove_28 : decode cX8_findMove 28 = .ok (.iload_n 3, 1) := by decide +kernel
theorem dX8_findMove_29 : decode cX8_findMove 29 = .ok (.invokevirtual 93, 3) := by decide +kernel
theorem dX8_findMove_32 : decode cX8_findMove 32 = .ok (.ifCond .eq 29, 3) := by decide +kernel
theorem dX8_findMove_35 : decode cX8_findMove 35 = .ok (.aload 4, 2) := by decide +kernel
theorem dX8_findMove_37 : decode cX8_findMove 37 = .ok (.aload_n 0, 1) := by decide +kernel
theorem dX8_findMove_38 : decode cX8_findMove 38 = .ok (.getfield 22, 3) := by decide +kernel
theorem dX8_findMove_41 : decode cX8_findMove 41 = .ok (.iload 5, 2) := by decide +kernel
theorem dX8_findMove_43 : decode cX8_findMove 43 = .ok (.iaload, 1) := by decide +kernel
theorem dX8_findMove_44 : decode cX8_findMove 44 = .ok (.putfield 97, 3) := by decide +kernel
theorem dX8_findMove_47 : decode cX8_findMove 47 = .ok (.aload 4, 2) := by decide +kernel
theorem dX8_findMove_49 : decode cX8_findMove 49 = .ok (.aload_n 0, 1) := by decide +kernel
theorem dX8_findMove_50 : decode cX8_findMove 50 = .ok (.getfield 26, 3) := by decide +kernel
theorem dX8_findMove_53 : decode cX8_findMove 53 = .ok (.iload 5, 2) := by decide +kernel
theorem dX8_findMove_55 : decode cX8_findMove 55 = .ok (.iaload, 1) := by decide +kernel
theorem dX8_findMove_56 : decode cX8_findMove 56 = .ok (.putfield 102, 3) := by decide +kernel
theorem dX8_findMove_59 : decode cX8_findMove 59 = .ok (.iconst 1, 1) := by decide +kernel
theorem dX8_findMove_60 : decode cX8_findMove 60 = .ok (.ireturn, 1) := by decide +kernel
theorem dX8_findMove_61 : decode cX8_findMove 61 = .ok (.iinc 5 1, 3) := by decide +kernel
theorem dX8_findMove_64 : decode cX8_findMove 64 = .ok (.goto (-61), 3) := by decide +kernel
theorem dX8_findMove_67 : decode cX8_findMove 67 = .ok (.iconst 0, 1) := by decide +kernel
theorem dX8_findMove_68 : decode cX8_findMove 68 = .ok (.ireturn, 1) := by decide +kernel
theorem dX9_init_0 : decode cX9_init 0 = .ok (.aload_n 0, 1) := by decide +kernel
theorem dX9_init_1 : decode cX9_init 1 = .ok (.invokespecial 3, 3) := by decide +kernel
theorem dX9_init_4 : decode cX9_init 4 = .ok (.aload_n 0, 1) := by decide +kernel
theorem dX9_init_5 : decode cX9_init 5 = .ok (.iconst 0, 1) := by decide +kernel
theorem dX9_init_6 : decode cX9_init 6 = .ok (.newarray .int, 2) := by decide +kernel
theorem dX9_init_8 : decode cX9_init 8 = .ok (.putfield 9, 3) := by decide +kernel
theorem dX9_init_11 : decode cX9_init 11 = .ok (.aload_n 0, 1) := by decide +kernel
theorem dX9_init_12 : decode cX9_init 12 = .ok (.iconst 0, 1) := by decide +kernel
theorem dX9_init_13 : decode cX9_init 13 = .ok (.putfield 15, 3) := by decide +kernel
theorem dX9_init_16 : decode cX9_init 16 = .ok (.aload_n 0, 1) := by decide +kernel
theorem dX9_init_17 : decode cX9_init 17 = .ok (.iconst 0, 1) := by decide +kernel
theorem dX9_init_18 : decode cX9_init 18 = .ok (.putfield 19, 3) := by decide +kernel
theorem dX9_init_21 : decode cX9_init 21 = .ok (.aload_n 0, 1) := by decide +kernel
theorem dX9_init_22 : decode cX9_init 22 = .ok (.iconst 0, 1) := by decide +kernel
theorem dX9_init_23 : decode cX9_init 23 = .ok (.putfield 22, 3) := by decide +kernel
theorem dX9_init_26 : decode cX9_init 26 = .ok (.aload_n 0, 1) := by decide +kernel
theorem dX9_init_27 : decode cX9_init 27 = .ok (.iconst 0, 1) := by decide +kernel
theorem dX9_init_28 : decode cX9_init 28 = .ok (.putfield 25, 3) := by decide +kernel
theorem dX9_init_31 : decode cX9_init 31 = .ok (.aload_n 0, 1) := by decide +kernel
theorem dX9_init_32 : decode cX9_init 32 = .ok (.iconst 0, 1) := by decide +kernel
theorem dX9_init_33 : decode cX9_init 33 = .ok (.putfield 28, 3) := by decide +kernel
theorem dX9_init_36 : decode cX9_init 36 = .ok (.return_, 1) := by decide +kernel
theorem dX9_begin_0 : decode cX9_begin 0 = .ok (.aload_n 0, 1) := by decide +kernel
theorem dX9_begin_1 : decode cX9_begin 1 = .ok (.aload_n 1, 1) := by decide +kernel
theorem dX9_begin_2 : decode cX9_begin 2 = .ok (.putfield 9, 3) := by decide +kernel
theorem dX9_begin_5 : decode cX9_begin 5 = .ok (.aload_n 0, 1) := by decide +kernel
theorem dX9_begin_6 : decode cX9_begin 6 = .ok (.iload_n 2, 1) := by decide +kernel
theorem dX9_begin_7 : decode cX9_begin 7 = .ok (.aload_n 1, 1) := by decide +kernel
theorem dX9_begin_8 : decode cX9_begin 8 = .ok (.arraylength, 1) := by decide +kernel
theorem dX9_begin_9 : decode cX9_begin 9 = .ok (.invokestatic 31, 3) := by decide +kernel
theorem dX9_begin_12 : decode cX9_begin 12 = .ok (.putfield 15, 3) := by decide +kernel
theorem dX9_begin_15 : decode cX9_begin 15 = .ok (.aload_n 0, 1) := by decide +kernel
theorem dX9_begin_16 : decode cX9_begin 16 = .ok (.iconst 0, 1) := by decide +kernel
theorem dX9_begin_17 : decode cX9_begin 17 = .ok (.putfield 25, 3) := by decide +kernel
theorem dX9_begin_20 : decode cX9_begin 20 = .ok (.aload_n 0, 1) := by decide +kernel
theorem dX9_begin_21 : decode cX9_begin 21 = .ok (.invokevirtual 37, 3) := by decide +kernel
theorem dX9_begin_24 : decode cX9_begin 24 = .ok (.return_, 1) := by decide +kernel
theorem dX9_byteAt_0 : decode cX9_byteAt 0 = .ok (.iload_n 1, 1) := by decide +kernel
theorem dX9_byteAt_1 : decode cX9_byteAt 1 = .ok (.ifCond .lt 29, 3) := by decide +kernel
theorem dX9_byteAt_4 : decode cX9_byteAt 4 = .ok (.iload_n 1, 1) := by decide +kernel
theorem dX9_byteAt_5 : decode cX9_byteAt 5 = .ok (.aload_n 0, 1) := by decide +kernel
theorem dX9_byteAt_6 : decode cX9_byteAt 6 = .ok (.getfield 15, 3) := by decide +kernel
theorem dX9_byteAt_9 : decode cX9_byteAt 9 = .ok (.if_icmp .ge 21, 3) := by decide +kernel
theorem dX9_byteAt_12 : decode cX9_byteAt 12 = .ok (.iload_n 1, 1) := by decide +kernel
theorem dX9_byteAt_13 : decode cX9_byteAt 13 = .ok (.aload_n 0, 1) := by decide +kernel
theorem dX9_byteAt_14 : decode cX9_byteAt 14 = .ok (.getfield 9, 3) := by decide +kernel
theorem dX9_byteAt_17 : decode cX9_byteAt 17 = .ok (.arraylength, 1) := by decide +kernel
theorem dX9_byteAt_18 : decode cX9_byteAt 18 = .ok (.if_icmp .ge 12, 3) := by decide +kernel
theorem dX9_byteAt_21 : decode cX9_byteAt 21 = .ok (.aload_n 0, 1) := by decide +kernel
theorem dX9_byteAt_22 : decode cX9_byteAt 22 = .ok (.getfield 9, 3) := by decide +kernel
theorem dX9_byteAt_25 : decode cX9_byteAt 25 = .ok (.iload_n 1, 1) := by decide +kernel
theorem dX9_byteAt_26 : decode cX9_byteAt 26 = .ok (.iaload, 1) := by decide +kernel
theorem dX9_byteAt_27 : decode cX9_byteAt 27 = .ok (.goto 4, 3) := by decide +kernel
theorem dX9_byteAt_30 : decode cX9_byteAt 30 = .ok (.iconst (-1), 1) := by decide +kernel
theorem dX9_byteAt_31 : decode cX9_byteAt 31 = .ok (.ireturn, 1) := by decide +kernel
theorem dX9_isLetter_0 : decode cX9_isLetter 0 = .ok (.iload_n 0, 1) := by decide +kernel
theorem dX9_isLetter_1 : decode cX9_isLetter 1 = .ok (.bipush 97, 2) := by decide +kernel
theorem dX9_isLetter_3 : decode cX9_isLetter 3 = .ok (.if_icmp .lt 13, 3) := by decide +kernel
theorem dX9_isLetter_6 : decode cX9_isLetter 6 = .ok (.iload_n 0, 1) := by decide +kernel
theorem dX9_isLetter_7 : decode cX9_isLetter 7 = .ok (.bipush 122, 2) := by decide +kernel
theorem dX9_isLetter_9 : decode cX9_isLetter 9 = .ok (.if_icmp .gt 7, 3) := by decide +kernel
theorem dX9_isLetter_12 : decode cX9_isLetter 12 = .ok (.iconst 1, 1) := by decide +kernel
theorem dX9_isLetter_13 : decode cX9_isLetter 13 = .ok (.goto 4, 3) := by decide +kernel
theorem dX9_isLetter_16 : decode cX9_isLetter 16 = .ok (.iconst 0, 1) := by decide +kernel
theorem dX9_isLetter_17 : decode cX9_isLetter 17 = .ok (.ireturn, 1) := by decide +kernel
theorem dX9_isDigit_0 : decode cX9_isDigit 0 = .ok (.iload_n 0, 1) := by decide +kernel
theorem dX9_isDigit_1 : decode cX9_isDigit 1 = .ok (.bipush 48, 2) := by decide +kernel
theorem dX9_isDigit_3 : decode cX9_isDigit 3 = .ok (.if_icmp .lt 13, 3) := by decide +kernel
theorem dX9_isDigit_6 : decode cX9_isDigit 6 = .ok (.iload_n 0, 1) := by decide +kernel
theorem dX9_isDigit_7 : decode cX9_isDigit 7 = .ok (.bipush 57, 2) := by decide +kernel
theorem dX9_isDigit_9 : decode cX9_isDigit 9 = .ok (.if_icmp .gt 7, 3) := by decide +kernel
theorem dX9_isDigit_12 : decode cX9_isDigit 12 = .ok (.iconst 1, 1) := by decide +kernel
theorem dX9_isDigit_13 : decode cX9_isDigit 13 = .ok (.goto 4, 3) := by decide +kernel
theorem dX9_isDigit_16 : decode cX9_isDigit 16 = .ok (.iconst 0, 1) := by decide +kernel
theorem dX9_isDigit_17 : decode cX9_isDigit 17 = .ok (.ireturn, 1) := by decide +kernel
theorem dX9_advance_0 : decode cX9_advance 0 = .ok (.aload_n 0, 1) := by decide +kernel
theorem dX9_advance_1 : decode cX9_advance 1 = .ok (.aload_n 0, 1) := by decide +kernel
theorem dX9_advance_2 : decode cX9_advance 2 = .ok (.getfield 25, 3) := by decide +kernel
theorem dX9_advance_5 : decode cX9_advance 5 = .ok (.putfield 22, 3) := by decide +kernel
theorem dX9_advance_8 : decode cX9_advance 8 = .ok (.aload_n 0, 1) := by decide +kernel
theorem dX9_advance_9 : decode cX9_advance 9 = .ok (.getfield 22, 3) := by decide +kernel
theorem dX9_advance_12 : decode cX9_advance 12 = .ok (.aload_n 0, 1) := by decide +kernel
theorem dX9_advance_13 : decode cX9_advance 13 = .ok (.getfield 15, 3) := by decide +kernel
theorem dX9_advance_16 : decode cX9_advance 16 = .ok (.if_icmp .ge 42, 3) := by decide +kernel
theorem dX9_advance_19 : decode cX9_advance 19 = .ok (.aload_n 0, 1) := by decide +kernel
theorem dX9_advance_20 : decode cX9_advance 20 = .ok (.aload_n 0, 1) := by decide +kernel
theorem dX9_advance_21 : decode cX9_advance 21 = .ok (.getfield 22, 3) := by decide +kernel
theorem dX9_advance_24 : decode cX9_advance 24 = .ok (.invokevirtual 40, 3) := by decide +kernel
theorem dX9_advance_27 : decode cX9_advance 27 = .ok (.bipush 32, 2) := by decide +kernel
theorem dX9_advance_29 : decode cX9_advance 29 = .ok (.if_icmp .eq 16, 3) := by decide +kernel
theorem dX9_advance_32 : decode cX9_advance 32 = .ok (.aload_n 0, 1) := by decide +kernel
theorem dX9_advance_33 : decode cX9_advance 33 = .ok (.aload_n 0, 1) := by decide +kernel
theorem dX9_advance_34 : decode cX9_advance 34 = .ok (.getfield 22, 3) := by decide +kernel
theorem dX9_advance_37 : decode cX9_advance 37 = .ok (.invokevirtual 40, 3) := by decide +kernel
theorem dX9_advance_40 : decode cX9_advance 40 = .ok (.bipush 10, 2) := by decide +kernel
theorem dX9_advance_42 : decode cX9_advance 42 = .ok (.if_icmp .ne 16, 3) := by decide +kernel
theorem dX9_advance_45 : decode cX9_advance 45 = .ok (.aload_n 0, 1) := by decide +kernel
theorem dX9_advance_46 : decode cX9_advance 46 = .ok (.dup, 1) := by decide +kernel
theorem dX9_advance_47 : decode cX9_advance 47 = .ok (.getfield 22, 3) := by decide +kernel
theorem dX9_advance_50 : decode cX9_advance 50 = .ok (.iconst 1, 1) := by decide +kernel
theorem dX9_advance_51 : decode cX9_advance 51 = .ok (.iadd, 1) := by decide +kernel
theorem dX9_advance_52 : decode cX9_advance 52 = .ok (.putfield 22, 3) := by decide +kernel
theorem dX9_advance_55 : decode cX9_advance 55 = .ok (.goto (-47), 3) := by decide +kernel
theorem dX9_advance_58 : decode cX9_advance 58 = .ok (.aload_n 0, 1) := by decide +kernel
theorem dX9_advance_59 : decode cX9_advance 59 = .ok (.aload_n 0, 1) := by decide +kernel
theorem dX9_advance_60 : decode cX9_advance 60 = .ok (.getfield 22, 3) := by decide +kernel
theorem dX9_advance_63 : decode cX9_advance 63 = .ok (.putfield 25, 3) := by decide +kernel
theorem dX9_advance_66 : decode cX9_advance 66 = .ok (.aload_n 0, 1) := by decide +kernel
theorem dX9_advance_67 : decode cX9_advance 67 = .ok (.aload_n 0, 1) := by decide +kernel
theorem dX9_advance_68 : decode cX9_advance 68 = .ok (.getfield 22, 3) := by decide +kernel
theorem dX9_advance_71 : decode cX9_advance 71 = .ok (.invokevirtual 40, 3) := by decide +kernel
theorem dX9_advance_74 : decode cX9_advance 74 = .ok (.istore_n 1, 1) := by decide +kernel
theorem dX9_advance_75 : decode cX9_advance 75 = .ok (.aload_n 0, 1) := by decide +kernel
theorem dX9_advance_76 : decode cX9_advance 76 = .ok (.getfield 22, 3) := by decide +kernel
theorem dX9_advance_79 : decode cX9_advance 79 = .ok (.aload_n 0, 1) := by decide +kernel
theorem dX9_advance_80 : decode cX9_advance 80 = .ok (.getfield 15, 3) := by decide +kernel
theorem dX9_advance_83 : decode cX9_advance 83 = .ok (.if_icmp .lt 11, 3) := by decide +kernel
theorem dX9_advance_86 : decode cX9_advance 86 = .ok (.aload_n 0, 1) := by decide +kernel
theorem dX9_advance_87 : decode cX9_advance 87 = .ok (.iconst 0, 1) := by decide +kernel
theorem dX9_advance_88 : decode cX9_advance 88 = .ok (.putfield 19, 3) := by decide +kernel
theorem dX9_advance_91 : decode cX9_advance 91 = .ok (.goto 196, 3) := by decide +kernel
theorem dX9_advance_94 : decode cX9_advance 94 = .ok (.iload_n 1, 1) := by decide +kernel
theorem dX9_advance_95 : decode cX9_advance 95 = .ok (.invokestatic 44, 3) := by decide +kernel
theorem dX9_advance_98 : decode cX9_advance 98 = .ok (.ifCond .eq 46, 3) := by decide +kernel
theorem dX9_advance_101 : decode cX9_advance 101 = .ok (.aload_n 0, 1) := by decide +kernel
theorem dX9_advance_102 : decode cX9_advance 102 = .ok (.iconst 1, 1) := by decide +kernel
theorem dX9_advance_103 : decode cX9_advance 103 = .ok (.putfield 19, 3) := by decide +kernel
theorem dX9_advance_106 : decode cX9_advance 106 = .ok (.aload_n 0, 1) := by decide +kernel
theorem dX9_advance_107 : decode cX9_advance 107 = .ok (.getfield 25, 3) := by decide +kernel
theorem dX9_advance_110 : decode cX9_advance 110 = .ok (.aload_n 0, 1) := by decide +kernel
theorem dX9_advance_111 : decode cX9_advance 111 = .ok (.getfield 15, 3) := by decide +kernel
theorem dX9_advance_114 : decode cX9_advance 114 = .ok (.if_icmp .ge 173, 3) := by decide +kernel
theorem dX9_advance_117 : decode cX9_advance 117 = .ok (.aload_n 0, 1) := by decide +kernel
theorem dX9_advance_118 : decode cX9_advance 118 = .ok (.aload_n 0, 1) := by decide +kernel
theorem dX9_advance_119 : decode cX9_advance 119 = .ok (.getfield 25, 3) := by decide +kernel
theorem dX9_advance_122 : decode cX9_advance 122 = .ok (.invokevirtual 40, 3) := by decide +kernel
theorem dX9_advance_125 : decode cX9_advance 125 = .ok (.invokestatic 44, 3) := by decide +kernel
theorem dX9_advance_128 : decode cX9_advance 128 = .ok (.ifCond .eq 159, 3) := by decide +kernel
theorem dX9_advance_131 : decode cX9_advance 131 = .ok (.aload_n 0, 1) := by decide +kernel
theorem dX9_advance_132 : decode cX9_advance 132 = .ok (.dup, 1) := by decide +kernel
theorem dX9_advance_133 : decode cX9_advance 133 = .ok (.getfield 25, 3) := by decide +kernel
theorem dX9_advance_136 : decode cX9_advance 136 = .ok (.iconst 1, 1) := by decide +kernel
theorem dX9_advance_137 : decode cX9_advance 137 = .ok (.iadd, 1) := by decide +kernel
theorem dX9_advance_138 : decode cX9_advance 138 = .ok (.putfield 25, 3) := by decide +kernel
theorem dX9_advance_141 : decode cX9_advance 141 = .ok (.goto (-35), 3) := by decide +kernel
theorem dX9_advance_144 : decode cX9_advance 144 = .ok (.iload_n 1, 1) := by decide +kernel
theorem dX9_advance_145 : decode cX9_advance 145 = .ok (.invokestatic 48, 3) := by decide +kernel
theorem dX9_advance_148 : decode cX9_advance 148 = .ok (.ifCond .eq 114, 3) := by decide +kernel
theorem dX9_advance_151 : decode cX9_advance 151 = .ok (.aload_n 0, 1) := by decide +kernel
theorem dX9_advance_152 : decode cX9_advance 152 = .ok (.iconst 0, 1) := by decide +kernel
theorem dX9_advance_153 : decode cX9_advance 153 = .ok (.putfield 28, 3) := by decide +kernel
theorem dX9_advance_156 : decode cX9_advance 156 = .ok (.aload_n 0, 1) := by decide +kernel
theorem dX9_advance_157 : decode cX9_advance 157 = .ok (.getfield 25, 3) := by decide +kernel
theorem dX9_advance_160 : decode cX9_advance 160 = .ok (.aload_n 0, 1) := by decide +kernel
theorem dX9_advance_161 : decode cX9_advance 161 = .ok (.getfield 15, 3) := by decide +kernel
theorem dX9_advance_164 : decode cX9_advance 164 = .ok (.if_icmp .ge 73, 3) := by decide +kernel
theorem dX9_advance_167 : decode cX9_advance 167 = .ok (.aload_n 0, 1) := by decide +kernel
theorem dX9_advance_168 : decode cX9_advance 168 = .ok (.aload_n 0, 1) := by decide +kernel
theorem dX9_advance_169 : decode cX9_advance 169 = .ok (.getfield 25, 3) := by decide +kernel
theorem dX9_advance_172 : decode cX9_advance 172 = .ok (.invokevirtual 40, 3) := by decide +kernel
theorem dX9_advance_175 : decode cX9_advance 175 = .ok (.invokestatic 48, 3) := by decide +kernel
theorem dX9_advance_178 : decode cX9_advance 178 = .ok (.ifCond .eq 59, 3) := by decide +kernel
theorem dX9_advance_181 : decode cX9_advance 181 = .ok (.aload_n 0, 1) := by decide +kernel
theorem dX9_advance_182 : decode cX9_advance 182 = .ok (.aload_n 0, 1) := by decide +kernel
theorem dX9_advance_183 : decode cX9_advance 183 = .ok (.getfield 25, 3) := by decide +kernel
theorem dX9_advance_186 : decode cX9_advance 186 = .ok (.aload_n 0, 1) := by decide +kernel
theorem dX9_advance_187 : decode cX9_advance 187 = .ok (.getfield 22, 3) := by decide +kernel
theorem dX9_advance_190 : decode cX9_advance 190 = .ok (.isub, 1) := by decide +kernel
theorem dX9_advance_191 : decode cX9_advance 191 = .ok (.iconst 3, 1) := by decide +kernel
theorem dX9_advance_192 : decode cX9_advance 192 = .ok (.if_icmp .ge 25, 3) := by decide +kernel
theorem dX9_advance_195 : decode cX9_advance 195 = .ok (.aload_n 0, 1) := by decide +kernel
theorem dX9_advance_196 : decode cX9_advance 196 = .ok (.getfield 28, 3) := by decide +kernel
theorem dX9_advance_199 : decode cX9_advance 199 = .ok (.bipush 10, 2) := by decide +kernel
theorem dX9_advance_201 : decode cX9_advance 201 = .ok (.imul, 1) := by decide +kernel
theorem dX9_advance_202 : decode cX9_advance 202 = .ok (.aload_n 0, 1) := by decide +kernel
theorem dX9_advance_203 : decode cX9_advance 203 = .ok (.aload_n 0, 1) := by decide +kernel
theorem dX9_advance_204 : decode cX9_advance 204 = .ok (.getfield 25, 3) := by decide +kernel
theorem dX9_advance_207 : decode cX9_advance 207 = .ok (.invokevirtual 40, 3) := by decide +kernel
theorem dX9_advance_210 : decode cX9_advance 210 = .ok (.iadd, 1) := by decide +kernel
theorem dX9_advance_211 : decode cX9_advance 211 = .ok (.bipush 48, 2) := by decide +kernel
theorem dX9_advance_213 : decode cX9_advance 213 = .ok (.isub, 1) := by decide +kernel
theorem dX9_advance_214 : decode cX9_advance 214 = .ok (.goto 7, 3) := by decide +kernel
theorem dX9_advance_217 : decode cX9_advance 217 = .ok (.aload_n 0, 1) := by decide +kernel
theorem dX9_advance_218 : decode cX9_advance 218 = .ok (.getfield 28, 3) := by decide +kernel
theorem dX9_advance_221 : decode cX9_advance 221 = .ok (.putfield 28, 3) := by decide +kernel
theorem dX9_advance_224 : decode cX9_advance 224 = .ok (.aload_n 0, 1) := by decide +kernel
theorem dX9_advance_225 : decode cX9_advance 225 = .ok (.dup, 1) := by decide +kernel
theorem dX9_advance_226 : decode cX9_advance 226 = .ok (.getfield 25, 3) := by decide +kernel
theorem dX9_advance_229 : decode cX9_advance 229 = .ok (.iconst 1, 1) := by decide +kernel
theorem dX9_advance_230 : decode cX9_advance 230 = .ok (.iadd, 1) := by decide +kernel
theorem dX9_advance_231 : decode cX9_advance 231 = .ok (.putfield 25, 3) := by decide +kernel
theorem dX9_advance_234 : decode cX9_advance 234 = .ok (.goto (-78), 3) := by decide +kernel
theorem dX9_advance_237 : decode cX9_advance 237 = .ok (.aload_n 0, 1) := by decide +kernel
theorem dX9_advance_238 : decode cX9_advance 238 = .ok (.aload_n 0, 1) := by decide +kernel
theorem dX9_advance_239 : decode cX9_advance 239 = .ok (.getfield 25, 3) := by decide +kernel
theorem dX9_advance_242 : decode cX9_advance 242 = .ok (.aload_n 0, 1) := by decide +kernel
theorem dX9_advance_243 : decode cX9_advance 243 = .ok (.getfield 22, 3) := by decide +kernel
theorem dX9_advance_246 : decode cX9_advance 246 = .ok (.isub, 1) := by decide +kernel
theorem dX9_advance_247 : decode cX9_advance 247 = .ok (.iconst 3, 1) := by decide +kernel
theorem dX9_advance_248 : decode cX9_advance 248 = .ok (.if_icmp .gt 7, 3) := by decide +kernel
theorem dX9_advance_251 : decode cX9_advance 251 = .ok (.iconst 2, 1) := by decide +kernel
theorem dX9_advance_252 : decode cX9_advance 252 = .ok (.goto 4, 3) := by decide +kernel
theorem dX9_advance_255 : decode cX9_advance 255 = .ok (.iconst 4, 1) := by decide +kernel
theorem dX9_advance_256 : decode cX9_advance 256 = .ok (.putfield 19, 3) := by decide +kernel
theorem dX9_advance_259 : decode cX9_advance 259 = .ok (.goto 28, 3) := by decide +kernel
theorem dX9_advance_262 : decode cX9_advance 262 = .ok (.aload_n 0, 1) := by decide +kernel
theorem dX9_advance_263 : decode cX9_advance 263 = .ok (.iload_n 1, 1) := by decide +kernel
theorem dX9_advance_264 : decode cX9_advance 264 = .ok (.bipush 59, 2) := by decide +kernel
theorem dX9_advance_266 : decode cX9_advance 266 = .ok (.if_icmp .ne 7, 3) := by decide +kernel
theorem dX9_advance_269 : decode cX9_advance 269 = .ok (.iconst 3, 1) := by decide +kernel
theorem dX9_advance_270 : decode cX9_advance 270 = .ok (.goto 4, 3) := by decide +kernel
theorem dX9_advance_273 : decode cX9_advance 273 = .ok (.iconst 4, 1) := by decide +kernel
theorem dX9_advance_274 : decode cX9_advance 274 = .ok (.putfield 19, 3) := by decide +kernel
theorem dX9_advance_277 : decode cX9_advance 277 = .ok (.aload_n 0, 1) := by decide +kernel
theorem dX9_advance_278 : decode cX9_advance 278 = .ok (.aload_n 0, 1) := by decide +kernel
theorem dX9_advance_279 : decode cX9_advance 279 = .ok (.getfield 22, 3) := by decide +kernel
theorem dX9_advance_282 : decode cX9_advance 282 = .ok (.iconst 1, 1) := by decide +kernel
theorem dX9_advance_283 : decode cX9_advance 283 = .ok (.iadd, 1) := by decide +kernel
theorem dX9_advance_284 : decode cX9_advance 284 = .ok (.putfield 25, 3) := by decide +kernel
theorem dX9_advance_287 : decode cX9_advance 287 = .ok (.return_, 1) := by decide +kernel
theorem dX9_isWord_0 : decode cX9_isWord 0 = .ok (.aload_n 0, 1) := by decide +kernel
theorem dX9_isWord_1 : decode cX9_isWord 1 = .ok (.getfield 19, 3) := by decide +kernel
theorem dX9_isWord_4 : decode cX9_isWord 4 = .ok (.iconst 1, 1) := by decide +kernel
theorem dX9_isWord_5 : decode cX9_isWord 5 = .ok (.if_icmp .ne 19, 3) := by decide +kernel
theorem dX9_isWord_8 : decode cX9_isWord 8 = .ok (.aload_n 0, 1) := by decide +kernel
theorem dX9_isWord_9 : decode cX9_isWord 9 = .ok (.getfield 25, 3) := by decide +kernel
theorem dX9_isWord_12 : decode cX9_isWord 12 = .ok (.aload_n 0, 1) := by decide +kernel
theorem dX9_isWord_13 : decode cX9_isWord 13 = .ok (.getfield 22, 3) := by decide +kernel
theorem dX9_isWord_16 : decode cX9_isWord 16 = .ok (.isub, 1) := by decide +kernel
theorem dX9_isWord_17 : decode cX9_isWord 17 = .ok (.aload_n 1, 1) := by decide +kernel
theorem dX9_isWord_18 : decode cX9_isWord 18 = .ok (.invokevirtual 51, 3) := by decide +kernel
theorem dX9_isWord_21 : decode cX9_isWord 21 = .ok (.if_icmp .eq 5, 3) := by decide +kernel
theorem dX9_isWord_24 : decode cX9_isWord 24 = .ok (.iconst 0, 1) := by decide +kernel
theorem dX9_isWord_25 : decode cX9_isWord 25 = .ok (.ireturn, 1) := by decide +kernel
theorem dX9_isWord_26 : decode cX9_isWord 26 = .ok (.iconst 0, 1) := by decide +kernel
theorem dX9_isWord_27 : decode cX9_isWord 27 = .ok (.istore_n 2, 1) := by decide +kernel
theorem dX9_isWord_28 : decode cX9_isWord 28 = .ok (.iload_n 2, 1) := by decide +kernel
theorem dX9_isWord_29 : decode cX9_isWord 29 = .ok (.aload_n 1, 1) := by decide +kernel
theorem dX9_isWord_30 : decode cX9_isWord 30 = .ok (.invokevirtual 51, 3) := by decide +kernel
theorem dX9_isWord_33 : decode cX9_isWord 33 = .ok (.if_icmp .ge 29, 3) := by decide +kernel
theorem dX9_isWord_36 : decode cX9_isWord 36 = .ok (.aload_n 0, 1) := by decide +kernel
theorem dX9_isWord_37 : decode cX9_isWord 37 = .ok (.aload_n 0, 1) := by decide +kernel
theorem dX9_isWord_38 : decode cX9_isWord 38 = .ok (.getfield 22, 3) := by decide +kernel
theorem dX9_isWord_41 : decode cX9_isWord 41 = .ok (.iload_n 2, 1) := by decide +kernel
theorem dX9_isWord_42 : decode cX9_isWord 42 = .ok (.iadd, 1) := by decide +kernel
theorem dX9_isWord_43 : decode cX9_isWord 43 = .ok (.invokevirtual 40, 3) := by decide +kernel
theorem dX9_isWord_46 : decode cX9_isWord 46 = .ok (.aload_n 1, 1) := by decide +kernel
theorem dX9_isWord_47 : decode cX9_isWord 47 = .ok (.iload_n 2, 1) := by decide +kernel
theorem dX9_isWord_48 : decode cX9_isWord 48 = .ok (.invokevirtual 56, 3) := by decide +kernel
theorem dX9_isWord_51 : decode cX9_isWord 51 = .ok (.if_icmp .eq 5, 3) := by decide +kernel
theorem dX9_isWord_54 : decode cX9_isWord 54 = .ok (.iconst 0, 1) := by decide +kernel
theorem dX9_isWord_55 : decode cX9_isWord 55 = .ok (.ireturn, 1) := by decide +kernel
theorem dX9_isWord_56 : decode cX9_isWord 56 = .ok (.iinc 2 1, 3) := by decide +kernel
theorem dX9_isWord_59 : decode cX9_isWord 59 = .ok (.goto (-31), 3) := by decide +kernel
theorem dX9_isWord_62 : decode cX9_isWord 62 = .ok (.iconst 1, 1) := by decide +kernel
theorem dX9_isWord_63 : decode cX9_isWord 63 = .ok (.ireturn, 1) := by decide +kernel
theorem dX9_isName_0 : decode cX9_isName 0 = .ok (.aload_n 0, 1) := by decide +kernel
theorem dX9_isName_1 : decode cX9_isName 1 = .ok (.getfield 19, 3) := by decide +kernel
theorem dX9_isName_4 : decode cX9_isName 4 = .ok (.iconst 1, 1) := by decide +kernel
theorem dX9_isName_5 : decode cX9_isName 5 = .ok (.if_icmp .ne 21, 3) := by decide +kernel
theorem dX9_isName_8 : decode cX9_isName 8 = .ok (.aload_n 0, 1) := by decide +kernel
theorem dX9_isName_9 : decode cX9_isName 9 = .ok (.getfield 25, 3) := by decide +kernel
theorem dX9_isName_12 : decode cX9_isName 12 = .ok (.aload_n 0, 1) := by decide +kernel
theorem dX9_isName_13 : decode cX9_isName 13 = .ok (.getfield 22, 3) := by decide +kernel
theorem dX9_isName_16 : decode cX9_isName 16 = .ok (.isub, 1) := by decide +kernel
theorem dX9_isName_17 : decode cX9_isName 17 = .ok (.bipush 8, 2) := by decide +kernel
theorem dX9_isName_19 : decode cX9_isName 19 = .ok (.if_icmp .gt 7, 3) := by decide +kernel
theorem dX9_isName_22 : decode cX9_isName 22 = .ok (.iconst 1, 1) := by decide +kernel
theorem dX9_isName_23 : decode cX9_isName 23 = .ok (.goto 4, 3) := by decide +kernel
theorem dX9_isName_26 : decode cX9_isName 26 = .ok (.iconst 0, 1) := by decide +kernel
theorem dX9_isName_27 : decode cX9_isName 27 = .ok (.ireturn, 1) := by decide +kernel
theorem dX9_name_0 : decode cX9_name 0 = .ok (.lconst 0, 1) := by decide +kernel
theorem dX9_name_1 : decode cX9_name 1 = .ok (.lstore_n 1, 1) := by decide +kernel
theorem dX9_name_2 : decode cX9_name 2 = .ok (.iconst 0, 1) := by decide +kernel
theorem dX9_name_3 : decode cX9_name 3 = .ok (.istore_n 3, 1) := by decide +kernel
theorem dX9_name_4 : decode cX9_name 4 = .ok (.iload_n 3, 1) := by decide +kernel
theorem dX9_name_5 : decode cX9_name 5 = .ok (.bipush 8, 2) := by decide +kernel
theorem dX9_name_7 : decode cX9_name 7 = .ok (.if_icmp .ge 45, 3) := by decide +kernel
theorem dX9_name_10 : decode cX9_name 10 = .ok (.aload_n 0, 1) := by decide +kernel
theorem dX9_name_11 : decode cX9_name 11 = .ok (.getfield 22, 3) := by decide +kernel
theorem dX9_name_14 : decode cX9_name 14 = .ok (.iload_n 3, 1) := by decide +kernel
theorem dX9_name_15 : decode cX9_name 15 = .ok (.iadd, 1) := by decide +kernel
theorem dX9_name_16 : decode cX9_name 16 = .ok (.aload_n 0, 1) := by decide +kernel
theorem dX9_name_17 : decode cX9_name 17 = .ok (.getfield 25, 3) := by decide +kernel
theorem dX9_name_20 : decode cX9_name 20 = .ok (.if_icmp .ge 32, 3) := by decide +kernel
theorem dX9_name_23 : decode cX9_name 23 = .ok (.lload_n 1, 1) := by decide +kernel
theorem dX9_name_24 : decode cX9_name 24 = .ok (.aload_n 0, 1) := by decide +kernel
theorem dX9_name_25 : decode cX9_name 25 = .ok (.aload_n 0, 1) := by decide +kernel
theorem dX9_name_26 : decode cX9_name 26 = .ok (.getfield 22, 3) := by decide +kernel
theorem dX9_name_29 : decode cX9_name 29 = .ok (.iload_n 3, 1) := by decide +kernel
theorem dX9_name_30 : decode cX9_name 30 = .ok (.iadd, 1) := by decide +kernel
theorem dX9_name_31 : decode cX9_name 31 = .ok (.invokevirtual 40, 3) := by decide +kernel
theorem dX9_name_34 : decode cX9_name 34 = .ok (.bipush 97, 2) := by decide +kernel
theorem dX9_name_36 : decode cX9_name 36 = .ok (.isub, 1) := by decide +kernel
theorem dX9_name_37 : decode cX9_name 37 = .ok (.iconst 1, 1) := by decide +kernel
theorem dX9_name_38 : decode cX9_name 38 = .ok (.iadd, 1) := by decide +kernel
theorem dX9_name_39 : decode cX9_name 39 = .ok (.i2l, 1) := by decide +kernel
theorem dX9_name_40 : decode cX9_name 40 = .ok (.iload_n 3, 1) := by decide +kernel
theorem dX9_name_41 : decode cX9_name 41 = .ok (.iconst 5, 1) := by decide +kernel
theorem dX9_name_42 : decode cX9_name 42 = .ok (.imul, 1) := by decide +kernel
theorem dX9_name_43 : decode cX9_name 43 = .ok (.lshl, 1) := by decide +kernel
theorem dX9_name_44 : decode cX9_name 44 = .ok (.lor, 1) := by decide +kernel
theorem dX9_name_45 : decode cX9_name 45 = .ok (.lstore_n 1, 1) := by decide +kernel
theorem dX9_name_46 : decode cX9_name 46 = .ok (.iinc 3 1, 3) := by decide +kernel
theorem dX9_name_49 : decode cX9_name 49 = .ok (.goto (-45), 3) := by decide +kernel
theorem dX9_name_52 : decode cX9_name 52 = .ok (.lload_n 1, 1) := by decide +kernel
theorem dX9_name_53 : decode cX9_name 53 = .ok (.lreturn, 1) := by decide +kernel
theorem dX9_packed_0 : decode cX9_packed 0 = .ok (.lconst 0, 1) := by decide +kernel
theorem dX9_packed_1 : decode cX9_packed 1 = .ok (.lstore_n 1, 1) := by decide +kernel
theorem dX9_packed_2 : decode cX9_packed 2 = .ok (.iconst 0, 1) := by decide +kernel
theorem dX9_packed_3 : decode cX9_packed 3 = .ok (.istore_n 3, 1) := by decide +kernel
theorem dX9_packed_4 : decode cX9_packed 4 = .ok (.iload_n 3, 1) := by decide +kernel
theorem dX9_packed_5 : decode cX9_packed 5 = .ok (.bipush 8, 2) := by decide +kernel
theorem dX9_packed_7 : decode cX9_packed 7 = .ok (.if_icmp .ge 35, 3) := by decide +kernel
theorem dX9_packed_10 : decode cX9_packed 10 = .ok (.iload_n 3, 1) := by decide +kernel
theorem dX9_packed_11 : decode cX9_packed 11 = .ok (.aload_n 0, 1) := by decide +kernel
theorem dX9_packed_12 : decode cX9_packed 12 = .ok (.invokevirtual 51, 3) := by decide +kernel
theorem dX9_packed_15 : decode cX9_packed 15 = .ok (.if_icmp .ge 27, 3) := by decide +kernel
theorem dX9_packed_18 : decode cX9_packed 18 = .ok (.lload_n 1, 1) := by decide +kernel
theorem dX9_packed_19 : decode cX9_packed 19 = .ok (.aload_n 0, 1) := by decide +kernel
theorem dX9_packed_20 : decode cX9_packed 20 = .ok (.iload_n 3, 1) := by decide +kernel
theorem dX9_packed_21 : decode cX9_packed 21 = .ok (.invokevirtual 56, 3) := by decide +kernel
theorem dX9_packed_24 : decode cX9_packed 24 = .ok (.bipush 97, 2) := by decide +kernel
theorem dX9_packed_26 : decode cX9_packed 26 = .ok (.isub, 1) := by decide +kernel
theorem dX9_packed_27 : decode cX9_packed 27 = .ok (.iconst 1, 1) := by decide +kernel
theorem dX9_packed_28 : decode cX9_packed 28 = .ok (.iadd, 1) := by decide +kernel
theorem dX9_packed_29 : decode cX9_packed 29 = .ok (.i2l, 1) := by decide +kernel
theorem dX9_packed_30 : decode cX9_packed 30 = .ok (.iload_n 3, 1) := by decide +kernel
theorem dX9_packed_31 : decode cX9_packed 31 = .ok (.iconst 5, 1) := by decide +kernel
theorem dX9_packed_32 : decode cX9_packed 32 = .ok (.imul, 1) := by decide +kernel
theorem dX9_packed_33 : decode cX9_packed 33 = .ok (.lshl, 1) := by decide +kernel
theorem dX9_packed_34 : decode cX9_packed 34 = .ok (.lor, 1) := by decide +kernel
theorem dX9_packed_35 : decode cX9_packed 35 = .ok (.lstore_n 1, 1) := by decide +kernel
theorem dX9_packed_36 : decode cX9_packed 36 = .ok (.iinc 3 1, 3) := by decide +kernel
theorem dX9_packed_39 : decode cX9_packed 39 = .ok (.goto (-35), 3) := by decide +kernel
theorem dX9_packed_42 : decode cX9_packed 42 = .ok (.lload_n 1, 1) := by decide +kernel
theorem dX9_packed_43 : decode cX9_packed 43 = .ok (.lreturn, 1) := by decide +kernel
theorem dX10_init_0 : decode cX10_init 0 = .ok (.aload_n 0, 1) := by decide +kernel
theorem dX10_init_1 : decode cX10_init 1 = .ok (.invokespecial 3, 3) := by decide +kernel
theorem dX10_init_4 : decode cX10_init 4 = .ok (.aload_n 0, 1) := by decide +kernel
theorem dX10_init_5 : decode cX10_init 5 = .ok (.sipush 600, 3) := by decide +kernel
theorem dX10_init_8 : decode cX10_init 8 = .ok (.newarray .int, 2) := by decide +kernel
theorem dX10_init_10 : decode cX10_init 10 = .ok (.putfield 9, 3) := by decide +kernel
theorem dX10_init_13 : decode cX10_init 13 = .ok (.aload_n 0, 1) := by decide +kernel
theorem dX10_init_14 : decode cX10_init 14 = .ok (.iconst 0, 1) := by decide +kernel
theorem dX10_init_15 : decode cX10_init 15 = .ok (.putfield 13, 3) := by decide +kernel
theorem dX10_init_18 : decode cX10_init 18 = .ok (.aload_n 0, 1) := by decide +kernel
theorem dX10_init_19 : decode cX10_init 19 = .ok (.iconst 0, 1) := by decide +kernel
theorem dX10_init_20 : decode cX10_init 20 = .ok (.putfield 17, 3) := by decide +kernel
theorem dX10_init_23 : decode cX10_init 23 = .ok (.aload_n 0, 1) := by decide +kernel
theorem dX10_init_24 : decode cX10_init 24 = .ok (.iconst (-1), 1) := by decide +kernel
theorem dX10_init_25 : decode cX10_init 25 = .ok (.putfield 20, 3) := by decide +kernel
theorem dX10_init_28 : decode cX10_init 28 = .ok (.aload_n 0, 1) := by decide +kernel
theorem dX10_init_29 : decode cX10_init 29 = .ok (.new 23, 3) := by decide +kernel
theorem dX10_init_32 : decode cX10_init 32 = .ok (.dup, 1) := by decide +kernel
theorem dX10_init_33 : decode cX10_init 33 = .ok (.invokespecial 25, 3) := by decide +kernel
theorem dX10_init_36 : decode cX10_init 36 = .ok (.putfield 26, 3) := by decide +kernel
theorem dX10_init_39 : decode cX10_init 39 = .ok (.aload_n 0, 1) := by decide +kernel
theorem dX10_init_40 : decode cX10_init 40 = .ok (.new 30, 3) := by decide +kernel
theorem dX10_init_43 : decode cX10_init 43 = .ok (.dup, 1) := by decide +kernel
theorem dX10_init_44 : decode cX10_init 44 = .ok (.invokespecial 32, 3) := by decide +kernel
theorem dX10_init_47 : decode cX10_init 47 = .ok (.putfield 33, 3) := by decide +kernel
theorem dX10_init_50 : decode cX10_init 50 = .ok (.aload_n 0, 1) := by decide +kernel
theorem dX10_init_51 : decode cX10_init 51 = .ok (.new 37, 3) := by decide +kernel
theorem dX10_init_54 : decode cX10_init 54 = .ok (.dup, 1) := by decide +kernel
theorem dX10_init_55 : decode cX10_init 55 = .ok (.invokespecial 39, 3) := by decide +kernel
theorem dX10_init_58 : decode cX10_init 58 = .ok (.putfield 40, 3) := by decide +kernel
theorem dX10_init_61 : decode cX10_init 61 = .ok (.aload_n 0, 1) := by decide +kernel
theorem dX10_init_62 : decode cX10_init 62 = .ok (.new 44, 3) := by decide +kernel
theorem dX10_init_65 : decode cX10_init 65 = .ok (.dup, 1) := by decide +kernel
theorem dX10_init_66 : decode cX10_init 66 = .ok (.invokespecial 46, 3) := by decide +kernel
theorem dX10_init_69 : decode cX10_init 69 = .ok (.putfield 47, 3) := by decide +kernel
theorem dX10_init_72 : decode cX10_init 72 = .ok (.aload_n 0, 1) := by decide +kernel
theorem dX10_init_73 : decode cX10_init 73 = .ok (.new 51, 3) := by decide +kernel
theorem dX10_init_76 : decode cX10_init 76 = .ok (.dup, 1) := by decide +kernel
theorem dX10_init_77 : decode cX10_init 77 = .ok (.invokespecial 53, 3) := by decide +kernel
theorem dX10_init_80 : decode cX10_init 80 = .ok (.putfield 54, 3) := by decide +kernel
theorem dX10_init_83 : decode cX10_init 83 = .ok (.aload_n 0, 1) := by decide +kernel
theorem dX10_init_84 : decode cX10_init 84 = .ok (.iconst 2, 1) := by decide +kernel
theorem dX10_init_85 : decode cX10_init 85 = .ok (.anewarray 37, 3) := by decide +kernel
theorem dX10_init_88 : decode cX10_init 88 = .ok (.putfield 58, 3) := by decide +kernel
theorem dX10_init_91 : decode cX10_init 91 = .ok (.aload_n 0, 1) := by decide +kernel
theorem dX10_init_92 : decode cX10_init 92 = .ok (.iconst 2, 1) := by decide +kernel
theorem dX10_init_93 : decode cX10_init 93 = .ok (.newarray .boolean, 2) := by decide +kernel
theorem dX10_init_95 : decode cX10_init 95 = .ok (.putfield 62, 3) := by decide +kernel
theorem dX10_init_98 : decode cX10_init 98 = .ok (.aload_n 0, 1) := by decide +kernel
theorem dX10_init_99 : decode cX10_init 99 = .ok (.new 66, 3) := by decide +kernel
theorem dX10_init_102 : decode cX10_init 102 = .ok (.dup, 1) := by decide +kernel
theorem dX10_init_103 : decode cX10_init 103 = .ok (.invokespecial 68, 3) := by decide +kernel
theorem dX10_init_106 : decode cX10_init 106 = .ok (.putfield 69, 3) := by decide +kernel
theorem dX10_init_109 : decode cX10_init 109 = .ok (.aload_n 0, 1) := by decide +kernel
theorem dX10_init_110 : decode cX10_init 110 = .ok (.new 73, 3) := by decide +kernel
theorem dX10_init_113 : decode cX10_init 113 = .ok (.dup, 1) := by decide +kernel
theorem dX10_init_114 : decode cX10_init 114 = .ok (.invokespecial 75, 3) := by decide +kernel
theorem dX10_init_117 : decode cX10_init 117 = .ok (.putfield 76, 3) := by decide +kernel
theorem dX10_init_120 : decode cX10_init 120 = .ok (.aload_n 0, 1) := by decide +kernel
theorem dX10_init_121 : decode cX10_init 121 = .ok (.new 80, 3) := by decide +kernel
theorem dX10_init_124 : decode cX10_init 124 = .ok (.dup, 1) := by decide +kernel
theorem dX10_init_125 : decode cX10_init 125 = .ok (.invokespecial 82, 3) := by decide +kernel
theorem dX10_init_128 : decode cX10_init 128 = .ok (.putfield 83, 3) := by decide +kernel
theorem dX10_init_131 : decode cX10_init 131 = .ok (.aload_n 0, 1) := by decide +kernel
theorem dX10_init_132 : decode cX10_init 132 = .ok (.new 87, 3) := by decide +kernel
theorem dX10_init_135 : decode cX10_init 135 = .ok (.dup, 1) := by decide +kernel
theorem dX10_init_136 : decode cX10_init 136 = .ok (.invokespecial 89, 3) := by decide +kernel
theorem dX10_init_139 : decode cX10_init 139 = .ok (.putfield 90, 3) := by decide +kernel
theorem dX10_init_142 : decode cX10_init 142 = .ok (.iconst 0, 1) := by decide +kernel
theorem dX10_init_143 : decode cX10_init 143 = .ok (.istore_n 1, 1) := by decide +kernel
theorem dX10_init_144 : decode cX10_init 144 = .ok (.iload_n 1, 1) := by decide +kernel
theorem dX10_init_145 : decode cX10_init 145 = .ok (.iconst 2, 1) := by decide +kernel
theorem dX10_init_146 : decode cX10_init 146 = .ok (.if_icmp .ge 22, 3) := by decide +kernel
theorem dX10_init_149 : decode cX10_init 149 = .ok (.aload_n 0, 1) := by decide +kernel
theorem dX10_init_150 : decode cX10_init 150 = .ok (.getfield 58, 3) := by decide +kernel
theorem dX10_init_153 : decode cX10_init 153 = .ok (.iload_n 1, 1) := by decide +kernel
theorem dX10_init_154 : decode cX10_init 154 = .ok (.new 37, 3) := by decide +kernel
theorem dX10_init_157 : decode cX10_init 157 = .ok (.dup, 1) := by decide +kernel
theorem dX10_init_158 : decode cX10_init 158 = .ok (.invokespecial 39, 3) := by decide +kernel
theorem dX10_init_161 : decode cX10_init 161 = .ok (.aastore, 1) := by decide +kernel
theorem dX10_init_162 : decode cX10_init 162 = .ok (.iinc 1 1, 3) := by decide +kernel
theorem dX10_init_165 : decode cX10_init 165 = .ok (.goto (-21), 3) := by decide +kernel
theorem dX10_init_168 : decode cX10_init 168 = .ok (.aload_n 0, 1) := by decide +kernel
theorem dX10_init_169 : decode cX10_init 169 = .ok (.getfield 40, 3) := by decide +kernel
theorem dX10_init_172 : decode cX10_init 172 = .ok (.invokevirtual 94, 3) := by decide +kernel
theorem dX10_init_175 : decode cX10_init 175 = .ok (.return_, 1) := by decide +kernel
theorem dX10_appendInput_0 : decode cX10_appendInput 0 = .ok (.aload_n 0, 1) := by decide +kernel
theorem dX10_appendInput_1 : decode cX10_appendInput 1 = .ok (.getfield 13, 3) := by decide +kernel
theorem dX10_appendInput_4 : decode cX10_appendInput 4 = .ok (.bipush 20, 2) := by decide +kernel
theorem dX10_appendInput_6 : decode cX10_appendInput 6 = .ok (.iadd, 1) := by decide +kernel
theorem dX10_appendInput_7 : decode cX10_appendInput 7 = .ok (.sipush 600, 3) := by decide +kernel
theorem dX10_appendInput_10 : decode cX10_appendInput 10 = .ok (.if_icmp .le 5, 3) := by decide +kernel
theorem dX10_appendInput_13 : decode cX10_appendInput 13 = .ok (.iconst (-1), 1) := by decide +kernel
theorem dX10_appendInput_14 : decode cX10_appendInput 14 = .ok (.ireturn, 1) := by decide +kernel
theorem dX10_appendInput_15 : decode cX10_appendInput 15 = .ok (.aload_n 0, 1) := by decide +kernel
theorem dX10_appendInput_16 : decode cX10_appendInput 16 = .ok (.iload_n 1, 1) := by decide +kernel
theorem dX10_appendInput_17 : decode cX10_appendInput 17 = .ok (.invokevirtual 97, 3) := by decide +kernel
theorem dX10_appendInput_20 : decode cX10_appendInput 20 = .ok (.aload_n 0, 1) := by decide +kernel
theorem dX10_appendInput_21 : decode cX10_appendInput 21 = .ok (.iload_n 2, 1) := by decide +kernel
theorem dX10_appendInput_22 : decode cX10_appendInput 22 = .ok (.invokevirtual 97, 3) := by decide +kernel
theorem dX10_appendInput_25 : decode cX10_appendInput 25 = .ok (.aload_n 0, 1) := by decide +kernel
theorem dX10_appendInput_26 : decode cX10_appendInput 26 = .ok (.iload_n 3, 1) := by decide +kernel
theorem dX10_appendInput_27 : decode cX10_appendInput 27 = .ok (.invokevirtual 97, 3) := by decide +kernel
theorem dX10_appendInput_30 : decode cX10_appendInput 30 = .ok (.aload_n 0, 1) := by decide +kernel
theorem dX10_appendInput_31 : decode cX10_appendInput 31 = .ok (.iload 4, 2) := by decide +kernel
theorem dX10_appendInput_33 : decode cX10_appendInput 33 = .ok (.invokevirtual 97, 3) := by decide +kernel
theorem dX10_appendInput_36 : decode cX10_appendInput 36 = .ok (.aload_n 0, 1) := by decide +kernel
theorem dX10_appendInput_37 : decode cX10_appendInput 37 = .ok (.iload 5, 2) := by decide +kernel
theorem dX10_appendInput_39 : decode cX10_appendInput 39 = .ok (.invokevirtual 97, 3) := by decide +kernel
theorem dX10_appendInput_42 : decode cX10_appendInput 42 = .ok (.aload_n 0, 1) := by decide +kernel
theorem dX10_appendInput_43 : decode cX10_appendInput 43 = .ok (.getfield 13, 3) := by decide +kernel
theorem dX10_appendInput_46 : decode cX10_appendInput 46 = .ok (.ireturn, 1) := by decide +kernel
theorem dX10_appendFour_0 : decode cX10_appendFour 0 = .ok (.bipush 24, 2) := by decide +kernel
theorem dX10_appendFour_2 : decode cX10_appendFour 2 = .ok (.istore_n 2, 1) := by decide +kernel
theorem dX10_appendFour_3 : decode cX10_appendFour 3 = .ok (.iload_n 2, 1) := by decide +kernel
theorem dX10_appendFour_4 : decode cX10_appendFour 4 = .ok (.ifCond .lt 45, 3) := by decide +kernel
theorem dX10_appendFour_7 : decode cX10_appendFour 7 = .ok (.aload_n 0, 1) := by decide +kernel
theorem dX10_appendFour_8 : decode cX10_appendFour 8 = .ok (.getfield 13, 3) := by decide +kernel
theorem dX10_appendFour_11 : decode cX10_appendFour 11 = .ok (.sipush 600, 3) := by decide +kernel
theorem dX10_appendFour_14 : decode cX10_appendFour 14 = .ok (.if_icmp .ge 29, 3) := by decide +kernel
theorem dX10_appendFour_17 : decode cX10_appendFour 17 = .ok (.aload_n 0, 1) := by decide +kernel
theorem dX10_appendFour_18 : decode cX10_appendFour 18 = .ok (.getfield 9, 3) := by decide +kernel
theorem dX10_appendFour_21 : decode cX10_appendFour 21 = .ok (.aload_n 0, 1) := by decide +kernel
theorem dX10_appendFour_22 : decode cX10_appendFour 22 = .ok (.getfield 13, 3) := by decide +kernel
theorem dX10_appendFour_25 : decode cX10_appendFour 25 = .ok (.iload_n 1, 1) := by decide +kernel
theorem dX10_appendFour_26 : decode cX10_appendFour 26 = .ok (.iload_n 2, 1) := by decide +kernel
theorem dX10_appendFour_27 : decode cX10_appendFour 27 = .ok (.iushr, 1) := by decide +kernel
theorem dX10_appendFour_28 : decode cX10_appendFour 28 = .ok (.sipush 255, 3) := by decide +kernel
theorem dX10_appendFour_31 : decode cX10_appendFour 31 = .ok (.iand, 1) := by decide +kernel
theorem dX10_appendFour_32 : decode cX10_appendFour 32 = .ok (.iastore, 1) := by decide +kernel
theorem dX10_appendFour_33 : decode cX10_appendFour 33 = .ok (.aload_n 0, 1) := by decide +kernel
theorem dX10_appendFour_34 : decode cX10_appendFour 34 = .ok (.dup, 1) := by decide +kernel
theorem dX10_appendFour_35 : decode cX10_appendFour 35 = .ok (.getfield 13, 3) := by decide +kernel
theorem dX10_appendFour_38 : decode cX10_appendFour 38 = .ok (.iconst 1, 1) := by decide +kernel
theorem dX10_appendFour_39 : decode cX10_appendFour 39 = .ok (.iadd, 1) := by decide +kernel
theorem dX10_appendFour_40 : decode cX10_appendFour 40 = .ok (.putfield 13, 3) := by decide +kernel
theorem dX10_appendFour_43 : decode cX10_appendFour 43 = .ok (.iinc 2 (-8), 3) := by decide +kernel
theorem dX10_appendFour_46 : decode cX10_appendFour 46 = .ok (.goto (-43), 3) := by decide +kernel
theorem dX10_appendFour_49 : decode cX10_appendFour 49 = .ok (.return_, 1) := by decide +kernel
theorem dX10_truncateInput_0 : decode cX10_truncateInput 0 = .ok (.iload_n 1, 1) := by decide +kernel
theorem dX10_truncateInput_1 : decode cX10_truncateInput 1 = .ok (.ifCond .lt 11, 3) := by decide +kernel
theorem dX10_truncateInput_4 : decode cX10_truncateInput 4 = .ok (.iload_n 1, 1) := by decide +kernel
theorem dX10_truncateInput_5 : decode cX10_truncateInput 5 = .ok (.aload_n 0, 1) := by decide +kernel
theorem dX10_truncateInput_6 : decode cX10_truncateInput 6 = .ok (.getfield 13, 3) := by decide +kernel
theorem dX10_truncateInput_9 : decode cX10_truncateInput 9 = .ok (.if_icmp .le 5, 3) := by decide +kernel
theorem dX10_truncateInput_12 : decode cX10_truncateInput 12 = .ok (.iconst 0, 1) := by decide +kernel
theorem dX10_truncateInput_13 : decode cX10_truncateInput 13 = .ok (.ireturn, 1) := by decide +kernel
theorem dX10_truncateInput_14 : decode cX10_truncateInput 14 = .ok (.aload_n 0, 1) := by decide +kernel
theorem dX10_truncateInput_15 : decode cX10_truncateInput 15 = .ok (.iload_n 1, 1) := by decide +kernel
theorem dX10_truncateInput_16 : decode cX10_truncateInput 16 = .ok (.putfield 13, 3) := by decide +kernel
theorem dX10_truncateInput_19 : decode cX10_truncateInput 19 = .ok (.iconst 1, 1) := by decide +kernel
theorem dX10_truncateInput_20 : decode cX10_truncateInput 20 = .ok (.ireturn, 1) := by decide +kernel
theorem dX10_loadHeaps_0 : decode cX10_loadHeaps 0 = .ok (.aload_n 0, 1) := by decide +kernel
theorem dX10_loadHeaps_1 : decode cX10_loadHeaps 1 = .ok (.aload_n 0, 1) := by decide +kernel
theorem dX10_loadHeaps_2 : decode cX10_loadHeaps 2 = .ok (.getfield 26, 3) := by decide +kernel
theorem dX10_loadHeaps_5 : decode cX10_loadHeaps 5 = .ok (.aload_n 0, 1) := by decide +kernel
theorem dX10_loadHeaps_6 : decode cX10_loadHeaps 6 = .ok (.getfield 9, 3) := by decide +kernel
theorem dX10_loadHeaps_9 : decode cX10_loadHeaps 9 = .ok (.aload_n 0, 1) := by decide +kernel
theorem dX10_loadHeaps_10 : decode cX10_loadHeaps 10 = .ok (.getfield 13, 3) := by decide +kernel
theorem dX10_loadHeaps_13 : decode cX10_loadHeaps 13 = .ok (.invokevirtual 101, 3) := by decide +kernel
theorem dX10_loadHeaps_16 : decode cX10_loadHeaps 16 = .ok (.putfield 17, 3) := by decide +kernel
theorem dX10_loadHeaps_19 : decode cX10_loadHeaps 19 = .ok (.aload_n 0, 1) := by decide +kernel
theorem dX10_loadHeaps_20 : decode cX10_loadHeaps 20 = .ok (.aload_n 0, 1) := by decide +kernel
theorem dX10_loadHeaps_21 : decode cX10_loadHeaps 21 = .ok (.getfield 26, 3) := by decide +kernel
theorem dX10_loadHeaps_24 : decode cX10_loadHeaps 24 = .ok (.getfield 105, 3) := by decide +kernel
theorem dX10_loadHeaps_27 : decode cX10_loadHeaps 27 = .ok (.putfield 20, 3) := by decide +kernel
theorem dX10_loadHeaps_30 : decode cX10_loadHeaps 30 = .ok (.aload_n 0, 1) := by decide +kernel
theorem dX10_loadHeaps_31 : decode cX10_loadHeaps 31 = .ok (.iconst 0, 1) := by decide +kernel
theorem dX10_loadHeaps_32 : decode cX10_loadHeaps 32 = .ok (.putfield 13, 3) := by decide +kernel
theorem dX10_loadHeaps_35 : decode cX10_loadHeaps 35 = .ok (.aload_n 0, 1) := by decide +kernel
theorem dX10_loadHeaps_36 : decode cX10_loadHeaps 36 = .ok (.getfield 17, 3) := by decide +kernel
theorem dX10_loadHeaps_39 : decode cX10_loadHeaps 39 = .ok (.ifCond .eq 5, 3) := by decide +kernel
theorem dX10_loadHeaps_42 : decode cX10_loadHeaps 42 = .ok (.iconst (-1), 1) := by decide +kernel
theorem dX10_loadHeaps_43 : decode cX10_loadHeaps 43 = .ok (.ireturn, 1) := by decide +kernel
theorem dX10_loadHeaps_44 : decode cX10_loadHeaps 44 = .ok (.aload_n 0, 1) := by decide +kernel
theorem dX10_loadHeaps_45 : decode cX10_loadHeaps 45 = .ok (.getfield 40, 3) := by decide +kernel
theorem dX10_loadHeaps_48 : decode cX10_loadHeaps 48 = .ok (.aload_n 0, 1) := by decide +kernel
theorem dX10_loadHeaps_49 : decode cX10_loadHeaps 49 = .ok (.getfield 26, 3) := by decide +kernel
theorem dX10_loadHeaps_52 : decode cX10_loadHeaps 52 = .ok (.getfield 108, 3) := by decide +kernel
theorem dX10_loadHeaps_55 : decode cX10_loadHeaps 55 = .ok (.invokevirtual 111, 3) := by decide +kernel
theorem dX10_loadHeaps_58 : decode cX10_loadHeaps 58 = .ok (.aload_n 0, 1) := by decide +kernel
theorem dX10_loadHeaps_59 : decode cX10_loadHeaps 59 = .ok (.getfield 54, 3) := by decide +kernel
theorem dX10_loadHeaps_62 : decode cX10_loadHeaps 62 = .ok (.invokevirtual 115, 3) := by decide +kernel
theorem dX10_loadHeaps_65 : decode cX10_loadHeaps 65 = .ok (.iconst 0, 1) := by decide +kernel
theorem dX10_loadHeaps_66 : decode cX10_loadHeaps 66 = .ok (.istore_n 1, 1) := by decide +kernel
theorem dX10_loadHeaps_67 : decode cX10_loadHeaps 67 = .ok (.iload_n 1, 1) := by decide +kernel
theorem dX10_loadHeaps_68 : decode cX10_loadHeaps 68 = .ok (.iconst 2, 1) := by decide +kernel
theorem dX10_loadHeaps_69 : decode cX10_loadHeaps 69 = .ok (.if_icmp .ge 16, 3) := by decide +kernel
theorem dX10_loadHeaps_72 : decode cX10_loadHeaps 72 = .ok (.aload_n 0, 1) := by decide +kernel
theorem dX10_loadHeaps_73 : decode cX10_loadHeaps 73 = .ok (.getfield 62, 3) := by decide +kernel
theorem dX10_loadHeaps_76 : decode cX10_loadHeaps 76 = .ok (.iload_n 1, 1) := by decide +kernel
theorem dX10_loadHeaps_77 : decode cX10_loadHeaps 77 = .ok (.iconst 0, 1) := by decide +kernel
theorem dX10_loadHeaps_78 : decode cX10_loadHeaps 78 = .ok (.bastore, 1) := by decide +kernel
theorem dX10_loadHeaps_79 : decode cX10_loadHeaps 79 = .ok (.iinc 1 1, 3) := by decide +kernel
theorem dX10_loadHeaps_82 : decode cX10_loadHeaps 82 = .ok (.goto (-15), 3) := by decide +kernel
theorem dX10_loadHeaps_85 : decode cX10_loadHeaps 85 = .ok (.aload_n 0, 1) := by decide +kernel
theorem dX10_loadHeaps_86 : decode cX10_loadHeaps 86 = .ok (.getfield 40, 3) := by decide +kernel
theorem dX10_loadHeaps_89 : decode cX10_loadHeaps 89 = .ok (.getfield 118, 3) := by decide +kernel
theorem dX10_loadHeaps_92 : decode cX10_loadHeaps 92 = .ok (.invokevirtual 121, 3) := by decide +kernel
theorem dX10_loadHeaps_95 : decode cX10_loadHeaps 95 = .ok (.ireturn, 1) := by decide +kernel
theorem dX10_errorCode_0 : decode cX10_errorCode 0 = .ok (.aload_n 0, 1) := by decide +kernel
theorem dX10_errorCode_1 : decode cX10_errorCode 1 = .ok (.getfield 17, 3) := by decide +kernel
theorem dX10_errorCode_4 : decode cX10_errorCode 4 = .ok (.ireturn, 1) := by decide +kernel
theorem dX10_errorOffset_0 : decode cX10_errorOffset 0 = .ok (.aload_n 0, 1) := by decide +kernel
theorem dX10_errorOffset_1 : decode cX10_errorOffset 1 = .ok (.getfield 20, 3) := by decide +kernel
theorem dX10_errorOffset_4 : decode cX10_errorOffset 4 = .ok (.ireturn, 1) := by decide +kernel
theorem dX10_count_0 : decode cX10_count 0 = .ok (.iload_n 1, 1) := by decide +kernel
theorem dX10_count_1 : decode cX10_count 1 = .ok (.tableswitch 216 0 12 #[67, 75, 86, 97, 105, 113, 128, 143, 158, 181, 189, 197, 208], 67) := by decide +kernel
theorem dX10_count_68 : decode cX10_count 68 = .ok (.aload_n 0, 1) := by decide +kernel
theorem dX10_count_69 : decode cX10_count 69 = .ok (.getfield 40, 3) := by decide +kernel
theorem dX10_count_72 : decode cX10_count 72 = .ok (.getfield 125, 3) := by decide +kernel
theorem dX10_count_75 : decode cX10_count 75 = .ok (.ireturn, 1) := by decide +kernel
theorem dX10_count_76 : decode cX10_count 76 = .ok (.aload_n 0, 1) := by decide +kernel
theorem dX10_count_77 : decode cX10_count 77 = .ok (.getfield 40, 3) := by decide +kernel
theorem dX10_count_80 : decode cX10_count 80 = .ok (.getfield 118, 3) := by decide +kernel
theorem dX10_count_83 : decode cX10_count 83 = .ok (.getfield 128, 3) := by decide +kernel
theorem dX10_count_86 : decode cX10_count 86 = .ok (.ireturn, 1) := by decide +kernel
theorem dX10_count_87 : decode cX10_count 87 = .ok (.aload_n 0, 1) := by decide +kernel
theorem dX10_count_88 : decode cX10_count 88 = .ok (.getfield 40, 3) := by decide +kernel
theorem dX10_count_91 : decode cX10_count 91 = .ok (.getfield 118, 3) := by decide +kernel
theorem dX10_count_94 : decode cX10_count 94 = .ok (.getfield 131, 3) := by decide +kernel
theorem dX10_count_97 : decode cX10_count 97 = .ok (.ireturn, 1) := by decide +kernel
theorem dX10_count_98 : decode cX10_count 98 = .ok (.aload_n 0, 1) := by decide +kernel
theorem dX10_count_99 : decode cX10_count 99 = .ok (.getfield 40, 3) := by decide +kernel
theorem dX10_count_102 : decode cX10_count 102 = .ok (.getfield 134, 3) := by decide +kernel
theorem dX10_count_105 : decode cX10_count 105 = .ok (.ireturn, 1) := by decide +kernel
theorem dX10_count_106 : decode cX10_count 106 = .ok (.aload_n 0, 1) := by decide +kernel
theorem dX10_count_107 : decode cX10_count 107 = .ok (.getfield 40, 3) := by decide +kernel
theorem dX10_count_110 : decode cX10_count 110 = .ok (.getfield 137, 3) := by decide +kernel
theorem dX10_count_113 : decode cX10_count 113 = .ok (.ireturn, 1) := by decide +kernel
theorem dX10_count_114 : decode cX10_count 114 = .ok (.aload_n 0, 1) := by decide +kernel
theorem dX10_count_115 : decode cX10_count 115 = .ok (.invokevirtual 140, 3) := by decide +kernel
theorem dX10_count_118 : decode cX10_count 118 = .ok (.aload_n 0, 1) := by decide +kernel
theorem dX10_count_119 : decode cX10_count 119 = .ok (.getfield 40, 3) := by decide +kernel
theorem dX10_count_122 : decode cX10_count 122 = .ok (.getfield 118, 3) := by decide +kernel
theorem dX10_count_125 : decode cX10_count 125 = .ok (.invokevirtual 144, 3) := by decide +kernel
theorem dX10_count_128 : decode cX10_count 128 = .ok (.ireturn, 1) := by decide +kernel
theorem dX10_count_129 : decode cX10_count 129 = .ok (.aload_n 0, 1) := by decide +kernel
theorem dX10_count_130 : decode cX10_count 130 = .ok (.invokevirtual 140, 3) := by decide +kernel
theorem dX10_count_133 : decode cX10_count 133 = .ok (.aload_n 0, 1) := by decide +kernel
theorem dX10_count_134 : decode cX10_count 134 = .ok (.getfield 40, 3) := by decide +kernel
theorem dX10_count_137 : decode cX10_count 137 = .ok (.getfield 118, 3) := by decide +kernel
theorem dX10_count_140 : decode cX10_count 140 = .ok (.invokevirtual 148, 3) := by decide +kernel
theorem dX10_count_143 : decode cX10_count 143 = .ok (.ireturn, 1) := by decide +kernel
theorem dX10_count_144 : decode cX10_count 144 = .ok (.aload_n 0, 1) := by decide +kernel
theorem dX10_count_145 : decode cX10_count 145 = .ok (.invokevirtual 140, 3) := by decide +kernel
theorem dX10_count_148 : decode cX10_count 148 = .ok (.aload_n 0, 1) := by decide +kernel
theorem dX10_count_149 : decode cX10_count 149 = .ok (.getfield 40, 3) := by decide +kernel
theorem dX10_count_152 : decode cX10_count 152 = .ok (.getfield 118, 3) := by decide +kernel
theorem dX10_count_155 : decode cX10_count 155 = .ok (.invokevirtual 151, 3) := by decide +kernel
theorem dX10_count_158 : decode cX10_count 158 = .ok (.ireturn, 1) := by decide +kernel
theorem dX10_count_159 : decode cX10_count 159 = .ok (.aload_n 0, 1) := by decide +kernel
theorem dX10_count_160 : decode cX10_count 160 = .ok (.invokevirtual 140, 3) := by decide +kernel
theorem dX10_count_163 : decode cX10_count 163 = .ok (.aload_n 0, 1) := by decide +kernel
theorem dX10_count_164 : decode cX10_count 164 = .ok (.getfield 40, 3) := by decide +kernel
theorem dX10_count_167 : decode cX10_count 167 = .ok (.getfield 118, 3) := by decide +kernel
theorem dX10_count_170 : decode cX10_count 170 = .ok (.invokevirtual 154, 3) := by decide +kernel
theorem dX10_count_173 : decode cX10_count 173 = .ok (.ifCond .eq 7, 3) := by decide +kernel
theorem dX10_count_176 : decode cX10_count 176 = .ok (.iconst 1, 1) := by decide +kernel
theorem dX10_count_177 : decode cX10_count 177 = .ok (.goto 4, 3) := by decide +kernel
theorem dX10_count_180 : decode cX10_count 180 = .ok (.iconst 0, 1) := by decide +kernel
theorem dX10_count_181 : decode cX10_count 181 = .ok (.ireturn, 1) := by decide +kernel
theorem dX10_count_182 : decode cX10_count 182 = .ok (.aload_n 0, 1) := by decide +kernel
theorem dX10_count_183 : decode cX10_count 183 = .ok (.getfield 40, 3) := by decide +kernel
theorem dX10_count_186 : decode cX10_count 186 = .ok (.getfield 158, 3) := by decide +kernel
theorem dX10_count_189 : decode cX10_count 189 = .ok (.ireturn, 1) := by decide +kernel
theorem dX10_count_190 : decode cX10_count 190 = .ok (.aload_n 0, 1) := by decide +kernel
theorem dX10_count_191 : decode cX10_count 191 = .ok (.getfield 54, 3) := by decide +kernel
theorem dX10_count_194 : decode cX10_count 194 = .ok (.getfield 161, 3) := by decide +kernel
theorem dX10_count_197 : decode cX10_count 197 = .ok (.ireturn, 1) := by decide +kernel
theorem dX10_count_198 : decode cX10_count 198 = .ok (.aload_n 0, 1) := by decide +kernel
theorem dX10_count_199 : decode cX10_count 199 = .ok (.getfield 40, 3) := by decide +kernel
theorem dX10_count_202 : decode cX10_count 202 = .ok (.getfield 118, 3) := by decide +kernel
theorem dX10_count_205 : decode cX10_count 205 = .ok (.invokevirtual 163, 3) := by decide +kernel
theorem dX10_count_208 : decode cX10_count 208 = .ok (.ireturn, 1) := by decide +kernel
theorem dX10_count_209 : decode cX10_count 209 = .ok (.aload_n 0, 1) := by decide +kernel
theorem dX10_count_210 : decode cX10_count 210 = .ok (.getfield 40, 3) := by decide +kernel
theorem dX10_count_213 : decode cX10_count 213 = .ok (.getfield 166, 3) := by decide +kernel
theorem dX10_count_216 : decode cX10_count 216 = .ok (.ireturn, 1) := by decide +kernel
theorem dX10_count_217 : decode cX10_count 217 = .ok (.new 169, 3) := by decide +kernel
theorem dX10_count_220 : decode cX10_count 220 = .ok (.dup, 1) := by decide +kernel
theorem dX10_count_221 : decode cX10_count 221 = .ok (.ldc 171, 2) := by decide +kernel
theorem dX10_count_223 : decode cX10_count 223 = .ok (.invokespecial 173, 3) := by decide +kernel
theorem dX10_count_226 : decode cX10_count 226 = .ok (.athrow, 1) := by decide +kernel
theorem dX10_account_0 : decode cX10_account 0 = .ok (.iload_n 1, 1) := by decide +kernel
theorem dX10_account_1 : decode cX10_account 1 = .ok (.invokestatic 176, 3) := by decide +kernel
theorem dX10_account_4 : decode cX10_account 4 = .ok (.iload_n 2, 1) := by decide +kernel
theorem dX10_account_5 : decode cX10_account 5 = .ok (.iconst 0, 1) := by decide +kernel
theorem dX10_account_6 : decode cX10_account 6 = .ok (.iconst 4, 1) := by decide +kernel
theorem dX10_account_7 : decode cX10_account 7 = .ok (.invokestatic 179, 3) := by decide +kernel
theorem dX10_account_10 : decode cX10_account 10 = .ok (.aload_n 0, 1) := by decide +kernel
theorem dX10_account_11 : decode cX10_account 11 = .ok (.getfield 40, 3) := by decide +kernel
theorem dX10_account_14 : decode cX10_account 14 = .ok (.iload_n 1, 1) := by decide +kernel
theorem dX10_account_15 : decode cX10_account 15 = .ok (.iload_n 2, 1) := by decide +kernel
theorem dX10_account_16 : decode cX10_account 16 = .ok (.invokevirtual 183, 3) := by decide +kernel
theorem dX10_account_19 : decode cX10_account 19 = .ok (.ireturn, 1) := by decide +kernel
theorem dX10_turn_0 : decode cX10_turn 0 = .ok (.iload_n 1, 1) := by decide +kernel
theorem dX10_turn_1 : decode cX10_turn 1 = .ok (.ifCond .lt 14, 3) := by decide +kernel
theorem dX10_turn_4 : decode cX10_turn 4 = .ok (.iload_n 1, 1) := by decide +kernel
theorem dX10_turn_5 : decode cX10_turn 5 = .ok (.aload_n 0, 1) := by decide +kernel
theorem dX10_turn_6 : decode cX10_turn 6 = .ok (.getfield 40, 3) := by decide +kernel
theorem dX10_turn_9 : decode cX10_turn 9 = .ok (.getfield 166, 3) := by decide +kernel
theorem dX10_turn_12 : decode cX10_turn 12 = .ok (.if_icmp .lt 13, 3) := by decide +kernel
theorem dX10_turn_15 : decode cX10_turn 15 = .ok (.new 187, 3) := by decide +kernel
theorem dX10_turn_18 : decode cX10_turn 18 = .ok (.dup, 1) := by decide +kernel
theorem dX10_turn_19 : decode cX10_turn 19 = .ok (.ldc 189, 2) := by decide +kernel
theorem dX10_turn_21 : decode cX10_turn 21 = .ok (.invokespecial 191, 3) := by decide +kernel
theorem dX10_turn_24 : decode cX10_turn 24 = .ok (.athrow, 1) := by decide +kernel
theorem dX10_turn_25 : decode cX10_turn 25 = .ok (.iload_n 2, 1) := by decide +kernel
theorem dX10_turn_26 : decode cX10_turn 26 = .ok (.iconst 0, 1) := by decide +kernel
theorem dX10_turn_27 : decode cX10_turn 27 = .ok (.iconst 4, 1) := by decide +kernel
theorem dX10_turn_28 : decode cX10_turn 28 = .ok (.invokestatic 179, 3) := by decide +kernel
theorem dX10_turn_31 : decode cX10_turn 31 = .ok (.aload_n 0, 1) := by decide +kernel
theorem dX10_turn_32 : decode cX10_turn 32 = .ok (.getfield 40, 3) := by decide +kernel
theorem dX10_turn_35 : decode cX10_turn 35 = .ok (.iload_n 1, 1) := by decide +kernel
theorem dX10_turn_36 : decode cX10_turn 36 = .ok (.iload_n 2, 1) := by decide +kernel
theorem dX10_turn_37 : decode cX10_turn 37 = .ok (.invokevirtual 192, 3) := by decide +kernel
theorem dX10_turn_40 : decode cX10_turn 40 = .ok (.ireturn, 1) := by decide +kernel
theorem dX10_rule_0 : decode cX10_rule 0 = .ok (.aload_n 0, 1) := by decide +kernel
theorem dX10_rule_1 : decode cX10_rule 1 = .ok (.iload_n 1, 1) := by decide +kernel
theorem dX10_rule_2 : decode cX10_rule 2 = .ok (.invokevirtual 195, 3) := by decide +kernel
theorem dX10_rule_5 : decode cX10_rule 5 = .ok (.aload_n 0, 1) := by decide +kernel
theorem dX10_rule_6 : decode cX10_rule 6 = .ok (.getfield 40, 3) := by decide +kernel
theorem dX10_rule_9 : decode cX10_rule 9 = .ok (.iload_n 1, 1) := by decide +kernel
theorem dX10_rule_10 : decode cX10_rule 10 = .ok (.invokevirtual 198, 3) := by decide +kernel
theorem dX10_rule_13 : decode cX10_rule 13 = .ok (.astore_n 3, 1) := by decide +kernel
theorem dX10_rule_14 : decode cX10_rule 14 = .ok (.iload_n 2, 1) := by decide +kernel
theorem dX10_rule_15 : decode cX10_rule 15 = .ok (.tableswitch 124 0 8 #[49, 54, 59, 67, 72, 85, 94, 103, 115], 49) := by decide +kernel
theorem dX10_rule_64 : decode cX10_rule 64 = .ok (.aload_n 3, 1) := by decide +kernel
theorem dX10_rule_65 : decode cX10_rule 65 = .ok (.getfield 202, 3) := by decide +kernel
theorem dX10_rule_68 : decode cX10_rule 68 = .ok (.ireturn, 1) := by decide +kernel
theorem dX10_rule_69 : decode cX10_rule 69 = .ok (.aload_n 3, 1) := by decide +kernel
theorem dX10_rule_70 : decode cX10_rule 70 = .ok (.getfield 205, 3) := by decide +kernel
theorem dX10_rule_73 : decode cX10_rule 73 = .ok (.ireturn, 1) := by decide +kernel
theorem dX10_rule_74 : decode cX10_rule 74 = .ok (.aload_n 3, 1) := by decide +kernel
theorem dX10_rule_75 : decode cX10_rule 75 = .ok (.getfield 208, 3) := by decide +kernel
theorem dX10_rule_78 : decode cX10_rule 78 = .ok (.invokestatic 212, 3) := by decide +kernel
theorem dX10_rule_81 : decode cX10_rule 81 = .ok (.ireturn, 1) := by decide +kernel
theorem dX10_rule_82 : decode cX10_rule 82 = .ok (.aload_n 3, 1) := by decide +kernel
theorem dX10_rule_83 : decode cX10_rule 83 = .ok (.getfield 218, 3) := by decide +kernel
theorem dX10_rule_86 : decode cX10_rule 86 = .ok (.ireturn, 1) := by decide +kernel
theorem dX10_rule_87 : decode cX10_rule 87 = .ok (.aload_n 3, 1) := by decide +kernel
theorem dX10_rule_88 : decode cX10_rule 88 = .ok (.invokevirtual 221, 3) := by decide +kernel
theorem dX10_rule_91 : decode cX10_rule 91 = .ok (.ifCond .eq 7, 3) := by decide +kernel
theorem dX10_rule_94 : decode cX10_rule 94 = .ok (.iconst 1, 1) := by decide +kernel
theorem dX10_rule_95 : decode cX10_rule 95 = .ok (.goto 4, 3) := by decide +kernel
theorem dX10_rule_98 : decode cX10_rule 98 = .ok (.iconst 0, 1) := by decide +kernel
theorem dX10_rule_99 : decode cX10_rule 99 = .ok (.ireturn, 1) := by decide +kernel
theorem dX10_rule_100 : decode cX10_rule 100 = .ok (.aload_n 0, 1) := by decide +kernel
theorem dX10_rule_101 : decode cX10_rule 101 = .ok (.iload_n 1, 1) := by decide +kernel
theorem dX10_rule_102 : decode cX10_rule 102 = .ok (.invokevirtual 225, 3) := by decide +kernel
theorem dX10_rule_105 : decode cX10_rule 105 = .ok (.getfield 229, 3) := by decide +kernel
theorem dX10_rule_108 : decode cX10_rule 108 = .ok (.ireturn, 1) := by decide +kernel
theorem dX10_rule_109 : decode cX10_rule 109 = .ok (.aload_n 0, 1) := by decide +kernel
theorem dX10_rule_110 : decode cX10_rule 110 = .ok (.iload_n 1, 1) := by decide +kernel
theorem dX10_rule_111 : decode cX10_rule 111 = .ok (.invokevirtual 225, 3) := by decide +kernel
theorem dX10_rule_114 : decode cX10_rule 114 = .ok (.getfield 232, 3) := by decide +kernel
theorem dX10_rule_117 : decode cX10_rule 117 = .ok (.ireturn, 1) := by decide +kernel
theorem dX10_rule_118 : decode cX10_rule 118 = .ok (.aload_n 0, 1) := by decide +kernel
theorem dX10_rule_119 : decode cX10_rule 119 = .ok (.getfield 40, 3) := by decide +kernel
theorem dX10_rule_122 : decode cX10_rule 122 = .ok (.getfield 118, 3) := by decide +kernel
theorem dX10_rule_125 : decode cX10_rule 125 = .ok (.iload_n 1, 1) := by decide +kernel
theorem dX10_rule_126 : decode cX10_rule 126 = .ok (.invokevirtual 235, 3) := by decide +kernel
theorem dX10_rule_129 : decode cX10_rule 129 = .ok (.ireturn, 1) := by decide +kernel
theorem dX10_rule_130 : decode cX10_rule 130 = .ok (.aload_n 0, 1) := by decide +kernel
theorem dX10_rule_131 : decode cX10_rule 131 = .ok (.iload_n 1, 1) := by decide +kernel
theorem dX10_rule_132 : decode cX10_rule 132 = .ok (.invokevirtual 225, 3) := by decide +kernel
theorem dX10_rule_135 : decode cX10_rule 135 = .ok (.getfield 239, 3) := by decide +kernel
theorem dX10_rule_138 : decode cX10_rule 138 = .ok (.ireturn, 1) := by decide +kernel
theorem dX10_rule_139 : decode cX10_rule 139 = .ok (.new 169, 3) := by decide +kernel
theorem dX10_rule_142 : decode cX10_rule 142 = .ok (.dup, 1) := by decide +kernel
theorem dX10_rule_143 : decode cX10_rule 143 = .ok (.ldc 242, 2) := by decide +kernel
theorem dX10_rule_145 : decode cX10_rule 145 = .ok (.invokespecial 173, 3) := by decide +kernel
theorem dX10_rule_148 : decode cX10_rule 148 = .ok (.athrow, 1) := by decide +kernel
theorem dX10_only_0 : decode cX10_only 0 = .ok (.aload_n 0, 1) := by decide +kernel
theorem dX10_only_1 : decode cX10_only 1 = .ok (.iload_n 1, 1) := by decide +kernel
theorem dX10_only_2 : decode cX10_only 2 = .ok (.invokevirtual 195, 3) := by decide +kernel
theorem dX10_only_5 : decode cX10_only 5 = .ok (.aload_n 0, 1) := by decide +kernel
theorem dX10_only_6 : decode cX10_only 6 = .ok (.getfield 40, 3) := by decide +kernel
theorem dX10_only_9 : decode cX10_only 9 = .ok (.iload_n 1, 1) := by decide +kernel
theorem dX10_only_10 : decode cX10_only 10 = .ok (.invokevirtual 198, 3) := by decide +kernel
theorem dX10_only_13 : decode cX10_only 13 = .ok (.iload_n 2, 1) := by decide +kernel
theorem dX10_only_14 : decode cX10_only 14 = .ok (.invokevirtual 244, 3) := by decide +kernel
theorem dX10_only_17 : decode cX10_only 17 = .ok (.ireturn, 1) := by decide +kernel
theorem dX10_barred_0 : decode cX10_barred 0 = .ok (.aload_n 0, 1) := by decide +kernel
theorem dX10_barred_1 : decode cX10_barred 1 = .ok (.iload_n 1, 1) := by decide +kernel
theorem dX10_barred_2 : decode cX10_barred 2 = .ok (.invokevirtual 195, 3) := by decide +kernel
theorem dX10_barred_5 : decode cX10_barred 5 = .ok (.aload_n 0, 1) := by decide +kernel
theorem dX10_barred_6 : decode cX10_barred 6 = .ok (.getfield 40, 3) := by decide +kernel
theorem dX10_barred_9 : decode cX10_barred 9 = .ok (.iload_n 1, 1) := by decide +kernel
theorem dX10_barred_10 : decode cX10_barred 10 = .ok (.invokevirtual 198, 3) := by decide +kernel
theorem dX10_barred_13 : decode cX10_barred 13 = .ok (.iload_n 2, 1) := by decide +kernel
theorem dX10_barred_14 : decode cX10_barred 14 = .ok (.invokevirtual 247, 3) := by decide +kernel
theorem dX10_barred_17 : decode cX10_barred 17 = .ok (.istore 4, 2) := by decide +kernel
theorem dX10_barred_19 : decode cX10_barred 19 = .ok (.iload 4, 2) := by decide +kernel
theorem dX10_barred_21 : decode cX10_barred 21 = .ok (.ifCond .ge 5, 3) := by decide +kernel
theorem dX10_barred_24 : decode cX10_barred 24 = .ok (.iconst (-1), 1) := by decide +kernel
theorem dX10_barred_25 : decode cX10_barred 25 = .ok (.ireturn, 1) := by decide +kernel
theorem dX10_barred_26 : decode cX10_barred 26 = .ok (.iload_n 3, 1) := by decide +kernel
theorem dX10_barred_27 : decode cX10_barred 27 = .ok (.ifCond .eq 11, 3) := by decide +kernel
theorem dX10_barred_30 : decode cX10_barred 30 = .ok (.iload 4, 2) := by decide +kernel
theorem dX10_barred_32 : decode cX10_barred 32 = .ok (.bipush 41, 2) := by decide +kernel
theorem dX10_barred_34 : decode cX10_barred 34 = .ok (.irem, 1) := by decide +kernel
theorem dX10_barred_35 : decode cX10_barred 35 = .ok (.goto 8, 3) := by decide +kernel
theorem dX10_barred_38 : decode cX10_barred 38 = .ok (.iload 4, 2) := by decide +kernel
theorem dX10_barred_40 : decode cX10_barred 40 = .ok (.bipush 41, 2) := by decide +kernel
theorem dX10_barred_42 : decode cX10_barred 42 = .ok (.idiv, 1) := by decide +kernel
theorem dX10_barred_43 : decode cX10_barred 43 = .ok (.ireturn, 1) := by decide +kernel
theorem dX10_ruleLetter_0 : decode cX10_ruleLetter 0 = .ok (.aload_n 0, 1) := by decide +kernel
theorem dX10_ruleLetter_1 : decode cX10_ruleLetter 1 = .ok (.iload_n 1, 1) := by decide +kernel
theorem dX10_ruleLetter_2 : decode cX10_ruleLetter 2 = .ok (.invokevirtual 195, 3) := by decide +kernel
theorem dX10_ruleLetter_5 : decode cX10_ruleLetter 5 = .ok (.aload_n 0, 1) := by decide +kernel
theorem dX10_ruleLetter_6 : decode cX10_ruleLetter 6 = .ok (.getfield 40, 3) := by decide +kernel
theorem dX10_ruleLetter_9 : decode cX10_ruleLetter 9 = .ok (.iload_n 1, 1) := by decide +kernel
theorem dX10_ruleLetter_10 : decode cX10_ruleLetter 10 = .ok (.invokevirtual 198, 3) := by decide +kernel
theorem dX10_ruleLetter_13 : decode cX10_ruleLetter 13 = .ok (.getfield 250, 3) := by decide +kernel
theorem dX10_ruleLetter_16 : decode cX10_ruleLetter 16 = .ok (.iload_n 2, 1) := by decide +kernel
theorem dX10_ruleLetter_17 : decode cX10_ruleLetter 17 = .ok (.invokestatic 253, 3) := by decide +kernel
theorem dX10_ruleLetter_20 : decode cX10_ruleLetter 20 = .ok (.ireturn, 1) := by decide +kernel
theorem dX10_part_0 : decode cX10_part 0 = .ok (.aload_n 0, 1) := by decide +kernel
theorem dX10_part_1 : decode cX10_part 1 = .ok (.iload_n 1, 1) := by decide +kernel
theorem dX10_part_2 : decode cX10_part 2 = .ok (.invokevirtual 257, 3) := by decide +kernel
theorem dX10_part_5 : decode cX10_part 5 = .ok (.aload_n 0, 1) := by decide +kernel
theorem dX10_part_6 : decode cX10_part 6 = .ok (.getfield 40, 3) := by decide +kernel
theorem dX10_part_9 : decode cX10_part 9 = .ok (.getfield 118, 3) := by decide +kernel
theorem dX10_part_12 : decode cX10_part 12 = .ok (.astore_n 3, 1) := by decide +kernel
theorem dX10_part_13 : decode cX10_part 13 = .ok (.aload_n 3, 1) := by decide +kernel
theorem dX10_part_14 : decode cX10_part 14 = .ok (.iload_n 1, 1) := by decide +kernel
theorem dX10_part_15 : decode cX10_part 15 = .ok (.invokevirtual 260, 3) := by decide +kernel
theorem dX10_part_18 : decode cX10_part 18 = .ok (.istore 4, 2) := by decide +kernel
theorem dX10_part_20 : decode cX10_part 20 = .ok (.iload_n 2, 1) := by decide +kernel
theorem dX10_part_21 : decode cX10_part 21 = .ok (.tableswitch 141 0 8 #[51, 62, 68, 74, 89, 99, 110, 120, 126], 51) := by decide +kernel
theorem dX10_part_72 : decode cX10_part 72 = .ok (.iload 4, 2) := by decide +kernel
theorem dX10_part_74 : decode cX10_part 74 = .ok (.ifCond .eq 7, 3) := by decide +kernel
theorem dX10_part_77 : decode cX10_part 77 = .ok (.iconst 0, 1) := by decide +kernel
theorem dX10_part_78 : decode cX10_part 78 = .ok (.goto 4, 3) := by decide +kernel
theorem dX10_part_81 : decode cX10_part 81 = .ok (.iconst 1, 1) := by decide +kernel
theorem dX10_part_82 : decode cX10_part 82 = .ok (.ireturn, 1) := by decide +kernel
theorem dX10_part_83 : decode cX10_part 83 = .ok (.aload_n 3, 1) := by decide +kernel
theorem dX10_part_84 : decode cX10_part 84 = .ok (.iload_n 1, 1) := by decide +kernel
theorem dX10_part_85 : decode cX10_part 85 = .ok (.invokevirtual 264, 3) := by decide +kernel
theorem dX10_part_88 : decode cX10_part 88 = .ok (.ireturn, 1) := by decide +kernel
theorem dX10_part_89 : decode cX10_part 89 = .ok (.aload_n 3, 1) := by decide +kernel
theorem dX10_part_90 : decode cX10_part 90 = .ok (.iload_n 1, 1) := by decide +kernel
theorem dX10_part_91 : decode cX10_part 91 = .ok (.invokevirtual 267, 3) := by decide +kernel
theorem dX10_part_94 : decode cX10_part 94 = .ok (.ireturn, 1) := by decide +kernel
theorem dX10_part_95 : decode cX10_part 95 = .ok (.iload 4, 2) := by decide +kernel
theorem dX10_part_97 : decode cX10_part 97 = .ok (.ifCond .eq 11, 3) := by decide +kernel
theorem dX10_part_100 : decode cX10_part 100 = .ok (.aload_n 3, 1) := by decide +kernel
theorem dX10_part_101 : decode cX10_part 101 = .ok (.iload_n 1, 1) := by decide +kernel
theorem dX10_part_102 : decode cX10_part 102 = .ok (.invokevirtual 270, 3) := by decide +kernel
theorem dX10_part_105 : decode cX10_part 105 = .ok (.goto 4, 3) := by decide +kernel
theorem dX10_part_108 : decode cX10_part 108 = .ok (.iconst (-1), 1) := by decide +kernel
theorem dX10_part_109 : decode cX10_part 109 = .ok (.ireturn, 1) := by decide +kernel
theorem dX10_part_110 : decode cX10_part 110 = .ok (.aload_n 0, 1) := by decide +kernel
theorem dX10_part_111 : decode cX10_part 111 = .ok (.invokevirtual 140, 3) := by decide +kernel
theorem dX10_part_114 : decode cX10_part 114 = .ok (.aload_n 3, 1) := by decide +kernel
theorem dX10_part_115 : decode cX10_part 115 = .ok (.iload_n 1, 1) := by decide +kernel
theorem dX10_part_116 : decode cX10_part 116 = .ok (.invokevirtual 273, 3) := by decide +kernel
theorem dX10_part_119 : decode cX10_part 119 = .ok (.ireturn, 1) := by decide +kernel
theorem dX10_part_120 : decode cX10_part 120 = .ok (.aload_n 0, 1) := by decide +kernel
theorem dX10_part_121 : decode cX10_part 121 = .ok (.invokevirtual 140, 3) := by decide +kernel
theorem dX10_part_124 : decode cX10_part 124 = .ok (.aload_n 3, 1) := by decide +kernel
theorem dX10_part_125 : decode cX10_part 125 = .ok (.iload_n 1, 1) := by decide +kernel
theorem dX10_part_126 : decode cX10_part 126 = .ok (.iconst (-1), 1) := by decide +kernel
theorem dX10_part_127 : decode cX10_part 127 = .ok (.invokevirtual 277, 3) := by decide +kernel
theorem dX10_part_130 : decode cX10_part 130 = .ok (.ireturn, 1) := by decide +kernel
theorem dX10_part_131 : decode cX10_part 131 = .ok (.aload_n 0, 1) := by decide +kernel
theorem dX10_part_132 : decode cX10_part 132 = .ok (.invokevirtual 140, 3) := by decide +kernel
theorem dX10_part_135 : decode cX10_part 135 = .ok (.aload_n 3, 1) := by decide +kernel
theorem dX10_part_136 : decode cX10_part 136 = .ok (.iload_n 1, 1) := by decide +kernel
theorem dX10_part_137 : decode cX10_part 137 = .ok (.invokevirtual 281, 3) := by decide +kernel
theorem dX10_part_140 : decode cX10_part 140 = .ok (.ireturn, 1) := by decide +kernel
theorem dX10_part_141 : decode cX10_part 141 = .ok (.aload_n 3, 1) := by decide +kernel
theorem dX10_part_142 : decode cX10_part 142 = .ok (.iload_n 1, 1) := by decide +kernel
theorem dX10_part_143 : decode cX10_part 143 = .ok (.invokevirtual 284, 3) := by decide +kernel
theorem dX10_part_146 : decode cX10_part 146 = .ok (.ireturn, 1) := by decide +kernel
theorem dX10_part_147 : decode cX10_part 147 = .ok (.iload 4, 2) := by decide +kernel
theorem dX10_part_149 : decode cX10_part 149 = .ok (.ifCond .eq 11, 3) := by decide +kernel
theorem dX10_part_152 : decode cX10_part 152 = .ok (.aload_n 3, 1) := by decide +kernel
theorem dX10_part_153 : decode cX10_part 153 = .ok (.iload_n 1, 1) := by decide +kernel
theorem dX10_part_154 : decode cX10_part 154 = .ok (.invokevirtual 287, 3) := by decide +kernel
theorem dX10_part_157 : decode cX10_part 157 = .ok (.goto 4, 3) := by decide +kernel
theorem dX10_part_160 : decode cX10_part 160 = .ok (.iconst (-1), 1) := by decide +kernel
theorem dX10_part_161 : decode cX10_part 161 = .ok (.ireturn, 1) := by decide +kernel
theorem dX10_part_162 : decode cX10_part 162 = .ok (.new 169, 3) := by decide +kernel
theorem dX10_part_165 : decode cX10_part 165 = .ok (.dup, 1) := by decide +kernel
theorem dX10_part_166 : decode cX10_part 166 = .ok (.ldc_w 290, 3) := by decide +kernel
theorem dX10_part_169 : decode cX10_part 169 = .ok (.invokespecial 173, 3) := by decide +kernel
theorem dX10_part_172 : decode cX10_part 172 = .ok (.athrow, 1) := by decide +kernel
theorem dX10_allows_0 : decode cX10_allows 0 = .ok (.aload_n 0, 1) := by decide +kernel
theorem dX10_allows_1 : decode cX10_allows 1 = .ok (.iload_n 1, 1) := by decide +kernel
theorem dX10_allows_2 : decode cX10_allows 2 = .ok (.invokevirtual 195, 3) := by decide +kernel
theorem dX10_allows_5 : decode cX10_allows 5 = .ok (.iload_n 2, 1) := by decide +kernel
theorem dX10_allows_6 : decode cX10_allows 6 = .ok (.iload_n 3, 1) := by decide +kernel
theorem dX10_allows_7 : decode cX10_allows 7 = .ok (.invokestatic 292, 3) := by decide +kernel
theorem dX10_allows_10 : decode cX10_allows 10 = .ok (.iload_n 2, 1) := by decide +kernel
theorem dX10_allows_11 : decode cX10_allows 11 = .ok (.iload_n 3, 1) := by decide +kernel
theorem dX10_allows_12 : decode cX10_allows 12 = .ok (.iadd, 1) := by decide +kernel
theorem dX10_allows_13 : decode cX10_allows 13 = .ok (.ifCond .le 23, 3) := by decide +kernel
theorem dX10_allows_16 : decode cX10_allows 16 = .ok (.aload_n 0, 1) := by decide +kernel
theorem dX10_allows_17 : decode cX10_allows 17 = .ok (.getfield 40, 3) := by decide +kernel
theorem dX10_allows_20 : decode cX10_allows 20 = .ok (.iload_n 1, 1) := by decide +kernel
theorem dX10_allows_21 : decode cX10_allows 21 = .ok (.invokevirtual 198, 3) := by decide +kernel
theorem dX10_allows_24 : decode cX10_allows 24 = .ok (.iload_n 2, 1) := by decide +kernel
theorem dX10_allows_25 : decode cX10_allows 25 = .ok (.iload_n 3, 1) := by decide +kernel
theorem dX10_allows_26 : decode cX10_allows 26 = .ok (.invokevirtual 296, 3) := by decide +kernel
theorem dX10_allows_29 : decode cX10_allows 29 = .ok (.ifCond .ne 7, 3) := by decide +kernel
theorem dX10_allows_32 : decode cX10_allows 32 = .ok (.iconst 1, 1) := by decide +kernel
theorem dX10_allows_33 : decode cX10_allows 33 = .ok (.goto 4, 3) := by decide +kernel
theorem dX10_allows_36 : decode cX10_allows 36 = .ok (.iconst 0, 1) := by decide +kernel
theorem dX10_allows_37 : decode cX10_allows 37 = .ok (.ireturn, 1) := by decide +kernel
theorem dX10_whyNot_0 : decode cX10_whyNot 0 = .ok (.aload_n 0, 1) := by decide +kernel
theorem dX10_whyNot_1 : decode cX10_whyNot 1 = .ok (.iload_n 1, 1) := by decide +kernel
theorem dX10_whyNot_2 : decode cX10_whyNot 2 = .ok (.invokevirtual 257, 3) := by decide +kernel
theorem dX10_whyNot_5 : decode cX10_whyNot 5 = .ok (.aload_n 0, 1) := by decide +kernel
theorem dX10_whyNot_6 : decode cX10_whyNot 6 = .ok (.getfield 40, 3) := by decide +kernel
theorem dX10_whyNot_9 : decode cX10_whyNot 9 = .ok (.iload_n 1, 1) := by decide +kernel
theorem dX10_whyNot_10 : decode cX10_whyNot 10 = .ok (.iload_n 2, 1) := by decide +kernel
theorem dX10_whyNot_11 : decode cX10_whyNot 11 = .ok (.iload_n 3, 1) := by decide +kernel
theorem dX10_whyNot_12 : decode cX10_whyNot 12 = .ok (.invokevirtual 299, 3) := by decide +kernel
theorem dX10_whyNot_15 : decode cX10_whyNot 15 = .ok (.ireturn, 1) := by decide +kernel
theorem dX10_value_0 : decode cX10_value 0 = .ok (.aload_n 0, 1) := by decide +kernel
theorem dX10_value_1 : decode cX10_value 1 = .ok (.iload_n 1, 1) := by decide +kernel
theorem dX10_value_2 : decode cX10_value 2 = .ok (.invokevirtual 195, 3) := by decide +kernel
theorem dX10_value_5 : decode cX10_value 5 = .ok (.iload_n 2, 1) := by decide +kernel
theorem dX10_value_6 : decode cX10_value 6 = .ok (.iload_n 3, 1) := by decide +kernel
theorem dX10_value_7 : decode cX10_value 7 = .ok (.invokestatic 292, 3) := by decide +kernel
theorem dX10_value_10 : decode cX10_value 10 = .ok (.aload_n 0, 1) := by decide +kernel
theorem dX10_value_11 : decode cX10_value 11 = .ok (.iload_n 1, 1) := by decide +kernel
theorem dX10_value_12 : decode cX10_value 12 = .ok (.invokevirtual 225, 3) := by decide +kernel
theorem dX10_value_15 : decode cX10_value 15 = .ok (.iload_n 2, 1) := by decide +kernel
theorem dX10_value_16 : decode cX10_value 16 = .ok (.iload_n 3, 1) := by decide +kernel
theorem dX10_value_17 : decode cX10_value 17 = .ok (.invokevirtual 303, 3) := by decide +kernel
theorem dX10_value_20 : decode cX10_value 20 = .ok (.ireturn, 1) := by decide +kernel
theorem dX10_span_0 : decode cX10_span 0 = .ok (.aload_n 0, 1) := by decide +kernel
theorem dX10_span_1 : decode cX10_span 1 = .ok (.iload_n 1, 1) := by decide +kernel
theorem dX10_span_2 : decode cX10_span 2 = .ok (.invokevirtual 195, 3) := by decide +kernel
theorem dX10_span_5 : decode cX10_span 5 = .ok (.iload_n 2, 1) := by decide +kernel
theorem dX10_span_6 : decode cX10_span 6 = .ok (.iload_n 3, 1) := by decide +kernel
theorem dX10_span_7 : decode cX10_span 7 = .ok (.invokestatic 292, 3) := by decide +kernel
theorem dX10_span_10 : decode cX10_span 10 = .ok (.aload_n 0, 1) := by decide +kernel
theorem dX10_span_11 : decode cX10_span 11 = .ok (.iload_n 1, 1) := by decide +kernel
theorem dX10_span_12 : decode cX10_span 12 = .ok (.invokevirtual 225, 3) := by decide +kernel
theorem dX10_span_15 : decode cX10_span 15 = .ok (.iload_n 2, 1) := by decide +kernel
theorem dX10_span_16 : decode cX10_span 16 = .ok (.iload_n 3, 1) := by decide +kernel
theorem dX10_span_17 : decode cX10_span 17 = .ok (.invokevirtual 306, 3) := by decide +kernel
theorem dX10_span_20 : decode cX10_span 20 = .ok (.ireturn, 1) := by decide +kernel
theorem dX10_losing_0 : decode cX10_losing 0 = .ok (.aload_n 0, 1) := by decide +kernel
theorem dX10_losing_1 : decode cX10_losing 1 = .ok (.iload_n 1, 1) := by decide +kernel
theorem dX10_losing_2 : decode cX10_losing 2 = .ok (.invokevirtual 195, 3) := by decide +kernel
theorem dX10_losing_5 : decode cX10_losing 5 = .ok (.aload_n 0, 1) := by decide +kernel
theorem dX10_losing_6 : decode cX10_losing 6 = .ok (.iload_n 1, 1) := by decide +kernel
theorem dX10_losing_7 : decode cX10_losing 7 = .ok (.invokevirtual 225, 3) := by decide +kernel
theorem dX10_losing_10 : decode cX10_losing 10 = .ok (.iload_n 2, 1) := by decide +kernel
theorem dX10_losing_11 : decode cX10_losing 11 = .ok (.invokevirtual 309, 3) := by decide +kernel
theorem dX10_losing_14 : decode cX10_losing 14 = .ok (.istore 4, 2) := by decide +kernel
theorem dX10_losing_16 : decode cX10_losing 16 = .ok (.iload 4, 2) := by decide +kernel
theorem dX10_losing_18 : decode cX10_losing 18 = .ok (.ifCond .ge 5, 3) := by decide +kernel
theorem dX10_losing_21 : decode cX10_losing 21 = .ok (.iconst (-1), 1) := by decide +kernel
theorem dX10_losing_22 : decode cX10_losing 22 = .ok (.ireturn, 1) := by decide +kernel
theorem dX10_losing_23 : decode cX10_losing 23 = .ok (.iload_n 3, 1) := by decide +kernel
theorem dX10_losing_24 : decode cX10_losing 24 = .ok (.ifCond .eq 11, 3) := by decide +kernel
theorem dX10_losing_27 : decode cX10_losing 27 = .ok (.iload 4, 2) := by decide +kernel
theorem dX10_losing_29 : decode cX10_losing 29 = .ok (.bipush 41, 2) := by decide +kernel
theorem dX10_losing_31 : decode cX10_losing 31 = .ok (.irem, 1) := by decide +kernel
theorem dX10_losing_32 : decode cX10_losing 32 = .ok (.goto 8, 3) := by decide +kernel
theorem dX10_losing_35 : decode cX10_losing 35 = .ok (.iload 4, 2) := by decide +kernel
theorem dX10_losing_37 : decode cX10_losing 37 = .ok (.bipush 41, 2) := by decide +kernel
theorem dX10_losing_39 : decode cX10_losing 39 = .ok (.idiv, 1) := by decide +kernel
theorem dX10_losing_40 : decode cX10_losing 40 = .ok (.ireturn, 1) := by decide +kernel
theorem dX10_partner_0 : decode cX10_partner 0 = .ok (.aload_n 0, 1) := by decide +kernel
theorem dX10_partner_1 : decode cX10_partner 1 = .ok (.iload_n 1, 1) := by decide +kernel
theorem dX10_partner_2 : decode cX10_partner 2 = .ok (.invokevirtual 195, 3) := by decide +kernel
theorem dX10_partner_5 : decode cX10_partner 5 = .ok (.iload_n 2, 1) := by decide +kernel
theorem dX10_partner_6 : decode cX10_partner 6 = .ok (.iconst 0, 1) := by decide +kernel
theorem dX10_partner_7 : decode cX10_partner 7 = .ok (.bipush 40, 2) := by decide +kernel
theorem dX10_partner_9 : decode cX10_partner 9 = .ok (.invokestatic 179, 3) := by decide +kernel
theorem dX10_partner_12 : decode cX10_partner 12 = .ok (.aload_n 0, 1) := by decide +kernel
theorem dX10_partner_13 : decode cX10_partner 13 = .ok (.iload_n 1, 1) := by decide +kernel
theorem dX10_partner_14 : decode cX10_partner 14 = .ok (.invokevirtual 225, 3) := by decide +kernel
theorem dX10_partner_17 : decode cX10_partner 17 = .ok (.astore_n 3, 1) := by decide +kernel
theorem dX10_partner_18 : decode cX10_partner 18 = .ok (.iconst 0, 1) := by decide +kernel
theorem dX10_partner_19 : decode cX10_partner 19 = .ok (.istore 4, 2) := by decide +kernel
theorem dX10_partner_21 : decode cX10_partner 21 = .ok (.iload 4, 2) := by decide +kernel
theorem dX10_partner_23 : decode cX10_partner 23 = .ok (.bipush 40, 2) := by decide +kernel
theorem dX10_partner_25 : decode cX10_partner 25 = .ok (.if_icmp .gt 22, 3) := by decide +kernel
theorem dX10_partner_28 : decode cX10_partner 28 = .ok (.aload_n 3, 1) := by decide +kernel
theorem dX10_partner_29 : decode cX10_partner 29 = .ok (.iload_n 2, 1) := by decide +kernel
theorem dX10_partner_30 : decode cX10_partner 30 = .ok (.iload 4, 2) := by decide +kernel
theorem dX10_partner_32 : decode cX10_partner 32 = .ok (.invokevirtual 303, 3) := by decide +kernel
theorem dX10_partner_35 : decode cX10_partner 35 = .ok (.ifCond .ne 6, 3) := by decide +kernel
theorem dX10_partner_38 : decode cX10_partner 38 = .ok (.iload 4, 2) := by decide +kernel
theorem dX10_partner_40 : decode cX10_partner 40 = .ok (.ireturn, 1) := by decide +kernel
theorem dX10_partner_41 : decode cX10_partner 41 = .ok (.iinc 4 1, 3) := by decide +kernel
theorem dX10_partner_44 : decode cX10_partner 44 = .ok (.goto (-23), 3) := by decide +kernel
theorem dX10_partner_47 : decode cX10_partner 47 = .ok (.iconst (-1), 1) := by decide +kernel
theorem dX10_partner_48 : decode cX10_partner 48 = .ok (.ireturn, 1) := by decide +kernel
theorem dX10_golden_0 : decode cX10_golden 0 = .ok (.iload_n 1, 1) := by decide +kernel
theorem dX10_golden_1 : decode cX10_golden 1 = .ok (.iconst 1, 1) := by decide +kernel
theorem dX10_golden_2 : decode cX10_golden 2 = .ok (.iconst 5, 1) := by decide +kernel
theorem dX10_golden_3 : decode cX10_golden 3 = .ok (.invokestatic 179, 3) := by decide +kernel
theorem dX10_golden_6 : decode cX10_golden 6 = .ok (.iload_n 2, 1) := by decide +kernel
theorem dX10_golden_7 : decode cX10_golden 7 = .ok (.iconst 0, 1) := by decide +kernel
theorem dX10_golden_8 : decode cX10_golden 8 = .ok (.ldc_w 312, 3) := by decide +kernel
theorem dX10_golden_11 : decode cX10_golden 11 = .ok (.invokestatic 179, 3) := by decide +kernel
theorem dX10_golden_14 : decode cX10_golden 14 = .ok (.iload_n 1, 1) := by decide +kernel
theorem dX10_golden_15 : decode cX10_golden 15 = .ok (.iload_n 2, 1) := by decide +kernel
theorem dX10_golden_16 : decode cX10_golden 16 = .ok (.i2l, 1) := by decide +kernel
theorem dX10_golden_17 : decode cX10_golden 17 = .ok (.iload_n 3, 1) := by decide +kernel
theorem dX10_golden_18 : decode cX10_golden 18 = .ok (.invokestatic 313, 3) := by decide +kernel
theorem dX10_golden_21 : decode cX10_golden 21 = .ok (.l2i, 1) := by decide +kernel
theorem dX10_golden_22 : decode cX10_golden 22 = .ok (.ireturn, 1) := by decide +kernel
theorem dX10_goldenOf_0 : decode cX10_goldenOf 0 = .ok (.iload_n 1, 1) := by decide +kernel
theorem dX10_goldenOf_1 : decode cX10_goldenOf 1 = .ok (.iconst 1, 1) := by decide +kernel
theorem dX10_goldenOf_2 : decode cX10_goldenOf 2 = .ok (.iconst 5, 1) := by decide +kernel
theorem dX10_goldenOf_3 : decode cX10_goldenOf 3 = .ok (.invokestatic 179, 3) := by decide +kernel
theorem dX10_goldenOf_6 : decode cX10_goldenOf 6 = .ok (.iload_n 2, 1) := by decide +kernel
theorem dX10_goldenOf_7 : decode cX10_goldenOf 7 = .ok (.iconst 1, 1) := by decide +kernel
theorem dX10_goldenOf_8 : decode cX10_goldenOf 8 = .ok (.ldc_w 317, 3) := by decide +kernel
theorem dX10_goldenOf_11 : decode cX10_goldenOf 11 = .ok (.invokestatic 179, 3) := by decide +kernel
theorem dX10_goldenOf_14 : decode cX10_goldenOf 14 = .ok (.iload_n 1, 1) := by decide +kernel
theorem dX10_goldenOf_15 : decode cX10_goldenOf 15 = .ok (.iload_n 2, 1) := by decide +kernel
theorem dX10_goldenOf_16 : decode cX10_goldenOf 16 = .ok (.iconst 0, 1) := by decide +kernel
theorem dX10_goldenOf_17 : decode cX10_goldenOf 17 = .ok (.invokestatic 318, 3) := by decide +kernel
theorem dX10_goldenOf_20 : decode cX10_goldenOf 20 = .ok (.lstore_n 3, 1) := by decide +kernel
theorem dX10_goldenOf_21 : decode cX10_goldenOf 21 = .ok (.iload_n 1, 1) := by decide +kernel
theorem dX10_goldenOf_22 : decode cX10_goldenOf 22 = .ok (.lload_n 3, 1) := by decide +kernel
theorem dX10_goldenOf_23 : decode cX10_goldenOf 23 = .ok (.iconst 0, 1) := by decide +kernel
theorem dX10_goldenOf_24 : decode cX10_goldenOf 24 = .ok (.invokestatic 313, 3) := by decide +kernel
theorem dX10_goldenOf_27 : decode cX10_goldenOf 27 = .ok (.iload_n 2, 1) := by decide +kernel
theorem dX10_goldenOf_28 : decode cX10_goldenOf 28 = .ok (.i2l, 1) := by decide +kernel
theorem dX10_goldenOf_29 : decode cX10_goldenOf 29 = .ok (.lcmp, 1) := by decide +kernel
theorem dX10_goldenOf_30 : decode cX10_goldenOf 30 = .ok (.ifCond .ne 10, 3) := by decide +kernel
theorem dX10_goldenOf_33 : decode cX10_goldenOf 33 = .ok (.ldc2_w 322, 3) := by decide +kernel
theorem dX10_goldenOf_36 : decode cX10_goldenOf 36 = .ok (.lload_n 3, 1) := by decide +kernel
theorem dX10_goldenOf_37 : decode cX10_goldenOf 37 = .ok (.lmul, 1) := by decide +kernel
theorem dX10_goldenOf_38 : decode cX10_goldenOf 38 = .ok (.l2i, 1) := by decide +kernel
theorem dX10_goldenOf_39 : decode cX10_goldenOf 39 = .ok (.ireturn, 1) := by decide +kernel
theorem dX10_goldenOf_40 : decode cX10_goldenOf 40 = .ok (.ldc2_w 322, 3) := by decide +kernel
theorem dX10_goldenOf_43 : decode cX10_goldenOf 43 = .ok (.iload_n 1, 1) := by decide +kernel
theorem dX10_goldenOf_44 : decode cX10_goldenOf 44 = .ok (.iload_n 2, 1) := by decide +kernel
theorem dX10_goldenOf_45 : decode cX10_goldenOf 45 = .ok (.iconst 1, 1) := by decide +kernel
theorem dX10_goldenOf_46 : decode cX10_goldenOf 46 = .ok (.invokestatic 318, 3) := by decide +kernel
theorem dX10_goldenOf_49 : decode cX10_goldenOf 49 = .ok (.lmul, 1) := by decide +kernel
theorem dX10_goldenOf_50 : decode cX10_goldenOf 50 = .ok (.lconst 1, 1) := by decide +kernel
theorem dX10_goldenOf_51 : decode cX10_goldenOf 51 = .ok (.ladd, 1) := by decide +kernel
theorem dX10_goldenOf_52 : decode cX10_goldenOf 52 = .ok (.l2i, 1) := by decide +kernel
theorem dX10_goldenOf_53 : decode cX10_goldenOf 53 = .ok (.ireturn, 1) := by decide +kernel
theorem dX10_goldenPartner_0 : decode cX10_goldenPartner 0 = .ok (.iload_n 1, 1) := by decide +kernel
theorem dX10_goldenPartner_1 : decode cX10_goldenPartner 1 = .ok (.iconst 1, 1) := by decide +kernel
theorem dX10_goldenPartner_2 : decode cX10_goldenPartner 2 = .ok (.iconst 5, 1) := by decide +kernel
theorem dX10_goldenPartner_3 : decode cX10_goldenPartner 3 = .ok (.invokestatic 179, 3) := by decide +kernel
theorem dX10_goldenPartner_6 : decode cX10_goldenPartner 6 = .ok (.iload_n 2, 1) := by decide +kernel
theorem dX10_goldenPartner_7 : decode cX10_goldenPartner 7 = .ok (.iconst 1, 1) := by decide +kernel
theorem dX10_goldenPartner_8 : decode cX10_goldenPartner 8 = .ok (.ldc_w 317, 3) := by decide +kernel
theorem dX10_goldenPartner_11 : decode cX10_goldenPartner 11 = .ok (.invokestatic 179, 3) := by decide +kernel
theorem dX10_goldenPartner_14 : decode cX10_goldenPartner 14 = .ok (.iload_n 1, 1) := by decide +kernel
theorem dX10_goldenPartner_15 : decode cX10_goldenPartner 15 = .ok (.iload_n 2, 1) := by decide +kernel
theorem dX10_goldenPartner_16 : decode cX10_goldenPartner 16 = .ok (.iconst 0, 1) := by decide +kernel
theorem dX10_goldenPartner_17 : decode cX10_goldenPartner 17 = .ok (.invokestatic 318, 3) := by decide +kernel
theorem dX10_goldenPartner_20 : decode cX10_goldenPartner 20 = .ok (.lstore_n 3, 1) := by decide +kernel
theorem dX10_goldenPartner_21 : decode cX10_goldenPartner 21 = .ok (.iload_n 1, 1) := by decide +kernel
theorem dX10_goldenPartner_22 : decode cX10_goldenPartner 22 = .ok (.lload_n 3, 1) := by decide +kernel
theorem dX10_goldenPartner_23 : decode cX10_goldenPartner 23 = .ok (.iconst 0, 1) := by decide +kernel
theorem dX10_goldenPartner_24 : decode cX10_goldenPartner 24 = .ok (.invokestatic 313, 3) := by decide +kernel
theorem dX10_goldenPartner_27 : decode cX10_goldenPartner 27 = .ok (.iload_n 2, 1) := by decide +kernel
theorem dX10_goldenPartner_28 : decode cX10_goldenPartner 28 = .ok (.i2l, 1) := by decide +kernel
theorem dX10_goldenPartner_29 : decode cX10_goldenPartner 29 = .ok (.lcmp, 1) := by decide +kernel
theorem dX10_goldenPartner_30 : decode cX10_goldenPartner 30 = .ok (.ifCond .ne 11, 3) := by decide +kernel
theorem dX10_goldenPartner_33 : decode cX10_goldenPartner 33 = .ok (.iload_n 2, 1) := by decide +kernel
theorem dX10_goldenPartner_34 : decode cX10_goldenPartner 34 = .ok (.i2l, 1) := by decide +kernel
theorem dX10_goldenPartner_35 : decode cX10_goldenPartner 35 = .ok (.iload_n 1, 1) := by decide +kernel
theorem dX10_goldenPartner_36 : decode cX10_goldenPartner 36 = .ok (.i2l, 1) := by decide +kernel
theorem dX10_goldenPartner_37 : decode cX10_goldenPartner 37 = .ok (.lload_n 3, 1) := by decide +kernel
theorem dX10_goldenPartner_38 : decode cX10_goldenPartner 38 = .ok (.lmul, 1) := by decide +kernel
theorem dX10_goldenPartner_39 : decode cX10_goldenPartner 39 = .ok (.ladd, 1) := by decide +kernel
theorem dX10_goldenPartner_40 : decode cX10_goldenPartner 40 = .ok (.lreturn, 1) := by decide +kernel
theorem dX10_goldenPartner_41 : decode cX10_goldenPartner 41 = .ok (.iload_n 2, 1) := by decide +kernel
theorem dX10_goldenPartner_42 : decode cX10_goldenPartner 42 = .ok (.i2l, 1) := by decide +kernel
theorem dX10_goldenPartner_43 : decode cX10_goldenPartner 43 = .ok (.iload_n 1, 1) := by decide +kernel
theorem dX10_goldenPartner_44 : decode cX10_goldenPartner 44 = .ok (.i2l, 1) := by decide +kernel
theorem dX10_goldenPartner_45 : decode cX10_goldenPartner 45 = .ok (.iload_n 1, 1) := by decide +kernel
theorem dX10_goldenPartner_46 : decode cX10_goldenPartner 46 = .ok (.iload_n 2, 1) := by decide +kernel
theorem dX10_goldenPartner_47 : decode cX10_goldenPartner 47 = .ok (.iconst 1, 1) := by decide +kernel
theorem dX10_goldenPartner_48 : decode cX10_goldenPartner 48 = .ok (.invokestatic 318, 3) := by decide +kernel
theorem dX10_goldenPartner_51 : decode cX10_goldenPartner 51 = .ok (.lmul, 1) := by decide +kernel
theorem dX10_goldenPartner_52 : decode cX10_goldenPartner 52 = .ok (.lsub, 1) := by decide +kernel
theorem dX10_goldenPartner_53 : decode cX10_goldenPartner 53 = .ok (.lreturn, 1) := by decide +kernel
theorem dX10_goldenMany_0 : decode cX10_goldenMany 0 = .ok (.iload_n 1, 1) := by decide +kernel
theorem dX10_goldenMany_1 : decode cX10_goldenMany 1 = .ok (.iconst 1, 1) := by decide +kernel
theorem dX10_goldenMany_2 : decode cX10_goldenMany 2 = .ok (.iconst 5, 1) := by decide +kernel
theorem dX10_goldenMany_3 : decode cX10_goldenMany 3 = .ok (.invokestatic 179, 3) := by decide +kernel
theorem dX10_goldenMany_6 : decode cX10_goldenMany 6 = .ok (.iload_n 2, 1) := by decide +kernel
theorem dX10_goldenMany_7 : decode cX10_goldenMany 7 = .ok (.iconst 0, 1) := by decide +kernel
theorem dX10_goldenMany_8 : decode cX10_goldenMany 8 = .ok (.ldc_w 317, 3) := by decide +kernel
theorem dX10_goldenMany_11 : decode cX10_goldenMany 11 = .ok (.invokestatic 179, 3) := by decide +kernel
theorem dX10_goldenMany_14 : decode cX10_goldenMany 14 = .ok (.iload_n 1, 1) := by decide +kernel
theorem dX10_goldenMany_15 : decode cX10_goldenMany 15 = .ok (.iload_n 2, 1) := by decide +kernel
theorem dX10_goldenMany_16 : decode cX10_goldenMany 16 = .ok (.iconst 1, 1) := by decide +kernel
theorem dX10_goldenMany_17 : decode cX10_goldenMany 17 = .ok (.iadd, 1) := by decide +kernel
theorem dX10_goldenMany_18 : decode cX10_goldenMany 18 = .ok (.iconst 1, 1) := by decide +kernel
theorem dX10_goldenMany_19 : decode cX10_goldenMany 19 = .ok (.invokestatic 318, 3) := by decide +kernel
theorem dX10_goldenMany_22 : decode cX10_goldenMany 22 = .ok (.l2i, 1) := by decide +kernel
theorem dX10_goldenMany_23 : decode cX10_goldenMany 23 = .ok (.iconst 1, 1) := by decide +kernel
theorem dX10_goldenMany_24 : decode cX10_goldenMany 24 = .ok (.isub, 1) := by decide +kernel
theorem dX10_goldenMany_25 : decode cX10_goldenMany 25 = .ok (.ireturn, 1) := by decide +kernel
theorem dX10_summand_0 : decode cX10_summand 0 = .ok (.iload_n 1, 1) := by decide +kernel
theorem dX10_summand_1 : decode cX10_summand 1 = .ok (.iconst 1, 1) := by decide +kernel
theorem dX10_summand_2 : decode cX10_summand 2 = .ok (.ldc_w 317, 3) := by decide +kernel
theorem dX10_summand_5 : decode cX10_summand 5 = .ok (.invokestatic 179, 3) := by decide +kernel
theorem dX10_summand_8 : decode cX10_summand 8 = .ok (.iload_n 1, 1) := by decide +kernel
theorem dX10_summand_9 : decode cX10_summand 9 = .ok (.istore_n 3, 1) := by decide +kernel
theorem dX10_summand_10 : decode cX10_summand 10 = .ok (.iconst 0, 1) := by decide +kernel
theorem dX10_summand_11 : decode cX10_summand 11 = .ok (.istore 4, 2) := by decide +kernel
theorem dX10_summand_13 : decode cX10_summand 13 = .ok (.getstatic 324, 3) := by decide +kernel
theorem dX10_summand_16 : decode cX10_summand 16 = .ok (.arraylength, 1) := by decide +kernel
theorem dX10_summand_17 : decode cX10_summand 17 = .ok (.iconst 1, 1) := by decide +kernel
theorem dX10_summand_18 : decode cX10_summand 18 = .ok (.isub, 1) := by decide +kernel
theorem dX10_summand_19 : decode cX10_summand 19 = .ok (.istore 5, 2) := by decide +kernel
theorem dX10_summand_21 : decode cX10_summand 21 = .ok (.iload 5, 2) := by decide +kernel
theorem dX10_summand_23 : decode cX10_summand 23 = .ok (.ifCond .lt 44, 3) := by decide +kernel
theorem dX10_summand_26 : decode cX10_summand 26 = .ok (.getstatic 324, 3) := by decide +kernel
theorem dX10_summand_29 : decode cX10_summand 29 = .ok (.iload 5, 2) := by decide +kernel
theorem dX10_summand_31 : decode cX10_summand 31 = .ok (.iaload, 1) := by decide +kernel
theorem dX10_summand_32 : decode cX10_summand 32 = .ok (.iload_n 3, 1) := by decide +kernel
theorem dX10_summand_33 : decode cX10_summand 33 = .ok (.if_icmp .gt 28, 3) := by decide +kernel
theorem dX10_summand_36 : decode cX10_summand 36 = .ok (.iload 4, 2) := by decide +kernel
theorem dX10_summand_38 : decode cX10_summand 38 = .ok (.iload_n 2, 1) := by decide +kernel
theorem dX10_summand_39 : decode cX10_summand 39 = .ok (.if_icmp .ne 10, 3) := by decide +kernel
theorem dX10_summand_42 : decode cX10_summand 42 = .ok (.getstatic 324, 3) := by decide +kernel
theorem dX10_summand_45 : decode cX10_summand 45 = .ok (.iload 5, 2) := by decide +kernel
theorem dX10_summand_47 : decode cX10_summand 47 = .ok (.iaload, 1) := by decide +kernel
theorem dX10_summand_48 : decode cX10_summand 48 = .ok (.ireturn, 1) := by decide +kernel
theorem dX10_summand_49 : decode cX10_summand 49 = .ok (.iinc 4 1, 3) := by decide +kernel
theorem dX10_summand_52 : decode cX10_summand 52 = .ok (.iload_n 3, 1) := by decide +kernel
theorem dX10_summand_53 : decode cX10_summand 53 = .ok (.getstatic 324, 3) := by decide +kernel
theorem dX10_summand_56 : decode cX10_summand 56 = .ok (.iload 5, 2) := by decide +kernel
theorem dX10_summand_58 : decode cX10_summand 58 = .ok (.iaload, 1) := by decide +kernel
theorem dX10_summand_59 : decode cX10_summand 59 = .ok (.isub, 1) := by decide +kernel
theorem dX10_summand_60 : decode cX10_summand 60 = .ok (.istore_n 3, 1) := by decide +kernel
theorem dX10_summand_61 : decode cX10_summand 61 = .ok (.iinc 5 (-1), 3) := by decide +kernel
theorem dX10_summand_64 : decode cX10_summand 64 = .ok (.goto (-43), 3) := by decide +kernel
theorem dX10_summand_67 : decode cX10_summand 67 = .ok (.iconst (-1), 1) := by decide +kernel
theorem dX10_summand_68 : decode cX10_summand 68 = .ok (.ireturn, 1) := by decide +kernel
theorem dX10_leastPlace_0 : decode cX10_leastPlace 0 = .ok (.iload_n 1, 1) := by decide +kernel
theorem dX10_leastPlace_1 : decode cX10_leastPlace 1 = .ok (.iconst 1, 1) := by decide +kernel
theorem dX10_leastPlace_2 : decode cX10_leastPlace 2 = .ok (.ldc_w 317, 3) := by decide +kernel
theorem dX10_leastPlace_5 : decode cX10_leastPlace 5 = .ok (.invokestatic 179, 3) := by decide +kernel
theorem dX10_leastPlace_8 : decode cX10_leastPlace 8 = .ok (.iload_n 1, 1) := by decide +kernel
theorem dX10_leastPlace_9 : decode cX10_leastPlace 9 = .ok (.istore_n 2, 1) := by decide +kernel
theorem dX10_leastPlace_10 : decode cX10_leastPlace 10 = .ok (.iconst 0, 1) := by decide +kernel
theorem dX10_leastPlace_11 : decode cX10_leastPlace 11 = .ok (.istore_n 3, 1) := by decide +kernel
theorem dX10_leastPlace_12 : decode cX10_leastPlace 12 = .ok (.getstatic 324, 3) := by decide +kernel
theorem dX10_leastPlace_15 : decode cX10_leastPlace 15 = .ok (.arraylength, 1) := by decide +kernel
theorem dX10_leastPlace_16 : decode cX10_leastPlace 16 = .ok (.iconst 1, 1) := by decide +kernel
theorem dX10_leastPlace_17 : decode cX10_leastPlace 17 = .ok (.isub, 1) := by decide +kernel
theorem dX10_leastPlace_18 : decode cX10_leastPlace 18 = .ok (.istore 4, 2) := by decide +kernel
theorem dX10_leastPlace_20 : decode cX10_leastPlace 20 = .ok (.iload 4, 2) := by decide +kernel
theorem dX10_leastPlace_22 : decode cX10_leastPlace 22 = .ok (.ifCond .lt 35, 3) := by decide +kernel
theorem dX10_leastPlace_25 : decode cX10_leastPlace 25 = .ok (.getstatic 324, 3) := by decide +kernel
theorem dX10_leastPlace_28 : decode cX10_leastPlace 28 = .ok (.iload 4, 2) := by decide +kernel
theorem dX10_leastPlace_30 : decode cX10_leastPlace 30 = .ok (.iaload, 1) := by decide +kernel
theorem dX10_leastPlace_31 : decode cX10_leastPlace 31 = .ok (.iload_n 2, 1) := by decide +kernel
theorem dX10_leastPlace_32 : decode cX10_leastPlace 32 = .ok (.if_icmp .gt 19, 3) := by decide +kernel
theorem dX10_leastPlace_35 : decode cX10_leastPlace 35 = .ok (.iload_n 2, 1) := by decide +kernel
theorem dX10_leastPlace_36 : decode cX10_leastPlace 36 = .ok (.ifCond .le 15, 3) := by decide +kernel
theorem dX10_leastPlace_39 : decode cX10_leastPlace 39 = .ok (.iload 4, 2) := by decide +kernel
theorem dX10_leastPlace_41 : decode cX10_leastPlace 41 = .ok (.istore_n 3, 1) := by decide +kernel
theorem dX10_leastPlace_42 : decode cX10_leastPlace 42 = .ok (.iload_n 2, 1) := by decide +kernel
theorem dX10_leastPlace_43 : decode cX10_leastPlace 43 = .ok (.getstatic 324, 3) := by decide +kernel
theorem dX10_leastPlace_46 : decode cX10_leastPlace 46 = .ok (.iload 4, 2) := by decide +kernel
theorem dX10_leastPlace_48 : decode cX10_leastPlace 48 = .ok (.iaload, 1) := by decide +kernel
theorem dX10_leastPlace_49 : decode cX10_leastPlace 49 = .ok (.isub, 1) := by decide +kernel
theorem dX10_leastPlace_50 : decode cX10_leastPlace 50 = .ok (.istore_n 2, 1) := by decide +kernel
theorem dX10_leastPlace_51 : decode cX10_leastPlace 51 = .ok (.iinc 4 (-1), 3) := by decide +kernel
theorem dX10_leastPlace_54 : decode cX10_leastPlace 54 = .ok (.goto (-34), 3) := by decide +kernel
theorem dX10_leastPlace_57 : decode cX10_leastPlace 57 = .ok (.iload_n 3, 1) := by decide +kernel
theorem dX10_leastPlace_58 : decode cX10_leastPlace 58 = .ok (.ireturn, 1) := by decide +kernel
theorem dX10_gap_0 : decode cX10_gap 0 = .ok (.aload_n 0, 1) := by decide +kernel
theorem dX10_gap_1 : decode cX10_gap 1 = .ok (.iload_n 1, 1) := by decide +kernel
theorem dX10_gap_2 : decode cX10_gap 2 = .ok (.invokevirtual 195, 3) := by decide +kernel
theorem dX10_gap_5 : decode cX10_gap 5 = .ok (.aload_n 0, 1) := by decide +kernel
theorem dX10_gap_6 : decode cX10_gap 6 = .ok (.getfield 40, 3) := by decide +kernel
theorem dX10_gap_9 : decode cX10_gap 9 = .ok (.iload_n 1, 1) := by decide +kernel
theorem dX10_gap_10 : decode cX10_gap 10 = .ok (.invokevirtual 198, 3) := by decide +kernel
theorem dX10_gap_13 : decode cX10_gap 13 = .ok (.astore_n 2, 1) := by decide +kernel
theorem dX10_gap_14 : decode cX10_gap 14 = .ok (.aload_n 2, 1) := by decide +kernel
theorem dX10_gap_15 : decode cX10_gap 15 = .ok (.invokevirtual 221, 3) := by decide +kernel
theorem dX10_gap_18 : decode cX10_gap 18 = .ok (.ifCond .ne 5, 3) := by decide +kernel
theorem dX10_gap_21 : decode cX10_gap 21 = .ok (.iconst (-1), 1) := by decide +kernel
theorem dX10_gap_22 : decode cX10_gap 22 = .ok (.ireturn, 1) := by decide +kernel
theorem dX10_gap_23 : decode cX10_gap 23 = .ok (.aload_n 0, 1) := by decide +kernel
theorem dX10_gap_24 : decode cX10_gap 24 = .ok (.iload_n 1, 1) := by decide +kernel
theorem dX10_gap_25 : decode cX10_gap 25 = .ok (.invokevirtual 225, 3) := by decide +kernel
theorem dX10_gap_28 : decode cX10_gap 28 = .ok (.astore_n 3, 1) := by decide +kernel
theorem dX10_gap_29 : decode cX10_gap 29 = .ok (.iconst 0, 1) := by decide +kernel
theorem dX10_gap_30 : decode cX10_gap 30 = .ok (.istore 4, 2) := by decide +kernel
theorem dX10_gap_32 : decode cX10_gap 32 = .ok (.iconst 0, 1) := by decide +kernel
theorem dX10_gap_33 : decode cX10_gap 33 = .ok (.istore 5, 2) := by decide +kernel
theorem dX10_gap_35 : decode cX10_gap 35 = .ok (.iconst 0, 1) := by decide +kernel
theorem dX10_gap_36 : decode cX10_gap 36 = .ok (.istore 6, 2) := by decide +kernel
theorem dX10_gap_38 : decode cX10_gap 38 = .ok (.iload 6, 2) := by decide +kernel
theorem dX10_gap_40 : decode cX10_gap 40 = .ok (.bipush 40, 2) := by decide +kernel
theorem dX10_gap_42 : decode cX10_gap 42 = .ok (.if_icmp .gt 110, 3) := by decide +kernel
theorem dX10_gap_45 : decode cX10_gap 45 = .ok (.aload_n 2, 1) := by decide +kernel
theorem dX10_gap_46 : decode cX10_gap 46 = .ok (.getfield 202, 3) := by decide +kernel
theorem dX10_gap_49 : decode cX10_gap 49 = .ok (.iload 6, 2) := by decide +kernel
theorem dX10_gap_51 : decode cX10_gap 51 = .ok (.i2l, 1) := by decide +kernel
theorem dX10_gap_52 : decode cX10_gap 52 = .ok (.iconst 0, 1) := by decide +kernel
theorem dX10_gap_53 : decode cX10_gap 53 = .ok (.invokestatic 313, 3) := by decide +kernel
theorem dX10_gap_56 : decode cX10_gap 56 = .ok (.l2i, 1) := by decide +kernel
theorem dX10_gap_57 : decode cX10_gap 57 = .ok (.istore 7, 2) := by decide +kernel
theorem dX10_gap_59 : decode cX10_gap 59 = .ok (.aload_n 2, 1) := by decide +kernel
theorem dX10_gap_60 : decode cX10_gap 60 = .ok (.getfield 202, 3) := by decide +kernel
theorem dX10_gap_63 : decode cX10_gap 63 = .ok (.iload 6, 2) := by decide +kernel
theorem dX10_gap_65 : decode cX10_gap 65 = .ok (.i2l, 1) := by decide +kernel
theorem dX10_gap_66 : decode cX10_gap 66 = .ok (.iconst 1, 1) := by decide +kernel
theorem dX10_gap_67 : decode cX10_gap 67 = .ok (.invokestatic 313, 3) := by decide +kernel
theorem dX10_gap_70 : decode cX10_gap 70 = .ok (.l2i, 1) := by decide +kernel
theorem dX10_gap_71 : decode cX10_gap 71 = .ok (.istore 8, 2) := by decide +kernel
theorem dX10_gap_73 : decode cX10_gap 73 = .ok (.iload 8, 2) := by decide +kernel
theorem dX10_gap_75 : decode cX10_gap 75 = .ok (.bipush 40, 2) := by decide +kernel
theorem dX10_gap_77 : decode cX10_gap 77 = .ok (.if_icmp .gt 69, 3) := by decide +kernel
theorem dX10_gap_80 : decode cX10_gap 80 = .ok (.iload 4, 2) := by decide +kernel
theorem dX10_gap_82 : decode cX10_gap 82 = .ok (.iload 7, 2) := by decide +kernel
theorem dX10_gap_84 : decode cX10_gap 84 = .ok (.iload 8, 2) := by decide +kernel
theorem dX10_gap_86 : decode cX10_gap 86 = .ok (.if_icmp .ne 7, 3) := by decide +kernel
theorem dX10_gap_89 : decode cX10_gap 89 = .ok (.iconst 1, 1) := by decide +kernel
theorem dX10_gap_90 : decode cX10_gap 90 = .ok (.goto 4, 3) := by decide +kernel
theorem dX10_gap_93 : decode cX10_gap 93 = .ok (.iconst 2, 1) := by decide +kernel
theorem dX10_gap_94 : decode cX10_gap 94 = .ok (.iadd, 1) := by decide +kernel
theorem dX10_gap_95 : decode cX10_gap 95 = .ok (.istore 4, 2) := by decide +kernel
theorem dX10_gap_97 : decode cX10_gap 97 = .ok (.iload 5, 2) := by decide +kernel
theorem dX10_gap_99 : decode cX10_gap 99 = .ok (.aload_n 3, 1) := by decide +kernel
theorem dX10_gap_100 : decode cX10_gap 100 = .ok (.iload 7, 2) := by decide +kernel
theorem dX10_gap_102 : decode cX10_gap 102 = .ok (.iload 8, 2) := by decide +kernel
theorem dX10_gap_104 : decode cX10_gap 104 = .ok (.invokevirtual 303, 3) := by decide +kernel
theorem dX10_gap_107 : decode cX10_gap 107 = .ok (.ifCond .ne 7, 3) := by decide +kernel
theorem dX10_gap_110 : decode cX10_gap 110 = .ok (.iconst 1, 1) := by decide +kernel
theorem dX10_gap_111 : decode cX10_gap 111 = .ok (.goto 4, 3) := by decide +kernel
theorem dX10_gap_114 : decode cX10_gap 114 = .ok (.iconst 0, 1) := by decide +kernel
theorem dX10_gap_115 : decode cX10_gap 115 = .ok (.iadd, 1) := by decide +kernel
theorem dX10_gap_116 : decode cX10_gap 116 = .ok (.istore 5, 2) := by decide +kernel
theorem dX10_gap_118 : decode cX10_gap 118 = .ok (.iload 5, 2) := by decide +kernel
theorem dX10_gap_120 : decode cX10_gap 120 = .ok (.iload 7, 2) := by decide +kernel
theorem dX10_gap_122 : decode cX10_gap 122 = .ok (.iload 8, 2) := by decide +kernel
theorem dX10_gap_124 : decode cX10_gap 124 = .ok (.if_icmp .eq 18, 3) := by decide +kernel
theorem dX10_gap_127 : decode cX10_gap 127 = .ok (.aload_n 3, 1) := by decide +kernel
theorem dX10_gap_128 : decode cX10_gap 128 = .ok (.iload 8, 2) := by decide +kernel
theorem dX10_gap_130 : decode cX10_gap 130 = .ok (.iload 7, 2) := by decide +kernel
theorem dX10_gap_132 : decode cX10_gap 132 = .ok (.invokevirtual 303, 3) := by decide +kernel
theorem dX10_gap_135 : decode cX10_gap 135 = .ok (.ifCond .ne 7, 3) := by decide +kernel
theorem dX10_gap_138 : decode cX10_gap 138 = .ok (.iconst 1, 1) := by decide +kernel
theorem dX10_gap_139 : decode cX10_gap 139 = .ok (.goto 4, 3) := by decide +kernel
theorem dX10_gap_142 : decode cX10_gap 142 = .ok (.iconst 0, 1) := by decide +kernel
theorem dX10_gap_143 : decode cX10_gap 143 = .ok (.iadd, 1) := by decide +kernel
theorem dX10_gap_144 : decode cX10_gap 144 = .ok (.istore 5, 2) := by decide +kernel
theorem dX10_gap_146 : decode cX10_gap 146 = .ok (.iinc 6 1, 3) := by decide +kernel
theorem dX10_gap_149 : decode cX10_gap 149 = .ok (.goto (-111), 3) := by decide +kernel
theorem dX10_gap_152 : decode cX10_gap 152 = .ok (.aload_n 3, 1) := by decide +kernel
theorem dX10_gap_153 : decode cX10_gap 153 = .ok (.getfield 232, 3) := by decide +kernel
theorem dX10_gap_156 : decode cX10_gap 156 = .ok (.iload 5, 2) := by decide +kernel
theorem dX10_gap_158 : decode cX10_gap 158 = .ok (.isub, 1) := by decide +kernel
theorem dX10_gap_159 : decode cX10_gap 159 = .ok (.iload 4, 2) := by decide +kernel
theorem dX10_gap_161 : decode cX10_gap 161 = .ok (.iadd, 1) := by decide +kernel
theorem dX10_gap_162 : decode cX10_gap 162 = .ok (.iload 5, 2) := by decide +kernel
theorem dX10_gap_164 : decode cX10_gap 164 = .ok (.isub, 1) := by decide +kernel
theorem dX10_gap_165 : decode cX10_gap 165 = .ok (.ireturn, 1) := by decide +kernel
theorem dX10_advice_0 : decode cX10_advice 0 = .ok (.iload_n 1, 1) := by decide +kernel
theorem dX10_advice_1 : decode cX10_advice 1 = .ok (.iconst 0, 1) := by decide +kernel
theorem dX10_advice_2 : decode cX10_advice 2 = .ok (.iconst 3, 1) := by decide +kernel
theorem dX10_advice_3 : decode cX10_advice 3 = .ok (.invokestatic 179, 3) := by decide +kernel
theorem dX10_advice_6 : decode cX10_advice 6 = .ok (.aload_n 0, 1) := by decide +kernel
theorem dX10_advice_7 : decode cX10_advice 7 = .ok (.invokevirtual 140, 3) := by decide +kernel
theorem dX10_advice_10 : decode cX10_advice 10 = .ok (.aload_n 0, 1) := by decide +kernel
theorem dX10_advice_11 : decode cX10_advice 11 = .ok (.getfield 40, 3) := by decide +kernel
theorem dX10_advice_14 : decode cX10_advice 14 = .ok (.getfield 118, 3) := by decide +kernel
theorem dX10_advice_17 : decode cX10_advice 17 = .ok (.aload_n 0, 1) := by decide +kernel
theorem dX10_advice_18 : decode cX10_advice 18 = .ok (.getfield 90, 3) := by decide +kernel
theorem dX10_advice_21 : decode cX10_advice 21 = .ok (.invokevirtual 327, 3) := by decide +kernel
theorem dX10_advice_24 : decode cX10_advice 24 = .ok (.aload_n 0, 1) := by decide +kernel
theorem dX10_advice_25 : decode cX10_advice 25 = .ok (.getfield 90, 3) := by decide +kernel
theorem dX10_advice_28 : decode cX10_advice 28 = .ok (.getfield 331, 3) := by decide +kernel
theorem dX10_advice_31 : decode cX10_advice 31 = .ok (.ifCond .ne 5, 3) := by decide +kernel
theorem dX10_advice_34 : decode cX10_advice 34 = .ok (.iconst (-1), 1) := by decide +kernel
theorem dX10_advice_35 : decode cX10_advice 35 = .ok (.ireturn, 1) := by decide +kernel
theorem dX10_advice_36 : decode cX10_advice 36 = .ok (.iload_n 1, 1) := by decide +kernel
theorem dX10_advice_37 : decode cX10_advice 37 = .ok (.tableswitch 51 0 2 #[27, 35, 43], 27) := by decide +kernel
theorem dX10_advice_64 : decode cX10_advice 64 = .ok (.aload_n 0, 1) := by decide +kernel
theorem dX10_advice_65 : decode cX10_advice 65 = .ok (.getfield 90, 3) := by decide +kernel
theorem dX10_advice_68 : decode cX10_advice 68 = .ok (.getfield 335, 3) := by decide +kernel
theorem dX10_advice_71 : decode cX10_advice 71 = .ok (.ireturn, 1) := by decide +kernel
theorem dX10_advice_72 : decode cX10_advice 72 = .ok (.aload_n 0, 1) := by decide +kernel
theorem dX10_advice_73 : decode cX10_advice 73 = .ok (.getfield 90, 3) := by decide +kernel
theorem dX10_advice_76 : decode cX10_advice 76 = .ok (.getfield 338, 3) := by decide +kernel
theorem dX10_advice_79 : decode cX10_advice 79 = .ok (.ireturn, 1) := by decide +kernel
theorem dX10_advice_80 : decode cX10_advice 80 = .ok (.aload_n 0, 1) := by decide +kernel
theorem dX10_advice_81 : decode cX10_advice 81 = .ok (.getfield 90, 3) := by decide +kernel
theorem dX10_advice_84 : decode cX10_advice 84 = .ok (.getfield 341, 3) := by decide +kernel
theorem dX10_advice_87 : decode cX10_advice 87 = .ok (.ireturn, 1) := by decide +kernel
theorem dX10_advice_88 : decode cX10_advice 88 = .ok (.aload_n 0, 1) := by decide +kernel
theorem dX10_advice_89 : decode cX10_advice 89 = .ok (.getfield 90, 3) := by decide +kernel
theorem dX10_advice_92 : decode cX10_advice 92 = .ok (.getfield 344, 3) := by decide +kernel
theorem dX10_advice_95 : decode cX10_advice 95 = .ok (.ifCond .eq 7, 3) := by decide +kernel
theorem dX10_advice_98 : decode cX10_advice 98 = .ok (.iconst 1, 1) := by decide +kernel
theorem dX10_advice_99 : decode cX10_advice 99 = .ok (.goto 4, 3) := by decide +kernel
theorem dX10_advice_102 : decode cX10_advice 102 = .ok (.iconst 0, 1) := by decide +kernel
theorem dX10_advice_103 : decode cX10_advice 103 = .ok (.ireturn, 1) := by decide +kernel
theorem dX10_turnsIn_0 : decode cX10_turnsIn 0 = .ok (.aload_n 0, 1) := by decide +kernel
theorem dX10_turnsIn_1 : decode cX10_turnsIn 1 = .ok (.aload_n 0, 1) := by decide +kernel
theorem dX10_turnsIn_2 : decode cX10_turnsIn 2 = .ok (.invokevirtual 140, 3) := by decide +kernel
theorem dX10_turnsIn_5 : decode cX10_turnsIn 5 = .ok (.invokevirtual 347, 3) := by decide +kernel
theorem dX10_turnsIn_8 : decode cX10_turnsIn 8 = .ok (.ireturn, 1) := by decide +kernel
theorem dX10_winner_0 : decode cX10_winner 0 = .ok (.aload_n 0, 1) := by decide +kernel
theorem dX10_winner_1 : decode cX10_winner 1 = .ok (.getfield 40, 3) := by decide +kernel
theorem dX10_winner_4 : decode cX10_winner 4 = .ok (.getfield 134, 3) := by decide +kernel
theorem dX10_winner_7 : decode cX10_winner 7 = .ok (.aload_n 0, 1) := by decide +kernel
theorem dX10_winner_8 : decode cX10_winner 8 = .ok (.aload_n 0, 1) := by decide +kernel
theorem dX10_winner_9 : decode cX10_winner 9 = .ok (.invokevirtual 140, 3) := by decide +kernel
theorem dX10_winner_12 : decode cX10_winner 12 = .ok (.invokevirtual 347, 3) := by decide +kernel
theorem dX10_winner_15 : decode cX10_winner 15 = .ok (.iadd, 1) := by decide +kernel
theorem dX10_winner_16 : decode cX10_winner 16 = .ok (.iconst 1, 1) := by decide +kernel
theorem dX10_winner_17 : decode cX10_winner 17 = .ok (.iadd, 1) := by decide +kernel
theorem dX10_winner_18 : decode cX10_winner 18 = .ok (.iconst 2, 1) := by decide +kernel
theorem dX10_winner_19 : decode cX10_winner 19 = .ok (.irem, 1) := by decide +kernel
theorem dX10_winner_20 : decode cX10_winner 20 = .ok (.ireturn, 1) := by decide +kernel
theorem dX10_turnsAhead_0 : decode cX10_turnsAhead 0 = .ok (.aload_n 0, 1) := by decide +kernel
theorem dX10_turnsAhead_1 : decode cX10_turnsAhead 1 = .ok (.getfield 83, 3) := by decide +kernel
theorem dX10_turnsAhead_4 : decode cX10_turnsAhead 4 = .ok (.aload_n 0, 1) := by decide +kernel
theorem dX10_turnsAhead_5 : decode cX10_turnsAhead 5 = .ok (.getfield 40, 3) := by decide +kernel
theorem dX10_turnsAhead_8 : decode cX10_turnsAhead 8 = .ok (.getfield 118, 3) := by decide +kernel
theorem dX10_turnsAhead_11 : decode cX10_turnsAhead 11 = .ok (.invokevirtual 351, 3) := by decide +kernel
theorem dX10_turnsAhead_14 : decode cX10_turnsAhead 14 = .ok (.iconst 0, 1) := by decide +kernel
theorem dX10_turnsAhead_15 : decode cX10_turnsAhead 15 = .ok (.istore_n 2, 1) := by decide +kernel
theorem dX10_turnsAhead_16 : decode cX10_turnsAhead 16 = .ok (.iconst 0, 1) := by decide +kernel
theorem dX10_turnsAhead_17 : decode cX10_turnsAhead 17 = .ok (.istore_n 3, 1) := by decide +kernel
theorem dX10_turnsAhead_18 : decode cX10_turnsAhead 18 = .ok (.iload_n 3, 1) := by decide +kernel
theorem dX10_turnsAhead_19 : decode cX10_turnsAhead 19 = .ok (.sipush 600, 3) := by decide +kernel
theorem dX10_turnsAhead_22 : decode cX10_turnsAhead 22 = .ok (.if_icmp .ge 64, 3) := by decide +kernel
theorem dX10_turnsAhead_25 : decode cX10_turnsAhead 25 = .ok (.aload_n 1, 1) := by decide +kernel
theorem dX10_turnsAhead_26 : decode cX10_turnsAhead 26 = .ok (.aload_n 0, 1) := by decide +kernel
theorem dX10_turnsAhead_27 : decode cX10_turnsAhead 27 = .ok (.getfield 83, 3) := by decide +kernel
theorem dX10_turnsAhead_30 : decode cX10_turnsAhead 30 = .ok (.aload_n 0, 1) := by decide +kernel
theorem dX10_turnsAhead_31 : decode cX10_turnsAhead 31 = .ok (.getfield 90, 3) := by decide +kernel
theorem dX10_turnsAhead_34 : decode cX10_turnsAhead 34 = .ok (.invokevirtual 327, 3) := by decide +kernel
theorem dX10_turnsAhead_37 : decode cX10_turnsAhead 37 = .ok (.aload_n 0, 1) := by decide +kernel
theorem dX10_turnsAhead_38 : decode cX10_turnsAhead 38 = .ok (.getfield 90, 3) := by decide +kernel
theorem dX10_turnsAhead_41 : decode cX10_turnsAhead 41 = .ok (.getfield 331, 3) := by decide +kernel
theorem dX10_turnsAhead_44 : decode cX10_turnsAhead 44 = .ok (.ifCond .ne 5, 3) := by decide +kernel
theorem dX10_turnsAhead_47 : decode cX10_turnsAhead 47 = .ok (.iload_n 2, 1) := by decide +kernel
theorem dX10_turnsAhead_48 : decode cX10_turnsAhead 48 = .ok (.ireturn, 1) := by decide +kernel
theorem dX10_turnsAhead_49 : decode cX10_turnsAhead 49 = .ok (.aload_n 0, 1) := by decide +kernel
theorem dX10_turnsAhead_50 : decode cX10_turnsAhead 50 = .ok (.getfield 83, 3) := by decide +kernel
theorem dX10_turnsAhead_53 : decode cX10_turnsAhead 53 = .ok (.aload_n 0, 1) := by decide +kernel
theorem dX10_turnsAhead_54 : decode cX10_turnsAhead 54 = .ok (.getfield 90, 3) := by decide +kernel
theorem dX10_turnsAhead_57 : decode cX10_turnsAhead 57 = .ok (.getfield 335, 3) := by decide +kernel
theorem dX10_turnsAhead_60 : decode cX10_turnsAhead 60 = .ok (.aload_n 0, 1) := by decide +kernel
theorem dX10_turnsAhead_61 : decode cX10_turnsAhead 61 = .ok (.getfield 90, 3) := by decide +kernel
theorem dX10_turnsAhead_64 : decode cX10_turnsAhead 64 = .ok (.getfield 338, 3) := by decide +kernel
theorem dX10_turnsAhead_67 : decode cX10_turnsAhead 67 = .ok (.aload_n 0, 1) := by decide +kernel
theorem dX10_turnsAhead_68 : decode cX10_turnsAhead 68 = .ok (.getfield 90, 3) := by decide +kernel
theorem dX10_turnsAhead_71 : decode cX10_turnsAhead 71 = .ok (.getfield 341, 3) := by decide +kernel
theorem dX10_turnsAhead_74 : decode cX10_turnsAhead 74 = .ok (.invokevirtual 354, 3) := by decide +kernel
theorem dX10_turnsAhead_77 : decode cX10_turnsAhead 77 = .ok (.iinc 2 1, 3) := by decide +kernel
theorem dX10_turnsAhead_80 : decode cX10_turnsAhead 80 = .ok (.iinc 3 1, 3) := by decide +kernel
theorem dX10_turnsAhead_83 : decode cX10_turnsAhead 83 = .ok (.goto (-65), 3) := by decide +kernel
theorem dX10_turnsAhead_86 : decode cX10_turnsAhead 86 = .ok (.iload_n 2, 1) := by decide +kernel
theorem dX10_turnsAhead_87 : decode cX10_turnsAhead 87 = .ok (.ireturn, 1) := by decide +kernel
theorem dX10_totalBehind_0 : decode cX10_totalBehind 0 = .ok (.aload_n 0, 1) := by decide +kernel
theorem dX10_totalBehind_1 : decode cX10_totalBehind 1 = .ok (.iload_n 1, 1) := by decide +kernel
theorem dX10_totalBehind_2 : decode cX10_totalBehind 2 = .ok (.invokevirtual 257, 3) := by decide +kernel
theorem dX10_totalBehind_5 : decode cX10_totalBehind 5 = .ok (.aload_n 0, 1) := by decide +kernel
theorem dX10_totalBehind_6 : decode cX10_totalBehind 6 = .ok (.getfield 40, 3) := by decide +kernel
theorem dX10_totalBehind_9 : decode cX10_totalBehind 9 = .ok (.iload_n 1, 1) := by decide +kernel
theorem dX10_totalBehind_10 : decode cX10_totalBehind 10 = .ok (.iload_n 2, 1) := by decide +kernel
theorem dX10_totalBehind_11 : decode cX10_totalBehind 11 = .ok (.iload_n 3, 1) := by decide +kernel
theorem dX10_totalBehind_12 : decode cX10_totalBehind 12 = .ok (.invokevirtual 299, 3) := by decide +kernel
theorem dX10_totalBehind_15 : decode cX10_totalBehind 15 = .ok (.ifCond .eq 5, 3) := by decide +kernel
theorem dX10_totalBehind_18 : decode cX10_totalBehind 18 = .ok (.iconst (-1), 1) := by decide +kernel
theorem dX10_totalBehind_19 : decode cX10_totalBehind 19 = .ok (.ireturn, 1) := by decide +kernel
theorem dX10_totalBehind_20 : decode cX10_totalBehind 20 = .ok (.aload_n 0, 1) := by decide +kernel
theorem dX10_totalBehind_21 : decode cX10_totalBehind 21 = .ok (.getfield 83, 3) := by decide +kernel
theorem dX10_totalBehind_24 : decode cX10_totalBehind 24 = .ok (.aload_n 0, 1) := by decide +kernel
theorem dX10_totalBehind_25 : decode cX10_totalBehind 25 = .ok (.getfield 40, 3) := by decide +kernel
theorem dX10_totalBehind_28 : decode cX10_totalBehind 28 = .ok (.getfield 118, 3) := by decide +kernel
theorem dX10_totalBehind_31 : decode cX10_totalBehind 31 = .ok (.invokevirtual 351, 3) := by decide +kernel
theorem dX10_totalBehind_34 : decode cX10_totalBehind 34 = .ok (.aload_n 0, 1) := by decide +kernel
theorem dX10_totalBehind_35 : decode cX10_totalBehind 35 = .ok (.getfield 83, 3) := by decide +kernel
theorem dX10_totalBehind_38 : decode cX10_totalBehind 38 = .ok (.iload_n 1, 1) := by decide +kernel
theorem dX10_totalBehind_39 : decode cX10_totalBehind 39 = .ok (.iload_n 2, 1) := by decide +kernel
theorem dX10_totalBehind_40 : decode cX10_totalBehind 40 = .ok (.iload_n 3, 1) := by decide +kernel
theorem dX10_totalBehind_41 : decode cX10_totalBehind 41 = .ok (.invokevirtual 354, 3) := by decide +kernel
theorem dX10_totalBehind_44 : decode cX10_totalBehind 44 = .ok (.aload_n 0, 1) := by decide +kernel
theorem dX10_totalBehind_45 : decode cX10_totalBehind 45 = .ok (.invokevirtual 140, 3) := by decide +kernel
theorem dX10_totalBehind_48 : decode cX10_totalBehind 48 = .ok (.aload_n 0, 1) := by decide +kernel
theorem dX10_totalBehind_49 : decode cX10_totalBehind 49 = .ok (.getfield 83, 3) := by decide +kernel
theorem dX10_totalBehind_52 : decode cX10_totalBehind 52 = .ok (.invokevirtual 144, 3) := by decide +kernel
theorem dX10_totalBehind_55 : decode cX10_totalBehind 55 = .ok (.ireturn, 1) := by decide +kernel
theorem dX10_changedBy_0 : decode cX10_changedBy 0 = .ok (.aload_n 0, 1) := by decide +kernel
theorem dX10_changedBy_1 : decode cX10_changedBy 1 = .ok (.iload_n 1, 1) := by decide +kernel
theorem dX10_changedBy_2 : decode cX10_changedBy 2 = .ok (.invokevirtual 195, 3) := by decide +kernel
theorem dX10_changedBy_5 : decode cX10_changedBy 5 = .ok (.iload_n 2, 1) := by decide +kernel
theorem dX10_changedBy_6 : decode cX10_changedBy 6 = .ok (.iload_n 3, 1) := by decide +kernel
theorem dX10_changedBy_7 : decode cX10_changedBy 7 = .ok (.invokestatic 357, 3) := by decide +kernel
theorem dX10_changedBy_10 : decode cX10_changedBy 10 = .ok (.aload_n 0, 1) := by decide +kernel
theorem dX10_changedBy_11 : decode cX10_changedBy 11 = .ok (.getfield 69, 3) := by decide +kernel
theorem dX10_changedBy_14 : decode cX10_changedBy 14 = .ok (.aload_n 0, 1) := by decide +kernel
theorem dX10_changedBy_15 : decode cX10_changedBy 15 = .ok (.getfield 40, 3) := by decide +kernel
theorem dX10_changedBy_18 : decode cX10_changedBy 18 = .ok (.iload_n 1, 1) := by decide +kernel
theorem dX10_changedBy_19 : decode cX10_changedBy 19 = .ok (.invokevirtual 198, 3) := by decide +kernel
theorem dX10_changedBy_22 : decode cX10_changedBy 22 = .ok (.invokevirtual 360, 3) := by decide +kernel
theorem dX10_changedBy_25 : decode cX10_changedBy 25 = .ok (.aload_n 0, 1) := by decide +kernel
theorem dX10_changedBy_26 : decode cX10_changedBy 26 = .ok (.getfield 69, 3) := by decide +kernel
theorem dX10_changedBy_29 : decode cX10_changedBy 29 = .ok (.iload_n 2, 1) := by decide +kernel
theorem dX10_changedBy_30 : decode cX10_changedBy 30 = .ok (.iload_n 3, 1) := by decide +kernel
theorem dX10_changedBy_31 : decode cX10_changedBy 31 = .ok (.aload_n 0, 1) := by decide +kernel
theorem dX10_changedBy_32 : decode cX10_changedBy 32 = .ok (.getfield 69, 3) := by decide +kernel
theorem dX10_changedBy_35 : decode cX10_changedBy 35 = .ok (.iload_n 2, 1) := by decide +kernel
theorem dX10_changedBy_36 : decode cX10_changedBy 36 = .ok (.iload_n 3, 1) := by decide +kernel
theorem dX10_changedBy_37 : decode cX10_changedBy 37 = .ok (.invokevirtual 363, 3) := by decide +kernel
theorem dX10_changedBy_40 : decode cX10_changedBy 40 = .ok (.ifCond .ne 7, 3) := by decide +kernel
theorem dX10_changedBy_43 : decode cX10_changedBy 43 = .ok (.iconst 1, 1) := by decide +kernel
theorem dX10_changedBy_44 : decode cX10_changedBy 44 = .ok (.goto 4, 3) := by decide +kernel
theorem dX10_changedBy_47 : decode cX10_changedBy 47 = .ok (.iconst 0, 1) := by decide +kernel
theorem dX10_changedBy_48 : decode cX10_changedBy 48 = .ok (.invokevirtual 367, 3) := by decide +kernel
theorem dX10_changedBy_51 : decode cX10_changedBy 51 = .ok (.aload_n 0, 1) := by decide +kernel
theorem dX10_changedBy_52 : decode cX10_changedBy 52 = .ok (.getfield 76, 3) := by decide +kernel
theorem dX10_changedBy_55 : decode cX10_changedBy 55 = .ok (.aload_n 0, 1) := by decide +kernel
theorem dX10_changedBy_56 : decode cX10_changedBy 56 = .ok (.getfield 69, 3) := by decide +kernel
theorem dX10_changedBy_59 : decode cX10_changedBy 59 = .ok (.invokevirtual 371, 3) := by decide +kernel
theorem dX10_changedBy_62 : decode cX10_changedBy 62 = .ok (.aload_n 0, 1) := by decide +kernel
theorem dX10_changedBy_63 : decode cX10_changedBy 63 = .ok (.iload_n 1, 1) := by decide +kernel
theorem dX10_changedBy_64 : decode cX10_changedBy 64 = .ok (.invokevirtual 225, 3) := by decide +kernel
theorem dX10_changedBy_67 : decode cX10_changedBy 67 = .ok (.aload_n 0, 1) := by decide +kernel
theorem dX10_changedBy_68 : decode cX10_changedBy 68 = .ok (.getfield 76, 3) := by decide +kernel
theorem dX10_changedBy_71 : decode cX10_changedBy 71 = .ok (.invokevirtual 374, 3) := by decide +kernel
theorem dX10_changedBy_74 : decode cX10_changedBy 74 = .ok (.ireturn, 1) := by decide +kernel
theorem dX10_losingWith_0 : decode cX10_losingWith 0 = .ok (.aload_n 0, 1) := by decide +kernel
theorem dX10_losingWith_1 : decode cX10_losingWith 1 = .ok (.iload_n 1, 1) := by decide +kernel
theorem dX10_losingWith_2 : decode cX10_losingWith 2 = .ok (.invokevirtual 195, 3) := by decide +kernel
theorem dX10_losingWith_5 : decode cX10_losingWith 5 = .ok (.iload_n 2, 1) := by decide +kernel
theorem dX10_losingWith_6 : decode cX10_losingWith 6 = .ok (.iconst 0, 1) := by decide +kernel
theorem dX10_losingWith_7 : decode cX10_losingWith 7 = .ok (.iconst 5, 1) := by decide +kernel
theorem dX10_losingWith_8 : decode cX10_losingWith 8 = .ok (.invokestatic 179, 3) := by decide +kernel
theorem dX10_losingWith_11 : decode cX10_losingWith 11 = .ok (.aload_n 0, 1) := by decide +kernel
theorem dX10_losingWith_12 : decode cX10_losingWith 12 = .ok (.getfield 69, 3) := by decide +kernel
theorem dX10_losingWith_15 : decode cX10_losingWith 15 = .ok (.aload_n 0, 1) := by decide +kernel
theorem dX10_losingWith_16 : decode cX10_losingWith 16 = .ok (.getfield 40, 3) := by decide +kernel
theorem dX10_losingWith_19 : decode cX10_losingWith 19 = .ok (.iload_n 1, 1) := by decide +kernel
theorem dX10_losingWith_20 : decode cX10_losingWith 20 = .ok (.invokevirtual 198, 3) := by decide +kernel
theorem dX10_losingWith_23 : decode cX10_losingWith 23 = .ok (.invokevirtual 360, 3) := by decide +kernel
theorem dX10_losingWith_26 : decode cX10_losingWith 26 = .ok (.aload_n 0, 1) := by decide +kernel
theorem dX10_losingWith_27 : decode cX10_losingWith 27 = .ok (.getfield 69, 3) := by decide +kernel
theorem dX10_losingWith_30 : decode cX10_losingWith 30 = .ok (.iload_n 2, 1) := by decide +kernel
theorem dX10_losingWith_31 : decode cX10_losingWith 31 = .ok (.putfield 202, 3) := by decide +kernel
theorem dX10_losingWith_34 : decode cX10_losingWith 34 = .ok (.aload_n 0, 1) := by decide +kernel
theorem dX10_losingWith_35 : decode cX10_losingWith 35 = .ok (.getfield 76, 3) := by decide +kernel
theorem dX10_losingWith_38 : decode cX10_losingWith 38 = .ok (.aload_n 0, 1) := by decide +kernel
theorem dX10_losingWith_39 : decode cX10_losingWith 39 = .ok (.getfield 69, 3) := by decide +kernel
theorem dX10_losingWith_42 : decode cX10_losingWith 42 = .ok (.invokevirtual 371, 3) := by decide +kernel
theorem dX10_losingWith_45 : decode cX10_losingWith 45 = .ok (.aload_n 0, 1) := by decide +kernel
theorem dX10_losingWith_46 : decode cX10_losingWith 46 = .ok (.getfield 76, 3) := by decide +kernel
theorem dX10_losingWith_49 : decode cX10_losingWith 49 = .ok (.getfield 232, 3) := by decide +kernel
theorem dX10_losingWith_52 : decode cX10_losingWith 52 = .ok (.ireturn, 1) := by decide +kernel
theorem dX10_share_0 : decode cX10_share 0 = .ok (.aload_n 0, 1) := by decide +kernel
theorem dX10_share_1 : decode cX10_share 1 = .ok (.iload_n 1, 1) := by decide +kernel
theorem dX10_share_2 : decode cX10_share 2 = .ok (.invokevirtual 195, 3) := by decide +kernel
theorem dX10_share_5 : decode cX10_share 5 = .ok (.aload_n 0, 1) := by decide +kernel
theorem dX10_share_6 : decode cX10_share 6 = .ok (.iload_n 1, 1) := by decide +kernel
theorem dX10_share_7 : decode cX10_share 7 = .ok (.invokevirtual 225, 3) := by decide +kernel
theorem dX10_share_10 : decode cX10_share 10 = .ok (.getfield 232, 3) := by decide +kernel
theorem dX10_share_13 : decode cX10_share 13 = .ok (.i2f, 1) := by decide +kernel
theorem dX10_share_14 : decode cX10_share 14 = .ok (.ldc_w 378, 3) := by decide +kernel
theorem dX10_share_17 : decode cX10_share 17 = .ok (.fdiv, 1) := by decide +kernel
theorem dX10_share_18 : decode cX10_share 18 = .ok (.freturn, 1) := by decide +kernel
theorem dX10_meanValue_0 : decode cX10_meanValue 0 = .ok (.aload_n 0, 1) := by decide +kernel
theorem dX10_meanValue_1 : decode cX10_meanValue 1 = .ok (.iload_n 1, 1) := by decide +kernel
theorem dX10_meanValue_2 : decode cX10_meanValue 2 = .ok (.invokevirtual 195, 3) := by decide +kernel
theorem dX10_meanValue_5 : decode cX10_meanValue 5 = .ok (.aload_n 0, 1) := by decide +kernel
theorem dX10_meanValue_6 : decode cX10_meanValue 6 = .ok (.iload_n 1, 1) := by decide +kernel
theorem dX10_meanValue_7 : decode cX10_meanValue 7 = .ok (.invokevirtual 225, 3) := by decide +kernel
theorem dX10_meanValue_10 : decode cX10_meanValue 10 = .ok (.getfield 379, 3) := by decide +kernel
theorem dX10_meanValue_13 : decode cX10_meanValue 13 = .ok (.i2d, 1) := by decide +kernel
theorem dX10_meanValue_14 : decode cX10_meanValue 14 = .ok (.ldc2_w 382, 3) := by decide +kernel
theorem dX10_meanValue_17 : decode cX10_meanValue 17 = .ok (.ddiv, 1) := by decide +kernel
theorem dX10_meanValue_18 : decode cX10_meanValue 18 = .ok (.dreturn, 1) := by decide +kernel
theorem dX10_move_0 : decode cX10_move 0 = .ok (.aload_n 0, 1) := by decide +kernel
theorem dX10_move_1 : decode cX10_move 1 = .ok (.iload_n 1, 1) := by decide +kernel
theorem dX10_move_2 : decode cX10_move 2 = .ok (.invokevirtual 257, 3) := by decide +kernel
theorem dX10_move_5 : decode cX10_move 5 = .ok (.aload_n 0, 1) := by decide +kernel
theorem dX10_move_6 : decode cX10_move 6 = .ok (.getfield 40, 3) := by decide +kernel
theorem dX10_move_9 : decode cX10_move 9 = .ok (.iload_n 1, 1) := by decide +kernel
theorem dX10_move_10 : decode cX10_move 10 = .ok (.iload_n 2, 1) := by decide +kernel
theorem dX10_move_11 : decode cX10_move 11 = .ok (.iload_n 3, 1) := by decide +kernel
theorem dX10_move_12 : decode cX10_move 12 = .ok (.invokevirtual 299, 3) := by decide +kernel
theorem dX10_move_15 : decode cX10_move 15 = .ok (.ifCond .eq 14, 3) := by decide +kernel
theorem dX10_move_18 : decode cX10_move 18 = .ok (.new 384, 3) := by decide +kernel
theorem dX10_move_21 : decode cX10_move 21 = .ok (.dup, 1) := by decide +kernel
theorem dX10_move_22 : decode cX10_move 22 = .ok (.ldc_w 386, 3) := by decide +kernel
theorem dX10_move_25 : decode cX10_move 25 = .ok (.invokespecial 388, 3) := by decide +kernel
theorem dX10_move_28 : decode cX10_move 28 = .ok (.athrow, 1) := by decide +kernel
theorem dX10_move_29 : decode cX10_move 29 = .ok (.aload_n 0, 1) := by decide +kernel
theorem dX10_move_30 : decode cX10_move 30 = .ok (.getfield 54, 3) := by decide +kernel
theorem dX10_move_33 : decode cX10_move 33 = .ok (.aload_n 0, 1) := by decide +kernel
theorem dX10_move_34 : decode cX10_move 34 = .ok (.getfield 40, 3) := by decide +kernel
theorem dX10_move_37 : decode cX10_move 37 = .ok (.invokevirtual 389, 3) := by decide +kernel
theorem dX10_move_40 : decode cX10_move 40 = .ok (.aload_n 0, 1) := by decide +kernel
theorem dX10_move_41 : decode cX10_move 41 = .ok (.aload_n 0, 1) := by decide +kernel
theorem dX10_move_42 : decode cX10_move 42 = .ok (.invokevirtual 140, 3) := by decide +kernel
theorem dX10_move_45 : decode cX10_move 45 = .ok (.iload_n 1, 1) := by decide +kernel
theorem dX10_move_46 : decode cX10_move 46 = .ok (.iload_n 2, 1) := by decide +kernel
theorem dX10_move_47 : decode cX10_move 47 = .ok (.iload_n 3, 1) := by decide +kernel
theorem dX10_move_48 : decode cX10_move 48 = .ok (.invokevirtual 392, 3) := by decide +kernel
theorem dX10_move_51 : decode cX10_move 51 = .ok (.ireturn, 1) := by decide +kernel
theorem dX10_follow_0 : decode cX10_follow 0 = .ok (.iload_n 1, 1) := by decide +kernel
theorem dX10_follow_1 : decode cX10_follow 1 = .ok (.iconst 1, 1) := by decide +kernel
theorem dX10_follow_2 : decode cX10_follow 2 = .ok (.sipush 600, 3) := by decide +kernel
theorem dX10_follow_5 : decode cX10_follow 5 = .ok (.invokestatic 179, 3) := by decide +kernel
theorem dX10_follow_8 : decode cX10_follow 8 = .ok (.aload_n 0, 1) := by decide +kernel
theorem dX10_follow_9 : decode cX10_follow 9 = .ok (.getfield 54, 3) := by decide +kernel
theorem dX10_follow_12 : decode cX10_follow 12 = .ok (.aload_n 0, 1) := by decide +kernel
theorem dX10_follow_13 : decode cX10_follow 13 = .ok (.getfield 40, 3) := by decide +kernel
theorem dX10_follow_16 : decode cX10_follow 16 = .ok (.invokevirtual 389, 3) := by decide +kernel
theorem dX10_follow_19 : decode cX10_follow 19 = .ok (.aload_n 0, 1) := by decide +kernel
theorem dX10_follow_20 : decode cX10_follow 20 = .ok (.invokevirtual 140, 3) := by decide +kernel
theorem dX10_follow_23 : decode cX10_follow 23 = .ok (.astore_n 2, 1) := by decide +kernel
theorem dX10_follow_24 : decode cX10_follow 24 = .ok (.iconst 0, 1) := by decide +kernel
theorem dX10_follow_25 : decode cX10_follow 25 = .ok (.istore_n 3, 1) := by decide +kernel
theorem dX10_follow_26 : decode cX10_follow 26 = .ok (.iload_n 3, 1) := by decide +kernel
theorem dX10_follow_27 : decode cX10_follow 27 = .ok (.iload_n 1, 1) := by decide +kernel
theorem dX10_follow_28 : decode cX10_follow 28 = .ok (.if_icmp .ge 63, 3) := by decide +kernel
theorem dX10_follow_31 : decode cX10_follow 31 = .ok (.aload_n 2, 1) := by decide +kernel
theorem dX10_follow_32 : decode cX10_follow 32 = .ok (.aload_n 0, 1) := by decide +kernel
theorem dX10_follow_33 : decode cX10_follow 33 = .ok (.getfield 40, 3) := by decide +kernel
theorem dX10_follow_36 : decode cX10_follow 36 = .ok (.getfield 118, 3) := by decide +kernel
theorem dX10_follow_39 : decode cX10_follow 39 = .ok (.aload_n 0, 1) := by decide +kernel
theorem dX10_follow_40 : decode cX10_follow 40 = .ok (.getfield 90, 3) := by decide +kernel
theorem dX10_follow_43 : decode cX10_follow 43 = .ok (.invokevirtual 327, 3) := by decide +kernel
theorem dX10_follow_46 : decode cX10_follow 46 = .ok (.aload_n 0, 1) := by decide +kernel
theorem dX10_follow_47 : decode cX10_follow 47 = .ok (.getfield 90, 3) := by decide +kernel
theorem dX10_follow_50 : decode cX10_follow 50 = .ok (.getfield 331, 3) := by decide +kernel
theorem dX10_follow_53 : decode cX10_follow 53 = .ok (.ifCond .ne 5, 3) := by decide +kernel
theorem dX10_follow_56 : decode cX10_follow 56 = .ok (.iload_n 3, 1) := by decide +kernel
theorem dX10_follow_57 : decode cX10_follow 57 = .ok (.ireturn, 1) := by decide +kernel
theorem dX10_follow_58 : decode cX10_follow 58 = .ok (.aload_n 0, 1) := by decide +kernel
theorem dX10_follow_59 : decode cX10_follow 59 = .ok (.aload_n 2, 1) := by decide +kernel
theorem dX10_follow_60 : decode cX10_follow 60 = .ok (.aload_n 0, 1) := by decide +kernel
theorem dX10_follow_61 : decode cX10_follow 61 = .ok (.getfield 90, 3) := by decide +kernel
theorem dX10_follow_64 : decode cX10_follow 64 = .ok (.getfield 335, 3) := by decide +kernel
theorem dX10_follow_67 : decode cX10_follow 67 = .ok (.aload_n 0, 1) := by decide +kernel
theorem dX10_follow_68 : decode cX10_follow 68 = .ok (.getfield 90, 3) := by decide +kernel
theorem dX10_follow_71 : decode cX10_follow 71 = .ok (.getfield 338, 3) := by decide +kernel
theorem dX10_follow_74 : decode cX10_follow 74 = .ok (.aload_n 0, 1) := by decide +kernel
theorem dX10_follow_75 : decode cX10_follow 75 = .ok (.getfield 90, 3) := by decide +kernel
theorem dX10_follow_78 : decode cX10_follow 78 = .ok (.getfield 341, 3) := by decide +kernel
theorem dX10_follow_81 : decode cX10_follow 81 = .ok (.invokevirtual 392, 3) := by decide +kernel
theorem dX10_follow_84 : decode cX10_follow 84 = .ok (.pop, 1) := by decide +kernel
theorem dX10_follow_85 : decode cX10_follow 85 = .ok (.iinc 3 1, 3) := by decide +kernel
theorem dX10_follow_88 : decode cX10_follow 88 = .ok (.goto (-62), 3) := by decide +kernel
theorem dX10_follow_91 : decode cX10_follow 91 = .ok (.iload_n 1, 1) := by decide +kernel
theorem dX10_follow_92 : decode cX10_follow 92 = .ok (.ireturn, 1) := by decide +kernel
theorem dX10_makeTurn_0 : decode cX10_makeTurn 0 = .ok (.aload_n 1, 1) := by decide +kernel
theorem dX10_makeTurn_1 : decode cX10_makeTurn 1 = .ok (.aload_n 0, 1) := by decide +kernel
theorem dX10_makeTurn_2 : decode cX10_makeTurn 2 = .ok (.getfield 40, 3) := by decide +kernel
theorem dX10_makeTurn_5 : decode cX10_makeTurn 5 = .ok (.getfield 118, 3) := by decide +kernel
theorem dX10_makeTurn_8 : decode cX10_makeTurn 8 = .ok (.invokevirtual 144, 3) := by decide +kernel
theorem dX10_makeTurn_11 : decode cX10_makeTurn 11 = .ok (.ifCond .eq 7, 3) := by decide +kernel
theorem dX10_makeTurn_14 : decode cX10_makeTurn 14 = .ok (.iconst 1, 1) := by decide +kernel
theorem dX10_makeTurn_15 : decode cX10_makeTurn 15 = .ok (.goto 4, 3) := by decide +kernel
theorem dX10_makeTurn_18 : decode cX10_makeTurn 18 = .ok (.iconst 0, 1) := by decide +kernel
theorem dX10_makeTurn_19 : decode cX10_makeTurn 19 = .ok (.istore 5, 2) := by decide +kernel
theorem dX10_makeTurn_21 : decode cX10_makeTurn 21 = .ok (.aload_n 0, 1) := by decide +kernel
theorem dX10_makeTurn_22 : decode cX10_makeTurn 22 = .ok (.getfield 40, 3) := by decide +kernel
theorem dX10_makeTurn_25 : decode cX10_makeTurn 25 = .ok (.getfield 118, 3) := by decide +kernel
theorem dX10_makeTurn_28 : decode cX10_makeTurn 28 = .ok (.iload_n 2, 1) := by decide +kernel
theorem dX10_makeTurn_29 : decode cX10_makeTurn 29 = .ok (.iload_n 3, 1) := by decide +kernel
theorem dX10_makeTurn_30 : decode cX10_makeTurn 30 = .ok (.iload 4, 2) := by decide +kernel
theorem dX10_makeTurn_32 : decode cX10_makeTurn 32 = .ok (.invokevirtual 354, 3) := by decide +kernel
theorem dX10_makeTurn_35 : decode cX10_makeTurn 35 = .ok (.aload_n 1, 1) := by decide +kernel
theorem dX10_makeTurn_36 : decode cX10_makeTurn 36 = .ok (.aload_n 0, 1) := by decide +kernel
theorem dX10_makeTurn_37 : decode cX10_makeTurn 37 = .ok (.getfield 40, 3) := by decide +kernel
theorem dX10_makeTurn_40 : decode cX10_makeTurn 40 = .ok (.getfield 118, 3) := by decide +kernel
theorem dX10_makeTurn_43 : decode cX10_makeTurn 43 = .ok (.invokevirtual 144, 3) := by decide +kernel
theorem dX10_makeTurn_46 : decode cX10_makeTurn 46 = .ok (.istore 6, 2) := by decide +kernel
theorem dX10_makeTurn_48 : decode cX10_makeTurn 48 = .ok (.aload_n 0, 1) := by decide +kernel
theorem dX10_makeTurn_49 : decode cX10_makeTurn 49 = .ok (.getfield 40, 3) := by decide +kernel
theorem dX10_makeTurn_52 : decode cX10_makeTurn 52 = .ok (.iconst 0, 1) := by decide +kernel
theorem dX10_makeTurn_53 : decode cX10_makeTurn 53 = .ok (.iconst 1, 1) := by decide +kernel
theorem dX10_makeTurn_54 : decode cX10_makeTurn 54 = .ok (.invokevirtual 396, 3) := by decide +kernel
theorem dX10_makeTurn_57 : decode cX10_makeTurn 57 = .ok (.aload_n 0, 1) := by decide +kernel
theorem dX10_makeTurn_58 : decode cX10_makeTurn 58 = .ok (.getfield 40, 3) := by decide +kernel
theorem dX10_makeTurn_61 : decode cX10_makeTurn 61 = .ok (.iconst 1, 1) := by decide +kernel
theorem dX10_makeTurn_62 : decode cX10_makeTurn 62 = .ok (.iload_n 3, 1) := by decide +kernel
theorem dX10_makeTurn_63 : decode cX10_makeTurn 63 = .ok (.iload 4, 2) := by decide +kernel
theorem dX10_makeTurn_65 : decode cX10_makeTurn 65 = .ok (.iadd, 1) := by decide +kernel
theorem dX10_makeTurn_66 : decode cX10_makeTurn 66 = .ok (.invokevirtual 396, 3) := by decide +kernel
theorem dX10_makeTurn_69 : decode cX10_makeTurn 69 = .ok (.aload_n 1, 1) := by decide +kernel
theorem dX10_makeTurn_70 : decode cX10_makeTurn 70 = .ok (.aload_n 0, 1) := by decide +kernel
theorem dX10_makeTurn_71 : decode cX10_makeTurn 71 = .ok (.getfield 40, 3) := by decide +kernel
theorem dX10_makeTurn_74 : decode cX10_makeTurn 74 = .ok (.getfield 118, 3) := by decide +kernel
theorem dX10_makeTurn_77 : decode cX10_makeTurn 77 = .ok (.invokevirtual 154, 3) := by decide +kernel
theorem dX10_makeTurn_80 : decode cX10_makeTurn 80 = .ok (.ifCond .eq 12, 3) := by decide +kernel
theorem dX10_makeTurn_83 : decode cX10_makeTurn 83 = .ok (.aload_n 0, 1) := by decide +kernel
theorem dX10_makeTurn_84 : decode cX10_makeTurn 84 = .ok (.getfield 40, 3) := by decide +kernel
theorem dX10_makeTurn_87 : decode cX10_makeTurn 87 = .ok (.iconst 2, 1) := by decide +kernel
theorem dX10_makeTurn_88 : decode cX10_makeTurn 88 = .ok (.iconst 1, 1) := by decide +kernel
theorem dX10_makeTurn_89 : decode cX10_makeTurn 89 = .ok (.invokevirtual 396, 3) := by decide +kernel
theorem dX10_makeTurn_92 : decode cX10_makeTurn 92 = .ok (.iload 6, 2) := by decide +kernel
theorem dX10_makeTurn_94 : decode cX10_makeTurn 94 = .ok (.ifCond .ne 15, 3) := by decide +kernel
theorem dX10_makeTurn_97 : decode cX10_makeTurn 97 = .ok (.aload_n 0, 1) := by decide +kernel
theorem dX10_makeTurn_98 : decode cX10_makeTurn 98 = .ok (.getfield 40, 3) := by decide +kernel
theorem dX10_makeTurn_101 : decode cX10_makeTurn 101 = .ok (.iconst 3, 1) := by decide +kernel
theorem dX10_makeTurn_102 : decode cX10_makeTurn 102 = .ok (.iconst 1, 1) := by decide +kernel
theorem dX10_makeTurn_103 : decode cX10_makeTurn 103 = .ok (.invokevirtual 396, 3) := by decide +kernel
theorem dX10_makeTurn_106 : decode cX10_makeTurn 106 = .ok (.goto 17, 3) := by decide +kernel
theorem dX10_makeTurn_109 : decode cX10_makeTurn 109 = .ok (.iload 5, 2) := by decide +kernel
theorem dX10_makeTurn_111 : decode cX10_makeTurn 111 = .ok (.ifCond .eq 12, 3) := by decide +kernel
theorem dX10_makeTurn_114 : decode cX10_makeTurn 114 = .ok (.aload_n 0, 1) := by decide +kernel
theorem dX10_makeTurn_115 : decode cX10_makeTurn 115 = .ok (.getfield 40, 3) := by decide +kernel
theorem dX10_makeTurn_118 : decode cX10_makeTurn 118 = .ok (.iconst 4, 1) := by decide +kernel
theorem dX10_makeTurn_119 : decode cX10_makeTurn 119 = .ok (.iconst 1, 1) := by decide +kernel
theorem dX10_makeTurn_120 : decode cX10_makeTurn 120 = .ok (.invokevirtual 396, 3) := by decide +kernel
theorem dX10_makeTurn_123 : decode cX10_makeTurn 123 = .ok (.aload_n 0, 1) := by decide +kernel
theorem dX10_makeTurn_124 : decode cX10_makeTurn 124 = .ok (.getfield 40, 3) := by decide +kernel
theorem dX10_makeTurn_127 : decode cX10_makeTurn 127 = .ok (.iload_n 2, 1) := by decide +kernel
theorem dX10_makeTurn_128 : decode cX10_makeTurn 128 = .ok (.iload_n 3, 1) := by decide +kernel
theorem dX10_makeTurn_129 : decode cX10_makeTurn 129 = .ok (.iload 4, 2) := by decide +kernel
theorem dX10_makeTurn_131 : decode cX10_makeTurn 131 = .ok (.iload 6, 2) := by decide +kernel
theorem dX10_makeTurn_133 : decode cX10_makeTurn 133 = .ok (.invokevirtual 399, 3) := by decide +kernel
theorem dX10_makeTurn_136 : decode cX10_makeTurn 136 = .ok (.aload_n 0, 1) := by decide +kernel
theorem dX10_makeTurn_137 : decode cX10_makeTurn 137 = .ok (.getfield 40, 3) := by decide +kernel
theorem dX10_makeTurn_140 : decode cX10_makeTurn 140 = .ok (.dup, 1) := by decide +kernel
theorem dX10_makeTurn_141 : decode cX10_makeTurn 141 = .ok (.getfield 137, 3) := by decide +kernel
theorem dX10_makeTurn_144 : decode cX10_makeTurn 144 = .ok (.iconst 1, 1) := by decide +kernel
theorem dX10_makeTurn_145 : decode cX10_makeTurn 145 = .ok (.iadd, 1) := by decide +kernel
theorem dX10_makeTurn_146 : decode cX10_makeTurn 146 = .ok (.putfield 137, 3) := by decide +kernel
theorem dX10_makeTurn_149 : decode cX10_makeTurn 149 = .ok (.aload_n 0, 1) := by decide +kernel
theorem dX10_makeTurn_150 : decode cX10_makeTurn 150 = .ok (.getfield 40, 3) := by decide +kernel
theorem dX10_makeTurn_153 : decode cX10_makeTurn 153 = .ok (.iconst 1, 1) := by decide +kernel
theorem dX10_makeTurn_154 : decode cX10_makeTurn 154 = .ok (.aload_n 0, 1) := by decide +kernel
theorem dX10_makeTurn_155 : decode cX10_makeTurn 155 = .ok (.getfield 40, 3) := by decide +kernel
theorem dX10_makeTurn_158 : decode cX10_makeTurn 158 = .ok (.getfield 134, 3) := by decide +kernel
theorem dX10_makeTurn_161 : decode cX10_makeTurn 161 = .ok (.isub, 1) := by decide +kernel
theorem dX10_makeTurn_162 : decode cX10_makeTurn 162 = .ok (.putfield 134, 3) := by decide +kernel
theorem dX10_makeTurn_165 : decode cX10_makeTurn 165 = .ok (.iload 6, 2) := by decide +kernel
theorem dX10_makeTurn_167 : decode cX10_makeTurn 167 = .ok (.ireturn, 1) := by decide +kernel
theorem dX10_bar_0 : decode cX10_bar 0 = .ok (.aload_n 0, 1) := by decide +kernel
theorem dX10_bar_1 : decode cX10_bar 1 = .ok (.iload_n 1, 1) := by decide +kernel
theorem dX10_bar_2 : decode cX10_bar 2 = .ok (.invokevirtual 195, 3) := by decide +kernel
theorem dX10_bar_5 : decode cX10_bar 5 = .ok (.iload_n 2, 1) := by decide +kernel
theorem dX10_bar_6 : decode cX10_bar 6 = .ok (.iload_n 3, 1) := by decide +kernel
theorem dX10_bar_7 : decode cX10_bar 7 = .ok (.invokestatic 357, 3) := by decide +kernel
theorem dX10_bar_10 : decode cX10_bar 10 = .ok (.aload_n 0, 1) := by decide +kernel
theorem dX10_bar_11 : decode cX10_bar 11 = .ok (.getfield 40, 3) := by decide +kernel
theorem dX10_bar_14 : decode cX10_bar 14 = .ok (.iload_n 1, 1) := by decide +kernel
theorem dX10_bar_15 : decode cX10_bar 15 = .ok (.invokevirtual 198, 3) := by decide +kernel
theorem dX10_bar_18 : decode cX10_bar 18 = .ok (.astore 5, 2) := by decide +kernel
theorem dX10_bar_20 : decode cX10_bar 20 = .ok (.iload 4, 2) := by decide +kernel
theorem dX10_bar_22 : decode cX10_bar 22 = .ok (.ifCond .eq 33, 3) := by decide +kernel
theorem dX10_bar_25 : decode cX10_bar 25 = .ok (.aload 5, 2) := by decide +kernel
theorem dX10_bar_27 : decode cX10_bar 27 = .ok (.iload_n 2, 1) := by decide +kernel
theorem dX10_bar_28 : decode cX10_bar 28 = .ok (.iload_n 3, 1) := by decide +kernel
theorem dX10_bar_29 : decode cX10_bar 29 = .ok (.invokevirtual 363, 3) := by decide +kernel
theorem dX10_bar_32 : decode cX10_bar 32 = .ok (.ifCond .ne 23, 3) := by decide +kernel
theorem dX10_bar_35 : decode cX10_bar 35 = .ok (.aload 5, 2) := by decide +kernel
theorem dX10_bar_37 : decode cX10_bar 37 = .ok (.getfield 218, 3) := by decide +kernel
theorem dX10_bar_40 : decode cX10_bar 40 = .ok (.iconst 4, 1) := by decide +kernel
theorem dX10_bar_41 : decode cX10_bar 41 = .ok (.if_icmp .lt 14, 3) := by decide +kernel
theorem dX10_bar_44 : decode cX10_bar 44 = .ok (.new 384, 3) := by decide +kernel
theorem dX10_bar_47 : decode cX10_bar 47 = .ok (.dup, 1) := by decide +kernel
theorem dX10_bar_48 : decode cX10_bar 48 = .ok (.ldc_w 403, 3) := by decide +kernel
theorem dX10_bar_51 : decode cX10_bar 51 = .ok (.invokespecial 388, 3) := by decide +kernel
theorem dX10_bar_54 : decode cX10_bar 54 = .ok (.athrow, 1) := by decide +kernel
theorem dX10_bar_55 : decode cX10_bar 55 = .ok (.aload_n 0, 1) := by decide +kernel
theorem dX10_bar_56 : decode cX10_bar 56 = .ok (.getfield 54, 3) := by decide +kernel
theorem dX10_bar_59 : decode cX10_bar 59 = .ok (.aload_n 0, 1) := by decide +kernel
theorem dX10_bar_60 : decode cX10_bar 60 = .ok (.getfield 40, 3) := by decide +kernel
theorem dX10_bar_63 : decode cX10_bar 63 = .ok (.invokevirtual 389, 3) := by decide +kernel
theorem dX10_bar_66 : decode cX10_bar 66 = .ok (.aload 5, 2) := by decide +kernel
theorem dX10_bar_68 : decode cX10_bar 68 = .ok (.iload_n 2, 1) := by decide +kernel
theorem dX10_bar_69 : decode cX10_bar 69 = .ok (.iload_n 3, 1) := by decide +kernel
theorem dX10_bar_70 : decode cX10_bar 70 = .ok (.iload 4, 2) := by decide +kernel
theorem dX10_bar_72 : decode cX10_bar 72 = .ok (.invokevirtual 367, 3) := by decide +kernel
theorem dX10_bar_75 : decode cX10_bar 75 = .ok (.aload 5, 2) := by decide +kernel
theorem dX10_bar_77 : decode cX10_bar 77 = .ok (.getfield 218, 3) := by decide +kernel
theorem dX10_bar_80 : decode cX10_bar 80 = .ok (.ireturn, 1) := by decide +kernel
theorem dX10_setSlack_0 : decode cX10_setSlack 0 = .ok (.aload_n 0, 1) := by decide +kernel
theorem dX10_setSlack_1 : decode cX10_setSlack 1 = .ok (.iload_n 1, 1) := by decide +kernel
theorem dX10_setSlack_2 : decode cX10_setSlack 2 = .ok (.invokevirtual 195, 3) := by decide +kernel
theorem dX10_setSlack_5 : decode cX10_setSlack 5 = .ok (.iload_n 2, 1) := by decide +kernel
theorem dX10_setSlack_6 : decode cX10_setSlack 6 = .ok (.iconst 0, 1) := by decide +kernel
theorem dX10_setSlack_7 : decode cX10_setSlack 7 = .ok (.iconst 5, 1) := by decide +kernel
theorem dX10_setSlack_8 : decode cX10_setSlack 8 = .ok (.invokestatic 179, 3) := by decide +kernel
theorem dX10_setSlack_11 : decode cX10_setSlack 11 = .ok (.aload_n 0, 1) := by decide +kernel
theorem dX10_setSlack_12 : decode cX10_setSlack 12 = .ok (.getfield 54, 3) := by decide +kernel
theorem dX10_setSlack_15 : decode cX10_setSlack 15 = .ok (.aload_n 0, 1) := by decide +kernel
theorem dX10_setSlack_16 : decode cX10_setSlack 16 = .ok (.getfield 40, 3) := by decide +kernel
theorem dX10_setSlack_19 : decode cX10_setSlack 19 = .ok (.invokevirtual 389, 3) := by decide +kernel
theorem dX10_setSlack_22 : decode cX10_setSlack 22 = .ok (.aload_n 0, 1) := by decide +kernel
theorem dX10_setSlack_23 : decode cX10_setSlack 23 = .ok (.getfield 40, 3) := by decide +kernel
theorem dX10_setSlack_26 : decode cX10_setSlack 26 = .ok (.iload_n 1, 1) := by decide +kernel
theorem dX10_setSlack_27 : decode cX10_setSlack 27 = .ok (.invokevirtual 198, 3) := by decide +kernel
theorem dX10_setSlack_30 : decode cX10_setSlack 30 = .ok (.astore_n 3, 1) := by decide +kernel
theorem dX10_setSlack_31 : decode cX10_setSlack 31 = .ok (.aload_n 3, 1) := by decide +kernel
theorem dX10_setSlack_32 : decode cX10_setSlack 32 = .ok (.getfield 202, 3) := by decide +kernel
theorem dX10_setSlack_35 : decode cX10_setSlack 35 = .ok (.istore 4, 2) := by decide +kernel
theorem dX10_setSlack_37 : decode cX10_setSlack 37 = .ok (.aload_n 3, 1) := by decide +kernel
theorem dX10_setSlack_38 : decode cX10_setSlack 38 = .ok (.iload_n 2, 1) := by decide +kernel
theorem dX10_setSlack_39 : decode cX10_setSlack 39 = .ok (.putfield 202, 3) := by decide +kernel
theorem dX10_setSlack_42 : decode cX10_setSlack 42 = .ok (.iload 4, 2) := by decide +kernel
theorem dX10_setSlack_44 : decode cX10_setSlack 44 = .ok (.ireturn, 1) := by decide +kernel
theorem dX10_setMost_0 : decode cX10_setMost 0 = .ok (.aload_n 0, 1) := by decide +kernel
theorem dX10_setMost_1 : decode cX10_setMost 1 = .ok (.iload_n 1, 1) := by decide +kernel
theorem dX10_setMost_2 : decode cX10_setMost 2 = .ok (.invokevirtual 195, 3) := by decide +kernel
theorem dX10_setMost_5 : decode cX10_setMost 5 = .ok (.iload_n 2, 1) := by decide +kernel
theorem dX10_setMost_6 : decode cX10_setMost 6 = .ok (.iconst 1, 1) := by decide +kernel
theorem dX10_setMost_7 : decode cX10_setMost 7 = .ok (.bipush 40, 2) := by decide +kernel
theorem dX10_setMost_9 : decode cX10_setMost 9 = .ok (.invokestatic 179, 3) := by decide +kernel
theorem dX10_setMost_12 : decode cX10_setMost 12 = .ok (.aload_n 0, 1) := by decide +kernel
theorem dX10_setMost_13 : decode cX10_setMost 13 = .ok (.getfield 54, 3) := by decide +kernel
theorem dX10_setMost_16 : decode cX10_setMost 16 = .ok (.aload_n 0, 1) := by decide +kernel
theorem dX10_setMost_17 : decode cX10_setMost 17 = .ok (.getfield 40, 3) := by decide +kernel
theorem dX10_setMost_20 : decode cX10_setMost 20 = .ok (.invokevirtual 389, 3) := by decide +kernel
theorem dX10_setMost_23 : decode cX10_setMost 23 = .ok (.aload_n 0, 1) := by decide +kernel
theorem dX10_setMost_24 : decode cX10_setMost 24 = .ok (.getfield 40, 3) := by decide +kernel
theorem dX10_setMost_27 : decode cX10_setMost 27 = .ok (.iload_n 1, 1) := by decide +kernel
theorem dX10_setMost_28 : decode cX10_setMost 28 = .ok (.invokevirtual 198, 3) := by decide +kernel
theorem dX10_setMost_31 : decode cX10_setMost 31 = .ok (.astore_n 3, 1) := by decide +kernel
theorem dX10_setMost_32 : decode cX10_setMost 32 = .ok (.aload_n 3, 1) := by decide +kernel
theorem dX10_setMost_33 : decode cX10_setMost 33 = .ok (.getfield 205, 3) := by decide +kernel
theorem dX10_setMost_36 : decode cX10_setMost 36 = .ok (.istore 4, 2) := by decide +kernel
theorem dX10_setMost_38 : decode cX10_setMost 38 = .ok (.aload_n 3, 1) := by decide +kernel
theorem dX10_setMost_39 : decode cX10_setMost 39 = .ok (.iload_n 2, 1) := by decide +kernel
theorem dX10_setMost_40 : decode cX10_setMost 40 = .ok (.putfield 205, 3) := by decide +kernel
theorem dX10_setMost_43 : decode cX10_setMost 43 = .ok (.iload 4, 2) := by decide +kernel
theorem dX10_setMost_45 : decode cX10_setMost 45 = .ok (.ireturn, 1) := by decide +kernel
theorem dX10_again_0 : decode cX10_again 0 = .ok (.iload_n 1, 1) := by decide +kernel
theorem dX10_again_1 : decode cX10_again 1 = .ok (.invokestatic 176, 3) := by decide +kernel
theorem dX10_again_4 : decode cX10_again 4 = .ok (.aload_n 0, 1) := by decide +kernel
theorem dX10_again_5 : decode cX10_again 5 = .ok (.getfield 54, 3) := by decide +kernel
theorem dX10_again_8 : decode cX10_again 8 = .ok (.aload_n 0, 1) := by decide +kernel
theorem dX10_again_9 : decode cX10_again 9 = .ok (.getfield 40, 3) := by decide +kernel
theorem dX10_again_12 : decode cX10_again 12 = .ok (.invokevirtual 389, 3) := by decide +kernel
theorem dX10_again_15 : decode cX10_again 15 = .ok (.aload_n 0, 1) := by decide +kernel
theorem dX10_again_16 : decode cX10_again 16 = .ok (.getfield 40, 3) := by decide +kernel
theorem dX10_again_19 : decode cX10_again 19 = .ok (.getfield 118, 3) := by decide +kernel
theorem dX10_again_22 : decode cX10_again 22 = .ok (.invokevirtual 405, 3) := by decide +kernel
theorem dX10_again_25 : decode cX10_again 25 = .ok (.aload_n 0, 1) := by decide +kernel
theorem dX10_again_26 : decode cX10_again 26 = .ok (.getfield 40, 3) := by decide +kernel
theorem dX10_again_29 : decode cX10_again 29 = .ok (.iload_n 1, 1) := by decide +kernel
theorem dX10_again_30 : decode cX10_again 30 = .ok (.putfield 134, 3) := by decide +kernel
theorem dX10_again_33 : decode cX10_again 33 = .ok (.aload_n 0, 1) := by decide +kernel
theorem dX10_again_34 : decode cX10_again 34 = .ok (.getfield 40, 3) := by decide +kernel
theorem dX10_again_37 : decode cX10_again 37 = .ok (.iconst 0, 1) := by decide +kernel
theorem dX10_again_38 : decode cX10_again 38 = .ok (.putfield 137, 3) := by decide +kernel
theorem dX10_again_41 : decode cX10_again 41 = .ok (.aload_n 0, 1) := by decide +kernel
theorem dX10_again_42 : decode cX10_again 42 = .ok (.getfield 40, 3) := by decide +kernel
theorem dX10_again_45 : decode cX10_again 45 = .ok (.dup, 1) := by decide +kernel
theorem dX10_again_46 : decode cX10_again 46 = .ok (.getfield 158, 3) := by decide +kernel
theorem dX10_again_49 : decode cX10_again 49 = .ok (.iconst 1, 1) := by decide +kernel
theorem dX10_again_50 : decode cX10_again 50 = .ok (.iadd, 1) := by decide +kernel
theorem dX10_again_51 : decode cX10_again 51 = .ok (.putfield 158, 3) := by decide +kernel
theorem dX10_again_54 : decode cX10_again 54 = .ok (.aload_n 0, 1) := by decide +kernel
theorem dX10_again_55 : decode cX10_again 55 = .ok (.invokevirtual 140, 3) := by decide +kernel
theorem dX10_again_58 : decode cX10_again 58 = .ok (.aload_n 0, 1) := by decide +kernel
theorem dX10_again_59 : decode cX10_again 59 = .ok (.getfield 40, 3) := by decide +kernel
theorem dX10_again_62 : decode cX10_again 62 = .ok (.getfield 118, 3) := by decide +kernel
theorem dX10_again_65 : decode cX10_again 65 = .ok (.invokevirtual 144, 3) := by decide +kernel
theorem dX10_again_68 : decode cX10_again 68 = .ok (.ireturn, 1) := by decide +kernel
theorem dX10_undo_0 : decode cX10_undo 0 = .ok (.aload_n 0, 1) := by decide +kernel
theorem dX10_undo_1 : decode cX10_undo 1 = .ok (.getfield 54, 3) := by decide +kernel
theorem dX10_undo_4 : decode cX10_undo 4 = .ok (.getfield 161, 3) := by decide +kernel
theorem dX10_undo_7 : decode cX10_undo 7 = .ok (.ifCond .ne 14, 3) := by decide +kernel
theorem dX10_undo_10 : decode cX10_undo 10 = .ok (.new 408, 3) := by decide +kernel
theorem dX10_undo_13 : decode cX10_undo 13 = .ok (.dup, 1) := by decide +kernel
theorem dX10_undo_14 : decode cX10_undo 14 = .ok (.ldc_w 410, 3) := by decide +kernel
theorem dX10_undo_17 : decode cX10_undo 17 = .ok (.invokespecial 412, 3) := by decide +kernel
theorem dX10_undo_20 : decode cX10_undo 20 = .ok (.athrow, 1) := by decide +kernel
theorem dX10_undo_21 : decode cX10_undo 21 = .ok (.aload_n 0, 1) := by decide +kernel
theorem dX10_undo_22 : decode cX10_undo 22 = .ok (.getfield 54, 3) := by decide +kernel
theorem dX10_undo_25 : decode cX10_undo 25 = .ok (.aload_n 0, 1) := by decide +kernel
theorem dX10_undo_26 : decode cX10_undo 26 = .ok (.getfield 40, 3) := by decide +kernel
theorem dX10_undo_29 : decode cX10_undo 29 = .ok (.invokevirtual 413, 3) := by decide +kernel
theorem dX10_undo_32 : decode cX10_undo 32 = .ok (.aload_n 0, 1) := by decide +kernel
theorem dX10_undo_33 : decode cX10_undo 33 = .ok (.getfield 54, 3) := by decide +kernel
theorem dX10_undo_36 : decode cX10_undo 36 = .ok (.getfield 161, 3) := by decide +kernel
theorem dX10_undo_39 : decode cX10_undo 39 = .ok (.ireturn, 1) := by decide +kernel
theorem dX10_printParts_0 : decode cX10_printParts 0 = .ok (.aload_n 0, 1) := by decide +kernel
theorem dX10_printParts_1 : decode cX10_printParts 1 = .ok (.getfield 33, 3) := by decide +kernel
theorem dX10_printParts_4 : decode cX10_printParts 4 = .ok (.invokevirtual 416, 3) := by decide +kernel
theorem dX10_printParts_7 : decode cX10_printParts 7 = .ok (.iconst 0, 1) := by decide +kernel
theorem dX10_printParts_8 : decode cX10_printParts 8 = .ok (.istore_n 1, 1) := by decide +kernel
theorem dX10_printParts_9 : decode cX10_printParts 9 = .ok (.iload_n 1, 1) := by decide +kernel
theorem dX10_printParts_10 : decode cX10_printParts 10 = .ok (.aload_n 0, 1) := by decide +kernel
theorem dX10_printParts_11 : decode cX10_printParts 11 = .ok (.getfield 40, 3) := by decide +kernel
theorem dX10_printParts_14 : decode cX10_printParts 14 = .ok (.getfield 118, 3) := by decide +kernel
theorem dX10_printParts_17 : decode cX10_printParts 17 = .ok (.invokevirtual 121, 3) := by decide +kernel
theorem dX10_printParts_20 : decode cX10_printParts 20 = .ok (.if_icmp .ge 27, 3) := by decide +kernel
theorem dX10_printParts_23 : decode cX10_printParts 23 = .ok (.iload_n 1, 1) := by decide +kernel
theorem dX10_printParts_24 : decode cX10_printParts 24 = .ok (.ifCond .le 12, 3) := by decide +kernel
theorem dX10_printParts_27 : decode cX10_printParts 27 = .ok (.aload_n 0, 1) := by decide +kernel
theorem dX10_printParts_28 : decode cX10_printParts 28 = .ok (.getfield 33, 3) := by decide +kernel
theorem dX10_printParts_31 : decode cX10_printParts 31 = .ok (.bipush 32, 2) := by decide +kernel
theorem dX10_printParts_33 : decode cX10_printParts 33 = .ok (.invokevirtual 417, 3) := by decide +kernel
theorem dX10_printParts_36 : decode cX10_printParts 36 = .ok (.aload_n 0, 1) := by decide +kernel
theorem dX10_printParts_37 : decode cX10_printParts 37 = .ok (.iload_n 1, 1) := by decide +kernel
theorem dX10_printParts_38 : decode cX10_printParts 38 = .ok (.invokevirtual 420, 3) := by decide +kernel
theorem dX10_printParts_41 : decode cX10_printParts 41 = .ok (.iinc 1 1, 3) := by decide +kernel
theorem dX10_printParts_44 : decode cX10_printParts 44 = .ok (.goto (-35), 3) := by decide +kernel
theorem dX10_printParts_47 : decode cX10_printParts 47 = .ok (.aload_n 0, 1) := by decide +kernel
theorem dX10_printParts_48 : decode cX10_printParts 48 = .ok (.getfield 33, 3) := by decide +kernel
theorem dX10_printParts_51 : decode cX10_printParts 51 = .ok (.getfield 423, 3) := by decide +kernel
theorem dX10_printParts_54 : decode cX10_printParts 54 = .ok (.ireturn, 1) := by decide +kernel
theorem dX10_printOnePart_0 : decode cX10_printOnePart 0 = .ok (.aload_n 0, 1) := by decide +kernel
theorem dX10_printOnePart_1 : decode cX10_printOnePart 1 = .ok (.getfield 40, 3) := by decide +kernel
theorem dX10_printOnePart_4 : decode cX10_printOnePart 4 = .ok (.getfield 118, 3) := by decide +kernel
theorem dX10_printOnePart_7 : decode cX10_printOnePart 7 = .ok (.astore_n 2, 1) := by decide +kernel
theorem dX10_printOnePart_8 : decode cX10_printOnePart 8 = .ok (.aload_n 2, 1) := by decide +kernel
theorem dX10_printOnePart_9 : decode cX10_printOnePart 9 = .ok (.iload_n 1, 1) := by decide +kernel
theorem dX10_printOnePart_10 : decode cX10_printOnePart 10 = .ok (.invokevirtual 260, 3) := by decide +kernel
theorem dX10_printOnePart_13 : decode cX10_printOnePart 13 = .ok (.ifCond .eq 70, 3) := by decide +kernel
theorem dX10_printOnePart_16 : decode cX10_printOnePart 16 = .ok (.aload_n 0, 1) := by decide +kernel
theorem dX10_printOnePart_17 : decode cX10_printOnePart 17 = .ok (.getfield 33, 3) := by decide +kernel
theorem dX10_printOnePart_20 : decode cX10_printOnePart 20 = .ok (.aload_n 0, 1) := by decide +kernel
theorem dX10_printOnePart_21 : decode cX10_printOnePart 21 = .ok (.getfield 40, 3) := by decide +kernel
theorem dX10_printOnePart_24 : decode cX10_printOnePart 24 = .ok (.aload_n 2, 1) := by decide +kernel
theorem dX10_printOnePart_25 : decode cX10_printOnePart 25 = .ok (.iload_n 1, 1) := by decide +kernel
theorem dX10_printOnePart_26 : decode cX10_printOnePart 26 = .ok (.invokevirtual 264, 3) := by decide +kernel
theorem dX10_printOnePart_29 : decode cX10_printOnePart 29 = .ok (.invokevirtual 198, 3) := by decide +kernel
theorem dX10_printOnePart_32 : decode cX10_printOnePart 32 = .ok (.getfield 250, 3) := by decide +kernel
theorem dX10_printOnePart_35 : decode cX10_printOnePart 35 = .ok (.invokevirtual 426, 3) := by decide +kernel
theorem dX10_printOnePart_38 : decode cX10_printOnePart 38 = .ok (.aload_n 0, 1) := by decide +kernel
theorem dX10_printOnePart_39 : decode cX10_printOnePart 39 = .ok (.getfield 33, 3) := by decide +kernel
theorem dX10_printOnePart_42 : decode cX10_printOnePart 42 = .ok (.bipush 58, 2) := by decide +kernel
theorem dX10_printOnePart_44 : decode cX10_printOnePart 44 = .ok (.invokevirtual 417, 3) := by decide +kernel
theorem dX10_printOnePart_47 : decode cX10_printOnePart 47 = .ok (.aload_n 0, 1) := by decide +kernel
theorem dX10_printOnePart_48 : decode cX10_printOnePart 48 = .ok (.getfield 33, 3) := by decide +kernel
theorem dX10_printOnePart_51 : decode cX10_printOnePart 51 = .ok (.aload_n 2, 1) := by decide +kernel
theorem dX10_printOnePart_52 : decode cX10_printOnePart 52 = .ok (.iload_n 1, 1) := by decide +kernel
theorem dX10_printOnePart_53 : decode cX10_printOnePart 53 = .ok (.invokevirtual 267, 3) := by decide +kernel
theorem dX10_printOnePart_56 : decode cX10_printOnePart 56 = .ok (.invokevirtual 430, 3) := by decide +kernel
theorem dX10_printOnePart_59 : decode cX10_printOnePart 59 = .ok (.aload_n 0, 1) := by decide +kernel
theorem dX10_printOnePart_60 : decode cX10_printOnePart 60 = .ok (.getfield 33, 3) := by decide +kernel
theorem dX10_printOnePart_63 : decode cX10_printOnePart 63 = .ok (.bipush 44, 2) := by decide +kernel
theorem dX10_printOnePart_65 : decode cX10_printOnePart 65 = .ok (.invokevirtual 417, 3) := by decide +kernel
theorem dX10_printOnePart_68 : decode cX10_printOnePart 68 = .ok (.aload_n 0, 1) := by decide +kernel
theorem dX10_printOnePart_69 : decode cX10_printOnePart 69 = .ok (.getfield 33, 3) := by decide +kernel
theorem dX10_printOnePart_72 : decode cX10_printOnePart 72 = .ok (.aload_n 2, 1) := by decide +kernel
theorem dX10_printOnePart_73 : decode cX10_printOnePart 73 = .ok (.iload_n 1, 1) := by decide +kernel
theorem dX10_printOnePart_74 : decode cX10_printOnePart 74 = .ok (.invokevirtual 270, 3) := by decide +kernel
theorem dX10_printOnePart_77 : decode cX10_printOnePart 77 = .ok (.invokevirtual 430, 3) := by decide +kernel
theorem dX10_printOnePart_80 : decode cX10_printOnePart 80 = .ok (.goto 36, 3) := by decide +kernel
theorem dX10_printOnePart_83 : decode cX10_printOnePart 83 = .ok (.aload_n 0, 1) := by decide +kernel
theorem dX10_printOnePart_84 : decode cX10_printOnePart 84 = .ok (.getfield 33, 3) := by decide +kernel
theorem dX10_printOnePart_87 : decode cX10_printOnePart 87 = .ok (.aload_n 2, 1) := by decide +kernel
theorem dX10_printOnePart_88 : decode cX10_printOnePart 88 = .ok (.iload_n 1, 1) := by decide +kernel
theorem dX10_printOnePart_89 : decode cX10_printOnePart 89 = .ok (.invokevirtual 267, 3) := by decide +kernel
theorem dX10_printOnePart_92 : decode cX10_printOnePart 92 = .ok (.invokevirtual 430, 3) := by decide +kernel
theorem dX10_printOnePart_95 : decode cX10_printOnePart 95 = .ok (.aload_n 0, 1) := by decide +kernel
theorem dX10_printOnePart_96 : decode cX10_printOnePart 96 = .ok (.getfield 33, 3) := by decide +kernel
theorem dX10_printOnePart_99 : decode cX10_printOnePart 99 = .ok (.bipush 47, 2) := by decide +kernel
theorem dX10_printOnePart_101 : decode cX10_printOnePart 101 = .ok (.invokevirtual 417, 3) := by decide +kernel
theorem dX10_printOnePart_104 : decode cX10_printOnePart 104 = .ok (.aload_n 0, 1) := by decide +kernel
theorem dX10_printOnePart_105 : decode cX10_printOnePart 105 = .ok (.getfield 33, 3) := by decide +kernel
theorem dX10_printOnePart_108 : decode cX10_printOnePart 108 = .ok (.aload_n 2, 1) := by decide +kernel
theorem dX10_printOnePart_109 : decode cX10_printOnePart 109 = .ok (.iload_n 1, 1) := by decide +kernel
theorem dX10_printOnePart_110 : decode cX10_printOnePart 110 = .ok (.invokevirtual 264, 3) := by decide +kernel
theorem dX10_printOnePart_113 : decode cX10_printOnePart 113 = .ok (.invokevirtual 430, 3) := by decide +kernel
theorem dX10_printOnePart_116 : decode cX10_printOnePart 116 = .ok (.return_, 1) := by decide +kernel
theorem dX10_printRule_0 : decode cX10_printRule 0 = .ok (.aload_n 0, 1) := by decide +kernel
theorem dX10_printRule_1 : decode cX10_printRule 1 = .ok (.iload_n 1, 1) := by decide +kernel
theorem dX10_printRule_2 : decode cX10_printRule 2 = .ok (.invokevirtual 195, 3) := by decide +kernel
theorem dX10_printRule_5 : decode cX10_printRule 5 = .ok (.aload_n 0, 1) := by decide +kernel
theorem dX10_printRule_6 : decode cX10_printRule 6 = .ok (.getfield 40, 3) := by decide +kernel
theorem dX10_printRule_9 : decode cX10_printRule 9 = .ok (.iload_n 1, 1) := by decide +kernel
theorem dX10_printRule_10 : decode cX10_printRule 10 = .ok (.invokevirtual 198, 3) := by decide +kernel
theorem dX10_printRule_13 : decode cX10_printRule 13 = .ok (.astore_n 2, 1) := by decide +kernel
theorem dX10_printRule_14 : decode cX10_printRule 14 = .ok (.aload_n 0, 1) := by decide +kernel
theorem dX10_printRule_15 : decode cX10_printRule 15 = .ok (.getfield 33, 3) := by decide +kernel
theorem dX10_printRule_18 : decode cX10_printRule 18 = .ok (.invokevirtual 416, 3) := by decide +kernel
theorem dX10_printRule_21 : decode cX10_printRule 21 = .ok (.aload_n 0, 1) := by decide +kernel
theorem dX10_printRule_22 : decode cX10_printRule 22 = .ok (.getfield 33, 3) := by decide +kernel
theorem dX10_printRule_25 : decode cX10_printRule 25 = .ok (.ldc_w 433, 3) := by decide +kernel
theorem dX10_printRule_28 : decode cX10_printRule 28 = .ok (.invokevirtual 435, 3) := by decide +kernel
theorem dX10_printRule_31 : decode cX10_printRule 31 = .ok (.aload_n 0, 1) := by decide +kernel
theorem dX10_printRule_32 : decode cX10_printRule 32 = .ok (.getfield 33, 3) := by decide +kernel
theorem dX10_printRule_35 : decode cX10_printRule 35 = .ok (.aload_n 2, 1) := by decide +kernel
theorem dX10_printRule_36 : decode cX10_printRule 36 = .ok (.getfield 250, 3) := by decide +kernel
theorem dX10_printRule_39 : decode cX10_printRule 39 = .ok (.invokevirtual 426, 3) := by decide +kernel
theorem dX10_printRule_42 : decode cX10_printRule 42 = .ok (.aload_n 2, 1) := by decide +kernel
theorem dX10_printRule_43 : decode cX10_printRule 43 = .ok (.getfield 208, 3) := by decide +kernel
theorem dX10_printRule_46 : decode cX10_printRule 46 = .ok (.lconst 0, 1) := by decide +kernel
theorem dX10_printRule_47 : decode cX10_printRule 47 = .ok (.lcmp, 1) := by decide +kernel
theorem dX10_printRule_48 : decode cX10_printRule 48 = .ok (.ifCond .eq 43, 3) := by decide +kernel
theorem dX10_printRule_51 : decode cX10_printRule 51 = .ok (.aload_n 0, 1) := by decide +kernel
theorem dX10_printRule_52 : decode cX10_printRule 52 = .ok (.getfield 33, 3) := by decide +kernel
theorem dX10_printRule_55 : decode cX10_printRule 55 = .ok (.ldc_w 438, 3) := by decide +kernel
theorem dX10_printRule_58 : decode cX10_printRule 58 = .ok (.invokevirtual 435, 3) := by decide +kernel
theorem dX10_printRule_61 : decode cX10_printRule 61 = .ok (.iconst 1, 1) := by decide +kernel
theorem dX10_printRule_62 : decode cX10_printRule 62 = .ok (.istore_n 3, 1) := by decide +kernel
theorem dX10_printRule_63 : decode cX10_printRule 63 = .ok (.iload_n 3, 1) := by decide +kernel
theorem dX10_printRule_64 : decode cX10_printRule 64 = .ok (.bipush 40, 2) := by decide +kernel
theorem dX10_printRule_66 : decode cX10_printRule 66 = .ok (.if_icmp .gt 25, 3) := by decide +kernel
theorem dX10_printRule_69 : decode cX10_printRule 69 = .ok (.aload_n 2, 1) := by decide +kernel
theorem dX10_printRule_70 : decode cX10_printRule 70 = .ok (.iload_n 3, 1) := by decide +kernel
theorem dX10_printRule_71 : decode cX10_printRule 71 = .ok (.invokevirtual 440, 3) := by decide +kernel
theorem dX10_printRule_74 : decode cX10_printRule 74 = .ok (.ifCond .eq 11, 3) := by decide +kernel
theorem dX10_printRule_77 : decode cX10_printRule 77 = .ok (.aload_n 0, 1) := by decide +kernel
theorem dX10_printRule_78 : decode cX10_printRule 78 = .ok (.getfield 33, 3) := by decide +kernel
theorem dX10_printRule_81 : decode cX10_printRule 81 = .ok (.iload_n 3, 1) := by decide +kernel
theorem dX10_printRule_82 : decode cX10_printRule 82 = .ok (.invokevirtual 443, 3) := by decide +kernel
theorem dX10_printRule_85 : decode cX10_printRule 85 = .ok (.iinc 3 1, 3) := by decide +kernel
theorem dX10_printRule_88 : decode cX10_printRule 88 = .ok (.goto (-25), 3) := by decide +kernel
theorem dX10_printRule_91 : decode cX10_printRule 91 = .ok (.aload_n 0, 1) := by decide +kernel
theorem dX10_printRule_92 : decode cX10_printRule 92 = .ok (.getfield 33, 3) := by decide +kernel
theorem dX10_printRule_95 : decode cX10_printRule 95 = .ok (.ldc_w 446, 3) := by decide +kernel
theorem dX10_printRule_98 : decode cX10_printRule 98 = .ok (.invokevirtual 435, 3) := by decide +kernel
theorem dX10_printRule_101 : decode cX10_printRule 101 = .ok (.aload_n 0, 1) := by decide +kernel
theorem dX10_printRule_102 : decode cX10_printRule 102 = .ok (.getfield 33, 3) := by decide +kernel
theorem dX10_printRule_105 : decode cX10_printRule 105 = .ok (.aload_n 2, 1) := by decide +kernel
theorem dX10_printRule_106 : decode cX10_printRule 106 = .ok (.getfield 202, 3) := by decide +kernel
theorem dX10_printRule_109 : decode cX10_printRule 109 = .ok (.invokevirtual 443, 3) := by decide +kernel
theorem dX10_printRule_112 : decode cX10_printRule 112 = .ok (.aload_n 0, 1) := by decide +kernel
theorem dX10_printRule_113 : decode cX10_printRule 113 = .ok (.getfield 33, 3) := by decide +kernel
theorem dX10_printRule_116 : decode cX10_printRule 116 = .ok (.ldc_w 448, 3) := by decide +kernel
theorem dX10_printRule_119 : decode cX10_printRule 119 = .ok (.invokevirtual 435, 3) := by decide +kernel
theorem dX10_printRule_122 : decode cX10_printRule 122 = .ok (.aload_n 0, 1) := by decide +kernel
theorem dX10_printRule_123 : decode cX10_printRule 123 = .ok (.getfield 33, 3) := by decide +kernel
theorem dX10_printRule_126 : decode cX10_printRule 126 = .ok (.aload_n 2, 1) := by decide +kernel
theorem dX10_printRule_127 : decode cX10_printRule 127 = .ok (.getfield 205, 3) := by decide +kernel
theorem dX10_printRule_130 : decode cX10_printRule 130 = .ok (.invokevirtual 443, 3) := by decide +kernel
theorem dX10_printRule_133 : decode cX10_printRule 133 = .ok (.iconst 0, 1) := by decide +kernel
theorem dX10_printRule_134 : decode cX10_printRule 134 = .ok (.istore_n 3, 1) := by decide +kernel
theorem dX10_printRule_135 : decode cX10_printRule 135 = .ok (.iload_n 3, 1) := by decide +kernel
theorem dX10_printRule_136 : decode cX10_printRule 136 = .ok (.aload_n 2, 1) := by decide +kernel
theorem dX10_printRule_137 : decode cX10_printRule 137 = .ok (.getfield 218, 3) := by decide +kernel
theorem dX10_printRule_140 : decode cX10_printRule 140 = .ok (.if_icmp .ge 49, 3) := by decide +kernel
theorem dX10_printRule_143 : decode cX10_printRule 143 = .ok (.aload_n 0, 1) := by decide +kernel
theorem dX10_printRule_144 : decode cX10_printRule 144 = .ok (.getfield 33, 3) := by decide +kernel
theorem dX10_printRule_147 : decode cX10_printRule 147 = .ok (.ldc_w 450, 3) := by decide +kernel
theorem dX10_printRule_150 : decode cX10_printRule 150 = .ok (.invokevirtual 435, 3) := by decide +kernel
theorem dX10_printRule_153 : decode cX10_printRule 153 = .ok (.aload_n 0, 1) := by decide +kernel
theorem dX10_printRule_154 : decode cX10_printRule 154 = .ok (.getfield 33, 3) := by decide +kernel
theorem dX10_printRule_157 : decode cX10_printRule 157 = .ok (.aload_n 2, 1) := by decide +kernel
theorem dX10_printRule_158 : decode cX10_printRule 158 = .ok (.iload_n 3, 1) := by decide +kernel
theorem dX10_printRule_159 : decode cX10_printRule 159 = .ok (.invokevirtual 247, 3) := by decide +kernel
theorem dX10_printRule_162 : decode cX10_printRule 162 = .ok (.bipush 41, 2) := by decide +kernel
theorem dX10_printRule_164 : decode cX10_printRule 164 = .ok (.idiv, 1) := by decide +kernel
theorem dX10_printRule_165 : decode cX10_printRule 165 = .ok (.invokevirtual 443, 3) := by decide +kernel
theorem dX10_printRule_168 : decode cX10_printRule 168 = .ok (.aload_n 0, 1) := by decide +kernel
theorem dX10_printRule_169 : decode cX10_printRule 169 = .ok (.getfield 33, 3) := by decide +kernel
theorem dX10_printRule_172 : decode cX10_printRule 172 = .ok (.aload_n 2, 1) := by decide +kernel
theorem dX10_printRule_173 : decode cX10_printRule 173 = .ok (.iload_n 3, 1) := by decide +kernel
theorem dX10_printRule_174 : decode cX10_printRule 174 = .ok (.invokevirtual 247, 3) := by decide +kernel
theorem dX10_printRule_177 : decode cX10_printRule 177 = .ok (.bipush 41, 2) := by decide +kernel
theorem dX10_printRule_179 : decode cX10_printRule 179 = .ok (.irem, 1) := by decide +kernel
theorem dX10_printRule_180 : decode cX10_printRule 180 = .ok (.invokevirtual 443, 3) := by decide +kernel
theorem dX10_printRule_183 : decode cX10_printRule 183 = .ok (.iinc 3 1, 3) := by decide +kernel
theorem dX10_printRule_186 : decode cX10_printRule 186 = .ok (.goto (-51), 3) := by decide +kernel
theorem dX10_printRule_189 : decode cX10_printRule 189 = .ok (.aload_n 0, 1) := by decide +kernel
theorem dX10_printRule_190 : decode cX10_printRule 190 = .ok (.getfield 33, 3) := by decide +kernel
theorem dX10_printRule_193 : decode cX10_printRule 193 = .ok (.getfield 423, 3) := by decide +kernel
theorem dX10_printRule_196 : decode cX10_printRule 196 = .ok (.ireturn, 1) := by decide +kernel
theorem dX10_outputByte_0 : decode cX10_outputByte 0 = .ok (.aload_n 0, 1) := by decide +kernel
theorem dX10_outputByte_1 : decode cX10_outputByte 1 = .ok (.getfield 33, 3) := by decide +kernel
theorem dX10_outputByte_4 : decode cX10_outputByte 4 = .ok (.iload_n 1, 1) := by decide +kernel
theorem dX10_outputByte_5 : decode cX10_outputByte 5 = .ok (.invokevirtual 452, 3) := by decide +kernel
theorem dX10_outputByte_8 : decode cX10_outputByte 8 = .ok (.ireturn, 1) := by decide +kernel
theorem dX10_keep_0 : decode cX10_keep 0 = .ok (.iload_n 1, 1) := by decide +kernel
theorem dX10_keep_1 : decode cX10_keep 1 = .ok (.iconst 0, 1) := by decide +kernel
theorem dX10_keep_2 : decode cX10_keep 2 = .ok (.iconst 1, 1) := by decide +kernel
theorem dX10_keep_3 : decode cX10_keep 3 = .ok (.invokestatic 179, 3) := by decide +kernel
theorem dX10_keep_6 : decode cX10_keep 6 = .ok (.aload_n 0, 1) := by decide +kernel
theorem dX10_keep_7 : decode cX10_keep 7 = .ok (.getfield 58, 3) := by decide +kernel
theorem dX10_keep_10 : decode cX10_keep 10 = .ok (.iload_n 1, 1) := by decide +kernel
theorem dX10_keep_11 : decode cX10_keep 11 = .ok (.aaload, 1) := by decide +kernel
theorem dX10_keep_12 : decode cX10_keep 12 = .ok (.aload_n 0, 1) := by decide +kernel
theorem dX10_keep_13 : decode cX10_keep 13 = .ok (.getfield 40, 3) := by decide +kernel
theorem dX10_keep_16 : decode cX10_keep 16 = .ok (.invokevirtual 111, 3) := by decide +kernel
theorem dX10_keep_19 : decode cX10_keep 19 = .ok (.aload_n 0, 1) := by decide +kernel
theorem dX10_keep_20 : decode cX10_keep 20 = .ok (.getfield 62, 3) := by decide +kernel
theorem dX10_keep_23 : decode cX10_keep 23 = .ok (.iload_n 1, 1) := by decide +kernel
theorem dX10_keep_24 : decode cX10_keep 24 = .ok (.iconst 1, 1) := by decide +kernel
theorem dX10_keep_25 : decode cX10_keep 25 = .ok (.bastore, 1) := by decide +kernel
theorem dX10_keep_26 : decode cX10_keep 26 = .ok (.aload_n 0, 1) := by decide +kernel
theorem dX10_keep_27 : decode cX10_keep 27 = .ok (.getfield 40, 3) := by decide +kernel
theorem dX10_keep_30 : decode cX10_keep 30 = .ok (.getfield 137, 3) := by decide +kernel
theorem dX10_keep_33 : decode cX10_keep 33 = .ok (.ireturn, 1) := by decide +kernel
theorem dX10_bringBack_0 : decode cX10_bringBack 0 = .ok (.iload_n 1, 1) := by decide +kernel
theorem dX10_bringBack_1 : decode cX10_bringBack 1 = .ok (.iconst 0, 1) := by decide +kernel
theorem dX10_bringBack_2 : decode cX10_bringBack 2 = .ok (.iconst 1, 1) := by decide +kernel
theorem dX10_bringBack_3 : decode cX10_bringBack 3 = .ok (.invokestatic 179, 3) := by decide +kernel
theorem dX10_bringBack_6 : decode cX10_bringBack 6 = .ok (.aload_n 0, 1) := by decide +kernel
theorem dX10_bringBack_7 : decode cX10_bringBack 7 = .ok (.getfield 62, 3) := by decide +kernel
theorem dX10_bringBack_10 : decode cX10_bringBack 10 = .ok (.iload_n 1, 1) := by decide +kernel
theorem dX10_bringBack_11 : decode cX10_bringBack 11 = .ok (.baload, 1) := by decide +kernel
theorem dX10_bringBack_12 : decode cX10_bringBack 12 = .ok (.ifCond .ne 14, 3) := by decide +kernel
theorem dX10_bringBack_15 : decode cX10_bringBack 15 = .ok (.new 408, 3) := by decide +kernel
theorem dX10_bringBack_18 : decode cX10_bringBack 18 = .ok (.dup, 1) := by decide +kernel
theorem dX10_bringBack_19 : decode cX10_bringBack 19 = .ok (.ldc_w 455, 3) := by decide +kernel
theorem dX10_bringBack_22 : decode cX10_bringBack 22 = .ok (.invokespecial 412, 3) := by decide +kernel
theorem dX10_bringBack_25 : decode cX10_bringBack 25 = .ok (.athrow, 1) := by decide +kernel
theorem dX10_bringBack_26 : decode cX10_bringBack 26 = .ok (.aload_n 0, 1) := by decide +kernel
theorem dX10_bringBack_27 : decode cX10_bringBack 27 = .ok (.getfield 40, 3) := by decide +kernel
theorem dX10_bringBack_30 : decode cX10_bringBack 30 = .ok (.aload_n 0, 1) := by decide +kernel
theorem dX10_bringBack_31 : decode cX10_bringBack 31 = .ok (.getfield 58, 3) := by decide +kernel
theorem dX10_bringBack_34 : decode cX10_bringBack 34 = .ok (.iload_n 1, 1) := by decide +kernel
theorem dX10_bringBack_35 : decode cX10_bringBack 35 = .ok (.aaload, 1) := by decide +kernel
theorem dX10_bringBack_36 : decode cX10_bringBack 36 = .ok (.invokevirtual 111, 3) := by decide +kernel
theorem dX10_bringBack_39 : decode cX10_bringBack 39 = .ok (.aload_n 0, 1) := by decide +kernel
theorem dX10_bringBack_40 : decode cX10_bringBack 40 = .ok (.getfield 54, 3) := by decide +kernel
theorem dX10_bringBack_43 : decode cX10_bringBack 43 = .ok (.invokevirtual 115, 3) := by decide +kernel
theorem dX10_bringBack_46 : decode cX10_bringBack 46 = .ok (.aload_n 0, 1) := by decide +kernel
theorem dX10_bringBack_47 : decode cX10_bringBack 47 = .ok (.getfield 40, 3) := by decide +kernel
theorem dX10_bringBack_50 : decode cX10_bringBack 50 = .ok (.getfield 137, 3) := by decide +kernel
theorem dX10_bringBack_53 : decode cX10_bringBack 53 = .ok (.ireturn, 1) := by decide +kernel
theorem dX10_fittedMix_0 : decode cX10_fittedMix 0 = .ok (.aload_n 0, 1) := by decide +kernel
theorem dX10_fittedMix_1 : decode cX10_fittedMix 1 = .ok (.getfield 47, 3) := by decide +kernel
theorem dX10_fittedMix_4 : decode cX10_fittedMix 4 = .ok (.aload_n 0, 1) := by decide +kernel
theorem dX10_fittedMix_5 : decode cX10_fittedMix 5 = .ok (.getfield 40, 3) := by decide +kernel
theorem dX10_fittedMix_8 : decode cX10_fittedMix 8 = .ok (.invokevirtual 457, 3) := by decide +kernel
theorem dX10_fittedMix_11 : decode cX10_fittedMix 11 = .ok (.aload_n 0, 1) := by decide +kernel
theorem dX10_fittedMix_12 : decode cX10_fittedMix 12 = .ok (.getfield 47, 3) := by decide +kernel
theorem dX10_fittedMix_15 : decode cX10_fittedMix 15 = .ok (.areturn, 1) := by decide +kernel
theorem dX10_fittedTable_0 : decode cX10_fittedTable 0 = .ok (.aload_n 0, 1) := by decide +kernel
theorem dX10_fittedTable_1 : decode cX10_fittedTable 1 = .ok (.getfield 47, 3) := by decide +kernel
theorem dX10_fittedTable_4 : decode cX10_fittedTable 4 = .ok (.iload_n 1, 1) := by decide +kernel
theorem dX10_fittedTable_5 : decode cX10_fittedTable 5 = .ok (.invokevirtual 460, 3) := by decide +kernel
theorem dX10_fittedTable_8 : decode cX10_fittedTable 8 = .ok (.astore_n 2, 1) := by decide +kernel
theorem dX10_fittedTable_9 : decode cX10_fittedTable 9 = .ok (.aload_n 2, 1) := by decide +kernel
theorem dX10_fittedTable_10 : decode cX10_fittedTable 10 = .ok (.aload_n 0, 1) := by decide +kernel
theorem dX10_fittedTable_11 : decode cX10_fittedTable 11 = .ok (.getfield 40, 3) := by decide +kernel
theorem dX10_fittedTable_14 : decode cX10_fittedTable 14 = .ok (.iload_n 1, 1) := by decide +kernel
theorem dX10_fittedTable_15 : decode cX10_fittedTable 15 = .ok (.invokevirtual 198, 3) := by decide +kernel
theorem dX10_fittedTable_18 : decode cX10_fittedTable 18 = .ok (.invokevirtual 463, 3) := by decide +kernel
theorem dX10_fittedTable_21 : decode cX10_fittedTable 21 = .ok (.aload_n 2, 1) := by decide +kernel
theorem dX10_fittedTable_22 : decode cX10_fittedTable 22 = .ok (.areturn, 1) := by decide +kernel
theorem dX10_needRule_0 : decode cX10_needRule 0 = .ok (.iload_n 1, 1) := by decide +kernel
theorem dX10_needRule_1 : decode cX10_needRule 1 = .ok (.ifCond .lt 14, 3) := by decide +kernel
theorem dX10_needRule_4 : decode cX10_needRule 4 = .ok (.iload_n 1, 1) := by decide +kernel
theorem dX10_needRule_5 : decode cX10_needRule 5 = .ok (.aload_n 0, 1) := by decide +kernel
theorem dX10_needRule_6 : decode cX10_needRule 6 = .ok (.getfield 40, 3) := by decide +kernel
theorem dX10_needRule_9 : decode cX10_needRule 9 = .ok (.getfield 125, 3) := by decide +kernel
theorem dX10_needRule_12 : decode cX10_needRule 12 = .ok (.if_icmp .lt 14, 3) := by decide +kernel
theorem dX10_needRule_15 : decode cX10_needRule 15 = .ok (.new 187, 3) := by decide +kernel
theorem dX10_needRule_18 : decode cX10_needRule 18 = .ok (.dup, 1) := by decide +kernel
theorem dX10_needRule_19 : decode cX10_needRule 19 = .ok (.ldc_w 465, 3) := by decide +kernel
theorem dX10_needRule_22 : decode cX10_needRule 22 = .ok (.invokespecial 191, 3) := by decide +kernel
theorem dX10_needRule_25 : decode cX10_needRule 25 = .ok (.athrow, 1) := by decide +kernel
theorem dX10_needRule_26 : decode cX10_needRule 26 = .ok (.return_, 1) := by decide +kernel
theorem dX10_needPart_0 : decode cX10_needPart 0 = .ok (.iload_n 1, 1) := by decide +kernel
theorem dX10_needPart_1 : decode cX10_needPart 1 = .ok (.ifCond .lt 17, 3) := by decide +kernel
theorem dX10_needPart_4 : decode cX10_needPart 4 = .ok (.iload_n 1, 1) := by decide +kernel
theorem dX10_needPart_5 : decode cX10_needPart 5 = .ok (.aload_n 0, 1) := by decide +kernel
theorem dX10_needPart_6 : decode cX10_needPart 6 = .ok (.getfield 40, 3) := by decide +kernel
theorem dX10_needPart_9 : decode cX10_needPart 9 = .ok (.getfield 118, 3) := by decide +kernel
theorem dX10_needPart_12 : decode cX10_needPart 12 = .ok (.invokevirtual 121, 3) := by decide +kernel
theorem dX10_needPart_15 : decode cX10_needPart 15 = .ok (.if_icmp .lt 14, 3) := by decide +kernel
theorem dX10_needPart_18 : decode cX10_needPart 18 = .ok (.new 187, 3) := by decide +kernel
theorem dX10_needPart_21 : decode cX10_needPart 21 = .ok (.dup, 1) := by decide +kernel
theorem dX10_needPart_22 : decode cX10_needPart 22 = .ok (.ldc_w 467, 3) := by decide +kernel
theorem dX10_needPart_25 : decode cX10_needPart 25 = .ok (.invokespecial 191, 3) := by decide +kernel
theorem dX10_needPart_28 : decode cX10_needPart 28 = .ok (.athrow, 1) := by decide +kernel
theorem dX10_needPart_29 : decode cX10_needPart 29 = .ok (.return_, 1) := by decide +kernel
theorem dX10_needPlayer_0 : decode cX10_needPlayer 0 = .ok (.iload_n 0, 1) := by decide +kernel
theorem dX10_needPlayer_1 : decode cX10_needPlayer 1 = .ok (.ifCond .lt 8, 3) := by decide +kernel
theorem dX10_needPlayer_4 : decode cX10_needPlayer 4 = .ok (.iload_n 0, 1) := by decide +kernel
theorem dX10_needPlayer_5 : decode cX10_needPlayer 5 = .ok (.iconst 2, 1) := by decide +kernel
theorem dX10_needPlayer_6 : decode cX10_needPlayer 6 = .ok (.if_icmp .lt 14, 3) := by decide +kernel
theorem dX10_needPlayer_9 : decode cX10_needPlayer 9 = .ok (.new 187, 3) := by decide +kernel
theorem dX10_needPlayer_12 : decode cX10_needPlayer 12 = .ok (.dup, 1) := by decide +kernel
theorem dX10_needPlayer_13 : decode cX10_needPlayer 13 = .ok (.ldc_w 469, 3) := by decide +kernel
theorem dX10_needPlayer_16 : decode cX10_needPlayer 16 = .ok (.invokespecial 191, 3) := by decide +kernel
theorem dX10_needPlayer_19 : decode cX10_needPlayer 19 = .ok (.athrow, 1) := by decide +kernel
theorem dX10_needPlayer_20 : decode cX10_needPlayer 20 = .ok (.return_, 1) := by decide +kernel
theorem dX10_needRange_0 : decode cX10_needRange 0 = .ok (.iload_n 0, 1) := by decide +kernel
theorem dX10_needRange_1 : decode cX10_needRange 1 = .ok (.iload_n 1, 1) := by decide +kernel
theorem dX10_needRange_2 : decode cX10_needRange 2 = .ok (.if_icmp .lt 8, 3) := by decide +kernel
theorem dX10_needRange_5 : decode cX10_needRange 5 = .ok (.iload_n 0, 1) := by decide +kernel
theorem dX10_needRange_6 : decode cX10_needRange 6 = .ok (.iload_n 2, 1) := by decide +kernel
theorem dX10_needRange_7 : decode cX10_needRange 7 = .ok (.if_icmp .le 14, 3) := by decide +kernel
theorem dX10_needRange_10 : decode cX10_needRange 10 = .ok (.new 169, 3) := by decide +kernel
theorem dX10_needRange_13 : decode cX10_needRange 13 = .ok (.dup, 1) := by decide +kernel
theorem dX10_needRange_14 : decode cX10_needRange 14 = .ok (.ldc_w 471, 3) := by decide +kernel
theorem dX10_needRange_17 : decode cX10_needRange 17 = .ok (.invokespecial 173, 3) := by decide +kernel
theorem dX10_needRange_20 : decode cX10_needRange 20 = .ok (.athrow, 1) := by decide +kernel
theorem dX10_needRange_21 : decode cX10_needRange 21 = .ok (.return_, 1) := by decide +kernel
theorem dX10_needHeaps_0 : decode cX10_needHeaps 0 = .ok (.iload_n 0, 1) := by decide +kernel
theorem dX10_needHeaps_1 : decode cX10_needHeaps 1 = .ok (.iconst 0, 1) := by decide +kernel
theorem dX10_needHeaps_2 : decode cX10_needHeaps 2 = .ok (.bipush 40, 2) := by decide +kernel
theorem dX10_needHeaps_4 : decode cX10_needHeaps 4 = .ok (.invokestatic 179, 3) := by decide +kernel
theorem dX10_needHeaps_7 : decode cX10_needHeaps 7 = .ok (.iload_n 1, 1) := by decide +kernel
theorem dX10_needHeaps_8 : decode cX10_needHeaps 8 = .ok (.iconst 0, 1) := by decide +kernel
theorem dX10_needHeaps_9 : decode cX10_needHeaps 9 = .ok (.bipush 40, 2) := by decide +kernel
theorem dX10_needHeaps_11 : decode cX10_needHeaps 11 = .ok (.invokestatic 179, 3) := by decide +kernel
theorem dX10_needHeaps_14 : decode cX10_needHeaps 14 = .ok (.return_, 1) := by decide +kernel
theorem dX10_needMove_0 : decode cX10_needMove 0 = .ok (.iload_n 0, 1) := by decide +kernel
theorem dX10_needMove_1 : decode cX10_needMove 1 = .ok (.iload_n 1, 1) := by decide +kernel
theorem dX10_needMove_2 : decode cX10_needMove 2 = .ok (.invokestatic 292, 3) := by decide +kernel
theorem dX10_needMove_5 : decode cX10_needMove 5 = .ok (.iload_n 0, 1) := by decide +kernel
theorem dX10_needMove_6 : decode cX10_needMove 6 = .ok (.ifCond .ne 18, 3) := by decide +kernel
theorem dX10_needMove_9 : decode cX10_needMove 9 = .ok (.iload_n 1, 1) := by decide +kernel
theorem dX10_needMove_10 : decode cX10_needMove 10 = .ok (.ifCond .ne 14, 3) := by decide +kernel
theorem dX10_needMove_13 : decode cX10_needMove 13 = .ok (.new 169, 3) := by decide +kernel
theorem dX10_needMove_16 : decode cX10_needMove 16 = .ok (.dup, 1) := by decide +kernel
theorem dX10_needMove_17 : decode cX10_needMove 17 = .ok (.ldc_w 473, 3) := by decide +kernel
theorem dX10_needMove_20 : decode cX10_needMove 20 = .ok (.invokespecial 173, 3) := by decide +kernel
theorem dX10_needMove_23 : decode cX10_needMove 23 = .ok (.athrow, 1) := by decide +kernel
theorem dX10_needMove_24 : decode cX10_needMove 24 = .ok (.return_, 1) := by decide +kernel
theorem dX10_goldenNumber_0 : decode cX10_goldenNumber 0 = .ok (.iload_n 0, 1) := by decide +kernel
theorem dX10_goldenNumber_1 : decode cX10_goldenNumber 1 = .ok (.iload_n 0, 1) := by decide +kernel
theorem dX10_goldenNumber_2 : decode cX10_goldenNumber 2 = .ok (.imul, 1) := by decide +kernel
theorem dX10_goldenNumber_3 : decode cX10_goldenNumber 3 = .ok (.iconst 4, 1) := by decide +kernel
theorem dX10_goldenNumber_4 : decode cX10_goldenNumber 4 = .ok (.iadd, 1) := by decide +kernel
theorem dX10_goldenNumber_5 : decode cX10_goldenNumber 5 = .ok (.i2l, 1) := by decide +kernel
theorem dX10_goldenNumber_6 : decode cX10_goldenNumber 6 = .ok (.lload_n 1, 1) := by decide +kernel
theorem dX10_goldenNumber_7 : decode cX10_goldenNumber 7 = .ok (.lmul, 1) := by decide +kernel
theorem dX10_goldenNumber_8 : decode cX10_goldenNumber 8 = .ok (.lload_n 1, 1) := by decide +kernel
theorem dX10_goldenNumber_9 : decode cX10_goldenNumber 9 = .ok (.lmul, 1) := by decide +kernel
theorem dX10_goldenNumber_10 : decode cX10_goldenNumber 10 = .ok (.invokestatic 475, 3) := by decide +kernel
theorem dX10_goldenNumber_13 : decode cX10_goldenNumber 13 = .ok (.lstore 4, 2) := by decide +kernel
theorem dX10_goldenNumber_15 : decode cX10_goldenNumber 15 = .ok (.iconst 2, 1) := by decide +kernel
theorem dX10_goldenNumber_16 : decode cX10_goldenNumber 16 = .ok (.iload_n 0, 1) := by decide +kernel
theorem dX10_goldenNumber_17 : decode cX10_goldenNumber 17 = .ok (.isub, 1) := by decide +kernel
theorem dX10_goldenNumber_18 : decode cX10_goldenNumber 18 = .ok (.i2l, 1) := by decide +kernel
theorem dX10_goldenNumber_19 : decode cX10_goldenNumber 19 = .ok (.lload_n 1, 1) := by decide +kernel
theorem dX10_goldenNumber_20 : decode cX10_goldenNumber 20 = .ok (.lmul, 1) := by decide +kernel
theorem dX10_goldenNumber_21 : decode cX10_goldenNumber 21 = .ok (.lload 4, 2) := by decide +kernel
theorem dX10_goldenNumber_23 : decode cX10_goldenNumber 23 = .ok (.ladd, 1) := by decide +kernel
theorem dX10_goldenNumber_24 : decode cX10_goldenNumber 24 = .ok (.ldc2_w 322, 3) := by decide +kernel
theorem dX10_goldenNumber_27 : decode cX10_goldenNumber 27 = .ok (.ldiv, 1) := by decide +kernel
theorem dX10_goldenNumber_28 : decode cX10_goldenNumber 28 = .ok (.lstore 6, 2) := by decide +kernel
theorem dX10_goldenNumber_30 : decode cX10_goldenNumber 30 = .ok (.iload_n 3, 1) := by decide +kernel
theorem dX10_goldenNumber_31 : decode cX10_goldenNumber 31 = .ok (.ifCond .eq 13, 3) := by decide +kernel
theorem dX10_goldenNumber_34 : decode cX10_goldenNumber 34 = .ok (.lload 6, 2) := by decide +kernel
theorem dX10_goldenNumber_36 : decode cX10_goldenNumber 36 = .ok (.iload_n 0, 1) := by decide +kernel
theorem dX10_goldenNumber_37 : decode cX10_goldenNumber 37 = .ok (.i2l, 1) := by decide +kernel
theorem dX10_goldenNumber_38 : decode cX10_goldenNumber 38 = .ok (.lload_n 1, 1) := by decide +kernel
theorem dX10_goldenNumber_39 : decode cX10_goldenNumber 39 = .ok (.lmul, 1) := by decide +kernel
theorem dX10_goldenNumber_40 : decode cX10_goldenNumber 40 = .ok (.ladd, 1) := by decide +kernel
theorem dX10_goldenNumber_41 : decode cX10_goldenNumber 41 = .ok (.goto 5, 3) := by decide +kernel
theorem dX10_goldenNumber_44 : decode cX10_goldenNumber 44 = .ok (.lload 6, 2) := by decide +kernel
theorem dX10_goldenNumber_46 : decode cX10_goldenNumber 46 = .ok (.lreturn, 1) := by decide +kernel
theorem dX10_rootOf_0 : decode cX10_rootOf 0 = .ok (.lconst 0, 1) := by decide +kernel
theorem dX10_rootOf_1 : decode cX10_rootOf 1 = .ok (.lstore_n 2, 1) := by decide +kernel
theorem dX10_rootOf_2 : decode cX10_rootOf 2 = .ok (.bipush 31, 2) := by decide +kernel
theorem dX10_rootOf_4 : decode cX10_rootOf 4 = .ok (.istore 4, 2) := by decide +kernel
theorem dX10_rootOf_6 : decode cX10_rootOf 6 = .ok (.iload 4, 2) := by decide +kernel
theorem dX10_rootOf_8 : decode cX10_rootOf 8 = .ok (.ifCond .lt 39, 3) := by decide +kernel
theorem dX10_rootOf_11 : decode cX10_rootOf 11 = .ok (.lload_n 2, 1) := by decide +kernel
theorem dX10_rootOf_12 : decode cX10_rootOf 12 = .ok (.lconst 1, 1) := by decide +kernel
theorem dX10_rootOf_13 : decode cX10_rootOf 13 = .ok (.iload 4, 2) := by decide +kernel
theorem dX10_rootOf_15 : decode cX10_rootOf 15 = .ok (.lshl, 1) := by decide +kernel
theorem dX10_rootOf_16 : decode cX10_rootOf 16 = .ok (.ladd, 1) := by decide +kernel
theorem dX10_rootOf_17 : decode cX10_rootOf 17 = .ok (.lstore 5, 2) := by decide +kernel
theorem dX10_rootOf_19 : decode cX10_rootOf 19 = .ok (.lload 5, 2) := by decide +kernel
theorem dX10_rootOf_21 : decode cX10_rootOf 21 = .ok (.ldc2_w 479, 3) := by decide +kernel
theorem dX10_rootOf_24 : decode cX10_rootOf 24 = .ok (.lcmp, 1) := by decide +kernel
theorem dX10_rootOf_25 : decode cX10_rootOf 25 = .ok (.ifCond .gt 16, 3) := by decide +kernel
theorem dX10_rootOf_28 : decode cX10_rootOf 28 = .ok (.lload 5, 2) := by decide +kernel
theorem dX10_rootOf_30 : decode cX10_rootOf 30 = .ok (.lload 5, 2) := by decide +kernel
theorem dX10_rootOf_32 : decode cX10_rootOf 32 = .ok (.lmul, 1) := by decide +kernel
theorem dX10_rootOf_33 : decode cX10_rootOf 33 = .ok (.lload_n 0, 1) := by decide +kernel
theorem dX10_rootOf_34 : decode cX10_rootOf 34 = .ok (.lcmp, 1) := by decide +kernel
theorem dX10_rootOf_35 : decode cX10_rootOf 35 = .ok (.ifCond .gt 6, 3) := by decide +kernel
theorem dX10_rootOf_38 : decode cX10_rootOf 38 = .ok (.lload 5, 2) := by decide +kernel
theorem dX10_rootOf_40 : decode cX10_rootOf 40 = .ok (.lstore_n 2, 1) := by decide +kernel
theorem dX10_rootOf_41 : decode cX10_rootOf 41 = .ok (.iinc 4 (-1), 3) := by decide +kernel
theorem dX10_rootOf_44 : decode cX10_rootOf 44 = .ok (.goto (-38), 3) := by decide +kernel
theorem dX10_rootOf_47 : decode cX10_rootOf 47 = .ok (.lload_n 2, 1) := by decide +kernel
theorem dX10_rootOf_48 : decode cX10_rootOf 48 = .ok (.lreturn, 1) := by decide +kernel
theorem dX10_firstReaching_0 : decode cX10_firstReaching 0 = .ok (.lconst 0, 1) := by decide +kernel
theorem dX10_firstReaching_1 : decode cX10_firstReaching 1 = .ok (.lstore_n 3, 1) := by decide +kernel
theorem dX10_firstReaching_2 : decode cX10_firstReaching 2 = .ok (.iload_n 1, 1) := by decide +kernel
theorem dX10_firstReaching_3 : decode cX10_firstReaching 3 = .ok (.i2l, 1) := by decide +kernel
theorem dX10_firstReaching_4 : decode cX10_firstReaching 4 = .ok (.lstore 5, 2) := by decide +kernel
theorem dX10_firstReaching_6 : decode cX10_firstReaching 6 = .ok (.iconst 0, 1) := by decide +kernel
theorem dX10_firstReaching_7 : decode cX10_firstReaching 7 = .ok (.istore 7, 2) := by decide +kernel
theorem dX10_firstReaching_9 : decode cX10_firstReaching 9 = .ok (.iload 7, 2) := by decide +kernel
theorem dX10_firstReaching_11 : decode cX10_firstReaching 11 = .ok (.bipush 32, 2) := by decide +kernel
theorem dX10_firstReaching_13 : decode cX10_firstReaching 13 = .ok (.if_icmp .ge 51, 3) := by decide +kernel
theorem dX10_firstReaching_16 : decode cX10_firstReaching 16 = .ok (.lload 5, 2) := by decide +kernel
theorem dX10_firstReaching_18 : decode cX10_firstReaching 18 = .ok (.lload_n 3, 1) := by decide +kernel
theorem dX10_firstReaching_19 : decode cX10_firstReaching 19 = .ok (.lsub, 1) := by decide +kernel
theorem dX10_firstReaching_20 : decode cX10_firstReaching 20 = .ok (.lconst 1, 1) := by decide +kernel
theorem dX10_firstReaching_21 : decode cX10_firstReaching 21 = .ok (.lcmp, 1) := by decide +kernel
theorem dX10_firstReaching_22 : decode cX10_firstReaching 22 = .ok (.ifCond .le 42, 3) := by decide +kernel
theorem dX10_firstReaching_25 : decode cX10_firstReaching 25 = .ok (.lload_n 3, 1) := by decide +kernel
theorem dX10_firstReaching_26 : decode cX10_firstReaching 26 = .ok (.lload 5, 2) := by decide +kernel
theorem dX10_firstReaching_28 : decode cX10_firstReaching 28 = .ok (.ladd, 1) := by decide +kernel
theorem dX10_firstReaching_29 : decode cX10_firstReaching 29 = .ok (.ldc2_w 322, 3) := by decide +kernel
theorem dX10_firstReaching_32 : decode cX10_firstReaching 32 = .ok (.ldiv, 1) := by decide +kernel
theorem dX10_firstReaching_33 : decode cX10_firstReaching 33 = .ok (.lstore 8, 2) := by decide +kernel
theorem dX10_firstReaching_35 : decode cX10_firstReaching 35 = .ok (.iload_n 0, 1) := by decide +kernel
theorem dX10_firstReaching_36 : decode cX10_firstReaching 36 = .ok (.lload 8, 2) := by decide +kernel
theorem dX10_firstReaching_38 : decode cX10_firstReaching 38 = .ok (.iload_n 2, 1) := by decide +kernel
theorem dX10_firstReaching_39 : decode cX10_firstReaching 39 = .ok (.invokestatic 313, 3) := by decide +kernel
theorem dX10_firstReaching_42 : decode cX10_firstReaching 42 = .ok (.iload_n 1, 1) := by decide +kernel
theorem dX10_firstReaching_43 : decode cX10_firstReaching 43 = .ok (.i2l, 1) := by decide +kernel
theorem dX10_firstReaching_44 : decode cX10_firstReaching 44 = .ok (.lcmp, 1) := by decide +kernel
theorem dX10_firstReaching_45 : decode cX10_firstReaching 45 = .ok (.ifCond .lt 10, 3) := by decide +kernel
theorem dX10_firstReaching_48 : decode cX10_firstReaching 48 = .ok (.lload 8, 2) := by decide +kernel
theorem dX10_firstReaching_50 : decode cX10_firstReaching 50 = .ok (.lstore 5, 2) := by decide +kernel
theorem dX10_firstReaching_52 : decode cX10_firstReaching 52 = .ok (.goto 6, 3) := by decide +kernel
theorem dX10_firstReaching_55 : decode cX10_firstReaching 55 = .ok (.lload 8, 2) := by decide +kernel
theorem dX10_firstReaching_57 : decode cX10_firstReaching 57 = .ok (.lstore_n 3, 1) := by decide +kernel
theorem dX10_firstReaching_58 : decode cX10_firstReaching 58 = .ok (.iinc 7 1, 3) := by decide +kernel
theorem dX10_firstReaching_61 : decode cX10_firstReaching 61 = .ok (.goto (-52), 3) := by decide +kernel
theorem dX10_firstReaching_64 : decode cX10_firstReaching 64 = .ok (.lload 5, 2) := by decide +kernel
theorem dX10_firstReaching_66 : decode cX10_firstReaching 66 = .ok (.lreturn, 1) := by decide +kernel
theorem dX10_letterOf_0 : decode cX10_letterOf 0 = .ok (.iload_n 2, 1) := by decide +kernel
theorem dX10_letterOf_1 : decode cX10_letterOf 1 = .ok (.ifCond .lt 9, 3) := by decide +kernel
theorem dX10_letterOf_4 : decode cX10_letterOf 4 = .ok (.iload_n 2, 1) := by decide +kernel
theorem dX10_letterOf_5 : decode cX10_letterOf 5 = .ok (.bipush 8, 2) := by decide +kernel
theorem dX10_letterOf_7 : decode cX10_letterOf 7 = .ok (.if_icmp .lt 5, 3) := by decide +kernel
theorem dX10_letterOf_10 : decode cX10_letterOf 10 = .ok (.iconst 0, 1) := by decide +kernel
theorem dX10_letterOf_11 : decode cX10_letterOf 11 = .ok (.ireturn, 1) := by decide +kernel
theorem dX10_letterOf_12 : decode cX10_letterOf 12 = .ok (.lload_n 0, 1) := by decide +kernel
theorem dX10_letterOf_13 : decode cX10_letterOf 13 = .ok (.iload_n 2, 1) := by decide +kernel
theorem dX10_letterOf_14 : decode cX10_letterOf 14 = .ok (.iconst 5, 1) := by decide +kernel
theorem dX10_letterOf_15 : decode cX10_letterOf 15 = .ok (.imul, 1) := by decide +kernel
theorem dX10_letterOf_16 : decode cX10_letterOf 16 = .ok (.lushr, 1) := by decide +kernel
theorem dX10_letterOf_17 : decode cX10_letterOf 17 = .ok (.l2i, 1) := by decide +kernel
theorem dX10_letterOf_18 : decode cX10_letterOf 18 = .ok (.bipush 31, 2) := by decide +kernel
theorem dX10_letterOf_20 : decode cX10_letterOf 20 = .ok (.iand, 1) := by decide +kernel
theorem dX10_letterOf_21 : decode cX10_letterOf 21 = .ok (.ireturn, 1) := by decide +kernel
theorem dX11_init_0 : decode cX11_init 0 = .ok (.aload_n 0, 1) := by decide +kernel
theorem dX11_init_1 : decode cX11_init 1 = .ok (.invokespecial 1, 3) := by decide +kernel
theorem dX11_init_4 : decode cX11_init 4 = .ok (.aload_n 0, 1) := by decide +kernel
theorem dX11_init_5 : decode cX11_init 5 = .ok (.sipush 265, 3) := by decide +kernel
theorem dX11_init_8 : decode cX11_init 8 = .ok (.newarray .int, 2) := by decide +kernel
theorem dX11_init_10 : decode cX11_init 10 = .ok (.putfield 7, 3) := by decide +kernel
theorem dX11_init_13 : decode cX11_init 13 = .ok (.aload_n 0, 1) := by decide +kernel
theorem dX11_init_14 : decode cX11_init 14 = .ok (.sipush 265, 3) := by decide +kernel
theorem dX11_init_17 : decode cX11_init 17 = .ok (.newarray .int, 2) := by decide +kernel
theorem dX11_init_19 : decode cX11_init 19 = .ok (.putfield 13, 3) := by decide +kernel
theorem dX11_init_22 : decode cX11_init 22 = .ok (.aload_n 0, 1) := by decide +kernel
theorem dX11_init_23 : decode cX11_init 23 = .ok (.sipush 265, 3) := by decide +kernel
theorem dX11_init_26 : decode cX11_init 26 = .ok (.newarray .int, 2) := by decide +kernel
theorem dX11_init_28 : decode cX11_init 28 = .ok (.putfield 16, 3) := by decide +kernel
theorem dX11_init_31 : decode cX11_init 31 = .ok (.aload_n 0, 1) := by decide +kernel
theorem dX11_init_32 : decode cX11_init 32 = .ok (.sipush 530, 3) := by decide +kernel
theorem dX11_init_35 : decode cX11_init 35 = .ok (.newarray .int, 2) := by decide +kernel
theorem dX11_init_37 : decode cX11_init 37 = .ok (.putfield 19, 3) := by decide +kernel
theorem dX11_init_40 : decode cX11_init 40 = .ok (.aload_n 0, 1) := by decide +kernel
theorem dX11_init_41 : decode cX11_init 41 = .ok (.sipush 2120, 3) := by decide +kernel
theorem dX11_init_44 : decode cX11_init 44 = .ok (.newarray .int, 2) := by decide +kernel
theorem dX11_init_46 : decode cX11_init 46 = .ok (.putfield 22, 3) := by decide +kernel
theorem dX11_init_49 : decode cX11_init 49 = .ok (.aload_n 0, 1) := by decide +kernel
theorem dX11_init_50 : decode cX11_init 50 = .ok (.sipush 1681, 3) := by decide +kernel
theorem dX11_init_53 : decode cX11_init 53 = .ok (.newarray .boolean, 2) := by decide +kernel
theorem dX11_init_55 : decode cX11_init 55 = .ok (.putfield 25, 3) := by decide +kernel
theorem dX11_init_58 : decode cX11_init 58 = .ok (.aload_n 0, 1) := by decide +kernel
theorem dX11_init_59 : decode cX11_init 59 = .ok (.sipush 1681, 3) := by decide +kernel
theorem dX11_init_62 : decode cX11_init 62 = .ok (.newarray .int, 2) := by decide +kernel
theorem dX11_init_64 : decode cX11_init 64 = .ok (.putfield 29, 3) := by decide +kernel
theorem dX11_init_67 : decode cX11_init 67 = .ok (.aload_n 0, 1) := by decide +kernel
theorem dX11_init_68 : decode cX11_init 68 = .ok (.sipush 1681, 3) := by decide +kernel
theorem dX11_init_71 : decode cX11_init 71 = .ok (.newarray .int, 2) := by decide +kernel
theorem dX11_init_73 : decode cX11_init 73 = .ok (.putfield 32, 3) := by decide +kernel
theorem dX11_init_76 : decode cX11_init 76 = .ok (.aload_n 0, 1) := by decide +kernel
theorem dX11_init_77 : decode cX11_init 77 = .ok (.sipush 2000, 3) := by decide +kernel
theorem dX11_init_80 : decode cX11_init 80 = .ok (.newarray .int, 2) := by decide +kernel
theorem dX11_init_82 : decode cX11_init 82 = .ok (.putfield 35, 3) := by decide +kernel
theorem dX11_init_85 : decode cX11_init 85 = .ok (.aload_n 0, 1) := by decide +kernel
theorem dX11_init_86 : decode cX11_init 86 = .ok (.sipush 6724, 3) := by decide +kernel
theorem dX11_init_89 : decode cX11_init 89 = .ok (.newarray .int, 2) := by decide +kernel
theorem dX11_init_91 : decode cX11_init 91 = .ok (.putfield 38, 3) := by decide +kernel
theorem dX11_init_94 : decode cX11_init 94 = .ok (.aload_n 0, 1) := by decide +kernel
theorem dX11_init_95 : decode cX11_init 95 = .ok (.sipush 6724, 3) := by decide +kernel
theorem dX11_init_98 : decode cX11_init 98 = .ok (.newarray .int, 2) := by decide +kernel
theorem dX11_init_100 : decode cX11_init 100 = .ok (.putfield 41, 3) := by decide +kernel
theorem dX11_init_103 : decode cX11_init 103 = .ok (.aload_n 0, 1) := by decide +kernel
theorem dX11_init_104 : decode cX11_init 104 = .ok (.bipush 80, 2) := by decide +kernel
theorem dX11_init_106 : decode cX11_init 106 = .ok (.newarray .int, 2) := by decide +kernel
theorem dX11_init_108 : decode cX11_init 108 = .ok (.putfield 44, 3) := by decide +kernel
theorem dX11_init_111 : decode cX11_init 111 = .ok (.aload_n 0, 1) := by decide +kernel
theorem dX11_init_112 : decode cX11_init 112 = .ok (.sipush 600, 3) := by decide +kernel
theorem dX11_init_115 : decode cX11_init 115 = .ok (.newarray .int, 2) := by decide +kernel
theorem dX11_init_117 : decode cX11_init 117 = .ok (.putfield 47, 3) := by decide +kernel
theorem dX11_init_120 : decode cX11_init 120 = .ok (.aload_n 0, 1) := by decide +kernel
theorem dX11_init_121 : decode cX11_init 121 = .ok (.iconst (-1), 1) := by decide +kernel
theorem dX11_init_122 : decode cX11_init 122 = .ok (.putfield 50, 3) := by decide +kernel
theorem dX11_init_125 : decode cX11_init 125 = .ok (.aload_n 0, 1) := by decide +kernel
theorem dX11_init_126 : decode cX11_init 126 = .ok (.sipush 300, 3) := by decide +kernel
theorem dX11_init_129 : decode cX11_init 129 = .ok (.newarray .int, 2) := by decide +kernel
theorem dX11_init_131 : decode cX11_init 131 = .ok (.putfield 54, 3) := by decide +kernel
theorem dX11_init_134 : decode cX11_init 134 = .ok (.aload_n 0, 1) := by decide +kernel
theorem dX11_init_135 : decode cX11_init 135 = .ok (.invokevirtual 57, 3) := by decide +kernel
theorem dX11_init_138 : decode cX11_init 138 = .ok (.aload_n 0, 1) := by decide +kernel
theorem dX11_init_139 : decode cX11_init 139 = .ok (.getfield 7, 3) := by decide +kernel
theorem dX11_init_142 : decode cX11_init 142 = .ok (.bipush 17, 2) := by decide +kernel
theorem dX11_init_144 : decode cX11_init 144 = .ok (.iconst 5, 1) := by decide +kernel
theorem dX11_init_145 : decode cX11_init 145 = .ok (.iastore, 1) := by decide +kernel
theorem dX11_init_146 : decode cX11_init 146 = .ok (.aload_n 0, 1) := by decide +kernel
theorem dX11_init_147 : decode cX11_init 147 = .ok (.getfield 7, 3) := by decide +kernel
theorem dX11_init_150 : decode cX11_init 150 = .ok (.bipush 18, 2) := by decide +kernel
theorem dX11_init_152 : decode cX11_init 152 = .ok (.bipush 16, 2) := by decide +kernel
theorem dX11_init_154 : decode cX11_init 154 = .ok (.iastore, 1) := by decide +kernel
theorem dX11_init_155 : decode cX11_init 155 = .ok (.aload_n 0, 1) := by decide +kernel
theorem dX11_init_156 : decode cX11_init 156 = .ok (.getfield 7, 3) := by decide +kernel
theorem dX11_init_159 : decode cX11_init 159 = .ok (.bipush 19, 2) := by decide +kernel
theorem dX11_init_161 : decode cX11_init 161 = .ok (.bipush 12, 2) := by decide +kernel
theorem dX11_init_163 : decode cX11_init 163 = .ok (.iastore, 1) := by decide +kernel
theorem dX11_init_164 : decode cX11_init 164 = .ok (.aload_n 0, 1) := by decide +kernel
theorem dX11_init_165 : decode cX11_init 165 = .ok (.getfield 7, 3) := by decide +kernel
theorem dX11_init_168 : decode cX11_init 168 = .ok (.bipush 20, 2) := by decide +kernel
theorem dX11_init_170 : decode cX11_init 170 = .ok (.iconst 1, 1) := by decide +kernel
theorem dX11_init_171 : decode cX11_init 171 = .ok (.iastore, 1) := by decide +kernel
theorem dX11_init_172 : decode cX11_init 172 = .ok (.aload_n 0, 1) := by decide +kernel
theorem dX11_init_173 : decode cX11_init 173 = .ok (.getfield 7, 3) := by decide +kernel
theorem dX11_init_176 : decode cX11_init 176 = .ok (.bipush 21, 2) := by decide +kernel
theorem dX11_init_178 : decode cX11_init 178 = .ok (.bipush 9, 2) := by decide +kernel
theorem dX11_init_180 : decode cX11_init 180 = .ok (.iastore, 1) := by decide +kernel
theorem dX11_init_181 : decode cX11_init 181 = .ok (.aload_n 0, 1) := by decide +kernel
theorem dX11_init_182 : decode cX11_init 182 = .ok (.getfield 7, 3) := by decide +kernel
theorem dX11_init_185 : decode cX11_init 185 = .ok (.bipush 22, 2) := by decide +kernel
theorem dX11_init_187 : decode cX11_init 187 = .ok (.bipush 14, 2) := by decide +kernel
theorem dX11_init_189 : decode cX11_init 189 = .ok (.iastore, 1) := by decide +kernel
theorem dX11_init_190 : decode cX11_init 190 = .ok (.aload_n 0, 1) := by decide +kernel
theorem dX11_init_191 : decode cX11_init 191 = .ok (.iconst 0, 1) := by decide +kernel
theorem dX11_init_192 : decode cX11_init 192 = .ok (.bipush 18, 2) := by decide +kernel
theorem dX11_init_194 : decode cX11_init 194 = .ok (.iconst 1, 1) := by decide +kernel
theorem dX11_init_195 : decode cX11_init 195 = .ok (.invokevirtual 60, 3) := by decide +kernel
theorem dX11_init_198 : decode cX11_init 198 = .ok (.aload_n 0, 1) := by decide +kernel
theorem dX11_init_199 : decode cX11_init 199 = .ok (.iconst 0, 1) := by decide +kernel
theorem dX11_init_200 : decode cX11_init 200 = .ok (.bipush 19, 2) := by decide +kernel
theorem dX11_init_202 : decode cX11_init 202 = .ok (.bipush 40, 2) := by decide +kernel
theorem dX11_init_204 : decode cX11_init 204 = .ok (.invokevirtual 60, 3) := by decide +kernel
theorem dX11_init_207 : decode cX11_init 207 = .ok (.aload_n 0, 1) := by decide +kernel
theorem dX11_init_208 : decode cX11_init 208 = .ok (.getfield 7, 3) := by decide +kernel
theorem dX11_init_211 : decode cX11_init 211 = .ok (.iconst 0, 1) := by decide +kernel
theorem dX11_init_212 : decode cX11_init 212 = .ok (.iconst 1, 1) := by decide +kernel
theorem dX11_init_213 : decode cX11_init 213 = .ok (.iastore, 1) := by decide +kernel
theorem dX11_init_214 : decode cX11_init 214 = .ok (.aload_n 0, 1) := by decide +kernel
theorem dX11_init_215 : decode cX11_init 215 = .ok (.iconst 0, 1) := by decide +kernel
theorem dX11_init_216 : decode cX11_init 216 = .ok (.iconst 5, 1) := by decide +kernel
theorem dX11_init_217 : decode cX11_init 217 = .ok (.bipush 8, 2) := by decide +kernel
theorem dX11_init_219 : decode cX11_init 219 = .ok (.invokevirtual 64, 3) := by decide +kernel
theorem dX11_init_222 : decode cX11_init 222 = .ok (.return_, 1) := by decide +kernel
