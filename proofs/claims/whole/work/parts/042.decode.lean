theorem dX11_thrown_0 : decode cX11_thrown 0 = .ok (.aload_n 0, 1) := by decide +kernel
theorem dX11_thrown_1 : decode cX11_thrown 1 = .ok (.getfield 67, 3) := by decide +kernel
theorem dX11_thrown_4 : decode cX11_thrown 4 = .ok (.ireturn, 1) := by decide +kernel
theorem dX11_inRange_0 : decode cX11_inRange 0 = .ok (.iload_n 0, 1) := by decide +kernel
theorem dX11_inRange_1 : decode cX11_inRange 1 = .ok (.iload_n 1, 1) := by decide +kernel
theorem dX11_inRange_2 : decode cX11_inRange 2 = .ok (.if_icmp .lt 12, 3) := by decide +kernel
theorem dX11_inRange_5 : decode cX11_inRange 5 = .ok (.iload_n 0, 1) := by decide +kernel
theorem dX11_inRange_6 : decode cX11_inRange 6 = .ok (.iload_n 2, 1) := by decide +kernel
theorem dX11_inRange_7 : decode cX11_inRange 7 = .ok (.if_icmp .gt 7, 3) := by decide +kernel
theorem dX11_inRange_10 : decode cX11_inRange 10 = .ok (.iconst 1, 1) := by decide +kernel
theorem dX11_inRange_11 : decode cX11_inRange 11 = .ok (.goto 4, 3) := by decide +kernel
theorem dX11_inRange_14 : decode cX11_inRange 14 = .ok (.iconst 0, 1) := by decide +kernel
theorem dX11_inRange_15 : decode cX11_inRange 15 = .ok (.ireturn, 1) := by decide +kernel
theorem dX11_fails_0 : decode cX11_fails 0 = .ok (.iload_n 1, 1) := by decide +kernel
theorem dX11_fails_1 : decode cX11_fails 1 = .ok (.ifCond .eq 8, 3) := by decide +kernel
theorem dX11_fails_4 : decode cX11_fails 4 = .ok (.aload_n 0, 1) := by decide +kernel
theorem dX11_fails_5 : decode cX11_fails 5 = .ok (.iload_n 2, 1) := by decide +kernel
theorem dX11_fails_6 : decode cX11_fails 6 = .ok (.putfield 67, 3) := by decide +kernel
theorem dX11_fails_9 : decode cX11_fails 9 = .ok (.iload_n 1, 1) := by decide +kernel
theorem dX11_fails_10 : decode cX11_fails 10 = .ok (.ireturn, 1) := by decide +kernel
theorem dX11_copies_0 : decode cX11_copies 0 = .ok (.iconst 0, 1) := by decide +kernel
theorem dX11_copies_1 : decode cX11_copies 1 = .ok (.istore 4, 2) := by decide +kernel
theorem dX11_copies_3 : decode cX11_copies 3 = .ok (.iload 4, 2) := by decide +kernel
theorem dX11_copies_5 : decode cX11_copies 5 = .ok (.sipush 265, 3) := by decide +kernel
theorem dX11_copies_8 : decode cX11_copies 8 = .ok (.if_icmp .ge 21, 3) := by decide +kernel
theorem dX11_copies_11 : decode cX11_copies 11 = .ok (.aload_n 2, 1) := by decide +kernel
theorem dX11_copies_12 : decode cX11_copies 12 = .ok (.iload_n 3, 1) := by decide +kernel
theorem dX11_copies_13 : decode cX11_copies 13 = .ok (.iload 4, 2) := by decide +kernel
theorem dX11_copies_15 : decode cX11_copies 15 = .ok (.iadd, 1) := by decide +kernel
theorem dX11_copies_16 : decode cX11_copies 16 = .ok (.aload_n 0, 1) := by decide +kernel
theorem dX11_copies_17 : decode cX11_copies 17 = .ok (.iload_n 1, 1) := by decide +kernel
theorem dX11_copies_18 : decode cX11_copies 18 = .ok (.iload 4, 2) := by decide +kernel
theorem dX11_copies_20 : decode cX11_copies 20 = .ok (.iadd, 1) := by decide +kernel
theorem dX11_copies_21 : decode cX11_copies 21 = .ok (.iaload, 1) := by decide +kernel
theorem dX11_copies_22 : decode cX11_copies 22 = .ok (.iastore, 1) := by decide +kernel
theorem dX11_copies_23 : decode cX11_copies 23 = .ok (.iinc 4 1, 3) := by decide +kernel
theorem dX11_copies_26 : decode cX11_copies 26 = .ok (.goto (-23), 3) := by decide +kernel
theorem dX11_copies_29 : decode cX11_copies 29 = .ok (.return_, 1) := by decide +kernel
theorem dX11_begins_0 : decode cX11_begins 0 = .ok (.iconst 0, 1) := by decide +kernel
theorem dX11_begins_1 : decode cX11_begins 1 = .ok (.istore_n 1, 1) := by decide +kernel
theorem dX11_begins_2 : decode cX11_begins 2 = .ok (.iload_n 1, 1) := by decide +kernel
theorem dX11_begins_3 : decode cX11_begins 3 = .ok (.sipush 265, 3) := by decide +kernel
theorem dX11_begins_6 : decode cX11_begins 6 = .ok (.if_icmp .ge 16, 3) := by decide +kernel
theorem dX11_begins_9 : decode cX11_begins 9 = .ok (.aload_n 0, 1) := by decide +kernel
theorem dX11_begins_10 : decode cX11_begins 10 = .ok (.getfield 7, 3) := by decide +kernel
theorem dX11_begins_13 : decode cX11_begins 13 = .ok (.iload_n 1, 1) := by decide +kernel
theorem dX11_begins_14 : decode cX11_begins 14 = .ok (.iconst 0, 1) := by decide +kernel
theorem dX11_begins_15 : decode cX11_begins 15 = .ok (.iastore, 1) := by decide +kernel
theorem dX11_begins_16 : decode cX11_begins 16 = .ok (.iinc 1 1, 3) := by decide +kernel
theorem dX11_begins_19 : decode cX11_begins 19 = .ok (.goto (-17), 3) := by decide +kernel
theorem dX11_begins_22 : decode cX11_begins 22 = .ok (.aload_n 0, 1) := by decide +kernel
theorem dX11_begins_23 : decode cX11_begins 23 = .ok (.getfield 7, 3) := by decide +kernel
theorem dX11_begins_26 : decode cX11_begins 26 = .ok (.iconst 5, 1) := by decide +kernel
theorem dX11_begins_27 : decode cX11_begins 27 = .ok (.iconst 1, 1) := by decide +kernel
theorem dX11_begins_28 : decode cX11_begins 28 = .ok (.iastore, 1) := by decide +kernel
theorem dX11_begins_29 : decode cX11_begins 29 = .ok (.return_, 1) := by decide +kernel
theorem dX11_remembers_0 : decode cX11_remembers 0 = .ok (.aload_n 0, 1) := by decide +kernel
theorem dX11_remembers_1 : decode cX11_remembers 1 = .ok (.getfield 70, 3) := by decide +kernel
theorem dX11_remembers_4 : decode cX11_remembers 4 = .ok (.bipush 8, 2) := by decide +kernel
theorem dX11_remembers_6 : decode cX11_remembers 6 = .ok (.if_icmp .ne 44, 3) := by decide +kernel
theorem dX11_remembers_9 : decode cX11_remembers 9 = .ok (.iconst 0, 1) := by decide +kernel
theorem dX11_remembers_10 : decode cX11_remembers 10 = .ok (.istore_n 1, 1) := by decide +kernel
theorem dX11_remembers_11 : decode cX11_remembers 11 = .ok (.iload_n 1, 1) := by decide +kernel
theorem dX11_remembers_12 : decode cX11_remembers 12 = .ok (.sipush 1855, 3) := by decide +kernel
theorem dX11_remembers_15 : decode cX11_remembers 15 = .ok (.if_icmp .ge 25, 3) := by decide +kernel
theorem dX11_remembers_18 : decode cX11_remembers 18 = .ok (.aload_n 0, 1) := by decide +kernel
theorem dX11_remembers_19 : decode cX11_remembers 19 = .ok (.getfield 22, 3) := by decide +kernel
theorem dX11_remembers_22 : decode cX11_remembers 22 = .ok (.iload_n 1, 1) := by decide +kernel
theorem dX11_remembers_23 : decode cX11_remembers 23 = .ok (.aload_n 0, 1) := by decide +kernel
theorem dX11_remembers_24 : decode cX11_remembers 24 = .ok (.getfield 22, 3) := by decide +kernel
theorem dX11_remembers_27 : decode cX11_remembers 27 = .ok (.iload_n 1, 1) := by decide +kernel
theorem dX11_remembers_28 : decode cX11_remembers 28 = .ok (.sipush 265, 3) := by decide +kernel
theorem dX11_remembers_31 : decode cX11_remembers 31 = .ok (.iadd, 1) := by decide +kernel
theorem dX11_remembers_32 : decode cX11_remembers 32 = .ok (.iaload, 1) := by decide +kernel
theorem dX11_remembers_33 : decode cX11_remembers 33 = .ok (.iastore, 1) := by decide +kernel
theorem dX11_remembers_34 : decode cX11_remembers 34 = .ok (.iinc 1 1, 3) := by decide +kernel
theorem dX11_remembers_37 : decode cX11_remembers 37 = .ok (.goto (-26), 3) := by decide +kernel
theorem dX11_remembers_40 : decode cX11_remembers 40 = .ok (.aload_n 0, 1) := by decide +kernel
theorem dX11_remembers_41 : decode cX11_remembers 41 = .ok (.dup, 1) := by decide +kernel
theorem dX11_remembers_42 : decode cX11_remembers 42 = .ok (.getfield 70, 3) := by decide +kernel
theorem dX11_remembers_45 : decode cX11_remembers 45 = .ok (.iconst 1, 1) := by decide +kernel
theorem dX11_remembers_46 : decode cX11_remembers 46 = .ok (.isub, 1) := by decide +kernel
theorem dX11_remembers_47 : decode cX11_remembers 47 = .ok (.putfield 70, 3) := by decide +kernel
theorem dX11_remembers_50 : decode cX11_remembers 50 = .ok (.aload_n 0, 1) := by decide +kernel
theorem dX11_remembers_51 : decode cX11_remembers 51 = .ok (.getfield 7, 3) := by decide +kernel
theorem dX11_remembers_54 : decode cX11_remembers 54 = .ok (.iconst 0, 1) := by decide +kernel
theorem dX11_remembers_55 : decode cX11_remembers 55 = .ok (.aload_n 0, 1) := by decide +kernel
theorem dX11_remembers_56 : decode cX11_remembers 56 = .ok (.getfield 22, 3) := by decide +kernel
theorem dX11_remembers_59 : decode cX11_remembers 59 = .ok (.sipush 265, 3) := by decide +kernel
theorem dX11_remembers_62 : decode cX11_remembers 62 = .ok (.aload_n 0, 1) := by decide +kernel
theorem dX11_remembers_63 : decode cX11_remembers 63 = .ok (.getfield 70, 3) := by decide +kernel
theorem dX11_remembers_66 : decode cX11_remembers 66 = .ok (.imul, 1) := by decide +kernel
theorem dX11_remembers_67 : decode cX11_remembers 67 = .ok (.invokestatic 73, 3) := by decide +kernel
theorem dX11_remembers_70 : decode cX11_remembers 70 = .ok (.aload_n 0, 1) := by decide +kernel
theorem dX11_remembers_71 : decode cX11_remembers 71 = .ok (.dup, 1) := by decide +kernel
theorem dX11_remembers_72 : decode cX11_remembers 72 = .ok (.getfield 70, 3) := by decide +kernel
theorem dX11_remembers_75 : decode cX11_remembers 75 = .ok (.iconst 1, 1) := by decide +kernel
theorem dX11_remembers_76 : decode cX11_remembers 76 = .ok (.iadd, 1) := by decide +kernel
theorem dX11_remembers_77 : decode cX11_remembers 77 = .ok (.putfield 70, 3) := by decide +kernel
theorem dX11_remembers_80 : decode cX11_remembers 80 = .ok (.return_, 1) := by decide +kernel
theorem dX11_of_0 : decode cX11_of 0 = .ok (.aload_n 0, 1) := by decide +kernel
theorem dX11_of_1 : decode cX11_of 1 = .ok (.getfield 7, 3) := by decide +kernel
theorem dX11_of_4 : decode cX11_of 4 = .ok (.bipush 17, 2) := by decide +kernel
theorem dX11_of_6 : decode cX11_of 6 = .ok (.bipush 29, 2) := by decide +kernel
theorem dX11_of_8 : decode cX11_of 8 = .ok (.iload_n 1, 1) := by decide +kernel
theorem dX11_of_9 : decode cX11_of 9 = .ok (.imul, 1) := by decide +kernel
theorem dX11_of_10 : decode cX11_of 10 = .ok (.iadd, 1) := by decide +kernel
theorem dX11_of_11 : decode cX11_of 11 = .ok (.iload_n 2, 1) := by decide +kernel
theorem dX11_of_12 : decode cX11_of 12 = .ok (.iadd, 1) := by decide +kernel
theorem dX11_of_13 : decode cX11_of 13 = .ok (.iaload, 1) := by decide +kernel
theorem dX11_of_14 : decode cX11_of 14 = .ok (.ireturn, 1) := by decide +kernel
theorem dX11_putsRule_0 : decode cX11_putsRule 0 = .ok (.aload_n 0, 1) := by decide +kernel
theorem dX11_putsRule_1 : decode cX11_putsRule 1 = .ok (.getfield 7, 3) := by decide +kernel
theorem dX11_putsRule_4 : decode cX11_putsRule 4 = .ok (.bipush 17, 2) := by decide +kernel
theorem dX11_putsRule_6 : decode cX11_putsRule 6 = .ok (.bipush 29, 2) := by decide +kernel
theorem dX11_putsRule_8 : decode cX11_putsRule 8 = .ok (.iload_n 1, 1) := by decide +kernel
theorem dX11_putsRule_9 : decode cX11_putsRule 9 = .ok (.imul, 1) := by decide +kernel
theorem dX11_putsRule_10 : decode cX11_putsRule 10 = .ok (.iadd, 1) := by decide +kernel
theorem dX11_putsRule_11 : decode cX11_putsRule 11 = .ok (.iload_n 2, 1) := by decide +kernel
theorem dX11_putsRule_12 : decode cX11_putsRule 12 = .ok (.iadd, 1) := by decide +kernel
theorem dX11_putsRule_13 : decode cX11_putsRule 13 = .ok (.iload_n 3, 1) := by decide +kernel
theorem dX11_putsRule_14 : decode cX11_putsRule 14 = .ok (.iastore, 1) := by decide +kernel
theorem dX11_putsRule_15 : decode cX11_putsRule 15 = .ok (.return_, 1) := by decide +kernel
theorem dX11_noRule_0 : decode cX11_noRule 0 = .ok (.aload_n 0, 1) := by decide +kernel
theorem dX11_noRule_1 : decode cX11_noRule 1 = .ok (.iload_n 1, 1) := by decide +kernel
theorem dX11_noRule_2 : decode cX11_noRule 2 = .ok (.iconst 0, 1) := by decide +kernel
theorem dX11_noRule_3 : decode cX11_noRule 3 = .ok (.aload_n 0, 1) := by decide +kernel
theorem dX11_noRule_4 : decode cX11_noRule 4 = .ok (.getfield 7, 3) := by decide +kernel
theorem dX11_noRule_7 : decode cX11_noRule 7 = .ok (.iconst 0, 1) := by decide +kernel
theorem dX11_noRule_8 : decode cX11_noRule 8 = .ok (.iaload, 1) := by decide +kernel
theorem dX11_noRule_9 : decode cX11_noRule 9 = .ok (.iconst 1, 1) := by decide +kernel
theorem dX11_noRule_10 : decode cX11_noRule 10 = .ok (.isub, 1) := by decide +kernel
theorem dX11_noRule_11 : decode cX11_noRule 11 = .ok (.invokestatic 77, 3) := by decide +kernel
theorem dX11_noRule_14 : decode cX11_noRule 14 = .ok (.ifCond .ne 7, 3) := by decide +kernel
theorem dX11_noRule_17 : decode cX11_noRule 17 = .ok (.iconst 1, 1) := by decide +kernel
theorem dX11_noRule_18 : decode cX11_noRule 18 = .ok (.goto 4, 3) := by decide +kernel
theorem dX11_noRule_21 : decode cX11_noRule 21 = .ok (.iconst 0, 1) := by decide +kernel
theorem dX11_noRule_22 : decode cX11_noRule 22 = .ok (.iconst 1, 1) := by decide +kernel
theorem dX11_noRule_23 : decode cX11_noRule 23 = .ok (.invokevirtual 81, 3) := by decide +kernel
theorem dX11_noRule_26 : decode cX11_noRule 26 = .ok (.ireturn, 1) := by decide +kernel
theorem dX11_isInOnly_0 : decode cX11_isInOnly 0 = .ok (.iconst 0, 1) := by decide +kernel
theorem dX11_isInOnly_1 : decode cX11_isInOnly 1 = .ok (.istore_n 3, 1) := by decide +kernel
theorem dX11_isInOnly_2 : decode cX11_isInOnly 2 = .ok (.iload_n 3, 1) := by decide +kernel
theorem dX11_isInOnly_3 : decode cX11_isInOnly 3 = .ok (.aload_n 0, 1) := by decide +kernel
theorem dX11_isInOnly_4 : decode cX11_isInOnly 4 = .ok (.iload_n 1, 1) := by decide +kernel
theorem dX11_isInOnly_5 : decode cX11_isInOnly 5 = .ok (.bipush 9, 2) := by decide +kernel
theorem dX11_isInOnly_7 : decode cX11_isInOnly 7 = .ok (.invokevirtual 85, 3) := by decide +kernel
theorem dX11_isInOnly_10 : decode cX11_isInOnly 10 = .ok (.if_icmp .ge 24, 3) := by decide +kernel
theorem dX11_isInOnly_13 : decode cX11_isInOnly 13 = .ok (.aload_n 0, 1) := by decide +kernel
theorem dX11_isInOnly_14 : decode cX11_isInOnly 14 = .ok (.iload_n 1, 1) := by decide +kernel
theorem dX11_isInOnly_15 : decode cX11_isInOnly 15 = .ok (.bipush 10, 2) := by decide +kernel
theorem dX11_isInOnly_17 : decode cX11_isInOnly 17 = .ok (.iload_n 3, 1) := by decide +kernel
theorem dX11_isInOnly_18 : decode cX11_isInOnly 18 = .ok (.iadd, 1) := by decide +kernel
theorem dX11_isInOnly_19 : decode cX11_isInOnly 19 = .ok (.invokevirtual 85, 3) := by decide +kernel
theorem dX11_isInOnly_22 : decode cX11_isInOnly 22 = .ok (.iload_n 2, 1) := by decide +kernel
theorem dX11_isInOnly_23 : decode cX11_isInOnly 23 = .ok (.if_icmp .ne 5, 3) := by decide +kernel
theorem dX11_isInOnly_26 : decode cX11_isInOnly 26 = .ok (.iconst 1, 1) := by decide +kernel
theorem dX11_isInOnly_27 : decode cX11_isInOnly 27 = .ok (.ireturn, 1) := by decide +kernel
theorem dX11_isInOnly_28 : decode cX11_isInOnly 28 = .ok (.iinc 3 1, 3) := by decide +kernel
theorem dX11_isInOnly_31 : decode cX11_isInOnly 31 = .ok (.goto (-29), 3) := by decide +kernel
theorem dX11_isInOnly_34 : decode cX11_isInOnly 34 = .ok (.iconst 0, 1) := by decide +kernel
theorem dX11_isInOnly_35 : decode cX11_isInOnly 35 = .ok (.ireturn, 1) := by decide +kernel
theorem dX11_barOf_0 : decode cX11_barOf 0 = .ok (.iconst 0, 1) := by decide +kernel
theorem dX11_barOf_1 : decode cX11_barOf 1 = .ok (.istore 4, 2) := by decide +kernel
theorem dX11_barOf_3 : decode cX11_barOf 3 = .ok (.iload 4, 2) := by decide +kernel
theorem dX11_barOf_5 : decode cX11_barOf 5 = .ok (.aload_n 0, 1) := by decide +kernel
theorem dX11_barOf_6 : decode cX11_barOf 6 = .ok (.iload_n 1, 1) := by decide +kernel
theorem dX11_barOf_7 : decode cX11_barOf 7 = .ok (.bipush 20, 2) := by decide +kernel
theorem dX11_barOf_9 : decode cX11_barOf 9 = .ok (.invokevirtual 85, 3) := by decide +kernel
theorem dX11_barOf_12 : decode cX11_barOf 12 = .ok (.if_icmp .ge 46, 3) := by decide +kernel
theorem dX11_barOf_15 : decode cX11_barOf 15 = .ok (.aload_n 0, 1) := by decide +kernel
theorem dX11_barOf_16 : decode cX11_barOf 16 = .ok (.iload_n 1, 1) := by decide +kernel
theorem dX11_barOf_17 : decode cX11_barOf 17 = .ok (.bipush 21, 2) := by decide +kernel
theorem dX11_barOf_19 : decode cX11_barOf 19 = .ok (.iconst 2, 1) := by decide +kernel
theorem dX11_barOf_20 : decode cX11_barOf 20 = .ok (.iload 4, 2) := by decide +kernel
theorem dX11_barOf_22 : decode cX11_barOf 22 = .ok (.imul, 1) := by decide +kernel
theorem dX11_barOf_23 : decode cX11_barOf 23 = .ok (.iadd, 1) := by decide +kernel
theorem dX11_barOf_24 : decode cX11_barOf 24 = .ok (.invokevirtual 85, 3) := by decide +kernel
theorem dX11_barOf_27 : decode cX11_barOf 27 = .ok (.iload_n 2, 1) := by decide +kernel
theorem dX11_barOf_28 : decode cX11_barOf 28 = .ok (.if_icmp .ne 24, 3) := by decide +kernel
theorem dX11_barOf_31 : decode cX11_barOf 31 = .ok (.aload_n 0, 1) := by decide +kernel
theorem dX11_barOf_32 : decode cX11_barOf 32 = .ok (.iload_n 1, 1) := by decide +kernel
theorem dX11_barOf_33 : decode cX11_barOf 33 = .ok (.bipush 21, 2) := by decide +kernel
theorem dX11_barOf_35 : decode cX11_barOf 35 = .ok (.iconst 2, 1) := by decide +kernel
theorem dX11_barOf_36 : decode cX11_barOf 36 = .ok (.iload 4, 2) := by decide +kernel
theorem dX11_barOf_38 : decode cX11_barOf 38 = .ok (.imul, 1) := by decide +kernel
theorem dX11_barOf_39 : decode cX11_barOf 39 = .ok (.iadd, 1) := by decide +kernel
theorem dX11_barOf_40 : decode cX11_barOf 40 = .ok (.iconst 1, 1) := by decide +kernel
theorem dX11_barOf_41 : decode cX11_barOf 41 = .ok (.iadd, 1) := by decide +kernel
theorem dX11_barOf_42 : decode cX11_barOf 42 = .ok (.invokevirtual 85, 3) := by decide +kernel
theorem dX11_barOf_45 : decode cX11_barOf 45 = .ok (.iload_n 3, 1) := by decide +kernel
theorem dX11_barOf_46 : decode cX11_barOf 46 = .ok (.if_icmp .ne 6, 3) := by decide +kernel
theorem dX11_barOf_49 : decode cX11_barOf 49 = .ok (.iload 4, 2) := by decide +kernel
theorem dX11_barOf_51 : decode cX11_barOf 51 = .ok (.ireturn, 1) := by decide +kernel
theorem dX11_barOf_52 : decode cX11_barOf 52 = .ok (.iinc 4 1, 3) := by decide +kernel
theorem dX11_barOf_55 : decode cX11_barOf 55 = .ok (.goto (-52), 3) := by decide +kernel
theorem dX11_barOf_58 : decode cX11_barOf 58 = .ok (.iconst (-1), 1) := by decide +kernel
theorem dX11_barOf_59 : decode cX11_barOf 59 = .ok (.ireturn, 1) := by decide +kernel
theorem dX11_forbids_0 : decode cX11_forbids 0 = .ok (.iload_n 2, 1) := by decide +kernel
theorem dX11_forbids_1 : decode cX11_forbids 1 = .ok (.iload_n 3, 1) := by decide +kernel
theorem dX11_forbids_2 : decode cX11_forbids 2 = .ok (.invokestatic 89, 3) := by decide +kernel
theorem dX11_forbids_5 : decode cX11_forbids 5 = .ok (.aload_n 0, 1) := by decide +kernel
theorem dX11_forbids_6 : decode cX11_forbids 6 = .ok (.iload_n 1, 1) := by decide +kernel
theorem dX11_forbids_7 : decode cX11_forbids 7 = .ok (.bipush 19, 2) := by decide +kernel
theorem dX11_forbids_9 : decode cX11_forbids 9 = .ok (.invokevirtual 85, 3) := by decide +kernel
theorem dX11_forbids_12 : decode cX11_forbids 12 = .ok (.if_icmp .le 5, 3) := by decide +kernel
theorem dX11_forbids_15 : decode cX11_forbids 15 = .ok (.iconst 4, 1) := by decide +kernel
theorem dX11_forbids_16 : decode cX11_forbids 16 = .ok (.ireturn, 1) := by decide +kernel
theorem dX11_forbids_17 : decode cX11_forbids 17 = .ok (.iload_n 2, 1) := by decide +kernel
theorem dX11_forbids_18 : decode cX11_forbids 18 = .ok (.ifCond .le 11, 3) := by decide +kernel
theorem dX11_forbids_21 : decode cX11_forbids 21 = .ok (.iload_n 3, 1) := by decide +kernel
theorem dX11_forbids_22 : decode cX11_forbids 22 = .ok (.ifCond .le 7, 3) := by decide +kernel
theorem dX11_forbids_25 : decode cX11_forbids 25 = .ok (.iconst 1, 1) := by decide +kernel
theorem dX11_forbids_26 : decode cX11_forbids 26 = .ok (.goto 4, 3) := by decide +kernel
theorem dX11_forbids_29 : decode cX11_forbids 29 = .ok (.iconst 0, 1) := by decide +kernel
theorem dX11_forbids_30 : decode cX11_forbids 30 = .ok (.istore 4, 2) := by decide +kernel
theorem dX11_forbids_32 : decode cX11_forbids 32 = .ok (.iload 4, 2) := by decide +kernel
theorem dX11_forbids_34 : decode cX11_forbids 34 = .ok (.ifCond .ne 26, 3) := by decide +kernel
theorem dX11_forbids_37 : decode cX11_forbids 37 = .ok (.aload_n 0, 1) := by decide +kernel
theorem dX11_forbids_38 : decode cX11_forbids 38 = .ok (.iload_n 1, 1) := by decide +kernel
theorem dX11_forbids_39 : decode cX11_forbids 39 = .ok (.bipush 9, 2) := by decide +kernel
theorem dX11_forbids_41 : decode cX11_forbids 41 = .ok (.invokevirtual 85, 3) := by decide +kernel
theorem dX11_forbids_44 : decode cX11_forbids 44 = .ok (.ifCond .le 16, 3) := by decide +kernel
theorem dX11_forbids_47 : decode cX11_forbids 47 = .ok (.aload_n 0, 1) := by decide +kernel
theorem dX11_forbids_48 : decode cX11_forbids 48 = .ok (.iload_n 1, 1) := by decide +kernel
theorem dX11_forbids_49 : decode cX11_forbids 49 = .ok (.iload_n 2, 1) := by decide +kernel
theorem dX11_forbids_50 : decode cX11_forbids 50 = .ok (.iload_n 3, 1) := by decide +kernel
theorem dX11_forbids_51 : decode cX11_forbids 51 = .ok (.iadd, 1) := by decide +kernel
theorem dX11_forbids_52 : decode cX11_forbids 52 = .ok (.invokevirtual 94, 3) := by decide +kernel
theorem dX11_forbids_55 : decode cX11_forbids 55 = .ok (.ifCond .ne 5, 3) := by decide +kernel
theorem dX11_forbids_58 : decode cX11_forbids 58 = .ok (.iconst 5, 1) := by decide +kernel
theorem dX11_forbids_59 : decode cX11_forbids 59 = .ok (.ireturn, 1) := by decide +kernel
theorem dX11_forbids_60 : decode cX11_forbids 60 = .ok (.iload 4, 2) := by decide +kernel
theorem dX11_forbids_62 : decode cX11_forbids 62 = .ok (.ifCond .eq 22, 3) := by decide +kernel
theorem dX11_forbids_65 : decode cX11_forbids 65 = .ok (.iload_n 2, 1) := by decide +kernel
theorem dX11_forbids_66 : decode cX11_forbids 66 = .ok (.iload_n 3, 1) := by decide +kernel
theorem dX11_forbids_67 : decode cX11_forbids 67 = .ok (.isub, 1) := by decide +kernel
theorem dX11_forbids_68 : decode cX11_forbids 68 = .ok (.invokestatic 98, 3) := by decide +kernel
theorem dX11_forbids_71 : decode cX11_forbids 71 = .ok (.aload_n 0, 1) := by decide +kernel
theorem dX11_forbids_72 : decode cX11_forbids 72 = .ok (.iload_n 1, 1) := by decide +kernel
theorem dX11_forbids_73 : decode cX11_forbids 73 = .ok (.bipush 18, 2) := by decide +kernel
theorem dX11_forbids_75 : decode cX11_forbids 75 = .ok (.invokevirtual 85, 3) := by decide +kernel
theorem dX11_forbids_78 : decode cX11_forbids 78 = .ok (.if_icmp .lt 6, 3) := by decide +kernel
theorem dX11_forbids_81 : decode cX11_forbids 81 = .ok (.bipush 6, 2) := by decide +kernel
theorem dX11_forbids_83 : decode cX11_forbids 83 = .ok (.ireturn, 1) := by decide +kernel
theorem dX11_forbids_84 : decode cX11_forbids 84 = .ok (.aload_n 0, 1) := by decide +kernel
theorem dX11_forbids_85 : decode cX11_forbids 85 = .ok (.iload_n 1, 1) := by decide +kernel
theorem dX11_forbids_86 : decode cX11_forbids 86 = .ok (.iload_n 2, 1) := by decide +kernel
theorem dX11_forbids_87 : decode cX11_forbids 87 = .ok (.iload_n 3, 1) := by decide +kernel
theorem dX11_forbids_88 : decode cX11_forbids 88 = .ok (.invokevirtual 102, 3) := by decide +kernel
theorem dX11_forbids_91 : decode cX11_forbids 91 = .ok (.iconst (-1), 1) := by decide +kernel
theorem dX11_forbids_92 : decode cX11_forbids 92 = .ok (.if_icmp .ne 7, 3) := by decide +kernel
theorem dX11_forbids_95 : decode cX11_forbids 95 = .ok (.iconst 0, 1) := by decide +kernel
theorem dX11_forbids_96 : decode cX11_forbids 96 = .ok (.goto 5, 3) := by decide +kernel
theorem dX11_forbids_99 : decode cX11_forbids 99 = .ok (.bipush 7, 2) := by decide +kernel
theorem dX11_forbids_101 : decode cX11_forbids 101 = .ok (.ireturn, 1) := by decide +kernel
theorem dX11_allowsMove_0 : decode cX11_allowsMove 0 = .ok (.iload_n 2, 1) := by decide +kernel
theorem dX11_allowsMove_1 : decode cX11_allowsMove 1 = .ok (.iload_n 3, 1) := by decide +kernel
theorem dX11_allowsMove_2 : decode cX11_allowsMove 2 = .ok (.iadd, 1) := by decide +kernel
theorem dX11_allowsMove_3 : decode cX11_allowsMove 3 = .ok (.ifCond .le 17, 3) := by decide +kernel
theorem dX11_allowsMove_6 : decode cX11_allowsMove 6 = .ok (.aload_n 0, 1) := by decide +kernel
theorem dX11_allowsMove_7 : decode cX11_allowsMove 7 = .ok (.iload_n 1, 1) := by decide +kernel
theorem dX11_allowsMove_8 : decode cX11_allowsMove 8 = .ok (.iload_n 2, 1) := by decide +kernel
theorem dX11_allowsMove_9 : decode cX11_allowsMove 9 = .ok (.iload_n 3, 1) := by decide +kernel
theorem dX11_allowsMove_10 : decode cX11_allowsMove 10 = .ok (.invokevirtual 106, 3) := by decide +kernel
theorem dX11_allowsMove_13 : decode cX11_allowsMove 13 = .ok (.ifCond .ne 7, 3) := by decide +kernel
theorem dX11_allowsMove_16 : decode cX11_allowsMove 16 = .ok (.iconst 1, 1) := by decide +kernel
theorem dX11_allowsMove_17 : decode cX11_allowsMove 17 = .ok (.goto 4, 3) := by decide +kernel
theorem dX11_allowsMove_20 : decode cX11_allowsMove 20 = .ok (.iconst 0, 1) := by decide +kernel
theorem dX11_allowsMove_21 : decode cX11_allowsMove 21 = .ok (.ireturn, 1) := by decide +kernel
theorem dX11_isFree_0 : decode cX11_isFree 0 = .ok (.aload_n 0, 1) := by decide +kernel
theorem dX11_isFree_1 : decode cX11_isFree 1 = .ok (.iload_n 1, 1) := by decide +kernel
theorem dX11_isFree_2 : decode cX11_isFree 2 = .ok (.bipush 9, 2) := by decide +kernel
theorem dX11_isFree_4 : decode cX11_isFree 4 = .ok (.invokevirtual 85, 3) := by decide +kernel
theorem dX11_isFree_7 : decode cX11_isFree 7 = .ok (.ifCond .ne 39, 3) := by decide +kernel
theorem dX11_isFree_10 : decode cX11_isFree 10 = .ok (.aload_n 0, 1) := by decide +kernel
theorem dX11_isFree_11 : decode cX11_isFree 11 = .ok (.iload_n 1, 1) := by decide +kernel
theorem dX11_isFree_12 : decode cX11_isFree 12 = .ok (.bipush 19, 2) := by decide +kernel
theorem dX11_isFree_14 : decode cX11_isFree 14 = .ok (.invokevirtual 85, 3) := by decide +kernel
theorem dX11_isFree_17 : decode cX11_isFree 17 = .ok (.bipush 40, 2) := by decide +kernel
theorem dX11_isFree_19 : decode cX11_isFree 19 = .ok (.if_icmp .ne 27, 3) := by decide +kernel
theorem dX11_isFree_22 : decode cX11_isFree 22 = .ok (.aload_n 0, 1) := by decide +kernel
theorem dX11_isFree_23 : decode cX11_isFree 23 = .ok (.iload_n 1, 1) := by decide +kernel
theorem dX11_isFree_24 : decode cX11_isFree 24 = .ok (.bipush 18, 2) := by decide +kernel
theorem dX11_isFree_26 : decode cX11_isFree 26 = .ok (.invokevirtual 85, 3) := by decide +kernel
theorem dX11_isFree_29 : decode cX11_isFree 29 = .ok (.ifCond .le 17, 3) := by decide +kernel
theorem dX11_isFree_32 : decode cX11_isFree 32 = .ok (.aload_n 0, 1) := by decide +kernel
theorem dX11_isFree_33 : decode cX11_isFree 33 = .ok (.iload_n 1, 1) := by decide +kernel
theorem dX11_isFree_34 : decode cX11_isFree 34 = .ok (.bipush 20, 2) := by decide +kernel
theorem dX11_isFree_36 : decode cX11_isFree 36 = .ok (.invokevirtual 85, 3) := by decide +kernel
theorem dX11_isFree_39 : decode cX11_isFree 39 = .ok (.ifCond .ne 7, 3) := by decide +kernel
theorem dX11_isFree_42 : decode cX11_isFree 42 = .ok (.iconst 1, 1) := by decide +kernel
theorem dX11_isFree_43 : decode cX11_isFree 43 = .ok (.goto 4, 3) := by decide +kernel
theorem dX11_isFree_46 : decode cX11_isFree 46 = .ok (.iconst 0, 1) := by decide +kernel
theorem dX11_isFree_47 : decode cX11_isFree 47 = .ok (.ireturn, 1) := by decide +kernel
theorem dX11_laysAllowed_0 : decode cX11_laysAllowed 0 = .ok (.iconst 0, 1) := by decide +kernel
theorem dX11_laysAllowed_1 : decode cX11_laysAllowed 1 = .ok (.istore_n 2, 1) := by decide +kernel
theorem dX11_laysAllowed_2 : decode cX11_laysAllowed 2 = .ok (.iload_n 2, 1) := by decide +kernel
theorem dX11_laysAllowed_3 : decode cX11_laysAllowed 3 = .ok (.sipush 1681, 3) := by decide +kernel
theorem dX11_laysAllowed_6 : decode cX11_laysAllowed 6 = .ok (.if_icmp .ge 28, 3) := by decide +kernel
theorem dX11_laysAllowed_9 : decode cX11_laysAllowed 9 = .ok (.aload_n 0, 1) := by decide +kernel
theorem dX11_laysAllowed_10 : decode cX11_laysAllowed 10 = .ok (.getfield 25, 3) := by decide +kernel
theorem dX11_laysAllowed_13 : decode cX11_laysAllowed 13 = .ok (.iload_n 2, 1) := by decide +kernel
theorem dX11_laysAllowed_14 : decode cX11_laysAllowed 14 = .ok (.aload_n 0, 1) := by decide +kernel
theorem dX11_laysAllowed_15 : decode cX11_laysAllowed 15 = .ok (.iload_n 1, 1) := by decide +kernel
theorem dX11_laysAllowed_16 : decode cX11_laysAllowed 16 = .ok (.iload_n 2, 1) := by decide +kernel
theorem dX11_laysAllowed_17 : decode cX11_laysAllowed 17 = .ok (.bipush 41, 2) := by decide +kernel
theorem dX11_laysAllowed_19 : decode cX11_laysAllowed 19 = .ok (.idiv, 1) := by decide +kernel
theorem dX11_laysAllowed_20 : decode cX11_laysAllowed 20 = .ok (.iload_n 2, 1) := by decide +kernel
theorem dX11_laysAllowed_21 : decode cX11_laysAllowed 21 = .ok (.bipush 41, 2) := by decide +kernel
theorem dX11_laysAllowed_23 : decode cX11_laysAllowed 23 = .ok (.irem, 1) := by decide +kernel
theorem dX11_laysAllowed_24 : decode cX11_laysAllowed 24 = .ok (.invokevirtual 109, 3) := by decide +kernel
theorem dX11_laysAllowed_27 : decode cX11_laysAllowed 27 = .ok (.bastore, 1) := by decide +kernel
theorem dX11_laysAllowed_28 : decode cX11_laysAllowed 28 = .ok (.iinc 2 1, 3) := by decide +kernel
theorem dX11_laysAllowed_31 : decode cX11_laysAllowed 31 = .ok (.goto (-29), 3) := by decide +kernel
theorem dX11_laysAllowed_34 : decode cX11_laysAllowed 34 = .ok (.return_, 1) := by decide +kernel
theorem dX11_marksMoves_0 : decode cX11_marksMoves 0 = .ok (.aload_n 0, 1) := by decide +kernel
theorem dX11_marksMoves_1 : decode cX11_marksMoves 1 = .ok (.dup, 1) := by decide +kernel
theorem dX11_marksMoves_2 : decode cX11_marksMoves 2 = .ok (.getfield 112, 3) := by decide +kernel
theorem dX11_marksMoves_5 : decode cX11_marksMoves 5 = .ok (.iconst 1, 1) := by decide +kernel
theorem dX11_marksMoves_6 : decode cX11_marksMoves 6 = .ok (.iadd, 1) := by decide +kernel
theorem dX11_marksMoves_7 : decode cX11_marksMoves 7 = .ok (.putfield 112, 3) := by decide +kernel
theorem dX11_marksMoves_10 : decode cX11_marksMoves 10 = .ok (.iconst 0, 1) := by decide +kernel
theorem dX11_marksMoves_11 : decode cX11_marksMoves 11 = .ok (.istore_n 3, 1) := by decide +kernel
theorem dX11_marksMoves_12 : decode cX11_marksMoves 12 = .ok (.iload_n 3, 1) := by decide +kernel
theorem dX11_marksMoves_13 : decode cX11_marksMoves 13 = .ok (.iload_n 1, 1) := by decide +kernel
theorem dX11_marksMoves_14 : decode cX11_marksMoves 14 = .ok (.if_icmp .gt 64, 3) := by decide +kernel
theorem dX11_marksMoves_17 : decode cX11_marksMoves 17 = .ok (.iconst 0, 1) := by decide +kernel
theorem dX11_marksMoves_18 : decode cX11_marksMoves 18 = .ok (.istore 4, 2) := by decide +kernel
theorem dX11_marksMoves_20 : decode cX11_marksMoves 20 = .ok (.iload 4, 2) := by decide +kernel
theorem dX11_marksMoves_22 : decode cX11_marksMoves 22 = .ok (.iload_n 2, 1) := by decide +kernel
theorem dX11_marksMoves_23 : decode cX11_marksMoves 23 = .ok (.if_icmp .gt 49, 3) := by decide +kernel
theorem dX11_marksMoves_26 : decode cX11_marksMoves 26 = .ok (.aload_n 0, 1) := by decide +kernel
theorem dX11_marksMoves_27 : decode cX11_marksMoves 27 = .ok (.getfield 25, 3) := by decide +kernel
theorem dX11_marksMoves_30 : decode cX11_marksMoves 30 = .ok (.bipush 41, 2) := by decide +kernel
theorem dX11_marksMoves_32 : decode cX11_marksMoves 32 = .ok (.iload_n 3, 1) := by decide +kernel
theorem dX11_marksMoves_33 : decode cX11_marksMoves 33 = .ok (.imul, 1) := by decide +kernel
theorem dX11_marksMoves_34 : decode cX11_marksMoves 34 = .ok (.iload 4, 2) := by decide +kernel
theorem dX11_marksMoves_36 : decode cX11_marksMoves 36 = .ok (.iadd, 1) := by decide +kernel
theorem dX11_marksMoves_37 : decode cX11_marksMoves 37 = .ok (.baload, 1) := by decide +kernel
theorem dX11_marksMoves_38 : decode cX11_marksMoves 38 = .ok (.ifCond .eq 28, 3) := by decide +kernel
theorem dX11_marksMoves_41 : decode cX11_marksMoves 41 = .ok (.aload_n 0, 1) := by decide +kernel
theorem dX11_marksMoves_42 : decode cX11_marksMoves 42 = .ok (.getfield 35, 3) := by decide +kernel
theorem dX11_marksMoves_45 : decode cX11_marksMoves 45 = .ok (.aload_n 0, 1) := by decide +kernel
theorem dX11_marksMoves_46 : decode cX11_marksMoves 46 = .ok (.getfield 29, 3) := by decide +kernel
theorem dX11_marksMoves_49 : decode cX11_marksMoves 49 = .ok (.bipush 41, 2) := by decide +kernel
theorem dX11_marksMoves_51 : decode cX11_marksMoves 51 = .ok (.iload_n 1, 1) := by decide +kernel
theorem dX11_marksMoves_52 : decode cX11_marksMoves 52 = .ok (.iload_n 3, 1) := by decide +kernel
theorem dX11_marksMoves_53 : decode cX11_marksMoves 53 = .ok (.isub, 1) := by decide +kernel
theorem dX11_marksMoves_54 : decode cX11_marksMoves 54 = .ok (.imul, 1) := by decide +kernel
theorem dX11_marksMoves_55 : decode cX11_marksMoves 55 = .ok (.iload_n 2, 1) := by decide +kernel
theorem dX11_marksMoves_56 : decode cX11_marksMoves 56 = .ok (.iadd, 1) := by decide +kernel
theorem dX11_marksMoves_57 : decode cX11_marksMoves 57 = .ok (.iload 4, 2) := by decide +kernel
theorem dX11_marksMoves_59 : decode cX11_marksMoves 59 = .ok (.isub, 1) := by decide +kernel
theorem dX11_marksMoves_60 : decode cX11_marksMoves 60 = .ok (.iaload, 1) := by decide +kernel
theorem dX11_marksMoves_61 : decode cX11_marksMoves 61 = .ok (.aload_n 0, 1) := by decide +kernel
theorem dX11_marksMoves_62 : decode cX11_marksMoves 62 = .ok (.getfield 112, 3) := by decide +kernel
theorem dX11_marksMoves_65 : decode cX11_marksMoves 65 = .ok (.iastore, 1) := by decide +kernel
theorem dX11_marksMoves_66 : decode cX11_marksMoves 66 = .ok (.iinc 4 1, 3) := by decide +kernel
theorem dX11_marksMoves_69 : decode cX11_marksMoves 69 = .ok (.goto (-49), 3) := by decide +kernel
theorem dX11_marksMoves_72 : decode cX11_marksMoves 72 = .ok (.iinc 3 1, 3) := by decide +kernel
theorem dX11_marksMoves_75 : decode cX11_marksMoves 75 = .ok (.goto (-63), 3) := by decide +kernel
theorem dX11_marksMoves_78 : decode cX11_marksMoves 78 = .ok (.return_, 1) := by decide +kernel
theorem dX11_leastUnmarked_0 : decode cX11_leastUnmarked 0 = .ok (.iconst 0, 1) := by decide +kernel
theorem dX11_leastUnmarked_1 : decode cX11_leastUnmarked 1 = .ok (.istore_n 1, 1) := by decide +kernel
theorem dX11_leastUnmarked_2 : decode cX11_leastUnmarked 2 = .ok (.aload_n 0, 1) := by decide +kernel
theorem dX11_leastUnmarked_3 : decode cX11_leastUnmarked 3 = .ok (.getfield 35, 3) := by decide +kernel
theorem dX11_leastUnmarked_6 : decode cX11_leastUnmarked 6 = .ok (.iload_n 1, 1) := by decide +kernel
theorem dX11_leastUnmarked_7 : decode cX11_leastUnmarked 7 = .ok (.iaload, 1) := by decide +kernel
theorem dX11_leastUnmarked_8 : decode cX11_leastUnmarked 8 = .ok (.aload_n 0, 1) := by decide +kernel
theorem dX11_leastUnmarked_9 : decode cX11_leastUnmarked 9 = .ok (.getfield 112, 3) := by decide +kernel
theorem dX11_leastUnmarked_12 : decode cX11_leastUnmarked 12 = .ok (.if_icmp .ne 9, 3) := by decide +kernel
theorem dX11_leastUnmarked_15 : decode cX11_leastUnmarked 15 = .ok (.iinc 1 1, 3) := by decide +kernel
theorem dX11_leastUnmarked_18 : decode cX11_leastUnmarked 18 = .ok (.goto (-16), 3) := by decide +kernel
theorem dX11_leastUnmarked_21 : decode cX11_leastUnmarked 21 = .ok (.iload_n 1, 1) := by decide +kernel
theorem dX11_leastUnmarked_22 : decode cX11_leastUnmarked 22 = .ok (.ireturn, 1) := by decide +kernel
theorem dX11_spanAt_0 : decode cX11_spanAt 0 = .ok (.aload_n 0, 1) := by decide +kernel
theorem dX11_spanAt_1 : decode cX11_spanAt 1 = .ok (.getfield 29, 3) := by decide +kernel
theorem dX11_spanAt_4 : decode cX11_spanAt 4 = .ok (.bipush 41, 2) := by decide +kernel
theorem dX11_spanAt_6 : decode cX11_spanAt 6 = .ok (.iload_n 1, 1) := by decide +kernel
theorem dX11_spanAt_7 : decode cX11_spanAt 7 = .ok (.imul, 1) := by decide +kernel
theorem dX11_spanAt_8 : decode cX11_spanAt 8 = .ok (.iload_n 2, 1) := by decide +kernel
theorem dX11_spanAt_9 : decode cX11_spanAt 9 = .ok (.iadd, 1) := by decide +kernel
theorem dX11_spanAt_10 : decode cX11_spanAt 10 = .ok (.iaload, 1) := by decide +kernel
theorem dX11_spanAt_11 : decode cX11_spanAt 11 = .ok (.ifCond .ne 7, 3) := by decide +kernel
theorem dX11_spanAt_14 : decode cX11_spanAt 14 = .ok (.iconst 1, 1) := by decide +kernel
theorem dX11_spanAt_15 : decode cX11_spanAt 15 = .ok (.goto 4, 3) := by decide +kernel
theorem dX11_spanAt_18 : decode cX11_spanAt 18 = .ok (.iconst 0, 1) := by decide +kernel
theorem dX11_spanAt_19 : decode cX11_spanAt 19 = .ok (.istore_n 3, 1) := by decide +kernel
theorem dX11_spanAt_20 : decode cX11_spanAt 20 = .ok (.iconst (-1), 1) := by decide +kernel
theorem dX11_spanAt_21 : decode cX11_spanAt 21 = .ok (.istore 4, 2) := by decide +kernel
theorem dX11_spanAt_23 : decode cX11_spanAt 23 = .ok (.iconst 0, 1) := by decide +kernel
theorem dX11_spanAt_24 : decode cX11_spanAt 24 = .ok (.istore 5, 2) := by decide +kernel
theorem dX11_spanAt_26 : decode cX11_spanAt 26 = .ok (.iload 5, 2) := by decide +kernel
theorem dX11_spanAt_28 : decode cX11_spanAt 28 = .ok (.iload_n 1, 1) := by decide +kernel
theorem dX11_spanAt_29 : decode cX11_spanAt 29 = .ok (.if_icmp .gt 116, 3) := by decide +kernel
theorem dX11_spanAt_32 : decode cX11_spanAt 32 = .ok (.iconst 0, 1) := by decide +kernel
theorem dX11_spanAt_33 : decode cX11_spanAt 33 = .ok (.istore 6, 2) := by decide +kernel
theorem dX11_spanAt_35 : decode cX11_spanAt 35 = .ok (.iload 6, 2) := by decide +kernel
theorem dX11_spanAt_37 : decode cX11_spanAt 37 = .ok (.iload_n 2, 1) := by decide +kernel
theorem dX11_spanAt_38 : decode cX11_spanAt 38 = .ok (.if_icmp .gt 101, 3) := by decide +kernel
theorem dX11_spanAt_41 : decode cX11_spanAt 41 = .ok (.aload_n 0, 1) := by decide +kernel
theorem dX11_spanAt_42 : decode cX11_spanAt 42 = .ok (.getfield 25, 3) := by decide +kernel
theorem dX11_spanAt_45 : decode cX11_spanAt 45 = .ok (.bipush 41, 2) := by decide +kernel
theorem dX11_spanAt_47 : decode cX11_spanAt 47 = .ok (.iload 5, 2) := by decide +kernel
theorem dX11_spanAt_49 : decode cX11_spanAt 49 = .ok (.imul, 1) := by decide +kernel
theorem dX11_spanAt_50 : decode cX11_spanAt 50 = .ok (.iload 6, 2) := by decide +kernel
theorem dX11_spanAt_52 : decode cX11_spanAt 52 = .ok (.iadd, 1) := by decide +kernel
theorem dX11_spanAt_53 : decode cX11_spanAt 53 = .ok (.baload, 1) := by decide +kernel
theorem dX11_spanAt_54 : decode cX11_spanAt 54 = .ok (.ifCond .ne 6, 3) := by decide +kernel
theorem dX11_spanAt_57 : decode cX11_spanAt 57 = .ok (.goto 76, 3) := by decide +kernel
theorem dX11_spanAt_60 : decode cX11_spanAt 60 = .ok (.bipush 41, 2) := by decide +kernel
theorem dX11_spanAt_62 : decode cX11_spanAt 62 = .ok (.iload_n 1, 1) := by decide +kernel
theorem dX11_spanAt_63 : decode cX11_spanAt 63 = .ok (.iload 5, 2) := by decide +kernel
theorem dX11_spanAt_65 : decode cX11_spanAt 65 = .ok (.isub, 1) := by decide +kernel
theorem dX11_spanAt_66 : decode cX11_spanAt 66 = .ok (.imul, 1) := by decide +kernel
theorem dX11_spanAt_67 : decode cX11_spanAt 67 = .ok (.iload_n 2, 1) := by decide +kernel
theorem dX11_spanAt_68 : decode cX11_spanAt 68 = .ok (.iadd, 1) := by decide +kernel
theorem dX11_spanAt_69 : decode cX11_spanAt 69 = .ok (.iload 6, 2) := by decide +kernel
theorem dX11_spanAt_71 : decode cX11_spanAt 71 = .ok (.isub, 1) := by decide +kernel
theorem dX11_spanAt_72 : decode cX11_spanAt 72 = .ok (.istore 7, 2) := by decide +kernel
theorem dX11_spanAt_74 : decode cX11_spanAt 74 = .ok (.iload_n 3, 1) := by decide +kernel
theorem dX11_spanAt_75 : decode cX11_spanAt 75 = .ok (.ifCond .eq 17, 3) := by decide +kernel
theorem dX11_spanAt_78 : decode cX11_spanAt 78 = .ok (.iload 4, 2) := by decide +kernel
theorem dX11_spanAt_80 : decode cX11_spanAt 80 = .ok (.aload_n 0, 1) := by decide +kernel
theorem dX11_spanAt_81 : decode cX11_spanAt 81 = .ok (.getfield 32, 3) := by decide +kernel
theorem dX11_spanAt_84 : decode cX11_spanAt 84 = .ok (.iload 7, 2) := by decide +kernel
theorem dX11_spanAt_86 : decode cX11_spanAt 86 = .ok (.iaload, 1) := by decide +kernel
theorem dX11_spanAt_87 : decode cX11_spanAt 87 = .ok (.invokestatic 89, 3) := by decide +kernel
theorem dX11_spanAt_90 : decode cX11_spanAt 90 = .ok (.istore 4, 2) := by decide +kernel
theorem dX11_spanAt_92 : decode cX11_spanAt 92 = .ok (.iload_n 3, 1) := by decide +kernel
theorem dX11_spanAt_93 : decode cX11_spanAt 93 = .ok (.ifCond .ne 40, 3) := by decide +kernel
theorem dX11_spanAt_96 : decode cX11_spanAt 96 = .ok (.aload_n 0, 1) := by decide +kernel
theorem dX11_spanAt_97 : decode cX11_spanAt 97 = .ok (.getfield 29, 3) := by decide +kernel
theorem dX11_spanAt_100 : decode cX11_spanAt 100 = .ok (.iload 7, 2) := by decide +kernel
theorem dX11_spanAt_102 : decode cX11_spanAt 102 = .ok (.iaload, 1) := by decide +kernel
theorem dX11_spanAt_103 : decode cX11_spanAt 103 = .ok (.ifCond .ne 30, 3) := by decide +kernel
theorem dX11_spanAt_106 : decode cX11_spanAt 106 = .ok (.iload 4, 2) := by decide +kernel
theorem dX11_spanAt_108 : decode cX11_spanAt 108 = .ok (.iconst (-1), 1) := by decide +kernel
theorem dX11_spanAt_109 : decode cX11_spanAt 109 = .ok (.if_icmp .eq 15, 3) := by decide +kernel
theorem dX11_spanAt_112 : decode cX11_spanAt 112 = .ok (.aload_n 0, 1) := by decide +kernel
theorem dX11_spanAt_113 : decode cX11_spanAt 113 = .ok (.getfield 32, 3) := by decide +kernel
theorem dX11_spanAt_116 : decode cX11_spanAt 116 = .ok (.iload 7, 2) := by decide +kernel
theorem dX11_spanAt_118 : decode cX11_spanAt 118 = .ok (.iaload, 1) := by decide +kernel
theorem dX11_spanAt_119 : decode cX11_spanAt 119 = .ok (.iload 4, 2) := by decide +kernel
theorem dX11_spanAt_121 : decode cX11_spanAt 121 = .ok (.if_icmp .ge 12, 3) := by decide +kernel
theorem dX11_spanAt_124 : decode cX11_spanAt 124 = .ok (.aload_n 0, 1) := by decide +kernel
theorem dX11_spanAt_125 : decode cX11_spanAt 125 = .ok (.getfield 32, 3) := by decide +kernel
theorem dX11_spanAt_128 : decode cX11_spanAt 128 = .ok (.iload 7, 2) := by decide +kernel
theorem dX11_spanAt_130 : decode cX11_spanAt 130 = .ok (.iaload, 1) := by decide +kernel
theorem dX11_spanAt_131 : decode cX11_spanAt 131 = .ok (.istore 4, 2) := by decide +kernel
theorem dX11_spanAt_133 : decode cX11_spanAt 133 = .ok (.iinc 6 1, 3) := by decide +kernel
theorem dX11_spanAt_136 : decode cX11_spanAt 136 = .ok (.goto (-101), 3) := by decide +kernel
theorem dX11_spanAt_139 : decode cX11_spanAt 139 = .ok (.iinc 5 1, 3) := by decide +kernel
theorem dX11_spanAt_142 : decode cX11_spanAt 142 = .ok (.goto (-116), 3) := by decide +kernel
theorem dX11_spanAt_145 : decode cX11_spanAt 145 = .ok (.iload 4, 2) := by decide +kernel
theorem dX11_spanAt_147 : decode cX11_spanAt 147 = .ok (.iconst 1, 1) := by decide +kernel
theorem dX11_spanAt_148 : decode cX11_spanAt 148 = .ok (.iadd, 1) := by decide +kernel
theorem dX11_spanAt_149 : decode cX11_spanAt 149 = .ok (.ireturn, 1) := by decide +kernel
theorem dX11_laysValues_0 : decode cX11_laysValues 0 = .ok (.iconst 0, 1) := by decide +kernel
theorem dX11_laysValues_1 : decode cX11_laysValues 1 = .ok (.istore_n 1, 1) := by decide +kernel
theorem dX11_laysValues_2 : decode cX11_laysValues 2 = .ok (.iload_n 1, 1) := by decide +kernel
theorem dX11_laysValues_3 : decode cX11_laysValues 3 = .ok (.bipush 40, 2) := by decide +kernel
theorem dX11_laysValues_5 : decode cX11_laysValues 5 = .ok (.if_icmp .gt 44, 3) := by decide +kernel
theorem dX11_laysValues_8 : decode cX11_laysValues 8 = .ok (.iconst 0, 1) := by decide +kernel
theorem dX11_laysValues_9 : decode cX11_laysValues 9 = .ok (.istore_n 2, 1) := by decide +kernel
theorem dX11_laysValues_10 : decode cX11_laysValues 10 = .ok (.iload_n 2, 1) := by decide +kernel
theorem dX11_laysValues_11 : decode cX11_laysValues 11 = .ok (.bipush 40, 2) := by decide +kernel
theorem dX11_laysValues_13 : decode cX11_laysValues 13 = .ok (.if_icmp .gt 30, 3) := by decide +kernel
theorem dX11_laysValues_16 : decode cX11_laysValues 16 = .ok (.aload_n 0, 1) := by decide +kernel
theorem dX11_laysValues_17 : decode cX11_laysValues 17 = .ok (.iload_n 1, 1) := by decide +kernel
theorem dX11_laysValues_18 : decode cX11_laysValues 18 = .ok (.iload_n 2, 1) := by decide +kernel
theorem dX11_laysValues_19 : decode cX11_laysValues 19 = .ok (.invokevirtual 115, 3) := by decide +kernel
theorem dX11_laysValues_22 : decode cX11_laysValues 22 = .ok (.aload_n 0, 1) := by decide +kernel
theorem dX11_laysValues_23 : decode cX11_laysValues 23 = .ok (.getfield 29, 3) := by decide +kernel
theorem dX11_laysValues_26 : decode cX11_laysValues 26 = .ok (.bipush 41, 2) := by decide +kernel
theorem dX11_laysValues_28 : decode cX11_laysValues 28 = .ok (.iload_n 1, 1) := by decide +kernel
theorem dX11_laysValues_29 : decode cX11_laysValues 29 = .ok (.imul, 1) := by decide +kernel
theorem dX11_laysValues_30 : decode cX11_laysValues 30 = .ok (.iload_n 2, 1) := by decide +kernel
theorem dX11_laysValues_31 : decode cX11_laysValues 31 = .ok (.iadd, 1) := by decide +kernel
theorem dX11_laysValues_32 : decode cX11_laysValues 32 = .ok (.aload_n 0, 1) := by decide +kernel
theorem dX11_laysValues_33 : decode cX11_laysValues 33 = .ok (.invokevirtual 119, 3) := by decide +kernel
theorem dX11_laysValues_36 : decode cX11_laysValues 36 = .ok (.iastore, 1) := by decide +kernel
theorem dX11_laysValues_37 : decode cX11_laysValues 37 = .ok (.iinc 2 1, 3) := by decide +kernel
theorem dX11_laysValues_40 : decode cX11_laysValues 40 = .ok (.goto (-30), 3) := by decide +kernel
theorem dX11_laysValues_43 : decode cX11_laysValues 43 = .ok (.iinc 1 1, 3) := by decide +kernel
theorem dX11_laysValues_46 : decode cX11_laysValues 46 = .ok (.goto (-44), 3) := by decide +kernel
theorem dX11_laysValues_49 : decode cX11_laysValues 49 = .ok (.return_, 1) := by decide +kernel
theorem dX11_laysSpans_0 : decode cX11_laysSpans 0 = .ok (.iconst 0, 1) := by decide +kernel
theorem dX11_laysSpans_1 : decode cX11_laysSpans 1 = .ok (.istore_n 1, 1) := by decide +kernel
theorem dX11_laysSpans_2 : decode cX11_laysSpans 2 = .ok (.iload_n 1, 1) := by decide +kernel
theorem dX11_laysSpans_3 : decode cX11_laysSpans 3 = .ok (.sipush 1681, 3) := by decide +kernel
theorem dX11_laysSpans_6 : decode cX11_laysSpans 6 = .ok (.if_icmp .ge 27, 3) := by decide +kernel
theorem dX11_laysSpans_9 : decode cX11_laysSpans 9 = .ok (.aload_n 0, 1) := by decide +kernel
theorem dX11_laysSpans_10 : decode cX11_laysSpans 10 = .ok (.getfield 32, 3) := by decide +kernel
theorem dX11_laysSpans_13 : decode cX11_laysSpans 13 = .ok (.iload_n 1, 1) := by decide +kernel
theorem dX11_laysSpans_14 : decode cX11_laysSpans 14 = .ok (.aload_n 0, 1) := by decide +kernel
theorem dX11_laysSpans_15 : decode cX11_laysSpans 15 = .ok (.iload_n 1, 1) := by decide +kernel
theorem dX11_laysSpans_16 : decode cX11_laysSpans 16 = .ok (.bipush 41, 2) := by decide +kernel
theorem dX11_laysSpans_18 : decode cX11_laysSpans 18 = .ok (.idiv, 1) := by decide +kernel
theorem dX11_laysSpans_19 : decode cX11_laysSpans 19 = .ok (.iload_n 1, 1) := by decide +kernel
theorem dX11_laysSpans_20 : decode cX11_laysSpans 20 = .ok (.bipush 41, 2) := by decide +kernel
theorem dX11_laysSpans_22 : decode cX11_laysSpans 22 = .ok (.irem, 1) := by decide +kernel
theorem dX11_laysSpans_23 : decode cX11_laysSpans 23 = .ok (.invokevirtual 123, 3) := by decide +kernel
theorem dX11_laysSpans_26 : decode cX11_laysSpans 26 = .ok (.iastore, 1) := by decide +kernel
theorem dX11_laysSpans_27 : decode cX11_laysSpans 27 = .ok (.iinc 1 1, 3) := by decide +kernel
theorem dX11_laysSpans_30 : decode cX11_laysSpans 30 = .ok (.goto (-28), 3) := by decide +kernel
theorem dX11_laysSpans_33 : decode cX11_laysSpans 33 = .ok (.return_, 1) := by decide +kernel
theorem dX11_losingNow_0 : decode cX11_losingNow 0 = .ok (.iconst 0, 1) := by decide +kernel
theorem dX11_losingNow_1 : decode cX11_losingNow 1 = .ok (.istore_n 1, 1) := by decide +kernel
theorem dX11_losingNow_2 : decode cX11_losingNow 2 = .ok (.iconst 0, 1) := by decide +kernel
theorem dX11_losingNow_3 : decode cX11_losingNow 3 = .ok (.istore_n 2, 1) := by decide +kernel
theorem dX11_losingNow_4 : decode cX11_losingNow 4 = .ok (.iload_n 2, 1) := by decide +kernel
theorem dX11_losingNow_5 : decode cX11_losingNow 5 = .ok (.sipush 1681, 3) := by decide +kernel
theorem dX11_losingNow_8 : decode cX11_losingNow 8 = .ok (.if_icmp .ge 26, 3) := by decide +kernel
theorem dX11_losingNow_11 : decode cX11_losingNow 11 = .ok (.iload_n 1, 1) := by decide +kernel
theorem dX11_losingNow_12 : decode cX11_losingNow 12 = .ok (.aload_n 0, 1) := by decide +kernel
theorem dX11_losingNow_13 : decode cX11_losingNow 13 = .ok (.getfield 29, 3) := by decide +kernel
theorem dX11_losingNow_16 : decode cX11_losingNow 16 = .ok (.iload_n 2, 1) := by decide +kernel
theorem dX11_losingNow_17 : decode cX11_losingNow 17 = .ok (.iaload, 1) := by decide +kernel
theorem dX11_losingNow_18 : decode cX11_losingNow 18 = .ok (.ifCond .ne 7, 3) := by decide +kernel
theorem dX11_losingNow_21 : decode cX11_losingNow 21 = .ok (.iconst 1, 1) := by decide +kernel
theorem dX11_losingNow_22 : decode cX11_losingNow 22 = .ok (.goto 4, 3) := by decide +kernel
theorem dX11_losingNow_25 : decode cX11_losingNow 25 = .ok (.iconst 0, 1) := by decide +kernel
theorem dX11_losingNow_26 : decode cX11_losingNow 26 = .ok (.iadd, 1) := by decide +kernel
theorem dX11_losingNow_27 : decode cX11_losingNow 27 = .ok (.istore_n 1, 1) := by decide +kernel
theorem dX11_losingNow_28 : decode cX11_losingNow 28 = .ok (.iinc 2 1, 3) := by decide +kernel
theorem dX11_losingNow_31 : decode cX11_losingNow 31 = .ok (.goto (-27), 3) := by decide +kernel
theorem dX11_losingNow_34 : decode cX11_losingNow 34 = .ok (.iload_n 1, 1) := by decide +kernel
theorem dX11_losingNow_35 : decode cX11_losingNow 35 = .ok (.ireturn, 1) := by decide +kernel
theorem dX11_isLaid_0 : decode cX11_isLaid 0 = .ok (.aload_n 0, 1) := by decide +kernel
theorem dX11_isLaid_1 : decode cX11_isLaid 1 = .ok (.getfield 126, 3) := by decide +kernel
theorem dX11_isLaid_4 : decode cX11_isLaid 4 = .ok (.iload_n 1, 1) := by decide +kernel
theorem dX11_isLaid_5 : decode cX11_isLaid 5 = .ok (.ishr, 1) := by decide +kernel
theorem dX11_isLaid_6 : decode cX11_isLaid 6 = .ok (.iconst 1, 1) := by decide +kernel
theorem dX11_isLaid_7 : decode cX11_isLaid 7 = .ok (.iand, 1) := by decide +kernel
theorem dX11_isLaid_8 : decode cX11_isLaid 8 = .ok (.ifCond .ne 5, 3) := by decide +kernel
theorem dX11_isLaid_11 : decode cX11_isLaid 11 = .ok (.iconst 0, 1) := by decide +kernel
theorem dX11_isLaid_12 : decode cX11_isLaid 12 = .ok (.ireturn, 1) := by decide +kernel
theorem dX11_isLaid_13 : decode cX11_isLaid 13 = .ok (.iconst 0, 1) := by decide +kernel
theorem dX11_isLaid_14 : decode cX11_isLaid 14 = .ok (.istore_n 2, 1) := by decide +kernel
theorem dX11_isLaid_15 : decode cX11_isLaid 15 = .ok (.iload_n 2, 1) := by decide +kernel
theorem dX11_isLaid_16 : decode cX11_isLaid 16 = .ok (.bipush 20, 2) := by decide +kernel
theorem dX11_isLaid_18 : decode cX11_isLaid 18 = .ok (.if_icmp .ge 34, 3) := by decide +kernel
theorem dX11_isLaid_21 : decode cX11_isLaid 21 = .ok (.aload_n 0, 1) := by decide +kernel
theorem dX11_isLaid_22 : decode cX11_isLaid 22 = .ok (.getfield 44, 3) := by decide +kernel
theorem dX11_isLaid_25 : decode cX11_isLaid 25 = .ok (.bipush 20, 2) := by decide +kernel
theorem dX11_isLaid_27 : decode cX11_isLaid 27 = .ok (.iload_n 1, 1) := by decide +kernel
theorem dX11_isLaid_28 : decode cX11_isLaid 28 = .ok (.imul, 1) := by decide +kernel
theorem dX11_isLaid_29 : decode cX11_isLaid 29 = .ok (.iload_n 2, 1) := by decide +kernel
theorem dX11_isLaid_30 : decode cX11_isLaid 30 = .ok (.iadd, 1) := by decide +kernel
theorem dX11_isLaid_31 : decode cX11_isLaid 31 = .ok (.iaload, 1) := by decide +kernel
theorem dX11_isLaid_32 : decode cX11_isLaid 32 = .ok (.aload_n 0, 1) := by decide +kernel
theorem dX11_isLaid_33 : decode cX11_isLaid 33 = .ok (.iload_n 1, 1) := by decide +kernel
theorem dX11_isLaid_34 : decode cX11_isLaid 34 = .ok (.bipush 9, 2) := by decide +kernel
theorem dX11_isLaid_36 : decode cX11_isLaid 36 = .ok (.iload_n 2, 1) := by decide +kernel
theorem dX11_isLaid_37 : decode cX11_isLaid 37 = .ok (.iadd, 1) := by decide +kernel
theorem dX11_isLaid_38 : decode cX11_isLaid 38 = .ok (.invokevirtual 85, 3) := by decide +kernel
theorem dX11_isLaid_41 : decode cX11_isLaid 41 = .ok (.if_icmp .eq 5, 3) := by decide +kernel
theorem dX11_isLaid_44 : decode cX11_isLaid 44 = .ok (.iconst 0, 1) := by decide +kernel
theorem dX11_isLaid_45 : decode cX11_isLaid 45 = .ok (.ireturn, 1) := by decide +kernel
theorem dX11_isLaid_46 : decode cX11_isLaid 46 = .ok (.iinc 2 1, 3) := by decide +kernel
theorem dX11_isLaid_49 : decode cX11_isLaid 49 = .ok (.goto (-34), 3) := by decide +kernel
theorem dX11_isLaid_52 : decode cX11_isLaid 52 = .ok (.iconst 1, 1) := by decide +kernel
theorem dX11_isLaid_53 : decode cX11_isLaid 53 = .ok (.ireturn, 1) := by decide +kernel
theorem dX11_lays_0 : decode cX11_lays 0 = .ok (.aload_n 0, 1) := by decide +kernel
theorem dX11_lays_1 : decode cX11_lays 1 = .ok (.iload_n 1, 1) := by decide +kernel
theorem dX11_lays_2 : decode cX11_lays 2 = .ok (.invokevirtual 129, 3) := by decide +kernel
theorem dX11_lays_5 : decode cX11_lays 5 = .ok (.ifCond .eq 4, 3) := by decide +kernel
theorem dX11_lays_8 : decode cX11_lays 8 = .ok (.return_, 1) := by decide +kernel
theorem dX11_lays_9 : decode cX11_lays 9 = .ok (.aload_n 0, 1) := by decide +kernel
theorem dX11_lays_10 : decode cX11_lays 10 = .ok (.dup, 1) := by decide +kernel
theorem dX11_lays_11 : decode cX11_lays 11 = .ok (.getfield 126, 3) := by decide +kernel
theorem dX11_lays_14 : decode cX11_lays 14 = .ok (.iconst 1, 1) := by decide +kernel
theorem dX11_lays_15 : decode cX11_lays 15 = .ok (.iload_n 1, 1) := by decide +kernel
theorem dX11_lays_16 : decode cX11_lays 16 = .ok (.ishl, 1) := by decide +kernel
theorem dX11_lays_17 : decode cX11_lays 17 = .ok (.ior, 1) := by decide +kernel
theorem dX11_lays_18 : decode cX11_lays 18 = .ok (.putfield 126, 3) := by decide +kernel
theorem dX11_lays_21 : decode cX11_lays 21 = .ok (.iconst 0, 1) := by decide +kernel
theorem dX11_lays_22 : decode cX11_lays 22 = .ok (.istore_n 2, 1) := by decide +kernel
theorem dX11_lays_23 : decode cX11_lays 23 = .ok (.iload_n 2, 1) := by decide +kernel
theorem dX11_lays_24 : decode cX11_lays 24 = .ok (.bipush 20, 2) := by decide +kernel
theorem dX11_lays_26 : decode cX11_lays 26 = .ok (.if_icmp .ge 29, 3) := by decide +kernel
theorem dX11_lays_29 : decode cX11_lays 29 = .ok (.aload_n 0, 1) := by decide +kernel
theorem dX11_lays_30 : decode cX11_lays 30 = .ok (.getfield 44, 3) := by decide +kernel
theorem dX11_lays_33 : decode cX11_lays 33 = .ok (.bipush 20, 2) := by decide +kernel
theorem dX11_lays_35 : decode cX11_lays 35 = .ok (.iload_n 1, 1) := by decide +kernel
theorem dX11_lays_36 : decode cX11_lays 36 = .ok (.imul, 1) := by decide +kernel
theorem dX11_lays_37 : decode cX11_lays 37 = .ok (.iload_n 2, 1) := by decide +kernel
theorem dX11_lays_38 : decode cX11_lays 38 = .ok (.iadd, 1) := by decide +kernel
theorem dX11_lays_39 : decode cX11_lays 39 = .ok (.aload_n 0, 1) := by decide +kernel
theorem dX11_lays_40 : decode cX11_lays 40 = .ok (.iload_n 1, 1) := by decide +kernel
theorem dX11_lays_41 : decode cX11_lays 41 = .ok (.bipush 9, 2) := by decide +kernel
theorem dX11_lays_43 : decode cX11_lays 43 = .ok (.iload_n 2, 1) := by decide +kernel
theorem dX11_lays_44 : decode cX11_lays 44 = .ok (.iadd, 1) := by decide +kernel
theorem dX11_lays_45 : decode cX11_lays 45 = .ok (.invokevirtual 85, 3) := by decide +kernel
theorem dX11_lays_48 : decode cX11_lays 48 = .ok (.iastore, 1) := by decide +kernel
theorem dX11_lays_49 : decode cX11_lays 49 = .ok (.iinc 2 1, 3) := by decide +kernel
theorem dX11_lays_52 : decode cX11_lays 52 = .ok (.goto (-29), 3) := by decide +kernel
theorem dX11_lays_55 : decode cX11_lays 55 = .ok (.aload_n 0, 1) := by decide +kernel
theorem dX11_lays_56 : decode cX11_lays 56 = .ok (.iload_n 1, 1) := by decide +kernel
theorem dX11_lays_57 : decode cX11_lays 57 = .ok (.invokevirtual 133, 3) := by decide +kernel
theorem dX11_lays_60 : decode cX11_lays 60 = .ok (.aload_n 0, 1) := by decide +kernel
theorem dX11_lays_61 : decode cX11_lays 61 = .ok (.invokevirtual 137, 3) := by decide +kernel
theorem dX11_lays_64 : decode cX11_lays 64 = .ok (.aload_n 0, 1) := by decide +kernel
theorem dX11_lays_65 : decode cX11_lays 65 = .ok (.invokevirtual 140, 3) := by decide +kernel
theorem dX11_lays_68 : decode cX11_lays 68 = .ok (.iconst 0, 1) := by decide +kernel
theorem dX11_lays_69 : decode cX11_lays 69 = .ok (.istore_n 2, 1) := by decide +kernel
theorem dX11_lays_70 : decode cX11_lays 70 = .ok (.iload_n 2, 1) := by decide +kernel
theorem dX11_lays_71 : decode cX11_lays 71 = .ok (.sipush 1681, 3) := by decide +kernel
theorem dX11_lays_74 : decode cX11_lays 74 = .ok (.if_icmp .ge 45, 3) := by decide +kernel
theorem dX11_lays_77 : decode cX11_lays 77 = .ok (.aload_n 0, 1) := by decide +kernel
theorem dX11_lays_78 : decode cX11_lays 78 = .ok (.getfield 38, 3) := by decide +kernel
theorem dX11_lays_81 : decode cX11_lays 81 = .ok (.sipush 1681, 3) := by decide +kernel
theorem dX11_lays_84 : decode cX11_lays 84 = .ok (.iload_n 1, 1) := by decide +kernel
theorem dX11_lays_85 : decode cX11_lays 85 = .ok (.imul, 1) := by decide +kernel
theorem dX11_lays_86 : decode cX11_lays 86 = .ok (.iload_n 2, 1) := by decide +kernel
theorem dX11_lays_87 : decode cX11_lays 87 = .ok (.iadd, 1) := by decide +kernel
theorem dX11_lays_88 : decode cX11_lays 88 = .ok (.aload_n 0, 1) := by decide +kernel
theorem dX11_lays_89 : decode cX11_lays 89 = .ok (.getfield 29, 3) := by decide +kernel
theorem dX11_lays_92 : decode cX11_lays 92 = .ok (.iload_n 2, 1) := by decide +kernel
theorem dX11_lays_93 : decode cX11_lays 93 = .ok (.iaload, 1) := by decide +kernel
theorem dX11_lays_94 : decode cX11_lays 94 = .ok (.iastore, 1) := by decide +kernel
theorem dX11_lays_95 : decode cX11_lays 95 = .ok (.aload_n 0, 1) := by decide +kernel
theorem dX11_lays_96 : decode cX11_lays 96 = .ok (.getfield 41, 3) := by decide +kernel
theorem dX11_lays_99 : decode cX11_lays 99 = .ok (.sipush 1681, 3) := by decide +kernel
theorem dX11_lays_102 : decode cX11_lays 102 = .ok (.iload_n 1, 1) := by decide +kernel
theorem dX11_lays_103 : decode cX11_lays 103 = .ok (.imul, 1) := by decide +kernel
theorem dX11_lays_104 : decode cX11_lays 104 = .ok (.iload_n 2, 1) := by decide +kernel
theorem dX11_lays_105 : decode cX11_lays 105 = .ok (.iadd, 1) := by decide +kernel
theorem dX11_lays_106 : decode cX11_lays 106 = .ok (.aload_n 0, 1) := by decide +kernel
theorem dX11_lays_107 : decode cX11_lays 107 = .ok (.getfield 32, 3) := by decide +kernel
theorem dX11_lays_110 : decode cX11_lays 110 = .ok (.iload_n 2, 1) := by decide +kernel
theorem dX11_lays_111 : decode cX11_lays 111 = .ok (.iaload, 1) := by decide +kernel
theorem dX11_lays_112 : decode cX11_lays 112 = .ok (.iastore, 1) := by decide +kernel
theorem dX11_lays_113 : decode cX11_lays 113 = .ok (.iinc 2 1, 3) := by decide +kernel
theorem dX11_lays_116 : decode cX11_lays 116 = .ok (.goto (-46), 3) := by decide +kernel
theorem dX11_lays_119 : decode cX11_lays 119 = .ok (.return_, 1) := by decide +kernel
theorem dX11_laysAll_0 : decode cX11_laysAll 0 = .ok (.iconst 0, 1) := by decide +kernel
theorem dX11_laysAll_1 : decode cX11_laysAll 1 = .ok (.istore_n 1, 1) := by decide +kernel
theorem dX11_laysAll_2 : decode cX11_laysAll 2 = .ok (.iload_n 1, 1) := by decide +kernel
theorem dX11_laysAll_3 : decode cX11_laysAll 3 = .ok (.aload_n 0, 1) := by decide +kernel
theorem dX11_laysAll_4 : decode cX11_laysAll 4 = .ok (.getfield 7, 3) := by decide +kernel
theorem dX11_laysAll_7 : decode cX11_laysAll 7 = .ok (.iconst 0, 1) := by decide +kernel
theorem dX11_laysAll_8 : decode cX11_laysAll 8 = .ok (.iaload, 1) := by decide +kernel
theorem dX11_laysAll_9 : decode cX11_laysAll 9 = .ok (.if_icmp .ge 14, 3) := by decide +kernel
theorem dX11_laysAll_12 : decode cX11_laysAll 12 = .ok (.aload_n 0, 1) := by decide +kernel
theorem dX11_laysAll_13 : decode cX11_laysAll 13 = .ok (.iload_n 1, 1) := by decide +kernel
theorem dX11_laysAll_14 : decode cX11_laysAll 14 = .ok (.invokevirtual 143, 3) := by decide +kernel
theorem dX11_laysAll_17 : decode cX11_laysAll 17 = .ok (.iinc 1 1, 3) := by decide +kernel
theorem dX11_laysAll_20 : decode cX11_laysAll 20 = .ok (.goto (-18), 3) := by decide +kernel
theorem dX11_laysAll_23 : decode cX11_laysAll 23 = .ok (.return_, 1) := by decide +kernel
theorem dX11_valueAt_0 : decode cX11_valueAt 0 = .ok (.aload_n 0, 1) := by decide +kernel
theorem dX11_valueAt_1 : decode cX11_valueAt 1 = .ok (.getfield 38, 3) := by decide +kernel
theorem dX11_valueAt_4 : decode cX11_valueAt 4 = .ok (.sipush 1681, 3) := by decide +kernel
theorem dX11_valueAt_7 : decode cX11_valueAt 7 = .ok (.iload_n 1, 1) := by decide +kernel
theorem dX11_valueAt_8 : decode cX11_valueAt 8 = .ok (.imul, 1) := by decide +kernel
theorem dX11_valueAt_9 : decode cX11_valueAt 9 = .ok (.bipush 41, 2) := by decide +kernel
theorem dX11_valueAt_11 : decode cX11_valueAt 11 = .ok (.iload_n 2, 1) := by decide +kernel
theorem dX11_valueAt_12 : decode cX11_valueAt 12 = .ok (.imul, 1) := by decide +kernel
theorem dX11_valueAt_13 : decode cX11_valueAt 13 = .ok (.iadd, 1) := by decide +kernel
theorem dX11_valueAt_14 : decode cX11_valueAt 14 = .ok (.iload_n 3, 1) := by decide +kernel
theorem dX11_valueAt_15 : decode cX11_valueAt 15 = .ok (.iadd, 1) := by decide +kernel
theorem dX11_valueAt_16 : decode cX11_valueAt 16 = .ok (.iaload, 1) := by decide +kernel
theorem dX11_valueAt_17 : decode cX11_valueAt 17 = .ok (.ireturn, 1) := by decide +kernel
theorem dX11_root_0 : decode cX11_root 0 = .ok (.lconst 0, 1) := by decide +kernel
theorem dX11_root_1 : decode cX11_root 1 = .ok (.lstore_n 2, 1) := by decide +kernel
theorem dX11_root_2 : decode cX11_root 2 = .ok (.bipush 31, 2) := by decide +kernel
theorem dX11_root_4 : decode cX11_root 4 = .ok (.istore 4, 2) := by decide +kernel
theorem dX11_root_6 : decode cX11_root 6 = .ok (.iload 4, 2) := by decide +kernel
theorem dX11_root_8 : decode cX11_root 8 = .ok (.ifCond .lt 30, 3) := by decide +kernel
theorem dX11_root_11 : decode cX11_root 11 = .ok (.lload_n 2, 1) := by decide +kernel
theorem dX11_root_12 : decode cX11_root 12 = .ok (.lconst 1, 1) := by decide +kernel
theorem dX11_root_13 : decode cX11_root 13 = .ok (.iload 4, 2) := by decide +kernel
theorem dX11_root_15 : decode cX11_root 15 = .ok (.lshl, 1) := by decide +kernel
theorem dX11_root_16 : decode cX11_root 16 = .ok (.lor, 1) := by decide +kernel
theorem dX11_root_17 : decode cX11_root 17 = .ok (.lstore 5, 2) := by decide +kernel
theorem dX11_root_19 : decode cX11_root 19 = .ok (.lload 5, 2) := by decide +kernel
theorem dX11_root_21 : decode cX11_root 21 = .ok (.lload_n 0, 1) := by decide +kernel
theorem dX11_root_22 : decode cX11_root 22 = .ok (.lload 5, 2) := by decide +kernel
theorem dX11_root_24 : decode cX11_root 24 = .ok (.ldiv, 1) := by decide +kernel
theorem dX11_root_25 : decode cX11_root 25 = .ok (.lcmp, 1) := by decide +kernel
theorem dX11_root_26 : decode cX11_root 26 = .ok (.ifCond .gt 6, 3) := by decide +kernel
theorem dX11_root_29 : decode cX11_root 29 = .ok (.lload 5, 2) := by decide +kernel
theorem dX11_root_31 : decode cX11_root 31 = .ok (.lstore_n 2, 1) := by decide +kernel
theorem dX11_root_32 : decode cX11_root 32 = .ok (.iinc 4 (-1), 3) := by decide +kernel
theorem dX11_root_35 : decode cX11_root 35 = .ok (.goto (-29), 3) := by decide +kernel
theorem dX11_root_38 : decode cX11_root 38 = .ok (.lload_n 2, 1) := by decide +kernel
theorem dX11_root_39 : decode cX11_root 39 = .ok (.lreturn, 1) := by decide +kernel
theorem dX11_goldenA_0 : decode cX11_goldenA 0 = .ok (.lload_n 1, 1) := by decide +kernel
theorem dX11_goldenA_1 : decode cX11_goldenA 1 = .ok (.lconst 0, 1) := by decide +kernel
theorem dX11_goldenA_2 : decode cX11_goldenA 2 = .ok (.lcmp, 1) := by decide +kernel
theorem dX11_goldenA_3 : decode cX11_goldenA 3 = .ok (.ifCond .ne 7, 3) := by decide +kernel
theorem dX11_goldenA_6 : decode cX11_goldenA 6 = .ok (.lconst 0, 1) := by decide +kernel
theorem dX11_goldenA_7 : decode cX11_goldenA 7 = .ok (.goto 29, 3) := by decide +kernel
theorem dX11_goldenA_10 : decode cX11_goldenA 10 = .ok (.lload_n 1, 1) := by decide +kernel
theorem dX11_goldenA_11 : decode cX11_goldenA 11 = .ok (.iconst 2, 1) := by decide +kernel
theorem dX11_goldenA_12 : decode cX11_goldenA 12 = .ok (.iload_n 0, 1) := by decide +kernel
theorem dX11_goldenA_13 : decode cX11_goldenA 13 = .ok (.isub, 1) := by decide +kernel
theorem dX11_goldenA_14 : decode cX11_goldenA 14 = .ok (.i2l, 1) := by decide +kernel
theorem dX11_goldenA_15 : decode cX11_goldenA 15 = .ok (.lmul, 1) := by decide +kernel
theorem dX11_goldenA_16 : decode cX11_goldenA 16 = .ok (.lload_n 1, 1) := by decide +kernel
theorem dX11_goldenA_17 : decode cX11_goldenA 17 = .ok (.lload_n 1, 1) := by decide +kernel
theorem dX11_goldenA_18 : decode cX11_goldenA 18 = .ok (.lmul, 1) := by decide +kernel
theorem dX11_goldenA_19 : decode cX11_goldenA 19 = .ok (.iload_n 0, 1) := by decide +kernel
theorem dX11_goldenA_20 : decode cX11_goldenA 20 = .ok (.iload_n 0, 1) := by decide +kernel
theorem dX11_goldenA_21 : decode cX11_goldenA 21 = .ok (.imul, 1) := by decide +kernel
theorem dX11_goldenA_22 : decode cX11_goldenA 22 = .ok (.iconst 4, 1) := by decide +kernel
theorem dX11_goldenA_23 : decode cX11_goldenA 23 = .ok (.iadd, 1) := by decide +kernel
theorem dX11_goldenA_24 : decode cX11_goldenA 24 = .ok (.i2l, 1) := by decide +kernel
theorem dX11_goldenA_25 : decode cX11_goldenA 25 = .ok (.lmul, 1) := by decide +kernel
theorem dX11_goldenA_26 : decode cX11_goldenA 26 = .ok (.invokestatic 146, 3) := by decide +kernel
theorem dX11_goldenA_29 : decode cX11_goldenA 29 = .ok (.ladd, 1) := by decide +kernel
theorem dX11_goldenA_30 : decode cX11_goldenA 30 = .ok (.ldc2_w 150, 3) := by decide +kernel
theorem dX11_goldenA_33 : decode cX11_goldenA 33 = .ok (.invokestatic 152, 3) := by decide +kernel
theorem dX11_goldenA_36 : decode cX11_goldenA 36 = .ok (.lreturn, 1) := by decide +kernel
theorem dX11_goldenB_0 : decode cX11_goldenB 0 = .ok (.iload_n 0, 1) := by decide +kernel
theorem dX11_goldenB_1 : decode cX11_goldenB 1 = .ok (.lload_n 1, 1) := by decide +kernel
theorem dX11_goldenB_2 : decode cX11_goldenB 2 = .ok (.invokestatic 156, 3) := by decide +kernel
theorem dX11_goldenB_5 : decode cX11_goldenB 5 = .ok (.iload_n 0, 1) := by decide +kernel
theorem dX11_goldenB_6 : decode cX11_goldenB 6 = .ok (.i2l, 1) := by decide +kernel
theorem dX11_goldenB_7 : decode cX11_goldenB 7 = .ok (.lload_n 1, 1) := by decide +kernel
theorem dX11_goldenB_8 : decode cX11_goldenB 8 = .ok (.lmul, 1) := by decide +kernel
theorem dX11_goldenB_9 : decode cX11_goldenB 9 = .ok (.ladd, 1) := by decide +kernel
theorem dX11_goldenB_10 : decode cX11_goldenB 10 = .ok (.lreturn, 1) := by decide +kernel
theorem dX11_lastIndex_0 : decode cX11_lastIndex 0 = .ok (.lconst 0, 1) := by decide +kernel
theorem dX11_lastIndex_1 : decode cX11_lastIndex 1 = .ok (.lstore 4, 2) := by decide +kernel
theorem dX11_lastIndex_3 : decode cX11_lastIndex 3 = .ok (.lload_n 1, 1) := by decide +kernel
theorem dX11_lastIndex_4 : decode cX11_lastIndex 4 = .ok (.lstore 6, 2) := by decide +kernel
theorem dX11_lastIndex_6 : decode cX11_lastIndex 6 = .ok (.lload 4, 2) := by decide +kernel
theorem dX11_lastIndex_8 : decode cX11_lastIndex 8 = .ok (.lload 6, 2) := by decide +kernel
theorem dX11_lastIndex_10 : decode cX11_lastIndex 10 = .ok (.lcmp, 1) := by decide +kernel
theorem dX11_lastIndex_11 : decode cX11_lastIndex 11 = .ok (.ifCond .ge 60, 3) := by decide +kernel
theorem dX11_lastIndex_14 : decode cX11_lastIndex 14 = .ok (.lload 4, 2) := by decide +kernel
theorem dX11_lastIndex_16 : decode cX11_lastIndex 16 = .ok (.lload 6, 2) := by decide +kernel
theorem dX11_lastIndex_18 : decode cX11_lastIndex 18 = .ok (.ladd, 1) := by decide +kernel
theorem dX11_lastIndex_19 : decode cX11_lastIndex 19 = .ok (.lconst 1, 1) := by decide +kernel
theorem dX11_lastIndex_20 : decode cX11_lastIndex 20 = .ok (.ladd, 1) := by decide +kernel
theorem dX11_lastIndex_21 : decode cX11_lastIndex 21 = .ok (.ldc2_w 150, 3) := by decide +kernel
theorem dX11_lastIndex_24 : decode cX11_lastIndex 24 = .ok (.ldiv, 1) := by decide +kernel
theorem dX11_lastIndex_25 : decode cX11_lastIndex 25 = .ok (.lstore 8, 2) := by decide +kernel
theorem dX11_lastIndex_27 : decode cX11_lastIndex 27 = .ok (.iload_n 3, 1) := by decide +kernel
theorem dX11_lastIndex_28 : decode cX11_lastIndex 28 = .ok (.ifCond .eq 12, 3) := by decide +kernel
theorem dX11_lastIndex_31 : decode cX11_lastIndex 31 = .ok (.iload_n 0, 1) := by decide +kernel
theorem dX11_lastIndex_32 : decode cX11_lastIndex 32 = .ok (.lload 8, 2) := by decide +kernel
theorem dX11_lastIndex_34 : decode cX11_lastIndex 34 = .ok (.invokestatic 160, 3) := by decide +kernel
theorem dX11_lastIndex_37 : decode cX11_lastIndex 37 = .ok (.goto 9, 3) := by decide +kernel
theorem dX11_lastIndex_40 : decode cX11_lastIndex 40 = .ok (.iload_n 0, 1) := by decide +kernel
theorem dX11_lastIndex_41 : decode cX11_lastIndex 41 = .ok (.lload 8, 2) := by decide +kernel
theorem dX11_lastIndex_43 : decode cX11_lastIndex 43 = .ok (.invokestatic 156, 3) := by decide +kernel
theorem dX11_lastIndex_46 : decode cX11_lastIndex 46 = .ok (.lstore 10, 2) := by decide +kernel
theorem dX11_lastIndex_48 : decode cX11_lastIndex 48 = .ok (.lload 10, 2) := by decide +kernel
theorem dX11_lastIndex_50 : decode cX11_lastIndex 50 = .ok (.lload_n 1, 1) := by decide +kernel
theorem dX11_lastIndex_51 : decode cX11_lastIndex 51 = .ok (.lcmp, 1) := by decide +kernel
theorem dX11_lastIndex_52 : decode cX11_lastIndex 52 = .ok (.ifCond .gt 10, 3) := by decide +kernel
theorem dX11_lastIndex_55 : decode cX11_lastIndex 55 = .ok (.lload 8, 2) := by decide +kernel
theorem dX11_lastIndex_57 : decode cX11_lastIndex 57 = .ok (.lstore 4, 2) := by decide +kernel
theorem dX11_lastIndex_59 : decode cX11_lastIndex 59 = .ok (.goto 9, 3) := by decide +kernel
theorem dX11_lastIndex_62 : decode cX11_lastIndex 62 = .ok (.lload 8, 2) := by decide +kernel
theorem dX11_lastIndex_64 : decode cX11_lastIndex 64 = .ok (.lconst 1, 1) := by decide +kernel
theorem dX11_lastIndex_65 : decode cX11_lastIndex 65 = .ok (.lsub, 1) := by decide +kernel
theorem dX11_lastIndex_66 : decode cX11_lastIndex 66 = .ok (.lstore 6, 2) := by decide +kernel
theorem dX11_lastIndex_68 : decode cX11_lastIndex 68 = .ok (.goto (-62), 3) := by decide +kernel
theorem dX11_lastIndex_71 : decode cX11_lastIndex 71 = .ok (.lload 4, 2) := by decide +kernel
theorem dX11_lastIndex_73 : decode cX11_lastIndex 73 = .ok (.lreturn, 1) := by decide +kernel
theorem dX11_isInRow_0 : decode cX11_isInRow 0 = .ok (.iload_n 0, 1) := by decide +kernel
theorem dX11_isInRow_1 : decode cX11_isInRow 1 = .ok (.lload_n 1, 1) := by decide +kernel
theorem dX11_isInRow_2 : decode cX11_isInRow 2 = .ok (.iload_n 3, 1) := by decide +kernel
theorem dX11_isInRow_3 : decode cX11_isInRow 3 = .ok (.invokestatic 163, 3) := by decide +kernel
theorem dX11_isInRow_6 : decode cX11_isInRow 6 = .ok (.lstore 4, 2) := by decide +kernel
theorem dX11_isInRow_8 : decode cX11_isInRow 8 = .ok (.iload_n 3, 1) := by decide +kernel
theorem dX11_isInRow_9 : decode cX11_isInRow 9 = .ok (.ifCond .eq 12, 3) := by decide +kernel
theorem dX11_isInRow_12 : decode cX11_isInRow 12 = .ok (.iload_n 0, 1) := by decide +kernel
theorem dX11_isInRow_13 : decode cX11_isInRow 13 = .ok (.lload 4, 2) := by decide +kernel
theorem dX11_isInRow_15 : decode cX11_isInRow 15 = .ok (.invokestatic 160, 3) := by decide +kernel
theorem dX11_isInRow_18 : decode cX11_isInRow 18 = .ok (.goto 9, 3) := by decide +kernel
theorem dX11_isInRow_21 : decode cX11_isInRow 21 = .ok (.iload_n 0, 1) := by decide +kernel
theorem dX11_isInRow_22 : decode cX11_isInRow 22 = .ok (.lload 4, 2) := by decide +kernel
theorem dX11_isInRow_24 : decode cX11_isInRow 24 = .ok (.invokestatic 156, 3) := by decide +kernel
theorem dX11_isInRow_27 : decode cX11_isInRow 27 = .ok (.lload_n 1, 1) := by decide +kernel
theorem dX11_isInRow_28 : decode cX11_isInRow 28 = .ok (.lcmp, 1) := by decide +kernel
theorem dX11_isInRow_29 : decode cX11_isInRow 29 = .ok (.ifCond .ne 7, 3) := by decide +kernel
theorem dX11_isInRow_32 : decode cX11_isInRow 32 = .ok (.iconst 1, 1) := by decide +kernel
theorem dX11_isInRow_33 : decode cX11_isInRow 33 = .ok (.goto 4, 3) := by decide +kernel
theorem dX11_isInRow_36 : decode cX11_isInRow 36 = .ok (.iconst 0, 1) := by decide +kernel
theorem dX11_isInRow_37 : decode cX11_isInRow 37 = .ok (.ireturn, 1) := by decide +kernel
theorem dX11_isGolden_0 : decode cX11_isGolden 0 = .ok (.iload_n 2, 1) := by decide +kernel
theorem dX11_isGolden_1 : decode cX11_isGolden 1 = .ok (.iload_n 3, 1) := by decide +kernel
theorem dX11_isGolden_2 : decode cX11_isGolden 2 = .ok (.invokestatic 167, 3) := by decide +kernel
theorem dX11_isGolden_5 : decode cX11_isGolden 5 = .ok (.istore 4, 2) := by decide +kernel
theorem dX11_isGolden_7 : decode cX11_isGolden 7 = .ok (.iload_n 2, 1) := by decide +kernel
theorem dX11_isGolden_8 : decode cX11_isGolden 8 = .ok (.iload_n 3, 1) := by decide +kernel
theorem dX11_isGolden_9 : decode cX11_isGolden 9 = .ok (.invokestatic 89, 3) := by decide +kernel
theorem dX11_isGolden_12 : decode cX11_isGolden 12 = .ok (.istore 5, 2) := by decide +kernel
theorem dX11_isGolden_14 : decode cX11_isGolden 14 = .ok (.iconst 0, 1) := by decide +kernel
theorem dX11_isGolden_15 : decode cX11_isGolden 15 = .ok (.istore 6, 2) := by decide +kernel
theorem dX11_isGolden_17 : decode cX11_isGolden 17 = .ok (.iload 6, 2) := by decide +kernel
theorem dX11_isGolden_19 : decode cX11_isGolden 19 = .ok (.bipush 40, 2) := by decide +kernel
theorem dX11_isGolden_21 : decode cX11_isGolden 21 = .ok (.if_icmp .gt 39, 3) := by decide +kernel
theorem dX11_isGolden_24 : decode cX11_isGolden 24 = .ok (.iload_n 1, 1) := by decide +kernel
theorem dX11_isGolden_25 : decode cX11_isGolden 25 = .ok (.iload 6, 2) := by decide +kernel
theorem dX11_isGolden_27 : decode cX11_isGolden 27 = .ok (.i2l, 1) := by decide +kernel
theorem dX11_isGolden_28 : decode cX11_isGolden 28 = .ok (.invokestatic 156, 3) := by decide +kernel
theorem dX11_isGolden_31 : decode cX11_isGolden 31 = .ok (.iload 4, 2) := by decide +kernel
theorem dX11_isGolden_33 : decode cX11_isGolden 33 = .ok (.i2l, 1) := by decide +kernel
theorem dX11_isGolden_34 : decode cX11_isGolden 34 = .ok (.lcmp, 1) := by decide +kernel
theorem dX11_isGolden_35 : decode cX11_isGolden 35 = .ok (.ifCond .ne 19, 3) := by decide +kernel
theorem dX11_isGolden_38 : decode cX11_isGolden 38 = .ok (.iload_n 1, 1) := by decide +kernel
theorem dX11_isGolden_39 : decode cX11_isGolden 39 = .ok (.iload 6, 2) := by decide +kernel
theorem dX11_isGolden_41 : decode cX11_isGolden 41 = .ok (.i2l, 1) := by decide +kernel
theorem dX11_isGolden_42 : decode cX11_isGolden 42 = .ok (.invokestatic 160, 3) := by decide +kernel
theorem dX11_isGolden_45 : decode cX11_isGolden 45 = .ok (.iload 5, 2) := by decide +kernel
theorem dX11_isGolden_47 : decode cX11_isGolden 47 = .ok (.i2l, 1) := by decide +kernel
theorem dX11_isGolden_48 : decode cX11_isGolden 48 = .ok (.lcmp, 1) := by decide +kernel
theorem dX11_isGolden_49 : decode cX11_isGolden 49 = .ok (.ifCond .ne 5, 3) := by decide +kernel
theorem dX11_isGolden_52 : decode cX11_isGolden 52 = .ok (.iconst 1, 1) := by decide +kernel
theorem dX11_isGolden_53 : decode cX11_isGolden 53 = .ok (.ireturn, 1) := by decide +kernel
theorem dX11_isGolden_54 : decode cX11_isGolden 54 = .ok (.iinc 6 1, 3) := by decide +kernel
theorem dX11_isGolden_57 : decode cX11_isGolden 57 = .ok (.goto (-40), 3) := by decide +kernel
theorem dX11_isGolden_60 : decode cX11_isGolden 60 = .ok (.iconst 0, 1) := by decide +kernel
theorem dX11_isGolden_61 : decode cX11_isGolden 61 = .ok (.ireturn, 1) := by decide +kernel
theorem dX11_summandOf_0 : decode cX11_summandOf 0 = .ok (.iload_n 1, 1) := by decide +kernel
theorem dX11_summandOf_1 : decode cX11_summandOf 1 = .ok (.istore_n 3, 1) := by decide +kernel
theorem dX11_summandOf_2 : decode cX11_summandOf 2 = .ok (.iconst (-1), 1) := by decide +kernel
theorem dX11_summandOf_3 : decode cX11_summandOf 3 = .ok (.istore 4, 2) := by decide +kernel
theorem dX11_summandOf_5 : decode cX11_summandOf 5 = .ok (.iconst 0, 1) := by decide +kernel
theorem dX11_summandOf_6 : decode cX11_summandOf 6 = .ok (.istore 5, 2) := by decide +kernel
theorem dX11_summandOf_8 : decode cX11_summandOf 8 = .ok (.iload 5, 2) := by decide +kernel
theorem dX11_summandOf_10 : decode cX11_summandOf 10 = .ok (.iload_n 2, 1) := by decide +kernel
theorem dX11_summandOf_11 : decode cX11_summandOf 11 = .ok (.if_icmp .gt 26, 3) := by decide +kernel
theorem dX11_summandOf_14 : decode cX11_summandOf 14 = .ok (.iload_n 3, 1) := by decide +kernel
theorem dX11_summandOf_15 : decode cX11_summandOf 15 = .ok (.ifCond .ne 5, 3) := by decide +kernel
theorem dX11_summandOf_18 : decode cX11_summandOf 18 = .ok (.iconst (-1), 1) := by decide +kernel
theorem dX11_summandOf_19 : decode cX11_summandOf 19 = .ok (.ireturn, 1) := by decide +kernel
theorem dX11_summandOf_20 : decode cX11_summandOf 20 = .ok (.iload_n 3, 1) := by decide +kernel
theorem dX11_summandOf_21 : decode cX11_summandOf 21 = .ok (.invokestatic 170, 3) := by decide +kernel
theorem dX11_summandOf_24 : decode cX11_summandOf 24 = .ok (.istore 4, 2) := by decide +kernel
theorem dX11_summandOf_26 : decode cX11_summandOf 26 = .ok (.iload_n 3, 1) := by decide +kernel
theorem dX11_summandOf_27 : decode cX11_summandOf 27 = .ok (.iload 4, 2) := by decide +kernel
theorem dX11_summandOf_29 : decode cX11_summandOf 29 = .ok (.isub, 1) := by decide +kernel
theorem dX11_summandOf_30 : decode cX11_summandOf 30 = .ok (.istore_n 3, 1) := by decide +kernel
theorem dX11_summandOf_31 : decode cX11_summandOf 31 = .ok (.iinc 5 1, 3) := by decide +kernel
theorem dX11_summandOf_34 : decode cX11_summandOf 34 = .ok (.goto (-26), 3) := by decide +kernel
theorem dX11_summandOf_37 : decode cX11_summandOf 37 = .ok (.iload 4, 2) := by decide +kernel
theorem dX11_summandOf_39 : decode cX11_summandOf 39 = .ok (.ireturn, 1) := by decide +kernel
theorem dX11_greatestOf_0 : decode cX11_greatestOf 0 = .ok (.iconst 1, 1) := by decide +kernel
theorem dX11_greatestOf_1 : decode cX11_greatestOf 1 = .ok (.istore_n 1, 1) := by decide +kernel
theorem dX11_greatestOf_2 : decode cX11_greatestOf 2 = .ok (.iconst 2, 1) := by decide +kernel
theorem dX11_greatestOf_3 : decode cX11_greatestOf 3 = .ok (.istore_n 2, 1) := by decide +kernel
theorem dX11_greatestOf_4 : decode cX11_greatestOf 4 = .ok (.iload_n 2, 1) := by decide +kernel
theorem dX11_greatestOf_5 : decode cX11_greatestOf 5 = .ok (.iload_n 0, 1) := by decide +kernel
theorem dX11_greatestOf_6 : decode cX11_greatestOf 6 = .ok (.if_icmp .gt 14, 3) := by decide +kernel
theorem dX11_greatestOf_9 : decode cX11_greatestOf 9 = .ok (.iload_n 1, 1) := by decide +kernel
theorem dX11_greatestOf_10 : decode cX11_greatestOf 10 = .ok (.iload_n 2, 1) := by decide +kernel
theorem dX11_greatestOf_11 : decode cX11_greatestOf 11 = .ok (.iadd, 1) := by decide +kernel
theorem dX11_greatestOf_12 : decode cX11_greatestOf 12 = .ok (.istore_n 3, 1) := by decide +kernel
theorem dX11_greatestOf_13 : decode cX11_greatestOf 13 = .ok (.iload_n 2, 1) := by decide +kernel
theorem dX11_greatestOf_14 : decode cX11_greatestOf 14 = .ok (.istore_n 1, 1) := by decide +kernel
theorem dX11_greatestOf_15 : decode cX11_greatestOf 15 = .ok (.iload_n 3, 1) := by decide +kernel
theorem dX11_greatestOf_16 : decode cX11_greatestOf 16 = .ok (.istore_n 2, 1) := by decide +kernel
theorem dX11_greatestOf_17 : decode cX11_greatestOf 17 = .ok (.goto (-13), 3) := by decide +kernel
theorem dX11_greatestOf_20 : decode cX11_greatestOf 20 = .ok (.iload_n 1, 1) := by decide +kernel
theorem dX11_greatestOf_21 : decode cX11_greatestOf 21 = .ok (.ireturn, 1) := by decide +kernel
theorem dX11_placeOf_0 : decode cX11_placeOf 0 = .ok (.iconst 1, 1) := by decide +kernel
theorem dX11_placeOf_1 : decode cX11_placeOf 1 = .ok (.istore_n 1, 1) := by decide +kernel
theorem dX11_placeOf_2 : decode cX11_placeOf 2 = .ok (.iconst 2, 1) := by decide +kernel
theorem dX11_placeOf_3 : decode cX11_placeOf 3 = .ok (.istore_n 2, 1) := by decide +kernel
theorem dX11_placeOf_4 : decode cX11_placeOf 4 = .ok (.iconst 0, 1) := by decide +kernel
theorem dX11_placeOf_5 : decode cX11_placeOf 5 = .ok (.istore_n 3, 1) := by decide +kernel
theorem dX11_placeOf_6 : decode cX11_placeOf 6 = .ok (.iload_n 1, 1) := by decide +kernel
theorem dX11_placeOf_7 : decode cX11_placeOf 7 = .ok (.iload_n 0, 1) := by decide +kernel
theorem dX11_placeOf_8 : decode cX11_placeOf 8 = .ok (.if_icmp .ge 19, 3) := by decide +kernel
theorem dX11_placeOf_11 : decode cX11_placeOf 11 = .ok (.iload_n 1, 1) := by decide +kernel
theorem dX11_placeOf_12 : decode cX11_placeOf 12 = .ok (.iload_n 2, 1) := by decide +kernel
theorem dX11_placeOf_13 : decode cX11_placeOf 13 = .ok (.iadd, 1) := by decide +kernel
theorem dX11_placeOf_14 : decode cX11_placeOf 14 = .ok (.istore 4, 2) := by decide +kernel
theorem dX11_placeOf_16 : decode cX11_placeOf 16 = .ok (.iload_n 2, 1) := by decide +kernel
theorem dX11_placeOf_17 : decode cX11_placeOf 17 = .ok (.istore_n 1, 1) := by decide +kernel
theorem dX11_placeOf_18 : decode cX11_placeOf 18 = .ok (.iload 4, 2) := by decide +kernel
theorem dX11_placeOf_20 : decode cX11_placeOf 20 = .ok (.istore_n 2, 1) := by decide +kernel
theorem dX11_placeOf_21 : decode cX11_placeOf 21 = .ok (.iinc 3 1, 3) := by decide +kernel
theorem dX11_placeOf_24 : decode cX11_placeOf 24 = .ok (.goto (-18), 3) := by decide +kernel
theorem dX11_placeOf_27 : decode cX11_placeOf 27 = .ok (.iload_n 3, 1) := by decide +kernel
theorem dX11_placeOf_28 : decode cX11_placeOf 28 = .ok (.ireturn, 1) := by decide +kernel
theorem dX11_ofBoard_0 : decode cX11_ofBoard 0 = .ok (.aload_n 0, 1) := by decide +kernel
theorem dX11_ofBoard_1 : decode cX11_ofBoard 1 = .ok (.getfield 7, 3) := by decide +kernel
theorem dX11_ofBoard_4 : decode cX11_ofBoard 4 = .ok (.sipush 133, 3) := by decide +kernel
theorem dX11_ofBoard_7 : decode cX11_ofBoard 7 = .ok (.iconst 5, 1) := by decide +kernel
theorem dX11_ofBoard_8 : decode cX11_ofBoard 8 = .ok (.iload_n 1, 1) := by decide +kernel
theorem dX11_ofBoard_9 : decode cX11_ofBoard 9 = .ok (.imul, 1) := by decide +kernel
theorem dX11_ofBoard_10 : decode cX11_ofBoard 10 = .ok (.iadd, 1) := by decide +kernel
theorem dX11_ofBoard_11 : decode cX11_ofBoard 11 = .ok (.iload_n 2, 1) := by decide +kernel
theorem dX11_ofBoard_12 : decode cX11_ofBoard 12 = .ok (.iadd, 1) := by decide +kernel
theorem dX11_ofBoard_13 : decode cX11_ofBoard 13 = .ok (.iaload, 1) := by decide +kernel
theorem dX11_ofBoard_14 : decode cX11_ofBoard 14 = .ok (.ireturn, 1) := by decide +kernel
theorem dX11_putsBoard_0 : decode cX11_putsBoard 0 = .ok (.aload_n 0, 1) := by decide +kernel
theorem dX11_putsBoard_1 : decode cX11_putsBoard 1 = .ok (.getfield 7, 3) := by decide +kernel
theorem dX11_putsBoard_4 : decode cX11_putsBoard 4 = .ok (.sipush 133, 3) := by decide +kernel
theorem dX11_putsBoard_7 : decode cX11_putsBoard 7 = .ok (.iconst 5, 1) := by decide +kernel
theorem dX11_putsBoard_8 : decode cX11_putsBoard 8 = .ok (.iload_n 1, 1) := by decide +kernel
theorem dX11_putsBoard_9 : decode cX11_putsBoard 9 = .ok (.imul, 1) := by decide +kernel
theorem dX11_putsBoard_10 : decode cX11_putsBoard 10 = .ok (.iadd, 1) := by decide +kernel
theorem dX11_putsBoard_11 : decode cX11_putsBoard 11 = .ok (.iload_n 2, 1) := by decide +kernel
theorem dX11_putsBoard_12 : decode cX11_putsBoard 12 = .ok (.iadd, 1) := by decide +kernel
theorem dX11_putsBoard_13 : decode cX11_putsBoard 13 = .ok (.iload_n 3, 1) := by decide +kernel
theorem dX11_putsBoard_14 : decode cX11_putsBoard 14 = .ok (.iastore, 1) := by decide +kernel
theorem dX11_putsBoard_15 : decode cX11_putsBoard 15 = .ok (.return_, 1) := by decide +kernel
theorem dX11_ofStick_0 : decode cX11_ofStick 0 = .ok (.aload_n 0, 1) := by decide +kernel
theorem dX11_ofStick_1 : decode cX11_ofStick 1 = .ok (.getfield 7, 3) := by decide +kernel
theorem dX11_ofStick_4 : decode cX11_ofStick 4 = .ok (.sipush 153, 3) := by decide +kernel
theorem dX11_ofStick_7 : decode cX11_ofStick 7 = .ok (.iconst 3, 1) := by decide +kernel
theorem dX11_ofStick_8 : decode cX11_ofStick 8 = .ok (.iload_n 1, 1) := by decide +kernel
theorem dX11_ofStick_9 : decode cX11_ofStick 9 = .ok (.imul, 1) := by decide +kernel
theorem dX11_ofStick_10 : decode cX11_ofStick 10 = .ok (.iadd, 1) := by decide +kernel
theorem dX11_ofStick_11 : decode cX11_ofStick 11 = .ok (.iload_n 2, 1) := by decide +kernel
theorem dX11_ofStick_12 : decode cX11_ofStick 12 = .ok (.iadd, 1) := by decide +kernel
theorem dX11_ofStick_13 : decode cX11_ofStick 13 = .ok (.iaload, 1) := by decide +kernel
theorem dX11_ofStick_14 : decode cX11_ofStick 14 = .ok (.ireturn, 1) := by decide +kernel
theorem dX11_putsStick_0 : decode cX11_putsStick 0 = .ok (.aload_n 0, 1) := by decide +kernel
theorem dX11_putsStick_1 : decode cX11_putsStick 1 = .ok (.getfield 7, 3) := by decide +kernel
theorem dX11_putsStick_4 : decode cX11_putsStick 4 = .ok (.sipush 153, 3) := by decide +kernel
theorem dX11_putsStick_7 : decode cX11_putsStick 7 = .ok (.iconst 3, 1) := by decide +kernel
theorem dX11_putsStick_8 : decode cX11_putsStick 8 = .ok (.iload_n 1, 1) := by decide +kernel
theorem dX11_putsStick_9 : decode cX11_putsStick 9 = .ok (.imul, 1) := by decide +kernel
theorem dX11_putsStick_10 : decode cX11_putsStick 10 = .ok (.iadd, 1) := by decide +kernel
theorem dX11_putsStick_11 : decode cX11_putsStick 11 = .ok (.iload_n 2, 1) := by decide +kernel
theorem dX11_putsStick_12 : decode cX11_putsStick 12 = .ok (.iadd, 1) := by decide +kernel
theorem dX11_putsStick_13 : decode cX11_putsStick 13 = .ok (.iload_n 3, 1) := by decide +kernel
theorem dX11_putsStick_14 : decode cX11_putsStick 14 = .ok (.iastore, 1) := by decide +kernel
theorem dX11_putsStick_15 : decode cX11_putsStick 15 = .ok (.return_, 1) := by decide +kernel
theorem dX11_makesBoard_0 : decode cX11_makesBoard 0 = .ok (.aload_n 0, 1) := by decide +kernel
theorem dX11_makesBoard_1 : decode cX11_makesBoard 1 = .ok (.getfield 7, 3) := by decide +kernel
theorem dX11_makesBoard_4 : decode cX11_makesBoard 4 = .ok (.iconst 1, 1) := by decide +kernel
theorem dX11_makesBoard_5 : decode cX11_makesBoard 5 = .ok (.iaload, 1) := by decide +kernel
theorem dX11_makesBoard_6 : decode cX11_makesBoard 6 = .ok (.istore 4, 2) := by decide +kernel
theorem dX11_makesBoard_8 : decode cX11_makesBoard 8 = .ok (.aload_n 0, 1) := by decide +kernel
theorem dX11_makesBoard_9 : decode cX11_makesBoard 9 = .ok (.iload 4, 2) := by decide +kernel
theorem dX11_makesBoard_11 : decode cX11_makesBoard 11 = .ok (.iconst 0, 1) := by decide +kernel
theorem dX11_makesBoard_12 : decode cX11_makesBoard 12 = .ok (.iload_n 1, 1) := by decide +kernel
theorem dX11_makesBoard_13 : decode cX11_makesBoard 13 = .ok (.invokevirtual 173, 3) := by decide +kernel
theorem dX11_makesBoard_16 : decode cX11_makesBoard 16 = .ok (.aload_n 0, 1) := by decide +kernel
theorem dX11_makesBoard_17 : decode cX11_makesBoard 17 = .ok (.iload 4, 2) := by decide +kernel
theorem dX11_makesBoard_19 : decode cX11_makesBoard 19 = .ok (.iconst 1, 1) := by decide +kernel
theorem dX11_makesBoard_20 : decode cX11_makesBoard 20 = .ok (.iload_n 2, 1) := by decide +kernel
theorem dX11_makesBoard_21 : decode cX11_makesBoard 21 = .ok (.invokevirtual 173, 3) := by decide +kernel
theorem dX11_makesBoard_24 : decode cX11_makesBoard 24 = .ok (.aload_n 0, 1) := by decide +kernel
theorem dX11_makesBoard_25 : decode cX11_makesBoard 25 = .ok (.iload 4, 2) := by decide +kernel
theorem dX11_makesBoard_27 : decode cX11_makesBoard 27 = .ok (.iconst 2, 1) := by decide +kernel
theorem dX11_makesBoard_28 : decode cX11_makesBoard 28 = .ok (.iload_n 3, 1) := by decide +kernel
theorem dX11_makesBoard_29 : decode cX11_makesBoard 29 = .ok (.invokevirtual 173, 3) := by decide +kernel
theorem dX11_makesBoard_32 : decode cX11_makesBoard 32 = .ok (.aload_n 0, 1) := by decide +kernel
theorem dX11_makesBoard_33 : decode cX11_makesBoard 33 = .ok (.iload 4, 2) := by decide +kernel
theorem dX11_makesBoard_35 : decode cX11_makesBoard 35 = .ok (.iconst 3, 1) := by decide +kernel
theorem dX11_makesBoard_36 : decode cX11_makesBoard 36 = .ok (.iload_n 2, 1) := by decide +kernel
theorem dX11_makesBoard_37 : decode cX11_makesBoard 37 = .ok (.invokevirtual 173, 3) := by decide +kernel
theorem dX11_makesBoard_40 : decode cX11_makesBoard 40 = .ok (.aload_n 0, 1) := by decide +kernel
theorem dX11_makesBoard_41 : decode cX11_makesBoard 41 = .ok (.iload 4, 2) := by decide +kernel
theorem dX11_makesBoard_43 : decode cX11_makesBoard 43 = .ok (.iconst 4, 1) := by decide +kernel
theorem dX11_makesBoard_44 : decode cX11_makesBoard 44 = .ok (.iload_n 3, 1) := by decide +kernel
theorem dX11_makesBoard_45 : decode cX11_makesBoard 45 = .ok (.invokevirtual 173, 3) := by decide +kernel
theorem dX11_makesBoard_48 : decode cX11_makesBoard 48 = .ok (.aload_n 0, 1) := by decide +kernel
theorem dX11_makesBoard_49 : decode cX11_makesBoard 49 = .ok (.getfield 7, 3) := by decide +kernel
theorem dX11_makesBoard_52 : decode cX11_makesBoard 52 = .ok (.iconst 1, 1) := by decide +kernel
theorem dX11_makesBoard_53 : decode cX11_makesBoard 53 = .ok (.dup2, 1) := by decide +kernel
theorem dX11_makesBoard_54 : decode cX11_makesBoard 54 = .ok (.iaload, 1) := by decide +kernel
theorem dX11_makesBoard_55 : decode cX11_makesBoard 55 = .ok (.iconst 1, 1) := by decide +kernel
theorem dX11_makesBoard_56 : decode cX11_makesBoard 56 = .ok (.iadd, 1) := by decide +kernel
theorem dX11_makesBoard_57 : decode cX11_makesBoard 57 = .ok (.iastore, 1) := by decide +kernel
theorem dX11_makesBoard_58 : decode cX11_makesBoard 58 = .ok (.return_, 1) := by decide +kernel
theorem dX11_makesStick_0 : decode cX11_makesStick 0 = .ok (.aload_n 0, 1) := by decide +kernel
theorem dX11_makesStick_1 : decode cX11_makesStick 1 = .ok (.getfield 7, 3) := by decide +kernel
theorem dX11_makesStick_4 : decode cX11_makesStick 4 = .ok (.iconst 2, 1) := by decide +kernel
theorem dX11_makesStick_5 : decode cX11_makesStick 5 = .ok (.iaload, 1) := by decide +kernel
theorem dX11_makesStick_6 : decode cX11_makesStick 6 = .ok (.istore_n 3, 1) := by decide +kernel
theorem dX11_makesStick_7 : decode cX11_makesStick 7 = .ok (.aload_n 0, 1) := by decide +kernel
theorem dX11_makesStick_8 : decode cX11_makesStick 8 = .ok (.iload_n 3, 1) := by decide +kernel
theorem dX11_makesStick_9 : decode cX11_makesStick 9 = .ok (.iconst 0, 1) := by decide +kernel
theorem dX11_makesStick_10 : decode cX11_makesStick 10 = .ok (.iload_n 1, 1) := by decide +kernel
theorem dX11_makesStick_11 : decode cX11_makesStick 11 = .ok (.invokevirtual 176, 3) := by decide +kernel
theorem dX11_makesStick_14 : decode cX11_makesStick 14 = .ok (.aload_n 0, 1) := by decide +kernel
theorem dX11_makesStick_15 : decode cX11_makesStick 15 = .ok (.iload_n 3, 1) := by decide +kernel
theorem dX11_makesStick_16 : decode cX11_makesStick 16 = .ok (.iconst 1, 1) := by decide +kernel
theorem dX11_makesStick_17 : decode cX11_makesStick 17 = .ok (.iload_n 2, 1) := by decide +kernel
theorem dX11_makesStick_18 : decode cX11_makesStick 18 = .ok (.invokevirtual 176, 3) := by decide +kernel
theorem dX11_makesStick_21 : decode cX11_makesStick 21 = .ok (.aload_n 0, 1) := by decide +kernel
theorem dX11_makesStick_22 : decode cX11_makesStick 22 = .ok (.iload_n 3, 1) := by decide +kernel
theorem dX11_makesStick_23 : decode cX11_makesStick 23 = .ok (.iconst 2, 1) := by decide +kernel
theorem dX11_makesStick_24 : decode cX11_makesStick 24 = .ok (.iload_n 1, 1) := by decide +kernel
theorem dX11_makesStick_25 : decode cX11_makesStick 25 = .ok (.invokevirtual 176, 3) := by decide +kernel
theorem dX11_makesStick_28 : decode cX11_makesStick 28 = .ok (.aload_n 0, 1) := by decide +kernel
theorem dX11_makesStick_29 : decode cX11_makesStick 29 = .ok (.getfield 7, 3) := by decide +kernel
theorem dX11_makesStick_32 : decode cX11_makesStick 32 = .ok (.iconst 2, 1) := by decide +kernel
theorem dX11_makesStick_33 : decode cX11_makesStick 33 = .ok (.dup2, 1) := by decide +kernel
theorem dX11_makesStick_34 : decode cX11_makesStick 34 = .ok (.iaload, 1) := by decide +kernel
theorem dX11_makesStick_35 : decode cX11_makesStick 35 = .ok (.iconst 1, 1) := by decide +kernel
theorem dX11_makesStick_36 : decode cX11_makesStick 36 = .ok (.iadd, 1) := by decide +kernel
theorem dX11_makesStick_37 : decode cX11_makesStick 37 = .ok (.iastore, 1) := by decide +kernel
theorem dX11_makesStick_38 : decode cX11_makesStick 38 = .ok (.return_, 1) := by decide +kernel
theorem dX11_parts_0 : decode cX11_parts 0 = .ok (.aload_n 0, 1) := by decide +kernel
theorem dX11_parts_1 : decode cX11_parts 1 = .ok (.getfield 7, 3) := by decide +kernel
theorem dX11_parts_4 : decode cX11_parts 4 = .ok (.iconst 1, 1) := by decide +kernel
theorem dX11_parts_5 : decode cX11_parts 5 = .ok (.iaload, 1) := by decide +kernel
theorem dX11_parts_6 : decode cX11_parts 6 = .ok (.aload_n 0, 1) := by decide +kernel
theorem dX11_parts_7 : decode cX11_parts 7 = .ok (.getfield 7, 3) := by decide +kernel
theorem dX11_parts_10 : decode cX11_parts 10 = .ok (.iconst 2, 1) := by decide +kernel
theorem dX11_parts_11 : decode cX11_parts 11 = .ok (.iaload, 1) := by decide +kernel
theorem dX11_parts_12 : decode cX11_parts 12 = .ok (.iadd, 1) := by decide +kernel
theorem dX11_parts_13 : decode cX11_parts 13 = .ok (.ireturn, 1) := by decide +kernel
theorem dX11_noPart_0 : decode cX11_noPart 0 = .ok (.aload_n 0, 1) := by decide +kernel
theorem dX11_noPart_1 : decode cX11_noPart 1 = .ok (.iload_n 1, 1) := by decide +kernel
theorem dX11_noPart_2 : decode cX11_noPart 2 = .ok (.iconst 0, 1) := by decide +kernel
theorem dX11_noPart_3 : decode cX11_noPart 3 = .ok (.aload_n 0, 1) := by decide +kernel
theorem dX11_noPart_4 : decode cX11_noPart 4 = .ok (.invokevirtual 179, 3) := by decide +kernel
theorem dX11_noPart_7 : decode cX11_noPart 7 = .ok (.iconst 1, 1) := by decide +kernel
theorem dX11_noPart_8 : decode cX11_noPart 8 = .ok (.isub, 1) := by decide +kernel
theorem dX11_noPart_9 : decode cX11_noPart 9 = .ok (.invokestatic 77, 3) := by decide +kernel
theorem dX11_noPart_12 : decode cX11_noPart 12 = .ok (.ifCond .ne 7, 3) := by decide +kernel
theorem dX11_noPart_15 : decode cX11_noPart 15 = .ok (.iconst 1, 1) := by decide +kernel
theorem dX11_noPart_16 : decode cX11_noPart 16 = .ok (.goto 4, 3) := by decide +kernel
theorem dX11_noPart_19 : decode cX11_noPart 19 = .ok (.iconst 0, 1) := by decide +kernel
theorem dX11_noPart_20 : decode cX11_noPart 20 = .ok (.iconst 1, 1) := by decide +kernel
theorem dX11_noPart_21 : decode cX11_noPart 21 = .ok (.invokevirtual 81, 3) := by decide +kernel
theorem dX11_noPart_24 : decode cX11_noPart 24 = .ok (.ireturn, 1) := by decide +kernel
theorem dX11_isBoard_0 : decode cX11_isBoard 0 = .ok (.iload_n 1, 1) := by decide +kernel
theorem dX11_isBoard_1 : decode cX11_isBoard 1 = .ok (.aload_n 0, 1) := by decide +kernel
theorem dX11_isBoard_2 : decode cX11_isBoard 2 = .ok (.getfield 7, 3) := by decide +kernel
theorem dX11_isBoard_5 : decode cX11_isBoard 5 = .ok (.iconst 1, 1) := by decide +kernel
theorem dX11_isBoard_6 : decode cX11_isBoard 6 = .ok (.iaload, 1) := by decide +kernel
theorem dX11_isBoard_7 : decode cX11_isBoard 7 = .ok (.if_icmp .ge 7, 3) := by decide +kernel
theorem dX11_isBoard_10 : decode cX11_isBoard 10 = .ok (.iconst 1, 1) := by decide +kernel
theorem dX11_isBoard_11 : decode cX11_isBoard 11 = .ok (.goto 4, 3) := by decide +kernel
theorem dX11_isBoard_14 : decode cX11_isBoard 14 = .ok (.iconst 0, 1) := by decide +kernel
theorem dX11_isBoard_15 : decode cX11_isBoard 15 = .ok (.ireturn, 1) := by decide +kernel
theorem dX11_stickOf_0 : decode cX11_stickOf 0 = .ok (.iload_n 1, 1) := by decide +kernel
theorem dX11_stickOf_1 : decode cX11_stickOf 1 = .ok (.aload_n 0, 1) := by decide +kernel
theorem dX11_stickOf_2 : decode cX11_stickOf 2 = .ok (.getfield 7, 3) := by decide +kernel
theorem dX11_stickOf_5 : decode cX11_stickOf 5 = .ok (.iconst 1, 1) := by decide +kernel
theorem dX11_stickOf_6 : decode cX11_stickOf 6 = .ok (.iaload, 1) := by decide +kernel
theorem dX11_stickOf_7 : decode cX11_stickOf 7 = .ok (.isub, 1) := by decide +kernel
theorem dX11_stickOf_8 : decode cX11_stickOf 8 = .ok (.ireturn, 1) := by decide +kernel
theorem dX11_valueLess_0 : decode cX11_valueLess 0 = .ok (.aload_n 0, 1) := by decide +kernel
theorem dX11_valueLess_1 : decode cX11_valueLess 1 = .ok (.iload_n 1, 1) := by decide +kernel
theorem dX11_valueLess_2 : decode cX11_valueLess 2 = .ok (.invokevirtual 182, 3) := by decide +kernel
theorem dX11_valueLess_5 : decode cX11_valueLess 5 = .ok (.ifCond .eq 30, 3) := by decide +kernel
theorem dX11_valueLess_8 : decode cX11_valueLess 8 = .ok (.aload_n 0, 1) := by decide +kernel
theorem dX11_valueLess_9 : decode cX11_valueLess 9 = .ok (.aload_n 0, 1) := by decide +kernel
theorem dX11_valueLess_10 : decode cX11_valueLess 10 = .ok (.iload_n 1, 1) := by decide +kernel
theorem dX11_valueLess_11 : decode cX11_valueLess 11 = .ok (.iconst 0, 1) := by decide +kernel
theorem dX11_valueLess_12 : decode cX11_valueLess 12 = .ok (.invokevirtual 185, 3) := by decide +kernel
theorem dX11_valueLess_15 : decode cX11_valueLess 15 = .ok (.aload_n 0, 1) := by decide +kernel
theorem dX11_valueLess_16 : decode cX11_valueLess 16 = .ok (.iload_n 1, 1) := by decide +kernel
theorem dX11_valueLess_17 : decode cX11_valueLess 17 = .ok (.iconst 1, 1) := by decide +kernel
theorem dX11_valueLess_18 : decode cX11_valueLess 18 = .ok (.invokevirtual 185, 3) := by decide +kernel
theorem dX11_valueLess_21 : decode cX11_valueLess 21 = .ok (.iload_n 2, 1) := by decide +kernel
theorem dX11_valueLess_22 : decode cX11_valueLess 22 = .ok (.isub, 1) := by decide +kernel
theorem dX11_valueLess_23 : decode cX11_valueLess 23 = .ok (.aload_n 0, 1) := by decide +kernel
theorem dX11_valueLess_24 : decode cX11_valueLess 24 = .ok (.iload_n 1, 1) := by decide +kernel
theorem dX11_valueLess_25 : decode cX11_valueLess 25 = .ok (.iconst 2, 1) := by decide +kernel
theorem dX11_valueLess_26 : decode cX11_valueLess 26 = .ok (.invokevirtual 185, 3) := by decide +kernel
theorem dX11_valueLess_29 : decode cX11_valueLess 29 = .ok (.iload_n 3, 1) := by decide +kernel
theorem dX11_valueLess_30 : decode cX11_valueLess 30 = .ok (.isub, 1) := by decide +kernel
theorem dX11_valueLess_31 : decode cX11_valueLess 31 = .ok (.invokevirtual 188, 3) := by decide +kernel
theorem dX11_valueLess_34 : decode cX11_valueLess 34 = .ok (.ireturn, 1) := by decide +kernel
theorem dX11_valueLess_35 : decode cX11_valueLess 35 = .ok (.aload_n 0, 1) := by decide +kernel
theorem dX11_valueLess_36 : decode cX11_valueLess 36 = .ok (.iload_n 1, 1) := by decide +kernel
theorem dX11_valueLess_37 : decode cX11_valueLess 37 = .ok (.invokevirtual 191, 3) := by decide +kernel
theorem dX11_valueLess_40 : decode cX11_valueLess 40 = .ok (.istore 4, 2) := by decide +kernel
theorem dX11_valueLess_42 : decode cX11_valueLess 42 = .ok (.aload_n 0, 1) := by decide +kernel
theorem dX11_valueLess_43 : decode cX11_valueLess 43 = .ok (.iload 4, 2) := by decide +kernel
theorem dX11_valueLess_45 : decode cX11_valueLess 45 = .ok (.iconst 0, 1) := by decide +kernel
theorem dX11_valueLess_46 : decode cX11_valueLess 46 = .ok (.invokevirtual 194, 3) := by decide +kernel
theorem dX11_valueLess_49 : decode cX11_valueLess 49 = .ok (.iload_n 2, 1) := by decide +kernel
theorem dX11_valueLess_50 : decode cX11_valueLess 50 = .ok (.isub, 1) := by decide +kernel
theorem dX11_valueLess_51 : decode cX11_valueLess 51 = .ok (.aload_n 0, 1) := by decide +kernel
theorem dX11_valueLess_52 : decode cX11_valueLess 52 = .ok (.iload 4, 2) := by decide +kernel
theorem dX11_valueLess_54 : decode cX11_valueLess 54 = .ok (.iconst 1, 1) := by decide +kernel
theorem dX11_valueLess_55 : decode cX11_valueLess 55 = .ok (.invokevirtual 194, 3) := by decide +kernel
theorem dX11_valueLess_58 : decode cX11_valueLess 58 = .ok (.iconst 1, 1) := by decide +kernel
theorem dX11_valueLess_59 : decode cX11_valueLess 59 = .ok (.iadd, 1) := by decide +kernel
theorem dX11_valueLess_60 : decode cX11_valueLess 60 = .ok (.irem, 1) := by decide +kernel
theorem dX11_valueLess_61 : decode cX11_valueLess 61 = .ok (.ireturn, 1) := by decide +kernel
theorem dX11_total_0 : decode cX11_total 0 = .ok (.iconst 0, 1) := by decide +kernel
theorem dX11_total_1 : decode cX11_total 1 = .ok (.istore_n 1, 1) := by decide +kernel
theorem dX11_total_2 : decode cX11_total 2 = .ok (.iconst 0, 1) := by decide +kernel
theorem dX11_total_3 : decode cX11_total 3 = .ok (.istore_n 2, 1) := by decide +kernel
theorem dX11_total_4 : decode cX11_total 4 = .ok (.iload_n 2, 1) := by decide +kernel
theorem dX11_total_5 : decode cX11_total 5 = .ok (.aload_n 0, 1) := by decide +kernel
theorem dX11_total_6 : decode cX11_total 6 = .ok (.invokevirtual 179, 3) := by decide +kernel
theorem dX11_total_9 : decode cX11_total 9 = .ok (.if_icmp .ge 19, 3) := by decide +kernel
theorem dX11_total_12 : decode cX11_total 12 = .ok (.iload_n 1, 1) := by decide +kernel
theorem dX11_total_13 : decode cX11_total 13 = .ok (.aload_n 0, 1) := by decide +kernel
theorem dX11_total_14 : decode cX11_total 14 = .ok (.iload_n 2, 1) := by decide +kernel
theorem dX11_total_15 : decode cX11_total 15 = .ok (.iconst 0, 1) := by decide +kernel
theorem dX11_total_16 : decode cX11_total 16 = .ok (.iconst 0, 1) := by decide +kernel
theorem dX11_total_17 : decode cX11_total 17 = .ok (.invokevirtual 197, 3) := by decide +kernel
theorem dX11_total_20 : decode cX11_total 20 = .ok (.ixor, 1) := by decide +kernel
theorem dX11_total_21 : decode cX11_total 21 = .ok (.istore_n 1, 1) := by decide +kernel
theorem dX11_total_22 : decode cX11_total 22 = .ok (.iinc 2 1, 3) := by decide +kernel
theorem dX11_total_25 : decode cX11_total 25 = .ok (.goto (-21), 3) := by decide +kernel
theorem dX11_total_28 : decode cX11_total 28 = .ok (.iload_n 1, 1) := by decide +kernel
theorem dX11_total_29 : decode cX11_total 29 = .ok (.ireturn, 1) := by decide +kernel
theorem dX11_firstHeap_0 : decode cX11_firstHeap 0 = .ok (.aload_n 0, 1) := by decide +kernel
theorem dX11_firstHeap_1 : decode cX11_firstHeap 1 = .ok (.iload_n 1, 1) := by decide +kernel
theorem dX11_firstHeap_2 : decode cX11_firstHeap 2 = .ok (.invokevirtual 182, 3) := by decide +kernel
theorem dX11_firstHeap_5 : decode cX11_firstHeap 5 = .ok (.ifCond .eq 12, 3) := by decide +kernel
theorem dX11_firstHeap_8 : decode cX11_firstHeap 8 = .ok (.aload_n 0, 1) := by decide +kernel
theorem dX11_firstHeap_9 : decode cX11_firstHeap 9 = .ok (.iload_n 1, 1) := by decide +kernel
theorem dX11_firstHeap_10 : decode cX11_firstHeap 10 = .ok (.iconst 1, 1) := by decide +kernel
theorem dX11_firstHeap_11 : decode cX11_firstHeap 11 = .ok (.invokevirtual 185, 3) := by decide +kernel
theorem dX11_firstHeap_14 : decode cX11_firstHeap 14 = .ok (.goto 13, 3) := by decide +kernel
theorem dX11_firstHeap_17 : decode cX11_firstHeap 17 = .ok (.aload_n 0, 1) := by decide +kernel
theorem dX11_firstHeap_18 : decode cX11_firstHeap 18 = .ok (.aload_n 0, 1) := by decide +kernel
theorem dX11_firstHeap_19 : decode cX11_firstHeap 19 = .ok (.iload_n 1, 1) := by decide +kernel
theorem dX11_firstHeap_20 : decode cX11_firstHeap 20 = .ok (.invokevirtual 191, 3) := by decide +kernel
theorem dX11_firstHeap_23 : decode cX11_firstHeap 23 = .ok (.iconst 0, 1) := by decide +kernel
theorem dX11_firstHeap_24 : decode cX11_firstHeap 24 = .ok (.invokevirtual 194, 3) := by decide +kernel
theorem dX11_firstHeap_27 : decode cX11_firstHeap 27 = .ok (.ireturn, 1) := by decide +kernel
theorem dX11_secondHeap_0 : decode cX11_secondHeap 0 = .ok (.aload_n 0, 1) := by decide +kernel
theorem dX11_secondHeap_1 : decode cX11_secondHeap 1 = .ok (.iload_n 1, 1) := by decide +kernel
theorem dX11_secondHeap_2 : decode cX11_secondHeap 2 = .ok (.invokevirtual 182, 3) := by decide +kernel
theorem dX11_secondHeap_5 : decode cX11_secondHeap 5 = .ok (.ifCond .eq 12, 3) := by decide +kernel
theorem dX11_secondHeap_8 : decode cX11_secondHeap 8 = .ok (.aload_n 0, 1) := by decide +kernel
theorem dX11_secondHeap_9 : decode cX11_secondHeap 9 = .ok (.iload_n 1, 1) := by decide +kernel
theorem dX11_secondHeap_10 : decode cX11_secondHeap 10 = .ok (.iconst 2, 1) := by decide +kernel
theorem dX11_secondHeap_11 : decode cX11_secondHeap 11 = .ok (.invokevirtual 185, 3) := by decide +kernel
theorem dX11_secondHeap_14 : decode cX11_secondHeap 14 = .ok (.goto 4, 3) := by decide +kernel
theorem dX11_secondHeap_17 : decode cX11_secondHeap 17 = .ok (.iconst 0, 1) := by decide +kernel
theorem dX11_secondHeap_18 : decode cX11_secondHeap 18 = .ok (.ireturn, 1) := by decide +kernel
theorem dX11_refusal_0 : decode cX11_refusal 0 = .ok (.iload_n 2, 1) := by decide +kernel
theorem dX11_refusal_1 : decode cX11_refusal 1 = .ok (.ifCond .lt 15, 3) := by decide +kernel
theorem dX11_refusal_4 : decode cX11_refusal 4 = .ok (.iload_n 3, 1) := by decide +kernel
theorem dX11_refusal_5 : decode cX11_refusal 5 = .ok (.ifCond .lt 11, 3) := by decide +kernel
theorem dX11_refusal_8 : decode cX11_refusal 8 = .ok (.iload_n 2, 1) := by decide +kernel
theorem dX11_refusal_9 : decode cX11_refusal 9 = .ok (.ifCond .ne 9, 3) := by decide +kernel
theorem dX11_refusal_12 : decode cX11_refusal 12 = .ok (.iload_n 3, 1) := by decide +kernel
theorem dX11_refusal_13 : decode cX11_refusal 13 = .ok (.ifCond .ne 5, 3) := by decide +kernel
theorem dX11_refusal_16 : decode cX11_refusal 16 = .ok (.iconst 1, 1) := by decide +kernel
theorem dX11_refusal_17 : decode cX11_refusal 17 = .ok (.ireturn, 1) := by decide +kernel
theorem dX11_refusal_18 : decode cX11_refusal 18 = .ok (.iload_n 2, 1) := by decide +kernel
theorem dX11_refusal_19 : decode cX11_refusal 19 = .ok (.aload_n 0, 1) := by decide +kernel
theorem dX11_refusal_20 : decode cX11_refusal 20 = .ok (.iload_n 1, 1) := by decide +kernel
theorem dX11_refusal_21 : decode cX11_refusal 21 = .ok (.invokevirtual 200, 3) := by decide +kernel
theorem dX11_refusal_24 : decode cX11_refusal 24 = .ok (.if_icmp .gt 12, 3) := by decide +kernel
theorem dX11_refusal_27 : decode cX11_refusal 27 = .ok (.iload_n 3, 1) := by decide +kernel
theorem dX11_refusal_28 : decode cX11_refusal 28 = .ok (.aload_n 0, 1) := by decide +kernel
theorem dX11_refusal_29 : decode cX11_refusal 29 = .ok (.iload_n 1, 1) := by decide +kernel
theorem dX11_refusal_30 : decode cX11_refusal 30 = .ok (.invokevirtual 203, 3) := by decide +kernel
theorem dX11_refusal_33 : decode cX11_refusal 33 = .ok (.if_icmp .le 5, 3) := by decide +kernel
theorem dX11_refusal_36 : decode cX11_refusal 36 = .ok (.iconst 2, 1) := by decide +kernel
theorem dX11_refusal_37 : decode cX11_refusal 37 = .ok (.ireturn, 1) := by decide +kernel
theorem dX11_refusal_38 : decode cX11_refusal 38 = .ok (.aload_n 0, 1) := by decide +kernel
theorem dX11_refusal_39 : decode cX11_refusal 39 = .ok (.iload_n 1, 1) := by decide +kernel
theorem dX11_refusal_40 : decode cX11_refusal 40 = .ok (.invokevirtual 182, 3) := by decide +kernel
theorem dX11_refusal_43 : decode cX11_refusal 43 = .ok (.ifCond .eq 16, 3) := by decide +kernel
theorem dX11_refusal_46 : decode cX11_refusal 46 = .ok (.aload_n 0, 1) := by decide +kernel
theorem dX11_refusal_47 : decode cX11_refusal 47 = .ok (.aload_n 0, 1) := by decide +kernel
theorem dX11_refusal_48 : decode cX11_refusal 48 = .ok (.iload_n 1, 1) := by decide +kernel
theorem dX11_refusal_49 : decode cX11_refusal 49 = .ok (.iconst 0, 1) := by decide +kernel
theorem dX11_refusal_50 : decode cX11_refusal 50 = .ok (.invokevirtual 185, 3) := by decide +kernel
theorem dX11_refusal_53 : decode cX11_refusal 53 = .ok (.iload_n 2, 1) := by decide +kernel
theorem dX11_refusal_54 : decode cX11_refusal 54 = .ok (.iload_n 3, 1) := by decide +kernel
theorem dX11_refusal_55 : decode cX11_refusal 55 = .ok (.invokevirtual 106, 3) := by decide +kernel
theorem dX11_refusal_58 : decode cX11_refusal 58 = .ok (.ireturn, 1) := by decide +kernel
theorem dX11_refusal_59 : decode cX11_refusal 59 = .ok (.iload_n 2, 1) := by decide +kernel
theorem dX11_refusal_60 : decode cX11_refusal 60 = .ok (.aload_n 0, 1) := by decide +kernel
theorem dX11_refusal_61 : decode cX11_refusal 61 = .ok (.aload_n 0, 1) := by decide +kernel
theorem dX11_refusal_62 : decode cX11_refusal 62 = .ok (.iload_n 1, 1) := by decide +kernel
theorem dX11_refusal_63 : decode cX11_refusal 63 = .ok (.invokevirtual 191, 3) := by decide +kernel
theorem dX11_refusal_66 : decode cX11_refusal 66 = .ok (.iconst 1, 1) := by decide +kernel
theorem dX11_refusal_67 : decode cX11_refusal 67 = .ok (.invokevirtual 194, 3) := by decide +kernel
theorem dX11_refusal_70 : decode cX11_refusal 70 = .ok (.if_icmp .le 7, 3) := by decide +kernel
theorem dX11_refusal_73 : decode cX11_refusal 73 = .ok (.iconst 3, 1) := by decide +kernel
theorem dX11_refusal_74 : decode cX11_refusal 74 = .ok (.goto 4, 3) := by decide +kernel
theorem dX11_refusal_77 : decode cX11_refusal 77 = .ok (.iconst 0, 1) := by decide +kernel
theorem dX11_refusal_78 : decode cX11_refusal 78 = .ok (.ireturn, 1) := by decide +kernel
theorem dX11_movesOf_0 : decode cX11_movesOf 0 = .ok (.aload_n 0, 1) := by decide +kernel
theorem dX11_movesOf_1 : decode cX11_movesOf 1 = .ok (.invokevirtual 206, 3) := by decide +kernel
theorem dX11_movesOf_4 : decode cX11_movesOf 4 = .ok (.aload_n 0, 1) := by decide +kernel
theorem dX11_movesOf_5 : decode cX11_movesOf 5 = .ok (.iload_n 1, 1) := by decide +kernel
theorem dX11_movesOf_6 : decode cX11_movesOf 6 = .ok (.iconst 0, 1) := by decide +kernel
theorem dX11_movesOf_7 : decode cX11_movesOf 7 = .ok (.iconst 0, 1) := by decide +kernel
theorem dX11_movesOf_8 : decode cX11_movesOf 8 = .ok (.invokevirtual 197, 3) := by decide +kernel
theorem dX11_movesOf_11 : decode cX11_movesOf 11 = .ok (.ixor, 1) := by decide +kernel
theorem dX11_movesOf_12 : decode cX11_movesOf 12 = .ok (.istore_n 3, 1) := by decide +kernel
theorem dX11_movesOf_13 : decode cX11_movesOf 13 = .ok (.iconst 0, 1) := by decide +kernel
theorem dX11_movesOf_14 : decode cX11_movesOf 14 = .ok (.istore 4, 2) := by decide +kernel
theorem dX11_movesOf_16 : decode cX11_movesOf 16 = .ok (.iconst 0, 1) := by decide +kernel
theorem dX11_movesOf_17 : decode cX11_movesOf 17 = .ok (.istore 5, 2) := by decide +kernel
theorem dX11_movesOf_19 : decode cX11_movesOf 19 = .ok (.iload 5, 2) := by decide +kernel
theorem dX11_movesOf_21 : decode cX11_movesOf 21 = .ok (.aload_n 0, 1) := by decide +kernel
theorem dX11_movesOf_22 : decode cX11_movesOf 22 = .ok (.iload_n 1, 1) := by decide +kernel
theorem dX11_movesOf_23 : decode cX11_movesOf 23 = .ok (.invokevirtual 200, 3) := by decide +kernel
theorem dX11_movesOf_26 : decode cX11_movesOf 26 = .ok (.if_icmp .gt 60, 3) := by decide +kernel
theorem dX11_movesOf_29 : decode cX11_movesOf 29 = .ok (.iconst 0, 1) := by decide +kernel
theorem dX11_movesOf_30 : decode cX11_movesOf 30 = .ok (.istore 6, 2) := by decide +kernel
theorem dX11_movesOf_32 : decode cX11_movesOf 32 = .ok (.iload 6, 2) := by decide +kernel
theorem dX11_movesOf_34 : decode cX11_movesOf 34 = .ok (.aload_n 0, 1) := by decide +kernel
theorem dX11_movesOf_35 : decode cX11_movesOf 35 = .ok (.iload_n 1, 1) := by decide +kernel
theorem dX11_movesOf_36 : decode cX11_movesOf 36 = .ok (.invokevirtual 203, 3) := by decide +kernel
theorem dX11_movesOf_39 : decode cX11_movesOf 39 = .ok (.if_icmp .gt 41, 3) := by decide +kernel
theorem dX11_movesOf_42 : decode cX11_movesOf 42 = .ok (.aload_n 0, 1) := by decide +kernel
theorem dX11_movesOf_43 : decode cX11_movesOf 43 = .ok (.iload_n 1, 1) := by decide +kernel
theorem dX11_movesOf_44 : decode cX11_movesOf 44 = .ok (.iload 5, 2) := by decide +kernel
theorem dX11_movesOf_46 : decode cX11_movesOf 46 = .ok (.iload 6, 2) := by decide +kernel
theorem dX11_movesOf_48 : decode cX11_movesOf 48 = .ok (.invokevirtual 209, 3) := by decide +kernel
theorem dX11_movesOf_51 : decode cX11_movesOf 51 = .ok (.ifCond .ne 23, 3) := by decide +kernel
theorem dX11_movesOf_54 : decode cX11_movesOf 54 = .ok (.iload_n 2, 1) := by decide +kernel
theorem dX11_movesOf_55 : decode cX11_movesOf 55 = .ok (.ifCond .eq 16, 3) := by decide +kernel
theorem dX11_movesOf_58 : decode cX11_movesOf 58 = .ok (.aload_n 0, 1) := by decide +kernel
theorem dX11_movesOf_59 : decode cX11_movesOf 59 = .ok (.iload_n 1, 1) := by decide +kernel
theorem dX11_movesOf_60 : decode cX11_movesOf 60 = .ok (.iload 5, 2) := by decide +kernel
theorem dX11_movesOf_62 : decode cX11_movesOf 62 = .ok (.iload 6, 2) := by decide +kernel
theorem dX11_movesOf_64 : decode cX11_movesOf 64 = .ok (.invokevirtual 197, 3) := by decide +kernel
theorem dX11_movesOf_67 : decode cX11_movesOf 67 = .ok (.iload_n 3, 1) := by decide +kernel
theorem dX11_movesOf_68 : decode cX11_movesOf 68 = .ok (.if_icmp .ne 6, 3) := by decide +kernel
theorem dX11_movesOf_71 : decode cX11_movesOf 71 = .ok (.iinc 4 1, 3) := by decide +kernel
theorem dX11_movesOf_74 : decode cX11_movesOf 74 = .ok (.iinc 6 1, 3) := by decide +kernel
theorem dX11_movesOf_77 : decode cX11_movesOf 77 = .ok (.goto (-45), 3) := by decide +kernel
theorem dX11_movesOf_80 : decode cX11_movesOf 80 = .ok (.iinc 5 1, 3) := by decide +kernel
theorem dX11_movesOf_83 : decode cX11_movesOf 83 = .ok (.goto (-64), 3) := by decide +kernel
theorem dX11_movesOf_86 : decode cX11_movesOf 86 = .ok (.iload 4, 2) := by decide +kernel
theorem dX11_movesOf_88 : decode cX11_movesOf 88 = .ok (.ireturn, 1) := by decide +kernel
theorem dX11_allMoves_0 : decode cX11_allMoves 0 = .ok (.iconst 0, 1) := by decide +kernel
theorem dX11_allMoves_1 : decode cX11_allMoves 1 = .ok (.istore_n 2, 1) := by decide +kernel
theorem dX11_allMoves_2 : decode cX11_allMoves 2 = .ok (.iconst 0, 1) := by decide +kernel
theorem dX11_allMoves_3 : decode cX11_allMoves 3 = .ok (.istore_n 3, 1) := by decide +kernel
theorem dX11_allMoves_4 : decode cX11_allMoves 4 = .ok (.iload_n 3, 1) := by decide +kernel
theorem dX11_allMoves_5 : decode cX11_allMoves 5 = .ok (.aload_n 0, 1) := by decide +kernel
theorem dX11_allMoves_6 : decode cX11_allMoves 6 = .ok (.invokevirtual 179, 3) := by decide +kernel
theorem dX11_allMoves_9 : decode cX11_allMoves 9 = .ok (.if_icmp .ge 18, 3) := by decide +kernel
theorem dX11_allMoves_12 : decode cX11_allMoves 12 = .ok (.iload_n 2, 1) := by decide +kernel
theorem dX11_allMoves_13 : decode cX11_allMoves 13 = .ok (.aload_n 0, 1) := by decide +kernel
theorem dX11_allMoves_14 : decode cX11_allMoves 14 = .ok (.iload_n 3, 1) := by decide +kernel
theorem dX11_allMoves_15 : decode cX11_allMoves 15 = .ok (.iload_n 1, 1) := by decide +kernel
theorem dX11_allMoves_16 : decode cX11_allMoves 16 = .ok (.invokevirtual 212, 3) := by decide +kernel
theorem dX11_allMoves_19 : decode cX11_allMoves 19 = .ok (.iadd, 1) := by decide +kernel
theorem dX11_allMoves_20 : decode cX11_allMoves 20 = .ok (.istore_n 2, 1) := by decide +kernel
theorem dX11_allMoves_21 : decode cX11_allMoves 21 = .ok (.iinc 3 1, 3) := by decide +kernel
theorem dX11_allMoves_24 : decode cX11_allMoves 24 = .ok (.goto (-20), 3) := by decide +kernel
theorem dX11_allMoves_27 : decode cX11_allMoves 27 = .ok (.iload_n 2, 1) := by decide +kernel
theorem dX11_allMoves_28 : decode cX11_allMoves 28 = .ok (.ireturn, 1) := by decide +kernel
theorem dX11_findsOn_0 : decode cX11_findsOn 0 = .ok (.aload_n 0, 1) := by decide +kernel
theorem dX11_findsOn_1 : decode cX11_findsOn 1 = .ok (.invokevirtual 206, 3) := by decide +kernel
theorem dX11_findsOn_4 : decode cX11_findsOn 4 = .ok (.aload_n 0, 1) := by decide +kernel
theorem dX11_findsOn_5 : decode cX11_findsOn 5 = .ok (.iload_n 1, 1) := by decide +kernel
theorem dX11_findsOn_6 : decode cX11_findsOn 6 = .ok (.iconst 0, 1) := by decide +kernel
theorem dX11_findsOn_7 : decode cX11_findsOn 7 = .ok (.iconst 0, 1) := by decide +kernel
theorem dX11_findsOn_8 : decode cX11_findsOn 8 = .ok (.invokevirtual 197, 3) := by decide +kernel
theorem dX11_findsOn_11 : decode cX11_findsOn 11 = .ok (.ixor, 1) := by decide +kernel
theorem dX11_findsOn_12 : decode cX11_findsOn 12 = .ok (.istore_n 3, 1) := by decide +kernel
theorem dX11_findsOn_13 : decode cX11_findsOn 13 = .ok (.iconst 0, 1) := by decide +kernel
theorem dX11_findsOn_14 : decode cX11_findsOn 14 = .ok (.istore 4, 2) := by decide +kernel
theorem dX11_findsOn_16 : decode cX11_findsOn 16 = .ok (.iload 4, 2) := by decide +kernel
theorem dX11_findsOn_18 : decode cX11_findsOn 18 = .ok (.aload_n 0, 1) := by decide +kernel
theorem dX11_findsOn_19 : decode cX11_findsOn 19 = .ok (.iload_n 1, 1) := by decide +kernel
theorem dX11_findsOn_20 : decode cX11_findsOn 20 = .ok (.invokevirtual 200, 3) := by decide +kernel
theorem dX11_findsOn_23 : decode cX11_findsOn 23 = .ok (.if_icmp .gt 79, 3) := by decide +kernel
theorem dX11_findsOn_26 : decode cX11_findsOn 26 = .ok (.iconst 0, 1) := by decide +kernel
theorem dX11_findsOn_27 : decode cX11_findsOn 27 = .ok (.istore 5, 2) := by decide +kernel
theorem dX11_findsOn_29 : decode cX11_findsOn 29 = .ok (.iload 5, 2) := by decide +kernel
theorem dX11_findsOn_31 : decode cX11_findsOn 31 = .ok (.aload_n 0, 1) := by decide +kernel
theorem dX11_findsOn_32 : decode cX11_findsOn 32 = .ok (.iload_n 1, 1) := by decide +kernel
theorem dX11_findsOn_33 : decode cX11_findsOn 33 = .ok (.invokevirtual 203, 3) := by decide +kernel
theorem dX11_findsOn_36 : decode cX11_findsOn 36 = .ok (.if_icmp .gt 60, 3) := by decide +kernel
theorem dX11_findsOn_39 : decode cX11_findsOn 39 = .ok (.iload_n 2, 1) := by decide +kernel
theorem dX11_findsOn_40 : decode cX11_findsOn 40 = .ok (.ifCond .eq 16, 3) := by decide +kernel
theorem dX11_findsOn_43 : decode cX11_findsOn 43 = .ok (.aload_n 0, 1) := by decide +kernel
theorem dX11_findsOn_44 : decode cX11_findsOn 44 = .ok (.iload_n 1, 1) := by decide +kernel
theorem dX11_findsOn_45 : decode cX11_findsOn 45 = .ok (.iload 4, 2) := by decide +kernel
theorem dX11_findsOn_47 : decode cX11_findsOn 47 = .ok (.iload 5, 2) := by decide +kernel
theorem dX11_findsOn_49 : decode cX11_findsOn 49 = .ok (.invokevirtual 197, 3) := by decide +kernel
theorem dX11_findsOn_52 : decode cX11_findsOn 52 = .ok (.iload_n 3, 1) := by decide +kernel
theorem dX11_findsOn_53 : decode cX11_findsOn 53 = .ok (.if_icmp .ne 37, 3) := by decide +kernel
theorem dX11_findsOn_56 : decode cX11_findsOn 56 = .ok (.aload_n 0, 1) := by decide +kernel
theorem dX11_findsOn_57 : decode cX11_findsOn 57 = .ok (.iload_n 1, 1) := by decide +kernel
theorem dX11_findsOn_58 : decode cX11_findsOn 58 = .ok (.iload 4, 2) := by decide +kernel
theorem dX11_findsOn_60 : decode cX11_findsOn 60 = .ok (.iload 5, 2) := by decide +kernel
theorem dX11_findsOn_62 : decode cX11_findsOn 62 = .ok (.invokevirtual 209, 3) := by decide +kernel
theorem dX11_findsOn_65 : decode cX11_findsOn 65 = .ok (.ifCond .eq 6, 3) := by decide +kernel
theorem dX11_findsOn_68 : decode cX11_findsOn 68 = .ok (.goto 22, 3) := by decide +kernel
theorem dX11_findsOn_71 : decode cX11_findsOn 71 = .ok (.aload_n 0, 1) := by decide +kernel
theorem dX11_findsOn_72 : decode cX11_findsOn 72 = .ok (.iload_n 1, 1) := by decide +kernel
theorem dX11_findsOn_73 : decode cX11_findsOn 73 = .ok (.putfield 216, 3) := by decide +kernel
theorem dX11_findsOn_76 : decode cX11_findsOn 76 = .ok (.aload_n 0, 1) := by decide +kernel
theorem dX11_findsOn_77 : decode cX11_findsOn 77 = .ok (.iload 4, 2) := by decide +kernel
theorem dX11_findsOn_79 : decode cX11_findsOn 79 = .ok (.putfield 219, 3) := by decide +kernel
theorem dX11_findsOn_82 : decode cX11_findsOn 82 = .ok (.aload_n 0, 1) := by decide +kernel
theorem dX11_findsOn_83 : decode cX11_findsOn 83 = .ok (.iload 5, 2) := by decide +kernel
theorem dX11_findsOn_85 : decode cX11_findsOn 85 = .ok (.putfield 222, 3) := by decide +kernel
theorem dX11_findsOn_88 : decode cX11_findsOn 88 = .ok (.iconst 1, 1) := by decide +kernel
theorem dX11_findsOn_89 : decode cX11_findsOn 89 = .ok (.ireturn, 1) := by decide +kernel
theorem dX11_findsOn_90 : decode cX11_findsOn 90 = .ok (.iinc 5 1, 3) := by decide +kernel
theorem dX11_findsOn_93 : decode cX11_findsOn 93 = .ok (.goto (-64), 3) := by decide +kernel
theorem dX11_findsOn_96 : decode cX11_findsOn 96 = .ok (.iinc 4 1, 3) := by decide +kernel
theorem dX11_findsOn_99 : decode cX11_findsOn 99 = .ok (.goto (-83), 3) := by decide +kernel
theorem dX11_findsOn_102 : decode cX11_findsOn 102 = .ok (.iconst 0, 1) := by decide +kernel
theorem dX11_findsOn_103 : decode cX11_findsOn 103 = .ok (.ireturn, 1) := by decide +kernel
theorem dX11_finds_0 : decode cX11_finds 0 = .ok (.iconst 0, 1) := by decide +kernel
theorem dX11_finds_1 : decode cX11_finds 1 = .ok (.istore_n 2, 1) := by decide +kernel
theorem dX11_finds_2 : decode cX11_finds 2 = .ok (.iload_n 2, 1) := by decide +kernel
theorem dX11_finds_3 : decode cX11_finds 3 = .ok (.aload_n 0, 1) := by decide +kernel
theorem dX11_finds_4 : decode cX11_finds 4 = .ok (.invokevirtual 179, 3) := by decide +kernel
theorem dX11_finds_7 : decode cX11_finds 7 = .ok (.if_icmp .ge 20, 3) := by decide +kernel
theorem dX11_finds_10 : decode cX11_finds 10 = .ok (.aload_n 0, 1) := by decide +kernel
theorem dX11_finds_11 : decode cX11_finds 11 = .ok (.iload_n 2, 1) := by decide +kernel
theorem dX11_finds_12 : decode cX11_finds 12 = .ok (.iload_n 1, 1) := by decide +kernel
theorem dX11_finds_13 : decode cX11_finds 13 = .ok (.invokevirtual 225, 3) := by decide +kernel
theorem dX11_finds_16 : decode cX11_finds 16 = .ok (.ifCond .eq 5, 3) := by decide +kernel
theorem dX11_finds_19 : decode cX11_finds 19 = .ok (.iconst 1, 1) := by decide +kernel
theorem dX11_finds_20 : decode cX11_finds 20 = .ok (.ireturn, 1) := by decide +kernel
theorem dX11_finds_21 : decode cX11_finds 21 = .ok (.iinc 2 1, 3) := by decide +kernel
theorem dX11_finds_24 : decode cX11_finds 24 = .ok (.goto (-22), 3) := by decide +kernel
theorem dX11_finds_27 : decode cX11_finds 27 = .ok (.iconst 0, 1) := by decide +kernel
theorem dX11_finds_28 : decode cX11_finds 28 = .ok (.ireturn, 1) := by decide +kernel
theorem dX11_advises_0 : decode cX11_advises 0 = .ok (.aload_n 0, 1) := by decide +kernel
theorem dX11_advises_1 : decode cX11_advises 1 = .ok (.invokevirtual 206, 3) := by decide +kernel
theorem dX11_advises_4 : decode cX11_advises 4 = .ok (.ifCond .eq 11, 3) := by decide +kernel
theorem dX11_advises_7 : decode cX11_advises 7 = .ok (.aload_n 0, 1) := by decide +kernel
theorem dX11_advises_8 : decode cX11_advises 8 = .ok (.iconst 1, 1) := by decide +kernel
theorem dX11_advises_9 : decode cX11_advises 9 = .ok (.invokevirtual 229, 3) := by decide +kernel
theorem dX11_advises_12 : decode cX11_advises 12 = .ok (.ifCond .ne 11, 3) := by decide +kernel
theorem dX11_advises_15 : decode cX11_advises 15 = .ok (.aload_n 0, 1) := by decide +kernel
theorem dX11_advises_16 : decode cX11_advises 16 = .ok (.iconst 0, 1) := by decide +kernel
theorem dX11_advises_17 : decode cX11_advises 17 = .ok (.invokevirtual 229, 3) := by decide +kernel
theorem dX11_advises_20 : decode cX11_advises 20 = .ok (.ifCond .eq 7, 3) := by decide +kernel
theorem dX11_advises_23 : decode cX11_advises 23 = .ok (.iconst 1, 1) := by decide +kernel
theorem dX11_advises_24 : decode cX11_advises 24 = .ok (.goto 4, 3) := by decide +kernel
theorem dX11_advises_27 : decode cX11_advises 27 = .ok (.iconst 0, 1) := by decide +kernel
theorem dX11_advises_28 : decode cX11_advises 28 = .ok (.ireturn, 1) := by decide +kernel
theorem dX11_isOver_0 : decode cX11_isOver 0 = .ok (.aload_n 0, 1) := by decide +kernel
theorem dX11_isOver_1 : decode cX11_isOver 1 = .ok (.iconst 0, 1) := by decide +kernel
theorem dX11_isOver_2 : decode cX11_isOver 2 = .ok (.invokevirtual 229, 3) := by decide +kernel
theorem dX11_isOver_5 : decode cX11_isOver 5 = .ok (.ifCond .ne 7, 3) := by decide +kernel
theorem dX11_isOver_8 : decode cX11_isOver 8 = .ok (.iconst 1, 1) := by decide +kernel
theorem dX11_isOver_9 : decode cX11_isOver 9 = .ok (.goto 4, 3) := by decide +kernel
theorem dX11_isOver_12 : decode cX11_isOver 12 = .ok (.iconst 0, 1) := by decide +kernel
theorem dX11_isOver_13 : decode cX11_isOver 13 = .ok (.ireturn, 1) := by decide +kernel
theorem dX11_takes_0 : decode cX11_takes 0 = .ok (.aload_n 0, 1) := by decide +kernel
theorem dX11_takes_1 : decode cX11_takes 1 = .ok (.iload_n 1, 1) := by decide +kernel
theorem dX11_takes_2 : decode cX11_takes 2 = .ok (.invokevirtual 182, 3) := by decide +kernel
theorem dX11_takes_5 : decode cX11_takes 5 = .ok (.ifCond .eq 32, 3) := by decide +kernel
theorem dX11_takes_8 : decode cX11_takes 8 = .ok (.aload_n 0, 1) := by decide +kernel
theorem dX11_takes_9 : decode cX11_takes 9 = .ok (.iload_n 1, 1) := by decide +kernel
theorem dX11_takes_10 : decode cX11_takes 10 = .ok (.iconst 1, 1) := by decide +kernel
theorem dX11_takes_11 : decode cX11_takes 11 = .ok (.aload_n 0, 1) := by decide +kernel
theorem dX11_takes_12 : decode cX11_takes 12 = .ok (.iload_n 1, 1) := by decide +kernel
theorem dX11_takes_13 : decode cX11_takes 13 = .ok (.iconst 1, 1) := by decide +kernel
theorem dX11_takes_14 : decode cX11_takes 14 = .ok (.invokevirtual 185, 3) := by decide +kernel
theorem dX11_takes_17 : decode cX11_takes 17 = .ok (.iload_n 2, 1) := by decide +kernel
theorem dX11_takes_18 : decode cX11_takes 18 = .ok (.isub, 1) := by decide +kernel
theorem dX11_takes_19 : decode cX11_takes 19 = .ok (.invokevirtual 173, 3) := by decide +kernel
theorem dX11_takes_22 : decode cX11_takes 22 = .ok (.aload_n 0, 1) := by decide +kernel
theorem dX11_takes_23 : decode cX11_takes 23 = .ok (.iload_n 1, 1) := by decide +kernel
theorem dX11_takes_24 : decode cX11_takes 24 = .ok (.iconst 2, 1) := by decide +kernel
theorem dX11_takes_25 : decode cX11_takes 25 = .ok (.aload_n 0, 1) := by decide +kernel
theorem dX11_takes_26 : decode cX11_takes 26 = .ok (.iload_n 1, 1) := by decide +kernel
theorem dX11_takes_27 : decode cX11_takes 27 = .ok (.iconst 2, 1) := by decide +kernel
theorem dX11_takes_28 : decode cX11_takes 28 = .ok (.invokevirtual 185, 3) := by decide +kernel
theorem dX11_takes_31 : decode cX11_takes 31 = .ok (.iload_n 3, 1) := by decide +kernel
theorem dX11_takes_32 : decode cX11_takes 32 = .ok (.isub, 1) := by decide +kernel
theorem dX11_takes_33 : decode cX11_takes 33 = .ok (.invokevirtual 173, 3) := by decide +kernel
theorem dX11_takes_36 : decode cX11_takes 36 = .ok (.return_, 1) := by decide +kernel
theorem dX11_takes_37 : decode cX11_takes 37 = .ok (.aload_n 0, 1) := by decide +kernel
theorem dX11_takes_38 : decode cX11_takes 38 = .ok (.aload_n 0, 1) := by decide +kernel
theorem dX11_takes_39 : decode cX11_takes 39 = .ok (.iload_n 1, 1) := by decide +kernel
theorem dX11_takes_40 : decode cX11_takes 40 = .ok (.invokevirtual 191, 3) := by decide +kernel
theorem dX11_takes_43 : decode cX11_takes 43 = .ok (.iconst 0, 1) := by decide +kernel
theorem dX11_takes_44 : decode cX11_takes 44 = .ok (.aload_n 0, 1) := by decide +kernel
theorem dX11_takes_45 : decode cX11_takes 45 = .ok (.aload_n 0, 1) := by decide +kernel
theorem dX11_takes_46 : decode cX11_takes 46 = .ok (.iload_n 1, 1) := by decide +kernel
theorem dX11_takes_47 : decode cX11_takes 47 = .ok (.invokevirtual 191, 3) := by decide +kernel
theorem dX11_takes_50 : decode cX11_takes 50 = .ok (.iconst 0, 1) := by decide +kernel
theorem dX11_takes_51 : decode cX11_takes 51 = .ok (.invokevirtual 194, 3) := by decide +kernel
theorem dX11_takes_54 : decode cX11_takes 54 = .ok (.iload_n 2, 1) := by decide +kernel
theorem dX11_takes_55 : decode cX11_takes 55 = .ok (.isub, 1) := by decide +kernel
theorem dX11_takes_56 : decode cX11_takes 56 = .ok (.invokevirtual 176, 3) := by decide +kernel
theorem dX11_takes_59 : decode cX11_takes 59 = .ok (.return_, 1) := by decide +kernel
theorem dX11_grows_0 : decode cX11_grows 0 = .ok (.aload_n 0, 1) := by decide +kernel
theorem dX11_grows_1 : decode cX11_grows 1 = .ok (.getfield 7, 3) := by decide +kernel
theorem dX11_grows_4 : decode cX11_grows 4 = .ok (.bipush 7, 2) := by decide +kernel
theorem dX11_grows_6 : decode cX11_grows 6 = .ok (.iconst 5, 1) := by decide +kernel
theorem dX11_grows_7 : decode cX11_grows 7 = .ok (.iload_n 1, 1) := by decide +kernel
theorem dX11_grows_8 : decode cX11_grows 8 = .ok (.imul, 1) := by decide +kernel
theorem dX11_grows_9 : decode cX11_grows 9 = .ok (.iadd, 1) := by decide +kernel
theorem dX11_grows_10 : decode cX11_grows 10 = .ok (.iload_n 2, 1) := by decide +kernel
theorem dX11_grows_11 : decode cX11_grows 11 = .ok (.iadd, 1) := by decide +kernel
theorem dX11_grows_12 : decode cX11_grows 12 = .ok (.dup2, 1) := by decide +kernel
theorem dX11_grows_13 : decode cX11_grows 13 = .ok (.iaload, 1) := by decide +kernel
theorem dX11_grows_14 : decode cX11_grows 14 = .ok (.iload_n 3, 1) := by decide +kernel
theorem dX11_grows_15 : decode cX11_grows 15 = .ok (.iadd, 1) := by decide +kernel
theorem dX11_grows_16 : decode cX11_grows 16 = .ok (.iastore, 1) := by decide +kernel
theorem dX11_grows_17 : decode cX11_grows 17 = .ok (.return_, 1) := by decide +kernel
theorem dX11_notes_0 : decode cX11_notes 0 = .ok (.aload_n 0, 1) := by decide +kernel
theorem dX11_notes_1 : decode cX11_notes 1 = .ok (.getfield 7, 3) := by decide +kernel
theorem dX11_notes_4 : decode cX11_notes 4 = .ok (.bipush 6, 2) := by decide +kernel
theorem dX11_notes_6 : decode cX11_notes 6 = .ok (.iaload, 1) := by decide +kernel
theorem dX11_notes_7 : decode cX11_notes 7 = .ok (.bipush 20, 2) := by decide +kernel
theorem dX11_notes_9 : decode cX11_notes 9 = .ok (.if_icmp .ne 49, 3) := by decide +kernel
theorem dX11_notes_12 : decode cX11_notes 12 = .ok (.sipush 165, 3) := by decide +kernel
theorem dX11_notes_15 : decode cX11_notes 15 = .ok (.istore 5, 2) := by decide +kernel
theorem dX11_notes_17 : decode cX11_notes 17 = .ok (.iload 5, 2) := by decide +kernel
theorem dX11_notes_19 : decode cX11_notes 19 = .ok (.sipush 260, 3) := by decide +kernel
theorem dX11_notes_22 : decode cX11_notes 22 = .ok (.if_icmp .ge 25, 3) := by decide +kernel
theorem dX11_notes_25 : decode cX11_notes 25 = .ok (.aload_n 0, 1) := by decide +kernel
theorem dX11_notes_26 : decode cX11_notes 26 = .ok (.getfield 7, 3) := by decide +kernel
theorem dX11_notes_29 : decode cX11_notes 29 = .ok (.iload 5, 2) := by decide +kernel
theorem dX11_notes_31 : decode cX11_notes 31 = .ok (.aload_n 0, 1) := by decide +kernel
theorem dX11_notes_32 : decode cX11_notes 32 = .ok (.getfield 7, 3) := by decide +kernel
theorem dX11_notes_35 : decode cX11_notes 35 = .ok (.iload 5, 2) := by decide +kernel
theorem dX11_notes_37 : decode cX11_notes 37 = .ok (.iconst 5, 1) := by decide +kernel
theorem dX11_notes_38 : decode cX11_notes 38 = .ok (.iadd, 1) := by decide +kernel
theorem dX11_notes_39 : decode cX11_notes 39 = .ok (.iaload, 1) := by decide +kernel
theorem dX11_notes_40 : decode cX11_notes 40 = .ok (.iastore, 1) := by decide +kernel
theorem dX11_notes_41 : decode cX11_notes 41 = .ok (.iinc 5 1, 3) := by decide +kernel
theorem dX11_notes_44 : decode cX11_notes 44 = .ok (.goto (-27), 3) := by decide +kernel
theorem dX11_notes_47 : decode cX11_notes 47 = .ok (.aload_n 0, 1) := by decide +kernel
theorem dX11_notes_48 : decode cX11_notes 48 = .ok (.getfield 7, 3) := by decide +kernel
theorem dX11_notes_51 : decode cX11_notes 51 = .ok (.bipush 6, 2) := by decide +kernel
theorem dX11_notes_53 : decode cX11_notes 53 = .ok (.dup2, 1) := by decide +kernel
theorem dX11_notes_54 : decode cX11_notes 54 = .ok (.iaload, 1) := by decide +kernel
theorem dX11_notes_55 : decode cX11_notes 55 = .ok (.iconst 1, 1) := by decide +kernel
theorem dX11_notes_56 : decode cX11_notes 56 = .ok (.isub, 1) := by decide +kernel
theorem dX11_notes_57 : decode cX11_notes 57 = .ok (.iastore, 1) := by decide +kernel
theorem dX11_notes_58 : decode cX11_notes 58 = .ok (.sipush 165, 3) := by decide +kernel
theorem dX11_notes_61 : decode cX11_notes 61 = .ok (.iconst 5, 1) := by decide +kernel
theorem dX11_notes_62 : decode cX11_notes 62 = .ok (.aload_n 0, 1) := by decide +kernel
theorem dX11_notes_63 : decode cX11_notes 63 = .ok (.getfield 7, 3) := by decide +kernel
theorem dX11_notes_66 : decode cX11_notes 66 = .ok (.bipush 6, 2) := by decide +kernel
theorem dX11_notes_68 : decode cX11_notes 68 = .ok (.iaload, 1) := by decide +kernel
theorem dX11_notes_69 : decode cX11_notes 69 = .ok (.imul, 1) := by decide +kernel
theorem dX11_notes_70 : decode cX11_notes 70 = .ok (.iadd, 1) := by decide +kernel
theorem dX11_notes_71 : decode cX11_notes 71 = .ok (.istore 5, 2) := by decide +kernel
theorem dX11_notes_73 : decode cX11_notes 73 = .ok (.aload_n 0, 1) := by decide +kernel
theorem dX11_notes_74 : decode cX11_notes 74 = .ok (.getfield 7, 3) := by decide +kernel
theorem dX11_notes_77 : decode cX11_notes 77 = .ok (.iload 5, 2) := by decide +kernel
theorem dX11_notes_79 : decode cX11_notes 79 = .ok (.aload_n 0, 1) := by decide +kernel
theorem dX11_notes_80 : decode cX11_notes 80 = .ok (.getfield 7, 3) := by decide +kernel
theorem dX11_notes_83 : decode cX11_notes 83 = .ok (.iconst 3, 1) := by decide +kernel
theorem dX11_notes_84 : decode cX11_notes 84 = .ok (.iaload, 1) := by decide +kernel
theorem dX11_notes_85 : decode cX11_notes 85 = .ok (.iastore, 1) := by decide +kernel
theorem dX11_notes_86 : decode cX11_notes 86 = .ok (.aload_n 0, 1) := by decide +kernel
theorem dX11_notes_87 : decode cX11_notes 87 = .ok (.getfield 7, 3) := by decide +kernel
theorem dX11_notes_90 : decode cX11_notes 90 = .ok (.iload 5, 2) := by decide +kernel
theorem dX11_notes_92 : decode cX11_notes 92 = .ok (.iconst 1, 1) := by decide +kernel
theorem dX11_notes_93 : decode cX11_notes 93 = .ok (.iadd, 1) := by decide +kernel
theorem dX11_notes_94 : decode cX11_notes 94 = .ok (.iload_n 1, 1) := by decide +kernel
theorem dX11_notes_95 : decode cX11_notes 95 = .ok (.iastore, 1) := by decide +kernel
theorem dX11_notes_96 : decode cX11_notes 96 = .ok (.aload_n 0, 1) := by decide +kernel
theorem dX11_notes_97 : decode cX11_notes 97 = .ok (.getfield 7, 3) := by decide +kernel
theorem dX11_notes_100 : decode cX11_notes 100 = .ok (.iload 5, 2) := by decide +kernel
theorem dX11_notes_102 : decode cX11_notes 102 = .ok (.iconst 2, 1) := by decide +kernel
theorem dX11_notes_103 : decode cX11_notes 103 = .ok (.iadd, 1) := by decide +kernel
theorem dX11_notes_104 : decode cX11_notes 104 = .ok (.iload_n 2, 1) := by decide +kernel
theorem dX11_notes_105 : decode cX11_notes 105 = .ok (.iastore, 1) := by decide +kernel
theorem dX11_notes_106 : decode cX11_notes 106 = .ok (.aload_n 0, 1) := by decide +kernel
theorem dX11_notes_107 : decode cX11_notes 107 = .ok (.getfield 7, 3) := by decide +kernel
theorem dX11_notes_110 : decode cX11_notes 110 = .ok (.iload 5, 2) := by decide +kernel
theorem dX11_notes_112 : decode cX11_notes 112 = .ok (.iconst 3, 1) := by decide +kernel
theorem dX11_notes_113 : decode cX11_notes 113 = .ok (.iadd, 1) := by decide +kernel
theorem dX11_notes_114 : decode cX11_notes 114 = .ok (.iload_n 3, 1) := by decide +kernel
theorem dX11_notes_115 : decode cX11_notes 115 = .ok (.iastore, 1) := by decide +kernel
theorem dX11_notes_116 : decode cX11_notes 116 = .ok (.aload_n 0, 1) := by decide +kernel
theorem dX11_notes_117 : decode cX11_notes 117 = .ok (.getfield 7, 3) := by decide +kernel
theorem dX11_notes_120 : decode cX11_notes 120 = .ok (.iload 5, 2) := by decide +kernel
theorem dX11_notes_122 : decode cX11_notes 122 = .ok (.iconst 4, 1) := by decide +kernel
theorem dX11_notes_123 : decode cX11_notes 123 = .ok (.iadd, 1) := by decide +kernel
theorem dX11_notes_124 : decode cX11_notes 124 = .ok (.iload 4, 2) := by decide +kernel
theorem dX11_notes_126 : decode cX11_notes 126 = .ok (.iastore, 1) := by decide +kernel
theorem dX11_notes_127 : decode cX11_notes 127 = .ok (.aload_n 0, 1) := by decide +kernel
theorem dX11_notes_128 : decode cX11_notes 128 = .ok (.getfield 7, 3) := by decide +kernel
theorem dX11_notes_131 : decode cX11_notes 131 = .ok (.bipush 6, 2) := by decide +kernel
theorem dX11_notes_133 : decode cX11_notes 133 = .ok (.dup2, 1) := by decide +kernel
theorem dX11_notes_134 : decode cX11_notes 134 = .ok (.iaload, 1) := by decide +kernel
theorem dX11_notes_135 : decode cX11_notes 135 = .ok (.iconst 1, 1) := by decide +kernel
theorem dX11_notes_136 : decode cX11_notes 136 = .ok (.iadd, 1) := by decide +kernel
theorem dX11_notes_137 : decode cX11_notes 137 = .ok (.iastore, 1) := by decide +kernel
theorem dX11_notes_138 : decode cX11_notes 138 = .ok (.return_, 1) := by decide +kernel
theorem dX11_plays_0 : decode cX11_plays 0 = .ok (.aload_n 0, 1) := by decide +kernel
theorem dX11_plays_1 : decode cX11_plays 1 = .ok (.getfield 7, 3) := by decide +kernel
theorem dX11_plays_4 : decode cX11_plays 4 = .ok (.iconst 3, 1) := by decide +kernel
theorem dX11_plays_5 : decode cX11_plays 5 = .ok (.iaload, 1) := by decide +kernel
theorem dX11_plays_6 : decode cX11_plays 6 = .ok (.istore 4, 2) := by decide +kernel
theorem dX11_plays_8 : decode cX11_plays 8 = .ok (.aload_n 0, 1) := by decide +kernel
theorem dX11_plays_9 : decode cX11_plays 9 = .ok (.invokevirtual 206, 3) := by decide +kernel
theorem dX11_plays_12 : decode cX11_plays 12 = .ok (.istore 5, 2) := by decide +kernel
theorem dX11_plays_14 : decode cX11_plays 14 = .ok (.aload_n 0, 1) := by decide +kernel
theorem dX11_plays_15 : decode cX11_plays 15 = .ok (.iload_n 1, 1) := by decide +kernel
theorem dX11_plays_16 : decode cX11_plays 16 = .ok (.iload_n 2, 1) := by decide +kernel
theorem dX11_plays_17 : decode cX11_plays 17 = .ok (.iload_n 3, 1) := by decide +kernel
theorem dX11_plays_18 : decode cX11_plays 18 = .ok (.invokevirtual 233, 3) := by decide +kernel
theorem dX11_plays_21 : decode cX11_plays 21 = .ok (.aload_n 0, 1) := by decide +kernel
theorem dX11_plays_22 : decode cX11_plays 22 = .ok (.invokevirtual 206, 3) := by decide +kernel
theorem dX11_plays_25 : decode cX11_plays 25 = .ok (.istore 6, 2) := by decide +kernel
theorem dX11_plays_27 : decode cX11_plays 27 = .ok (.aload_n 0, 1) := by decide +kernel
theorem dX11_plays_28 : decode cX11_plays 28 = .ok (.iload 4, 2) := by decide +kernel
theorem dX11_plays_30 : decode cX11_plays 30 = .ok (.iconst 0, 1) := by decide +kernel
theorem dX11_plays_31 : decode cX11_plays 31 = .ok (.iconst 1, 1) := by decide +kernel
theorem dX11_plays_32 : decode cX11_plays 32 = .ok (.invokevirtual 236, 3) := by decide +kernel
theorem dX11_plays_35 : decode cX11_plays 35 = .ok (.aload_n 0, 1) := by decide +kernel
theorem dX11_plays_36 : decode cX11_plays 36 = .ok (.iload 4, 2) := by decide +kernel
theorem dX11_plays_38 : decode cX11_plays 38 = .ok (.iconst 1, 1) := by decide +kernel
theorem dX11_plays_39 : decode cX11_plays 39 = .ok (.iload_n 2, 1) := by decide +kernel
theorem dX11_plays_40 : decode cX11_plays 40 = .ok (.iload_n 3, 1) := by decide +kernel
theorem dX11_plays_41 : decode cX11_plays 41 = .ok (.iadd, 1) := by decide +kernel
theorem dX11_plays_42 : decode cX11_plays 42 = .ok (.invokevirtual 236, 3) := by decide +kernel
theorem dX11_plays_45 : decode cX11_plays 45 = .ok (.iload 6, 2) := by decide +kernel
theorem dX11_plays_47 : decode cX11_plays 47 = .ok (.ifCond .ne 14, 3) := by decide +kernel
theorem dX11_plays_50 : decode cX11_plays 50 = .ok (.aload_n 0, 1) := by decide +kernel
theorem dX11_plays_51 : decode cX11_plays 51 = .ok (.iload 4, 2) := by decide +kernel
theorem dX11_plays_53 : decode cX11_plays 53 = .ok (.iconst 3, 1) := by decide +kernel
theorem dX11_plays_54 : decode cX11_plays 54 = .ok (.iconst 1, 1) := by decide +kernel
theorem dX11_plays_55 : decode cX11_plays 55 = .ok (.invokevirtual 236, 3) := by decide +kernel
theorem dX11_plays_58 : decode cX11_plays 58 = .ok (.goto 16, 3) := by decide +kernel
theorem dX11_plays_61 : decode cX11_plays 61 = .ok (.iload 5, 2) := by decide +kernel
theorem dX11_plays_63 : decode cX11_plays 63 = .ok (.ifCond .eq 11, 3) := by decide +kernel
theorem dX11_plays_66 : decode cX11_plays 66 = .ok (.aload_n 0, 1) := by decide +kernel
theorem dX11_plays_67 : decode cX11_plays 67 = .ok (.iload 4, 2) := by decide +kernel
theorem dX11_plays_69 : decode cX11_plays 69 = .ok (.iconst 4, 1) := by decide +kernel
theorem dX11_plays_70 : decode cX11_plays 70 = .ok (.iconst 1, 1) := by decide +kernel
theorem dX11_plays_71 : decode cX11_plays 71 = .ok (.invokevirtual 236, 3) := by decide +kernel
theorem dX11_plays_74 : decode cX11_plays 74 = .ok (.aload_n 0, 1) := by decide +kernel
theorem dX11_plays_75 : decode cX11_plays 75 = .ok (.invokevirtual 239, 3) := by decide +kernel
theorem dX11_plays_78 : decode cX11_plays 78 = .ok (.ifCond .eq 11, 3) := by decide +kernel
theorem dX11_plays_81 : decode cX11_plays 81 = .ok (.aload_n 0, 1) := by decide +kernel
theorem dX11_plays_82 : decode cX11_plays 82 = .ok (.iload 4, 2) := by decide +kernel
theorem dX11_plays_84 : decode cX11_plays 84 = .ok (.iconst 2, 1) := by decide +kernel
theorem dX11_plays_85 : decode cX11_plays 85 = .ok (.iconst 1, 1) := by decide +kernel
theorem dX11_plays_86 : decode cX11_plays 86 = .ok (.invokevirtual 236, 3) := by decide +kernel
theorem dX11_plays_89 : decode cX11_plays 89 = .ok (.aload_n 0, 1) := by decide +kernel
theorem dX11_plays_90 : decode cX11_plays 90 = .ok (.iload_n 1, 1) := by decide +kernel
theorem dX11_plays_91 : decode cX11_plays 91 = .ok (.iload_n 2, 1) := by decide +kernel
theorem dX11_plays_92 : decode cX11_plays 92 = .ok (.iload_n 3, 1) := by decide +kernel
theorem dX11_plays_93 : decode cX11_plays 93 = .ok (.iload 6, 2) := by decide +kernel
theorem dX11_plays_95 : decode cX11_plays 95 = .ok (.invokevirtual 243, 3) := by decide +kernel
theorem dX11_plays_98 : decode cX11_plays 98 = .ok (.aload_n 0, 1) := by decide +kernel
theorem dX11_plays_99 : decode cX11_plays 99 = .ok (.getfield 7, 3) := by decide +kernel
theorem dX11_plays_102 : decode cX11_plays 102 = .ok (.iconst 4, 1) := by decide +kernel
theorem dX11_plays_103 : decode cX11_plays 103 = .ok (.dup2, 1) := by decide +kernel
theorem dX11_plays_104 : decode cX11_plays 104 = .ok (.iaload, 1) := by decide +kernel
theorem dX11_plays_105 : decode cX11_plays 105 = .ok (.iconst 1, 1) := by decide +kernel
theorem dX11_plays_106 : decode cX11_plays 106 = .ok (.iadd, 1) := by decide +kernel
theorem dX11_plays_107 : decode cX11_plays 107 = .ok (.iastore, 1) := by decide +kernel
theorem dX11_plays_108 : decode cX11_plays 108 = .ok (.aload_n 0, 1) := by decide +kernel
theorem dX11_plays_109 : decode cX11_plays 109 = .ok (.getfield 7, 3) := by decide +kernel
theorem dX11_plays_112 : decode cX11_plays 112 = .ok (.iconst 3, 1) := by decide +kernel
theorem dX11_plays_113 : decode cX11_plays 113 = .ok (.iconst 1, 1) := by decide +kernel
theorem dX11_plays_114 : decode cX11_plays 114 = .ok (.iload 4, 2) := by decide +kernel
theorem dX11_plays_116 : decode cX11_plays 116 = .ok (.isub, 1) := by decide +kernel
theorem dX11_plays_117 : decode cX11_plays 117 = .ok (.iastore, 1) := by decide +kernel
theorem dX11_plays_118 : decode cX11_plays 118 = .ok (.return_, 1) := by decide +kernel
theorem dX11_follows_0 : decode cX11_follows 0 = .ok (.iconst 0, 1) := by decide +kernel
theorem dX11_follows_1 : decode cX11_follows 1 = .ok (.istore_n 2, 1) := by decide +kernel
theorem dX11_follows_2 : decode cX11_follows 2 = .ok (.iload_n 2, 1) := by decide +kernel
theorem dX11_follows_3 : decode cX11_follows 3 = .ok (.iload_n 1, 1) := by decide +kernel
theorem dX11_follows_4 : decode cX11_follows 4 = .ok (.if_icmp .ge 32, 3) := by decide +kernel
theorem dX11_follows_7 : decode cX11_follows 7 = .ok (.aload_n 0, 1) := by decide +kernel
theorem dX11_follows_8 : decode cX11_follows 8 = .ok (.invokevirtual 247, 3) := by decide +kernel
theorem dX11_follows_11 : decode cX11_follows 11 = .ok (.ifCond .eq 25, 3) := by decide +kernel
theorem dX11_follows_14 : decode cX11_follows 14 = .ok (.aload_n 0, 1) := by decide +kernel
theorem dX11_follows_15 : decode cX11_follows 15 = .ok (.aload_n 0, 1) := by decide +kernel
theorem dX11_follows_16 : decode cX11_follows 16 = .ok (.getfield 216, 3) := by decide +kernel
theorem dX11_follows_19 : decode cX11_follows 19 = .ok (.aload_n 0, 1) := by decide +kernel
theorem dX11_follows_20 : decode cX11_follows 20 = .ok (.getfield 219, 3) := by decide +kernel
theorem dX11_follows_23 : decode cX11_follows 23 = .ok (.aload_n 0, 1) := by decide +kernel
theorem dX11_follows_24 : decode cX11_follows 24 = .ok (.getfield 222, 3) := by decide +kernel
theorem dX11_follows_27 : decode cX11_follows 27 = .ok (.invokevirtual 250, 3) := by decide +kernel
theorem dX11_follows_30 : decode cX11_follows 30 = .ok (.iinc 2 1, 3) := by decide +kernel
theorem dX11_follows_33 : decode cX11_follows 33 = .ok (.goto (-31), 3) := by decide +kernel
theorem dX11_follows_36 : decode cX11_follows 36 = .ok (.iload_n 2, 1) := by decide +kernel
theorem dX11_follows_37 : decode cX11_follows 37 = .ok (.ireturn, 1) := by decide +kernel
theorem dX11_appendWord_0 : decode cX11_appendWord 0 = .ok (.bipush 24, 2) := by decide +kernel
theorem dX11_appendWord_2 : decode cX11_appendWord 2 = .ok (.istore_n 2, 1) := by decide +kernel
theorem dX11_appendWord_3 : decode cX11_appendWord 3 = .ok (.iload_n 2, 1) := by decide +kernel
theorem dX11_appendWord_4 : decode cX11_appendWord 4 = .ok (.ifCond .lt 35, 3) := by decide +kernel
theorem dX11_appendWord_7 : decode cX11_appendWord 7 = .ok (.aload_n 0, 1) := by decide +kernel
theorem dX11_appendWord_8 : decode cX11_appendWord 8 = .ok (.getfield 47, 3) := by decide +kernel
theorem dX11_appendWord_11 : decode cX11_appendWord 11 = .ok (.aload_n 0, 1) := by decide +kernel
theorem dX11_appendWord_12 : decode cX11_appendWord 12 = .ok (.getfield 253, 3) := by decide +kernel
theorem dX11_appendWord_15 : decode cX11_appendWord 15 = .ok (.iload_n 1, 1) := by decide +kernel
theorem dX11_appendWord_16 : decode cX11_appendWord 16 = .ok (.iload_n 2, 1) := by decide +kernel
theorem dX11_appendWord_17 : decode cX11_appendWord 17 = .ok (.ishr, 1) := by decide +kernel
theorem dX11_appendWord_18 : decode cX11_appendWord 18 = .ok (.sipush 255, 3) := by decide +kernel
theorem dX11_appendWord_21 : decode cX11_appendWord 21 = .ok (.iand, 1) := by decide +kernel
theorem dX11_appendWord_22 : decode cX11_appendWord 22 = .ok (.iastore, 1) := by decide +kernel
theorem dX11_appendWord_23 : decode cX11_appendWord 23 = .ok (.aload_n 0, 1) := by decide +kernel
theorem dX11_appendWord_24 : decode cX11_appendWord 24 = .ok (.dup, 1) := by decide +kernel
theorem dX11_appendWord_25 : decode cX11_appendWord 25 = .ok (.getfield 253, 3) := by decide +kernel
theorem dX11_appendWord_28 : decode cX11_appendWord 28 = .ok (.iconst 1, 1) := by decide +kernel
theorem dX11_appendWord_29 : decode cX11_appendWord 29 = .ok (.iadd, 1) := by decide +kernel
theorem dX11_appendWord_30 : decode cX11_appendWord 30 = .ok (.putfield 253, 3) := by decide +kernel
theorem dX11_appendWord_33 : decode cX11_appendWord 33 = .ok (.iinc 2 (-8), 3) := by decide +kernel
theorem dX11_appendWord_36 : decode cX11_appendWord 36 = .ok (.goto (-33), 3) := by decide +kernel
theorem dX11_appendWord_39 : decode cX11_appendWord 39 = .ok (.return_, 1) := by decide +kernel
theorem dX11_appendInput_0 : decode cX11_appendInput 0 = .ok (.aload_n 0, 1) := by decide +kernel
theorem dX11_appendInput_1 : decode cX11_appendInput 1 = .ok (.iconst 0, 1) := by decide +kernel
theorem dX11_appendInput_2 : decode cX11_appendInput 2 = .ok (.putfield 67, 3) := by decide +kernel
theorem dX11_appendInput_5 : decode cX11_appendInput 5 = .ok (.aload_n 0, 1) := by decide +kernel
theorem dX11_appendInput_6 : decode cX11_appendInput 6 = .ok (.getfield 253, 3) := by decide +kernel
theorem dX11_appendInput_9 : decode cX11_appendInput 9 = .ok (.bipush 20, 2) := by decide +kernel
theorem dX11_appendInput_11 : decode cX11_appendInput 11 = .ok (.iadd, 1) := by decide +kernel
theorem dX11_appendInput_12 : decode cX11_appendInput 12 = .ok (.sipush 600, 3) := by decide +kernel
theorem dX11_appendInput_15 : decode cX11_appendInput 15 = .ok (.if_icmp .le 5, 3) := by decide +kernel
theorem dX11_appendInput_18 : decode cX11_appendInput 18 = .ok (.iconst (-1), 1) := by decide +kernel
theorem dX11_appendInput_19 : decode cX11_appendInput 19 = .ok (.ireturn, 1) := by decide +kernel
theorem dX11_appendInput_20 : decode cX11_appendInput 20 = .ok (.aload_n 0, 1) := by decide +kernel
theorem dX11_appendInput_21 : decode cX11_appendInput 21 = .ok (.iload_n 1, 1) := by decide +kernel
theorem dX11_appendInput_22 : decode cX11_appendInput 22 = .ok (.invokevirtual 256, 3) := by decide +kernel
theorem dX11_appendInput_25 : decode cX11_appendInput 25 = .ok (.aload_n 0, 1) := by decide +kernel
theorem dX11_appendInput_26 : decode cX11_appendInput 26 = .ok (.iload_n 2, 1) := by decide +kernel
theorem dX11_appendInput_27 : decode cX11_appendInput 27 = .ok (.invokevirtual 256, 3) := by decide +kernel
theorem dX11_appendInput_30 : decode cX11_appendInput 30 = .ok (.aload_n 0, 1) := by decide +kernel
theorem dX11_appendInput_31 : decode cX11_appendInput 31 = .ok (.iload_n 3, 1) := by decide +kernel
theorem dX11_appendInput_32 : decode cX11_appendInput 32 = .ok (.invokevirtual 256, 3) := by decide +kernel
theorem dX11_appendInput_35 : decode cX11_appendInput 35 = .ok (.aload_n 0, 1) := by decide +kernel
theorem dX11_appendInput_36 : decode cX11_appendInput 36 = .ok (.iload 4, 2) := by decide +kernel
theorem dX11_appendInput_38 : decode cX11_appendInput 38 = .ok (.invokevirtual 256, 3) := by decide +kernel
theorem dX11_appendInput_41 : decode cX11_appendInput 41 = .ok (.aload_n 0, 1) := by decide +kernel
theorem dX11_appendInput_42 : decode cX11_appendInput 42 = .ok (.iload 5, 2) := by decide +kernel
theorem dX11_appendInput_44 : decode cX11_appendInput 44 = .ok (.invokevirtual 256, 3) := by decide +kernel
theorem dX11_appendInput_47 : decode cX11_appendInput 47 = .ok (.aload_n 0, 1) := by decide +kernel
theorem dX11_appendInput_48 : decode cX11_appendInput 48 = .ok (.getfield 253, 3) := by decide +kernel
theorem dX11_appendInput_51 : decode cX11_appendInput 51 = .ok (.ireturn, 1) := by decide +kernel
theorem dX11_truncateInput_0 : decode cX11_truncateInput 0 = .ok (.aload_n 0, 1) := by decide +kernel
theorem dX11_truncateInput_1 : decode cX11_truncateInput 1 = .ok (.iconst 0, 1) := by decide +kernel
theorem dX11_truncateInput_2 : decode cX11_truncateInput 2 = .ok (.putfield 67, 3) := by decide +kernel
theorem dX11_truncateInput_5 : decode cX11_truncateInput 5 = .ok (.iload_n 1, 1) := by decide +kernel
theorem dX11_truncateInput_6 : decode cX11_truncateInput 6 = .ok (.iconst 0, 1) := by decide +kernel
theorem dX11_truncateInput_7 : decode cX11_truncateInput 7 = .ok (.aload_n 0, 1) := by decide +kernel
theorem dX11_truncateInput_8 : decode cX11_truncateInput 8 = .ok (.getfield 253, 3) := by decide +kernel
theorem dX11_truncateInput_11 : decode cX11_truncateInput 11 = .ok (.invokestatic 77, 3) := by decide +kernel
theorem dX11_truncateInput_14 : decode cX11_truncateInput 14 = .ok (.ifCond .ne 5, 3) := by decide +kernel
theorem dX11_truncateInput_17 : decode cX11_truncateInput 17 = .ok (.iconst 0, 1) := by decide +kernel
theorem dX11_truncateInput_18 : decode cX11_truncateInput 18 = .ok (.ireturn, 1) := by decide +kernel
theorem dX11_truncateInput_19 : decode cX11_truncateInput 19 = .ok (.aload_n 0, 1) := by decide +kernel
theorem dX11_truncateInput_20 : decode cX11_truncateInput 20 = .ok (.iload_n 1, 1) := by decide +kernel
theorem dX11_truncateInput_21 : decode cX11_truncateInput 21 = .ok (.putfield 253, 3) := by decide +kernel
theorem dX11_truncateInput_24 : decode cX11_truncateInput 24 = .ok (.iconst 1, 1) := by decide +kernel
theorem dX11_truncateInput_25 : decode cX11_truncateInput 25 = .ok (.ireturn, 1) := by decide +kernel
theorem dX11_byteAt_0 : decode cX11_byteAt 0 = .ok (.iload_n 1, 1) := by decide +kernel
theorem dX11_byteAt_1 : decode cX11_byteAt 1 = .ok (.aload_n 0, 1) := by decide +kernel
theorem dX11_byteAt_2 : decode cX11_byteAt 2 = .ok (.getfield 253, 3) := by decide +kernel
theorem dX11_byteAt_5 : decode cX11_byteAt 5 = .ok (.if_icmp .ge 12, 3) := by decide +kernel
theorem dX11_byteAt_8 : decode cX11_byteAt 8 = .ok (.aload_n 0, 1) := by decide +kernel
theorem dX11_byteAt_9 : decode cX11_byteAt 9 = .ok (.getfield 47, 3) := by decide +kernel
theorem dX11_byteAt_12 : decode cX11_byteAt 12 = .ok (.iload_n 1, 1) := by decide +kernel
theorem dX11_byteAt_13 : decode cX11_byteAt 13 = .ok (.iaload, 1) := by decide +kernel
theorem dX11_byteAt_14 : decode cX11_byteAt 14 = .ok (.goto 4, 3) := by decide +kernel
theorem dX11_byteAt_17 : decode cX11_byteAt 17 = .ok (.iconst (-1), 1) := by decide +kernel
theorem dX11_byteAt_18 : decode cX11_byteAt 18 = .ok (.ireturn, 1) := by decide +kernel
theorem dX11_isLetter_0 : decode cX11_isLetter 0 = .ok (.aload_n 0, 1) := by decide +kernel
theorem dX11_isLetter_1 : decode cX11_isLetter 1 = .ok (.iload_n 1, 1) := by decide +kernel
theorem dX11_isLetter_2 : decode cX11_isLetter 2 = .ok (.invokevirtual 259, 3) := by decide +kernel
theorem dX11_isLetter_5 : decode cX11_isLetter 5 = .ok (.bipush 97, 2) := by decide +kernel
theorem dX11_isLetter_7 : decode cX11_isLetter 7 = .ok (.bipush 122, 2) := by decide +kernel
theorem dX11_isLetter_9 : decode cX11_isLetter 9 = .ok (.invokestatic 77, 3) := by decide +kernel
theorem dX11_isLetter_12 : decode cX11_isLetter 12 = .ok (.ireturn, 1) := by decide +kernel
theorem dX11_advanceToken_0 : decode cX11_advanceToken 0 = .ok (.aload_n 0, 1) := by decide +kernel
theorem dX11_advanceToken_1 : decode cX11_advanceToken 1 = .ok (.aload_n 0, 1) := by decide +kernel
theorem dX11_advanceToken_2 : decode cX11_advanceToken 2 = .ok (.getfield 262, 3) := by decide +kernel
theorem dX11_advanceToken_5 : decode cX11_advanceToken 5 = .ok (.invokevirtual 259, 3) := by decide +kernel
theorem dX11_advanceToken_8 : decode cX11_advanceToken 8 = .ok (.bipush 32, 2) := by decide +kernel
theorem dX11_advanceToken_10 : decode cX11_advanceToken 10 = .ok (.if_icmp .eq 16, 3) := by decide +kernel
theorem dX11_advanceToken_13 : decode cX11_advanceToken 13 = .ok (.aload_n 0, 1) := by decide +kernel
theorem dX11_advanceToken_14 : decode cX11_advanceToken 14 = .ok (.aload_n 0, 1) := by decide +kernel
theorem dX11_advanceToken_15 : decode cX11_advanceToken 15 = .ok (.getfield 262, 3) := by decide +kernel
theorem dX11_advanceToken_18 : decode cX11_advanceToken 18 = .ok (.invokevirtual 259, 3) := by decide +kernel
theorem dX11_advanceToken_21 : decode cX11_advanceToken 21 = .ok (.bipush 10, 2) := by decide +kernel
theorem dX11_advanceToken_23 : decode cX11_advanceToken 23 = .ok (.if_icmp .ne 16, 3) := by decide +kernel
theorem dX11_advanceToken_26 : decode cX11_advanceToken 26 = .ok (.aload_n 0, 1) := by decide +kernel
theorem dX11_advanceToken_27 : decode cX11_advanceToken 27 = .ok (.dup, 1) := by decide +kernel
theorem dX11_advanceToken_28 : decode cX11_advanceToken 28 = .ok (.getfield 262, 3) := by decide +kernel
theorem dX11_advanceToken_31 : decode cX11_advanceToken 31 = .ok (.iconst 1, 1) := by decide +kernel
theorem dX11_advanceToken_32 : decode cX11_advanceToken 32 = .ok (.iadd, 1) := by decide +kernel
theorem dX11_advanceToken_33 : decode cX11_advanceToken 33 = .ok (.putfield 262, 3) := by decide +kernel
theorem dX11_advanceToken_36 : decode cX11_advanceToken 36 = .ok (.goto (-36), 3) := by decide +kernel
theorem dX11_advanceToken_39 : decode cX11_advanceToken 39 = .ok (.aload_n 0, 1) := by decide +kernel
theorem dX11_advanceToken_40 : decode cX11_advanceToken 40 = .ok (.aload_n 0, 1) := by decide +kernel
theorem dX11_advanceToken_41 : decode cX11_advanceToken 41 = .ok (.getfield 262, 3) := by decide +kernel
theorem dX11_advanceToken_44 : decode cX11_advanceToken 44 = .ok (.putfield 265, 3) := by decide +kernel
theorem dX11_advanceToken_47 : decode cX11_advanceToken 47 = .ok (.aload_n 0, 1) := by decide +kernel
theorem dX11_advanceToken_48 : decode cX11_advanceToken 48 = .ok (.aload_n 0, 1) := by decide +kernel
theorem dX11_advanceToken_49 : decode cX11_advanceToken 49 = .ok (.getfield 262, 3) := by decide +kernel
theorem dX11_advanceToken_52 : decode cX11_advanceToken 52 = .ok (.invokevirtual 259, 3) := by decide +kernel
theorem dX11_advanceToken_55 : decode cX11_advanceToken 55 = .ok (.istore_n 1, 1) := by decide +kernel
theorem dX11_advanceToken_56 : decode cX11_advanceToken 56 = .ok (.aload_n 0, 1) := by decide +kernel
theorem dX11_advanceToken_57 : decode cX11_advanceToken 57 = .ok (.iconst 0, 1) := by decide +kernel
theorem dX11_advanceToken_58 : decode cX11_advanceToken 58 = .ok (.putfield 268, 3) := by decide +kernel
theorem dX11_advanceToken_61 : decode cX11_advanceToken 61 = .ok (.iload_n 1, 1) := by decide +kernel
theorem dX11_advanceToken_62 : decode cX11_advanceToken 62 = .ok (.iconst (-1), 1) := by decide +kernel
theorem dX11_advanceToken_63 : decode cX11_advanceToken 63 = .ok (.if_icmp .ne 11, 3) := by decide +kernel
theorem dX11_advanceToken_66 : decode cX11_advanceToken 66 = .ok (.aload_n 0, 1) := by decide +kernel
theorem dX11_advanceToken_67 : decode cX11_advanceToken 67 = .ok (.iconst 0, 1) := by decide +kernel
theorem dX11_advanceToken_68 : decode cX11_advanceToken 68 = .ok (.putfield 271, 3) := by decide +kernel
theorem dX11_advanceToken_71 : decode cX11_advanceToken 71 = .ok (.goto 158, 3) := by decide +kernel
theorem dX11_advanceToken_74 : decode cX11_advanceToken 74 = .ok (.aload_n 0, 1) := by decide +kernel
theorem dX11_advanceToken_75 : decode cX11_advanceToken 75 = .ok (.aload_n 0, 1) := by decide +kernel
theorem dX11_advanceToken_76 : decode cX11_advanceToken 76 = .ok (.getfield 262, 3) := by decide +kernel
theorem dX11_advanceToken_79 : decode cX11_advanceToken 79 = .ok (.invokevirtual 274, 3) := by decide +kernel
theorem dX11_advanceToken_82 : decode cX11_advanceToken 82 = .ok (.ifCond .eq 32, 3) := by decide +kernel
theorem dX11_advanceToken_85 : decode cX11_advanceToken 85 = .ok (.aload_n 0, 1) := by decide +kernel
theorem dX11_advanceToken_86 : decode cX11_advanceToken 86 = .ok (.iconst 1, 1) := by decide +kernel
theorem dX11_advanceToken_87 : decode cX11_advanceToken 87 = .ok (.putfield 271, 3) := by decide +kernel
theorem dX11_advanceToken_90 : decode cX11_advanceToken 90 = .ok (.aload_n 0, 1) := by decide +kernel
theorem dX11_advanceToken_91 : decode cX11_advanceToken 91 = .ok (.aload_n 0, 1) := by decide +kernel
theorem dX11_advanceToken_92 : decode cX11_advanceToken 92 = .ok (.getfield 262, 3) := by decide +kernel
theorem dX11_advanceToken_95 : decode cX11_advanceToken 95 = .ok (.invokevirtual 274, 3) := by decide +kernel
theorem dX11_advanceToken_98 : decode cX11_advanceToken 98 = .ok (.ifCond .eq 131, 3) := by decide +kernel
theorem dX11_advanceToken_101 : decode cX11_advanceToken 101 = .ok (.aload_n 0, 1) := by decide +kernel
theorem dX11_advanceToken_102 : decode cX11_advanceToken 102 = .ok (.dup, 1) := by decide +kernel
theorem dX11_advanceToken_103 : decode cX11_advanceToken 103 = .ok (.getfield 262, 3) := by decide +kernel
theorem dX11_advanceToken_106 : decode cX11_advanceToken 106 = .ok (.iconst 1, 1) := by decide +kernel
theorem dX11_advanceToken_107 : decode cX11_advanceToken 107 = .ok (.iadd, 1) := by decide +kernel
theorem dX11_advanceToken_108 : decode cX11_advanceToken 108 = .ok (.putfield 262, 3) := by decide +kernel
theorem dX11_advanceToken_111 : decode cX11_advanceToken 111 = .ok (.goto (-21), 3) := by decide +kernel
theorem dX11_advanceToken_114 : decode cX11_advanceToken 114 = .ok (.iload_n 1, 1) := by decide +kernel
theorem dX11_advanceToken_115 : decode cX11_advanceToken 115 = .ok (.bipush 48, 2) := by decide +kernel
theorem dX11_advanceToken_117 : decode cX11_advanceToken 117 = .ok (.bipush 57, 2) := by decide +kernel
theorem dX11_advanceToken_119 : decode cX11_advanceToken 119 = .ok (.invokestatic 77, 3) := by decide +kernel
theorem dX11_advanceToken_122 : decode cX11_advanceToken 122 = .ok (.ifCond .eq 82, 3) := by decide +kernel
theorem dX11_advanceToken_125 : decode cX11_advanceToken 125 = .ok (.aload_n 0, 1) := by decide +kernel
theorem dX11_advanceToken_126 : decode cX11_advanceToken 126 = .ok (.iconst 2, 1) := by decide +kernel
theorem dX11_advanceToken_127 : decode cX11_advanceToken 127 = .ok (.putfield 271, 3) := by decide +kernel
theorem dX11_advanceToken_130 : decode cX11_advanceToken 130 = .ok (.aload_n 0, 1) := by decide +kernel
theorem dX11_advanceToken_131 : decode cX11_advanceToken 131 = .ok (.aload_n 0, 1) := by decide +kernel
theorem dX11_advanceToken_132 : decode cX11_advanceToken 132 = .ok (.getfield 262, 3) := by decide +kernel
theorem dX11_advanceToken_135 : decode cX11_advanceToken 135 = .ok (.invokevirtual 259, 3) := by decide +kernel
theorem dX11_advanceToken_138 : decode cX11_advanceToken 138 = .ok (.bipush 48, 2) := by decide +kernel
theorem dX11_advanceToken_140 : decode cX11_advanceToken 140 = .ok (.bipush 57, 2) := by decide +kernel
theorem dX11_advanceToken_142 : decode cX11_advanceToken 142 = .ok (.invokestatic 77, 3) := by decide +kernel
theorem dX11_advanceToken_145 : decode cX11_advanceToken 145 = .ok (.ifCond .eq 84, 3) := by decide +kernel
theorem dX11_advanceToken_148 : decode cX11_advanceToken 148 = .ok (.aload_n 0, 1) := by decide +kernel
theorem dX11_advanceToken_149 : decode cX11_advanceToken 149 = .ok (.aload_n 0, 1) := by decide +kernel
theorem dX11_advanceToken_150 : decode cX11_advanceToken 150 = .ok (.getfield 262, 3) := by decide +kernel
theorem dX11_advanceToken_153 : decode cX11_advanceToken 153 = .ok (.aload_n 0, 1) := by decide +kernel
theorem dX11_advanceToken_154 : decode cX11_advanceToken 154 = .ok (.getfield 265, 3) := by decide +kernel
theorem dX11_advanceToken_157 : decode cX11_advanceToken 157 = .ok (.isub, 1) := by decide +kernel
theorem dX11_advanceToken_158 : decode cX11_advanceToken 158 = .ok (.iconst 3, 1) := by decide +kernel
theorem dX11_advanceToken_159 : decode cX11_advanceToken 159 = .ok (.if_icmp .ge 25, 3) := by decide +kernel
theorem dX11_advanceToken_162 : decode cX11_advanceToken 162 = .ok (.bipush 10, 2) := by decide +kernel
theorem dX11_advanceToken_164 : decode cX11_advanceToken 164 = .ok (.aload_n 0, 1) := by decide +kernel
theorem dX11_advanceToken_165 : decode cX11_advanceToken 165 = .ok (.getfield 268, 3) := by decide +kernel
theorem dX11_advanceToken_168 : decode cX11_advanceToken 168 = .ok (.imul, 1) := by decide +kernel
theorem dX11_advanceToken_169 : decode cX11_advanceToken 169 = .ok (.aload_n 0, 1) := by decide +kernel
theorem dX11_advanceToken_170 : decode cX11_advanceToken 170 = .ok (.aload_n 0, 1) := by decide +kernel
theorem dX11_advanceToken_171 : decode cX11_advanceToken 171 = .ok (.getfield 262, 3) := by decide +kernel
theorem dX11_advanceToken_174 : decode cX11_advanceToken 174 = .ok (.invokevirtual 259, 3) := by decide +kernel
theorem dX11_advanceToken_177 : decode cX11_advanceToken 177 = .ok (.iadd, 1) := by decide +kernel
theorem dX11_advanceToken_178 : decode cX11_advanceToken 178 = .ok (.bipush 48, 2) := by decide +kernel
theorem dX11_advanceToken_180 : decode cX11_advanceToken 180 = .ok (.isub, 1) := by decide +kernel
theorem dX11_advanceToken_181 : decode cX11_advanceToken 181 = .ok (.goto 7, 3) := by decide +kernel
theorem dX11_advanceToken_184 : decode cX11_advanceToken 184 = .ok (.aload_n 0, 1) := by decide +kernel
theorem dX11_advanceToken_185 : decode cX11_advanceToken 185 = .ok (.getfield 268, 3) := by decide +kernel
theorem dX11_advanceToken_188 : decode cX11_advanceToken 188 = .ok (.putfield 268, 3) := by decide +kernel
theorem dX11_advanceToken_191 : decode cX11_advanceToken 191 = .ok (.aload_n 0, 1) := by decide +kernel
theorem dX11_advanceToken_192 : decode cX11_advanceToken 192 = .ok (.dup, 1) := by decide +kernel
theorem dX11_advanceToken_193 : decode cX11_advanceToken 193 = .ok (.getfield 262, 3) := by decide +kernel
theorem dX11_advanceToken_196 : decode cX11_advanceToken 196 = .ok (.iconst 1, 1) := by decide +kernel
theorem dX11_advanceToken_197 : decode cX11_advanceToken 197 = .ok (.iadd, 1) := by decide +kernel
theorem dX11_advanceToken_198 : decode cX11_advanceToken 198 = .ok (.putfield 262, 3) := by decide +kernel
theorem dX11_advanceToken_201 : decode cX11_advanceToken 201 = .ok (.goto (-71), 3) := by decide +kernel
theorem dX11_advanceToken_204 : decode cX11_advanceToken 204 = .ok (.aload_n 0, 1) := by decide +kernel
theorem dX11_advanceToken_205 : decode cX11_advanceToken 205 = .ok (.iload_n 1, 1) := by decide +kernel
theorem dX11_advanceToken_206 : decode cX11_advanceToken 206 = .ok (.bipush 59, 2) := by decide +kernel
theorem dX11_advanceToken_208 : decode cX11_advanceToken 208 = .ok (.if_icmp .ne 7, 3) := by decide +kernel
theorem dX11_advanceToken_211 : decode cX11_advanceToken 211 = .ok (.iconst 3, 1) := by decide +kernel
theorem dX11_advanceToken_212 : decode cX11_advanceToken 212 = .ok (.goto 4, 3) := by decide +kernel
theorem dX11_advanceToken_215 : decode cX11_advanceToken 215 = .ok (.iconst 4, 1) := by decide +kernel
theorem dX11_advanceToken_216 : decode cX11_advanceToken 216 = .ok (.putfield 271, 3) := by decide +kernel
theorem dX11_advanceToken_219 : decode cX11_advanceToken 219 = .ok (.aload_n 0, 1) := by decide +kernel
theorem dX11_advanceToken_220 : decode cX11_advanceToken 220 = .ok (.dup, 1) := by decide +kernel
theorem dX11_advanceToken_221 : decode cX11_advanceToken 221 = .ok (.getfield 262, 3) := by decide +kernel
theorem dX11_advanceToken_224 : decode cX11_advanceToken 224 = .ok (.iconst 1, 1) := by decide +kernel
theorem dX11_advanceToken_225 : decode cX11_advanceToken 225 = .ok (.iadd, 1) := by decide +kernel
theorem dX11_advanceToken_226 : decode cX11_advanceToken 226 = .ok (.putfield 262, 3) := by decide +kernel
theorem dX11_advanceToken_229 : decode cX11_advanceToken 229 = .ok (.return_, 1) := by decide +kernel
theorem dX11_failsAt_0 : decode cX11_failsAt 0 = .ok (.aload_n 0, 1) := by decide +kernel
theorem dX11_failsAt_1 : decode cX11_failsAt 1 = .ok (.getfield 277, 3) := by decide +kernel
theorem dX11_failsAt_4 : decode cX11_failsAt 4 = .ok (.ifCond .ne 16, 3) := by decide +kernel
theorem dX11_failsAt_7 : decode cX11_failsAt 7 = .ok (.aload_n 0, 1) := by decide +kernel
theorem dX11_failsAt_8 : decode cX11_failsAt 8 = .ok (.iload_n 1, 1) := by decide +kernel
theorem dX11_failsAt_9 : decode cX11_failsAt 9 = .ok (.putfield 277, 3) := by decide +kernel
theorem dX11_failsAt_12 : decode cX11_failsAt 12 = .ok (.aload_n 0, 1) := by decide +kernel
theorem dX11_failsAt_13 : decode cX11_failsAt 13 = .ok (.aload_n 0, 1) := by decide +kernel
theorem dX11_failsAt_14 : decode cX11_failsAt 14 = .ok (.getfield 265, 3) := by decide +kernel
theorem dX11_failsAt_17 : decode cX11_failsAt 17 = .ok (.putfield 280, 3) := by decide +kernel
theorem dX11_failsAt_20 : decode cX11_failsAt 20 = .ok (.iconst 0, 1) := by decide +kernel
theorem dX11_failsAt_21 : decode cX11_failsAt 21 = .ok (.ireturn, 1) := by decide +kernel
theorem dX11_isWord_0 : decode cX11_isWord 0 = .ok (.aload_n 0, 1) := by decide +kernel
theorem dX11_isWord_1 : decode cX11_isWord 1 = .ok (.getfield 271, 3) := by decide +kernel
theorem dX11_isWord_4 : decode cX11_isWord 4 = .ok (.iconst 1, 1) := by decide +kernel
theorem dX11_isWord_5 : decode cX11_isWord 5 = .ok (.if_icmp .ne 19, 3) := by decide +kernel
theorem dX11_isWord_8 : decode cX11_isWord 8 = .ok (.aload_n 0, 1) := by decide +kernel
theorem dX11_isWord_9 : decode cX11_isWord 9 = .ok (.getfield 262, 3) := by decide +kernel
theorem dX11_isWord_12 : decode cX11_isWord 12 = .ok (.aload_n 0, 1) := by decide +kernel
theorem dX11_isWord_13 : decode cX11_isWord 13 = .ok (.getfield 265, 3) := by decide +kernel
theorem dX11_isWord_16 : decode cX11_isWord 16 = .ok (.isub, 1) := by decide +kernel
theorem dX11_isWord_17 : decode cX11_isWord 17 = .ok (.aload_n 1, 1) := by decide +kernel
theorem dX11_isWord_18 : decode cX11_isWord 18 = .ok (.invokevirtual 283, 3) := by decide +kernel
theorem dX11_isWord_21 : decode cX11_isWord 21 = .ok (.if_icmp .eq 5, 3) := by decide +kernel
theorem dX11_isWord_24 : decode cX11_isWord 24 = .ok (.iconst 0, 1) := by decide +kernel
theorem dX11_isWord_25 : decode cX11_isWord 25 = .ok (.ireturn, 1) := by decide +kernel
theorem dX11_isWord_26 : decode cX11_isWord 26 = .ok (.iconst 0, 1) := by decide +kernel
theorem dX11_isWord_27 : decode cX11_isWord 27 = .ok (.istore_n 2, 1) := by decide +kernel
theorem dX11_isWord_28 : decode cX11_isWord 28 = .ok (.iload_n 2, 1) := by decide +kernel
theorem dX11_isWord_29 : decode cX11_isWord 29 = .ok (.aload_n 1, 1) := by decide +kernel
theorem dX11_isWord_30 : decode cX11_isWord 30 = .ok (.invokevirtual 283, 3) := by decide +kernel
theorem dX11_isWord_33 : decode cX11_isWord 33 = .ok (.if_icmp .ge 30, 3) := by decide +kernel
theorem dX11_isWord_36 : decode cX11_isWord 36 = .ok (.aload_n 0, 1) := by decide +kernel
theorem dX11_isWord_37 : decode cX11_isWord 37 = .ok (.getfield 47, 3) := by decide +kernel
theorem dX11_isWord_40 : decode cX11_isWord 40 = .ok (.aload_n 0, 1) := by decide +kernel
theorem dX11_isWord_41 : decode cX11_isWord 41 = .ok (.getfield 265, 3) := by decide +kernel
theorem dX11_isWord_44 : decode cX11_isWord 44 = .ok (.iload_n 2, 1) := by decide +kernel
theorem dX11_isWord_45 : decode cX11_isWord 45 = .ok (.iadd, 1) := by decide +kernel
theorem dX11_isWord_46 : decode cX11_isWord 46 = .ok (.iaload, 1) := by decide +kernel
theorem dX11_isWord_47 : decode cX11_isWord 47 = .ok (.aload_n 1, 1) := by decide +kernel
theorem dX11_isWord_48 : decode cX11_isWord 48 = .ok (.iload_n 2, 1) := by decide +kernel
theorem dX11_isWord_49 : decode cX11_isWord 49 = .ok (.invokevirtual 288, 3) := by decide +kernel
theorem dX11_isWord_52 : decode cX11_isWord 52 = .ok (.if_icmp .eq 5, 3) := by decide +kernel
theorem dX11_isWord_55 : decode cX11_isWord 55 = .ok (.iconst 0, 1) := by decide +kernel
theorem dX11_isWord_56 : decode cX11_isWord 56 = .ok (.ireturn, 1) := by decide +kernel
theorem dX11_isWord_57 : decode cX11_isWord 57 = .ok (.iinc 2 1, 3) := by decide +kernel
theorem dX11_isWord_60 : decode cX11_isWord 60 = .ok (.goto (-32), 3) := by decide +kernel
theorem dX11_isWord_63 : decode cX11_isWord 63 = .ok (.iconst 1, 1) := by decide +kernel
theorem dX11_isWord_64 : decode cX11_isWord 64 = .ok (.ireturn, 1) := by decide +kernel
theorem dX11_seesNumber_0 : decode cX11_seesNumber 0 = .ok (.aload_n 0, 1) := by decide +kernel
theorem dX11_seesNumber_1 : decode cX11_seesNumber 1 = .ok (.getfield 271, 3) := by decide +kernel
theorem dX11_seesNumber_4 : decode cX11_seesNumber 4 = .ok (.iconst 2, 1) := by decide +kernel
theorem dX11_seesNumber_5 : decode cX11_seesNumber 5 = .ok (.if_icmp .ne 16, 3) := by decide +kernel
theorem dX11_seesNumber_8 : decode cX11_seesNumber 8 = .ok (.aload_n 0, 1) := by decide +kernel
theorem dX11_seesNumber_9 : decode cX11_seesNumber 9 = .ok (.getfield 262, 3) := by decide +kernel
theorem dX11_seesNumber_12 : decode cX11_seesNumber 12 = .ok (.aload_n 0, 1) := by decide +kernel
theorem dX11_seesNumber_13 : decode cX11_seesNumber 13 = .ok (.getfield 265, 3) := by decide +kernel
theorem dX11_seesNumber_16 : decode cX11_seesNumber 16 = .ok (.isub, 1) := by decide +kernel
theorem dX11_seesNumber_17 : decode cX11_seesNumber 17 = .ok (.iconst 3, 1) := by decide +kernel
theorem dX11_seesNumber_18 : decode cX11_seesNumber 18 = .ok (.if_icmp .le 9, 3) := by decide +kernel
theorem dX11_seesNumber_21 : decode cX11_seesNumber 21 = .ok (.aload_n 0, 1) := by decide +kernel
theorem dX11_seesNumber_22 : decode cX11_seesNumber 22 = .ok (.iconst 1, 1) := by decide +kernel
theorem dX11_seesNumber_23 : decode cX11_seesNumber 23 = .ok (.invokevirtual 292, 3) := by decide +kernel
theorem dX11_seesNumber_26 : decode cX11_seesNumber 26 = .ok (.ireturn, 1) := by decide +kernel
theorem dX11_seesNumber_27 : decode cX11_seesNumber 27 = .ok (.aload_n 0, 1) := by decide +kernel
theorem dX11_seesNumber_28 : decode cX11_seesNumber 28 = .ok (.getfield 268, 3) := by decide +kernel
theorem dX11_seesNumber_31 : decode cX11_seesNumber 31 = .ok (.iload_n 1, 1) := by decide +kernel
theorem dX11_seesNumber_32 : decode cX11_seesNumber 32 = .ok (.iload_n 2, 1) := by decide +kernel
theorem dX11_seesNumber_33 : decode cX11_seesNumber 33 = .ok (.invokestatic 77, 3) := by decide +kernel
theorem dX11_seesNumber_36 : decode cX11_seesNumber 36 = .ok (.ifCond .ne 9, 3) := by decide +kernel
theorem dX11_seesNumber_39 : decode cX11_seesNumber 39 = .ok (.aload_n 0, 1) := by decide +kernel
theorem dX11_seesNumber_40 : decode cX11_seesNumber 40 = .ok (.iconst 2, 1) := by decide +kernel
theorem dX11_seesNumber_41 : decode cX11_seesNumber 41 = .ok (.invokevirtual 292, 3) := by decide +kernel
theorem dX11_seesNumber_44 : decode cX11_seesNumber 44 = .ok (.ireturn, 1) := by decide +kernel
theorem dX11_seesNumber_45 : decode cX11_seesNumber 45 = .ok (.aload_n 0, 1) := by decide +kernel
theorem dX11_seesNumber_46 : decode cX11_seesNumber 46 = .ok (.aload_n 0, 1) := by decide +kernel
theorem dX11_seesNumber_47 : decode cX11_seesNumber 47 = .ok (.getfield 268, 3) := by decide +kernel
theorem dX11_seesNumber_50 : decode cX11_seesNumber 50 = .ok (.putfield 295, 3) := by decide +kernel
theorem dX11_seesNumber_53 : decode cX11_seesNumber 53 = .ok (.iconst 1, 1) := by decide +kernel
theorem dX11_seesNumber_54 : decode cX11_seesNumber 54 = .ok (.ireturn, 1) := by decide +kernel
theorem dX11_takesNumber_0 : decode cX11_takesNumber 0 = .ok (.aload_n 0, 1) := by decide +kernel
theorem dX11_takesNumber_1 : decode cX11_takesNumber 1 = .ok (.iload_n 1, 1) := by decide +kernel
theorem dX11_takesNumber_2 : decode cX11_takesNumber 2 = .ok (.iload_n 2, 1) := by decide +kernel
theorem dX11_takesNumber_3 : decode cX11_takesNumber 3 = .ok (.invokevirtual 298, 3) := by decide +kernel
theorem dX11_takesNumber_6 : decode cX11_takesNumber 6 = .ok (.ifCond .ne 5, 3) := by decide +kernel
theorem dX11_takesNumber_9 : decode cX11_takesNumber 9 = .ok (.iconst 0, 1) := by decide +kernel
theorem dX11_takesNumber_10 : decode cX11_takesNumber 10 = .ok (.ireturn, 1) := by decide +kernel
theorem dX11_takesNumber_11 : decode cX11_takesNumber 11 = .ok (.aload_n 0, 1) := by decide +kernel
theorem dX11_takesNumber_12 : decode cX11_takesNumber 12 = .ok (.invokevirtual 301, 3) := by decide +kernel
theorem dX11_takesNumber_15 : decode cX11_takesNumber 15 = .ok (.iconst 1, 1) := by decide +kernel
theorem dX11_takesNumber_16 : decode cX11_takesNumber 16 = .ok (.ireturn, 1) := by decide +kernel
theorem dX11_seesName_0 : decode cX11_seesName 0 = .ok (.aload_n 0, 1) := by decide +kernel
theorem dX11_seesName_1 : decode cX11_seesName 1 = .ok (.getfield 271, 3) := by decide +kernel
theorem dX11_seesName_4 : decode cX11_seesName 4 = .ok (.iconst 1, 1) := by decide +kernel
theorem dX11_seesName_5 : decode cX11_seesName 5 = .ok (.if_icmp .ne 17, 3) := by decide +kernel
theorem dX11_seesName_8 : decode cX11_seesName 8 = .ok (.aload_n 0, 1) := by decide +kernel
theorem dX11_seesName_9 : decode cX11_seesName 9 = .ok (.getfield 262, 3) := by decide +kernel
theorem dX11_seesName_12 : decode cX11_seesName 12 = .ok (.aload_n 0, 1) := by decide +kernel
theorem dX11_seesName_13 : decode cX11_seesName 13 = .ok (.getfield 265, 3) := by decide +kernel
theorem dX11_seesName_16 : decode cX11_seesName 16 = .ok (.isub, 1) := by decide +kernel
theorem dX11_seesName_17 : decode cX11_seesName 17 = .ok (.bipush 8, 2) := by decide +kernel
theorem dX11_seesName_19 : decode cX11_seesName 19 = .ok (.if_icmp .le 11, 3) := by decide +kernel
theorem dX11_seesName_22 : decode cX11_seesName 22 = .ok (.aload_n 0, 1) := by decide +kernel
theorem dX11_seesName_23 : decode cX11_seesName 23 = .ok (.iconst 1, 1) := by decide +kernel
theorem dX11_seesName_24 : decode cX11_seesName 24 = .ok (.invokevirtual 292, 3) := by decide +kernel
theorem dX11_seesName_27 : decode cX11_seesName 27 = .ok (.ifCond .eq 7, 3) := by decide +kernel
theorem dX11_seesName_30 : decode cX11_seesName 30 = .ok (.iconst 1, 1) := by decide +kernel
theorem dX11_seesName_31 : decode cX11_seesName 31 = .ok (.goto 4, 3) := by decide +kernel
theorem dX11_seesName_34 : decode cX11_seesName 34 = .ok (.iconst 0, 1) := by decide +kernel
theorem dX11_seesName_35 : decode cX11_seesName 35 = .ok (.ireturn, 1) := by decide +kernel
theorem dX11_isNameOf_0 : decode cX11_isNameOf 0 = .ok (.bipush 17, 2) := by decide +kernel
theorem dX11_isNameOf_2 : decode cX11_isNameOf 2 = .ok (.bipush 29, 2) := by decide +kernel
theorem dX11_isNameOf_4 : decode cX11_isNameOf 4 = .ok (.iload_n 1, 1) := by decide +kernel
theorem dX11_isNameOf_5 : decode cX11_isNameOf 5 = .ok (.imul, 1) := by decide +kernel
theorem dX11_isNameOf_6 : decode cX11_isNameOf 6 = .ok (.iadd, 1) := by decide +kernel
theorem dX11_isNameOf_7 : decode cX11_isNameOf 7 = .ok (.istore_n 2, 1) := by decide +kernel
theorem dX11_isNameOf_8 : decode cX11_isNameOf 8 = .ok (.aload_n 0, 1) := by decide +kernel
theorem dX11_isNameOf_9 : decode cX11_isNameOf 9 = .ok (.getfield 7, 3) := by decide +kernel
theorem dX11_isNameOf_12 : decode cX11_isNameOf 12 = .ok (.iload_n 2, 1) := by decide +kernel
theorem dX11_isNameOf_13 : decode cX11_isNameOf 13 = .ok (.iaload, 1) := by decide +kernel
theorem dX11_isNameOf_14 : decode cX11_isNameOf 14 = .ok (.aload_n 0, 1) := by decide +kernel
theorem dX11_isNameOf_15 : decode cX11_isNameOf 15 = .ok (.getfield 262, 3) := by decide +kernel
theorem dX11_isNameOf_18 : decode cX11_isNameOf 18 = .ok (.aload_n 0, 1) := by decide +kernel
theorem dX11_isNameOf_19 : decode cX11_isNameOf 19 = .ok (.getfield 265, 3) := by decide +kernel
theorem dX11_isNameOf_22 : decode cX11_isNameOf 22 = .ok (.isub, 1) := by decide +kernel
theorem dX11_isNameOf_23 : decode cX11_isNameOf 23 = .ok (.if_icmp .eq 5, 3) := by decide +kernel
theorem dX11_isNameOf_26 : decode cX11_isNameOf 26 = .ok (.iconst 0, 1) := by decide +kernel
theorem dX11_isNameOf_27 : decode cX11_isNameOf 27 = .ok (.ireturn, 1) := by decide +kernel
theorem dX11_isNameOf_28 : decode cX11_isNameOf 28 = .ok (.iconst 0, 1) := by decide +kernel
theorem dX11_isNameOf_29 : decode cX11_isNameOf 29 = .ok (.istore_n 3, 1) := by decide +kernel
theorem dX11_isNameOf_30 : decode cX11_isNameOf 30 = .ok (.iload_n 3, 1) := by decide +kernel
theorem dX11_isNameOf_31 : decode cX11_isNameOf 31 = .ok (.aload_n 0, 1) := by decide +kernel
theorem dX11_isNameOf_32 : decode cX11_isNameOf 32 = .ok (.getfield 7, 3) := by decide +kernel
theorem dX11_isNameOf_35 : decode cX11_isNameOf 35 = .ok (.iload_n 2, 1) := by decide +kernel
theorem dX11_isNameOf_36 : decode cX11_isNameOf 36 = .ok (.iaload, 1) := by decide +kernel
theorem dX11_isNameOf_37 : decode cX11_isNameOf 37 = .ok (.if_icmp .ge 40, 3) := by decide +kernel
theorem dX11_isNameOf_40 : decode cX11_isNameOf 40 = .ok (.aload_n 0, 1) := by decide +kernel
theorem dX11_isNameOf_41 : decode cX11_isNameOf 41 = .ok (.getfield 7, 3) := by decide +kernel
theorem dX11_isNameOf_44 : decode cX11_isNameOf 44 = .ok (.iload_n 2, 1) := by decide +kernel
theorem dX11_isNameOf_45 : decode cX11_isNameOf 45 = .ok (.iconst 1, 1) := by decide +kernel
theorem dX11_isNameOf_46 : decode cX11_isNameOf 46 = .ok (.iadd, 1) := by decide +kernel
theorem dX11_isNameOf_47 : decode cX11_isNameOf 47 = .ok (.iload_n 3, 1) := by decide +kernel
theorem dX11_isNameOf_48 : decode cX11_isNameOf 48 = .ok (.iadd, 1) := by decide +kernel
theorem dX11_isNameOf_49 : decode cX11_isNameOf 49 = .ok (.iaload, 1) := by decide +kernel
theorem dX11_isNameOf_50 : decode cX11_isNameOf 50 = .ok (.aload_n 0, 1) := by decide +kernel
theorem dX11_isNameOf_51 : decode cX11_isNameOf 51 = .ok (.getfield 47, 3) := by decide +kernel
theorem dX11_isNameOf_54 : decode cX11_isNameOf 54 = .ok (.aload_n 0, 1) := by decide +kernel
theorem dX11_isNameOf_55 : decode cX11_isNameOf 55 = .ok (.getfield 265, 3) := by decide +kernel
theorem dX11_isNameOf_58 : decode cX11_isNameOf 58 = .ok (.iload_n 3, 1) := by decide +kernel
theorem dX11_isNameOf_59 : decode cX11_isNameOf 59 = .ok (.iadd, 1) := by decide +kernel
theorem dX11_isNameOf_60 : decode cX11_isNameOf 60 = .ok (.iaload, 1) := by decide +kernel
theorem dX11_isNameOf_61 : decode cX11_isNameOf 61 = .ok (.bipush 97, 2) := by decide +kernel
theorem dX11_isNameOf_63 : decode cX11_isNameOf 63 = .ok (.isub, 1) := by decide +kernel
theorem dX11_isNameOf_64 : decode cX11_isNameOf 64 = .ok (.iconst 1, 1) := by decide +kernel
theorem dX11_isNameOf_65 : decode cX11_isNameOf 65 = .ok (.iadd, 1) := by decide +kernel
theorem dX11_isNameOf_66 : decode cX11_isNameOf 66 = .ok (.if_icmp .eq 5, 3) := by decide +kernel
theorem dX11_isNameOf_69 : decode cX11_isNameOf 69 = .ok (.iconst 0, 1) := by decide +kernel
theorem dX11_isNameOf_70 : decode cX11_isNameOf 70 = .ok (.ireturn, 1) := by decide +kernel
theorem dX11_isNameOf_71 : decode cX11_isNameOf 71 = .ok (.iinc 3 1, 3) := by decide +kernel
theorem dX11_isNameOf_74 : decode cX11_isNameOf 74 = .ok (.goto (-44), 3) := by decide +kernel
theorem dX11_isNameOf_77 : decode cX11_isNameOf 77 = .ok (.iconst 1, 1) := by decide +kernel
theorem dX11_isNameOf_78 : decode cX11_isNameOf 78 = .ok (.ireturn, 1) := by decide +kernel
theorem dX11_named_0 : decode cX11_named 0 = .ok (.iconst 0, 1) := by decide +kernel
theorem dX11_named_1 : decode cX11_named 1 = .ok (.istore_n 1, 1) := by decide +kernel
theorem dX11_named_2 : decode cX11_named 2 = .ok (.iload_n 1, 1) := by decide +kernel
theorem dX11_named_3 : decode cX11_named 3 = .ok (.aload_n 0, 1) := by decide +kernel
theorem dX11_named_4 : decode cX11_named 4 = .ok (.getfield 7, 3) := by decide +kernel
theorem dX11_named_7 : decode cX11_named 7 = .ok (.iconst 0, 1) := by decide +kernel
theorem dX11_named_8 : decode cX11_named 8 = .ok (.iaload, 1) := by decide +kernel
theorem dX11_named_9 : decode cX11_named 9 = .ok (.if_icmp .ge 19, 3) := by decide +kernel
theorem dX11_named_12 : decode cX11_named 12 = .ok (.aload_n 0, 1) := by decide +kernel
theorem dX11_named_13 : decode cX11_named 13 = .ok (.iload_n 1, 1) := by decide +kernel
theorem dX11_named_14 : decode cX11_named 14 = .ok (.invokevirtual 304, 3) := by decide +kernel
theorem dX11_named_17 : decode cX11_named 17 = .ok (.ifCond .eq 5, 3) := by decide +kernel
theorem dX11_named_20 : decode cX11_named 20 = .ok (.iload_n 1, 1) := by decide +kernel
theorem dX11_named_21 : decode cX11_named 21 = .ok (.ireturn, 1) := by decide +kernel
theorem dX11_named_22 : decode cX11_named 22 = .ok (.iinc 1 1, 3) := by decide +kernel
theorem dX11_named_25 : decode cX11_named 25 = .ok (.goto (-23), 3) := by decide +kernel
theorem dX11_named_28 : decode cX11_named 28 = .ok (.iconst (-1), 1) := by decide +kernel
theorem dX11_named_29 : decode cX11_named 29 = .ok (.ireturn, 1) := by decide +kernel
theorem dX11_putsName_0 : decode cX11_putsName 0 = .ok (.bipush 17, 2) := by decide +kernel
theorem dX11_putsName_2 : decode cX11_putsName 2 = .ok (.bipush 29, 2) := by decide +kernel
theorem dX11_putsName_4 : decode cX11_putsName 4 = .ok (.iload_n 1, 1) := by decide +kernel
theorem dX11_putsName_5 : decode cX11_putsName 5 = .ok (.imul, 1) := by decide +kernel
theorem dX11_putsName_6 : decode cX11_putsName 6 = .ok (.iadd, 1) := by decide +kernel
theorem dX11_putsName_7 : decode cX11_putsName 7 = .ok (.istore_n 2, 1) := by decide +kernel
theorem dX11_putsName_8 : decode cX11_putsName 8 = .ok (.aload_n 0, 1) := by decide +kernel
theorem dX11_putsName_9 : decode cX11_putsName 9 = .ok (.getfield 7, 3) := by decide +kernel
theorem dX11_putsName_12 : decode cX11_putsName 12 = .ok (.iload_n 2, 1) := by decide +kernel
theorem dX11_putsName_13 : decode cX11_putsName 13 = .ok (.aload_n 0, 1) := by decide +kernel
theorem dX11_putsName_14 : decode cX11_putsName 14 = .ok (.getfield 262, 3) := by decide +kernel
theorem dX11_putsName_17 : decode cX11_putsName 17 = .ok (.aload_n 0, 1) := by decide +kernel
theorem dX11_putsName_18 : decode cX11_putsName 18 = .ok (.getfield 265, 3) := by decide +kernel
theorem dX11_putsName_21 : decode cX11_putsName 21 = .ok (.isub, 1) := by decide +kernel
theorem dX11_putsName_22 : decode cX11_putsName 22 = .ok (.iastore, 1) := by decide +kernel
theorem dX11_putsName_23 : decode cX11_putsName 23 = .ok (.iconst 0, 1) := by decide +kernel
theorem dX11_putsName_24 : decode cX11_putsName 24 = .ok (.istore_n 3, 1) := by decide +kernel
theorem dX11_putsName_25 : decode cX11_putsName 25 = .ok (.iload_n 3, 1) := by decide +kernel
theorem dX11_putsName_26 : decode cX11_putsName 26 = .ok (.aload_n 0, 1) := by decide +kernel
theorem dX11_putsName_27 : decode cX11_putsName 27 = .ok (.getfield 7, 3) := by decide +kernel
theorem dX11_putsName_30 : decode cX11_putsName 30 = .ok (.iload_n 2, 1) := by decide +kernel
theorem dX11_putsName_31 : decode cX11_putsName 31 = .ok (.iaload, 1) := by decide +kernel
theorem dX11_putsName_32 : decode cX11_putsName 32 = .ok (.if_icmp .ge 35, 3) := by decide +kernel
theorem dX11_putsName_35 : decode cX11_putsName 35 = .ok (.aload_n 0, 1) := by decide +kernel
theorem dX11_putsName_36 : decode cX11_putsName 36 = .ok (.getfield 7, 3) := by decide +kernel
theorem dX11_putsName_39 : decode cX11_putsName 39 = .ok (.iload_n 2, 1) := by decide +kernel
theorem dX11_putsName_40 : decode cX11_putsName 40 = .ok (.iconst 1, 1) := by decide +kernel
theorem dX11_putsName_41 : decode cX11_putsName 41 = .ok (.iadd, 1) := by decide +kernel
theorem dX11_putsName_42 : decode cX11_putsName 42 = .ok (.iload_n 3, 1) := by decide +kernel
theorem dX11_putsName_43 : decode cX11_putsName 43 = .ok (.iadd, 1) := by decide +kernel
theorem dX11_putsName_44 : decode cX11_putsName 44 = .ok (.aload_n 0, 1) := by decide +kernel
theorem dX11_putsName_45 : decode cX11_putsName 45 = .ok (.getfield 47, 3) := by decide +kernel
theorem dX11_putsName_48 : decode cX11_putsName 48 = .ok (.aload_n 0, 1) := by decide +kernel
theorem dX11_putsName_49 : decode cX11_putsName 49 = .ok (.getfield 265, 3) := by decide +kernel
theorem dX11_putsName_52 : decode cX11_putsName 52 = .ok (.iload_n 3, 1) := by decide +kernel
theorem dX11_putsName_53 : decode cX11_putsName 53 = .ok (.iadd, 1) := by decide +kernel
theorem dX11_putsName_54 : decode cX11_putsName 54 = .ok (.iaload, 1) := by decide +kernel
theorem dX11_putsName_55 : decode cX11_putsName 55 = .ok (.bipush 97, 2) := by decide +kernel
theorem dX11_putsName_57 : decode cX11_putsName 57 = .ok (.isub, 1) := by decide +kernel
theorem dX11_putsName_58 : decode cX11_putsName 58 = .ok (.iconst 1, 1) := by decide +kernel
theorem dX11_putsName_59 : decode cX11_putsName 59 = .ok (.iadd, 1) := by decide +kernel
theorem dX11_putsName_60 : decode cX11_putsName 60 = .ok (.iastore, 1) := by decide +kernel
theorem dX11_putsName_61 : decode cX11_putsName 61 = .ok (.iinc 3 1, 3) := by decide +kernel
theorem dX11_putsName_64 : decode cX11_putsName 64 = .ok (.goto (-39), 3) := by decide +kernel
theorem dX11_putsName_67 : decode cX11_putsName 67 = .ok (.aload_n 0, 1) := by decide +kernel
theorem dX11_putsName_68 : decode cX11_putsName 68 = .ok (.invokevirtual 301, 3) := by decide +kernel
theorem dX11_putsName_71 : decode cX11_putsName 71 = .ok (.return_, 1) := by decide +kernel
theorem dX11_addsOnly_0 : decode cX11_addsOnly 0 = .ok (.aload_n 0, 1) := by decide +kernel
theorem dX11_addsOnly_1 : decode cX11_addsOnly 1 = .ok (.iload_n 1, 1) := by decide +kernel
theorem dX11_addsOnly_2 : decode cX11_addsOnly 2 = .ok (.bipush 9, 2) := by decide +kernel
theorem dX11_addsOnly_4 : decode cX11_addsOnly 4 = .ok (.invokevirtual 85, 3) := by decide +kernel
theorem dX11_addsOnly_7 : decode cX11_addsOnly 7 = .ok (.istore_n 3, 1) := by decide +kernel
theorem dX11_addsOnly_8 : decode cX11_addsOnly 8 = .ok (.iload_n 3, 1) := by decide +kernel
theorem dX11_addsOnly_9 : decode cX11_addsOnly 9 = .ok (.ifCond .le 44, 3) := by decide +kernel
theorem dX11_addsOnly_12 : decode cX11_addsOnly 12 = .ok (.aload_n 0, 1) := by decide +kernel
theorem dX11_addsOnly_13 : decode cX11_addsOnly 13 = .ok (.iload_n 1, 1) := by decide +kernel
theorem dX11_addsOnly_14 : decode cX11_addsOnly 14 = .ok (.bipush 10, 2) := by decide +kernel
theorem dX11_addsOnly_16 : decode cX11_addsOnly 16 = .ok (.iload_n 3, 1) := by decide +kernel
theorem dX11_addsOnly_17 : decode cX11_addsOnly 17 = .ok (.iadd, 1) := by decide +kernel
theorem dX11_addsOnly_18 : decode cX11_addsOnly 18 = .ok (.iconst 1, 1) := by decide +kernel
theorem dX11_addsOnly_19 : decode cX11_addsOnly 19 = .ok (.isub, 1) := by decide +kernel
theorem dX11_addsOnly_20 : decode cX11_addsOnly 20 = .ok (.invokevirtual 85, 3) := by decide +kernel
theorem dX11_addsOnly_23 : decode cX11_addsOnly 23 = .ok (.iload_n 2, 1) := by decide +kernel
theorem dX11_addsOnly_24 : decode cX11_addsOnly 24 = .ok (.if_icmp .le 29, 3) := by decide +kernel
theorem dX11_addsOnly_27 : decode cX11_addsOnly 27 = .ok (.aload_n 0, 1) := by decide +kernel
theorem dX11_addsOnly_28 : decode cX11_addsOnly 28 = .ok (.iload_n 1, 1) := by decide +kernel
theorem dX11_addsOnly_29 : decode cX11_addsOnly 29 = .ok (.bipush 10, 2) := by decide +kernel
theorem dX11_addsOnly_31 : decode cX11_addsOnly 31 = .ok (.iload_n 3, 1) := by decide +kernel
theorem dX11_addsOnly_32 : decode cX11_addsOnly 32 = .ok (.iadd, 1) := by decide +kernel
theorem dX11_addsOnly_33 : decode cX11_addsOnly 33 = .ok (.aload_n 0, 1) := by decide +kernel
theorem dX11_addsOnly_34 : decode cX11_addsOnly 34 = .ok (.iload_n 1, 1) := by decide +kernel
theorem dX11_addsOnly_35 : decode cX11_addsOnly 35 = .ok (.bipush 10, 2) := by decide +kernel
theorem dX11_addsOnly_37 : decode cX11_addsOnly 37 = .ok (.iload_n 3, 1) := by decide +kernel
theorem dX11_addsOnly_38 : decode cX11_addsOnly 38 = .ok (.iadd, 1) := by decide +kernel
theorem dX11_addsOnly_39 : decode cX11_addsOnly 39 = .ok (.iconst 1, 1) := by decide +kernel
theorem dX11_addsOnly_40 : decode cX11_addsOnly 40 = .ok (.isub, 1) := by decide +kernel
theorem dX11_addsOnly_41 : decode cX11_addsOnly 41 = .ok (.invokevirtual 85, 3) := by decide +kernel
theorem dX11_addsOnly_44 : decode cX11_addsOnly 44 = .ok (.invokevirtual 60, 3) := by decide +kernel
theorem dX11_addsOnly_47 : decode cX11_addsOnly 47 = .ok (.iinc 3 (-1), 3) := by decide +kernel
theorem dX11_addsOnly_50 : decode cX11_addsOnly 50 = .ok (.goto (-42), 3) := by decide +kernel
theorem dX11_addsOnly_53 : decode cX11_addsOnly 53 = .ok (.aload_n 0, 1) := by decide +kernel
theorem dX11_addsOnly_54 : decode cX11_addsOnly 54 = .ok (.iload_n 1, 1) := by decide +kernel
theorem dX11_addsOnly_55 : decode cX11_addsOnly 55 = .ok (.bipush 10, 2) := by decide +kernel
theorem dX11_addsOnly_57 : decode cX11_addsOnly 57 = .ok (.iload_n 3, 1) := by decide +kernel
theorem dX11_addsOnly_58 : decode cX11_addsOnly 58 = .ok (.iadd, 1) := by decide +kernel
theorem dX11_addsOnly_59 : decode cX11_addsOnly 59 = .ok (.iload_n 2, 1) := by decide +kernel
theorem dX11_addsOnly_60 : decode cX11_addsOnly 60 = .ok (.invokevirtual 60, 3) := by decide +kernel
theorem dX11_addsOnly_63 : decode cX11_addsOnly 63 = .ok (.aload_n 0, 1) := by decide +kernel
theorem dX11_addsOnly_64 : decode cX11_addsOnly 64 = .ok (.iload_n 1, 1) := by decide +kernel
theorem dX11_addsOnly_65 : decode cX11_addsOnly 65 = .ok (.bipush 9, 2) := by decide +kernel
theorem dX11_addsOnly_67 : decode cX11_addsOnly 67 = .ok (.aload_n 0, 1) := by decide +kernel
theorem dX11_addsOnly_68 : decode cX11_addsOnly 68 = .ok (.iload_n 1, 1) := by decide +kernel
theorem dX11_addsOnly_69 : decode cX11_addsOnly 69 = .ok (.bipush 9, 2) := by decide +kernel
theorem dX11_addsOnly_71 : decode cX11_addsOnly 71 = .ok (.invokevirtual 85, 3) := by decide +kernel
theorem dX11_addsOnly_74 : decode cX11_addsOnly 74 = .ok (.iconst 1, 1) := by decide +kernel
theorem dX11_addsOnly_75 : decode cX11_addsOnly 75 = .ok (.iadd, 1) := by decide +kernel
theorem dX11_addsOnly_76 : decode cX11_addsOnly 76 = .ok (.invokevirtual 60, 3) := by decide +kernel
theorem dX11_addsOnly_79 : decode cX11_addsOnly 79 = .ok (.return_, 1) := by decide +kernel
theorem dX11_readOnlyNumber_0 : decode cX11_readOnlyNumber 0 = .ok (.aload_n 0, 1) := by decide +kernel
theorem dX11_readOnlyNumber_1 : decode cX11_readOnlyNumber 1 = .ok (.iconst 1, 1) := by decide +kernel
theorem dX11_readOnlyNumber_2 : decode cX11_readOnlyNumber 2 = .ok (.bipush 40, 2) := by decide +kernel
theorem dX11_readOnlyNumber_4 : decode cX11_readOnlyNumber 4 = .ok (.invokevirtual 298, 3) := by decide +kernel
theorem dX11_readOnlyNumber_7 : decode cX11_readOnlyNumber 7 = .ok (.ifCond .ne 5, 3) := by decide +kernel
theorem dX11_readOnlyNumber_10 : decode cX11_readOnlyNumber 10 = .ok (.iconst 0, 1) := by decide +kernel
theorem dX11_readOnlyNumber_11 : decode cX11_readOnlyNumber 11 = .ok (.ireturn, 1) := by decide +kernel
theorem dX11_readOnlyNumber_12 : decode cX11_readOnlyNumber 12 = .ok (.aload_n 0, 1) := by decide +kernel
theorem dX11_readOnlyNumber_13 : decode cX11_readOnlyNumber 13 = .ok (.iload_n 1, 1) := by decide +kernel
theorem dX11_readOnlyNumber_14 : decode cX11_readOnlyNumber 14 = .ok (.aload_n 0, 1) := by decide +kernel
theorem dX11_readOnlyNumber_15 : decode cX11_readOnlyNumber 15 = .ok (.getfield 295, 3) := by decide +kernel
theorem dX11_readOnlyNumber_18 : decode cX11_readOnlyNumber 18 = .ok (.invokevirtual 94, 3) := by decide +kernel
theorem dX11_readOnlyNumber_21 : decode cX11_readOnlyNumber 21 = .ok (.ifCond .eq 9, 3) := by decide +kernel
theorem dX11_readOnlyNumber_24 : decode cX11_readOnlyNumber 24 = .ok (.aload_n 0, 1) := by decide +kernel
theorem dX11_readOnlyNumber_25 : decode cX11_readOnlyNumber 25 = .ok (.iconst 4, 1) := by decide +kernel
theorem dX11_readOnlyNumber_26 : decode cX11_readOnlyNumber 26 = .ok (.invokevirtual 292, 3) := by decide +kernel
theorem dX11_readOnlyNumber_29 : decode cX11_readOnlyNumber 29 = .ok (.ireturn, 1) := by decide +kernel
theorem dX11_readOnlyNumber_30 : decode cX11_readOnlyNumber 30 = .ok (.aload_n 0, 1) := by decide +kernel
theorem dX11_readOnlyNumber_31 : decode cX11_readOnlyNumber 31 = .ok (.iload_n 1, 1) := by decide +kernel
theorem dX11_readOnlyNumber_32 : decode cX11_readOnlyNumber 32 = .ok (.bipush 9, 2) := by decide +kernel
theorem dX11_readOnlyNumber_34 : decode cX11_readOnlyNumber 34 = .ok (.invokevirtual 85, 3) := by decide +kernel
theorem dX11_readOnlyNumber_37 : decode cX11_readOnlyNumber 37 = .ok (.bipush 8, 2) := by decide +kernel
theorem dX11_readOnlyNumber_39 : decode cX11_readOnlyNumber 39 = .ok (.if_icmp .ne 9, 3) := by decide +kernel
theorem dX11_readOnlyNumber_42 : decode cX11_readOnlyNumber 42 = .ok (.aload_n 0, 1) := by decide +kernel
theorem dX11_readOnlyNumber_43 : decode cX11_readOnlyNumber 43 = .ok (.iconst 5, 1) := by decide +kernel
theorem dX11_readOnlyNumber_44 : decode cX11_readOnlyNumber 44 = .ok (.invokevirtual 292, 3) := by decide +kernel
theorem dX11_readOnlyNumber_47 : decode cX11_readOnlyNumber 47 = .ok (.ireturn, 1) := by decide +kernel
theorem dX11_readOnlyNumber_48 : decode cX11_readOnlyNumber 48 = .ok (.aload_n 0, 1) := by decide +kernel
theorem dX11_readOnlyNumber_49 : decode cX11_readOnlyNumber 49 = .ok (.iload_n 1, 1) := by decide +kernel
theorem dX11_readOnlyNumber_50 : decode cX11_readOnlyNumber 50 = .ok (.aload_n 0, 1) := by decide +kernel
theorem dX11_readOnlyNumber_51 : decode cX11_readOnlyNumber 51 = .ok (.getfield 295, 3) := by decide +kernel
theorem dX11_readOnlyNumber_54 : decode cX11_readOnlyNumber 54 = .ok (.invokevirtual 307, 3) := by decide +kernel
theorem dX11_readOnlyNumber_57 : decode cX11_readOnlyNumber 57 = .ok (.aload_n 0, 1) := by decide +kernel
theorem dX11_readOnlyNumber_58 : decode cX11_readOnlyNumber 58 = .ok (.invokevirtual 301, 3) := by decide +kernel
theorem dX11_readOnlyNumber_61 : decode cX11_readOnlyNumber 61 = .ok (.iconst 1, 1) := by decide +kernel
theorem dX11_readOnlyNumber_62 : decode cX11_readOnlyNumber 62 = .ok (.ireturn, 1) := by decide +kernel
theorem dX11_readOnly_0 : decode cX11_readOnly 0 = .ok (.aload_n 0, 1) := by decide +kernel
theorem dX11_readOnly_1 : decode cX11_readOnly 1 = .ok (.ldc_w 310, 3) := by decide +kernel
theorem dX11_readOnly_4 : decode cX11_readOnly 4 = .ok (.invokevirtual 312, 3) := by decide +kernel
theorem dX11_readOnly_7 : decode cX11_readOnly 7 = .ok (.ifCond .ne 5, 3) := by decide +kernel
theorem dX11_readOnly_10 : decode cX11_readOnly 10 = .ok (.iconst 1, 1) := by decide +kernel
theorem dX11_readOnly_11 : decode cX11_readOnly 11 = .ok (.ireturn, 1) := by decide +kernel
theorem dX11_readOnly_12 : decode cX11_readOnly 12 = .ok (.aload_n 0, 1) := by decide +kernel
theorem dX11_readOnly_13 : decode cX11_readOnly 13 = .ok (.invokevirtual 301, 3) := by decide +kernel
theorem dX11_readOnly_16 : decode cX11_readOnly 16 = .ok (.aload_n 0, 1) := by decide +kernel
theorem dX11_readOnly_17 : decode cX11_readOnly 17 = .ok (.iload_n 1, 1) := by decide +kernel
theorem dX11_readOnly_18 : decode cX11_readOnly 18 = .ok (.invokevirtual 316, 3) := by decide +kernel
theorem dX11_readOnly_21 : decode cX11_readOnly 21 = .ok (.ifCond .ne 5, 3) := by decide +kernel
theorem dX11_readOnly_24 : decode cX11_readOnly 24 = .ok (.iconst 0, 1) := by decide +kernel
theorem dX11_readOnly_25 : decode cX11_readOnly 25 = .ok (.ireturn, 1) := by decide +kernel
theorem dX11_readOnly_26 : decode cX11_readOnly 26 = .ok (.aload_n 0, 1) := by decide +kernel
theorem dX11_readOnly_27 : decode cX11_readOnly 27 = .ok (.getfield 271, 3) := by decide +kernel
theorem dX11_readOnly_30 : decode cX11_readOnly 30 = .ok (.iconst 2, 1) := by decide +kernel
theorem dX11_readOnly_31 : decode cX11_readOnly 31 = .ok (.if_icmp .ne 13, 3) := by decide +kernel
theorem dX11_readOnly_34 : decode cX11_readOnly 34 = .ok (.aload_n 0, 1) := by decide +kernel
theorem dX11_readOnly_35 : decode cX11_readOnly 35 = .ok (.iload_n 1, 1) := by decide +kernel
theorem dX11_readOnly_36 : decode cX11_readOnly 36 = .ok (.invokevirtual 316, 3) := by decide +kernel
theorem dX11_readOnly_39 : decode cX11_readOnly 39 = .ok (.ifCond .ne (-13), 3) := by decide +kernel
theorem dX11_readOnly_42 : decode cX11_readOnly 42 = .ok (.iconst 0, 1) := by decide +kernel
theorem dX11_readOnly_43 : decode cX11_readOnly 43 = .ok (.ireturn, 1) := by decide +kernel
theorem dX11_readOnly_44 : decode cX11_readOnly 44 = .ok (.iconst 1, 1) := by decide +kernel
theorem dX11_readOnly_45 : decode cX11_readOnly 45 = .ok (.ireturn, 1) := by decide +kernel
theorem dX11_addsBar_0 : decode cX11_addsBar 0 = .ok (.aload_n 0, 1) := by decide +kernel
theorem dX11_addsBar_1 : decode cX11_addsBar 1 = .ok (.iload_n 1, 1) := by decide +kernel
theorem dX11_addsBar_2 : decode cX11_addsBar 2 = .ok (.bipush 20, 2) := by decide +kernel
theorem dX11_addsBar_4 : decode cX11_addsBar 4 = .ok (.invokevirtual 85, 3) := by decide +kernel
theorem dX11_addsBar_7 : decode cX11_addsBar 7 = .ok (.istore 4, 2) := by decide +kernel
theorem dX11_addsBar_9 : decode cX11_addsBar 9 = .ok (.aload_n 0, 1) := by decide +kernel
theorem dX11_addsBar_10 : decode cX11_addsBar 10 = .ok (.iload_n 1, 1) := by decide +kernel
theorem dX11_addsBar_11 : decode cX11_addsBar 11 = .ok (.bipush 21, 2) := by decide +kernel
theorem dX11_addsBar_13 : decode cX11_addsBar 13 = .ok (.iconst 2, 1) := by decide +kernel
theorem dX11_addsBar_14 : decode cX11_addsBar 14 = .ok (.iload 4, 2) := by decide +kernel
theorem dX11_addsBar_16 : decode cX11_addsBar 16 = .ok (.imul, 1) := by decide +kernel
theorem dX11_addsBar_17 : decode cX11_addsBar 17 = .ok (.iadd, 1) := by decide +kernel
theorem dX11_addsBar_18 : decode cX11_addsBar 18 = .ok (.iload_n 2, 1) := by decide +kernel
theorem dX11_addsBar_19 : decode cX11_addsBar 19 = .ok (.invokevirtual 60, 3) := by decide +kernel
theorem dX11_addsBar_22 : decode cX11_addsBar 22 = .ok (.aload_n 0, 1) := by decide +kernel
theorem dX11_addsBar_23 : decode cX11_addsBar 23 = .ok (.iload_n 1, 1) := by decide +kernel
theorem dX11_addsBar_24 : decode cX11_addsBar 24 = .ok (.bipush 21, 2) := by decide +kernel
theorem dX11_addsBar_26 : decode cX11_addsBar 26 = .ok (.iconst 2, 1) := by decide +kernel
theorem dX11_addsBar_27 : decode cX11_addsBar 27 = .ok (.iload 4, 2) := by decide +kernel
theorem dX11_addsBar_29 : decode cX11_addsBar 29 = .ok (.imul, 1) := by decide +kernel
theorem dX11_addsBar_30 : decode cX11_addsBar 30 = .ok (.iadd, 1) := by decide +kernel
theorem dX11_addsBar_31 : decode cX11_addsBar 31 = .ok (.iconst 1, 1) := by decide +kernel
theorem dX11_addsBar_32 : decode cX11_addsBar 32 = .ok (.iadd, 1) := by decide +kernel
theorem dX11_addsBar_33 : decode cX11_addsBar 33 = .ok (.iload_n 3, 1) := by decide +kernel
theorem dX11_addsBar_34 : decode cX11_addsBar 34 = .ok (.invokevirtual 60, 3) := by decide +kernel
theorem dX11_addsBar_37 : decode cX11_addsBar 37 = .ok (.aload_n 0, 1) := by decide +kernel
theorem dX11_addsBar_38 : decode cX11_addsBar 38 = .ok (.iload_n 1, 1) := by decide +kernel
theorem dX11_addsBar_39 : decode cX11_addsBar 39 = .ok (.bipush 20, 2) := by decide +kernel
theorem dX11_addsBar_41 : decode cX11_addsBar 41 = .ok (.iload 4, 2) := by decide +kernel
theorem dX11_addsBar_43 : decode cX11_addsBar 43 = .ok (.iconst 1, 1) := by decide +kernel
theorem dX11_addsBar_44 : decode cX11_addsBar 44 = .ok (.iadd, 1) := by decide +kernel
theorem dX11_addsBar_45 : decode cX11_addsBar 45 = .ok (.invokevirtual 60, 3) := by decide +kernel
theorem dX11_addsBar_48 : decode cX11_addsBar 48 = .ok (.return_, 1) := by decide +kernel
theorem dX11_readBar_0 : decode cX11_readBar 0 = .ok (.aload_n 0, 1) := by decide +kernel
theorem dX11_readBar_1 : decode cX11_readBar 1 = .ok (.iload_n 1, 1) := by decide +kernel
theorem dX11_readBar_2 : decode cX11_readBar 2 = .ok (.bipush 20, 2) := by decide +kernel
theorem dX11_readBar_4 : decode cX11_readBar 4 = .ok (.invokevirtual 85, 3) := by decide +kernel
theorem dX11_readBar_7 : decode cX11_readBar 7 = .ok (.iconst 4, 1) := by decide +kernel
theorem dX11_readBar_8 : decode cX11_readBar 8 = .ok (.if_icmp .ne 9, 3) := by decide +kernel
theorem dX11_readBar_11 : decode cX11_readBar 11 = .ok (.aload_n 0, 1) := by decide +kernel
theorem dX11_readBar_12 : decode cX11_readBar 12 = .ok (.iconst 5, 1) := by decide +kernel
theorem dX11_readBar_13 : decode cX11_readBar 13 = .ok (.invokevirtual 292, 3) := by decide +kernel
theorem dX11_readBar_16 : decode cX11_readBar 16 = .ok (.ireturn, 1) := by decide +kernel
theorem dX11_readBar_17 : decode cX11_readBar 17 = .ok (.aload_n 0, 1) := by decide +kernel
theorem dX11_readBar_18 : decode cX11_readBar 18 = .ok (.invokevirtual 301, 3) := by decide +kernel
theorem dX11_readBar_21 : decode cX11_readBar 21 = .ok (.aload_n 0, 1) := by decide +kernel
theorem dX11_readBar_22 : decode cX11_readBar 22 = .ok (.iconst 0, 1) := by decide +kernel
theorem dX11_readBar_23 : decode cX11_readBar 23 = .ok (.bipush 40, 2) := by decide +kernel
theorem dX11_readBar_25 : decode cX11_readBar 25 = .ok (.invokevirtual 319, 3) := by decide +kernel
theorem dX11_readBar_28 : decode cX11_readBar 28 = .ok (.ifCond .ne 5, 3) := by decide +kernel
theorem dX11_readBar_31 : decode cX11_readBar 31 = .ok (.iconst 0, 1) := by decide +kernel
theorem dX11_readBar_32 : decode cX11_readBar 32 = .ok (.ireturn, 1) := by decide +kernel
theorem dX11_readBar_33 : decode cX11_readBar 33 = .ok (.aload_n 0, 1) := by decide +kernel
theorem dX11_readBar_34 : decode cX11_readBar 34 = .ok (.getfield 295, 3) := by decide +kernel
theorem dX11_readBar_37 : decode cX11_readBar 37 = .ok (.istore_n 2, 1) := by decide +kernel
theorem dX11_readBar_38 : decode cX11_readBar 38 = .ok (.aload_n 0, 1) := by decide +kernel
theorem dX11_readBar_39 : decode cX11_readBar 39 = .ok (.iload_n 2, 1) := by decide +kernel
theorem dX11_readBar_40 : decode cX11_readBar 40 = .ok (.ifCond .ne 7, 3) := by decide +kernel
theorem dX11_readBar_43 : decode cX11_readBar 43 = .ok (.iconst 1, 1) := by decide +kernel
theorem dX11_readBar_44 : decode cX11_readBar 44 = .ok (.goto 4, 3) := by decide +kernel
theorem dX11_readBar_47 : decode cX11_readBar 47 = .ok (.iconst 0, 1) := by decide +kernel
theorem dX11_readBar_48 : decode cX11_readBar 48 = .ok (.bipush 40, 2) := by decide +kernel
theorem dX11_readBar_50 : decode cX11_readBar 50 = .ok (.invokevirtual 298, 3) := by decide +kernel
theorem dX11_readBar_53 : decode cX11_readBar 53 = .ok (.ifCond .ne 5, 3) := by decide +kernel
theorem dX11_readBar_56 : decode cX11_readBar 56 = .ok (.iconst 0, 1) := by decide +kernel
theorem dX11_readBar_57 : decode cX11_readBar 57 = .ok (.ireturn, 1) := by decide +kernel
theorem dX11_readBar_58 : decode cX11_readBar 58 = .ok (.aload_n 0, 1) := by decide +kernel
theorem dX11_readBar_59 : decode cX11_readBar 59 = .ok (.iload_n 1, 1) := by decide +kernel
theorem dX11_readBar_60 : decode cX11_readBar 60 = .ok (.iload_n 2, 1) := by decide +kernel
theorem dX11_readBar_61 : decode cX11_readBar 61 = .ok (.aload_n 0, 1) := by decide +kernel
theorem dX11_readBar_62 : decode cX11_readBar 62 = .ok (.getfield 295, 3) := by decide +kernel
theorem dX11_readBar_65 : decode cX11_readBar 65 = .ok (.invokevirtual 102, 3) := by decide +kernel
theorem dX11_readBar_68 : decode cX11_readBar 68 = .ok (.iconst (-1), 1) := by decide +kernel
theorem dX11_readBar_69 : decode cX11_readBar 69 = .ok (.if_icmp .eq 9, 3) := by decide +kernel
theorem dX11_readBar_72 : decode cX11_readBar 72 = .ok (.aload_n 0, 1) := by decide +kernel
theorem dX11_readBar_73 : decode cX11_readBar 73 = .ok (.iconst 4, 1) := by decide +kernel
theorem dX11_readBar_74 : decode cX11_readBar 74 = .ok (.invokevirtual 292, 3) := by decide +kernel
theorem dX11_readBar_77 : decode cX11_readBar 77 = .ok (.ireturn, 1) := by decide +kernel
theorem dX11_readBar_78 : decode cX11_readBar 78 = .ok (.aload_n 0, 1) := by decide +kernel
theorem dX11_readBar_79 : decode cX11_readBar 79 = .ok (.iload_n 1, 1) := by decide +kernel
theorem dX11_readBar_80 : decode cX11_readBar 80 = .ok (.iload_n 2, 1) := by decide +kernel
theorem dX11_readBar_81 : decode cX11_readBar 81 = .ok (.aload_n 0, 1) := by decide +kernel
theorem dX11_readBar_82 : decode cX11_readBar 82 = .ok (.getfield 295, 3) := by decide +kernel
theorem dX11_readBar_85 : decode cX11_readBar 85 = .ok (.invokevirtual 322, 3) := by decide +kernel
theorem dX11_readBar_88 : decode cX11_readBar 88 = .ok (.aload_n 0, 1) := by decide +kernel
theorem dX11_readBar_89 : decode cX11_readBar 89 = .ok (.invokevirtual 301, 3) := by decide +kernel
theorem dX11_readBar_92 : decode cX11_readBar 92 = .ok (.iconst 1, 1) := by decide +kernel
theorem dX11_readBar_93 : decode cX11_readBar 93 = .ok (.ireturn, 1) := by decide +kernel
theorem dX11_readOwn_0 : decode cX11_readOwn 0 = .ok (.aload_n 0, 1) := by decide +kernel
theorem dX11_readOwn_1 : decode cX11_readOwn 1 = .ok (.aload_n 1, 1) := by decide +kernel
theorem dX11_readOwn_2 : decode cX11_readOwn 2 = .ok (.invokevirtual 312, 3) := by decide +kernel
theorem dX11_readOwn_5 : decode cX11_readOwn 5 = .ok (.ifCond .ne 5, 3) := by decide +kernel
theorem dX11_readOwn_8 : decode cX11_readOwn 8 = .ok (.iconst 1, 1) := by decide +kernel
theorem dX11_readOwn_9 : decode cX11_readOwn 9 = .ok (.ireturn, 1) := by decide +kernel
theorem dX11_readOwn_10 : decode cX11_readOwn 10 = .ok (.aload_n 0, 1) := by decide +kernel
theorem dX11_readOwn_11 : decode cX11_readOwn 11 = .ok (.invokevirtual 301, 3) := by decide +kernel
theorem dX11_readOwn_14 : decode cX11_readOwn 14 = .ok (.aload_n 0, 1) := by decide +kernel
theorem dX11_readOwn_15 : decode cX11_readOwn 15 = .ok (.iload 4, 2) := by decide +kernel
theorem dX11_readOwn_17 : decode cX11_readOwn 17 = .ok (.iload 5, 2) := by decide +kernel
theorem dX11_readOwn_19 : decode cX11_readOwn 19 = .ok (.invokevirtual 319, 3) := by decide +kernel
theorem dX11_readOwn_22 : decode cX11_readOwn 22 = .ok (.ifCond .ne 5, 3) := by decide +kernel
theorem dX11_readOwn_25 : decode cX11_readOwn 25 = .ok (.iconst 0, 1) := by decide +kernel
theorem dX11_readOwn_26 : decode cX11_readOwn 26 = .ok (.ireturn, 1) := by decide +kernel
theorem dX11_readOwn_27 : decode cX11_readOwn 27 = .ok (.aload_n 0, 1) := by decide +kernel
theorem dX11_readOwn_28 : decode cX11_readOwn 28 = .ok (.iload_n 2, 1) := by decide +kernel
theorem dX11_readOwn_29 : decode cX11_readOwn 29 = .ok (.iload_n 3, 1) := by decide +kernel
theorem dX11_readOwn_30 : decode cX11_readOwn 30 = .ok (.aload_n 0, 1) := by decide +kernel
theorem dX11_readOwn_31 : decode cX11_readOwn 31 = .ok (.getfield 295, 3) := by decide +kernel
theorem dX11_readOwn_34 : decode cX11_readOwn 34 = .ok (.invokevirtual 60, 3) := by decide +kernel
theorem dX11_readOwn_37 : decode cX11_readOwn 37 = .ok (.iconst 1, 1) := by decide +kernel
theorem dX11_readOwn_38 : decode cX11_readOwn 38 = .ok (.ireturn, 1) := by decide +kernel
theorem dX11_readRule_0 : decode cX11_readRule 0 = .ok (.aload_n 0, 1) := by decide +kernel
theorem dX11_readRule_1 : decode cX11_readRule 1 = .ok (.getfield 7, 3) := by decide +kernel
theorem dX11_readRule_4 : decode cX11_readRule 4 = .ok (.iconst 0, 1) := by decide +kernel
theorem dX11_readRule_5 : decode cX11_readRule 5 = .ok (.iaload, 1) := by decide +kernel
theorem dX11_readRule_6 : decode cX11_readRule 6 = .ok (.istore_n 1, 1) := by decide +kernel
theorem dX11_readRule_7 : decode cX11_readRule 7 = .ok (.iload_n 1, 1) := by decide +kernel
theorem dX11_readRule_8 : decode cX11_readRule 8 = .ok (.iconst 4, 1) := by decide +kernel
theorem dX11_readRule_9 : decode cX11_readRule 9 = .ok (.if_icmp .ne 9, 3) := by decide +kernel
theorem dX11_readRule_12 : decode cX11_readRule 12 = .ok (.aload_n 0, 1) := by decide +kernel
theorem dX11_readRule_13 : decode cX11_readRule 13 = .ok (.iconst 5, 1) := by decide +kernel
theorem dX11_readRule_14 : decode cX11_readRule 14 = .ok (.invokevirtual 292, 3) := by decide +kernel
theorem dX11_readRule_17 : decode cX11_readRule 17 = .ok (.ireturn, 1) := by decide +kernel
theorem dX11_readRule_18 : decode cX11_readRule 18 = .ok (.aload_n 0, 1) := by decide +kernel
theorem dX11_readRule_19 : decode cX11_readRule 19 = .ok (.invokevirtual 301, 3) := by decide +kernel
theorem dX11_readRule_22 : decode cX11_readRule 22 = .ok (.aload_n 0, 1) := by decide +kernel
theorem dX11_readRule_23 : decode cX11_readRule 23 = .ok (.invokevirtual 325, 3) := by decide +kernel
theorem dX11_readRule_26 : decode cX11_readRule 26 = .ok (.ifCond .ne 5, 3) := by decide +kernel
theorem dX11_readRule_29 : decode cX11_readRule 29 = .ok (.iconst 0, 1) := by decide +kernel
theorem dX11_readRule_30 : decode cX11_readRule 30 = .ok (.ireturn, 1) := by decide +kernel
theorem dX11_readRule_31 : decode cX11_readRule 31 = .ok (.aload_n 0, 1) := by decide +kernel
theorem dX11_readRule_32 : decode cX11_readRule 32 = .ok (.invokevirtual 328, 3) := by decide +kernel
theorem dX11_readRule_35 : decode cX11_readRule 35 = .ok (.iconst (-1), 1) := by decide +kernel
theorem dX11_readRule_36 : decode cX11_readRule 36 = .ok (.if_icmp .eq 9, 3) := by decide +kernel
theorem dX11_readRule_39 : decode cX11_readRule 39 = .ok (.aload_n 0, 1) := by decide +kernel
theorem dX11_readRule_40 : decode cX11_readRule 40 = .ok (.iconst 4, 1) := by decide +kernel
theorem dX11_readRule_41 : decode cX11_readRule 41 = .ok (.invokevirtual 292, 3) := by decide +kernel
theorem dX11_readRule_44 : decode cX11_readRule 44 = .ok (.ireturn, 1) := by decide +kernel
theorem dX11_readRule_45 : decode cX11_readRule 45 = .ok (.aload_n 0, 1) := by decide +kernel
theorem dX11_readRule_46 : decode cX11_readRule 46 = .ok (.iload_n 1, 1) := by decide +kernel
theorem dX11_readRule_47 : decode cX11_readRule 47 = .ok (.invokevirtual 331, 3) := by decide +kernel
theorem dX11_readRule_50 : decode cX11_readRule 50 = .ok (.aload_n 0, 1) := by decide +kernel
theorem dX11_readRule_51 : decode cX11_readRule 51 = .ok (.iload_n 1, 1) := by decide +kernel
theorem dX11_readRule_52 : decode cX11_readRule 52 = .ok (.bipush 18, 2) := by decide +kernel
theorem dX11_readRule_54 : decode cX11_readRule 54 = .ok (.iconst 1, 1) := by decide +kernel
theorem dX11_readRule_55 : decode cX11_readRule 55 = .ok (.invokevirtual 60, 3) := by decide +kernel
theorem dX11_readRule_58 : decode cX11_readRule 58 = .ok (.aload_n 0, 1) := by decide +kernel
theorem dX11_readRule_59 : decode cX11_readRule 59 = .ok (.iload_n 1, 1) := by decide +kernel
theorem dX11_readRule_60 : decode cX11_readRule 60 = .ok (.bipush 19, 2) := by decide +kernel
theorem dX11_readRule_62 : decode cX11_readRule 62 = .ok (.bipush 40, 2) := by decide +kernel
theorem dX11_readRule_64 : decode cX11_readRule 64 = .ok (.invokevirtual 60, 3) := by decide +kernel
theorem dX11_readRule_67 : decode cX11_readRule 67 = .ok (.aload_n 0, 1) := by decide +kernel
theorem dX11_readRule_68 : decode cX11_readRule 68 = .ok (.iload_n 1, 1) := by decide +kernel
theorem dX11_readRule_69 : decode cX11_readRule 69 = .ok (.invokevirtual 334, 3) := by decide +kernel
theorem dX11_readRule_72 : decode cX11_readRule 72 = .ok (.ifCond .eq 34, 3) := by decide +kernel
theorem dX11_readRule_75 : decode cX11_readRule 75 = .ok (.aload_n 0, 1) := by decide +kernel
theorem dX11_readRule_76 : decode cX11_readRule 76 = .ok (.ldc_w 337, 3) := by decide +kernel
theorem dX11_readRule_79 : decode cX11_readRule 79 = .ok (.iload_n 1, 1) := by decide +kernel
theorem dX11_readRule_80 : decode cX11_readRule 80 = .ok (.bipush 18, 2) := by decide +kernel
theorem dX11_readRule_82 : decode cX11_readRule 82 = .ok (.iconst 0, 1) := by decide +kernel
theorem dX11_readRule_83 : decode cX11_readRule 83 = .ok (.iconst 5, 1) := by decide +kernel
theorem dX11_readRule_84 : decode cX11_readRule 84 = .ok (.invokevirtual 339, 3) := by decide +kernel
theorem dX11_readRule_87 : decode cX11_readRule 87 = .ok (.ifCond .eq 19, 3) := by decide +kernel
theorem dX11_readRule_90 : decode cX11_readRule 90 = .ok (.aload_n 0, 1) := by decide +kernel
theorem dX11_readRule_91 : decode cX11_readRule 91 = .ok (.ldc_w 343, 3) := by decide +kernel
theorem dX11_readRule_94 : decode cX11_readRule 94 = .ok (.iload_n 1, 1) := by decide +kernel
theorem dX11_readRule_95 : decode cX11_readRule 95 = .ok (.bipush 19, 2) := by decide +kernel
theorem dX11_readRule_97 : decode cX11_readRule 97 = .ok (.iconst 1, 1) := by decide +kernel
theorem dX11_readRule_98 : decode cX11_readRule 98 = .ok (.bipush 40, 2) := by decide +kernel
theorem dX11_readRule_100 : decode cX11_readRule 100 = .ok (.invokevirtual 339, 3) := by decide +kernel
theorem dX11_readRule_103 : decode cX11_readRule 103 = .ok (.ifCond .ne 5, 3) := by decide +kernel
theorem dX11_readRule_106 : decode cX11_readRule 106 = .ok (.iconst 0, 1) := by decide +kernel
theorem dX11_readRule_107 : decode cX11_readRule 107 = .ok (.ireturn, 1) := by decide +kernel
theorem dX11_readRule_108 : decode cX11_readRule 108 = .ok (.aload_n 0, 1) := by decide +kernel
theorem dX11_readRule_109 : decode cX11_readRule 109 = .ok (.ldc_w 345, 3) := by decide +kernel
theorem dX11_readRule_112 : decode cX11_readRule 112 = .ok (.invokevirtual 312, 3) := by decide +kernel
theorem dX11_readRule_115 : decode cX11_readRule 115 = .ok (.ifCond .eq 13, 3) := by decide +kernel
theorem dX11_readRule_118 : decode cX11_readRule 118 = .ok (.aload_n 0, 1) := by decide +kernel
theorem dX11_readRule_119 : decode cX11_readRule 119 = .ok (.iload_n 1, 1) := by decide +kernel
theorem dX11_readRule_120 : decode cX11_readRule 120 = .ok (.invokevirtual 347, 3) := by decide +kernel
theorem dX11_readRule_123 : decode cX11_readRule 123 = .ok (.ifCond .ne (-15), 3) := by decide +kernel
theorem dX11_readRule_126 : decode cX11_readRule 126 = .ok (.iconst 0, 1) := by decide +kernel
theorem dX11_readRule_127 : decode cX11_readRule 127 = .ok (.ireturn, 1) := by decide +kernel
theorem dX11_readRule_128 : decode cX11_readRule 128 = .ok (.aload_n 0, 1) := by decide +kernel
theorem dX11_readRule_129 : decode cX11_readRule 129 = .ok (.getfield 7, 3) := by decide +kernel
theorem dX11_readRule_132 : decode cX11_readRule 132 = .ok (.iconst 0, 1) := by decide +kernel
theorem dX11_readRule_133 : decode cX11_readRule 133 = .ok (.dup2, 1) := by decide +kernel
theorem dX11_readRule_134 : decode cX11_readRule 134 = .ok (.iaload, 1) := by decide +kernel
theorem dX11_readRule_135 : decode cX11_readRule 135 = .ok (.iconst 1, 1) := by decide +kernel
theorem dX11_readRule_136 : decode cX11_readRule 136 = .ok (.iadd, 1) := by decide +kernel
theorem dX11_readRule_137 : decode cX11_readRule 137 = .ok (.iastore, 1) := by decide +kernel
theorem dX11_readRule_138 : decode cX11_readRule 138 = .ok (.iconst 1, 1) := by decide +kernel
theorem dX11_readRule_139 : decode cX11_readRule 139 = .ok (.ireturn, 1) := by decide +kernel
theorem dX11_readBoard_0 : decode cX11_readBoard 0 = .ok (.aload_n 0, 1) := by decide +kernel
theorem dX11_readBoard_1 : decode cX11_readBoard 1 = .ok (.getfield 7, 3) := by decide +kernel
theorem dX11_readBoard_4 : decode cX11_readBoard 4 = .ok (.iconst 1, 1) := by decide +kernel
theorem dX11_readBoard_5 : decode cX11_readBoard 5 = .ok (.iaload, 1) := by decide +kernel
theorem dX11_readBoard_6 : decode cX11_readBoard 6 = .ok (.iconst 4, 1) := by decide +kernel
theorem dX11_readBoard_7 : decode cX11_readBoard 7 = .ok (.if_icmp .ne 9, 3) := by decide +kernel
theorem dX11_readBoard_10 : decode cX11_readBoard 10 = .ok (.aload_n 0, 1) := by decide +kernel
theorem dX11_readBoard_11 : decode cX11_readBoard 11 = .ok (.iconst 5, 1) := by decide +kernel
theorem dX11_readBoard_12 : decode cX11_readBoard 12 = .ok (.invokevirtual 292, 3) := by decide +kernel
theorem dX11_readBoard_15 : decode cX11_readBoard 15 = .ok (.ireturn, 1) := by decide +kernel
theorem dX11_readBoard_16 : decode cX11_readBoard 16 = .ok (.aload_n 0, 1) := by decide +kernel
theorem dX11_readBoard_17 : decode cX11_readBoard 17 = .ok (.invokevirtual 301, 3) := by decide +kernel
theorem dX11_readBoard_20 : decode cX11_readBoard 20 = .ok (.aload_n 0, 1) := by decide +kernel
theorem dX11_readBoard_21 : decode cX11_readBoard 21 = .ok (.invokevirtual 325, 3) := by decide +kernel
theorem dX11_readBoard_24 : decode cX11_readBoard 24 = .ok (.ifCond .ne 5, 3) := by decide +kernel
theorem dX11_readBoard_27 : decode cX11_readBoard 27 = .ok (.iconst 0, 1) := by decide +kernel
theorem dX11_readBoard_28 : decode cX11_readBoard 28 = .ok (.ireturn, 1) := by decide +kernel
theorem dX11_readBoard_29 : decode cX11_readBoard 29 = .ok (.aload_n 0, 1) := by decide +kernel
theorem dX11_readBoard_30 : decode cX11_readBoard 30 = .ok (.invokevirtual 328, 3) := by decide +kernel
theorem dX11_readBoard_33 : decode cX11_readBoard 33 = .ok (.istore_n 1, 1) := by decide +kernel
theorem dX11_readBoard_34 : decode cX11_readBoard 34 = .ok (.iload_n 1, 1) := by decide +kernel
theorem dX11_readBoard_35 : decode cX11_readBoard 35 = .ok (.iconst (-1), 1) := by decide +kernel
theorem dX11_readBoard_36 : decode cX11_readBoard 36 = .ok (.if_icmp .ne 9, 3) := by decide +kernel
theorem dX11_readBoard_39 : decode cX11_readBoard 39 = .ok (.aload_n 0, 1) := by decide +kernel
theorem dX11_readBoard_40 : decode cX11_readBoard 40 = .ok (.iconst 3, 1) := by decide +kernel
theorem dX11_readBoard_41 : decode cX11_readBoard 41 = .ok (.invokevirtual 292, 3) := by decide +kernel
theorem dX11_readBoard_44 : decode cX11_readBoard 44 = .ok (.ireturn, 1) := by decide +kernel
theorem dX11_readBoard_45 : decode cX11_readBoard 45 = .ok (.aload_n 0, 1) := by decide +kernel
theorem dX11_readBoard_46 : decode cX11_readBoard 46 = .ok (.invokevirtual 301, 3) := by decide +kernel
theorem dX11_readBoard_49 : decode cX11_readBoard 49 = .ok (.aload_n 0, 1) := by decide +kernel
theorem dX11_readBoard_50 : decode cX11_readBoard 50 = .ok (.iconst 0, 1) := by decide +kernel
theorem dX11_readBoard_51 : decode cX11_readBoard 51 = .ok (.bipush 40, 2) := by decide +kernel
theorem dX11_readBoard_53 : decode cX11_readBoard 53 = .ok (.invokevirtual 319, 3) := by decide +kernel
theorem dX11_readBoard_56 : decode cX11_readBoard 56 = .ok (.ifCond .ne 5, 3) := by decide +kernel
theorem dX11_readBoard_59 : decode cX11_readBoard 59 = .ok (.iconst 0, 1) := by decide +kernel
theorem dX11_readBoard_60 : decode cX11_readBoard 60 = .ok (.ireturn, 1) := by decide +kernel
theorem dX11_readBoard_61 : decode cX11_readBoard 61 = .ok (.aload_n 0, 1) := by decide +kernel
theorem dX11_readBoard_62 : decode cX11_readBoard 62 = .ok (.getfield 295, 3) := by decide +kernel
theorem dX11_readBoard_65 : decode cX11_readBoard 65 = .ok (.istore_n 2, 1) := by decide +kernel
theorem dX11_readBoard_66 : decode cX11_readBoard 66 = .ok (.aload_n 0, 1) := by decide +kernel
theorem dX11_readBoard_67 : decode cX11_readBoard 67 = .ok (.iconst 0, 1) := by decide +kernel
theorem dX11_readBoard_68 : decode cX11_readBoard 68 = .ok (.bipush 40, 2) := by decide +kernel
theorem dX11_readBoard_70 : decode cX11_readBoard 70 = .ok (.invokevirtual 319, 3) := by decide +kernel
theorem dX11_readBoard_73 : decode cX11_readBoard 73 = .ok (.ifCond .ne 5, 3) := by decide +kernel
theorem dX11_readBoard_76 : decode cX11_readBoard 76 = .ok (.iconst 0, 1) := by decide +kernel
theorem dX11_readBoard_77 : decode cX11_readBoard 77 = .ok (.ireturn, 1) := by decide +kernel
theorem dX11_readBoard_78 : decode cX11_readBoard 78 = .ok (.aload_n 0, 1) := by decide +kernel
theorem dX11_readBoard_79 : decode cX11_readBoard 79 = .ok (.iload_n 1, 1) := by decide +kernel
theorem dX11_readBoard_80 : decode cX11_readBoard 80 = .ok (.iload_n 2, 1) := by decide +kernel
theorem dX11_readBoard_81 : decode cX11_readBoard 81 = .ok (.aload_n 0, 1) := by decide +kernel
theorem dX11_readBoard_82 : decode cX11_readBoard 82 = .ok (.getfield 295, 3) := by decide +kernel
theorem dX11_readBoard_85 : decode cX11_readBoard 85 = .ok (.invokevirtual 64, 3) := by decide +kernel
theorem dX11_readBoard_88 : decode cX11_readBoard 88 = .ok (.iconst 1, 1) := by decide +kernel
theorem dX11_readBoard_89 : decode cX11_readBoard 89 = .ok (.ireturn, 1) := by decide +kernel
theorem dX11_readStick_0 : decode cX11_readStick 0 = .ok (.aload_n 0, 1) := by decide +kernel
theorem dX11_readStick_1 : decode cX11_readStick 1 = .ok (.getfield 7, 3) := by decide +kernel
theorem dX11_readStick_4 : decode cX11_readStick 4 = .ok (.iconst 2, 1) := by decide +kernel
theorem dX11_readStick_5 : decode cX11_readStick 5 = .ok (.iaload, 1) := by decide +kernel
theorem dX11_readStick_6 : decode cX11_readStick 6 = .ok (.iconst 4, 1) := by decide +kernel
theorem dX11_readStick_7 : decode cX11_readStick 7 = .ok (.if_icmp .ne 9, 3) := by decide +kernel
theorem dX11_readStick_10 : decode cX11_readStick 10 = .ok (.aload_n 0, 1) := by decide +kernel
theorem dX11_readStick_11 : decode cX11_readStick 11 = .ok (.iconst 5, 1) := by decide +kernel
theorem dX11_readStick_12 : decode cX11_readStick 12 = .ok (.invokevirtual 292, 3) := by decide +kernel
theorem dX11_readStick_15 : decode cX11_readStick 15 = .ok (.ireturn, 1) := by decide +kernel
theorem dX11_readStick_16 : decode cX11_readStick 16 = .ok (.aload_n 0, 1) := by decide +kernel
theorem dX11_readStick_17 : decode cX11_readStick 17 = .ok (.invokevirtual 301, 3) := by decide +kernel
theorem dX11_readStick_20 : decode cX11_readStick 20 = .ok (.aload_n 0, 1) := by decide +kernel
theorem dX11_readStick_21 : decode cX11_readStick 21 = .ok (.iconst 0, 1) := by decide +kernel
theorem dX11_readStick_22 : decode cX11_readStick 22 = .ok (.bipush 60, 2) := by decide +kernel
theorem dX11_readStick_24 : decode cX11_readStick 24 = .ok (.invokevirtual 319, 3) := by decide +kernel
theorem dX11_readStick_27 : decode cX11_readStick 27 = .ok (.ifCond .ne 5, 3) := by decide +kernel
theorem dX11_readStick_30 : decode cX11_readStick 30 = .ok (.iconst 0, 1) := by decide +kernel
theorem dX11_readStick_31 : decode cX11_readStick 31 = .ok (.ireturn, 1) := by decide +kernel
theorem dX11_readStick_32 : decode cX11_readStick 32 = .ok (.aload_n 0, 1) := by decide +kernel
theorem dX11_readStick_33 : decode cX11_readStick 33 = .ok (.getfield 295, 3) := by decide +kernel
theorem dX11_readStick_36 : decode cX11_readStick 36 = .ok (.istore_n 1, 1) := by decide +kernel
theorem dX11_readStick_37 : decode cX11_readStick 37 = .ok (.aload_n 0, 1) := by decide +kernel
theorem dX11_readStick_38 : decode cX11_readStick 38 = .ok (.iconst 1, 1) := by decide +kernel
theorem dX11_readStick_39 : decode cX11_readStick 39 = .ok (.bipush 9, 2) := by decide +kernel
theorem dX11_readStick_41 : decode cX11_readStick 41 = .ok (.invokevirtual 319, 3) := by decide +kernel
theorem dX11_readStick_44 : decode cX11_readStick 44 = .ok (.ifCond .ne 5, 3) := by decide +kernel
theorem dX11_readStick_47 : decode cX11_readStick 47 = .ok (.iconst 0, 1) := by decide +kernel
theorem dX11_readStick_48 : decode cX11_readStick 48 = .ok (.ireturn, 1) := by decide +kernel
theorem dX11_readStick_49 : decode cX11_readStick 49 = .ok (.aload_n 0, 1) := by decide +kernel
theorem dX11_readStick_50 : decode cX11_readStick 50 = .ok (.iload_n 1, 1) := by decide +kernel
theorem dX11_readStick_51 : decode cX11_readStick 51 = .ok (.aload_n 0, 1) := by decide +kernel
theorem dX11_readStick_52 : decode cX11_readStick 52 = .ok (.getfield 295, 3) := by decide +kernel
theorem dX11_readStick_55 : decode cX11_readStick 55 = .ok (.invokevirtual 350, 3) := by decide +kernel
theorem dX11_readStick_58 : decode cX11_readStick 58 = .ok (.iconst 1, 1) := by decide +kernel
theorem dX11_readStick_59 : decode cX11_readStick 59 = .ok (.ireturn, 1) := by decide +kernel
theorem dX11_readFirst_0 : decode cX11_readFirst 0 = .ok (.aload_n 0, 1) := by decide +kernel
theorem dX11_readFirst_1 : decode cX11_readFirst 1 = .ok (.getfield 353, 3) := by decide +kernel
theorem dX11_readFirst_4 : decode cX11_readFirst 4 = .ok (.ifCond .eq 9, 3) := by decide +kernel
theorem dX11_readFirst_7 : decode cX11_readFirst 7 = .ok (.aload_n 0, 1) := by decide +kernel
theorem dX11_readFirst_8 : decode cX11_readFirst 8 = .ok (.iconst 4, 1) := by decide +kernel
theorem dX11_readFirst_9 : decode cX11_readFirst 9 = .ok (.invokevirtual 292, 3) := by decide +kernel
theorem dX11_readFirst_12 : decode cX11_readFirst 12 = .ok (.ireturn, 1) := by decide +kernel
theorem dX11_readFirst_13 : decode cX11_readFirst 13 = .ok (.aload_n 0, 1) := by decide +kernel
theorem dX11_readFirst_14 : decode cX11_readFirst 14 = .ok (.iconst 1, 1) := by decide +kernel
theorem dX11_readFirst_15 : decode cX11_readFirst 15 = .ok (.putfield 353, 3) := by decide +kernel
theorem dX11_readFirst_18 : decode cX11_readFirst 18 = .ok (.aload_n 0, 1) := by decide +kernel
theorem dX11_readFirst_19 : decode cX11_readFirst 19 = .ok (.invokevirtual 301, 3) := by decide +kernel
theorem dX11_readFirst_22 : decode cX11_readFirst 22 = .ok (.aload_n 0, 1) := by decide +kernel
theorem dX11_readFirst_23 : decode cX11_readFirst 23 = .ok (.iconst 0, 1) := by decide +kernel
theorem dX11_readFirst_24 : decode cX11_readFirst 24 = .ok (.iconst 1, 1) := by decide +kernel
theorem dX11_readFirst_25 : decode cX11_readFirst 25 = .ok (.invokevirtual 319, 3) := by decide +kernel
theorem dX11_readFirst_28 : decode cX11_readFirst 28 = .ok (.ifCond .ne 5, 3) := by decide +kernel
theorem dX11_readFirst_31 : decode cX11_readFirst 31 = .ok (.iconst 0, 1) := by decide +kernel
theorem dX11_readFirst_32 : decode cX11_readFirst 32 = .ok (.ireturn, 1) := by decide +kernel
theorem dX11_readFirst_33 : decode cX11_readFirst 33 = .ok (.aload_n 0, 1) := by decide +kernel
theorem dX11_readFirst_34 : decode cX11_readFirst 34 = .ok (.getfield 7, 3) := by decide +kernel
theorem dX11_readFirst_37 : decode cX11_readFirst 37 = .ok (.iconst 3, 1) := by decide +kernel
theorem dX11_readFirst_38 : decode cX11_readFirst 38 = .ok (.aload_n 0, 1) := by decide +kernel
theorem dX11_readFirst_39 : decode cX11_readFirst 39 = .ok (.getfield 295, 3) := by decide +kernel
theorem dX11_readFirst_42 : decode cX11_readFirst 42 = .ok (.iastore, 1) := by decide +kernel
theorem dX11_readFirst_43 : decode cX11_readFirst 43 = .ok (.iconst 1, 1) := by decide +kernel
theorem dX11_readFirst_44 : decode cX11_readFirst 44 = .ok (.ireturn, 1) := by decide +kernel
theorem dX11_readStatement_0 : decode cX11_readStatement 0 = .ok (.aload_n 0, 1) := by decide +kernel
theorem dX11_readStatement_1 : decode cX11_readStatement 1 = .ok (.ldc_w 357, 3) := by decide +kernel
theorem dX11_readStatement_4 : decode cX11_readStatement 4 = .ok (.invokevirtual 312, 3) := by decide +kernel
theorem dX11_readStatement_7 : decode cX11_readStatement 7 = .ok (.ifCond .eq 8, 3) := by decide +kernel
theorem dX11_readStatement_10 : decode cX11_readStatement 10 = .ok (.aload_n 0, 1) := by decide +kernel
theorem dX11_readStatement_11 : decode cX11_readStatement 11 = .ok (.invokevirtual 359, 3) := by decide +kernel
theorem dX11_readStatement_14 : decode cX11_readStatement 14 = .ok (.ireturn, 1) := by decide +kernel
theorem dX11_readStatement_15 : decode cX11_readStatement 15 = .ok (.aload_n 0, 1) := by decide +kernel
theorem dX11_readStatement_16 : decode cX11_readStatement 16 = .ok (.ldc_w 362, 3) := by decide +kernel
theorem dX11_readStatement_19 : decode cX11_readStatement 19 = .ok (.invokevirtual 312, 3) := by decide +kernel
theorem dX11_readStatement_22 : decode cX11_readStatement 22 = .ok (.ifCond .eq 8, 3) := by decide +kernel
theorem dX11_readStatement_25 : decode cX11_readStatement 25 = .ok (.aload_n 0, 1) := by decide +kernel
theorem dX11_readStatement_26 : decode cX11_readStatement 26 = .ok (.invokevirtual 364, 3) := by decide +kernel
theorem dX11_readStatement_29 : decode cX11_readStatement 29 = .ok (.ireturn, 1) := by decide +kernel
theorem dX11_readStatement_30 : decode cX11_readStatement 30 = .ok (.aload_n 0, 1) := by decide +kernel
theorem dX11_readStatement_31 : decode cX11_readStatement 31 = .ok (.ldc_w 367, 3) := by decide +kernel
theorem dX11_readStatement_34 : decode cX11_readStatement 34 = .ok (.invokevirtual 312, 3) := by decide +kernel
theorem dX11_readStatement_37 : decode cX11_readStatement 37 = .ok (.ifCond .eq 8, 3) := by decide +kernel
theorem dX11_readStatement_40 : decode cX11_readStatement 40 = .ok (.aload_n 0, 1) := by decide +kernel
theorem dX11_readStatement_41 : decode cX11_readStatement 41 = .ok (.invokevirtual 369, 3) := by decide +kernel
theorem dX11_readStatement_44 : decode cX11_readStatement 44 = .ok (.ireturn, 1) := by decide +kernel
theorem dX11_readStatement_45 : decode cX11_readStatement 45 = .ok (.aload_n 0, 1) := by decide +kernel
theorem dX11_readStatement_46 : decode cX11_readStatement 46 = .ok (.ldc_w 372, 3) := by decide +kernel
theorem dX11_readStatement_49 : decode cX11_readStatement 49 = .ok (.invokevirtual 312, 3) := by decide +kernel
theorem dX11_readStatement_52 : decode cX11_readStatement 52 = .ok (.ifCond .eq 10, 3) := by decide +kernel
theorem dX11_readStatement_55 : decode cX11_readStatement 55 = .ok (.aload_n 0, 1) := by decide +kernel
theorem dX11_readStatement_56 : decode cX11_readStatement 56 = .ok (.invokevirtual 374, 3) := by decide +kernel
theorem dX11_readStatement_59 : decode cX11_readStatement 59 = .ok (.goto 8, 3) := by decide +kernel
theorem dX11_readStatement_62 : decode cX11_readStatement 62 = .ok (.aload_n 0, 1) := by decide +kernel
theorem dX11_readStatement_63 : decode cX11_readStatement 63 = .ok (.iconst 1, 1) := by decide +kernel
theorem dX11_readStatement_64 : decode cX11_readStatement 64 = .ok (.invokevirtual 292, 3) := by decide +kernel
theorem dX11_readStatement_67 : decode cX11_readStatement 67 = .ok (.ireturn, 1) := by decide +kernel
theorem dX11_readText_0 : decode cX11_readText 0 = .ok (.aload_n 0, 1) := by decide +kernel
theorem dX11_readText_1 : decode cX11_readText 1 = .ok (.getfield 271, 3) := by decide +kernel
theorem dX11_readText_4 : decode cX11_readText 4 = .ok (.ifCond .eq 33, 3) := by decide +kernel
theorem dX11_readText_7 : decode cX11_readText 7 = .ok (.aload_n 0, 1) := by decide +kernel
theorem dX11_readText_8 : decode cX11_readText 8 = .ok (.invokevirtual 377, 3) := by decide +kernel
theorem dX11_readText_11 : decode cX11_readText 11 = .ok (.ifCond .ne 5, 3) := by decide +kernel
theorem dX11_readText_14 : decode cX11_readText 14 = .ok (.iconst 0, 1) := by decide +kernel
theorem dX11_readText_15 : decode cX11_readText 15 = .ok (.ireturn, 1) := by decide +kernel
theorem dX11_readText_16 : decode cX11_readText 16 = .ok (.aload_n 0, 1) := by decide +kernel
theorem dX11_readText_17 : decode cX11_readText 17 = .ok (.getfield 271, 3) := by decide +kernel
theorem dX11_readText_20 : decode cX11_readText 20 = .ok (.iconst 3, 1) := by decide +kernel
theorem dX11_readText_21 : decode cX11_readText 21 = .ok (.if_icmp .eq 9, 3) := by decide +kernel
theorem dX11_readText_24 : decode cX11_readText 24 = .ok (.aload_n 0, 1) := by decide +kernel
theorem dX11_readText_25 : decode cX11_readText 25 = .ok (.iconst 1, 1) := by decide +kernel
theorem dX11_readText_26 : decode cX11_readText 26 = .ok (.invokevirtual 292, 3) := by decide +kernel
theorem dX11_readText_29 : decode cX11_readText 29 = .ok (.ireturn, 1) := by decide +kernel
theorem dX11_readText_30 : decode cX11_readText 30 = .ok (.aload_n 0, 1) := by decide +kernel
theorem dX11_readText_31 : decode cX11_readText 31 = .ok (.invokevirtual 301, 3) := by decide +kernel
theorem dX11_readText_34 : decode cX11_readText 34 = .ok (.goto (-34), 3) := by decide +kernel
theorem dX11_readText_37 : decode cX11_readText 37 = .ok (.aload_n 0, 1) := by decide +kernel
theorem dX11_readText_38 : decode cX11_readText 38 = .ok (.getfield 7, 3) := by decide +kernel
theorem dX11_readText_41 : decode cX11_readText 41 = .ok (.iconst 0, 1) := by decide +kernel
theorem dX11_readText_42 : decode cX11_readText 42 = .ok (.iaload, 1) := by decide +kernel
theorem dX11_readText_43 : decode cX11_readText 43 = .ok (.ifCond .gt 11, 3) := by decide +kernel
theorem dX11_readText_46 : decode cX11_readText 46 = .ok (.aload_n 0, 1) := by decide +kernel
theorem dX11_readText_47 : decode cX11_readText 47 = .ok (.iconst 1, 1) := by decide +kernel
theorem dX11_readText_48 : decode cX11_readText 48 = .ok (.invokevirtual 292, 3) := by decide +kernel
theorem dX11_readText_51 : decode cX11_readText 51 = .ok (.ifCond .eq 7, 3) := by decide +kernel
theorem dX11_readText_54 : decode cX11_readText 54 = .ok (.iconst 1, 1) := by decide +kernel
theorem dX11_readText_55 : decode cX11_readText 55 = .ok (.goto 4, 3) := by decide +kernel
theorem dX11_readText_58 : decode cX11_readText 58 = .ok (.iconst 0, 1) := by decide +kernel
theorem dX11_readText_59 : decode cX11_readText 59 = .ok (.ireturn, 1) := by decide +kernel
theorem dX11_loadHeaps_0 : decode cX11_loadHeaps 0 = .ok (.aload_n 0, 1) := by decide +kernel
theorem dX11_loadHeaps_1 : decode cX11_loadHeaps 1 = .ok (.iconst 0, 1) := by decide +kernel
theorem dX11_loadHeaps_2 : decode cX11_loadHeaps 2 = .ok (.putfield 67, 3) := by decide +kernel
theorem dX11_loadHeaps_5 : decode cX11_loadHeaps 5 = .ok (.aload_n 0, 1) := by decide +kernel
theorem dX11_loadHeaps_6 : decode cX11_loadHeaps 6 = .ok (.getfield 7, 3) := by decide +kernel
theorem dX11_loadHeaps_9 : decode cX11_loadHeaps 9 = .ok (.iconst 0, 1) := by decide +kernel
theorem dX11_loadHeaps_10 : decode cX11_loadHeaps 10 = .ok (.aload_n 0, 1) := by decide +kernel
theorem dX11_loadHeaps_11 : decode cX11_loadHeaps 11 = .ok (.getfield 13, 3) := by decide +kernel
theorem dX11_loadHeaps_14 : decode cX11_loadHeaps 14 = .ok (.iconst 0, 1) := by decide +kernel
theorem dX11_loadHeaps_15 : decode cX11_loadHeaps 15 = .ok (.invokestatic 73, 3) := by decide +kernel
theorem dX11_loadHeaps_18 : decode cX11_loadHeaps 18 = .ok (.aload_n 0, 1) := by decide +kernel
theorem dX11_loadHeaps_19 : decode cX11_loadHeaps 19 = .ok (.invokevirtual 57, 3) := by decide +kernel
theorem dX11_loadHeaps_22 : decode cX11_loadHeaps 22 = .ok (.aload_n 0, 1) := by decide +kernel
theorem dX11_loadHeaps_23 : decode cX11_loadHeaps 23 = .ok (.iconst 0, 1) := by decide +kernel
theorem dX11_loadHeaps_24 : decode cX11_loadHeaps 24 = .ok (.putfield 277, 3) := by decide +kernel
theorem dX11_loadHeaps_27 : decode cX11_loadHeaps 27 = .ok (.aload_n 0, 1) := by decide +kernel
theorem dX11_loadHeaps_28 : decode cX11_loadHeaps 28 = .ok (.iconst (-1), 1) := by decide +kernel
theorem dX11_loadHeaps_29 : decode cX11_loadHeaps 29 = .ok (.putfield 280, 3) := by decide +kernel
theorem dX11_loadHeaps_32 : decode cX11_loadHeaps 32 = .ok (.aload_n 0, 1) := by decide +kernel
theorem dX11_loadHeaps_33 : decode cX11_loadHeaps 33 = .ok (.iconst 0, 1) := by decide +kernel
theorem dX11_loadHeaps_34 : decode cX11_loadHeaps 34 = .ok (.putfield 262, 3) := by decide +kernel
theorem dX11_loadHeaps_37 : decode cX11_loadHeaps 37 = .ok (.aload_n 0, 1) := by decide +kernel
theorem dX11_loadHeaps_38 : decode cX11_loadHeaps 38 = .ok (.iconst 0, 1) := by decide +kernel
theorem dX11_loadHeaps_39 : decode cX11_loadHeaps 39 = .ok (.putfield 353, 3) := by decide +kernel
theorem dX11_loadHeaps_42 : decode cX11_loadHeaps 42 = .ok (.aload_n 0, 1) := by decide +kernel
theorem dX11_loadHeaps_43 : decode cX11_loadHeaps 43 = .ok (.invokevirtual 301, 3) := by decide +kernel
theorem dX11_loadHeaps_46 : decode cX11_loadHeaps 46 = .ok (.aload_n 0, 1) := by decide +kernel
theorem dX11_loadHeaps_47 : decode cX11_loadHeaps 47 = .ok (.invokevirtual 380, 3) := by decide +kernel
theorem dX11_loadHeaps_50 : decode cX11_loadHeaps 50 = .ok (.istore_n 1, 1) := by decide +kernel
theorem dX11_loadHeaps_51 : decode cX11_loadHeaps 51 = .ok (.aload_n 0, 1) := by decide +kernel
theorem dX11_loadHeaps_52 : decode cX11_loadHeaps 52 = .ok (.iconst 0, 1) := by decide +kernel
theorem dX11_loadHeaps_53 : decode cX11_loadHeaps 53 = .ok (.putfield 253, 3) := by decide +kernel
theorem dX11_loadHeaps_56 : decode cX11_loadHeaps 56 = .ok (.aload_n 0, 1) := by decide +kernel
theorem dX11_loadHeaps_57 : decode cX11_loadHeaps 57 = .ok (.aload_n 0, 1) := by decide +kernel
theorem dX11_loadHeaps_58 : decode cX11_loadHeaps 58 = .ok (.getfield 277, 3) := by decide +kernel
theorem dX11_loadHeaps_61 : decode cX11_loadHeaps 61 = .ok (.putfield 383, 3) := by decide +kernel
theorem dX11_loadHeaps_64 : decode cX11_loadHeaps 64 = .ok (.aload_n 0, 1) := by decide +kernel
theorem dX11_loadHeaps_65 : decode cX11_loadHeaps 65 = .ok (.aload_n 0, 1) := by decide +kernel
theorem dX11_loadHeaps_66 : decode cX11_loadHeaps 66 = .ok (.getfield 280, 3) := by decide +kernel
theorem dX11_loadHeaps_69 : decode cX11_loadHeaps 69 = .ok (.putfield 50, 3) := by decide +kernel
theorem dX11_loadHeaps_72 : decode cX11_loadHeaps 72 = .ok (.iload_n 1, 1) := by decide +kernel
theorem dX11_loadHeaps_73 : decode cX11_loadHeaps 73 = .ok (.ifCond .ne 18, 3) := by decide +kernel
theorem dX11_loadHeaps_76 : decode cX11_loadHeaps 76 = .ok (.aload_n 0, 1) := by decide +kernel
theorem dX11_loadHeaps_77 : decode cX11_loadHeaps 77 = .ok (.getfield 13, 3) := by decide +kernel
theorem dX11_loadHeaps_80 : decode cX11_loadHeaps 80 = .ok (.iconst 0, 1) := by decide +kernel
theorem dX11_loadHeaps_81 : decode cX11_loadHeaps 81 = .ok (.aload_n 0, 1) := by decide +kernel
theorem dX11_loadHeaps_82 : decode cX11_loadHeaps 82 = .ok (.getfield 7, 3) := by decide +kernel
theorem dX11_loadHeaps_85 : decode cX11_loadHeaps 85 = .ok (.iconst 0, 1) := by decide +kernel
theorem dX11_loadHeaps_86 : decode cX11_loadHeaps 86 = .ok (.invokestatic 73, 3) := by decide +kernel
theorem dX11_loadHeaps_89 : decode cX11_loadHeaps 89 = .ok (.iconst (-1), 1) := by decide +kernel
theorem dX11_loadHeaps_90 : decode cX11_loadHeaps 90 = .ok (.ireturn, 1) := by decide +kernel
theorem dX11_loadHeaps_91 : decode cX11_loadHeaps 91 = .ok (.aload_n 0, 1) := by decide +kernel
theorem dX11_loadHeaps_92 : decode cX11_loadHeaps 92 = .ok (.iconst 0, 1) := by decide +kernel
theorem dX11_loadHeaps_93 : decode cX11_loadHeaps 93 = .ok (.putfield 70, 3) := by decide +kernel
theorem dX11_loadHeaps_96 : decode cX11_loadHeaps 96 = .ok (.aload_n 0, 1) := by decide +kernel
theorem dX11_loadHeaps_97 : decode cX11_loadHeaps 97 = .ok (.iconst 0, 1) := by decide +kernel
theorem dX11_loadHeaps_98 : decode cX11_loadHeaps 98 = .ok (.putfield 386, 3) := by decide +kernel
theorem dX11_loadHeaps_101 : decode cX11_loadHeaps 101 = .ok (.aload_n 0, 1) := by decide +kernel
theorem dX11_loadHeaps_102 : decode cX11_loadHeaps 102 = .ok (.invokevirtual 179, 3) := by decide +kernel
theorem dX11_loadHeaps_105 : decode cX11_loadHeaps 105 = .ok (.ireturn, 1) := by decide +kernel
